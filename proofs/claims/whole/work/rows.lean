section
-- ===== PART A: goes FIRST, ahead of the names: the tables' words, and 'selects' of the private methods out of them =====
/-- a private method of a class that the tables say can be made, by its rows of tables_1 -/
def lw_okq (q : MethodName × Nat) : Prop := (q.1.cls ≠ "java/lang/invoke/MethodHandle" ∧ q.1.cls ≠ "java/lang/invoke/VarHandle") ∧ Cond.instantiable q.1.cls q.2 ∈ tables_1 ∧ Cond.privateMethod q.1 ∈ tables_1 ∧ Cond.instanceMethod q.1 ∈ tables_1
theorem lw_p0 : lw_okq (⟨"TraverseBoard", "pointInBuffer", "()I"⟩, 12) := ⟨⟨by decide +kernel, by decide +kernel⟩, List.mem_of_getElem? (i := 9) (by decide +kernel), List.mem_of_getElem? (i := 73) (by decide +kernel), List.mem_of_getElem? (i := 74) (by decide +kernel)⟩
theorem lw_p1 : lw_okq (⟨"TraverseBoard", "agreement", "(I)I"⟩, 12) := ⟨⟨by decide +kernel, by decide +kernel⟩, List.mem_of_getElem? (i := 9) (by decide +kernel), List.mem_of_getElem? (i := 77) (by decide +kernel), List.mem_of_getElem? (i := 78) (by decide +kernel)⟩
theorem lw_p2 : lw_okq (⟨"TraverseBoard", "blankEnds", "(I)Z"⟩, 12) := ⟨⟨by decide +kernel, by decide +kernel⟩, List.mem_of_getElem? (i := 9) (by decide +kernel), List.mem_of_getElem? (i := 81) (by decide +kernel), List.mem_of_getElem? (i := 82) (by decide +kernel)⟩
theorem lw_p3 : lw_okq (⟨"TraverseBoard", "speedEnd", "(I)I"⟩, 12) := ⟨⟨by decide +kernel, by decide +kernel⟩, List.mem_of_getElem? (i := 9) (by decide +kernel), List.mem_of_getElem? (i := 126) (by decide +kernel), List.mem_of_getElem? (i := 127) (by decide +kernel)⟩
theorem lw_p4 : lw_okq (⟨"TraverseBoard", "digitAllowed", "(II)Z"⟩, 12) := ⟨⟨by decide +kernel, by decide +kernel⟩, List.mem_of_getElem? (i := 9) (by decide +kernel), List.mem_of_getElem? (i := 130) (by decide +kernel), List.mem_of_getElem? (i := 131) (by decide +kernel)⟩
theorem lw_p5 : lw_okq (⟨"TraverseBoard", "digitEnds", "(I)Z"⟩, 12) := ⟨⟨by decide +kernel, by decide +kernel⟩, List.mem_of_getElem? (i := 9) (by decide +kernel), List.mem_of_getElem? (i := 134) (by decide +kernel), List.mem_of_getElem? (i := 135) (by decide +kernel)⟩
theorem lw_p6 : lw_okq (⟨"TraverseBoard", "number", "(II)I"⟩, 12) := ⟨⟨by decide +kernel, by decide +kernel⟩, List.mem_of_getElem? (i := 9) (by decide +kernel), List.mem_of_getElem? (i := 138) (by decide +kernel), List.mem_of_getElem? (i := 139) (by decide +kernel)⟩
theorem lw_p7 : lw_okq (⟨"TraverseBoard", "putBehindLast", "(II)I"⟩, 12) := ⟨⟨by decide +kernel, by decide +kernel⟩, List.mem_of_getElem? (i := 9) (by decide +kernel), List.mem_of_getElem? (i := 149) (by decide +kernel), List.mem_of_getElem? (i := 150) (by decide +kernel)⟩
theorem lw_p8 : lw_okq (⟨"TraverseBoard", "put", "(III)V"⟩, 12) := ⟨⟨by decide +kernel, by decide +kernel⟩, List.mem_of_getElem? (i := 9) (by decide +kernel), List.mem_of_getElem? (i := 153) (by decide +kernel), List.mem_of_getElem? (i := 154) (by decide +kernel)⟩
theorem lw_p9 : lw_okq (⟨"TraverseBoard", "pegExists", "(I)Z"⟩, 12) := ⟨⟨by decide +kernel, by decide +kernel⟩, List.mem_of_getElem? (i := 9) (by decide +kernel), List.mem_of_getElem? (i := 171) (by decide +kernel), List.mem_of_getElem? (i := 172) (by decide +kernel)⟩
theorem lw_p10 : lw_okq (⟨"TraverseBoard", "lostCount", "(II)I"⟩, 12) := ⟨⟨by decide +kernel, by decide +kernel⟩, List.mem_of_getElem? (i := 9) (by decide +kernel), List.mem_of_getElem? (i := 186) (by decide +kernel), List.mem_of_getElem? (i := 187) (by decide +kernel)⟩
theorem lw_p11 : lw_okq (⟨"TraverseBoard", "fixCanStand", "(I)Z"⟩, 12) := ⟨⟨by decide +kernel, by decide +kernel⟩, List.mem_of_getElem? (i := 9) (by decide +kernel), List.mem_of_getElem? (i := 218) (by decide +kernel), List.mem_of_getElem? (i := 219) (by decide +kernel)⟩
theorem lw_p12 : lw_okq (⟨"TraverseBoard", "fixCount", "()I"⟩, 12) := ⟨⟨by decide +kernel, by decide +kernel⟩, List.mem_of_getElem? (i := 9) (by decide +kernel), List.mem_of_getElem? (i := 228) (by decide +kernel), List.mem_of_getElem? (i := 229) (by decide +kernel)⟩
theorem lw_p13 : lw_okq (⟨"TraverseBoard", "momentExists", "(I)Z"⟩, 12) := ⟨⟨by decide +kernel, by decide +kernel⟩, List.mem_of_getElem? (i := 9) (by decide +kernel), List.mem_of_getElem? (i := 240) (by decide +kernel), List.mem_of_getElem? (i := 241) (by decide +kernel)⟩
theorem lw_p14 : lw_okq (⟨"TraverseBoard", "reckoned", "(II)J"⟩, 12) := ⟨⟨by decide +kernel, by decide +kernel⟩, List.mem_of_getElem? (i := 9) (by decide +kernel), List.mem_of_getElem? (i := 244) (by decide +kernel), List.mem_of_getElem? (i := 245) (by decide +kernel)⟩
theorem lw_p15 : lw_okq (⟨"TraverseBoard", "lastFix", "(I)I"⟩, 12) := ⟨⟨by decide +kernel, by decide +kernel⟩, List.mem_of_getElem? (i := 9) (by decide +kernel), List.mem_of_getElem? (i := 248) (by decide +kernel), List.mem_of_getElem? (i := 249) (by decide +kernel)⟩
def lw_privs_1 : List (MethodName × Nat) := [(⟨"TraverseBoard", "pointInBuffer", "()I"⟩, 12), (⟨"TraverseBoard", "agreement", "(I)I"⟩, 12), (⟨"TraverseBoard", "blankEnds", "(I)Z"⟩, 12), (⟨"TraverseBoard", "speedEnd", "(I)I"⟩, 12), (⟨"TraverseBoard", "digitAllowed", "(II)Z"⟩, 12), (⟨"TraverseBoard", "digitEnds", "(I)Z"⟩, 12), (⟨"TraverseBoard", "number", "(II)I"⟩, 12), (⟨"TraverseBoard", "putBehindLast", "(II)I"⟩, 12), (⟨"TraverseBoard", "put", "(III)V"⟩, 12), (⟨"TraverseBoard", "pegExists", "(I)Z"⟩, 12), (⟨"TraverseBoard", "lostCount", "(II)I"⟩, 12), (⟨"TraverseBoard", "fixCanStand", "(I)Z"⟩, 12), (⟨"TraverseBoard", "fixCount", "()I"⟩, 12), (⟨"TraverseBoard", "momentExists", "(I)Z"⟩, 12), (⟨"TraverseBoard", "reckoned", "(II)J"⟩, 12), (⟨"TraverseBoard", "lastFix", "(I)I"⟩, 12)]
theorem lw_r1 : ∀ q ∈ lw_privs_1, lw_okq q := List.forall_mem_cons.mpr ⟨lw_p0, List.forall_mem_cons.mpr ⟨lw_p1, List.forall_mem_cons.mpr ⟨lw_p2, List.forall_mem_cons.mpr ⟨lw_p3, List.forall_mem_cons.mpr ⟨lw_p4, List.forall_mem_cons.mpr ⟨lw_p5, List.forall_mem_cons.mpr ⟨lw_p6, List.forall_mem_cons.mpr ⟨lw_p7, List.forall_mem_cons.mpr ⟨lw_p8, List.forall_mem_cons.mpr ⟨lw_p9, List.forall_mem_cons.mpr ⟨lw_p10, List.forall_mem_cons.mpr ⟨lw_p11, List.forall_mem_cons.mpr ⟨lw_p12, List.forall_mem_cons.mpr ⟨lw_p13, List.forall_mem_cons.mpr ⟨lw_p14, List.forall_mem_cons.mpr ⟨lw_p15, fun _ h => absurd h List.not_mem_nil⟩⟩⟩⟩⟩⟩⟩⟩⟩⟩⟩⟩⟩⟩⟩⟩
theorem lw_p16 : lw_okq (⟨"TraverseBoard", "fix", "(II)I"⟩, 12) := ⟨⟨by decide +kernel, by decide +kernel⟩, List.mem_of_getElem? (i := 9) (by decide +kernel), List.mem_of_getElem? (i := 252) (by decide +kernel), List.mem_of_getElem? (i := 253) (by decide +kernel)⟩
theorem lw_p17 : lw_okq (⟨"TraverseBoard", "legs", "(III)J"⟩, 12) := ⟨⟨by decide +kernel, by decide +kernel⟩, List.mem_of_getElem? (i := 9) (by decide +kernel), List.mem_of_getElem? (i := 256) (by decide +kernel), List.mem_of_getElem? (i := 257) (by decide +kernel)⟩
theorem lw_p18 : lw_okq (⟨"TraverseBoard", "corrected", "(II)J"⟩, 12) := ⟨⟨by decide +kernel, by decide +kernel⟩, List.mem_of_getElem? (i := 9) (by decide +kernel), List.mem_of_getElem? (i := 276) (by decide +kernel), List.mem_of_getElem? (i := 277) (by decide +kernel)⟩
theorem lw_p19 : lw_okq (⟨"TraverseBoard", "firstFixAfter", "(I)I"⟩, 12) := ⟨⟨by decide +kernel, by decide +kernel⟩, List.mem_of_getElem? (i := 9) (by decide +kernel), List.mem_of_getElem? (i := 280) (by decide +kernel), List.mem_of_getElem? (i := 281) (by decide +kernel)⟩
theorem lw_p20 : lw_okq (⟨"TraverseBoard", "error", "(III)J"⟩, 12) := ⟨⟨by decide +kernel, by decide +kernel⟩, List.mem_of_getElem? (i := 9) (by decide +kernel), List.mem_of_getElem? (i := 284) (by decide +kernel), List.mem_of_getElem? (i := 285) (by decide +kernel)⟩
theorem lw_p21 : lw_okq (⟨"TraverseBoard", "difference", "(III)J"⟩, 12) := ⟨⟨by decide +kernel, by decide +kernel⟩, List.mem_of_getElem? (i := 9) (by decide +kernel), List.mem_of_getElem? (i := 299) (by decide +kernel), List.mem_of_getElem? (i := 300) (by decide +kernel)⟩
theorem lw_p22 : lw_okq (⟨"TraverseBoard", "mixPegs", "(J)J"⟩, 12) := ⟨⟨by decide +kernel, by decide +kernel⟩, List.mem_of_getElem? (i := 9) (by decide +kernel), List.mem_of_getElem? (i := 339) (by decide +kernel), List.mem_of_getElem? (i := 340) (by decide +kernel)⟩
theorem lw_p23 : lw_okq (⟨"TraverseBoard", "mixMoments", "(J)J"⟩, 12) := ⟨⟨by decide +kernel, by decide +kernel⟩, List.mem_of_getElem? (i := 9) (by decide +kernel), List.mem_of_getElem? (i := 345) (by decide +kernel), List.mem_of_getElem? (i := 346) (by decide +kernel)⟩
theorem lw_p24 : lw_okq (⟨"TraverseBoard", "firstLost", "()I"⟩, 12) := ⟨⟨by decide +kernel, by decide +kernel⟩, List.mem_of_getElem? (i := 9) (by decide +kernel), List.mem_of_getElem? (i := 351) (by decide +kernel), List.mem_of_getElem? (i := 352) (by decide +kernel)⟩
theorem lw_p25 : lw_okq (⟨"TraverseBoard", "mixBuffer", "(J)J"⟩, 12) := ⟨⟨by decide +kernel, by decide +kernel⟩, List.mem_of_getElem? (i := 9) (by decide +kernel), List.mem_of_getElem? (i := 356) (by decide +kernel), List.mem_of_getElem? (i := 357) (by decide +kernel)⟩
theorem lw_p26 : lw_okq (⟨"TraverseBoardModel", "parse", "()V"⟩, 17) := ⟨⟨by decide +kernel, by decide +kernel⟩, List.mem_of_getElem? (i := 360) (by decide +kernel), List.mem_of_getElem? (i := 436) (by decide +kernel), List.mem_of_getElem? (i := 437) (by decide +kernel)⟩
theorem lw_p27 : lw_okq (⟨"TraverseBoardModel", "isBeginning", "(I)Z"⟩, 17) := ⟨⟨by decide +kernel, by decide +kernel⟩, List.mem_of_getElem? (i := 360) (by decide +kernel), List.mem_of_getElem? (i := 440) (by decide +kernel), List.mem_of_getElem? (i := 441) (by decide +kernel)⟩
theorem lw_p28 : lw_okq (⟨"TraverseBoardModel", "nameOf", "(I)I"⟩, 17) := ⟨⟨by decide +kernel, by decide +kernel⟩, List.mem_of_getElem? (i := 360) (by decide +kernel), List.mem_of_getElem? (i := 453) (by decide +kernel), List.mem_of_getElem? (i := 454) (by decide +kernel)⟩
theorem lw_p29 : lw_okq (⟨"TraverseBoardModel", "pointBy", "(I)I"⟩, 17) := ⟨⟨by decide +kernel, by decide +kernel⟩, List.mem_of_getElem? (i := 360) (by decide +kernel), List.mem_of_getElem? (i := 457) (by decide +kernel), List.mem_of_getElem? (i := 458) (by decide +kernel)⟩
theorem lw_p30 : lw_okq (⟨"TraverseBoardModel", "addPeg", "(II)I"⟩, 17) := ⟨⟨by decide +kernel, by decide +kernel⟩, List.mem_of_getElem? (i := 360) (by decide +kernel), List.mem_of_getElem? (i := 466) (by decide +kernel), List.mem_of_getElem? (i := 467) (by decide +kernel)⟩
theorem lw_p31 : lw_okq (⟨"TraverseBoardModel", "isPegNumber", "(I)Z"⟩, 17) := ⟨⟨by decide +kernel, by decide +kernel⟩, List.mem_of_getElem? (i := 360) (by decide +kernel), List.mem_of_getElem? (i := 481) (by decide +kernel), List.mem_of_getElem? (i := 482) (by decide +kernel)⟩
def lw_privs_2 : List (MethodName × Nat) := [(⟨"TraverseBoard", "fix", "(II)I"⟩, 12), (⟨"TraverseBoard", "legs", "(III)J"⟩, 12), (⟨"TraverseBoard", "corrected", "(II)J"⟩, 12), (⟨"TraverseBoard", "firstFixAfter", "(I)I"⟩, 12), (⟨"TraverseBoard", "error", "(III)J"⟩, 12), (⟨"TraverseBoard", "difference", "(III)J"⟩, 12), (⟨"TraverseBoard", "mixPegs", "(J)J"⟩, 12), (⟨"TraverseBoard", "mixMoments", "(J)J"⟩, 12), (⟨"TraverseBoard", "firstLost", "()I"⟩, 12), (⟨"TraverseBoard", "mixBuffer", "(J)J"⟩, 12), (⟨"TraverseBoardModel", "parse", "()V"⟩, 17), (⟨"TraverseBoardModel", "isBeginning", "(I)Z"⟩, 17), (⟨"TraverseBoardModel", "nameOf", "(I)I"⟩, 17), (⟨"TraverseBoardModel", "pointBy", "(I)I"⟩, 17), (⟨"TraverseBoardModel", "addPeg", "(II)I"⟩, 17), (⟨"TraverseBoardModel", "isPegNumber", "(I)Z"⟩, 17)]
theorem lw_r2 : ∀ q ∈ lw_privs_2, lw_okq q := List.forall_mem_cons.mpr ⟨lw_p16, List.forall_mem_cons.mpr ⟨lw_p17, List.forall_mem_cons.mpr ⟨lw_p18, List.forall_mem_cons.mpr ⟨lw_p19, List.forall_mem_cons.mpr ⟨lw_p20, List.forall_mem_cons.mpr ⟨lw_p21, List.forall_mem_cons.mpr ⟨lw_p22, List.forall_mem_cons.mpr ⟨lw_p23, List.forall_mem_cons.mpr ⟨lw_p24, List.forall_mem_cons.mpr ⟨lw_p25, List.forall_mem_cons.mpr ⟨lw_p26, List.forall_mem_cons.mpr ⟨lw_p27, List.forall_mem_cons.mpr ⟨lw_p28, List.forall_mem_cons.mpr ⟨lw_p29, List.forall_mem_cons.mpr ⟨lw_p30, List.forall_mem_cons.mpr ⟨lw_p31, fun _ h => absurd h List.not_mem_nil⟩⟩⟩⟩⟩⟩⟩⟩⟩⟩⟩⟩⟩⟩⟩⟩
theorem lw_p32 : lw_okq (⟨"TraverseBoardModel", "lostMany", "()I"⟩, 17) := ⟨⟨by decide +kernel, by decide +kernel⟩, List.mem_of_getElem? (i := 360) (by decide +kernel), List.mem_of_getElem? (i := 496) (by decide +kernel), List.mem_of_getElem? (i := 497) (by decide +kernel)⟩
theorem lw_p33 : lw_okq (⟨"TraverseBoardModel", "pointNow", "(I)J"⟩, 17) := ⟨⟨by decide +kernel, by decide +kernel⟩, List.mem_of_getElem? (i := 360) (by decide +kernel), List.mem_of_getElem? (i := 516) (by decide +kernel), List.mem_of_getElem? (i := 517) (by decide +kernel)⟩
theorem lw_p34 : lw_okq (⟨"TraverseBoardModel", "speedNow", "(I)J"⟩, 17) := ⟨⟨by decide +kernel, by decide +kernel⟩, List.mem_of_getElem? (i := 360) (by decide +kernel), List.mem_of_getElem? (i := 524) (by decide +kernel), List.mem_of_getElem? (i := 525) (by decide +kernel)⟩
theorem lw_p35 : lw_okq (⟨"TraverseBoardModel", "fixMany", "()I"⟩, 17) := ⟨⟨by decide +kernel, by decide +kernel⟩, List.mem_of_getElem? (i := 360) (by decide +kernel), List.mem_of_getElem? (i := 539) (by decide +kernel), List.mem_of_getElem? (i := 540) (by decide +kernel)⟩
theorem lw_p36 : lw_okq (⟨"TraverseBoardModel", "isMoment", "(I)Z"⟩, 17) := ⟨⟨by decide +kernel, by decide +kernel⟩, List.mem_of_getElem? (i := 360) (by decide +kernel), List.mem_of_getElem? (i := 551) (by decide +kernel), List.mem_of_getElem? (i := 552) (by decide +kernel)⟩
theorem lw_p37 : lw_okq (⟨"TraverseBoardModel", "reckoned", "(II)J"⟩, 17) := ⟨⟨by decide +kernel, by decide +kernel⟩, List.mem_of_getElem? (i := 360) (by decide +kernel), List.mem_of_getElem? (i := 555) (by decide +kernel), List.mem_of_getElem? (i := 556) (by decide +kernel)⟩
theorem lw_p38 : lw_okq (⟨"TraverseBoardModel", "fixAt", "(I)I"⟩, 17) := ⟨⟨by decide +kernel, by decide +kernel⟩, List.mem_of_getElem? (i := 360) (by decide +kernel), List.mem_of_getElem? (i := 559) (by decide +kernel), List.mem_of_getElem? (i := 560) (by decide +kernel)⟩
theorem lw_p39 : lw_okq (⟨"TraverseBoardModel", "gone", "(III)J"⟩, 17) := ⟨⟨by decide +kernel, by decide +kernel⟩, List.mem_of_getElem? (i := 360) (by decide +kernel), List.mem_of_getElem? (i := 563) (by decide +kernel), List.mem_of_getElem? (i := 564) (by decide +kernel)⟩
theorem lw_p40 : lw_okq (⟨"TraverseBoardModel", "fixed", "(II)J"⟩, 17) := ⟨⟨by decide +kernel, by decide +kernel⟩, List.mem_of_getElem? (i := 360) (by decide +kernel), List.mem_of_getElem? (i := 567) (by decide +kernel), List.mem_of_getElem? (i := 568) (by decide +kernel)⟩
theorem lw_p41 : lw_okq (⟨"TraverseBoardModel", "leg", "(II)J"⟩, 17) := ⟨⟨by decide +kernel, by decide +kernel⟩, List.mem_of_getElem? (i := 360) (by decide +kernel), List.mem_of_getElem? (i := 571) (by decide +kernel), List.mem_of_getElem? (i := 572) (by decide +kernel)⟩
theorem lw_p42 : lw_okq (⟨"TraverseBoardModel", "corrected", "(II)J"⟩, 17) := ⟨⟨by decide +kernel, by decide +kernel⟩, List.mem_of_getElem? (i := 360) (by decide +kernel), List.mem_of_getElem? (i := 592) (by decide +kernel), List.mem_of_getElem? (i := 593) (by decide +kernel)⟩
theorem lw_p43 : lw_okq (⟨"TraverseBoardModel", "fixBehind", "(I)I"⟩, 17) := ⟨⟨by decide +kernel, by decide +kernel⟩, List.mem_of_getElem? (i := 360) (by decide +kernel), List.mem_of_getElem? (i := 596) (by decide +kernel), List.mem_of_getElem? (i := 597) (by decide +kernel)⟩
theorem lw_p44 : lw_okq (⟨"TraverseBoardModel", "distanceNow", "(II)J"⟩, 17) := ⟨⟨by decide +kernel, by decide +kernel⟩, List.mem_of_getElem? (i := 360) (by decide +kernel), List.mem_of_getElem? (i := 611) (by decide +kernel), List.mem_of_getElem? (i := 612) (by decide +kernel)⟩
theorem lw_p45 : lw_okq (⟨"TraverseBoardModel", "bearingNow", "(II)J"⟩, 17) := ⟨⟨by decide +kernel, by decide +kernel⟩, List.mem_of_getElem? (i := 360) (by decide +kernel), List.mem_of_getElem? (i := 621) (by decide +kernel), List.mem_of_getElem? (i := 622) (by decide +kernel)⟩
theorem lw_p46 : lw_okq (⟨"TraverseBoardModel", "lostNow", "(I)J"⟩, 17) := ⟨⟨by decide +kernel, by decide +kernel⟩, List.mem_of_getElem? (i := 360) (by decide +kernel), List.mem_of_getElem? (i := 629) (by decide +kernel), List.mem_of_getElem? (i := 630) (by decide +kernel)⟩
theorem lw_p47 : lw_okq (⟨"TraverseBoardModel", "isOtherLost", "(III)Z"⟩, 17) := ⟨⟨by decide +kernel, by decide +kernel⟩, List.mem_of_getElem? (i := 360) (by decide +kernel), List.mem_of_getElem? (i := 633) (by decide +kernel), List.mem_of_getElem? (i := 634) (by decide +kernel)⟩
def lw_privs_3 : List (MethodName × Nat) := [(⟨"TraverseBoardModel", "lostMany", "()I"⟩, 17), (⟨"TraverseBoardModel", "pointNow", "(I)J"⟩, 17), (⟨"TraverseBoardModel", "speedNow", "(I)J"⟩, 17), (⟨"TraverseBoardModel", "fixMany", "()I"⟩, 17), (⟨"TraverseBoardModel", "isMoment", "(I)Z"⟩, 17), (⟨"TraverseBoardModel", "reckoned", "(II)J"⟩, 17), (⟨"TraverseBoardModel", "fixAt", "(I)I"⟩, 17), (⟨"TraverseBoardModel", "gone", "(III)J"⟩, 17), (⟨"TraverseBoardModel", "fixed", "(II)J"⟩, 17), (⟨"TraverseBoardModel", "leg", "(II)J"⟩, 17), (⟨"TraverseBoardModel", "corrected", "(II)J"⟩, 17), (⟨"TraverseBoardModel", "fixBehind", "(I)I"⟩, 17), (⟨"TraverseBoardModel", "distanceNow", "(II)J"⟩, 17), (⟨"TraverseBoardModel", "bearingNow", "(II)J"⟩, 17), (⟨"TraverseBoardModel", "lostNow", "(I)J"⟩, 17), (⟨"TraverseBoardModel", "isOtherLost", "(III)Z"⟩, 17)]
theorem lw_r3 : ∀ q ∈ lw_privs_3, lw_okq q := List.forall_mem_cons.mpr ⟨lw_p32, List.forall_mem_cons.mpr ⟨lw_p33, List.forall_mem_cons.mpr ⟨lw_p34, List.forall_mem_cons.mpr ⟨lw_p35, List.forall_mem_cons.mpr ⟨lw_p36, List.forall_mem_cons.mpr ⟨lw_p37, List.forall_mem_cons.mpr ⟨lw_p38, List.forall_mem_cons.mpr ⟨lw_p39, List.forall_mem_cons.mpr ⟨lw_p40, List.forall_mem_cons.mpr ⟨lw_p41, List.forall_mem_cons.mpr ⟨lw_p42, List.forall_mem_cons.mpr ⟨lw_p43, List.forall_mem_cons.mpr ⟨lw_p44, List.forall_mem_cons.mpr ⟨lw_p45, List.forall_mem_cons.mpr ⟨lw_p46, List.forall_mem_cons.mpr ⟨lw_p47, fun _ h => absurd h List.not_mem_nil⟩⟩⟩⟩⟩⟩⟩⟩⟩⟩⟩⟩⟩⟩⟩⟩
theorem lw_p48 : lw_okq (⟨"TraverseBoardModel", "search", "(III)J"⟩, 17) := ⟨⟨by decide +kernel, by decide +kernel⟩, List.mem_of_getElem? (i := 360) (by decide +kernel), List.mem_of_getElem? (i := 637) (by decide +kernel), List.mem_of_getElem? (i := 638) (by decide +kernel)⟩
theorem lw_p49 : lw_okq (⟨"TraverseBoardModel", "mix", "(J)V"⟩, 17) := ⟨⟨by decide +kernel, by decide +kernel⟩, List.mem_of_getElem? (i := 360) (by decide +kernel), List.mem_of_getElem? (i := 648) (by decide +kernel), List.mem_of_getElem? (i := 649) (by decide +kernel)⟩
def lw_privs_4 : List (MethodName × Nat) := [(⟨"TraverseBoardModel", "search", "(III)J"⟩, 17), (⟨"TraverseBoardModel", "mix", "(J)V"⟩, 17)]
theorem lw_r4 : ∀ q ∈ lw_privs_4, lw_okq q := List.forall_mem_cons.mpr ⟨lw_p48, List.forall_mem_cons.mpr ⟨lw_p49, fun _ h => absurd h List.not_mem_nil⟩⟩
def lw_privs : List (MethodName × Nat) := lw_privs_1 ++ (lw_privs_2 ++ (lw_privs_3 ++ (lw_privs_4)))
def lw_tbl : List Cond := k2_sels lw_privs ++ tables_1
theorem lw_privs_ok : ∀ q ∈ lw_privs, lw_okq q := by
  show ∀ q ∈ lw_privs_1 ++ (lw_privs_2 ++ (lw_privs_3 ++ (lw_privs_4))), lw_okq q
  exact List.forall_mem_append.mpr ⟨lw_r1, List.forall_mem_append.mpr ⟨lw_r2, List.forall_mem_append.mpr ⟨lw_r3, lw_r4⟩⟩⟩

/-! ===== BEGIN words of one list among another's, by their places ===== -/
theorem goodIn_r {big : List Cond} (ws : List Cond) (ps : List Nat) (hp : ws = ps.filterMap (fun i => big[i]?)) (h : ws.all goodWord = true) : GoodIn big ws := by
  intro w hw
  have h1 := List.all_eq_true.mp h w hw
  rw [hp] at hw
  obtain ⟨i, -, hi⟩ := List.mem_filterMap.mp hw
  have hm : w ∈ big := by first | exact List.mem_of_getElem? hi | exact List.getElem?_mem hi
  exact ⟨hm, good_of_word h1⟩
theorem goodIn_app {big a b : List Cond} (ha : GoodIn big a) (hb : GoodIn big b) : GoodIn big (a ++ b) := fun w h => (List.mem_append.mp h).elim (ha w) (hb w)
theorem goodIn_ca {big a b : List Cond} {c : Cond} (ha : GoodIn big (c :: a)) (hb : GoodIn big b) : GoodIn big (c :: (a ++ b)) := fun w h => (List.mem_cons.mp h).elim (fun e => ha w (List.mem_cons.mpr (Or.inl e))) (fun h => (List.mem_append.mp h).elim (fun h => ha w (List.mem_cons.mpr (Or.inr h))) (hb w))
theorem goodIn_sub {big ws : List Cond} (hm : ∀ w ∈ ws, w ∈ big) (h : ws.all goodWord = true) : GoodIn big ws := fun w hw => ⟨hm w hw, good_of_word (List.all_eq_true.mp h w hw)⟩
/-! ===== END ===== -/

/-! ===== BEGIN printed: names, fields, word lists, decode rows ===== -/
def RX0 : String := "TraverseBoard"
def TX0 : u_T := fun k => match k with
  | 0 => ("TraverseBoard", "buffer", "[I", true)
  | 1 => ("TraverseBoard", "bufferLength", "I", false)
  | 2 => ("TraverseBoard", "pegs", "I", false)
  | 3 => ("TraverseBoard", "points", "[I", true)
  | 4 => ("TraverseBoard", "speeds", "[I", true)
  | 5 => ("TraverseBoard", "leeways", "[I", true)
  | 6 => ("TraverseBoard", "lost", "[Z", true)
  | 7 => ("TraverseBoard", "set", "I", false)
  | 8 => ("TraverseBoard", "drift", "I", false)
  | 9 => ("TraverseBoard", "fixed", "[Z", true)
  | 10 => ("TraverseBoard", "fixNorths", "[I", true)
  | _ => ("TraverseBoard", "fixEasts", "[I", true)
def tyX0 : Nat → FieldType := fun k => match k with
  | 0 => .array .int
  | 1 => .int
  | 2 => .int
  | 3 => .array .int
  | 4 => .array .int
  | 5 => .array .int
  | 6 => .array .boolean
  | 7 => .int
  | 8 => .int
  | 9 => .array .boolean
  | 10 => .array .int
  | _ => .array .int
abbrev wsX00 : List Cond := u_ws RX0 TX0 12
theorem nmX0 : ∀ a, a < 12 → ∀ b, b < 12 → a ≠ b → (TX0 a).2.1 ≠ (TX0 b).2.1 := by decide +kernel
theorem tyX0_ok : ∀ k, k < 12 → parseFieldDescriptor (TX0 k).2.2.1 = some (tyX0 k) := by decide +kernel
abbrev cX0_init : ByteArray := prog_1_method_1_code
def yX0_init : MethodName := ⟨RX0, "<init>", "()V"⟩
abbrev cX0_append : ByteArray := prog_1_method_2_code
def yX0_append : MethodName := ⟨RX0, "append", "(I)J"⟩
abbrev cX0_clearBuffer : ByteArray := prog_1_method_3_code
def yX0_clearBuffer : MethodName := ⟨RX0, "clearBuffer", "()J"⟩
abbrev cX0_errorPosition : ByteArray := prog_1_method_4_code
def yX0_errorPosition : MethodName := ⟨RX0, "errorPosition", "()J"⟩
abbrev cX0_addFromBuffer : ByteArray := prog_1_method_5_code
def yX0_addFromBuffer : MethodName := ⟨RX0, "addFromBuffer", "()J"⟩
abbrev cX0_pointInBuffer : ByteArray := prog_1_method_6_code
def yX0_pointInBuffer : MethodName := ⟨RX0, "pointInBuffer", "()I"⟩
abbrev cX0_agreement : ByteArray := prog_1_method_7_code
def yX0_agreement : MethodName := ⟨RX0, "agreement", "(I)I"⟩
abbrev cX0_speedEnd : ByteArray := prog_1_method_8_code
def yX0_speedEnd : MethodName := ⟨RX0, "speedEnd", "(I)I"⟩
abbrev cX0_digitAllowed : ByteArray := prog_1_method_9_code
def yX0_digitAllowed : MethodName := ⟨RX0, "digitAllowed", "(II)Z"⟩
abbrev cX0_number : ByteArray := prog_1_method_10_code
def yX0_number : MethodName := ⟨RX0, "number", "(II)I"⟩
abbrev cX0_blankEnds : ByteArray := prog_1_method_11_code
def yX0_blankEnds : MethodName := ⟨RX0, "blankEnds", "(I)Z"⟩
abbrev cX0_digitEnds : ByteArray := prog_1_method_12_code
def yX0_digitEnds : MethodName := ⟨RX0, "digitEnds", "(I)Z"⟩
abbrev cX0_add : ByteArray := prog_1_method_13_code
def yX0_add : MethodName := ⟨RX0, "add", "(II)J"⟩
abbrev cX0_replace : ByteArray := prog_1_method_14_code
def yX0_replace : MethodName := ⟨RX0, "replace", "(III)J"⟩
abbrev cX0_removeLast : ByteArray := prog_1_method_15_code
def yX0_removeLast : MethodName := ⟨RX0, "removeLast", "()J"⟩
abbrev cX0_lose : ByteArray := prog_1_method_16_code
def yX0_lose : MethodName := ⟨RX0, "lose", "(I)J"⟩
abbrev cX0_setLeeway : ByteArray := prog_1_method_17_code
def yX0_setLeeway : MethodName := ⟨RX0, "setLeeway", "(II)J"⟩
abbrev cX0_setCurrent : ByteArray := prog_1_method_18_code
def yX0_setCurrent : MethodName := ⟨RX0, "setCurrent", "(II)J"⟩
abbrev cX0_pegCount : ByteArray := prog_1_method_19_code
def yX0_pegCount : MethodName := ⟨RX0, "pegCount", "()J"⟩
abbrev cX0_pointOf : ByteArray := prog_1_method_20_code
def yX0_pointOf : MethodName := ⟨RX0, "pointOf", "(I)J"⟩
abbrev cX0_speedOf : ByteArray := prog_1_method_21_code
def yX0_speedOf : MethodName := ⟨RX0, "speedOf", "(I)J"⟩
abbrev cX0_speedTowards : ByteArray := prog_1_method_22_code
def yX0_speedTowards : MethodName := ⟨RX0, "speedTowards", "(I)J"⟩
abbrev cX0_putBehindLast : ByteArray := prog_1_method_23_code
def yX0_putBehindLast : MethodName := ⟨RX0, "putBehindLast", "(II)I"⟩
abbrev cX0_put : ByteArray := prog_1_method_24_code
def yX0_put : MethodName := ⟨RX0, "put", "(III)V"⟩
abbrev cX0_lostCount : ByteArray := prog_1_method_25_code
def yX0_lostCount : MethodName := ⟨RX0, "lostCount", "(II)I"⟩
abbrev cX0_firstLost : ByteArray := prog_1_method_26_code
def yX0_firstLost : MethodName := ⟨RX0, "firstLost", "()I"⟩
abbrev cX0_pegExists : ByteArray := prog_1_method_27_code
def yX0_pegExists : MethodName := ⟨RX0, "pegExists", "(I)Z"⟩
abbrev cX0_isPoint : ByteArray := prog_1_method_28_code
def yX0_isPoint : MethodName := ⟨RX0, "isPoint", "(I)Z"⟩
abbrev cX0_isSpeed : ByteArray := prog_1_method_29_code
def yX0_isSpeed : MethodName := ⟨RX0, "isSpeed", "(I)Z"⟩
abbrev cX0_inRange : ByteArray := prog_1_method_30_code
def yX0_inRange : MethodName := ⟨RX0, "inRange", "(III)Z"⟩
abbrev cX0_setFix : ByteArray := prog_1_method_31_code
def yX0_setFix : MethodName := ⟨RX0, "setFix", "(III)J"⟩
abbrev cX0_removeFix : ByteArray := prog_1_method_32_code
def yX0_removeFix : MethodName := ⟨RX0, "removeFix", "(I)J"⟩
abbrev cX0_fixCount : ByteArray := prog_1_method_33_code
def yX0_fixCount : MethodName := ⟨RX0, "fixCount", "()I"⟩
abbrev cX0_lastFix : ByteArray := prog_1_method_34_code
def yX0_lastFix : MethodName := ⟨RX0, "lastFix", "(I)I"⟩
abbrev cX0_firstFixAfter : ByteArray := prog_1_method_35_code
def yX0_firstFixAfter : MethodName := ⟨RX0, "firstFixAfter", "(I)I"⟩
abbrev cX0_fix : ByteArray := prog_1_method_36_code
def yX0_fix : MethodName := ⟨RX0, "fix", "(II)I"⟩
abbrev cX0_momentExists : ByteArray := prog_1_method_37_code
def yX0_momentExists : MethodName := ⟨RX0, "momentExists", "(I)Z"⟩
abbrev cX0_fixCanStand : ByteArray := prog_1_method_38_code
def yX0_fixCanStand : MethodName := ⟨RX0, "fixCanStand", "(I)Z"⟩
abbrev cX0_isCoordinate : ByteArray := prog_1_method_39_code
def yX0_isCoordinate : MethodName := ⟨RX0, "isCoordinate", "(I)Z"⟩
abbrev cX0_reckonedNorth : ByteArray := prog_1_method_40_code
def yX0_reckonedNorth : MethodName := ⟨RX0, "reckonedNorth", "(I)J"⟩
abbrev cX0_reckonedEast : ByteArray := prog_1_method_41_code
def yX0_reckonedEast : MethodName := ⟨RX0, "reckonedEast", "(I)J"⟩
abbrev cX0_correctedNorth : ByteArray := prog_1_method_42_code
def yX0_correctedNorth : MethodName := ⟨RX0, "correctedNorth", "(I)J"⟩
abbrev cX0_correctedEast : ByteArray := prog_1_method_43_code
def yX0_correctedEast : MethodName := ⟨RX0, "correctedEast", "(I)J"⟩
abbrev cX0_distance : ByteArray := prog_1_method_44_code
def yX0_distance : MethodName := ⟨RX0, "distance", "(II)J"⟩
abbrev cX0_bearing : ByteArray := prog_1_method_45_code
def yX0_bearing : MethodName := ⟨RX0, "bearing", "(II)J"⟩
abbrev cX0_findLost : ByteArray := prog_1_method_46_code
def yX0_findLost : MethodName := ⟨RX0, "findLost", "(I)J"⟩
abbrev cX0_reckoned : ByteArray := prog_1_method_47_code
def yX0_reckoned : MethodName := ⟨RX0, "reckoned", "(II)J"⟩
abbrev cX0_corrected : ByteArray := prog_1_method_48_code
def yX0_corrected : MethodName := ⟨RX0, "corrected", "(II)J"⟩
abbrev cX0_error : ByteArray := prog_1_method_49_code
def yX0_error : MethodName := ⟨RX0, "error", "(III)J"⟩
abbrev cX0_legs : ByteArray := prog_1_method_50_code
def yX0_legs : MethodName := ⟨RX0, "legs", "(III)J"⟩
abbrev cX0_movement : ByteArray := prog_1_method_51_code
def yX0_movement : MethodName := ⟨RX0, "movement", "(III)J"⟩
abbrev cX0_difference : ByteArray := prog_1_method_52_code
def yX0_difference : MethodName := ⟨RX0, "difference", "(III)J"⟩
abbrev cX0_squares : ByteArray := prog_1_method_53_code
def yX0_squares : MethodName := ⟨RX0, "squares", "(JJ)J"⟩
abbrev cX0_root : ByteArray := prog_1_method_54_code
def yX0_root : MethodName := ⟨RX0, "root", "(J)J"⟩
abbrev cX0_nearestPoint : ByteArray := prog_1_method_55_code
def yX0_nearestPoint : MethodName := ⟨RX0, "nearestPoint", "(JJ)I"⟩
abbrev cX0_advance : ByteArray := prog_1_method_56_code
def yX0_advance : MethodName := ⟨RX0, "advance", "(JJI)J"⟩
abbrev cX0_likeliest : ByteArray := prog_1_method_57_code
def yX0_likeliest : MethodName := ⟨RX0, "likeliest", "(JJI)J"⟩
abbrev cX0_miss : ByteArray := prog_1_method_58_code
def yX0_miss : MethodName := ⟨RX0, "miss", "(JJII)J"⟩
abbrev cX0_digest : ByteArray := prog_1_method_59_code
def yX0_digest : MethodName := ⟨RX0, "digest", "()J"⟩
abbrev cX0_mixPegs : ByteArray := prog_1_method_60_code
def yX0_mixPegs : MethodName := ⟨RX0, "mixPegs", "(J)J"⟩
abbrev cX0_mixMoments : ByteArray := prog_1_method_61_code
def yX0_mixMoments : MethodName := ⟨RX0, "mixMoments", "(J)J"⟩
abbrev cX0_mixBuffer : ByteArray := prog_1_method_62_code
def yX0_mixBuffer : MethodName := ⟨RX0, "mixBuffer", "(J)J"⟩
abbrev cX0_mix : ByteArray := prog_1_method_63_code
def yX0_mix : MethodName := ⟨RX0, "mix", "(JJ)J"⟩
def RX1 : String := "TraverseBoardModel"
def TX1 : u_T := fun k => match k with
  | 0 => ("TraverseBoardModel", "bufferLength", "I", false)
  | 1 => ("TraverseBoardModel", "buffer", "[I", true)
  | 2 => ("TraverseBoardModel", "pegs", "I", false)
  | 3 => ("TraverseBoardModel", "point", "[I", true)
  | 4 => ("TraverseBoardModel", "speed", "[I", true)
  | 5 => ("TraverseBoardModel", "leeway", "[I", true)
  | 6 => ("TraverseBoardModel", "isLost", "[Z", true)
  | 7 => ("TraverseBoardModel", "set", "I", false)
  | 8 => ("TraverseBoardModel", "drift", "I", false)
  | 9 => ("TraverseBoardModel", "hasFix", "[Z", true)
  | 10 => ("TraverseBoardModel", "fixNorth", "[J", true)
  | 11 => ("TraverseBoardModel", "fixEast", "[J", true)
  | 12 => ("TraverseBoardModel", "readPoint", "I", false)
  | 13 => ("TraverseBoardModel", "readSpeed", "I", false)
  | 14 => ("TraverseBoardModel", "errorAt", "I", false)
  | 15 => ("TraverseBoardModel", "isPeg", "Z", false)
  | _ => ("TraverseBoardModel", "h", "J", false)
def tyX1 : Nat → FieldType := fun k => match k with
  | 0 => .int
  | 1 => .array .int
  | 2 => .int
  | 3 => .array .int
  | 4 => .array .int
  | 5 => .array .int
  | 6 => .array .boolean
  | 7 => .int
  | 8 => .int
  | 9 => .array .boolean
  | 10 => .array .long
  | 11 => .array .long
  | 12 => .int
  | 13 => .int
  | 14 => .int
  | 15 => .boolean
  | _ => .long
abbrev wsX10 : List Cond := u_ws RX1 TX1 17
theorem nmX1 : ∀ a, a < 17 → ∀ b, b < 17 → a ≠ b → (TX1 a).2.1 ≠ (TX1 b).2.1 := by decide +kernel
theorem tyX1_ok : ∀ k, k < 17 → parseFieldDescriptor (TX1 k).2.2.1 = some (tyX1 k) := by decide +kernel
abbrev cX1_init : ByteArray := prog_3_method_1_code
def yX1_init : MethodName := ⟨RX1, "<init>", "()V"⟩
abbrev cX1_within : ByteArray := prog_3_method_3_code
def yX1_within : MethodName := ⟨RX1, "within", "(III)Z"⟩
abbrev cX1_four : ByteArray := prog_3_method_4_code
def yX1_four : MethodName := ⟨RX1, "four", "(IIII)I"⟩
abbrev cX1_name : ByteArray := prog_3_method_5_code
def yX1_name : MethodName := ⟨RX1, "name", "(I)I"⟩
abbrev cX1_quarter : ByteArray := prog_3_method_6_code
def yX1_quarter : MethodName := ⟨RX1, "quarter", "(I)I"⟩
abbrev cX1_sine : ByteArray := prog_3_method_7_code
def yX1_sine : MethodName := ⟨RX1, "sine", "(I)I"⟩
abbrev cX1_cosine : ByteArray := prog_3_method_8_code
def yX1_cosine : MethodName := ⟨RX1, "cosine", "(I)I"⟩
abbrev cX1_append : ByteArray := prog_3_method_9_code
def yX1_append : MethodName := ⟨RX1, "append", "(I)J"⟩
abbrev cX1_clearBuffer : ByteArray := prog_3_method_10_code
def yX1_clearBuffer : MethodName := ⟨RX1, "clearBuffer", "()J"⟩
abbrev cX1_nameOf : ByteArray := prog_3_method_11_code
def yX1_nameOf : MethodName := ⟨RX1, "nameOf", "(I)I"⟩
abbrev cX1_unit : ByteArray := prog_3_method_12_code
def yX1_unit : MethodName := ⟨RX1, "unit", "(I)I"⟩
abbrev cX1_pointBy : ByteArray := prog_3_method_13_code
def yX1_pointBy : MethodName := ⟨RX1, "pointBy", "(I)I"⟩
abbrev cX1_isBeginning : ByteArray := prog_3_method_14_code
def yX1_isBeginning : MethodName := ⟨RX1, "isBeginning", "(I)Z"⟩
abbrev cX1_parse : ByteArray := prog_3_method_15_code
def yX1_parse : MethodName := ⟨RX1, "parse", "()V"⟩
abbrev cX1_errorPosition : ByteArray := prog_3_method_16_code
def yX1_errorPosition : MethodName := ⟨RX1, "errorPosition", "()J"⟩
abbrev cX1_addPeg : ByteArray := prog_3_method_17_code
def yX1_addPeg : MethodName := ⟨RX1, "addPeg", "(II)I"⟩
abbrev cX1_addFromBuffer : ByteArray := prog_3_method_18_code
def yX1_addFromBuffer : MethodName := ⟨RX1, "addFromBuffer", "()J"⟩
abbrev cX1_isPoint : ByteArray := prog_3_method_19_code
def yX1_isPoint : MethodName := ⟨RX1, "isPoint", "(I)Z"⟩
abbrev cX1_add : ByteArray := prog_3_method_20_code
def yX1_add : MethodName := ⟨RX1, "add", "(II)J"⟩
abbrev cX1_isPegNumber : ByteArray := prog_3_method_21_code
def yX1_isPegNumber : MethodName := ⟨RX1, "isPegNumber", "(I)Z"⟩
abbrev cX1_replace : ByteArray := prog_3_method_22_code
def yX1_replace : MethodName := ⟨RX1, "replace", "(III)J"⟩
abbrev cX1_removeLast : ByteArray := prog_3_method_23_code
def yX1_removeLast : MethodName := ⟨RX1, "removeLast", "()J"⟩
abbrev cX1_lostMany : ByteArray := prog_3_method_24_code
def yX1_lostMany : MethodName := ⟨RX1, "lostMany", "()I"⟩
abbrev cX1_lose : ByteArray := prog_3_method_25_code
def yX1_lose : MethodName := ⟨RX1, "lose", "(I)J"⟩
abbrev cX1_setLeeway : ByteArray := prog_3_method_26_code
def yX1_setLeeway : MethodName := ⟨RX1, "setLeeway", "(II)J"⟩
abbrev cX1_setCurrent : ByteArray := prog_3_method_27_code
def yX1_setCurrent : MethodName := ⟨RX1, "setCurrent", "(II)J"⟩
abbrev cX1_pegCount : ByteArray := prog_3_method_28_code
def yX1_pegCount : MethodName := ⟨RX1, "pegCount", "()J"⟩
abbrev cX1_pointNow : ByteArray := prog_3_method_29_code
def yX1_pointNow : MethodName := ⟨RX1, "pointNow", "(I)J"⟩
abbrev cX1_speedNow : ByteArray := prog_3_method_30_code
def yX1_speedNow : MethodName := ⟨RX1, "speedNow", "(I)J"⟩
abbrev cX1_pointOf : ByteArray := prog_3_method_31_code
def yX1_pointOf : MethodName := ⟨RX1, "pointOf", "(I)J"⟩
abbrev cX1_speedOf : ByteArray := prog_3_method_32_code
def yX1_speedOf : MethodName := ⟨RX1, "speedOf", "(I)J"⟩
abbrev cX1_speedTowards : ByteArray := prog_3_method_33_code
def yX1_speedTowards : MethodName := ⟨RX1, "speedTowards", "(I)J"⟩
abbrev cX1_fixMany : ByteArray := prog_3_method_34_code
def yX1_fixMany : MethodName := ⟨RX1, "fixMany", "()I"⟩
abbrev cX1_setFix : ByteArray := prog_3_method_35_code
def yX1_setFix : MethodName := ⟨RX1, "setFix", "(III)J"⟩
abbrev cX1_removeFix : ByteArray := prog_3_method_36_code
def yX1_removeFix : MethodName := ⟨RX1, "removeFix", "(I)J"⟩
abbrev cX1_isMoment : ByteArray := prog_3_method_37_code
def yX1_isMoment : MethodName := ⟨RX1, "isMoment", "(I)Z"⟩
abbrev cX1_fixAt : ByteArray := prog_3_method_38_code
def yX1_fixAt : MethodName := ⟨RX1, "fixAt", "(I)I"⟩
abbrev cX1_fixBehind : ByteArray := prog_3_method_39_code
def yX1_fixBehind : MethodName := ⟨RX1, "fixBehind", "(I)I"⟩
abbrev cX1_leg : ByteArray := prog_3_method_40_code
def yX1_leg : MethodName := ⟨RX1, "leg", "(II)J"⟩
abbrev cX1_fixed : ByteArray := prog_3_method_41_code
def yX1_fixed : MethodName := ⟨RX1, "fixed", "(II)J"⟩
abbrev cX1_gone : ByteArray := prog_3_method_42_code
def yX1_gone : MethodName := ⟨RX1, "gone", "(III)J"⟩
abbrev cX1_floor : ByteArray := prog_3_method_43_code
def yX1_floor : MethodName := ⟨RX1, "floor", "(JJ)J"⟩
abbrev cX1_reckoned : ByteArray := prog_3_method_44_code
def yX1_reckoned : MethodName := ⟨RX1, "reckoned", "(II)J"⟩
abbrev cX1_corrected : ByteArray := prog_3_method_45_code
def yX1_corrected : MethodName := ⟨RX1, "corrected", "(II)J"⟩
abbrev cX1_reckonedNorth : ByteArray := prog_3_method_46_code
def yX1_reckonedNorth : MethodName := ⟨RX1, "reckonedNorth", "(I)J"⟩
abbrev cX1_reckonedEast : ByteArray := prog_3_method_47_code
def yX1_reckonedEast : MethodName := ⟨RX1, "reckonedEast", "(I)J"⟩
abbrev cX1_correctedNorth : ByteArray := prog_3_method_48_code
def yX1_correctedNorth : MethodName := ⟨RX1, "correctedNorth", "(I)J"⟩
abbrev cX1_correctedEast : ByteArray := prog_3_method_49_code
def yX1_correctedEast : MethodName := ⟨RX1, "correctedEast", "(I)J"⟩
abbrev cX1_distanceNow : ByteArray := prog_3_method_50_code
def yX1_distanceNow : MethodName := ⟨RX1, "distanceNow", "(II)J"⟩
abbrev cX1_distance : ByteArray := prog_3_method_51_code
def yX1_distance : MethodName := ⟨RX1, "distance", "(II)J"⟩
abbrev cX1_bearingNow : ByteArray := prog_3_method_52_code
def yX1_bearingNow : MethodName := ⟨RX1, "bearingNow", "(II)J"⟩
abbrev cX1_bearing : ByteArray := prog_3_method_53_code
def yX1_bearing : MethodName := ⟨RX1, "bearing", "(II)J"⟩
abbrev cX1_isOtherLost : ByteArray := prog_3_method_54_code
def yX1_isOtherLost : MethodName := ⟨RX1, "isOtherLost", "(III)Z"⟩
abbrev cX1_search : ByteArray := prog_3_method_55_code
def yX1_search : MethodName := ⟨RX1, "search", "(III)J"⟩
abbrev cX1_lostNow : ByteArray := prog_3_method_56_code
def yX1_lostNow : MethodName := ⟨RX1, "lostNow", "(I)J"⟩
abbrev cX1_findLost : ByteArray := prog_3_method_57_code
def yX1_findLost : MethodName := ⟨RX1, "findLost", "(I)J"⟩
abbrev cX1_mix : ByteArray := prog_3_method_58_code
def yX1_mix : MethodName := ⟨RX1, "mix", "(J)V"⟩
abbrev cX1_digest : ByteArray := prog_3_method_59_code
def yX1_digest : MethodName := ⟨RX1, "digest", "()J"⟩
def RJ9 : String := "java/lang/Math"
def TJ9 : u_T := fun k => match k with
  | _ => ("", "", "", false)
def tyJ9 : Nat → FieldType := fun k => match k with
  | _ => .int
abbrev wsJ90 : List Cond := u_ws RJ9 TJ9 0
theorem nmJ9 : ∀ a, a < 0 → ∀ b, b < 0 → a ≠ b → (TJ9 a).2.1 ≠ (TJ9 b).2.1 := by decide +kernel
theorem tyJ9_ok : ∀ k, k < 0 → parseFieldDescriptor (TJ9 k).2.2.1 = some (tyJ9 k) := by decide +kernel
abbrev cJ9_floorDiv_f86c9 : ByteArray := prog_4_method_49_code
def yJ9_floorDiv_f86c9 : MethodName := ⟨RJ9, "floorDiv", "(JJ)J"⟩
abbrev cJ9_floorMod_7cf53 : ByteArray := prog_4_method_50_code
def yJ9_floorMod_7cf53 : MethodName := ⟨RJ9, "floorMod", "(II)I"⟩
def RJ0 : String := "java/lang/String"
def TJ0 : u_T := fun k => match k with
  | _ => ("", "", "", false)
def tyJ0 : Nat → FieldType := fun k => match k with
  | _ => .int
abbrev wsJ00 : List Cond := u_ws RJ0 TJ0 0
theorem nmJ0 : ∀ a, a < 0 → ∀ b, b < 0 → a ≠ b → (TJ0 a).2.1 ≠ (TJ0 b).2.1 := by decide +kernel
theorem tyJ0_ok : ∀ k, k < 0 → parseFieldDescriptor (TJ0 k).2.2.1 = some (tyJ0 k) := by decide +kernel
abbrev cJ0_charAt_5068e : ByteArray := prog_5_method_56_code
def yJ0_charAt_5068e : MethodName := ⟨RJ0, "charAt", "(I)C"⟩
abbrev cJ0_isLatin1_aae02 : ByteArray := prog_5_method_154_code
def yJ0_isLatin1_aae02 : MethodName := ⟨RJ0, "isLatin1", "()Z"⟩
abbrev cJ0_checkIndex_df160 : ByteArray := prog_5_method_155_code
def yJ0_checkIndex_df160 : MethodName := ⟨RJ0, "checkIndex", "(II)V"⟩
def RJ1 : String := "java/lang/StringLatin1"
def TJ1 : u_T := fun k => match k with
  | _ => ("", "", "", false)
def tyJ1 : Nat → FieldType := fun k => match k with
  | _ => .int
abbrev wsJ10 : List Cond := u_ws RJ1 TJ1 0
theorem nmJ1 : ∀ a, a < 0 → ∀ b, b < 0 → a ≠ b → (TJ1 a).2.1 ≠ (TJ1 b).2.1 := by decide +kernel
theorem tyJ1_ok : ∀ k, k < 0 → parseFieldDescriptor (TJ1 k).2.2.1 = some (tyJ1 k) := by decide +kernel
abbrev cJ1_charAt_3b067 : ByteArray := prog_6_method_2_code
def yJ1_charAt_3b067 : MethodName := ⟨RJ1, "charAt", "([BI)C"⟩
def RJ2 : String := "java/lang/StringUTF16"
def TJ2 : u_T := fun k => match k with
  | _ => ("", "", "", false)
def tyJ2 : Nat → FieldType := fun k => match k with
  | _ => .int
abbrev wsJ20 : List Cond := u_ws RJ2 TJ2 0
theorem nmJ2 : ∀ a, a < 0 → ∀ b, b < 0 → a ≠ b → (TJ2 a).2.1 ≠ (TJ2 b).2.1 := by decide +kernel
theorem tyJ2_ok : ∀ k, k < 0 → parseFieldDescriptor (TJ2 k).2.2.1 = some (tyJ2 k) := by decide +kernel
abbrev cJ2_getChar_3b067 : ByteArray := prog_7_method_5_code
def yJ2_getChar_3b067 : MethodName := ⟨RJ2, "getChar", "([BI)C"⟩
abbrev cJ2_length_9d52b : ByteArray := prog_7_method_6_code
def yJ2_length_9d52b : MethodName := ⟨RJ2, "length", "([B)I"⟩
abbrev cJ2_charAt_3b067 : ByteArray := prog_7_method_83_code
def yJ2_charAt_3b067 : MethodName := ⟨RJ2, "charAt", "([BI)C"⟩
abbrev cJ2_checkIndex_2214a : ByteArray := prog_7_method_91_code
def yJ2_checkIndex_2214a : MethodName := ⟨RJ2, "checkIndex", "(I[B)V"⟩
def RJ3 : String := "jdk/internal/util/Preconditions"
def TJ3 : u_T := fun k => match k with
  | _ => ("", "", "", false)
def tyJ3 : Nat → FieldType := fun k => match k with
  | _ => .int
abbrev wsJ30 : List Cond := u_ws RJ3 TJ3 0
theorem nmJ3 : ∀ a, a < 0 → ∀ b, b < 0 → a ≠ b → (TJ3 a).2.1 ≠ (TJ3 b).2.1 := by decide +kernel
theorem tyJ3_ok : ∀ k, k < 0 → parseFieldDescriptor (TJ3 k).2.2.1 = some (tyJ3 k) := by decide +kernel
abbrev cJ3_checkIndex_8e157 : ByteArray := prog_8_method_11_code
def yJ3_checkIndex_8e157 : MethodName := ⟨RJ3, "checkIndex", "(IILjava/util/function/BiFunction;)I"⟩
def RL : String := "TraverseBoardLaw"
abbrev cL_law : ByteArray := code
def yL_law : MethodName := ⟨RL, "law", "([I)Z"⟩
def wsX0_init : List Cond := .code yX0_init cX0_init 1 none :: ([.methodLink RX0 1 objectInit, .instanceMethod objectInit, .code objectInit ⟨#[0xb1]⟩ 1 none, .arrayClass .int, .fieldLink RX0 9 "TraverseBoard" "buffer" "[I", .fieldLink RX0 13 "TraverseBoard" "points" "[I", .fieldLink RX0 16 "TraverseBoard" "speeds" "[I", .fieldLink RX0 19 "TraverseBoard" "leeways" "[I", .arrayClass .boolean, .fieldLink RX0 22 "TraverseBoard" "lost" "[Z", .fieldLink RX0 26 "TraverseBoard" "fixed" "[Z", .fieldLink RX0 29 "TraverseBoard" "fixNorths" "[I", .fieldLink RX0 32 "TraverseBoard" "fixEasts" "[I"] ++ wsX00)
def wsX0_inRange : List Cond := .code yX0_inRange cX0_inRange 3 (some .boolean) :: ([])
def wsX0_append : List Cond := .code yX0_append cX0_append 2 (some .long) :: ([.constantLong RX0 39 (-9000000000000000001), .fieldLink RX0 41 "TraverseBoard" "bufferLength" "I", .constantLong RX0 45 (-9000000000000000004), .fieldLink RX0 9 "TraverseBoard" "buffer" "[I", .methodLink RX0 35 yX0_inRange, .static yX0_inRange, .initialized RX0, .code yX0_inRange cX0_inRange 3 (some .boolean)] ++ wsX00)
def wsX0_clearBuffer : List Cond := .code yX0_clearBuffer cX0_clearBuffer 2 (some .long) :: ([.fieldLink RX0 41 "TraverseBoard" "bufferLength" "I"] ++ wsX00)
def wsX0_blankEnds : List Cond := .code yX0_blankEnds cX0_blankEnds 2 (some .boolean) :: ([.fieldLink RX0 9 "TraverseBoard" "buffer" "[I"] ++ wsX00)
def wsJ0_isLatin1_aae02 : List Cond := .code yJ0_isLatin1_aae02 cJ0_isLatin1_aae02 1 (some .boolean) :: ([.fieldLink RJ0 38 "java/lang/String" "COMPACT_STRINGS" "Z", .fieldLink RJ0 15 "java/lang/String" "coder" "B"])
def wsJ3_checkIndex_8e157 : List Cond := .code yJ3_checkIndex_8e157 cJ3_checkIndex_8e157 3 (some .int) :: ([])
def wsJ0_checkIndex_df160 : List Cond := .code yJ0_checkIndex_df160 cJ0_checkIndex_df160 2 none :: ([.fieldLink RJ0 1053 "jdk/internal/util/Preconditions" "SIOOBE_FORMATTER" "Ljava/util/function/BiFunction;", .methodLink RJ0 1059 yJ3_checkIndex_8e157, .static yJ3_checkIndex_8e157, .initialized RJ3, .code yJ3_checkIndex_8e157 cJ3_checkIndex_8e157 3 (some .int)])
def wsJ1_charAt_3b067 : List Cond := .code yJ1_charAt_3b067 cJ1_charAt_3b067 2 (some .char) :: ([.methodLink RJ1 9 yJ0_checkIndex_df160, .static yJ0_checkIndex_df160, .initialized RJ0, .code yJ0_checkIndex_df160 cJ0_checkIndex_df160 2 none, .fieldLink RJ0 1053 "jdk/internal/util/Preconditions" "SIOOBE_FORMATTER" "Ljava/util/function/BiFunction;", .methodLink RJ0 1059 yJ3_checkIndex_8e157, .static yJ3_checkIndex_8e157, .initialized RJ3, .code yJ3_checkIndex_8e157 cJ3_checkIndex_8e157 3 (some .int)])
def wsJ2_length_9d52b : List Cond := .code yJ2_length_9d52b cJ2_length_9d52b 1 (some .int) :: ([])
def wsJ2_checkIndex_2214a : List Cond := .code yJ2_checkIndex_2214a cJ2_checkIndex_2214a 2 none :: ([.methodLink RJ2 48 yJ2_length_9d52b, .static yJ2_length_9d52b, .initialized RJ2, .code yJ2_length_9d52b cJ2_length_9d52b 1 (some .int), .methodLink RJ2 414 yJ0_checkIndex_df160, .static yJ0_checkIndex_df160, .initialized RJ0, .code yJ0_checkIndex_df160 cJ0_checkIndex_df160 2 none, .fieldLink RJ0 1053 "jdk/internal/util/Preconditions" "SIOOBE_FORMATTER" "Ljava/util/function/BiFunction;", .methodLink RJ0 1059 yJ3_checkIndex_8e157, .static yJ3_checkIndex_8e157, .initialized RJ3, .code yJ3_checkIndex_8e157 cJ3_checkIndex_8e157 3 (some .int)])
def wsJ2_getChar_3b067 : List Cond := .code yJ2_getChar_3b067 cJ2_getChar_3b067 2 (some .char) :: ([.fieldLink RJ2 44 "java/lang/StringUTF16" "$assertionsDisabled" "Z", .fieldLink RJ2 59 "java/lang/StringUTF16" "HI_BYTE_SHIFT" "I", .fieldLink RJ2 63 "java/lang/StringUTF16" "LO_BYTE_SHIFT" "I", .methodLink RJ2 48 yJ2_length_9d52b, .static yJ2_length_9d52b, .initialized RJ2, .code yJ2_length_9d52b cJ2_length_9d52b 1 (some .int)])
def wsJ2_charAt_3b067 : List Cond := .code yJ2_charAt_3b067 cJ2_charAt_3b067 2 (some .char) :: ([.methodLink RJ2 67 yJ2_checkIndex_2214a, .static yJ2_checkIndex_2214a, .initialized RJ2, .code yJ2_checkIndex_2214a cJ2_checkIndex_2214a 2 none, .methodLink RJ2 48 yJ2_length_9d52b, .static yJ2_length_9d52b, .code yJ2_length_9d52b cJ2_length_9d52b 1 (some .int), .methodLink RJ2 414 yJ0_checkIndex_df160, .static yJ0_checkIndex_df160, .initialized RJ0, .code yJ0_checkIndex_df160 cJ0_checkIndex_df160 2 none, .fieldLink RJ0 1053 "jdk/internal/util/Preconditions" "SIOOBE_FORMATTER" "Ljava/util/function/BiFunction;", .methodLink RJ0 1059 yJ3_checkIndex_8e157, .static yJ3_checkIndex_8e157, .initialized RJ3, .code yJ3_checkIndex_8e157 cJ3_checkIndex_8e157 3 (some .int), .methodLink RJ2 71 yJ2_getChar_3b067, .static yJ2_getChar_3b067, .code yJ2_getChar_3b067 cJ2_getChar_3b067 2 (some .char), .fieldLink RJ2 44 "java/lang/StringUTF16" "$assertionsDisabled" "Z", .fieldLink RJ2 59 "java/lang/StringUTF16" "HI_BYTE_SHIFT" "I", .fieldLink RJ2 63 "java/lang/StringUTF16" "LO_BYTE_SHIFT" "I"])
def wsJ0_charAt_5068e_r1 : List Cond := [Cond.fieldLink RJ0 9 "java/lang/String" "value" "[B", Cond.methodLink RJ0 492 yJ0_isLatin1_aae02, Cond.instanceMethod yJ0_isLatin1_aae02, Cond.selects RJ0 yJ0_isLatin1_aae02 yJ0_isLatin1_aae02, Cond.initialized RJ0, Cond.code yJ0_isLatin1_aae02 cJ0_isLatin1_aae02 1 (some .boolean), Cond.fieldLink RJ0 38 "java/lang/String" "COMPACT_STRINGS" "Z", Cond.fieldLink RJ0 15 "java/lang/String" "coder" "B", Cond.methodLink RJ0 495 yJ1_charAt_3b067, Cond.static yJ1_charAt_3b067, Cond.initialized RJ1, Cond.code yJ1_charAt_3b067 cJ1_charAt_3b067 2 (some .char), Cond.methodLink RJ1 9 yJ0_checkIndex_df160, Cond.static yJ0_checkIndex_df160, Cond.code yJ0_checkIndex_df160 cJ0_checkIndex_df160 2 none, Cond.fieldLink RJ0 1053 "jdk/internal/util/Preconditions" "SIOOBE_FORMATTER" "Ljava/util/function/BiFunction;", Cond.methodLink RJ0 1059 yJ3_checkIndex_8e157, Cond.static yJ3_checkIndex_8e157, Cond.initialized RJ3, Cond.code yJ3_checkIndex_8e157 cJ3_checkIndex_8e157 3 (some .int), Cond.methodLink RJ0 498 yJ2_charAt_3b067, Cond.static yJ2_charAt_3b067, Cond.initialized RJ2, Cond.code yJ2_charAt_3b067 cJ2_charAt_3b067 2 (some .char)]
def wsJ0_charAt_5068e_r2 : List Cond := [Cond.methodLink RJ2 67 yJ2_checkIndex_2214a, Cond.static yJ2_checkIndex_2214a, Cond.code yJ2_checkIndex_2214a cJ2_checkIndex_2214a 2 none, Cond.methodLink RJ2 48 yJ2_length_9d52b, Cond.static yJ2_length_9d52b, Cond.code yJ2_length_9d52b cJ2_length_9d52b 1 (some .int), Cond.methodLink RJ2 414 yJ0_checkIndex_df160, Cond.methodLink RJ2 71 yJ2_getChar_3b067, Cond.static yJ2_getChar_3b067, Cond.code yJ2_getChar_3b067 cJ2_getChar_3b067 2 (some .char), Cond.fieldLink RJ2 44 "java/lang/StringUTF16" "$assertionsDisabled" "Z", Cond.fieldLink RJ2 59 "java/lang/StringUTF16" "HI_BYTE_SHIFT" "I", Cond.fieldLink RJ2 63 "java/lang/StringUTF16" "LO_BYTE_SHIFT" "I"]
def wsJ0_charAt_5068e : List Cond := .code yJ0_charAt_5068e cJ0_charAt_5068e 2 (some .char) :: ((wsJ0_charAt_5068e_r1 ++ wsJ0_charAt_5068e_r2))
def wsX0_agreement_r1 : List Cond := [Cond.fieldLink RX0 41 "TraverseBoard" "bufferLength" "I", Cond.fieldLink RX0 9 "TraverseBoard" "buffer" "[I", Cond.methodLink RX0 55 yX0_blankEnds, Cond.instanceMethod yX0_blankEnds, Cond.selects RX0 yX0_blankEnds yX0_blankEnds, Cond.initialized RX0, Cond.code yX0_blankEnds cX0_blankEnds 2 (some .boolean), Cond.methodLink RX0 83 yJ0_charAt_5068e, Cond.instanceMethod yJ0_charAt_5068e, Cond.selects RJ0 yJ0_charAt_5068e yJ0_charAt_5068e, Cond.initialized RJ0, Cond.code yJ0_charAt_5068e cJ0_charAt_5068e 2 (some .char), Cond.fieldLink RJ0 9 "java/lang/String" "value" "[B", Cond.methodLink RJ0 492 yJ0_isLatin1_aae02, Cond.instanceMethod yJ0_isLatin1_aae02, Cond.selects RJ0 yJ0_isLatin1_aae02 yJ0_isLatin1_aae02, Cond.code yJ0_isLatin1_aae02 cJ0_isLatin1_aae02 1 (some .boolean), Cond.fieldLink RJ0 38 "java/lang/String" "COMPACT_STRINGS" "Z", Cond.fieldLink RJ0 15 "java/lang/String" "coder" "B", Cond.methodLink RJ0 495 yJ1_charAt_3b067, Cond.static yJ1_charAt_3b067, Cond.initialized RJ1, Cond.code yJ1_charAt_3b067 cJ1_charAt_3b067 2 (some .char), Cond.methodLink RJ1 9 yJ0_checkIndex_df160]
def wsX0_agreement_r2 : List Cond := [Cond.static yJ0_checkIndex_df160, Cond.code yJ0_checkIndex_df160 cJ0_checkIndex_df160 2 none, Cond.fieldLink RJ0 1053 "jdk/internal/util/Preconditions" "SIOOBE_FORMATTER" "Ljava/util/function/BiFunction;", Cond.methodLink RJ0 1059 yJ3_checkIndex_8e157, Cond.static yJ3_checkIndex_8e157, Cond.initialized RJ3, Cond.code yJ3_checkIndex_8e157 cJ3_checkIndex_8e157 3 (some .int), Cond.methodLink RJ0 498 yJ2_charAt_3b067, Cond.static yJ2_charAt_3b067, Cond.initialized RJ2, Cond.code yJ2_charAt_3b067 cJ2_charAt_3b067 2 (some .char), Cond.methodLink RJ2 67 yJ2_checkIndex_2214a, Cond.static yJ2_checkIndex_2214a, Cond.code yJ2_checkIndex_2214a cJ2_checkIndex_2214a 2 none, Cond.methodLink RJ2 48 yJ2_length_9d52b, Cond.static yJ2_length_9d52b, Cond.code yJ2_length_9d52b cJ2_length_9d52b 1 (some .int), Cond.methodLink RJ2 414 yJ0_checkIndex_df160, Cond.methodLink RJ2 71 yJ2_getChar_3b067, Cond.static yJ2_getChar_3b067, Cond.code yJ2_getChar_3b067 cJ2_getChar_3b067 2 (some .char), Cond.fieldLink RJ2 44 "java/lang/StringUTF16" "$assertionsDisabled" "Z", Cond.fieldLink RJ2 59 "java/lang/StringUTF16" "HI_BYTE_SHIFT" "I", Cond.fieldLink RJ2 63 "java/lang/StringUTF16" "LO_BYTE_SHIFT" "I"]
def wsX0_agreement : List Cond := .code yX0_agreement cX0_agreement 3 (some .int) :: ((wsX0_agreement_r1 ++ wsX0_agreement_r2) ++ wsX00)
def wsX0_pointInBuffer_r1 : List Cond := [Cond.methodLink RX0 51 yX0_agreement, Cond.instanceMethod yX0_agreement, Cond.selects RX0 yX0_agreement yX0_agreement, Cond.initialized RX0, Cond.code yX0_agreement cX0_agreement 3 (some .int), Cond.fieldLink RX0 41 "TraverseBoard" "bufferLength" "I", Cond.fieldLink RX0 9 "TraverseBoard" "buffer" "[I", Cond.methodLink RX0 55 yX0_blankEnds, Cond.instanceMethod yX0_blankEnds, Cond.selects RX0 yX0_blankEnds yX0_blankEnds, Cond.code yX0_blankEnds cX0_blankEnds 2 (some .boolean), Cond.methodLink RX0 83 yJ0_charAt_5068e, Cond.instanceMethod yJ0_charAt_5068e, Cond.selects RJ0 yJ0_charAt_5068e yJ0_charAt_5068e, Cond.initialized RJ0, Cond.code yJ0_charAt_5068e cJ0_charAt_5068e 2 (some .char), Cond.fieldLink RJ0 9 "java/lang/String" "value" "[B", Cond.methodLink RJ0 492 yJ0_isLatin1_aae02, Cond.instanceMethod yJ0_isLatin1_aae02, Cond.selects RJ0 yJ0_isLatin1_aae02 yJ0_isLatin1_aae02, Cond.code yJ0_isLatin1_aae02 cJ0_isLatin1_aae02 1 (some .boolean), Cond.fieldLink RJ0 38 "java/lang/String" "COMPACT_STRINGS" "Z", Cond.fieldLink RJ0 15 "java/lang/String" "coder" "B", Cond.methodLink RJ0 495 yJ1_charAt_3b067]
def wsX0_pointInBuffer_r2 : List Cond := [Cond.static yJ1_charAt_3b067, Cond.initialized RJ1, Cond.code yJ1_charAt_3b067 cJ1_charAt_3b067 2 (some .char), Cond.methodLink RJ1 9 yJ0_checkIndex_df160, Cond.static yJ0_checkIndex_df160, Cond.code yJ0_checkIndex_df160 cJ0_checkIndex_df160 2 none, Cond.fieldLink RJ0 1053 "jdk/internal/util/Preconditions" "SIOOBE_FORMATTER" "Ljava/util/function/BiFunction;", Cond.methodLink RJ0 1059 yJ3_checkIndex_8e157, Cond.static yJ3_checkIndex_8e157, Cond.initialized RJ3, Cond.code yJ3_checkIndex_8e157 cJ3_checkIndex_8e157 3 (some .int), Cond.methodLink RJ0 498 yJ2_charAt_3b067, Cond.static yJ2_charAt_3b067, Cond.initialized RJ2, Cond.code yJ2_charAt_3b067 cJ2_charAt_3b067 2 (some .char), Cond.methodLink RJ2 67 yJ2_checkIndex_2214a, Cond.static yJ2_checkIndex_2214a, Cond.code yJ2_checkIndex_2214a cJ2_checkIndex_2214a 2 none, Cond.methodLink RJ2 48 yJ2_length_9d52b, Cond.static yJ2_length_9d52b, Cond.code yJ2_length_9d52b cJ2_length_9d52b 1 (some .int), Cond.methodLink RJ2 414 yJ0_checkIndex_df160, Cond.methodLink RJ2 71 yJ2_getChar_3b067, Cond.static yJ2_getChar_3b067]
def wsX0_pointInBuffer_r3 : List Cond := [Cond.code yJ2_getChar_3b067 cJ2_getChar_3b067 2 (some .char), Cond.fieldLink RJ2 44 "java/lang/StringUTF16" "$assertionsDisabled" "Z", Cond.fieldLink RJ2 59 "java/lang/StringUTF16" "HI_BYTE_SHIFT" "I", Cond.fieldLink RJ2 63 "java/lang/StringUTF16" "LO_BYTE_SHIFT" "I"]
def wsX0_pointInBuffer : List Cond := .code yX0_pointInBuffer cX0_pointInBuffer 3 (some .int) :: ((wsX0_pointInBuffer_r1 ++ (wsX0_pointInBuffer_r2 ++ wsX0_pointInBuffer_r3)) ++ wsX00)
def wsX0_digitEnds : List Cond := .code yX0_digitEnds cX0_digitEnds 2 (some .boolean) :: ([.fieldLink RX0 9 "TraverseBoard" "buffer" "[I", .methodLink RX0 35 yX0_inRange, .static yX0_inRange, .initialized RX0, .code yX0_inRange cX0_inRange 3 (some .boolean)] ++ wsX00)
def wsX0_number : List Cond := .code yX0_number cX0_number 5 (some .int) :: ([.fieldLink RX0 9 "TraverseBoard" "buffer" "[I"] ++ wsX00)
def wsX0_digitAllowed : List Cond := .code yX0_digitAllowed cX0_digitAllowed 3 (some .boolean) :: ([.methodLink RX0 66 yX0_digitEnds, .instanceMethod yX0_digitEnds, .selects RX0 yX0_digitEnds yX0_digitEnds, .initialized RX0, .code yX0_digitEnds cX0_digitEnds 2 (some .boolean), .fieldLink RX0 9 "TraverseBoard" "buffer" "[I", .methodLink RX0 35 yX0_inRange, .static yX0_inRange, .code yX0_inRange cX0_inRange 3 (some .boolean), .methodLink RX0 74 yX0_number, .instanceMethod yX0_number, .selects RX0 yX0_number yX0_number, .code yX0_number cX0_number 5 (some .int)] ++ wsX00)
def wsX0_speedEnd : List Cond := .code yX0_speedEnd cX0_speedEnd 3 (some .int) :: ([.fieldLink RX0 41 "TraverseBoard" "bufferLength" "I", .methodLink RX0 89 yX0_digitAllowed, .instanceMethod yX0_digitAllowed, .selects RX0 yX0_digitAllowed yX0_digitAllowed, .initialized RX0, .code yX0_digitAllowed cX0_digitAllowed 3 (some .boolean), .methodLink RX0 66 yX0_digitEnds, .instanceMethod yX0_digitEnds, .selects RX0 yX0_digitEnds yX0_digitEnds, .code yX0_digitEnds cX0_digitEnds 2 (some .boolean), .fieldLink RX0 9 "TraverseBoard" "buffer" "[I", .methodLink RX0 35 yX0_inRange, .static yX0_inRange, .code yX0_inRange cX0_inRange 3 (some .boolean), .methodLink RX0 74 yX0_number, .instanceMethod yX0_number, .selects RX0 yX0_number yX0_number, .code yX0_number cX0_number 5 (some .int)] ++ wsX00)
def wsX0_errorPosition_r1 : List Cond := [Cond.methodLink RX0 47 yX0_pointInBuffer, Cond.instanceMethod yX0_pointInBuffer, Cond.selects RX0 yX0_pointInBuffer yX0_pointInBuffer, Cond.initialized RX0, Cond.code yX0_pointInBuffer cX0_pointInBuffer 3 (some .int), Cond.methodLink RX0 51 yX0_agreement, Cond.instanceMethod yX0_agreement, Cond.selects RX0 yX0_agreement yX0_agreement, Cond.code yX0_agreement cX0_agreement 3 (some .int), Cond.fieldLink RX0 41 "TraverseBoard" "bufferLength" "I", Cond.fieldLink RX0 9 "TraverseBoard" "buffer" "[I", Cond.methodLink RX0 55 yX0_blankEnds, Cond.instanceMethod yX0_blankEnds, Cond.selects RX0 yX0_blankEnds yX0_blankEnds, Cond.code yX0_blankEnds cX0_blankEnds 2 (some .boolean), Cond.methodLink RX0 83 yJ0_charAt_5068e, Cond.instanceMethod yJ0_charAt_5068e, Cond.selects RJ0 yJ0_charAt_5068e yJ0_charAt_5068e, Cond.initialized RJ0, Cond.code yJ0_charAt_5068e cJ0_charAt_5068e 2 (some .char), Cond.fieldLink RJ0 9 "java/lang/String" "value" "[B", Cond.methodLink RJ0 492 yJ0_isLatin1_aae02, Cond.instanceMethod yJ0_isLatin1_aae02, Cond.selects RJ0 yJ0_isLatin1_aae02 yJ0_isLatin1_aae02]
def wsX0_errorPosition_r2 : List Cond := [Cond.code yJ0_isLatin1_aae02 cJ0_isLatin1_aae02 1 (some .boolean), Cond.fieldLink RJ0 38 "java/lang/String" "COMPACT_STRINGS" "Z", Cond.fieldLink RJ0 15 "java/lang/String" "coder" "B", Cond.methodLink RJ0 495 yJ1_charAt_3b067, Cond.static yJ1_charAt_3b067, Cond.initialized RJ1, Cond.code yJ1_charAt_3b067 cJ1_charAt_3b067 2 (some .char), Cond.methodLink RJ1 9 yJ0_checkIndex_df160, Cond.static yJ0_checkIndex_df160, Cond.code yJ0_checkIndex_df160 cJ0_checkIndex_df160 2 none, Cond.fieldLink RJ0 1053 "jdk/internal/util/Preconditions" "SIOOBE_FORMATTER" "Ljava/util/function/BiFunction;", Cond.methodLink RJ0 1059 yJ3_checkIndex_8e157, Cond.static yJ3_checkIndex_8e157, Cond.initialized RJ3, Cond.code yJ3_checkIndex_8e157 cJ3_checkIndex_8e157 3 (some .int), Cond.methodLink RJ0 498 yJ2_charAt_3b067, Cond.static yJ2_charAt_3b067, Cond.initialized RJ2, Cond.code yJ2_charAt_3b067 cJ2_charAt_3b067 2 (some .char), Cond.methodLink RJ2 67 yJ2_checkIndex_2214a, Cond.static yJ2_checkIndex_2214a, Cond.code yJ2_checkIndex_2214a cJ2_checkIndex_2214a 2 none, Cond.methodLink RJ2 48 yJ2_length_9d52b, Cond.static yJ2_length_9d52b]
def wsX0_errorPosition_r3 : List Cond := [Cond.code yJ2_length_9d52b cJ2_length_9d52b 1 (some .int), Cond.methodLink RJ2 414 yJ0_checkIndex_df160, Cond.methodLink RJ2 71 yJ2_getChar_3b067, Cond.static yJ2_getChar_3b067, Cond.code yJ2_getChar_3b067 cJ2_getChar_3b067 2 (some .char), Cond.fieldLink RJ2 44 "java/lang/StringUTF16" "$assertionsDisabled" "Z", Cond.fieldLink RJ2 59 "java/lang/StringUTF16" "HI_BYTE_SHIFT" "I", Cond.fieldLink RJ2 63 "java/lang/StringUTF16" "LO_BYTE_SHIFT" "I", Cond.methodLink RX0 59 yX0_speedEnd, Cond.instanceMethod yX0_speedEnd, Cond.selects RX0 yX0_speedEnd yX0_speedEnd, Cond.code yX0_speedEnd cX0_speedEnd 3 (some .int), Cond.methodLink RX0 89 yX0_digitAllowed, Cond.instanceMethod yX0_digitAllowed, Cond.selects RX0 yX0_digitAllowed yX0_digitAllowed, Cond.code yX0_digitAllowed cX0_digitAllowed 3 (some .boolean), Cond.methodLink RX0 66 yX0_digitEnds, Cond.instanceMethod yX0_digitEnds, Cond.selects RX0 yX0_digitEnds yX0_digitEnds, Cond.code yX0_digitEnds cX0_digitEnds 2 (some .boolean), Cond.methodLink RX0 35 yX0_inRange, Cond.static yX0_inRange, Cond.code yX0_inRange cX0_inRange 3 (some .boolean), Cond.methodLink RX0 74 yX0_number]
def wsX0_errorPosition_r4 : List Cond := [Cond.instanceMethod yX0_number, Cond.selects RX0 yX0_number yX0_number, Cond.code yX0_number cX0_number 5 (some .int)]
def wsX0_errorPosition : List Cond := .code yX0_errorPosition cX0_errorPosition 2 (some .long) :: ((wsX0_errorPosition_r1 ++ (wsX0_errorPosition_r2 ++ (wsX0_errorPosition_r3 ++ wsX0_errorPosition_r4))) ++ wsX00)
def wsX0_put : List Cond := .code yX0_put cX0_put 4 none :: ([.fieldLink RX0 13 "TraverseBoard" "points" "[I", .fieldLink RX0 16 "TraverseBoard" "speeds" "[I", .fieldLink RX0 22 "TraverseBoard" "lost" "[Z"] ++ wsX00)
def wsX0_putBehindLast : List Cond := .code yX0_putBehindLast cX0_putBehindLast 4 (some .int) :: ([.fieldLink RX0 71 "TraverseBoard" "pegs" "I", .fieldLink RX0 19 "TraverseBoard" "leeways" "[I", .methodLink RX0 104 yX0_put, .instanceMethod yX0_put, .selects RX0 yX0_put yX0_put, .initialized RX0, .code yX0_put cX0_put 4 none, .fieldLink RX0 13 "TraverseBoard" "points" "[I", .fieldLink RX0 16 "TraverseBoard" "speeds" "[I", .fieldLink RX0 22 "TraverseBoard" "lost" "[Z"] ++ wsX00)
def wsX0_addFromBuffer_r1 : List Cond := [Cond.fieldLink RX0 41 "TraverseBoard" "bufferLength" "I", Cond.constantLong RX0 69 (-9000000000000000005), Cond.fieldLink RX0 71 "TraverseBoard" "pegs" "I", Cond.constantLong RX0 45 (-9000000000000000004), Cond.methodLink RX0 62 yX0_errorPosition, Cond.instanceMethod yX0_errorPosition, Cond.selects RX0 yX0_errorPosition yX0_errorPosition, Cond.initialized RX0, Cond.code yX0_errorPosition cX0_errorPosition 2 (some .long), Cond.methodLink RX0 47 yX0_pointInBuffer, Cond.instanceMethod yX0_pointInBuffer, Cond.selects RX0 yX0_pointInBuffer yX0_pointInBuffer, Cond.code yX0_pointInBuffer cX0_pointInBuffer 3 (some .int), Cond.methodLink RX0 51 yX0_agreement, Cond.instanceMethod yX0_agreement, Cond.selects RX0 yX0_agreement yX0_agreement, Cond.code yX0_agreement cX0_agreement 3 (some .int), Cond.fieldLink RX0 9 "TraverseBoard" "buffer" "[I", Cond.methodLink RX0 55 yX0_blankEnds, Cond.instanceMethod yX0_blankEnds, Cond.selects RX0 yX0_blankEnds yX0_blankEnds, Cond.code yX0_blankEnds cX0_blankEnds 2 (some .boolean), Cond.methodLink RX0 83 yJ0_charAt_5068e, Cond.instanceMethod yJ0_charAt_5068e]
def wsX0_addFromBuffer_r2 : List Cond := [Cond.selects RJ0 yJ0_charAt_5068e yJ0_charAt_5068e, Cond.initialized RJ0, Cond.code yJ0_charAt_5068e cJ0_charAt_5068e 2 (some .char), Cond.fieldLink RJ0 9 "java/lang/String" "value" "[B", Cond.methodLink RJ0 492 yJ0_isLatin1_aae02, Cond.instanceMethod yJ0_isLatin1_aae02, Cond.selects RJ0 yJ0_isLatin1_aae02 yJ0_isLatin1_aae02, Cond.code yJ0_isLatin1_aae02 cJ0_isLatin1_aae02 1 (some .boolean), Cond.fieldLink RJ0 38 "java/lang/String" "COMPACT_STRINGS" "Z", Cond.fieldLink RJ0 15 "java/lang/String" "coder" "B", Cond.methodLink RJ0 495 yJ1_charAt_3b067, Cond.static yJ1_charAt_3b067, Cond.initialized RJ1, Cond.code yJ1_charAt_3b067 cJ1_charAt_3b067 2 (some .char), Cond.methodLink RJ1 9 yJ0_checkIndex_df160, Cond.static yJ0_checkIndex_df160, Cond.code yJ0_checkIndex_df160 cJ0_checkIndex_df160 2 none, Cond.fieldLink RJ0 1053 "jdk/internal/util/Preconditions" "SIOOBE_FORMATTER" "Ljava/util/function/BiFunction;", Cond.methodLink RJ0 1059 yJ3_checkIndex_8e157, Cond.static yJ3_checkIndex_8e157, Cond.initialized RJ3, Cond.code yJ3_checkIndex_8e157 cJ3_checkIndex_8e157 3 (some .int), Cond.methodLink RJ0 498 yJ2_charAt_3b067, Cond.static yJ2_charAt_3b067]
def wsX0_addFromBuffer_r3 : List Cond := [Cond.initialized RJ2, Cond.code yJ2_charAt_3b067 cJ2_charAt_3b067 2 (some .char), Cond.methodLink RJ2 67 yJ2_checkIndex_2214a, Cond.static yJ2_checkIndex_2214a, Cond.code yJ2_checkIndex_2214a cJ2_checkIndex_2214a 2 none, Cond.methodLink RJ2 48 yJ2_length_9d52b, Cond.static yJ2_length_9d52b, Cond.code yJ2_length_9d52b cJ2_length_9d52b 1 (some .int), Cond.methodLink RJ2 414 yJ0_checkIndex_df160, Cond.methodLink RJ2 71 yJ2_getChar_3b067, Cond.static yJ2_getChar_3b067, Cond.code yJ2_getChar_3b067 cJ2_getChar_3b067 2 (some .char), Cond.fieldLink RJ2 44 "java/lang/StringUTF16" "$assertionsDisabled" "Z", Cond.fieldLink RJ2 59 "java/lang/StringUTF16" "HI_BYTE_SHIFT" "I", Cond.fieldLink RJ2 63 "java/lang/StringUTF16" "LO_BYTE_SHIFT" "I", Cond.methodLink RX0 59 yX0_speedEnd, Cond.instanceMethod yX0_speedEnd, Cond.selects RX0 yX0_speedEnd yX0_speedEnd, Cond.code yX0_speedEnd cX0_speedEnd 3 (some .int), Cond.methodLink RX0 89 yX0_digitAllowed, Cond.instanceMethod yX0_digitAllowed, Cond.selects RX0 yX0_digitAllowed yX0_digitAllowed, Cond.code yX0_digitAllowed cX0_digitAllowed 3 (some .boolean), Cond.methodLink RX0 66 yX0_digitEnds]
def wsX0_addFromBuffer_r4 : List Cond := [Cond.instanceMethod yX0_digitEnds, Cond.selects RX0 yX0_digitEnds yX0_digitEnds, Cond.code yX0_digitEnds cX0_digitEnds 2 (some .boolean), Cond.methodLink RX0 35 yX0_inRange, Cond.static yX0_inRange, Cond.code yX0_inRange cX0_inRange 3 (some .boolean), Cond.methodLink RX0 74 yX0_number, Cond.instanceMethod yX0_number, Cond.selects RX0 yX0_number yX0_number, Cond.code yX0_number cX0_number 5 (some .int), Cond.methodLink RX0 78 yX0_putBehindLast, Cond.instanceMethod yX0_putBehindLast, Cond.selects RX0 yX0_putBehindLast yX0_putBehindLast, Cond.code yX0_putBehindLast cX0_putBehindLast 4 (some .int), Cond.fieldLink RX0 19 "TraverseBoard" "leeways" "[I", Cond.methodLink RX0 104 yX0_put, Cond.instanceMethod yX0_put, Cond.selects RX0 yX0_put yX0_put, Cond.code yX0_put cX0_put 4 none, Cond.fieldLink RX0 13 "TraverseBoard" "points" "[I", Cond.fieldLink RX0 16 "TraverseBoard" "speeds" "[I", Cond.fieldLink RX0 22 "TraverseBoard" "lost" "[Z"]
def wsX0_addFromBuffer : List Cond := .code yX0_addFromBuffer cX0_addFromBuffer 3 (some .long) :: ((wsX0_addFromBuffer_r1 ++ (wsX0_addFromBuffer_r2 ++ (wsX0_addFromBuffer_r3 ++ wsX0_addFromBuffer_r4))) ++ wsX00)
def wsX0_isPoint : List Cond := .code yX0_isPoint cX0_isPoint 1 (some .boolean) :: ([.methodLink RX0 35 yX0_inRange, .static yX0_inRange, .initialized RX0, .code yX0_inRange cX0_inRange 3 (some .boolean)])
def wsX0_isSpeed : List Cond := .code yX0_isSpeed cX0_isSpeed 1 (some .boolean) :: ([.methodLink RX0 35 yX0_inRange, .static yX0_inRange, .initialized RX0, .code yX0_inRange cX0_inRange 3 (some .boolean)])
def wsX0_add_r1 : List Cond := [Cond.constantLong RX0 39 (-9000000000000000001), Cond.fieldLink RX0 71 "TraverseBoard" "pegs" "I", Cond.constantLong RX0 45 (-9000000000000000004), Cond.methodLink RX0 93 yX0_isPoint, Cond.static yX0_isPoint, Cond.initialized RX0, Cond.code yX0_isPoint cX0_isPoint 1 (some .boolean), Cond.methodLink RX0 35 yX0_inRange, Cond.static yX0_inRange, Cond.code yX0_inRange cX0_inRange 3 (some .boolean), Cond.methodLink RX0 96 yX0_isSpeed, Cond.static yX0_isSpeed, Cond.code yX0_isSpeed cX0_isSpeed 1 (some .boolean), Cond.methodLink RX0 78 yX0_putBehindLast, Cond.instanceMethod yX0_putBehindLast, Cond.selects RX0 yX0_putBehindLast yX0_putBehindLast, Cond.code yX0_putBehindLast cX0_putBehindLast 4 (some .int), Cond.fieldLink RX0 19 "TraverseBoard" "leeways" "[I", Cond.methodLink RX0 104 yX0_put, Cond.instanceMethod yX0_put, Cond.selects RX0 yX0_put yX0_put, Cond.code yX0_put cX0_put 4 none, Cond.fieldLink RX0 13 "TraverseBoard" "points" "[I", Cond.fieldLink RX0 16 "TraverseBoard" "speeds" "[I"]
def wsX0_add_r2 : List Cond := [Cond.fieldLink RX0 22 "TraverseBoard" "lost" "[Z"]
def wsX0_add : List Cond := .code yX0_add cX0_add 3 (some .long) :: ((wsX0_add_r1 ++ wsX0_add_r2) ++ wsX00)
def wsX0_pegExists : List Cond := .code yX0_pegExists cX0_pegExists 2 (some .boolean) :: ([.fieldLink RX0 71 "TraverseBoard" "pegs" "I", .methodLink RX0 35 yX0_inRange, .static yX0_inRange, .initialized RX0, .code yX0_inRange cX0_inRange 3 (some .boolean)] ++ wsX00)
def wsX0_replace : List Cond := .code yX0_replace cX0_replace 5 (some .long) :: ([.constantLong RX0 102 (-9000000000000000002), .constantLong RX0 39 (-9000000000000000001), .fieldLink RX0 22 "TraverseBoard" "lost" "[Z", .methodLink RX0 99 yX0_pegExists, .instanceMethod yX0_pegExists, .selects RX0 yX0_pegExists yX0_pegExists, .initialized RX0, .code yX0_pegExists cX0_pegExists 2 (some .boolean), .fieldLink RX0 71 "TraverseBoard" "pegs" "I", .methodLink RX0 35 yX0_inRange, .static yX0_inRange, .code yX0_inRange cX0_inRange 3 (some .boolean), .methodLink RX0 93 yX0_isPoint, .static yX0_isPoint, .code yX0_isPoint cX0_isPoint 1 (some .boolean), .methodLink RX0 96 yX0_isSpeed, .static yX0_isSpeed, .code yX0_isSpeed cX0_isSpeed 1 (some .boolean), .methodLink RX0 104 yX0_put, .instanceMethod yX0_put, .selects RX0 yX0_put yX0_put, .code yX0_put cX0_put 4 none, .fieldLink RX0 13 "TraverseBoard" "points" "[I", .fieldLink RX0 16 "TraverseBoard" "speeds" "[I"] ++ wsX00)
def wsX0_removeLast : List Cond := .code yX0_removeLast cX0_removeLast 1 (some .long) :: ([.fieldLink RX0 71 "TraverseBoard" "pegs" "I", .constantLong RX0 108 (-9000000000000000007), .fieldLink RX0 26 "TraverseBoard" "fixed" "[Z"] ++ wsX00)
def wsX0_lostCount : List Cond := .code yX0_lostCount cX0_lostCount 5 (some .int) :: ([.fieldLink RX0 22 "TraverseBoard" "lost" "[Z"] ++ wsX00)
def wsX0_lose : List Cond := .code yX0_lose cX0_lose 2 (some .long) :: ([.constantLong RX0 102 (-9000000000000000002), .fieldLink RX0 22 "TraverseBoard" "lost" "[Z", .constantLong RX0 110 (-9000000000000000006), .fieldLink RX0 71 "TraverseBoard" "pegs" "I", .methodLink RX0 99 yX0_pegExists, .instanceMethod yX0_pegExists, .selects RX0 yX0_pegExists yX0_pegExists, .initialized RX0, .code yX0_pegExists cX0_pegExists 2 (some .boolean), .methodLink RX0 35 yX0_inRange, .static yX0_inRange, .code yX0_inRange cX0_inRange 3 (some .boolean), .methodLink RX0 112 yX0_lostCount, .instanceMethod yX0_lostCount, .selects RX0 yX0_lostCount yX0_lostCount, .code yX0_lostCount cX0_lostCount 5 (some .int)] ++ wsX00)
def wsX0_setLeeway : List Cond := .code yX0_setLeeway cX0_setLeeway 4 (some .long) :: ([.constantLong RX0 102 (-9000000000000000002), .constantLong RX0 39 (-9000000000000000001), .fieldLink RX0 19 "TraverseBoard" "leeways" "[I", .methodLink RX0 99 yX0_pegExists, .instanceMethod yX0_pegExists, .selects RX0 yX0_pegExists yX0_pegExists, .initialized RX0, .code yX0_pegExists cX0_pegExists 2 (some .boolean), .fieldLink RX0 71 "TraverseBoard" "pegs" "I", .methodLink RX0 35 yX0_inRange, .static yX0_inRange, .code yX0_inRange cX0_inRange 3 (some .boolean)] ++ wsX00)
def wsX0_setCurrent : List Cond := .code yX0_setCurrent cX0_setCurrent 4 (some .long) :: ([.constantLong RX0 39 (-9000000000000000001), .fieldLink RX0 115 "TraverseBoard" "drift" "I", .fieldLink RX0 118 "TraverseBoard" "set" "I", .methodLink RX0 93 yX0_isPoint, .static yX0_isPoint, .initialized RX0, .code yX0_isPoint cX0_isPoint 1 (some .boolean), .methodLink RX0 35 yX0_inRange, .static yX0_inRange, .code yX0_inRange cX0_inRange 3 (some .boolean)] ++ wsX00)
def wsX0_pegCount : List Cond := .code yX0_pegCount cX0_pegCount 1 (some .long) :: ([.fieldLink RX0 71 "TraverseBoard" "pegs" "I"] ++ wsX00)
def wsX0_pointOf : List Cond := .code yX0_pointOf cX0_pointOf 2 (some .long) :: ([.constantLong RX0 102 (-9000000000000000002), .fieldLink RX0 22 "TraverseBoard" "lost" "[Z", .constantLong RX0 110 (-9000000000000000006), .fieldLink RX0 13 "TraverseBoard" "points" "[I", .methodLink RX0 99 yX0_pegExists, .instanceMethod yX0_pegExists, .selects RX0 yX0_pegExists yX0_pegExists, .initialized RX0, .code yX0_pegExists cX0_pegExists 2 (some .boolean), .fieldLink RX0 71 "TraverseBoard" "pegs" "I", .methodLink RX0 35 yX0_inRange, .static yX0_inRange, .code yX0_inRange cX0_inRange 3 (some .boolean)] ++ wsX00)
def wsX0_speedOf : List Cond := .code yX0_speedOf cX0_speedOf 2 (some .long) :: ([.constantLong RX0 102 (-9000000000000000002), .fieldLink RX0 22 "TraverseBoard" "lost" "[Z", .constantLong RX0 110 (-9000000000000000006), .fieldLink RX0 16 "TraverseBoard" "speeds" "[I", .methodLink RX0 99 yX0_pegExists, .instanceMethod yX0_pegExists, .selects RX0 yX0_pegExists yX0_pegExists, .initialized RX0, .code yX0_pegExists cX0_pegExists 2 (some .boolean), .fieldLink RX0 71 "TraverseBoard" "pegs" "I", .methodLink RX0 35 yX0_inRange, .static yX0_inRange, .code yX0_inRange cX0_inRange 3 (some .boolean)] ++ wsX00)
def wsX0_speedTowards : List Cond := .code yX0_speedTowards cX0_speedTowards 4 (some .long) :: ([.constantLong RX0 39 (-9000000000000000001), .fieldLink RX0 71 "TraverseBoard" "pegs" "I", .fieldLink RX0 22 "TraverseBoard" "lost" "[Z", .fieldLink RX0 13 "TraverseBoard" "points" "[I", .fieldLink RX0 16 "TraverseBoard" "speeds" "[I", .methodLink RX0 93 yX0_isPoint, .static yX0_isPoint, .initialized RX0, .code yX0_isPoint cX0_isPoint 1 (some .boolean), .methodLink RX0 35 yX0_inRange, .static yX0_inRange, .code yX0_inRange cX0_inRange 3 (some .boolean)] ++ wsX00)
def wsX0_firstLost : List Cond := .code yX0_firstLost cX0_firstLost 2 (some .int) :: ([.fieldLink RX0 71 "TraverseBoard" "pegs" "I", .fieldLink RX0 22 "TraverseBoard" "lost" "[Z"] ++ wsX00)
def wsX0_fixCanStand : List Cond := .code yX0_fixCanStand cX0_fixCanStand 2 (some .boolean) :: ([.fieldLink RX0 71 "TraverseBoard" "pegs" "I", .methodLink RX0 35 yX0_inRange, .static yX0_inRange, .initialized RX0, .code yX0_inRange cX0_inRange 3 (some .boolean)] ++ wsX00)
def wsX0_isCoordinate : List Cond := .code yX0_isCoordinate cX0_isCoordinate 1 (some .boolean) :: ([.constant RX0 132 (-200000000), .constant RX0 133 (200000000), .methodLink RX0 35 yX0_inRange, .static yX0_inRange, .initialized RX0, .code yX0_inRange cX0_inRange 3 (some .boolean)])
def wsX0_fixCount : List Cond := .code yX0_fixCount cX0_fixCount 3 (some .int) :: ([.fieldLink RX0 71 "TraverseBoard" "pegs" "I", .fieldLink RX0 26 "TraverseBoard" "fixed" "[Z"] ++ wsX00)
def wsX0_setFix : List Cond := .code yX0_setFix cX0_setFix 4 (some .long) :: ([.constantLong RX0 124 (-9000000000000000003), .constantLong RX0 39 (-9000000000000000001), .fieldLink RX0 26 "TraverseBoard" "fixed" "[Z", .fieldLink RX0 29 "TraverseBoard" "fixNorths" "[I", .fieldLink RX0 32 "TraverseBoard" "fixEasts" "[I", .methodLink RX0 121 yX0_fixCanStand, .instanceMethod yX0_fixCanStand, .selects RX0 yX0_fixCanStand yX0_fixCanStand, .initialized RX0, .code yX0_fixCanStand cX0_fixCanStand 2 (some .boolean), .fieldLink RX0 71 "TraverseBoard" "pegs" "I", .methodLink RX0 35 yX0_inRange, .static yX0_inRange, .code yX0_inRange cX0_inRange 3 (some .boolean), .methodLink RX0 126 yX0_isCoordinate, .static yX0_isCoordinate, .code yX0_isCoordinate cX0_isCoordinate 1 (some .boolean), .constant RX0 132 (-200000000), .constant RX0 133 (200000000), .methodLink RX0 129 yX0_fixCount, .instanceMethod yX0_fixCount, .selects RX0 yX0_fixCount yX0_fixCount, .code yX0_fixCount cX0_fixCount 3 (some .int)] ++ wsX00)
def wsX0_removeFix : List Cond := .code yX0_removeFix cX0_removeFix 2 (some .long) :: ([.constantLong RX0 124 (-9000000000000000003), .fieldLink RX0 26 "TraverseBoard" "fixed" "[Z", .constantLong RX0 108 (-9000000000000000007), .methodLink RX0 121 yX0_fixCanStand, .instanceMethod yX0_fixCanStand, .selects RX0 yX0_fixCanStand yX0_fixCanStand, .initialized RX0, .code yX0_fixCanStand cX0_fixCanStand 2 (some .boolean), .fieldLink RX0 71 "TraverseBoard" "pegs" "I", .methodLink RX0 35 yX0_inRange, .static yX0_inRange, .code yX0_inRange cX0_inRange 3 (some .boolean), .methodLink RX0 129 yX0_fixCount, .instanceMethod yX0_fixCount, .selects RX0 yX0_fixCount yX0_fixCount, .code yX0_fixCount cX0_fixCount 3 (some .int)] ++ wsX00)
def wsX0_lastFix : List Cond := .code yX0_lastFix cX0_lastFix 3 (some .int) :: ([.fieldLink RX0 26 "TraverseBoard" "fixed" "[Z"] ++ wsX00)
def wsX0_firstFixAfter : List Cond := .code yX0_firstFixAfter cX0_firstFixAfter 3 (some .int) :: ([.fieldLink RX0 71 "TraverseBoard" "pegs" "I", .fieldLink RX0 26 "TraverseBoard" "fixed" "[Z"] ++ wsX00)
def wsX0_fix : List Cond := .code yX0_fix cX0_fix 3 (some .int) :: ([.fieldLink RX0 29 "TraverseBoard" "fixNorths" "[I", .fieldLink RX0 32 "TraverseBoard" "fixEasts" "[I"] ++ wsX00)
def wsX0_momentExists : List Cond := .code yX0_momentExists cX0_momentExists 2 (some .boolean) :: ([.fieldLink RX0 71 "TraverseBoard" "pegs" "I", .methodLink RX0 35 yX0_inRange, .static yX0_inRange, .initialized RX0, .code yX0_inRange cX0_inRange 3 (some .boolean)] ++ wsX00)
def wsJ9_floorMod_7cf53 : List Cond := .code yJ9_floorMod_7cf53 cJ9_floorMod_7cf53 3 (some .int) :: ([])
def wsX0_movement : List Cond := .code yX0_movement cX0_movement 3 (some .long) :: ([.fieldLink RX0 187 "TraverseBoard" "SIN" "[I", .methodLink RX0 190 yJ9_floorMod_7cf53, .static yJ9_floorMod_7cf53, .initialized RJ9, .code yJ9_floorMod_7cf53 cJ9_floorMod_7cf53 3 (some .int)])
def wsX0_legs : List Cond := .code yX0_legs cX0_legs 7 (some .long) :: ([.fieldLink RX0 118 "TraverseBoard" "set" "I", .fieldLink RX0 115 "TraverseBoard" "drift" "I", .fieldLink RX0 22 "TraverseBoard" "lost" "[Z", .fieldLink RX0 13 "TraverseBoard" "points" "[I", .fieldLink RX0 19 "TraverseBoard" "leeways" "[I", .fieldLink RX0 16 "TraverseBoard" "speeds" "[I", .methodLink RX0 184 yX0_movement, .static yX0_movement, .initialized RX0, .code yX0_movement cX0_movement 3 (some .long), .fieldLink RX0 187 "TraverseBoard" "SIN" "[I", .methodLink RX0 190 yJ9_floorMod_7cf53, .static yJ9_floorMod_7cf53, .initialized RJ9, .code yJ9_floorMod_7cf53 cJ9_floorMod_7cf53 3 (some .int)] ++ wsX00)
def wsX0_reckoned_r1 : List Cond := [Cond.methodLink RX0 160 yX0_lastFix, Cond.instanceMethod yX0_lastFix, Cond.selects RX0 yX0_lastFix yX0_lastFix, Cond.initialized RX0, Cond.code yX0_lastFix cX0_lastFix 3 (some .int), Cond.fieldLink RX0 26 "TraverseBoard" "fixed" "[Z", Cond.methodLink RX0 173 yX0_fix, Cond.instanceMethod yX0_fix, Cond.selects RX0 yX0_fix yX0_fix, Cond.code yX0_fix cX0_fix 3 (some .int), Cond.fieldLink RX0 29 "TraverseBoard" "fixNorths" "[I", Cond.fieldLink RX0 32 "TraverseBoard" "fixEasts" "[I", Cond.methodLink RX0 176 yX0_legs, Cond.instanceMethod yX0_legs, Cond.selects RX0 yX0_legs yX0_legs, Cond.code yX0_legs cX0_legs 7 (some .long), Cond.fieldLink RX0 118 "TraverseBoard" "set" "I", Cond.fieldLink RX0 115 "TraverseBoard" "drift" "I", Cond.fieldLink RX0 22 "TraverseBoard" "lost" "[Z", Cond.fieldLink RX0 13 "TraverseBoard" "points" "[I", Cond.fieldLink RX0 19 "TraverseBoard" "leeways" "[I", Cond.fieldLink RX0 16 "TraverseBoard" "speeds" "[I", Cond.methodLink RX0 184 yX0_movement, Cond.static yX0_movement]
def wsX0_reckoned_r2 : List Cond := [Cond.code yX0_movement cX0_movement 3 (some .long), Cond.fieldLink RX0 187 "TraverseBoard" "SIN" "[I", Cond.methodLink RX0 190 yJ9_floorMod_7cf53, Cond.static yJ9_floorMod_7cf53, Cond.initialized RJ9, Cond.code yJ9_floorMod_7cf53 cJ9_floorMod_7cf53 3 (some .int)]
def wsX0_reckoned : List Cond := .code yX0_reckoned cX0_reckoned 4 (some .long) :: ((wsX0_reckoned_r1 ++ wsX0_reckoned_r2) ++ wsX00)
def wsX0_reckonedNorth_r1 : List Cond := [Cond.constantLong RX0 124 (-9000000000000000003), Cond.methodLink RX0 134 yX0_momentExists, Cond.instanceMethod yX0_momentExists, Cond.selects RX0 yX0_momentExists yX0_momentExists, Cond.initialized RX0, Cond.code yX0_momentExists cX0_momentExists 2 (some .boolean), Cond.fieldLink RX0 71 "TraverseBoard" "pegs" "I", Cond.methodLink RX0 35 yX0_inRange, Cond.static yX0_inRange, Cond.code yX0_inRange cX0_inRange 3 (some .boolean), Cond.methodLink RX0 137 yX0_reckoned, Cond.instanceMethod yX0_reckoned, Cond.selects RX0 yX0_reckoned yX0_reckoned, Cond.code yX0_reckoned cX0_reckoned 4 (some .long), Cond.methodLink RX0 160 yX0_lastFix, Cond.instanceMethod yX0_lastFix, Cond.selects RX0 yX0_lastFix yX0_lastFix, Cond.code yX0_lastFix cX0_lastFix 3 (some .int), Cond.fieldLink RX0 26 "TraverseBoard" "fixed" "[Z", Cond.methodLink RX0 173 yX0_fix, Cond.instanceMethod yX0_fix, Cond.selects RX0 yX0_fix yX0_fix, Cond.code yX0_fix cX0_fix 3 (some .int), Cond.fieldLink RX0 29 "TraverseBoard" "fixNorths" "[I"]
def wsX0_reckonedNorth_r2 : List Cond := [Cond.fieldLink RX0 32 "TraverseBoard" "fixEasts" "[I", Cond.methodLink RX0 176 yX0_legs, Cond.instanceMethod yX0_legs, Cond.selects RX0 yX0_legs yX0_legs, Cond.code yX0_legs cX0_legs 7 (some .long), Cond.fieldLink RX0 118 "TraverseBoard" "set" "I", Cond.fieldLink RX0 115 "TraverseBoard" "drift" "I", Cond.fieldLink RX0 22 "TraverseBoard" "lost" "[Z", Cond.fieldLink RX0 13 "TraverseBoard" "points" "[I", Cond.fieldLink RX0 19 "TraverseBoard" "leeways" "[I", Cond.fieldLink RX0 16 "TraverseBoard" "speeds" "[I", Cond.methodLink RX0 184 yX0_movement, Cond.static yX0_movement, Cond.code yX0_movement cX0_movement 3 (some .long), Cond.fieldLink RX0 187 "TraverseBoard" "SIN" "[I", Cond.methodLink RX0 190 yJ9_floorMod_7cf53, Cond.static yJ9_floorMod_7cf53, Cond.initialized RJ9, Cond.code yJ9_floorMod_7cf53 cJ9_floorMod_7cf53 3 (some .int)]
def wsX0_reckonedNorth : List Cond := .code yX0_reckonedNorth cX0_reckonedNorth 2 (some .long) :: ((wsX0_reckonedNorth_r1 ++ wsX0_reckonedNorth_r2) ++ wsX00)
def wsX0_reckonedEast_r1 : List Cond := [Cond.constantLong RX0 124 (-9000000000000000003), Cond.methodLink RX0 134 yX0_momentExists, Cond.instanceMethod yX0_momentExists, Cond.selects RX0 yX0_momentExists yX0_momentExists, Cond.initialized RX0, Cond.code yX0_momentExists cX0_momentExists 2 (some .boolean), Cond.fieldLink RX0 71 "TraverseBoard" "pegs" "I", Cond.methodLink RX0 35 yX0_inRange, Cond.static yX0_inRange, Cond.code yX0_inRange cX0_inRange 3 (some .boolean), Cond.methodLink RX0 137 yX0_reckoned, Cond.instanceMethod yX0_reckoned, Cond.selects RX0 yX0_reckoned yX0_reckoned, Cond.code yX0_reckoned cX0_reckoned 4 (some .long), Cond.methodLink RX0 160 yX0_lastFix, Cond.instanceMethod yX0_lastFix, Cond.selects RX0 yX0_lastFix yX0_lastFix, Cond.code yX0_lastFix cX0_lastFix 3 (some .int), Cond.fieldLink RX0 26 "TraverseBoard" "fixed" "[Z", Cond.methodLink RX0 173 yX0_fix, Cond.instanceMethod yX0_fix, Cond.selects RX0 yX0_fix yX0_fix, Cond.code yX0_fix cX0_fix 3 (some .int), Cond.fieldLink RX0 29 "TraverseBoard" "fixNorths" "[I"]
def wsX0_reckonedEast_r2 : List Cond := [Cond.fieldLink RX0 32 "TraverseBoard" "fixEasts" "[I", Cond.methodLink RX0 176 yX0_legs, Cond.instanceMethod yX0_legs, Cond.selects RX0 yX0_legs yX0_legs, Cond.code yX0_legs cX0_legs 7 (some .long), Cond.fieldLink RX0 118 "TraverseBoard" "set" "I", Cond.fieldLink RX0 115 "TraverseBoard" "drift" "I", Cond.fieldLink RX0 22 "TraverseBoard" "lost" "[Z", Cond.fieldLink RX0 13 "TraverseBoard" "points" "[I", Cond.fieldLink RX0 19 "TraverseBoard" "leeways" "[I", Cond.fieldLink RX0 16 "TraverseBoard" "speeds" "[I", Cond.methodLink RX0 184 yX0_movement, Cond.static yX0_movement, Cond.code yX0_movement cX0_movement 3 (some .long), Cond.fieldLink RX0 187 "TraverseBoard" "SIN" "[I", Cond.methodLink RX0 190 yJ9_floorMod_7cf53, Cond.static yJ9_floorMod_7cf53, Cond.initialized RJ9, Cond.code yJ9_floorMod_7cf53 cJ9_floorMod_7cf53 3 (some .int)]
def wsX0_reckonedEast : List Cond := .code yX0_reckonedEast cX0_reckonedEast 2 (some .long) :: ((wsX0_reckonedEast_r1 ++ wsX0_reckonedEast_r2) ++ wsX00)
def wsX0_error_r1 : List Cond := [Cond.methodLink RX0 173 yX0_fix, Cond.instanceMethod yX0_fix, Cond.selects RX0 yX0_fix yX0_fix, Cond.initialized RX0, Cond.code yX0_fix cX0_fix 3 (some .int), Cond.fieldLink RX0 29 "TraverseBoard" "fixNorths" "[I", Cond.fieldLink RX0 32 "TraverseBoard" "fixEasts" "[I", Cond.methodLink RX0 176 yX0_legs, Cond.instanceMethod yX0_legs, Cond.selects RX0 yX0_legs yX0_legs, Cond.code yX0_legs cX0_legs 7 (some .long), Cond.fieldLink RX0 118 "TraverseBoard" "set" "I", Cond.fieldLink RX0 115 "TraverseBoard" "drift" "I", Cond.fieldLink RX0 22 "TraverseBoard" "lost" "[Z", Cond.fieldLink RX0 13 "TraverseBoard" "points" "[I", Cond.fieldLink RX0 19 "TraverseBoard" "leeways" "[I", Cond.fieldLink RX0 16 "TraverseBoard" "speeds" "[I", Cond.methodLink RX0 184 yX0_movement, Cond.static yX0_movement, Cond.code yX0_movement cX0_movement 3 (some .long), Cond.fieldLink RX0 187 "TraverseBoard" "SIN" "[I", Cond.methodLink RX0 190 yJ9_floorMod_7cf53, Cond.static yJ9_floorMod_7cf53, Cond.initialized RJ9]
def wsX0_error_r2 : List Cond := [Cond.code yJ9_floorMod_7cf53 cJ9_floorMod_7cf53 3 (some .int)]
def wsX0_error : List Cond := .code yX0_error cX0_error 4 (some .long) :: ((wsX0_error_r1 ++ wsX0_error_r2) ++ wsX00)
def wsJ9_floorDiv_f86c9 : List Cond := .code yJ9_floorDiv_f86c9 cJ9_floorDiv_f86c9 6 (some .long) :: ([])
def wsX0_corrected_r1 : List Cond := [Cond.methodLink RX0 160 yX0_lastFix, Cond.instanceMethod yX0_lastFix, Cond.selects RX0 yX0_lastFix yX0_lastFix, Cond.initialized RX0, Cond.code yX0_lastFix cX0_lastFix 3 (some .int), Cond.fieldLink RX0 26 "TraverseBoard" "fixed" "[Z", Cond.methodLink RX0 163 yX0_firstFixAfter, Cond.instanceMethod yX0_firstFixAfter, Cond.selects RX0 yX0_firstFixAfter yX0_firstFixAfter, Cond.code yX0_firstFixAfter cX0_firstFixAfter 3 (some .int), Cond.fieldLink RX0 71 "TraverseBoard" "pegs" "I", Cond.methodLink RX0 137 yX0_reckoned, Cond.instanceMethod yX0_reckoned, Cond.selects RX0 yX0_reckoned yX0_reckoned, Cond.code yX0_reckoned cX0_reckoned 4 (some .long), Cond.methodLink RX0 173 yX0_fix, Cond.instanceMethod yX0_fix, Cond.selects RX0 yX0_fix yX0_fix, Cond.code yX0_fix cX0_fix 3 (some .int), Cond.fieldLink RX0 29 "TraverseBoard" "fixNorths" "[I", Cond.fieldLink RX0 32 "TraverseBoard" "fixEasts" "[I", Cond.methodLink RX0 176 yX0_legs, Cond.instanceMethod yX0_legs, Cond.selects RX0 yX0_legs yX0_legs]
def wsX0_corrected_r2 : List Cond := [Cond.code yX0_legs cX0_legs 7 (some .long), Cond.fieldLink RX0 118 "TraverseBoard" "set" "I", Cond.fieldLink RX0 115 "TraverseBoard" "drift" "I", Cond.fieldLink RX0 22 "TraverseBoard" "lost" "[Z", Cond.fieldLink RX0 13 "TraverseBoard" "points" "[I", Cond.fieldLink RX0 19 "TraverseBoard" "leeways" "[I", Cond.fieldLink RX0 16 "TraverseBoard" "speeds" "[I", Cond.methodLink RX0 184 yX0_movement, Cond.static yX0_movement, Cond.code yX0_movement cX0_movement 3 (some .long), Cond.fieldLink RX0 187 "TraverseBoard" "SIN" "[I", Cond.methodLink RX0 190 yJ9_floorMod_7cf53, Cond.static yJ9_floorMod_7cf53, Cond.initialized RJ9, Cond.code yJ9_floorMod_7cf53 cJ9_floorMod_7cf53 3 (some .int), Cond.methodLink RX0 166 yX0_error, Cond.instanceMethod yX0_error, Cond.selects RX0 yX0_error yX0_error, Cond.code yX0_error cX0_error 4 (some .long), Cond.methodLink RX0 179 yJ9_floorDiv_f86c9, Cond.static yJ9_floorDiv_f86c9, Cond.code yJ9_floorDiv_f86c9 cJ9_floorDiv_f86c9 6 (some .long)]
def wsX0_corrected : List Cond := .code yX0_corrected cX0_corrected 5 (some .long) :: ((wsX0_corrected_r1 ++ wsX0_corrected_r2) ++ wsX00)
def wsX0_correctedNorth_r1 : List Cond := [Cond.constantLong RX0 124 (-9000000000000000003), Cond.methodLink RX0 134 yX0_momentExists, Cond.instanceMethod yX0_momentExists, Cond.selects RX0 yX0_momentExists yX0_momentExists, Cond.initialized RX0, Cond.code yX0_momentExists cX0_momentExists 2 (some .boolean), Cond.fieldLink RX0 71 "TraverseBoard" "pegs" "I", Cond.methodLink RX0 35 yX0_inRange, Cond.static yX0_inRange, Cond.code yX0_inRange cX0_inRange 3 (some .boolean), Cond.methodLink RX0 141 yX0_corrected, Cond.instanceMethod yX0_corrected, Cond.selects RX0 yX0_corrected yX0_corrected, Cond.code yX0_corrected cX0_corrected 5 (some .long), Cond.methodLink RX0 160 yX0_lastFix, Cond.instanceMethod yX0_lastFix, Cond.selects RX0 yX0_lastFix yX0_lastFix, Cond.code yX0_lastFix cX0_lastFix 3 (some .int), Cond.fieldLink RX0 26 "TraverseBoard" "fixed" "[Z", Cond.methodLink RX0 163 yX0_firstFixAfter, Cond.instanceMethod yX0_firstFixAfter, Cond.selects RX0 yX0_firstFixAfter yX0_firstFixAfter, Cond.code yX0_firstFixAfter cX0_firstFixAfter 3 (some .int), Cond.methodLink RX0 137 yX0_reckoned]
def wsX0_correctedNorth_r2 : List Cond := [Cond.instanceMethod yX0_reckoned, Cond.selects RX0 yX0_reckoned yX0_reckoned, Cond.code yX0_reckoned cX0_reckoned 4 (some .long), Cond.methodLink RX0 173 yX0_fix, Cond.instanceMethod yX0_fix, Cond.selects RX0 yX0_fix yX0_fix, Cond.code yX0_fix cX0_fix 3 (some .int), Cond.fieldLink RX0 29 "TraverseBoard" "fixNorths" "[I", Cond.fieldLink RX0 32 "TraverseBoard" "fixEasts" "[I", Cond.methodLink RX0 176 yX0_legs, Cond.instanceMethod yX0_legs, Cond.selects RX0 yX0_legs yX0_legs, Cond.code yX0_legs cX0_legs 7 (some .long), Cond.fieldLink RX0 118 "TraverseBoard" "set" "I", Cond.fieldLink RX0 115 "TraverseBoard" "drift" "I", Cond.fieldLink RX0 22 "TraverseBoard" "lost" "[Z", Cond.fieldLink RX0 13 "TraverseBoard" "points" "[I", Cond.fieldLink RX0 19 "TraverseBoard" "leeways" "[I", Cond.fieldLink RX0 16 "TraverseBoard" "speeds" "[I", Cond.methodLink RX0 184 yX0_movement, Cond.static yX0_movement, Cond.code yX0_movement cX0_movement 3 (some .long), Cond.fieldLink RX0 187 "TraverseBoard" "SIN" "[I", Cond.methodLink RX0 190 yJ9_floorMod_7cf53]
def wsX0_correctedNorth_r3 : List Cond := [Cond.static yJ9_floorMod_7cf53, Cond.initialized RJ9, Cond.code yJ9_floorMod_7cf53 cJ9_floorMod_7cf53 3 (some .int), Cond.methodLink RX0 166 yX0_error, Cond.instanceMethod yX0_error, Cond.selects RX0 yX0_error yX0_error, Cond.code yX0_error cX0_error 4 (some .long), Cond.methodLink RX0 179 yJ9_floorDiv_f86c9, Cond.static yJ9_floorDiv_f86c9, Cond.code yJ9_floorDiv_f86c9 cJ9_floorDiv_f86c9 6 (some .long)]
def wsX0_correctedNorth : List Cond := .code yX0_correctedNorth cX0_correctedNorth 2 (some .long) :: ((wsX0_correctedNorth_r1 ++ (wsX0_correctedNorth_r2 ++ wsX0_correctedNorth_r3)) ++ wsX00)
def wsX0_correctedEast_r1 : List Cond := [Cond.constantLong RX0 124 (-9000000000000000003), Cond.methodLink RX0 134 yX0_momentExists, Cond.instanceMethod yX0_momentExists, Cond.selects RX0 yX0_momentExists yX0_momentExists, Cond.initialized RX0, Cond.code yX0_momentExists cX0_momentExists 2 (some .boolean), Cond.fieldLink RX0 71 "TraverseBoard" "pegs" "I", Cond.methodLink RX0 35 yX0_inRange, Cond.static yX0_inRange, Cond.code yX0_inRange cX0_inRange 3 (some .boolean), Cond.methodLink RX0 141 yX0_corrected, Cond.instanceMethod yX0_corrected, Cond.selects RX0 yX0_corrected yX0_corrected, Cond.code yX0_corrected cX0_corrected 5 (some .long), Cond.methodLink RX0 160 yX0_lastFix, Cond.instanceMethod yX0_lastFix, Cond.selects RX0 yX0_lastFix yX0_lastFix, Cond.code yX0_lastFix cX0_lastFix 3 (some .int), Cond.fieldLink RX0 26 "TraverseBoard" "fixed" "[Z", Cond.methodLink RX0 163 yX0_firstFixAfter, Cond.instanceMethod yX0_firstFixAfter, Cond.selects RX0 yX0_firstFixAfter yX0_firstFixAfter, Cond.code yX0_firstFixAfter cX0_firstFixAfter 3 (some .int), Cond.methodLink RX0 137 yX0_reckoned]
def wsX0_correctedEast_r2 : List Cond := [Cond.instanceMethod yX0_reckoned, Cond.selects RX0 yX0_reckoned yX0_reckoned, Cond.code yX0_reckoned cX0_reckoned 4 (some .long), Cond.methodLink RX0 173 yX0_fix, Cond.instanceMethod yX0_fix, Cond.selects RX0 yX0_fix yX0_fix, Cond.code yX0_fix cX0_fix 3 (some .int), Cond.fieldLink RX0 29 "TraverseBoard" "fixNorths" "[I", Cond.fieldLink RX0 32 "TraverseBoard" "fixEasts" "[I", Cond.methodLink RX0 176 yX0_legs, Cond.instanceMethod yX0_legs, Cond.selects RX0 yX0_legs yX0_legs, Cond.code yX0_legs cX0_legs 7 (some .long), Cond.fieldLink RX0 118 "TraverseBoard" "set" "I", Cond.fieldLink RX0 115 "TraverseBoard" "drift" "I", Cond.fieldLink RX0 22 "TraverseBoard" "lost" "[Z", Cond.fieldLink RX0 13 "TraverseBoard" "points" "[I", Cond.fieldLink RX0 19 "TraverseBoard" "leeways" "[I", Cond.fieldLink RX0 16 "TraverseBoard" "speeds" "[I", Cond.methodLink RX0 184 yX0_movement, Cond.static yX0_movement, Cond.code yX0_movement cX0_movement 3 (some .long), Cond.fieldLink RX0 187 "TraverseBoard" "SIN" "[I", Cond.methodLink RX0 190 yJ9_floorMod_7cf53]
def wsX0_correctedEast_r3 : List Cond := [Cond.static yJ9_floorMod_7cf53, Cond.initialized RJ9, Cond.code yJ9_floorMod_7cf53 cJ9_floorMod_7cf53 3 (some .int), Cond.methodLink RX0 166 yX0_error, Cond.instanceMethod yX0_error, Cond.selects RX0 yX0_error yX0_error, Cond.code yX0_error cX0_error 4 (some .long), Cond.methodLink RX0 179 yJ9_floorDiv_f86c9, Cond.static yJ9_floorDiv_f86c9, Cond.code yJ9_floorDiv_f86c9 cJ9_floorDiv_f86c9 6 (some .long)]
def wsX0_correctedEast : List Cond := .code yX0_correctedEast cX0_correctedEast 2 (some .long) :: ((wsX0_correctedEast_r1 ++ (wsX0_correctedEast_r2 ++ wsX0_correctedEast_r3)) ++ wsX00)
def wsX0_difference_r1 : List Cond := [Cond.methodLink RX0 141 yX0_corrected, Cond.instanceMethod yX0_corrected, Cond.selects RX0 yX0_corrected yX0_corrected, Cond.initialized RX0, Cond.code yX0_corrected cX0_corrected 5 (some .long), Cond.methodLink RX0 160 yX0_lastFix, Cond.instanceMethod yX0_lastFix, Cond.selects RX0 yX0_lastFix yX0_lastFix, Cond.code yX0_lastFix cX0_lastFix 3 (some .int), Cond.fieldLink RX0 26 "TraverseBoard" "fixed" "[Z", Cond.methodLink RX0 163 yX0_firstFixAfter, Cond.instanceMethod yX0_firstFixAfter, Cond.selects RX0 yX0_firstFixAfter yX0_firstFixAfter, Cond.code yX0_firstFixAfter cX0_firstFixAfter 3 (some .int), Cond.fieldLink RX0 71 "TraverseBoard" "pegs" "I", Cond.methodLink RX0 137 yX0_reckoned, Cond.instanceMethod yX0_reckoned, Cond.selects RX0 yX0_reckoned yX0_reckoned, Cond.code yX0_reckoned cX0_reckoned 4 (some .long), Cond.methodLink RX0 173 yX0_fix, Cond.instanceMethod yX0_fix, Cond.selects RX0 yX0_fix yX0_fix, Cond.code yX0_fix cX0_fix 3 (some .int), Cond.fieldLink RX0 29 "TraverseBoard" "fixNorths" "[I"]
def wsX0_difference_r2 : List Cond := [Cond.fieldLink RX0 32 "TraverseBoard" "fixEasts" "[I", Cond.methodLink RX0 176 yX0_legs, Cond.instanceMethod yX0_legs, Cond.selects RX0 yX0_legs yX0_legs, Cond.code yX0_legs cX0_legs 7 (some .long), Cond.fieldLink RX0 118 "TraverseBoard" "set" "I", Cond.fieldLink RX0 115 "TraverseBoard" "drift" "I", Cond.fieldLink RX0 22 "TraverseBoard" "lost" "[Z", Cond.fieldLink RX0 13 "TraverseBoard" "points" "[I", Cond.fieldLink RX0 19 "TraverseBoard" "leeways" "[I", Cond.fieldLink RX0 16 "TraverseBoard" "speeds" "[I", Cond.methodLink RX0 184 yX0_movement, Cond.static yX0_movement, Cond.code yX0_movement cX0_movement 3 (some .long), Cond.fieldLink RX0 187 "TraverseBoard" "SIN" "[I", Cond.methodLink RX0 190 yJ9_floorMod_7cf53, Cond.static yJ9_floorMod_7cf53, Cond.initialized RJ9, Cond.code yJ9_floorMod_7cf53 cJ9_floorMod_7cf53 3 (some .int), Cond.methodLink RX0 166 yX0_error, Cond.instanceMethod yX0_error, Cond.selects RX0 yX0_error yX0_error, Cond.code yX0_error cX0_error 4 (some .long), Cond.methodLink RX0 179 yJ9_floorDiv_f86c9]
def wsX0_difference_r3 : List Cond := [Cond.static yJ9_floorDiv_f86c9, Cond.code yJ9_floorDiv_f86c9 cJ9_floorDiv_f86c9 6 (some .long)]
def wsX0_difference : List Cond := .code yX0_difference cX0_difference 4 (some .long) :: ((wsX0_difference_r1 ++ (wsX0_difference_r2 ++ wsX0_difference_r3)) ++ wsX00)
def wsX0_squares : List Cond := .code yX0_squares cX0_squares 4 (some .long) :: ([])
def wsX0_root : List Cond := .code yX0_root cX0_root 7 (some .long) :: ([])
def wsX0_distance_r1 : List Cond := [Cond.constantLong RX0 124 (-9000000000000000003), Cond.methodLink RX0 134 yX0_momentExists, Cond.instanceMethod yX0_momentExists, Cond.selects RX0 yX0_momentExists yX0_momentExists, Cond.initialized RX0, Cond.code yX0_momentExists cX0_momentExists 2 (some .boolean), Cond.fieldLink RX0 71 "TraverseBoard" "pegs" "I", Cond.methodLink RX0 35 yX0_inRange, Cond.static yX0_inRange, Cond.code yX0_inRange cX0_inRange 3 (some .boolean), Cond.methodLink RX0 144 yX0_difference, Cond.instanceMethod yX0_difference, Cond.selects RX0 yX0_difference yX0_difference, Cond.code yX0_difference cX0_difference 4 (some .long), Cond.methodLink RX0 141 yX0_corrected, Cond.instanceMethod yX0_corrected, Cond.selects RX0 yX0_corrected yX0_corrected, Cond.code yX0_corrected cX0_corrected 5 (some .long), Cond.methodLink RX0 160 yX0_lastFix, Cond.instanceMethod yX0_lastFix, Cond.selects RX0 yX0_lastFix yX0_lastFix, Cond.code yX0_lastFix cX0_lastFix 3 (some .int), Cond.fieldLink RX0 26 "TraverseBoard" "fixed" "[Z", Cond.methodLink RX0 163 yX0_firstFixAfter]
def wsX0_distance_r2 : List Cond := [Cond.instanceMethod yX0_firstFixAfter, Cond.selects RX0 yX0_firstFixAfter yX0_firstFixAfter, Cond.code yX0_firstFixAfter cX0_firstFixAfter 3 (some .int), Cond.methodLink RX0 137 yX0_reckoned, Cond.instanceMethod yX0_reckoned, Cond.selects RX0 yX0_reckoned yX0_reckoned, Cond.code yX0_reckoned cX0_reckoned 4 (some .long), Cond.methodLink RX0 173 yX0_fix, Cond.instanceMethod yX0_fix, Cond.selects RX0 yX0_fix yX0_fix, Cond.code yX0_fix cX0_fix 3 (some .int), Cond.fieldLink RX0 29 "TraverseBoard" "fixNorths" "[I", Cond.fieldLink RX0 32 "TraverseBoard" "fixEasts" "[I", Cond.methodLink RX0 176 yX0_legs, Cond.instanceMethod yX0_legs, Cond.selects RX0 yX0_legs yX0_legs, Cond.code yX0_legs cX0_legs 7 (some .long), Cond.fieldLink RX0 118 "TraverseBoard" "set" "I", Cond.fieldLink RX0 115 "TraverseBoard" "drift" "I", Cond.fieldLink RX0 22 "TraverseBoard" "lost" "[Z", Cond.fieldLink RX0 13 "TraverseBoard" "points" "[I", Cond.fieldLink RX0 19 "TraverseBoard" "leeways" "[I", Cond.fieldLink RX0 16 "TraverseBoard" "speeds" "[I", Cond.methodLink RX0 184 yX0_movement]
def wsX0_distance_r3 : List Cond := [Cond.static yX0_movement, Cond.code yX0_movement cX0_movement 3 (some .long), Cond.fieldLink RX0 187 "TraverseBoard" "SIN" "[I", Cond.methodLink RX0 190 yJ9_floorMod_7cf53, Cond.static yJ9_floorMod_7cf53, Cond.initialized RJ9, Cond.code yJ9_floorMod_7cf53 cJ9_floorMod_7cf53 3 (some .int), Cond.methodLink RX0 166 yX0_error, Cond.instanceMethod yX0_error, Cond.selects RX0 yX0_error yX0_error, Cond.code yX0_error cX0_error 4 (some .long), Cond.methodLink RX0 179 yJ9_floorDiv_f86c9, Cond.static yJ9_floorDiv_f86c9, Cond.code yJ9_floorDiv_f86c9 cJ9_floorDiv_f86c9 6 (some .long), Cond.methodLink RX0 148 yX0_squares, Cond.static yX0_squares, Cond.code yX0_squares cX0_squares 4 (some .long), Cond.methodLink RX0 152 yX0_root, Cond.static yX0_root, Cond.code yX0_root cX0_root 7 (some .long)]
def wsX0_distance : List Cond := .code yX0_distance cX0_distance 3 (some .long) :: ((wsX0_distance_r1 ++ (wsX0_distance_r2 ++ wsX0_distance_r3)) ++ wsX00)
def wsX0_advance : List Cond := .code yX0_advance cX0_advance 5 (some .long) :: ([.methodLink RX0 184 yX0_movement, .static yX0_movement, .initialized RX0, .code yX0_movement cX0_movement 3 (some .long), .fieldLink RX0 187 "TraverseBoard" "SIN" "[I", .methodLink RX0 190 yJ9_floorMod_7cf53, .static yJ9_floorMod_7cf53, .initialized RJ9, .code yJ9_floorMod_7cf53 cJ9_floorMod_7cf53 3 (some .int)])
def wsX0_nearestPoint : List Cond := .code yX0_nearestPoint cX0_nearestPoint 6 (some .int) :: ([.methodLink RX0 193 yX0_advance, .static yX0_advance, .initialized RX0, .code yX0_advance cX0_advance 5 (some .long), .methodLink RX0 184 yX0_movement, .static yX0_movement, .code yX0_movement cX0_movement 3 (some .long), .fieldLink RX0 187 "TraverseBoard" "SIN" "[I", .methodLink RX0 190 yJ9_floorMod_7cf53, .static yJ9_floorMod_7cf53, .initialized RJ9, .code yJ9_floorMod_7cf53 cJ9_floorMod_7cf53 3 (some .int)])
def wsX0_bearing_r1 : List Cond := [Cond.constantLong RX0 124 (-9000000000000000003), Cond.constantLong RX0 108 (-9000000000000000007), Cond.methodLink RX0 134 yX0_momentExists, Cond.instanceMethod yX0_momentExists, Cond.selects RX0 yX0_momentExists yX0_momentExists, Cond.initialized RX0, Cond.code yX0_momentExists cX0_momentExists 2 (some .boolean), Cond.fieldLink RX0 71 "TraverseBoard" "pegs" "I", Cond.methodLink RX0 35 yX0_inRange, Cond.static yX0_inRange, Cond.code yX0_inRange cX0_inRange 3 (some .boolean), Cond.methodLink RX0 144 yX0_difference, Cond.instanceMethod yX0_difference, Cond.selects RX0 yX0_difference yX0_difference, Cond.code yX0_difference cX0_difference 4 (some .long), Cond.methodLink RX0 141 yX0_corrected, Cond.instanceMethod yX0_corrected, Cond.selects RX0 yX0_corrected yX0_corrected, Cond.code yX0_corrected cX0_corrected 5 (some .long), Cond.methodLink RX0 160 yX0_lastFix, Cond.instanceMethod yX0_lastFix, Cond.selects RX0 yX0_lastFix yX0_lastFix, Cond.code yX0_lastFix cX0_lastFix 3 (some .int), Cond.fieldLink RX0 26 "TraverseBoard" "fixed" "[Z"]
def wsX0_bearing_r2 : List Cond := [Cond.methodLink RX0 163 yX0_firstFixAfter, Cond.instanceMethod yX0_firstFixAfter, Cond.selects RX0 yX0_firstFixAfter yX0_firstFixAfter, Cond.code yX0_firstFixAfter cX0_firstFixAfter 3 (some .int), Cond.methodLink RX0 137 yX0_reckoned, Cond.instanceMethod yX0_reckoned, Cond.selects RX0 yX0_reckoned yX0_reckoned, Cond.code yX0_reckoned cX0_reckoned 4 (some .long), Cond.methodLink RX0 173 yX0_fix, Cond.instanceMethod yX0_fix, Cond.selects RX0 yX0_fix yX0_fix, Cond.code yX0_fix cX0_fix 3 (some .int), Cond.fieldLink RX0 29 "TraverseBoard" "fixNorths" "[I", Cond.fieldLink RX0 32 "TraverseBoard" "fixEasts" "[I", Cond.methodLink RX0 176 yX0_legs, Cond.instanceMethod yX0_legs, Cond.selects RX0 yX0_legs yX0_legs, Cond.code yX0_legs cX0_legs 7 (some .long), Cond.fieldLink RX0 118 "TraverseBoard" "set" "I", Cond.fieldLink RX0 115 "TraverseBoard" "drift" "I", Cond.fieldLink RX0 22 "TraverseBoard" "lost" "[Z", Cond.fieldLink RX0 13 "TraverseBoard" "points" "[I", Cond.fieldLink RX0 19 "TraverseBoard" "leeways" "[I", Cond.fieldLink RX0 16 "TraverseBoard" "speeds" "[I"]
def wsX0_bearing_r3 : List Cond := [Cond.methodLink RX0 184 yX0_movement, Cond.static yX0_movement, Cond.code yX0_movement cX0_movement 3 (some .long), Cond.fieldLink RX0 187 "TraverseBoard" "SIN" "[I", Cond.methodLink RX0 190 yJ9_floorMod_7cf53, Cond.static yJ9_floorMod_7cf53, Cond.initialized RJ9, Cond.code yJ9_floorMod_7cf53 cJ9_floorMod_7cf53 3 (some .int), Cond.methodLink RX0 166 yX0_error, Cond.instanceMethod yX0_error, Cond.selects RX0 yX0_error yX0_error, Cond.code yX0_error cX0_error 4 (some .long), Cond.methodLink RX0 179 yJ9_floorDiv_f86c9, Cond.static yJ9_floorDiv_f86c9, Cond.code yJ9_floorDiv_f86c9 cJ9_floorDiv_f86c9 6 (some .long), Cond.methodLink RX0 156 yX0_nearestPoint, Cond.static yX0_nearestPoint, Cond.code yX0_nearestPoint cX0_nearestPoint 6 (some .int), Cond.methodLink RX0 193 yX0_advance, Cond.static yX0_advance, Cond.code yX0_advance cX0_advance 5 (some .long)]
def wsX0_bearing : List Cond := .code yX0_bearing cX0_bearing 7 (some .long) :: ((wsX0_bearing_r1 ++ (wsX0_bearing_r2 ++ wsX0_bearing_r3)) ++ wsX00)
def wsX0_miss : List Cond := .code yX0_miss cX0_miss 6 (some .long) :: ([.methodLink RX0 184 yX0_movement, .static yX0_movement, .initialized RX0, .code yX0_movement cX0_movement 3 (some .long), .fieldLink RX0 187 "TraverseBoard" "SIN" "[I", .methodLink RX0 190 yJ9_floorMod_7cf53, .static yJ9_floorMod_7cf53, .initialized RJ9, .code yJ9_floorMod_7cf53 cJ9_floorMod_7cf53 3 (some .int), .methodLink RX0 148 yX0_squares, .static yX0_squares, .code yX0_squares cX0_squares 4 (some .long)])
def wsX0_likeliest : List Cond := .code yX0_likeliest cX0_likeliest 13 (some .long) :: ([.constantLong RX0 200 (1000), .methodLink RX0 148 yX0_squares, .static yX0_squares, .initialized RX0, .code yX0_squares cX0_squares 4 (some .long), .methodLink RX0 196 yX0_miss, .static yX0_miss, .code yX0_miss cX0_miss 6 (some .long), .methodLink RX0 184 yX0_movement, .static yX0_movement, .code yX0_movement cX0_movement 3 (some .long), .fieldLink RX0 187 "TraverseBoard" "SIN" "[I", .methodLink RX0 190 yJ9_floorMod_7cf53, .static yJ9_floorMod_7cf53, .initialized RJ9, .code yJ9_floorMod_7cf53 cJ9_floorMod_7cf53 3 (some .int)])
def wsX0_findLost_r1 : List Cond := [Cond.constantLong RX0 102 (-9000000000000000002), Cond.fieldLink RX0 22 "TraverseBoard" "lost" "[Z", Cond.constantLong RX0 110 (-9000000000000000006), Cond.constantLong RX0 108 (-9000000000000000007), Cond.fieldLink RX0 19 "TraverseBoard" "leeways" "[I", Cond.methodLink RX0 99 yX0_pegExists, Cond.instanceMethod yX0_pegExists, Cond.selects RX0 yX0_pegExists yX0_pegExists, Cond.initialized RX0, Cond.code yX0_pegExists cX0_pegExists 2 (some .boolean), Cond.fieldLink RX0 71 "TraverseBoard" "pegs" "I", Cond.methodLink RX0 35 yX0_inRange, Cond.static yX0_inRange, Cond.code yX0_inRange cX0_inRange 3 (some .boolean), Cond.methodLink RX0 160 yX0_lastFix, Cond.instanceMethod yX0_lastFix, Cond.selects RX0 yX0_lastFix yX0_lastFix, Cond.code yX0_lastFix cX0_lastFix 3 (some .int), Cond.fieldLink RX0 26 "TraverseBoard" "fixed" "[Z", Cond.methodLink RX0 163 yX0_firstFixAfter, Cond.instanceMethod yX0_firstFixAfter, Cond.selects RX0 yX0_firstFixAfter yX0_firstFixAfter, Cond.code yX0_firstFixAfter cX0_firstFixAfter 3 (some .int), Cond.methodLink RX0 112 yX0_lostCount]
def wsX0_findLost_r2 : List Cond := [Cond.instanceMethod yX0_lostCount, Cond.selects RX0 yX0_lostCount yX0_lostCount, Cond.code yX0_lostCount cX0_lostCount 5 (some .int), Cond.methodLink RX0 166 yX0_error, Cond.instanceMethod yX0_error, Cond.selects RX0 yX0_error yX0_error, Cond.code yX0_error cX0_error 4 (some .long), Cond.methodLink RX0 173 yX0_fix, Cond.instanceMethod yX0_fix, Cond.selects RX0 yX0_fix yX0_fix, Cond.code yX0_fix cX0_fix 3 (some .int), Cond.fieldLink RX0 29 "TraverseBoard" "fixNorths" "[I", Cond.fieldLink RX0 32 "TraverseBoard" "fixEasts" "[I", Cond.methodLink RX0 176 yX0_legs, Cond.instanceMethod yX0_legs, Cond.selects RX0 yX0_legs yX0_legs, Cond.code yX0_legs cX0_legs 7 (some .long), Cond.fieldLink RX0 118 "TraverseBoard" "set" "I", Cond.fieldLink RX0 115 "TraverseBoard" "drift" "I", Cond.fieldLink RX0 13 "TraverseBoard" "points" "[I", Cond.fieldLink RX0 16 "TraverseBoard" "speeds" "[I", Cond.methodLink RX0 184 yX0_movement, Cond.static yX0_movement, Cond.code yX0_movement cX0_movement 3 (some .long)]
def wsX0_findLost_r3 : List Cond := [Cond.fieldLink RX0 187 "TraverseBoard" "SIN" "[I", Cond.methodLink RX0 190 yJ9_floorMod_7cf53, Cond.static yJ9_floorMod_7cf53, Cond.initialized RJ9, Cond.code yJ9_floorMod_7cf53 cJ9_floorMod_7cf53 3 (some .int), Cond.methodLink RX0 169 yX0_likeliest, Cond.static yX0_likeliest, Cond.code yX0_likeliest cX0_likeliest 13 (some .long), Cond.constantLong RX0 200 (1000), Cond.methodLink RX0 148 yX0_squares, Cond.static yX0_squares, Cond.code yX0_squares cX0_squares 4 (some .long), Cond.methodLink RX0 196 yX0_miss, Cond.static yX0_miss, Cond.code yX0_miss cX0_miss 6 (some .long)]
def wsX0_findLost : List Cond := .code yX0_findLost cX0_findLost 4 (some .long) :: ((wsX0_findLost_r1 ++ (wsX0_findLost_r2 ++ wsX0_findLost_r3)) ++ wsX00)
def wsX0_mix : List Cond := .code yX0_mix cX0_mix 4 (some .long) :: ([.constantLong RX0 235 (31)])
def wsX0_mixPegs_r1 : List Cond := [Cond.fieldLink RX0 71 "TraverseBoard" "pegs" "I", Cond.fieldLink RX0 19 "TraverseBoard" "leeways" "[I", Cond.methodLink RX0 229 yX0_pointOf, Cond.instanceMethod yX0_pointOf, Cond.selects RX0 yX0_pointOf yX0_pointOf, Cond.initialized RX0, Cond.code yX0_pointOf cX0_pointOf 2 (some .long), Cond.constantLong RX0 102 (-9000000000000000002), Cond.fieldLink RX0 22 "TraverseBoard" "lost" "[Z", Cond.constantLong RX0 110 (-9000000000000000006), Cond.fieldLink RX0 13 "TraverseBoard" "points" "[I", Cond.methodLink RX0 99 yX0_pegExists, Cond.instanceMethod yX0_pegExists, Cond.selects RX0 yX0_pegExists yX0_pegExists, Cond.code yX0_pegExists cX0_pegExists 2 (some .boolean), Cond.methodLink RX0 35 yX0_inRange, Cond.static yX0_inRange, Cond.code yX0_inRange cX0_inRange 3 (some .boolean), Cond.methodLink RX0 204 yX0_mix, Cond.static yX0_mix, Cond.code yX0_mix cX0_mix 4 (some .long), Cond.constantLong RX0 235 (31), Cond.methodLink RX0 232 yX0_speedOf, Cond.instanceMethod yX0_speedOf]
def wsX0_mixPegs_r2 : List Cond := [Cond.selects RX0 yX0_speedOf yX0_speedOf, Cond.code yX0_speedOf cX0_speedOf 2 (some .long), Cond.fieldLink RX0 16 "TraverseBoard" "speeds" "[I"]
def wsX0_mixPegs : List Cond := .code yX0_mixPegs cX0_mixPegs 6 (some .long) :: ((wsX0_mixPegs_r1 ++ wsX0_mixPegs_r2) ++ wsX00)
def wsX0_mixMoments_r1 : List Cond := [Cond.fieldLink RX0 71 "TraverseBoard" "pegs" "I", Cond.fieldLink RX0 26 "TraverseBoard" "fixed" "[Z", Cond.methodLink RX0 204 yX0_mix, Cond.static yX0_mix, Cond.initialized RX0, Cond.code yX0_mix cX0_mix 4 (some .long), Cond.constantLong RX0 235 (31), Cond.methodLink RX0 137 yX0_reckoned, Cond.instanceMethod yX0_reckoned, Cond.selects RX0 yX0_reckoned yX0_reckoned, Cond.code yX0_reckoned cX0_reckoned 4 (some .long), Cond.methodLink RX0 160 yX0_lastFix, Cond.instanceMethod yX0_lastFix, Cond.selects RX0 yX0_lastFix yX0_lastFix, Cond.code yX0_lastFix cX0_lastFix 3 (some .int), Cond.methodLink RX0 173 yX0_fix, Cond.instanceMethod yX0_fix, Cond.selects RX0 yX0_fix yX0_fix, Cond.code yX0_fix cX0_fix 3 (some .int), Cond.fieldLink RX0 29 "TraverseBoard" "fixNorths" "[I", Cond.fieldLink RX0 32 "TraverseBoard" "fixEasts" "[I", Cond.methodLink RX0 176 yX0_legs, Cond.instanceMethod yX0_legs, Cond.selects RX0 yX0_legs yX0_legs]
def wsX0_mixMoments_r2 : List Cond := [Cond.code yX0_legs cX0_legs 7 (some .long), Cond.fieldLink RX0 118 "TraverseBoard" "set" "I", Cond.fieldLink RX0 115 "TraverseBoard" "drift" "I", Cond.fieldLink RX0 22 "TraverseBoard" "lost" "[Z", Cond.fieldLink RX0 13 "TraverseBoard" "points" "[I", Cond.fieldLink RX0 19 "TraverseBoard" "leeways" "[I", Cond.fieldLink RX0 16 "TraverseBoard" "speeds" "[I", Cond.methodLink RX0 184 yX0_movement, Cond.static yX0_movement, Cond.code yX0_movement cX0_movement 3 (some .long), Cond.fieldLink RX0 187 "TraverseBoard" "SIN" "[I", Cond.methodLink RX0 190 yJ9_floorMod_7cf53, Cond.static yJ9_floorMod_7cf53, Cond.initialized RJ9, Cond.code yJ9_floorMod_7cf53 cJ9_floorMod_7cf53 3 (some .int), Cond.methodLink RX0 141 yX0_corrected, Cond.instanceMethod yX0_corrected, Cond.selects RX0 yX0_corrected yX0_corrected, Cond.code yX0_corrected cX0_corrected 5 (some .long), Cond.methodLink RX0 163 yX0_firstFixAfter, Cond.instanceMethod yX0_firstFixAfter, Cond.selects RX0 yX0_firstFixAfter yX0_firstFixAfter, Cond.code yX0_firstFixAfter cX0_firstFixAfter 3 (some .int), Cond.methodLink RX0 166 yX0_error]
def wsX0_mixMoments_r3 : List Cond := [Cond.instanceMethod yX0_error, Cond.selects RX0 yX0_error yX0_error, Cond.code yX0_error cX0_error 4 (some .long), Cond.methodLink RX0 179 yJ9_floorDiv_f86c9, Cond.static yJ9_floorDiv_f86c9, Cond.code yJ9_floorDiv_f86c9 cJ9_floorDiv_f86c9 6 (some .long)]
def wsX0_mixMoments : List Cond := .code yX0_mixMoments cX0_mixMoments 6 (some .long) :: ((wsX0_mixMoments_r1 ++ (wsX0_mixMoments_r2 ++ wsX0_mixMoments_r3)) ++ wsX00)
def wsX0_mixBuffer : List Cond := .code yX0_mixBuffer cX0_mixBuffer 6 (some .long) :: ([.fieldLink RX0 41 "TraverseBoard" "bufferLength" "I", .fieldLink RX0 9 "TraverseBoard" "buffer" "[I", .methodLink RX0 204 yX0_mix, .static yX0_mix, .initialized RX0, .code yX0_mix cX0_mix 4 (some .long), .constantLong RX0 235 (31)] ++ wsX00)
def wsX0_digest_r1 : List Cond := [Cond.constantLong RX0 202 (1811), Cond.fieldLink RX0 71 "TraverseBoard" "pegs" "I", Cond.fieldLink RX0 118 "TraverseBoard" "set" "I", Cond.fieldLink RX0 115 "TraverseBoard" "drift" "I", Cond.methodLink RX0 204 yX0_mix, Cond.static yX0_mix, Cond.initialized RX0, Cond.code yX0_mix cX0_mix 4 (some .long), Cond.constantLong RX0 235 (31), Cond.methodLink RX0 207 yX0_mixPegs, Cond.instanceMethod yX0_mixPegs, Cond.selects RX0 yX0_mixPegs yX0_mixPegs, Cond.code yX0_mixPegs cX0_mixPegs 6 (some .long), Cond.fieldLink RX0 19 "TraverseBoard" "leeways" "[I", Cond.methodLink RX0 229 yX0_pointOf, Cond.instanceMethod yX0_pointOf, Cond.selects RX0 yX0_pointOf yX0_pointOf, Cond.code yX0_pointOf cX0_pointOf 2 (some .long), Cond.constantLong RX0 102 (-9000000000000000002), Cond.fieldLink RX0 22 "TraverseBoard" "lost" "[Z", Cond.constantLong RX0 110 (-9000000000000000006), Cond.fieldLink RX0 13 "TraverseBoard" "points" "[I", Cond.methodLink RX0 99 yX0_pegExists, Cond.instanceMethod yX0_pegExists]
def wsX0_digest_r2 : List Cond := [Cond.selects RX0 yX0_pegExists yX0_pegExists, Cond.code yX0_pegExists cX0_pegExists 2 (some .boolean), Cond.methodLink RX0 35 yX0_inRange, Cond.static yX0_inRange, Cond.code yX0_inRange cX0_inRange 3 (some .boolean), Cond.methodLink RX0 232 yX0_speedOf, Cond.instanceMethod yX0_speedOf, Cond.selects RX0 yX0_speedOf yX0_speedOf, Cond.code yX0_speedOf cX0_speedOf 2 (some .long), Cond.fieldLink RX0 16 "TraverseBoard" "speeds" "[I", Cond.methodLink RX0 210 yX0_mixMoments, Cond.instanceMethod yX0_mixMoments, Cond.selects RX0 yX0_mixMoments yX0_mixMoments, Cond.code yX0_mixMoments cX0_mixMoments 6 (some .long), Cond.fieldLink RX0 26 "TraverseBoard" "fixed" "[Z", Cond.methodLink RX0 137 yX0_reckoned, Cond.instanceMethod yX0_reckoned, Cond.selects RX0 yX0_reckoned yX0_reckoned, Cond.code yX0_reckoned cX0_reckoned 4 (some .long), Cond.methodLink RX0 160 yX0_lastFix, Cond.instanceMethod yX0_lastFix, Cond.selects RX0 yX0_lastFix yX0_lastFix, Cond.code yX0_lastFix cX0_lastFix 3 (some .int), Cond.methodLink RX0 173 yX0_fix]
def wsX0_digest_r3 : List Cond := [Cond.instanceMethod yX0_fix, Cond.selects RX0 yX0_fix yX0_fix, Cond.code yX0_fix cX0_fix 3 (some .int), Cond.fieldLink RX0 29 "TraverseBoard" "fixNorths" "[I", Cond.fieldLink RX0 32 "TraverseBoard" "fixEasts" "[I", Cond.methodLink RX0 176 yX0_legs, Cond.instanceMethod yX0_legs, Cond.selects RX0 yX0_legs yX0_legs, Cond.code yX0_legs cX0_legs 7 (some .long), Cond.methodLink RX0 184 yX0_movement, Cond.static yX0_movement, Cond.code yX0_movement cX0_movement 3 (some .long), Cond.fieldLink RX0 187 "TraverseBoard" "SIN" "[I", Cond.methodLink RX0 190 yJ9_floorMod_7cf53, Cond.static yJ9_floorMod_7cf53, Cond.initialized RJ9, Cond.code yJ9_floorMod_7cf53 cJ9_floorMod_7cf53 3 (some .int), Cond.methodLink RX0 141 yX0_corrected, Cond.instanceMethod yX0_corrected, Cond.selects RX0 yX0_corrected yX0_corrected, Cond.code yX0_corrected cX0_corrected 5 (some .long), Cond.methodLink RX0 163 yX0_firstFixAfter, Cond.instanceMethod yX0_firstFixAfter, Cond.selects RX0 yX0_firstFixAfter yX0_firstFixAfter]
def wsX0_digest_r4 : List Cond := [Cond.code yX0_firstFixAfter cX0_firstFixAfter 3 (some .int), Cond.methodLink RX0 166 yX0_error, Cond.instanceMethod yX0_error, Cond.selects RX0 yX0_error yX0_error, Cond.code yX0_error cX0_error 4 (some .long), Cond.methodLink RX0 179 yJ9_floorDiv_f86c9, Cond.static yJ9_floorDiv_f86c9, Cond.code yJ9_floorDiv_f86c9 cJ9_floorDiv_f86c9 6 (some .long), Cond.methodLink RX0 213 yX0_distance, Cond.instanceMethod yX0_distance, Cond.selects RX0 yX0_distance yX0_distance, Cond.code yX0_distance cX0_distance 3 (some .long), Cond.constantLong RX0 124 (-9000000000000000003), Cond.methodLink RX0 134 yX0_momentExists, Cond.instanceMethod yX0_momentExists, Cond.selects RX0 yX0_momentExists yX0_momentExists, Cond.code yX0_momentExists cX0_momentExists 2 (some .boolean), Cond.methodLink RX0 144 yX0_difference, Cond.instanceMethod yX0_difference, Cond.selects RX0 yX0_difference yX0_difference, Cond.code yX0_difference cX0_difference 4 (some .long), Cond.methodLink RX0 148 yX0_squares, Cond.static yX0_squares, Cond.code yX0_squares cX0_squares 4 (some .long)]
def wsX0_digest_r5 : List Cond := [Cond.methodLink RX0 152 yX0_root, Cond.static yX0_root, Cond.code yX0_root cX0_root 7 (some .long), Cond.methodLink RX0 216 yX0_bearing, Cond.instanceMethod yX0_bearing, Cond.selects RX0 yX0_bearing yX0_bearing, Cond.code yX0_bearing cX0_bearing 7 (some .long), Cond.constantLong RX0 108 (-9000000000000000007), Cond.methodLink RX0 156 yX0_nearestPoint, Cond.static yX0_nearestPoint, Cond.code yX0_nearestPoint cX0_nearestPoint 6 (some .int), Cond.methodLink RX0 193 yX0_advance, Cond.static yX0_advance, Cond.code yX0_advance cX0_advance 5 (some .long), Cond.methodLink RX0 219 yX0_firstLost, Cond.instanceMethod yX0_firstLost, Cond.selects RX0 yX0_firstLost yX0_firstLost, Cond.code yX0_firstLost cX0_firstLost 2 (some .int), Cond.methodLink RX0 222 yX0_findLost, Cond.instanceMethod yX0_findLost, Cond.selects RX0 yX0_findLost yX0_findLost, Cond.code yX0_findLost cX0_findLost 4 (some .long), Cond.methodLink RX0 112 yX0_lostCount, Cond.instanceMethod yX0_lostCount]
def wsX0_digest_r6 : List Cond := [Cond.selects RX0 yX0_lostCount yX0_lostCount, Cond.code yX0_lostCount cX0_lostCount 5 (some .int), Cond.methodLink RX0 169 yX0_likeliest, Cond.static yX0_likeliest, Cond.code yX0_likeliest cX0_likeliest 13 (some .long), Cond.constantLong RX0 200 (1000), Cond.methodLink RX0 196 yX0_miss, Cond.static yX0_miss, Cond.code yX0_miss cX0_miss 6 (some .long), Cond.methodLink RX0 226 yX0_mixBuffer, Cond.instanceMethod yX0_mixBuffer, Cond.selects RX0 yX0_mixBuffer yX0_mixBuffer, Cond.code yX0_mixBuffer cX0_mixBuffer 6 (some .long), Cond.fieldLink RX0 41 "TraverseBoard" "bufferLength" "I", Cond.fieldLink RX0 9 "TraverseBoard" "buffer" "[I"]
def wsX0_digest : List Cond := .code yX0_digest cX0_digest 4 (some .long) :: ((wsX0_digest_r1 ++ (wsX0_digest_r2 ++ (wsX0_digest_r3 ++ (wsX0_digest_r4 ++ (wsX0_digest_r5 ++ wsX0_digest_r6))))) ++ wsX00)
def wsX1_init : List Cond := .code yX1_init cX1_init 1 none :: ([.methodLink RX1 1 objectInit, .instanceMethod objectInit, .code objectInit ⟨#[0xb1]⟩ 1 none, .arrayClass .int, .fieldLink RX1 7 "TraverseBoardModel" "buffer" "[I", .fieldLink RX1 13 "TraverseBoardModel" "point" "[I", .fieldLink RX1 16 "TraverseBoardModel" "speed" "[I", .fieldLink RX1 19 "TraverseBoardModel" "leeway" "[I", .arrayClass .boolean, .fieldLink RX1 22 "TraverseBoardModel" "isLost" "[Z", .fieldLink RX1 26 "TraverseBoardModel" "hasFix" "[Z", .arrayClass .long, .fieldLink RX1 29 "TraverseBoardModel" "fixNorth" "[J", .fieldLink RX1 33 "TraverseBoardModel" "fixEast" "[J"] ++ wsX10)
def wsX1_within : List Cond := .code yX1_within cX1_within 3 (some .boolean) :: ([])
def wsX1_four : List Cond := .code yX1_four cX1_four 4 (some .int) :: ([])
def wsX1_name : List Cond := .code yX1_name cX1_name 1 (some .int) :: ([.methodLink RX1 36 yX1_four, .static yX1_four, .initialized RX1, .code yX1_four cX1_four 4 (some .int)])
def wsX1_quarter : List Cond := .code yX1_quarter cX1_quarter 1 (some .int) :: ([])
def wsX1_sine : List Cond := .code yX1_sine cX1_sine 3 (some .int) :: ([.methodLink RX1 40 yX1_quarter, .static yX1_quarter, .initialized RX1, .code yX1_quarter cX1_quarter 1 (some .int)])
def wsX1_cosine : List Cond := .code yX1_cosine cX1_cosine 1 (some .int) :: ([.methodLink RX1 44 yX1_sine, .static yX1_sine, .initialized RX1, .code yX1_sine cX1_sine 3 (some .int), .methodLink RX1 40 yX1_quarter, .static yX1_quarter, .code yX1_quarter cX1_quarter 1 (some .int)])
def wsX1_append : List Cond := .code yX1_append cX1_append 2 (some .long) :: ([.constantLong RX1 51 (-9000000000000000001), .fieldLink RX1 53 "TraverseBoardModel" "bufferLength" "I", .constantLong RX1 57 (-9000000000000000004), .fieldLink RX1 7 "TraverseBoardModel" "buffer" "[I", .methodLink RX1 47 yX1_within, .static yX1_within, .initialized RX1, .code yX1_within cX1_within 3 (some .boolean)] ++ wsX10)
def wsX1_clearBuffer : List Cond := .code yX1_clearBuffer cX1_clearBuffer 2 (some .long) :: ([.fieldLink RX1 53 "TraverseBoardModel" "bufferLength" "I"] ++ wsX10)
def wsX1_nameOf : List Cond := .code yX1_nameOf cX1_nameOf 2 (some .int) :: ([.fieldLink RX1 7 "TraverseBoardModel" "buffer" "[I", .methodLink RX1 36 yX1_four, .static yX1_four, .initialized RX1, .code yX1_four cX1_four 4 (some .int)] ++ wsX10)
def wsX1_unit : List Cond := .code yX1_unit cX1_unit 3 (some .int) :: ([])
def wsX1_pointBy : List Cond := .code yX1_pointBy cX1_pointBy 4 (some .int) :: ([.methodLink RX1 59 yX1_name, .static yX1_name, .initialized RX1, .code yX1_name cX1_name 1 (some .int), .methodLink RX1 36 yX1_four, .static yX1_four, .code yX1_four cX1_four 4 (some .int), .methodLink RX1 62 yX1_nameOf, .instanceMethod yX1_nameOf, .selects RX1 yX1_nameOf yX1_nameOf, .code yX1_nameOf cX1_nameOf 2 (some .int), .fieldLink RX1 7 "TraverseBoardModel" "buffer" "[I"] ++ wsX10)
def wsX1_isBeginning : List Cond := .code yX1_isBeginning cX1_isBeginning 4 (some .boolean) :: ([.methodLink RX1 59 yX1_name, .static yX1_name, .initialized RX1, .code yX1_name cX1_name 1 (some .int), .methodLink RX1 36 yX1_four, .static yX1_four, .code yX1_four cX1_four 4 (some .int), .methodLink RX1 65 yX1_unit, .static yX1_unit, .code yX1_unit cX1_unit 3 (some .int), .methodLink RX1 62 yX1_nameOf, .instanceMethod yX1_nameOf, .selects RX1 yX1_nameOf yX1_nameOf, .code yX1_nameOf cX1_nameOf 2 (some .int), .fieldLink RX1 7 "TraverseBoardModel" "buffer" "[I"] ++ wsX10)
def wsX1_parse_r1 : List Cond := [Cond.fieldLink RX1 53 "TraverseBoardModel" "bufferLength" "I", Cond.fieldLink RX1 7 "TraverseBoardModel" "buffer" "[I", Cond.fieldLink RX1 72 "TraverseBoardModel" "errorAt" "I", Cond.fieldLink RX1 75 "TraverseBoardModel" "isPeg" "Z", Cond.fieldLink RX1 82 "TraverseBoardModel" "readPoint" "I", Cond.fieldLink RX1 85 "TraverseBoardModel" "readSpeed" "I", Cond.methodLink RX1 68 yX1_isBeginning, Cond.instanceMethod yX1_isBeginning, Cond.selects RX1 yX1_isBeginning yX1_isBeginning, Cond.initialized RX1, Cond.code yX1_isBeginning cX1_isBeginning 4 (some .boolean), Cond.methodLink RX1 59 yX1_name, Cond.static yX1_name, Cond.code yX1_name cX1_name 1 (some .int), Cond.methodLink RX1 36 yX1_four, Cond.static yX1_four, Cond.code yX1_four cX1_four 4 (some .int), Cond.methodLink RX1 65 yX1_unit, Cond.static yX1_unit, Cond.code yX1_unit cX1_unit 3 (some .int), Cond.methodLink RX1 62 yX1_nameOf, Cond.instanceMethod yX1_nameOf, Cond.selects RX1 yX1_nameOf yX1_nameOf, Cond.code yX1_nameOf cX1_nameOf 2 (some .int)]
def wsX1_parse_r2 : List Cond := [Cond.methodLink RX1 79 yX1_pointBy, Cond.instanceMethod yX1_pointBy, Cond.selects RX1 yX1_pointBy yX1_pointBy, Cond.code yX1_pointBy cX1_pointBy 4 (some .int), Cond.methodLink RX1 47 yX1_within, Cond.static yX1_within, Cond.code yX1_within cX1_within 3 (some .boolean)]
def wsX1_parse : List Cond := .code yX1_parse cX1_parse 5 none :: ((wsX1_parse_r1 ++ wsX1_parse_r2) ++ wsX10)
def wsX1_errorPosition_r1 : List Cond := [Cond.fieldLink RX1 72 "TraverseBoardModel" "errorAt" "I", Cond.methodLink RX1 88 yX1_parse, Cond.instanceMethod yX1_parse, Cond.selects RX1 yX1_parse yX1_parse, Cond.initialized RX1, Cond.code yX1_parse cX1_parse 5 none, Cond.fieldLink RX1 53 "TraverseBoardModel" "bufferLength" "I", Cond.fieldLink RX1 7 "TraverseBoardModel" "buffer" "[I", Cond.fieldLink RX1 75 "TraverseBoardModel" "isPeg" "Z", Cond.fieldLink RX1 82 "TraverseBoardModel" "readPoint" "I", Cond.fieldLink RX1 85 "TraverseBoardModel" "readSpeed" "I", Cond.methodLink RX1 68 yX1_isBeginning, Cond.instanceMethod yX1_isBeginning, Cond.selects RX1 yX1_isBeginning yX1_isBeginning, Cond.code yX1_isBeginning cX1_isBeginning 4 (some .boolean), Cond.methodLink RX1 59 yX1_name, Cond.static yX1_name, Cond.code yX1_name cX1_name 1 (some .int), Cond.methodLink RX1 36 yX1_four, Cond.static yX1_four, Cond.code yX1_four cX1_four 4 (some .int), Cond.methodLink RX1 65 yX1_unit, Cond.static yX1_unit, Cond.code yX1_unit cX1_unit 3 (some .int)]
def wsX1_errorPosition_r2 : List Cond := [Cond.methodLink RX1 62 yX1_nameOf, Cond.instanceMethod yX1_nameOf, Cond.selects RX1 yX1_nameOf yX1_nameOf, Cond.code yX1_nameOf cX1_nameOf 2 (some .int), Cond.methodLink RX1 79 yX1_pointBy, Cond.instanceMethod yX1_pointBy, Cond.selects RX1 yX1_pointBy yX1_pointBy, Cond.code yX1_pointBy cX1_pointBy 4 (some .int), Cond.methodLink RX1 47 yX1_within, Cond.static yX1_within, Cond.code yX1_within cX1_within 3 (some .boolean)]
def wsX1_errorPosition : List Cond := .code yX1_errorPosition cX1_errorPosition 1 (some .long) :: ((wsX1_errorPosition_r1 ++ wsX1_errorPosition_r2) ++ wsX10)
def wsX1_addPeg : List Cond := .code yX1_addPeg cX1_addPeg 3 (some .int) :: ([.fieldLink RX1 13 "TraverseBoardModel" "point" "[I", .fieldLink RX1 91 "TraverseBoardModel" "pegs" "I", .fieldLink RX1 16 "TraverseBoardModel" "speed" "[I", .fieldLink RX1 19 "TraverseBoardModel" "leeway" "[I", .fieldLink RX1 22 "TraverseBoardModel" "isLost" "[Z", .fieldLink RX1 26 "TraverseBoardModel" "hasFix" "[Z"] ++ wsX10)
def wsX1_addFromBuffer_r1 : List Cond := [Cond.fieldLink RX1 75 "TraverseBoardModel" "isPeg" "Z", Cond.constantLong RX1 94 (-9000000000000000005), Cond.fieldLink RX1 91 "TraverseBoardModel" "pegs" "I", Cond.constantLong RX1 57 (-9000000000000000004), Cond.fieldLink RX1 53 "TraverseBoardModel" "bufferLength" "I", Cond.fieldLink RX1 82 "TraverseBoardModel" "readPoint" "I", Cond.fieldLink RX1 85 "TraverseBoardModel" "readSpeed" "I", Cond.methodLink RX1 88 yX1_parse, Cond.instanceMethod yX1_parse, Cond.selects RX1 yX1_parse yX1_parse, Cond.initialized RX1, Cond.code yX1_parse cX1_parse 5 none, Cond.fieldLink RX1 7 "TraverseBoardModel" "buffer" "[I", Cond.fieldLink RX1 72 "TraverseBoardModel" "errorAt" "I", Cond.methodLink RX1 68 yX1_isBeginning, Cond.instanceMethod yX1_isBeginning, Cond.selects RX1 yX1_isBeginning yX1_isBeginning, Cond.code yX1_isBeginning cX1_isBeginning 4 (some .boolean), Cond.methodLink RX1 59 yX1_name, Cond.static yX1_name, Cond.code yX1_name cX1_name 1 (some .int), Cond.methodLink RX1 36 yX1_four, Cond.static yX1_four, Cond.code yX1_four cX1_four 4 (some .int)]
def wsX1_addFromBuffer_r2 : List Cond := [Cond.methodLink RX1 65 yX1_unit, Cond.static yX1_unit, Cond.code yX1_unit cX1_unit 3 (some .int), Cond.methodLink RX1 62 yX1_nameOf, Cond.instanceMethod yX1_nameOf, Cond.selects RX1 yX1_nameOf yX1_nameOf, Cond.code yX1_nameOf cX1_nameOf 2 (some .int), Cond.methodLink RX1 79 yX1_pointBy, Cond.instanceMethod yX1_pointBy, Cond.selects RX1 yX1_pointBy yX1_pointBy, Cond.code yX1_pointBy cX1_pointBy 4 (some .int), Cond.methodLink RX1 47 yX1_within, Cond.static yX1_within, Cond.code yX1_within cX1_within 3 (some .boolean), Cond.methodLink RX1 96 yX1_addPeg, Cond.instanceMethod yX1_addPeg, Cond.selects RX1 yX1_addPeg yX1_addPeg, Cond.code yX1_addPeg cX1_addPeg 3 (some .int), Cond.fieldLink RX1 13 "TraverseBoardModel" "point" "[I", Cond.fieldLink RX1 16 "TraverseBoardModel" "speed" "[I", Cond.fieldLink RX1 19 "TraverseBoardModel" "leeway" "[I", Cond.fieldLink RX1 22 "TraverseBoardModel" "isLost" "[Z", Cond.fieldLink RX1 26 "TraverseBoardModel" "hasFix" "[Z"]
def wsX1_addFromBuffer : List Cond := .code yX1_addFromBuffer cX1_addFromBuffer 1 (some .long) :: ((wsX1_addFromBuffer_r1 ++ wsX1_addFromBuffer_r2) ++ wsX10)
def wsX1_isPoint : List Cond := .code yX1_isPoint cX1_isPoint 1 (some .boolean) :: ([.methodLink RX1 47 yX1_within, .static yX1_within, .initialized RX1, .code yX1_within cX1_within 3 (some .boolean)])
def wsX1_add : List Cond := .code yX1_add cX1_add 3 (some .long) :: ([.constantLong RX1 51 (-9000000000000000001), .fieldLink RX1 91 "TraverseBoardModel" "pegs" "I", .constantLong RX1 57 (-9000000000000000004), .methodLink RX1 100 yX1_isPoint, .static yX1_isPoint, .initialized RX1, .code yX1_isPoint cX1_isPoint 1 (some .boolean), .methodLink RX1 47 yX1_within, .static yX1_within, .code yX1_within cX1_within 3 (some .boolean), .methodLink RX1 96 yX1_addPeg, .instanceMethod yX1_addPeg, .selects RX1 yX1_addPeg yX1_addPeg, .code yX1_addPeg cX1_addPeg 3 (some .int), .fieldLink RX1 13 "TraverseBoardModel" "point" "[I", .fieldLink RX1 16 "TraverseBoardModel" "speed" "[I", .fieldLink RX1 19 "TraverseBoardModel" "leeway" "[I", .fieldLink RX1 22 "TraverseBoardModel" "isLost" "[Z", .fieldLink RX1 26 "TraverseBoardModel" "hasFix" "[Z"] ++ wsX10)
def wsX1_isPegNumber : List Cond := .code yX1_isPegNumber cX1_isPegNumber 2 (some .boolean) :: ([.fieldLink RX1 91 "TraverseBoardModel" "pegs" "I", .methodLink RX1 47 yX1_within, .static yX1_within, .initialized RX1, .code yX1_within cX1_within 3 (some .boolean)] ++ wsX10)
def wsX1_replace : List Cond := .code yX1_replace cX1_replace 6 (some .long) :: ([.constantLong RX1 106 (-9000000000000000002), .constantLong RX1 51 (-9000000000000000001), .fieldLink RX1 22 "TraverseBoardModel" "isLost" "[Z", .fieldLink RX1 13 "TraverseBoardModel" "point" "[I", .fieldLink RX1 16 "TraverseBoardModel" "speed" "[I", .methodLink RX1 103 yX1_isPegNumber, .instanceMethod yX1_isPegNumber, .selects RX1 yX1_isPegNumber yX1_isPegNumber, .initialized RX1, .code yX1_isPegNumber cX1_isPegNumber 2 (some .boolean), .fieldLink RX1 91 "TraverseBoardModel" "pegs" "I", .methodLink RX1 47 yX1_within, .static yX1_within, .code yX1_within cX1_within 3 (some .boolean), .methodLink RX1 100 yX1_isPoint, .static yX1_isPoint, .code yX1_isPoint cX1_isPoint 1 (some .boolean)] ++ wsX10)
def wsX1_removeLast : List Cond := .code yX1_removeLast cX1_removeLast 1 (some .long) :: ([.fieldLink RX1 91 "TraverseBoardModel" "pegs" "I", .constantLong RX1 108 (-9000000000000000007), .fieldLink RX1 26 "TraverseBoardModel" "hasFix" "[Z"] ++ wsX10)
def wsX1_lostMany : List Cond := .code yX1_lostMany cX1_lostMany 3 (some .int) :: ([.fieldLink RX1 91 "TraverseBoardModel" "pegs" "I", .fieldLink RX1 22 "TraverseBoardModel" "isLost" "[Z"] ++ wsX10)
def wsX1_lose : List Cond := .code yX1_lose cX1_lose 2 (some .long) :: ([.constantLong RX1 106 (-9000000000000000002), .fieldLink RX1 22 "TraverseBoardModel" "isLost" "[Z", .constantLong RX1 110 (-9000000000000000006), .methodLink RX1 103 yX1_isPegNumber, .instanceMethod yX1_isPegNumber, .selects RX1 yX1_isPegNumber yX1_isPegNumber, .initialized RX1, .code yX1_isPegNumber cX1_isPegNumber 2 (some .boolean), .fieldLink RX1 91 "TraverseBoardModel" "pegs" "I", .methodLink RX1 47 yX1_within, .static yX1_within, .code yX1_within cX1_within 3 (some .boolean), .methodLink RX1 112 yX1_lostMany, .instanceMethod yX1_lostMany, .selects RX1 yX1_lostMany yX1_lostMany, .code yX1_lostMany cX1_lostMany 3 (some .int)] ++ wsX10)
def wsX1_setLeeway : List Cond := .code yX1_setLeeway cX1_setLeeway 5 (some .long) :: ([.constantLong RX1 106 (-9000000000000000002), .constantLong RX1 51 (-9000000000000000001), .fieldLink RX1 19 "TraverseBoardModel" "leeway" "[I", .methodLink RX1 103 yX1_isPegNumber, .instanceMethod yX1_isPegNumber, .selects RX1 yX1_isPegNumber yX1_isPegNumber, .initialized RX1, .code yX1_isPegNumber cX1_isPegNumber 2 (some .boolean), .fieldLink RX1 91 "TraverseBoardModel" "pegs" "I", .methodLink RX1 47 yX1_within, .static yX1_within, .code yX1_within cX1_within 3 (some .boolean)] ++ wsX10)
def wsX1_setCurrent : List Cond := .code yX1_setCurrent cX1_setCurrent 5 (some .long) :: ([.constantLong RX1 51 (-9000000000000000001), .fieldLink RX1 116 "TraverseBoardModel" "drift" "I", .fieldLink RX1 119 "TraverseBoardModel" "set" "I", .methodLink RX1 100 yX1_isPoint, .static yX1_isPoint, .initialized RX1, .code yX1_isPoint cX1_isPoint 1 (some .boolean), .methodLink RX1 47 yX1_within, .static yX1_within, .code yX1_within cX1_within 3 (some .boolean)] ++ wsX10)
def wsX1_pegCount : List Cond := .code yX1_pegCount cX1_pegCount 1 (some .long) :: ([.fieldLink RX1 91 "TraverseBoardModel" "pegs" "I"] ++ wsX10)
def wsX1_pointNow : List Cond := .code yX1_pointNow cX1_pointNow 2 (some .long) :: ([.fieldLink RX1 22 "TraverseBoardModel" "isLost" "[Z", .constantLong RX1 110 (-9000000000000000006), .fieldLink RX1 13 "TraverseBoardModel" "point" "[I"] ++ wsX10)
def wsX1_speedNow : List Cond := .code yX1_speedNow cX1_speedNow 2 (some .long) :: ([.fieldLink RX1 22 "TraverseBoardModel" "isLost" "[Z", .constantLong RX1 110 (-9000000000000000006), .fieldLink RX1 16 "TraverseBoardModel" "speed" "[I"] ++ wsX10)
def wsX1_pointOf : List Cond := .code yX1_pointOf cX1_pointOf 2 (some .long) :: ([.constantLong RX1 106 (-9000000000000000002), .methodLink RX1 103 yX1_isPegNumber, .instanceMethod yX1_isPegNumber, .selects RX1 yX1_isPegNumber yX1_isPegNumber, .initialized RX1, .code yX1_isPegNumber cX1_isPegNumber 2 (some .boolean), .fieldLink RX1 91 "TraverseBoardModel" "pegs" "I", .methodLink RX1 47 yX1_within, .static yX1_within, .code yX1_within cX1_within 3 (some .boolean), .methodLink RX1 122 yX1_pointNow, .instanceMethod yX1_pointNow, .selects RX1 yX1_pointNow yX1_pointNow, .code yX1_pointNow cX1_pointNow 2 (some .long), .fieldLink RX1 22 "TraverseBoardModel" "isLost" "[Z", .constantLong RX1 110 (-9000000000000000006), .fieldLink RX1 13 "TraverseBoardModel" "point" "[I"] ++ wsX10)
def wsX1_speedOf : List Cond := .code yX1_speedOf cX1_speedOf 2 (some .long) :: ([.constantLong RX1 106 (-9000000000000000002), .methodLink RX1 103 yX1_isPegNumber, .instanceMethod yX1_isPegNumber, .selects RX1 yX1_isPegNumber yX1_isPegNumber, .initialized RX1, .code yX1_isPegNumber cX1_isPegNumber 2 (some .boolean), .fieldLink RX1 91 "TraverseBoardModel" "pegs" "I", .methodLink RX1 47 yX1_within, .static yX1_within, .code yX1_within cX1_within 3 (some .boolean), .methodLink RX1 126 yX1_speedNow, .instanceMethod yX1_speedNow, .selects RX1 yX1_speedNow yX1_speedNow, .code yX1_speedNow cX1_speedNow 2 (some .long), .fieldLink RX1 22 "TraverseBoardModel" "isLost" "[Z", .constantLong RX1 110 (-9000000000000000006), .fieldLink RX1 16 "TraverseBoardModel" "speed" "[I"] ++ wsX10)
def wsX1_speedTowards : List Cond := .code yX1_speedTowards cX1_speedTowards 5 (some .long) :: ([.constantLong RX1 51 (-9000000000000000001), .fieldLink RX1 91 "TraverseBoardModel" "pegs" "I", .fieldLink RX1 22 "TraverseBoardModel" "isLost" "[Z", .fieldLink RX1 13 "TraverseBoardModel" "point" "[I", .fieldLink RX1 16 "TraverseBoardModel" "speed" "[I", .methodLink RX1 100 yX1_isPoint, .static yX1_isPoint, .initialized RX1, .code yX1_isPoint cX1_isPoint 1 (some .boolean), .methodLink RX1 47 yX1_within, .static yX1_within, .code yX1_within cX1_within 3 (some .boolean)] ++ wsX10)
def wsX1_fixMany : List Cond := .code yX1_fixMany cX1_fixMany 3 (some .int) :: ([.fieldLink RX1 91 "TraverseBoardModel" "pegs" "I", .fieldLink RX1 26 "TraverseBoardModel" "hasFix" "[Z"] ++ wsX10)
def wsX1_setFix : List Cond := .code yX1_setFix cX1_setFix 4 (some .long) :: ([.fieldLink RX1 91 "TraverseBoardModel" "pegs" "I", .constantLong RX1 129 (-9000000000000000003), .constant RX1 131 (-200000000), .constant RX1 132 (200000000), .constantLong RX1 51 (-9000000000000000001), .fieldLink RX1 26 "TraverseBoardModel" "hasFix" "[Z", .fieldLink RX1 29 "TraverseBoardModel" "fixNorth" "[J", .fieldLink RX1 33 "TraverseBoardModel" "fixEast" "[J", .methodLink RX1 47 yX1_within, .static yX1_within, .initialized RX1, .code yX1_within cX1_within 3 (some .boolean), .methodLink RX1 133 yX1_fixMany, .instanceMethod yX1_fixMany, .selects RX1 yX1_fixMany yX1_fixMany, .code yX1_fixMany cX1_fixMany 3 (some .int)] ++ wsX10)
def wsX1_removeFix : List Cond := .code yX1_removeFix cX1_removeFix 2 (some .long) :: ([.fieldLink RX1 91 "TraverseBoardModel" "pegs" "I", .constantLong RX1 129 (-9000000000000000003), .fieldLink RX1 26 "TraverseBoardModel" "hasFix" "[Z", .constantLong RX1 108 (-9000000000000000007), .methodLink RX1 47 yX1_within, .static yX1_within, .initialized RX1, .code yX1_within cX1_within 3 (some .boolean), .methodLink RX1 133 yX1_fixMany, .instanceMethod yX1_fixMany, .selects RX1 yX1_fixMany yX1_fixMany, .code yX1_fixMany cX1_fixMany 3 (some .int)] ++ wsX10)
def wsX1_isMoment : List Cond := .code yX1_isMoment cX1_isMoment 2 (some .boolean) :: ([.fieldLink RX1 91 "TraverseBoardModel" "pegs" "I", .methodLink RX1 47 yX1_within, .static yX1_within, .initialized RX1, .code yX1_within cX1_within 3 (some .boolean)] ++ wsX10)
def wsX1_fixAt : List Cond := .code yX1_fixAt cX1_fixAt 3 (some .int) :: ([.fieldLink RX1 26 "TraverseBoardModel" "hasFix" "[Z"] ++ wsX10)
def wsX1_fixBehind : List Cond := .code yX1_fixBehind cX1_fixBehind 4 (some .int) :: ([.fieldLink RX1 91 "TraverseBoardModel" "pegs" "I", .fieldLink RX1 26 "TraverseBoardModel" "hasFix" "[Z"] ++ wsX10)
def wsX1_leg : List Cond := .code yX1_leg cX1_leg 6 (some .long) :: ([.fieldLink RX1 13 "TraverseBoardModel" "point" "[I", .fieldLink RX1 19 "TraverseBoardModel" "leeway" "[I", .fieldLink RX1 22 "TraverseBoardModel" "isLost" "[Z", .fieldLink RX1 16 "TraverseBoardModel" "speed" "[I", .fieldLink RX1 116 "TraverseBoardModel" "drift" "I", .fieldLink RX1 119 "TraverseBoardModel" "set" "I", .methodLink RX1 136 yX1_cosine, .static yX1_cosine, .initialized RX1, .code yX1_cosine cX1_cosine 1 (some .int), .methodLink RX1 44 yX1_sine, .static yX1_sine, .code yX1_sine cX1_sine 3 (some .int), .methodLink RX1 40 yX1_quarter, .static yX1_quarter, .code yX1_quarter cX1_quarter 1 (some .int)] ++ wsX10)
def wsX1_fixed : List Cond := .code yX1_fixed cX1_fixed 3 (some .long) :: ([.fieldLink RX1 29 "TraverseBoardModel" "fixNorth" "[J", .fieldLink RX1 33 "TraverseBoardModel" "fixEast" "[J"] ++ wsX10)
def wsX1_gone_r1 : List Cond := [Cond.methodLink RX1 139 yX1_fixed, Cond.instanceMethod yX1_fixed, Cond.selects RX1 yX1_fixed yX1_fixed, Cond.initialized RX1, Cond.code yX1_fixed cX1_fixed 3 (some .long), Cond.fieldLink RX1 29 "TraverseBoardModel" "fixNorth" "[J", Cond.fieldLink RX1 33 "TraverseBoardModel" "fixEast" "[J", Cond.methodLink RX1 143 yX1_leg, Cond.instanceMethod yX1_leg, Cond.selects RX1 yX1_leg yX1_leg, Cond.code yX1_leg cX1_leg 6 (some .long), Cond.fieldLink RX1 13 "TraverseBoardModel" "point" "[I", Cond.fieldLink RX1 19 "TraverseBoardModel" "leeway" "[I", Cond.fieldLink RX1 22 "TraverseBoardModel" "isLost" "[Z", Cond.fieldLink RX1 16 "TraverseBoardModel" "speed" "[I", Cond.fieldLink RX1 116 "TraverseBoardModel" "drift" "I", Cond.fieldLink RX1 119 "TraverseBoardModel" "set" "I", Cond.methodLink RX1 136 yX1_cosine, Cond.static yX1_cosine, Cond.code yX1_cosine cX1_cosine 1 (some .int), Cond.methodLink RX1 44 yX1_sine, Cond.static yX1_sine, Cond.code yX1_sine cX1_sine 3 (some .int), Cond.methodLink RX1 40 yX1_quarter]
def wsX1_gone_r2 : List Cond := [Cond.static yX1_quarter, Cond.code yX1_quarter cX1_quarter 1 (some .int)]
def wsX1_gone : List Cond := .code yX1_gone cX1_gone 7 (some .long) :: ((wsX1_gone_r1 ++ wsX1_gone_r2) ++ wsX10)
def wsX1_floor : List Cond := .code yX1_floor cX1_floor 6 (some .long) :: ([])
def wsX1_reckoned_r1 : List Cond := [Cond.methodLink RX1 146 yX1_fixAt, Cond.instanceMethod yX1_fixAt, Cond.selects RX1 yX1_fixAt yX1_fixAt, Cond.initialized RX1, Cond.code yX1_fixAt cX1_fixAt 3 (some .int), Cond.fieldLink RX1 26 "TraverseBoardModel" "hasFix" "[Z", Cond.methodLink RX1 149 yX1_gone, Cond.instanceMethod yX1_gone, Cond.selects RX1 yX1_gone yX1_gone, Cond.code yX1_gone cX1_gone 7 (some .long), Cond.methodLink RX1 139 yX1_fixed, Cond.instanceMethod yX1_fixed, Cond.selects RX1 yX1_fixed yX1_fixed, Cond.code yX1_fixed cX1_fixed 3 (some .long), Cond.fieldLink RX1 29 "TraverseBoardModel" "fixNorth" "[J", Cond.fieldLink RX1 33 "TraverseBoardModel" "fixEast" "[J", Cond.methodLink RX1 143 yX1_leg, Cond.instanceMethod yX1_leg, Cond.selects RX1 yX1_leg yX1_leg, Cond.code yX1_leg cX1_leg 6 (some .long), Cond.fieldLink RX1 13 "TraverseBoardModel" "point" "[I", Cond.fieldLink RX1 19 "TraverseBoardModel" "leeway" "[I", Cond.fieldLink RX1 22 "TraverseBoardModel" "isLost" "[Z", Cond.fieldLink RX1 16 "TraverseBoardModel" "speed" "[I"]
def wsX1_reckoned_r2 : List Cond := [Cond.fieldLink RX1 116 "TraverseBoardModel" "drift" "I", Cond.fieldLink RX1 119 "TraverseBoardModel" "set" "I", Cond.methodLink RX1 136 yX1_cosine, Cond.static yX1_cosine, Cond.code yX1_cosine cX1_cosine 1 (some .int), Cond.methodLink RX1 44 yX1_sine, Cond.static yX1_sine, Cond.code yX1_sine cX1_sine 3 (some .int), Cond.methodLink RX1 40 yX1_quarter, Cond.static yX1_quarter, Cond.code yX1_quarter cX1_quarter 1 (some .int)]
def wsX1_reckoned : List Cond := .code yX1_reckoned cX1_reckoned 3 (some .long) :: ((wsX1_reckoned_r1 ++ wsX1_reckoned_r2) ++ wsX10)
def wsX1_corrected_r1 : List Cond := [Cond.methodLink RX1 146 yX1_fixAt, Cond.instanceMethod yX1_fixAt, Cond.selects RX1 yX1_fixAt yX1_fixAt, Cond.initialized RX1, Cond.code yX1_fixAt cX1_fixAt 3 (some .int), Cond.fieldLink RX1 26 "TraverseBoardModel" "hasFix" "[Z", Cond.methodLink RX1 153 yX1_fixBehind, Cond.instanceMethod yX1_fixBehind, Cond.selects RX1 yX1_fixBehind yX1_fixBehind, Cond.code yX1_fixBehind cX1_fixBehind 4 (some .int), Cond.fieldLink RX1 91 "TraverseBoardModel" "pegs" "I", Cond.methodLink RX1 149 yX1_gone, Cond.instanceMethod yX1_gone, Cond.selects RX1 yX1_gone yX1_gone, Cond.code yX1_gone cX1_gone 7 (some .long), Cond.methodLink RX1 139 yX1_fixed, Cond.instanceMethod yX1_fixed, Cond.selects RX1 yX1_fixed yX1_fixed, Cond.code yX1_fixed cX1_fixed 3 (some .long), Cond.fieldLink RX1 29 "TraverseBoardModel" "fixNorth" "[J", Cond.fieldLink RX1 33 "TraverseBoardModel" "fixEast" "[J", Cond.methodLink RX1 143 yX1_leg, Cond.instanceMethod yX1_leg, Cond.selects RX1 yX1_leg yX1_leg]
def wsX1_corrected_r2 : List Cond := [Cond.code yX1_leg cX1_leg 6 (some .long), Cond.fieldLink RX1 13 "TraverseBoardModel" "point" "[I", Cond.fieldLink RX1 19 "TraverseBoardModel" "leeway" "[I", Cond.fieldLink RX1 22 "TraverseBoardModel" "isLost" "[Z", Cond.fieldLink RX1 16 "TraverseBoardModel" "speed" "[I", Cond.fieldLink RX1 116 "TraverseBoardModel" "drift" "I", Cond.fieldLink RX1 119 "TraverseBoardModel" "set" "I", Cond.methodLink RX1 136 yX1_cosine, Cond.static yX1_cosine, Cond.code yX1_cosine cX1_cosine 1 (some .int), Cond.methodLink RX1 44 yX1_sine, Cond.static yX1_sine, Cond.code yX1_sine cX1_sine 3 (some .int), Cond.methodLink RX1 40 yX1_quarter, Cond.static yX1_quarter, Cond.code yX1_quarter cX1_quarter 1 (some .int), Cond.methodLink RX1 156 yX1_floor, Cond.static yX1_floor, Cond.code yX1_floor cX1_floor 6 (some .long)]
def wsX1_corrected : List Cond := .code yX1_corrected cX1_corrected 9 (some .long) :: ((wsX1_corrected_r1 ++ wsX1_corrected_r2) ++ wsX10)
def wsX1_reckonedNorth_r1 : List Cond := [Cond.constantLong RX1 129 (-9000000000000000003), Cond.methodLink RX1 160 yX1_isMoment, Cond.instanceMethod yX1_isMoment, Cond.selects RX1 yX1_isMoment yX1_isMoment, Cond.initialized RX1, Cond.code yX1_isMoment cX1_isMoment 2 (some .boolean), Cond.fieldLink RX1 91 "TraverseBoardModel" "pegs" "I", Cond.methodLink RX1 47 yX1_within, Cond.static yX1_within, Cond.code yX1_within cX1_within 3 (some .boolean), Cond.methodLink RX1 163 yX1_reckoned, Cond.instanceMethod yX1_reckoned, Cond.selects RX1 yX1_reckoned yX1_reckoned, Cond.code yX1_reckoned cX1_reckoned 3 (some .long), Cond.methodLink RX1 146 yX1_fixAt, Cond.instanceMethod yX1_fixAt, Cond.selects RX1 yX1_fixAt yX1_fixAt, Cond.code yX1_fixAt cX1_fixAt 3 (some .int), Cond.fieldLink RX1 26 "TraverseBoardModel" "hasFix" "[Z", Cond.methodLink RX1 149 yX1_gone, Cond.instanceMethod yX1_gone, Cond.selects RX1 yX1_gone yX1_gone, Cond.code yX1_gone cX1_gone 7 (some .long), Cond.methodLink RX1 139 yX1_fixed]
def wsX1_reckonedNorth_r2 : List Cond := [Cond.instanceMethod yX1_fixed, Cond.selects RX1 yX1_fixed yX1_fixed, Cond.code yX1_fixed cX1_fixed 3 (some .long), Cond.fieldLink RX1 29 "TraverseBoardModel" "fixNorth" "[J", Cond.fieldLink RX1 33 "TraverseBoardModel" "fixEast" "[J", Cond.methodLink RX1 143 yX1_leg, Cond.instanceMethod yX1_leg, Cond.selects RX1 yX1_leg yX1_leg, Cond.code yX1_leg cX1_leg 6 (some .long), Cond.fieldLink RX1 13 "TraverseBoardModel" "point" "[I", Cond.fieldLink RX1 19 "TraverseBoardModel" "leeway" "[I", Cond.fieldLink RX1 22 "TraverseBoardModel" "isLost" "[Z", Cond.fieldLink RX1 16 "TraverseBoardModel" "speed" "[I", Cond.fieldLink RX1 116 "TraverseBoardModel" "drift" "I", Cond.fieldLink RX1 119 "TraverseBoardModel" "set" "I", Cond.methodLink RX1 136 yX1_cosine, Cond.static yX1_cosine, Cond.code yX1_cosine cX1_cosine 1 (some .int), Cond.methodLink RX1 44 yX1_sine, Cond.static yX1_sine, Cond.code yX1_sine cX1_sine 3 (some .int), Cond.methodLink RX1 40 yX1_quarter, Cond.static yX1_quarter, Cond.code yX1_quarter cX1_quarter 1 (some .int)]
def wsX1_reckonedNorth : List Cond := .code yX1_reckonedNorth cX1_reckonedNorth 2 (some .long) :: ((wsX1_reckonedNorth_r1 ++ wsX1_reckonedNorth_r2) ++ wsX10)
def wsX1_reckonedEast_r1 : List Cond := [Cond.constantLong RX1 129 (-9000000000000000003), Cond.methodLink RX1 160 yX1_isMoment, Cond.instanceMethod yX1_isMoment, Cond.selects RX1 yX1_isMoment yX1_isMoment, Cond.initialized RX1, Cond.code yX1_isMoment cX1_isMoment 2 (some .boolean), Cond.fieldLink RX1 91 "TraverseBoardModel" "pegs" "I", Cond.methodLink RX1 47 yX1_within, Cond.static yX1_within, Cond.code yX1_within cX1_within 3 (some .boolean), Cond.methodLink RX1 163 yX1_reckoned, Cond.instanceMethod yX1_reckoned, Cond.selects RX1 yX1_reckoned yX1_reckoned, Cond.code yX1_reckoned cX1_reckoned 3 (some .long), Cond.methodLink RX1 146 yX1_fixAt, Cond.instanceMethod yX1_fixAt, Cond.selects RX1 yX1_fixAt yX1_fixAt, Cond.code yX1_fixAt cX1_fixAt 3 (some .int), Cond.fieldLink RX1 26 "TraverseBoardModel" "hasFix" "[Z", Cond.methodLink RX1 149 yX1_gone, Cond.instanceMethod yX1_gone, Cond.selects RX1 yX1_gone yX1_gone, Cond.code yX1_gone cX1_gone 7 (some .long), Cond.methodLink RX1 139 yX1_fixed]
def wsX1_reckonedEast_r2 : List Cond := [Cond.instanceMethod yX1_fixed, Cond.selects RX1 yX1_fixed yX1_fixed, Cond.code yX1_fixed cX1_fixed 3 (some .long), Cond.fieldLink RX1 29 "TraverseBoardModel" "fixNorth" "[J", Cond.fieldLink RX1 33 "TraverseBoardModel" "fixEast" "[J", Cond.methodLink RX1 143 yX1_leg, Cond.instanceMethod yX1_leg, Cond.selects RX1 yX1_leg yX1_leg, Cond.code yX1_leg cX1_leg 6 (some .long), Cond.fieldLink RX1 13 "TraverseBoardModel" "point" "[I", Cond.fieldLink RX1 19 "TraverseBoardModel" "leeway" "[I", Cond.fieldLink RX1 22 "TraverseBoardModel" "isLost" "[Z", Cond.fieldLink RX1 16 "TraverseBoardModel" "speed" "[I", Cond.fieldLink RX1 116 "TraverseBoardModel" "drift" "I", Cond.fieldLink RX1 119 "TraverseBoardModel" "set" "I", Cond.methodLink RX1 136 yX1_cosine, Cond.static yX1_cosine, Cond.code yX1_cosine cX1_cosine 1 (some .int), Cond.methodLink RX1 44 yX1_sine, Cond.static yX1_sine, Cond.code yX1_sine cX1_sine 3 (some .int), Cond.methodLink RX1 40 yX1_quarter, Cond.static yX1_quarter, Cond.code yX1_quarter cX1_quarter 1 (some .int)]
def wsX1_reckonedEast : List Cond := .code yX1_reckonedEast cX1_reckonedEast 2 (some .long) :: ((wsX1_reckonedEast_r1 ++ wsX1_reckonedEast_r2) ++ wsX10)
def wsX1_correctedNorth_r1 : List Cond := [Cond.constantLong RX1 129 (-9000000000000000003), Cond.methodLink RX1 160 yX1_isMoment, Cond.instanceMethod yX1_isMoment, Cond.selects RX1 yX1_isMoment yX1_isMoment, Cond.initialized RX1, Cond.code yX1_isMoment cX1_isMoment 2 (some .boolean), Cond.fieldLink RX1 91 "TraverseBoardModel" "pegs" "I", Cond.methodLink RX1 47 yX1_within, Cond.static yX1_within, Cond.code yX1_within cX1_within 3 (some .boolean), Cond.methodLink RX1 166 yX1_corrected, Cond.instanceMethod yX1_corrected, Cond.selects RX1 yX1_corrected yX1_corrected, Cond.code yX1_corrected cX1_corrected 9 (some .long), Cond.methodLink RX1 146 yX1_fixAt, Cond.instanceMethod yX1_fixAt, Cond.selects RX1 yX1_fixAt yX1_fixAt, Cond.code yX1_fixAt cX1_fixAt 3 (some .int), Cond.fieldLink RX1 26 "TraverseBoardModel" "hasFix" "[Z", Cond.methodLink RX1 153 yX1_fixBehind, Cond.instanceMethod yX1_fixBehind, Cond.selects RX1 yX1_fixBehind yX1_fixBehind, Cond.code yX1_fixBehind cX1_fixBehind 4 (some .int), Cond.methodLink RX1 149 yX1_gone]
def wsX1_correctedNorth_r2 : List Cond := [Cond.instanceMethod yX1_gone, Cond.selects RX1 yX1_gone yX1_gone, Cond.code yX1_gone cX1_gone 7 (some .long), Cond.methodLink RX1 139 yX1_fixed, Cond.instanceMethod yX1_fixed, Cond.selects RX1 yX1_fixed yX1_fixed, Cond.code yX1_fixed cX1_fixed 3 (some .long), Cond.fieldLink RX1 29 "TraverseBoardModel" "fixNorth" "[J", Cond.fieldLink RX1 33 "TraverseBoardModel" "fixEast" "[J", Cond.methodLink RX1 143 yX1_leg, Cond.instanceMethod yX1_leg, Cond.selects RX1 yX1_leg yX1_leg, Cond.code yX1_leg cX1_leg 6 (some .long), Cond.fieldLink RX1 13 "TraverseBoardModel" "point" "[I", Cond.fieldLink RX1 19 "TraverseBoardModel" "leeway" "[I", Cond.fieldLink RX1 22 "TraverseBoardModel" "isLost" "[Z", Cond.fieldLink RX1 16 "TraverseBoardModel" "speed" "[I", Cond.fieldLink RX1 116 "TraverseBoardModel" "drift" "I", Cond.fieldLink RX1 119 "TraverseBoardModel" "set" "I", Cond.methodLink RX1 136 yX1_cosine, Cond.static yX1_cosine, Cond.code yX1_cosine cX1_cosine 1 (some .int), Cond.methodLink RX1 44 yX1_sine, Cond.static yX1_sine]
def wsX1_correctedNorth_r3 : List Cond := [Cond.code yX1_sine cX1_sine 3 (some .int), Cond.methodLink RX1 40 yX1_quarter, Cond.static yX1_quarter, Cond.code yX1_quarter cX1_quarter 1 (some .int), Cond.methodLink RX1 156 yX1_floor, Cond.static yX1_floor, Cond.code yX1_floor cX1_floor 6 (some .long)]
def wsX1_correctedNorth : List Cond := .code yX1_correctedNorth cX1_correctedNorth 2 (some .long) :: ((wsX1_correctedNorth_r1 ++ (wsX1_correctedNorth_r2 ++ wsX1_correctedNorth_r3)) ++ wsX10)
def wsX1_correctedEast_r1 : List Cond := [Cond.constantLong RX1 129 (-9000000000000000003), Cond.methodLink RX1 160 yX1_isMoment, Cond.instanceMethod yX1_isMoment, Cond.selects RX1 yX1_isMoment yX1_isMoment, Cond.initialized RX1, Cond.code yX1_isMoment cX1_isMoment 2 (some .boolean), Cond.fieldLink RX1 91 "TraverseBoardModel" "pegs" "I", Cond.methodLink RX1 47 yX1_within, Cond.static yX1_within, Cond.code yX1_within cX1_within 3 (some .boolean), Cond.methodLink RX1 166 yX1_corrected, Cond.instanceMethod yX1_corrected, Cond.selects RX1 yX1_corrected yX1_corrected, Cond.code yX1_corrected cX1_corrected 9 (some .long), Cond.methodLink RX1 146 yX1_fixAt, Cond.instanceMethod yX1_fixAt, Cond.selects RX1 yX1_fixAt yX1_fixAt, Cond.code yX1_fixAt cX1_fixAt 3 (some .int), Cond.fieldLink RX1 26 "TraverseBoardModel" "hasFix" "[Z", Cond.methodLink RX1 153 yX1_fixBehind, Cond.instanceMethod yX1_fixBehind, Cond.selects RX1 yX1_fixBehind yX1_fixBehind, Cond.code yX1_fixBehind cX1_fixBehind 4 (some .int), Cond.methodLink RX1 149 yX1_gone]
def wsX1_correctedEast_r2 : List Cond := [Cond.instanceMethod yX1_gone, Cond.selects RX1 yX1_gone yX1_gone, Cond.code yX1_gone cX1_gone 7 (some .long), Cond.methodLink RX1 139 yX1_fixed, Cond.instanceMethod yX1_fixed, Cond.selects RX1 yX1_fixed yX1_fixed, Cond.code yX1_fixed cX1_fixed 3 (some .long), Cond.fieldLink RX1 29 "TraverseBoardModel" "fixNorth" "[J", Cond.fieldLink RX1 33 "TraverseBoardModel" "fixEast" "[J", Cond.methodLink RX1 143 yX1_leg, Cond.instanceMethod yX1_leg, Cond.selects RX1 yX1_leg yX1_leg, Cond.code yX1_leg cX1_leg 6 (some .long), Cond.fieldLink RX1 13 "TraverseBoardModel" "point" "[I", Cond.fieldLink RX1 19 "TraverseBoardModel" "leeway" "[I", Cond.fieldLink RX1 22 "TraverseBoardModel" "isLost" "[Z", Cond.fieldLink RX1 16 "TraverseBoardModel" "speed" "[I", Cond.fieldLink RX1 116 "TraverseBoardModel" "drift" "I", Cond.fieldLink RX1 119 "TraverseBoardModel" "set" "I", Cond.methodLink RX1 136 yX1_cosine, Cond.static yX1_cosine, Cond.code yX1_cosine cX1_cosine 1 (some .int), Cond.methodLink RX1 44 yX1_sine, Cond.static yX1_sine]
def wsX1_correctedEast_r3 : List Cond := [Cond.code yX1_sine cX1_sine 3 (some .int), Cond.methodLink RX1 40 yX1_quarter, Cond.static yX1_quarter, Cond.code yX1_quarter cX1_quarter 1 (some .int), Cond.methodLink RX1 156 yX1_floor, Cond.static yX1_floor, Cond.code yX1_floor cX1_floor 6 (some .long)]
def wsX1_correctedEast : List Cond := .code yX1_correctedEast cX1_correctedEast 2 (some .long) :: ((wsX1_correctedEast_r1 ++ (wsX1_correctedEast_r2 ++ wsX1_correctedEast_r3)) ++ wsX10)
def wsX1_distanceNow_r1 : List Cond := [Cond.constantLong RX1 169 (2000000000), Cond.constantLong RX1 171 (2), Cond.methodLink RX1 166 yX1_corrected, Cond.instanceMethod yX1_corrected, Cond.selects RX1 yX1_corrected yX1_corrected, Cond.initialized RX1, Cond.code yX1_corrected cX1_corrected 9 (some .long), Cond.methodLink RX1 146 yX1_fixAt, Cond.instanceMethod yX1_fixAt, Cond.selects RX1 yX1_fixAt yX1_fixAt, Cond.code yX1_fixAt cX1_fixAt 3 (some .int), Cond.fieldLink RX1 26 "TraverseBoardModel" "hasFix" "[Z", Cond.methodLink RX1 153 yX1_fixBehind, Cond.instanceMethod yX1_fixBehind, Cond.selects RX1 yX1_fixBehind yX1_fixBehind, Cond.code yX1_fixBehind cX1_fixBehind 4 (some .int), Cond.fieldLink RX1 91 "TraverseBoardModel" "pegs" "I", Cond.methodLink RX1 149 yX1_gone, Cond.instanceMethod yX1_gone, Cond.selects RX1 yX1_gone yX1_gone, Cond.code yX1_gone cX1_gone 7 (some .long), Cond.methodLink RX1 139 yX1_fixed, Cond.instanceMethod yX1_fixed, Cond.selects RX1 yX1_fixed yX1_fixed]
def wsX1_distanceNow_r2 : List Cond := [Cond.code yX1_fixed cX1_fixed 3 (some .long), Cond.fieldLink RX1 29 "TraverseBoardModel" "fixNorth" "[J", Cond.fieldLink RX1 33 "TraverseBoardModel" "fixEast" "[J", Cond.methodLink RX1 143 yX1_leg, Cond.instanceMethod yX1_leg, Cond.selects RX1 yX1_leg yX1_leg, Cond.code yX1_leg cX1_leg 6 (some .long), Cond.fieldLink RX1 13 "TraverseBoardModel" "point" "[I", Cond.fieldLink RX1 19 "TraverseBoardModel" "leeway" "[I", Cond.fieldLink RX1 22 "TraverseBoardModel" "isLost" "[Z", Cond.fieldLink RX1 16 "TraverseBoardModel" "speed" "[I", Cond.fieldLink RX1 116 "TraverseBoardModel" "drift" "I", Cond.fieldLink RX1 119 "TraverseBoardModel" "set" "I", Cond.methodLink RX1 136 yX1_cosine, Cond.static yX1_cosine, Cond.code yX1_cosine cX1_cosine 1 (some .int), Cond.methodLink RX1 44 yX1_sine, Cond.static yX1_sine, Cond.code yX1_sine cX1_sine 3 (some .int), Cond.methodLink RX1 40 yX1_quarter, Cond.static yX1_quarter, Cond.code yX1_quarter cX1_quarter 1 (some .int), Cond.methodLink RX1 156 yX1_floor, Cond.static yX1_floor]
def wsX1_distanceNow_r3 : List Cond := [Cond.code yX1_floor cX1_floor 6 (some .long)]
def wsX1_distanceNow : List Cond := .code yX1_distanceNow cX1_distanceNow 15 (some .long) :: ((wsX1_distanceNow_r1 ++ (wsX1_distanceNow_r2 ++ wsX1_distanceNow_r3)) ++ wsX10)
def wsX1_distance_r1 : List Cond := [Cond.constantLong RX1 129 (-9000000000000000003), Cond.methodLink RX1 160 yX1_isMoment, Cond.instanceMethod yX1_isMoment, Cond.selects RX1 yX1_isMoment yX1_isMoment, Cond.initialized RX1, Cond.code yX1_isMoment cX1_isMoment 2 (some .boolean), Cond.fieldLink RX1 91 "TraverseBoardModel" "pegs" "I", Cond.methodLink RX1 47 yX1_within, Cond.static yX1_within, Cond.code yX1_within cX1_within 3 (some .boolean), Cond.methodLink RX1 173 yX1_distanceNow, Cond.instanceMethod yX1_distanceNow, Cond.selects RX1 yX1_distanceNow yX1_distanceNow, Cond.code yX1_distanceNow cX1_distanceNow 15 (some .long), Cond.constantLong RX1 169 (2000000000), Cond.constantLong RX1 171 (2), Cond.methodLink RX1 166 yX1_corrected, Cond.instanceMethod yX1_corrected, Cond.selects RX1 yX1_corrected yX1_corrected, Cond.code yX1_corrected cX1_corrected 9 (some .long), Cond.methodLink RX1 146 yX1_fixAt, Cond.instanceMethod yX1_fixAt, Cond.selects RX1 yX1_fixAt yX1_fixAt, Cond.code yX1_fixAt cX1_fixAt 3 (some .int)]
def wsX1_distance_r2 : List Cond := [Cond.fieldLink RX1 26 "TraverseBoardModel" "hasFix" "[Z", Cond.methodLink RX1 153 yX1_fixBehind, Cond.instanceMethod yX1_fixBehind, Cond.selects RX1 yX1_fixBehind yX1_fixBehind, Cond.code yX1_fixBehind cX1_fixBehind 4 (some .int), Cond.methodLink RX1 149 yX1_gone, Cond.instanceMethod yX1_gone, Cond.selects RX1 yX1_gone yX1_gone, Cond.code yX1_gone cX1_gone 7 (some .long), Cond.methodLink RX1 139 yX1_fixed, Cond.instanceMethod yX1_fixed, Cond.selects RX1 yX1_fixed yX1_fixed, Cond.code yX1_fixed cX1_fixed 3 (some .long), Cond.fieldLink RX1 29 "TraverseBoardModel" "fixNorth" "[J", Cond.fieldLink RX1 33 "TraverseBoardModel" "fixEast" "[J", Cond.methodLink RX1 143 yX1_leg, Cond.instanceMethod yX1_leg, Cond.selects RX1 yX1_leg yX1_leg, Cond.code yX1_leg cX1_leg 6 (some .long), Cond.fieldLink RX1 13 "TraverseBoardModel" "point" "[I", Cond.fieldLink RX1 19 "TraverseBoardModel" "leeway" "[I", Cond.fieldLink RX1 22 "TraverseBoardModel" "isLost" "[Z", Cond.fieldLink RX1 16 "TraverseBoardModel" "speed" "[I", Cond.fieldLink RX1 116 "TraverseBoardModel" "drift" "I"]
def wsX1_distance_r3 : List Cond := [Cond.fieldLink RX1 119 "TraverseBoardModel" "set" "I", Cond.methodLink RX1 136 yX1_cosine, Cond.static yX1_cosine, Cond.code yX1_cosine cX1_cosine 1 (some .int), Cond.methodLink RX1 44 yX1_sine, Cond.static yX1_sine, Cond.code yX1_sine cX1_sine 3 (some .int), Cond.methodLink RX1 40 yX1_quarter, Cond.static yX1_quarter, Cond.code yX1_quarter cX1_quarter 1 (some .int), Cond.methodLink RX1 156 yX1_floor, Cond.static yX1_floor, Cond.code yX1_floor cX1_floor 6 (some .long)]
def wsX1_distance : List Cond := .code yX1_distance cX1_distance 3 (some .long) :: ((wsX1_distance_r1 ++ (wsX1_distance_r2 ++ wsX1_distance_r3)) ++ wsX10)
def wsX1_bearingNow_r1 : List Cond := [Cond.constantLong RX1 108 (-9000000000000000007), Cond.methodLink RX1 166 yX1_corrected, Cond.instanceMethod yX1_corrected, Cond.selects RX1 yX1_corrected yX1_corrected, Cond.initialized RX1, Cond.code yX1_corrected cX1_corrected 9 (some .long), Cond.methodLink RX1 146 yX1_fixAt, Cond.instanceMethod yX1_fixAt, Cond.selects RX1 yX1_fixAt yX1_fixAt, Cond.code yX1_fixAt cX1_fixAt 3 (some .int), Cond.fieldLink RX1 26 "TraverseBoardModel" "hasFix" "[Z", Cond.methodLink RX1 153 yX1_fixBehind, Cond.instanceMethod yX1_fixBehind, Cond.selects RX1 yX1_fixBehind yX1_fixBehind, Cond.code yX1_fixBehind cX1_fixBehind 4 (some .int), Cond.fieldLink RX1 91 "TraverseBoardModel" "pegs" "I", Cond.methodLink RX1 149 yX1_gone, Cond.instanceMethod yX1_gone, Cond.selects RX1 yX1_gone yX1_gone, Cond.code yX1_gone cX1_gone 7 (some .long), Cond.methodLink RX1 139 yX1_fixed, Cond.instanceMethod yX1_fixed, Cond.selects RX1 yX1_fixed yX1_fixed, Cond.code yX1_fixed cX1_fixed 3 (some .long)]
def wsX1_bearingNow_r2 : List Cond := [Cond.fieldLink RX1 29 "TraverseBoardModel" "fixNorth" "[J", Cond.fieldLink RX1 33 "TraverseBoardModel" "fixEast" "[J", Cond.methodLink RX1 143 yX1_leg, Cond.instanceMethod yX1_leg, Cond.selects RX1 yX1_leg yX1_leg, Cond.code yX1_leg cX1_leg 6 (some .long), Cond.fieldLink RX1 13 "TraverseBoardModel" "point" "[I", Cond.fieldLink RX1 19 "TraverseBoardModel" "leeway" "[I", Cond.fieldLink RX1 22 "TraverseBoardModel" "isLost" "[Z", Cond.fieldLink RX1 16 "TraverseBoardModel" "speed" "[I", Cond.fieldLink RX1 116 "TraverseBoardModel" "drift" "I", Cond.fieldLink RX1 119 "TraverseBoardModel" "set" "I", Cond.methodLink RX1 136 yX1_cosine, Cond.static yX1_cosine, Cond.code yX1_cosine cX1_cosine 1 (some .int), Cond.methodLink RX1 44 yX1_sine, Cond.static yX1_sine, Cond.code yX1_sine cX1_sine 3 (some .int), Cond.methodLink RX1 40 yX1_quarter, Cond.static yX1_quarter, Cond.code yX1_quarter cX1_quarter 1 (some .int), Cond.methodLink RX1 156 yX1_floor, Cond.static yX1_floor, Cond.code yX1_floor cX1_floor 6 (some .long)]
def wsX1_bearingNow : List Cond := .code yX1_bearingNow cX1_bearingNow 9 (some .long) :: ((wsX1_bearingNow_r1 ++ wsX1_bearingNow_r2) ++ wsX10)
def wsX1_bearing_r1 : List Cond := [Cond.constantLong RX1 129 (-9000000000000000003), Cond.methodLink RX1 160 yX1_isMoment, Cond.instanceMethod yX1_isMoment, Cond.selects RX1 yX1_isMoment yX1_isMoment, Cond.initialized RX1, Cond.code yX1_isMoment cX1_isMoment 2 (some .boolean), Cond.fieldLink RX1 91 "TraverseBoardModel" "pegs" "I", Cond.methodLink RX1 47 yX1_within, Cond.static yX1_within, Cond.code yX1_within cX1_within 3 (some .boolean), Cond.methodLink RX1 176 yX1_bearingNow, Cond.instanceMethod yX1_bearingNow, Cond.selects RX1 yX1_bearingNow yX1_bearingNow, Cond.code yX1_bearingNow cX1_bearingNow 9 (some .long), Cond.constantLong RX1 108 (-9000000000000000007), Cond.methodLink RX1 166 yX1_corrected, Cond.instanceMethod yX1_corrected, Cond.selects RX1 yX1_corrected yX1_corrected, Cond.code yX1_corrected cX1_corrected 9 (some .long), Cond.methodLink RX1 146 yX1_fixAt, Cond.instanceMethod yX1_fixAt, Cond.selects RX1 yX1_fixAt yX1_fixAt, Cond.code yX1_fixAt cX1_fixAt 3 (some .int), Cond.fieldLink RX1 26 "TraverseBoardModel" "hasFix" "[Z"]
def wsX1_bearing_r2 : List Cond := [Cond.methodLink RX1 153 yX1_fixBehind, Cond.instanceMethod yX1_fixBehind, Cond.selects RX1 yX1_fixBehind yX1_fixBehind, Cond.code yX1_fixBehind cX1_fixBehind 4 (some .int), Cond.methodLink RX1 149 yX1_gone, Cond.instanceMethod yX1_gone, Cond.selects RX1 yX1_gone yX1_gone, Cond.code yX1_gone cX1_gone 7 (some .long), Cond.methodLink RX1 139 yX1_fixed, Cond.instanceMethod yX1_fixed, Cond.selects RX1 yX1_fixed yX1_fixed, Cond.code yX1_fixed cX1_fixed 3 (some .long), Cond.fieldLink RX1 29 "TraverseBoardModel" "fixNorth" "[J", Cond.fieldLink RX1 33 "TraverseBoardModel" "fixEast" "[J", Cond.methodLink RX1 143 yX1_leg, Cond.instanceMethod yX1_leg, Cond.selects RX1 yX1_leg yX1_leg, Cond.code yX1_leg cX1_leg 6 (some .long), Cond.fieldLink RX1 13 "TraverseBoardModel" "point" "[I", Cond.fieldLink RX1 19 "TraverseBoardModel" "leeway" "[I", Cond.fieldLink RX1 22 "TraverseBoardModel" "isLost" "[Z", Cond.fieldLink RX1 16 "TraverseBoardModel" "speed" "[I", Cond.fieldLink RX1 116 "TraverseBoardModel" "drift" "I", Cond.fieldLink RX1 119 "TraverseBoardModel" "set" "I"]
def wsX1_bearing_r3 : List Cond := [Cond.methodLink RX1 136 yX1_cosine, Cond.static yX1_cosine, Cond.code yX1_cosine cX1_cosine 1 (some .int), Cond.methodLink RX1 44 yX1_sine, Cond.static yX1_sine, Cond.code yX1_sine cX1_sine 3 (some .int), Cond.methodLink RX1 40 yX1_quarter, Cond.static yX1_quarter, Cond.code yX1_quarter cX1_quarter 1 (some .int), Cond.methodLink RX1 156 yX1_floor, Cond.static yX1_floor, Cond.code yX1_floor cX1_floor 6 (some .long)]
def wsX1_bearing : List Cond := .code yX1_bearing cX1_bearing 3 (some .long) :: ((wsX1_bearing_r1 ++ (wsX1_bearing_r2 ++ wsX1_bearing_r3)) ++ wsX10)
def wsX1_isOtherLost : List Cond := .code yX1_isOtherLost cX1_isOtherLost 6 (some .boolean) :: ([.fieldLink RX1 22 "TraverseBoardModel" "isLost" "[Z"] ++ wsX10)
def wsX1_search_r1 : List Cond := [Cond.constantLong RX1 179 (-1), Cond.fieldLink RX1 19 "TraverseBoardModel" "leeway" "[I", Cond.constantLong RX1 181 (1000), Cond.methodLink RX1 139 yX1_fixed, Cond.instanceMethod yX1_fixed, Cond.selects RX1 yX1_fixed yX1_fixed, Cond.initialized RX1, Cond.code yX1_fixed cX1_fixed 3 (some .long), Cond.fieldLink RX1 29 "TraverseBoardModel" "fixNorth" "[J", Cond.fieldLink RX1 33 "TraverseBoardModel" "fixEast" "[J", Cond.methodLink RX1 149 yX1_gone, Cond.instanceMethod yX1_gone, Cond.selects RX1 yX1_gone yX1_gone, Cond.code yX1_gone cX1_gone 7 (some .long), Cond.methodLink RX1 143 yX1_leg, Cond.instanceMethod yX1_leg, Cond.selects RX1 yX1_leg yX1_leg, Cond.code yX1_leg cX1_leg 6 (some .long), Cond.fieldLink RX1 13 "TraverseBoardModel" "point" "[I", Cond.fieldLink RX1 22 "TraverseBoardModel" "isLost" "[Z", Cond.fieldLink RX1 16 "TraverseBoardModel" "speed" "[I", Cond.fieldLink RX1 116 "TraverseBoardModel" "drift" "I", Cond.fieldLink RX1 119 "TraverseBoardModel" "set" "I", Cond.methodLink RX1 136 yX1_cosine]
def wsX1_search_r2 : List Cond := [Cond.static yX1_cosine, Cond.code yX1_cosine cX1_cosine 1 (some .int), Cond.methodLink RX1 44 yX1_sine, Cond.static yX1_sine, Cond.code yX1_sine cX1_sine 3 (some .int), Cond.methodLink RX1 40 yX1_quarter, Cond.static yX1_quarter, Cond.code yX1_quarter cX1_quarter 1 (some .int)]
def wsX1_search : List Cond := .code yX1_search cX1_search 21 (some .long) :: ((wsX1_search_r1 ++ wsX1_search_r2) ++ wsX10)
def wsX1_lostNow_r1 : List Cond := [Cond.fieldLink RX1 22 "TraverseBoardModel" "isLost" "[Z", Cond.constantLong RX1 110 (-9000000000000000006), Cond.constantLong RX1 108 (-9000000000000000007), Cond.methodLink RX1 146 yX1_fixAt, Cond.instanceMethod yX1_fixAt, Cond.selects RX1 yX1_fixAt yX1_fixAt, Cond.initialized RX1, Cond.code yX1_fixAt cX1_fixAt 3 (some .int), Cond.fieldLink RX1 26 "TraverseBoardModel" "hasFix" "[Z", Cond.methodLink RX1 153 yX1_fixBehind, Cond.instanceMethod yX1_fixBehind, Cond.selects RX1 yX1_fixBehind yX1_fixBehind, Cond.code yX1_fixBehind cX1_fixBehind 4 (some .int), Cond.fieldLink RX1 91 "TraverseBoardModel" "pegs" "I", Cond.methodLink RX1 183 yX1_isOtherLost, Cond.instanceMethod yX1_isOtherLost, Cond.selects RX1 yX1_isOtherLost yX1_isOtherLost, Cond.code yX1_isOtherLost cX1_isOtherLost 6 (some .boolean), Cond.methodLink RX1 186 yX1_search, Cond.instanceMethod yX1_search, Cond.selects RX1 yX1_search yX1_search, Cond.code yX1_search cX1_search 21 (some .long), Cond.constantLong RX1 179 (-1), Cond.fieldLink RX1 19 "TraverseBoardModel" "leeway" "[I"]
def wsX1_lostNow_r2 : List Cond := [Cond.constantLong RX1 181 (1000), Cond.methodLink RX1 139 yX1_fixed, Cond.instanceMethod yX1_fixed, Cond.selects RX1 yX1_fixed yX1_fixed, Cond.code yX1_fixed cX1_fixed 3 (some .long), Cond.fieldLink RX1 29 "TraverseBoardModel" "fixNorth" "[J", Cond.fieldLink RX1 33 "TraverseBoardModel" "fixEast" "[J", Cond.methodLink RX1 149 yX1_gone, Cond.instanceMethod yX1_gone, Cond.selects RX1 yX1_gone yX1_gone, Cond.code yX1_gone cX1_gone 7 (some .long), Cond.methodLink RX1 143 yX1_leg, Cond.instanceMethod yX1_leg, Cond.selects RX1 yX1_leg yX1_leg, Cond.code yX1_leg cX1_leg 6 (some .long), Cond.fieldLink RX1 13 "TraverseBoardModel" "point" "[I", Cond.fieldLink RX1 16 "TraverseBoardModel" "speed" "[I", Cond.fieldLink RX1 116 "TraverseBoardModel" "drift" "I", Cond.fieldLink RX1 119 "TraverseBoardModel" "set" "I", Cond.methodLink RX1 136 yX1_cosine, Cond.static yX1_cosine, Cond.code yX1_cosine cX1_cosine 1 (some .int), Cond.methodLink RX1 44 yX1_sine, Cond.static yX1_sine]
def wsX1_lostNow_r3 : List Cond := [Cond.code yX1_sine cX1_sine 3 (some .int), Cond.methodLink RX1 40 yX1_quarter, Cond.static yX1_quarter, Cond.code yX1_quarter cX1_quarter 1 (some .int)]
def wsX1_lostNow : List Cond := .code yX1_lostNow cX1_lostNow 4 (some .long) :: ((wsX1_lostNow_r1 ++ (wsX1_lostNow_r2 ++ wsX1_lostNow_r3)) ++ wsX10)
def wsX1_findLost_r1 : List Cond := [Cond.constantLong RX1 106 (-9000000000000000002), Cond.methodLink RX1 103 yX1_isPegNumber, Cond.instanceMethod yX1_isPegNumber, Cond.selects RX1 yX1_isPegNumber yX1_isPegNumber, Cond.initialized RX1, Cond.code yX1_isPegNumber cX1_isPegNumber 2 (some .boolean), Cond.fieldLink RX1 91 "TraverseBoardModel" "pegs" "I", Cond.methodLink RX1 47 yX1_within, Cond.static yX1_within, Cond.code yX1_within cX1_within 3 (some .boolean), Cond.methodLink RX1 189 yX1_lostNow, Cond.instanceMethod yX1_lostNow, Cond.selects RX1 yX1_lostNow yX1_lostNow, Cond.code yX1_lostNow cX1_lostNow 4 (some .long), Cond.fieldLink RX1 22 "TraverseBoardModel" "isLost" "[Z", Cond.constantLong RX1 110 (-9000000000000000006), Cond.constantLong RX1 108 (-9000000000000000007), Cond.methodLink RX1 146 yX1_fixAt, Cond.instanceMethod yX1_fixAt, Cond.selects RX1 yX1_fixAt yX1_fixAt, Cond.code yX1_fixAt cX1_fixAt 3 (some .int), Cond.fieldLink RX1 26 "TraverseBoardModel" "hasFix" "[Z", Cond.methodLink RX1 153 yX1_fixBehind, Cond.instanceMethod yX1_fixBehind]
def wsX1_findLost_r2 : List Cond := [Cond.selects RX1 yX1_fixBehind yX1_fixBehind, Cond.code yX1_fixBehind cX1_fixBehind 4 (some .int), Cond.methodLink RX1 183 yX1_isOtherLost, Cond.instanceMethod yX1_isOtherLost, Cond.selects RX1 yX1_isOtherLost yX1_isOtherLost, Cond.code yX1_isOtherLost cX1_isOtherLost 6 (some .boolean), Cond.methodLink RX1 186 yX1_search, Cond.instanceMethod yX1_search, Cond.selects RX1 yX1_search yX1_search, Cond.code yX1_search cX1_search 21 (some .long), Cond.constantLong RX1 179 (-1), Cond.fieldLink RX1 19 "TraverseBoardModel" "leeway" "[I", Cond.constantLong RX1 181 (1000), Cond.methodLink RX1 139 yX1_fixed, Cond.instanceMethod yX1_fixed, Cond.selects RX1 yX1_fixed yX1_fixed, Cond.code yX1_fixed cX1_fixed 3 (some .long), Cond.fieldLink RX1 29 "TraverseBoardModel" "fixNorth" "[J", Cond.fieldLink RX1 33 "TraverseBoardModel" "fixEast" "[J", Cond.methodLink RX1 149 yX1_gone, Cond.instanceMethod yX1_gone, Cond.selects RX1 yX1_gone yX1_gone, Cond.code yX1_gone cX1_gone 7 (some .long), Cond.methodLink RX1 143 yX1_leg]
def wsX1_findLost_r3 : List Cond := [Cond.instanceMethod yX1_leg, Cond.selects RX1 yX1_leg yX1_leg, Cond.code yX1_leg cX1_leg 6 (some .long), Cond.fieldLink RX1 13 "TraverseBoardModel" "point" "[I", Cond.fieldLink RX1 16 "TraverseBoardModel" "speed" "[I", Cond.fieldLink RX1 116 "TraverseBoardModel" "drift" "I", Cond.fieldLink RX1 119 "TraverseBoardModel" "set" "I", Cond.methodLink RX1 136 yX1_cosine, Cond.static yX1_cosine, Cond.code yX1_cosine cX1_cosine 1 (some .int), Cond.methodLink RX1 44 yX1_sine, Cond.static yX1_sine, Cond.code yX1_sine cX1_sine 3 (some .int), Cond.methodLink RX1 40 yX1_quarter, Cond.static yX1_quarter, Cond.code yX1_quarter cX1_quarter 1 (some .int)]
def wsX1_findLost : List Cond := .code yX1_findLost cX1_findLost 2 (some .long) :: ((wsX1_findLost_r1 ++ (wsX1_findLost_r2 ++ wsX1_findLost_r3)) ++ wsX10)
def wsX1_mix : List Cond := .code yX1_mix cX1_mix 3 none :: ([.constantLong RX1 192 (31), .fieldLink RX1 194 "TraverseBoardModel" "h" "J"] ++ wsX10)
def wsX1_digest_r1 : List Cond := [Cond.constantLong RX1 198 (1811), Cond.fieldLink RX1 194 "TraverseBoardModel" "h" "J", Cond.fieldLink RX1 91 "TraverseBoardModel" "pegs" "I", Cond.fieldLink RX1 19 "TraverseBoardModel" "leeway" "[I", Cond.fieldLink RX1 22 "TraverseBoardModel" "isLost" "[Z", Cond.fieldLink RX1 119 "TraverseBoardModel" "set" "I", Cond.fieldLink RX1 116 "TraverseBoardModel" "drift" "I", Cond.fieldLink RX1 26 "TraverseBoardModel" "hasFix" "[Z", Cond.fieldLink RX1 53 "TraverseBoardModel" "bufferLength" "I", Cond.fieldLink RX1 7 "TraverseBoardModel" "buffer" "[I", Cond.methodLink RX1 200 yX1_mix, Cond.instanceMethod yX1_mix, Cond.selects RX1 yX1_mix yX1_mix, Cond.initialized RX1, Cond.code yX1_mix cX1_mix 3 none, Cond.constantLong RX1 192 (31), Cond.methodLink RX1 122 yX1_pointNow, Cond.instanceMethod yX1_pointNow, Cond.selects RX1 yX1_pointNow yX1_pointNow, Cond.code yX1_pointNow cX1_pointNow 2 (some .long), Cond.constantLong RX1 110 (-9000000000000000006), Cond.fieldLink RX1 13 "TraverseBoardModel" "point" "[I", Cond.methodLink RX1 126 yX1_speedNow, Cond.instanceMethod yX1_speedNow]
def wsX1_digest_r2 : List Cond := [Cond.selects RX1 yX1_speedNow yX1_speedNow, Cond.code yX1_speedNow cX1_speedNow 2 (some .long), Cond.fieldLink RX1 16 "TraverseBoardModel" "speed" "[I", Cond.methodLink RX1 163 yX1_reckoned, Cond.instanceMethod yX1_reckoned, Cond.selects RX1 yX1_reckoned yX1_reckoned, Cond.code yX1_reckoned cX1_reckoned 3 (some .long), Cond.methodLink RX1 146 yX1_fixAt, Cond.instanceMethod yX1_fixAt, Cond.selects RX1 yX1_fixAt yX1_fixAt, Cond.code yX1_fixAt cX1_fixAt 3 (some .int), Cond.methodLink RX1 149 yX1_gone, Cond.instanceMethod yX1_gone, Cond.selects RX1 yX1_gone yX1_gone, Cond.code yX1_gone cX1_gone 7 (some .long), Cond.methodLink RX1 139 yX1_fixed, Cond.instanceMethod yX1_fixed, Cond.selects RX1 yX1_fixed yX1_fixed, Cond.code yX1_fixed cX1_fixed 3 (some .long), Cond.fieldLink RX1 29 "TraverseBoardModel" "fixNorth" "[J", Cond.fieldLink RX1 33 "TraverseBoardModel" "fixEast" "[J", Cond.methodLink RX1 143 yX1_leg, Cond.instanceMethod yX1_leg, Cond.selects RX1 yX1_leg yX1_leg]
def wsX1_digest_r3 : List Cond := [Cond.code yX1_leg cX1_leg 6 (some .long), Cond.methodLink RX1 136 yX1_cosine, Cond.static yX1_cosine, Cond.code yX1_cosine cX1_cosine 1 (some .int), Cond.methodLink RX1 44 yX1_sine, Cond.static yX1_sine, Cond.code yX1_sine cX1_sine 3 (some .int), Cond.methodLink RX1 40 yX1_quarter, Cond.static yX1_quarter, Cond.code yX1_quarter cX1_quarter 1 (some .int), Cond.methodLink RX1 166 yX1_corrected, Cond.instanceMethod yX1_corrected, Cond.selects RX1 yX1_corrected yX1_corrected, Cond.code yX1_corrected cX1_corrected 9 (some .long), Cond.methodLink RX1 153 yX1_fixBehind, Cond.instanceMethod yX1_fixBehind, Cond.selects RX1 yX1_fixBehind yX1_fixBehind, Cond.code yX1_fixBehind cX1_fixBehind 4 (some .int), Cond.methodLink RX1 156 yX1_floor, Cond.static yX1_floor, Cond.code yX1_floor cX1_floor 6 (some .long), Cond.methodLink RX1 173 yX1_distanceNow, Cond.instanceMethod yX1_distanceNow, Cond.selects RX1 yX1_distanceNow yX1_distanceNow]
def wsX1_digest_r4 : List Cond := [Cond.code yX1_distanceNow cX1_distanceNow 15 (some .long), Cond.constantLong RX1 169 (2000000000), Cond.constantLong RX1 171 (2), Cond.methodLink RX1 176 yX1_bearingNow, Cond.instanceMethod yX1_bearingNow, Cond.selects RX1 yX1_bearingNow yX1_bearingNow, Cond.code yX1_bearingNow cX1_bearingNow 9 (some .long), Cond.constantLong RX1 108 (-9000000000000000007), Cond.methodLink RX1 189 yX1_lostNow, Cond.instanceMethod yX1_lostNow, Cond.selects RX1 yX1_lostNow yX1_lostNow, Cond.code yX1_lostNow cX1_lostNow 4 (some .long), Cond.methodLink RX1 183 yX1_isOtherLost, Cond.instanceMethod yX1_isOtherLost, Cond.selects RX1 yX1_isOtherLost yX1_isOtherLost, Cond.code yX1_isOtherLost cX1_isOtherLost 6 (some .boolean), Cond.methodLink RX1 186 yX1_search, Cond.instanceMethod yX1_search, Cond.selects RX1 yX1_search yX1_search, Cond.code yX1_search cX1_search 21 (some .long), Cond.constantLong RX1 179 (-1), Cond.constantLong RX1 181 (1000)]
def wsX1_digest : List Cond := .code yX1_digest cX1_digest 3 (some .long) :: ((wsX1_digest_r1 ++ (wsX1_digest_r2 ++ (wsX1_digest_r3 ++ wsX1_digest_r4))) ++ wsX10)
def wsL_law_r1 : List Cond := [Cond.classLink RL 7 RX0, Cond.instantiable RX0 12, Cond.initialized RX0, Cond.classLink RL 10 RX1, Cond.instantiable RX1 17, Cond.initialized RX1, Cond.methodLink RL 9 yX0_init, Cond.instanceMethod yX0_init, Cond.code yX0_init cX0_init 1 none, Cond.methodLink RX0 1 objectInit, Cond.instanceMethod objectInit, Cond.code objectInit ⟨#[0xb1]⟩ 1 none, Cond.arrayClass .int, Cond.fieldLink RX0 9 "TraverseBoard" "buffer" "[I", Cond.fieldLink RX0 13 "TraverseBoard" "points" "[I", Cond.fieldLink RX0 16 "TraverseBoard" "speeds" "[I", Cond.fieldLink RX0 19 "TraverseBoard" "leeways" "[I", Cond.arrayClass .boolean, Cond.fieldLink RX0 22 "TraverseBoard" "lost" "[Z", Cond.fieldLink RX0 26 "TraverseBoard" "fixed" "[Z", Cond.fieldLink RX0 29 "TraverseBoard" "fixNorths" "[I", Cond.fieldLink RX0 32 "TraverseBoard" "fixEasts" "[I", Cond.methodLink RL 12 yX1_init, Cond.instanceMethod yX1_init]
def wsL_law_r2 : List Cond := [Cond.code yX1_init cX1_init 1 none, Cond.methodLink RX1 1 objectInit, Cond.fieldLink RX1 7 "TraverseBoardModel" "buffer" "[I", Cond.fieldLink RX1 13 "TraverseBoardModel" "point" "[I", Cond.fieldLink RX1 16 "TraverseBoardModel" "speed" "[I", Cond.fieldLink RX1 19 "TraverseBoardModel" "leeway" "[I", Cond.fieldLink RX1 22 "TraverseBoardModel" "isLost" "[Z", Cond.fieldLink RX1 26 "TraverseBoardModel" "hasFix" "[Z", Cond.arrayClass .long, Cond.fieldLink RX1 29 "TraverseBoardModel" "fixNorth" "[J", Cond.fieldLink RX1 33 "TraverseBoardModel" "fixEast" "[J", Cond.methodLink RL 13 yX0_append, Cond.instanceMethod yX0_append, Cond.selects RX0 yX0_append yX0_append, Cond.code yX0_append cX0_append 2 (some .long), Cond.constantLong RX0 39 (-9000000000000000001), Cond.fieldLink RX0 41 "TraverseBoard" "bufferLength" "I", Cond.constantLong RX0 45 (-9000000000000000004), Cond.methodLink RX0 35 yX0_inRange, Cond.static yX0_inRange, Cond.code yX0_inRange cX0_inRange 3 (some .boolean), Cond.methodLink RL 17 yX1_append, Cond.instanceMethod yX1_append, Cond.selects RX1 yX1_append yX1_append]
def wsL_law_r3 : List Cond := [Cond.code yX1_append cX1_append 2 (some .long), Cond.constantLong RX1 51 (-9000000000000000001), Cond.fieldLink RX1 53 "TraverseBoardModel" "bufferLength" "I", Cond.constantLong RX1 57 (-9000000000000000004), Cond.methodLink RX1 47 yX1_within, Cond.static yX1_within, Cond.code yX1_within cX1_within 3 (some .boolean), Cond.methodLink RL 18 yX0_clearBuffer, Cond.instanceMethod yX0_clearBuffer, Cond.selects RX0 yX0_clearBuffer yX0_clearBuffer, Cond.code yX0_clearBuffer cX0_clearBuffer 2 (some .long), Cond.methodLink RL 22 yX1_clearBuffer, Cond.instanceMethod yX1_clearBuffer, Cond.selects RX1 yX1_clearBuffer yX1_clearBuffer, Cond.code yX1_clearBuffer cX1_clearBuffer 2 (some .long), Cond.methodLink RL 23 yX0_errorPosition, Cond.instanceMethod yX0_errorPosition, Cond.selects RX0 yX0_errorPosition yX0_errorPosition, Cond.code yX0_errorPosition cX0_errorPosition 2 (some .long), Cond.methodLink RX0 47 yX0_pointInBuffer, Cond.instanceMethod yX0_pointInBuffer, Cond.selects RX0 yX0_pointInBuffer yX0_pointInBuffer, Cond.code yX0_pointInBuffer cX0_pointInBuffer 3 (some .int), Cond.methodLink RX0 51 yX0_agreement]
def wsL_law_r4 : List Cond := [Cond.instanceMethod yX0_agreement, Cond.selects RX0 yX0_agreement yX0_agreement, Cond.code yX0_agreement cX0_agreement 3 (some .int), Cond.methodLink RX0 55 yX0_blankEnds, Cond.instanceMethod yX0_blankEnds, Cond.selects RX0 yX0_blankEnds yX0_blankEnds, Cond.code yX0_blankEnds cX0_blankEnds 2 (some .boolean), Cond.methodLink RX0 83 yJ0_charAt_5068e, Cond.instanceMethod yJ0_charAt_5068e, Cond.selects RJ0 yJ0_charAt_5068e yJ0_charAt_5068e, Cond.initialized RJ0, Cond.code yJ0_charAt_5068e cJ0_charAt_5068e 2 (some .char), Cond.fieldLink RJ0 9 "java/lang/String" "value" "[B", Cond.methodLink RJ0 492 yJ0_isLatin1_aae02, Cond.instanceMethod yJ0_isLatin1_aae02, Cond.selects RJ0 yJ0_isLatin1_aae02 yJ0_isLatin1_aae02, Cond.code yJ0_isLatin1_aae02 cJ0_isLatin1_aae02 1 (some .boolean), Cond.fieldLink RJ0 38 "java/lang/String" "COMPACT_STRINGS" "Z", Cond.fieldLink RJ0 15 "java/lang/String" "coder" "B", Cond.methodLink RJ0 495 yJ1_charAt_3b067, Cond.static yJ1_charAt_3b067, Cond.initialized RJ1, Cond.code yJ1_charAt_3b067 cJ1_charAt_3b067 2 (some .char), Cond.methodLink RJ1 9 yJ0_checkIndex_df160]
def wsL_law_r5 : List Cond := [Cond.static yJ0_checkIndex_df160, Cond.code yJ0_checkIndex_df160 cJ0_checkIndex_df160 2 none, Cond.fieldLink RJ0 1053 "jdk/internal/util/Preconditions" "SIOOBE_FORMATTER" "Ljava/util/function/BiFunction;", Cond.methodLink RJ0 1059 yJ3_checkIndex_8e157, Cond.static yJ3_checkIndex_8e157, Cond.initialized RJ3, Cond.code yJ3_checkIndex_8e157 cJ3_checkIndex_8e157 3 (some .int), Cond.methodLink RJ0 498 yJ2_charAt_3b067, Cond.static yJ2_charAt_3b067, Cond.initialized RJ2, Cond.code yJ2_charAt_3b067 cJ2_charAt_3b067 2 (some .char), Cond.methodLink RJ2 67 yJ2_checkIndex_2214a, Cond.static yJ2_checkIndex_2214a, Cond.code yJ2_checkIndex_2214a cJ2_checkIndex_2214a 2 none, Cond.methodLink RJ2 48 yJ2_length_9d52b, Cond.static yJ2_length_9d52b, Cond.code yJ2_length_9d52b cJ2_length_9d52b 1 (some .int), Cond.methodLink RJ2 414 yJ0_checkIndex_df160, Cond.methodLink RJ2 71 yJ2_getChar_3b067, Cond.static yJ2_getChar_3b067, Cond.code yJ2_getChar_3b067 cJ2_getChar_3b067 2 (some .char), Cond.fieldLink RJ2 44 "java/lang/StringUTF16" "$assertionsDisabled" "Z", Cond.fieldLink RJ2 59 "java/lang/StringUTF16" "HI_BYTE_SHIFT" "I", Cond.fieldLink RJ2 63 "java/lang/StringUTF16" "LO_BYTE_SHIFT" "I"]
def wsL_law_r6 : List Cond := [Cond.methodLink RX0 59 yX0_speedEnd, Cond.instanceMethod yX0_speedEnd, Cond.selects RX0 yX0_speedEnd yX0_speedEnd, Cond.code yX0_speedEnd cX0_speedEnd 3 (some .int), Cond.methodLink RX0 89 yX0_digitAllowed, Cond.instanceMethod yX0_digitAllowed, Cond.selects RX0 yX0_digitAllowed yX0_digitAllowed, Cond.code yX0_digitAllowed cX0_digitAllowed 3 (some .boolean), Cond.methodLink RX0 66 yX0_digitEnds, Cond.instanceMethod yX0_digitEnds, Cond.selects RX0 yX0_digitEnds yX0_digitEnds, Cond.code yX0_digitEnds cX0_digitEnds 2 (some .boolean), Cond.methodLink RX0 74 yX0_number, Cond.instanceMethod yX0_number, Cond.selects RX0 yX0_number yX0_number, Cond.code yX0_number cX0_number 5 (some .int), Cond.methodLink RL 26 yX1_errorPosition, Cond.instanceMethod yX1_errorPosition, Cond.selects RX1 yX1_errorPosition yX1_errorPosition, Cond.code yX1_errorPosition cX1_errorPosition 1 (some .long), Cond.fieldLink RX1 72 "TraverseBoardModel" "errorAt" "I", Cond.methodLink RX1 88 yX1_parse, Cond.instanceMethod yX1_parse, Cond.selects RX1 yX1_parse yX1_parse]
def wsL_law_r7 : List Cond := [Cond.code yX1_parse cX1_parse 5 none, Cond.fieldLink RX1 75 "TraverseBoardModel" "isPeg" "Z", Cond.fieldLink RX1 82 "TraverseBoardModel" "readPoint" "I", Cond.fieldLink RX1 85 "TraverseBoardModel" "readSpeed" "I", Cond.methodLink RX1 68 yX1_isBeginning, Cond.instanceMethod yX1_isBeginning, Cond.selects RX1 yX1_isBeginning yX1_isBeginning, Cond.code yX1_isBeginning cX1_isBeginning 4 (some .boolean), Cond.methodLink RX1 59 yX1_name, Cond.static yX1_name, Cond.code yX1_name cX1_name 1 (some .int), Cond.methodLink RX1 36 yX1_four, Cond.static yX1_four, Cond.code yX1_four cX1_four 4 (some .int), Cond.methodLink RX1 65 yX1_unit, Cond.static yX1_unit, Cond.code yX1_unit cX1_unit 3 (some .int), Cond.methodLink RX1 62 yX1_nameOf, Cond.instanceMethod yX1_nameOf, Cond.selects RX1 yX1_nameOf yX1_nameOf, Cond.code yX1_nameOf cX1_nameOf 2 (some .int), Cond.methodLink RX1 79 yX1_pointBy, Cond.instanceMethod yX1_pointBy, Cond.selects RX1 yX1_pointBy yX1_pointBy]
def wsL_law_r8 : List Cond := [Cond.code yX1_pointBy cX1_pointBy 4 (some .int), Cond.methodLink RL 27 yX0_addFromBuffer, Cond.instanceMethod yX0_addFromBuffer, Cond.selects RX0 yX0_addFromBuffer yX0_addFromBuffer, Cond.code yX0_addFromBuffer cX0_addFromBuffer 3 (some .long), Cond.constantLong RX0 69 (-9000000000000000005), Cond.fieldLink RX0 71 "TraverseBoard" "pegs" "I", Cond.methodLink RX0 62 yX0_errorPosition, Cond.methodLink RX0 78 yX0_putBehindLast, Cond.instanceMethod yX0_putBehindLast, Cond.selects RX0 yX0_putBehindLast yX0_putBehindLast, Cond.code yX0_putBehindLast cX0_putBehindLast 4 (some .int), Cond.methodLink RX0 104 yX0_put, Cond.instanceMethod yX0_put, Cond.selects RX0 yX0_put yX0_put, Cond.code yX0_put cX0_put 4 none, Cond.methodLink RL 30 yX1_addFromBuffer, Cond.instanceMethod yX1_addFromBuffer, Cond.selects RX1 yX1_addFromBuffer yX1_addFromBuffer, Cond.code yX1_addFromBuffer cX1_addFromBuffer 1 (some .long), Cond.constantLong RX1 94 (-9000000000000000005), Cond.fieldLink RX1 91 "TraverseBoardModel" "pegs" "I", Cond.methodLink RX1 96 yX1_addPeg, Cond.instanceMethod yX1_addPeg]
def wsL_law_r9 : List Cond := [Cond.selects RX1 yX1_addPeg yX1_addPeg, Cond.code yX1_addPeg cX1_addPeg 3 (some .int), Cond.methodLink RL 31 yX0_add, Cond.instanceMethod yX0_add, Cond.selects RX0 yX0_add yX0_add, Cond.code yX0_add cX0_add 3 (some .long), Cond.methodLink RX0 93 yX0_isPoint, Cond.static yX0_isPoint, Cond.code yX0_isPoint cX0_isPoint 1 (some .boolean), Cond.methodLink RX0 96 yX0_isSpeed, Cond.static yX0_isSpeed, Cond.code yX0_isSpeed cX0_isSpeed 1 (some .boolean), Cond.methodLink RL 35 yX1_add, Cond.instanceMethod yX1_add, Cond.selects RX1 yX1_add yX1_add, Cond.code yX1_add cX1_add 3 (some .long), Cond.methodLink RX1 100 yX1_isPoint, Cond.static yX1_isPoint, Cond.code yX1_isPoint cX1_isPoint 1 (some .boolean), Cond.methodLink RL 36 yX0_replace, Cond.instanceMethod yX0_replace, Cond.selects RX0 yX0_replace yX0_replace, Cond.code yX0_replace cX0_replace 5 (some .long), Cond.constantLong RX0 102 (-9000000000000000002)]
def wsL_law_r10 : List Cond := [Cond.methodLink RX0 99 yX0_pegExists, Cond.instanceMethod yX0_pegExists, Cond.selects RX0 yX0_pegExists yX0_pegExists, Cond.code yX0_pegExists cX0_pegExists 2 (some .boolean), Cond.methodLink RL 40 yX1_replace, Cond.instanceMethod yX1_replace, Cond.selects RX1 yX1_replace yX1_replace, Cond.code yX1_replace cX1_replace 6 (some .long), Cond.constantLong RX1 106 (-9000000000000000002), Cond.methodLink RX1 103 yX1_isPegNumber, Cond.instanceMethod yX1_isPegNumber, Cond.selects RX1 yX1_isPegNumber yX1_isPegNumber, Cond.code yX1_isPegNumber cX1_isPegNumber 2 (some .boolean), Cond.methodLink RL 41 yX0_removeLast, Cond.instanceMethod yX0_removeLast, Cond.selects RX0 yX0_removeLast yX0_removeLast, Cond.code yX0_removeLast cX0_removeLast 1 (some .long), Cond.constantLong RX0 108 (-9000000000000000007), Cond.methodLink RL 44 yX1_removeLast, Cond.instanceMethod yX1_removeLast, Cond.selects RX1 yX1_removeLast yX1_removeLast, Cond.code yX1_removeLast cX1_removeLast 1 (some .long), Cond.constantLong RX1 108 (-9000000000000000007), Cond.methodLink RL 45 yX0_lose]
def wsL_law_r11 : List Cond := [Cond.instanceMethod yX0_lose, Cond.selects RX0 yX0_lose yX0_lose, Cond.code yX0_lose cX0_lose 2 (some .long), Cond.constantLong RX0 110 (-9000000000000000006), Cond.methodLink RX0 112 yX0_lostCount, Cond.instanceMethod yX0_lostCount, Cond.selects RX0 yX0_lostCount yX0_lostCount, Cond.code yX0_lostCount cX0_lostCount 5 (some .int), Cond.methodLink RL 48 yX1_lose, Cond.instanceMethod yX1_lose, Cond.selects RX1 yX1_lose yX1_lose, Cond.code yX1_lose cX1_lose 2 (some .long), Cond.constantLong RX1 110 (-9000000000000000006), Cond.methodLink RX1 112 yX1_lostMany, Cond.instanceMethod yX1_lostMany, Cond.selects RX1 yX1_lostMany yX1_lostMany, Cond.code yX1_lostMany cX1_lostMany 3 (some .int), Cond.methodLink RL 49 yX0_setLeeway, Cond.instanceMethod yX0_setLeeway, Cond.selects RX0 yX0_setLeeway yX0_setLeeway, Cond.code yX0_setLeeway cX0_setLeeway 4 (some .long), Cond.methodLink RL 52 yX1_setLeeway, Cond.instanceMethod yX1_setLeeway, Cond.selects RX1 yX1_setLeeway yX1_setLeeway]
def wsL_law_r12 : List Cond := [Cond.code yX1_setLeeway cX1_setLeeway 5 (some .long), Cond.methodLink RL 53 yX0_setCurrent, Cond.instanceMethod yX0_setCurrent, Cond.selects RX0 yX0_setCurrent yX0_setCurrent, Cond.code yX0_setCurrent cX0_setCurrent 4 (some .long), Cond.fieldLink RX0 115 "TraverseBoard" "drift" "I", Cond.fieldLink RX0 118 "TraverseBoard" "set" "I", Cond.methodLink RL 56 yX1_setCurrent, Cond.instanceMethod yX1_setCurrent, Cond.selects RX1 yX1_setCurrent yX1_setCurrent, Cond.code yX1_setCurrent cX1_setCurrent 5 (some .long), Cond.fieldLink RX1 116 "TraverseBoardModel" "drift" "I", Cond.fieldLink RX1 119 "TraverseBoardModel" "set" "I", Cond.methodLink RL 57 yX0_pegCount, Cond.instanceMethod yX0_pegCount, Cond.selects RX0 yX0_pegCount yX0_pegCount, Cond.code yX0_pegCount cX0_pegCount 1 (some .long), Cond.methodLink RL 60 yX1_pegCount, Cond.instanceMethod yX1_pegCount, Cond.selects RX1 yX1_pegCount yX1_pegCount, Cond.code yX1_pegCount cX1_pegCount 1 (some .long), Cond.methodLink RL 61 yX0_pointOf, Cond.instanceMethod yX0_pointOf, Cond.selects RX0 yX0_pointOf yX0_pointOf]
def wsL_law_r13 : List Cond := [Cond.code yX0_pointOf cX0_pointOf 2 (some .long), Cond.methodLink RL 64 yX1_pointOf, Cond.instanceMethod yX1_pointOf, Cond.selects RX1 yX1_pointOf yX1_pointOf, Cond.code yX1_pointOf cX1_pointOf 2 (some .long), Cond.methodLink RX1 122 yX1_pointNow, Cond.instanceMethod yX1_pointNow, Cond.selects RX1 yX1_pointNow yX1_pointNow, Cond.code yX1_pointNow cX1_pointNow 2 (some .long), Cond.methodLink RL 65 yX0_speedOf, Cond.instanceMethod yX0_speedOf, Cond.selects RX0 yX0_speedOf yX0_speedOf, Cond.code yX0_speedOf cX0_speedOf 2 (some .long), Cond.methodLink RL 68 yX1_speedOf, Cond.instanceMethod yX1_speedOf, Cond.selects RX1 yX1_speedOf yX1_speedOf, Cond.code yX1_speedOf cX1_speedOf 2 (some .long), Cond.methodLink RX1 126 yX1_speedNow, Cond.instanceMethod yX1_speedNow, Cond.selects RX1 yX1_speedNow yX1_speedNow, Cond.code yX1_speedNow cX1_speedNow 2 (some .long), Cond.methodLink RL 69 yX0_speedTowards, Cond.instanceMethod yX0_speedTowards, Cond.selects RX0 yX0_speedTowards yX0_speedTowards]
def wsL_law_r14 : List Cond := [Cond.code yX0_speedTowards cX0_speedTowards 4 (some .long), Cond.methodLink RL 72 yX1_speedTowards, Cond.instanceMethod yX1_speedTowards, Cond.selects RX1 yX1_speedTowards yX1_speedTowards, Cond.code yX1_speedTowards cX1_speedTowards 5 (some .long), Cond.methodLink RL 73 yX0_setFix, Cond.instanceMethod yX0_setFix, Cond.selects RX0 yX0_setFix yX0_setFix, Cond.code yX0_setFix cX0_setFix 4 (some .long), Cond.constantLong RX0 124 (-9000000000000000003), Cond.methodLink RX0 121 yX0_fixCanStand, Cond.instanceMethod yX0_fixCanStand, Cond.selects RX0 yX0_fixCanStand yX0_fixCanStand, Cond.code yX0_fixCanStand cX0_fixCanStand 2 (some .boolean), Cond.methodLink RX0 126 yX0_isCoordinate, Cond.static yX0_isCoordinate, Cond.code yX0_isCoordinate cX0_isCoordinate 1 (some .boolean), Cond.constant RX0 132 (-200000000), Cond.constant RX0 133 (200000000), Cond.methodLink RX0 129 yX0_fixCount, Cond.instanceMethod yX0_fixCount, Cond.selects RX0 yX0_fixCount yX0_fixCount, Cond.code yX0_fixCount cX0_fixCount 3 (some .int), Cond.methodLink RL 76 yX1_setFix]
def wsL_law_r15 : List Cond := [Cond.instanceMethod yX1_setFix, Cond.selects RX1 yX1_setFix yX1_setFix, Cond.code yX1_setFix cX1_setFix 4 (some .long), Cond.constantLong RX1 129 (-9000000000000000003), Cond.constant RX1 131 (-200000000), Cond.constant RX1 132 (200000000), Cond.methodLink RX1 133 yX1_fixMany, Cond.instanceMethod yX1_fixMany, Cond.selects RX1 yX1_fixMany yX1_fixMany, Cond.code yX1_fixMany cX1_fixMany 3 (some .int), Cond.methodLink RL 77 yX0_removeFix, Cond.instanceMethod yX0_removeFix, Cond.selects RX0 yX0_removeFix yX0_removeFix, Cond.code yX0_removeFix cX0_removeFix 2 (some .long), Cond.methodLink RL 80 yX1_removeFix, Cond.instanceMethod yX1_removeFix, Cond.selects RX1 yX1_removeFix yX1_removeFix, Cond.code yX1_removeFix cX1_removeFix 2 (some .long), Cond.methodLink RL 81 yX0_reckonedNorth, Cond.instanceMethod yX0_reckonedNorth, Cond.selects RX0 yX0_reckonedNorth yX0_reckonedNorth, Cond.code yX0_reckonedNorth cX0_reckonedNorth 2 (some .long), Cond.methodLink RX0 134 yX0_momentExists, Cond.instanceMethod yX0_momentExists]
def wsL_law_r16 : List Cond := [Cond.selects RX0 yX0_momentExists yX0_momentExists, Cond.code yX0_momentExists cX0_momentExists 2 (some .boolean), Cond.methodLink RX0 137 yX0_reckoned, Cond.instanceMethod yX0_reckoned, Cond.selects RX0 yX0_reckoned yX0_reckoned, Cond.code yX0_reckoned cX0_reckoned 4 (some .long), Cond.methodLink RX0 160 yX0_lastFix, Cond.instanceMethod yX0_lastFix, Cond.selects RX0 yX0_lastFix yX0_lastFix, Cond.code yX0_lastFix cX0_lastFix 3 (some .int), Cond.methodLink RX0 173 yX0_fix, Cond.instanceMethod yX0_fix, Cond.selects RX0 yX0_fix yX0_fix, Cond.code yX0_fix cX0_fix 3 (some .int), Cond.methodLink RX0 176 yX0_legs, Cond.instanceMethod yX0_legs, Cond.selects RX0 yX0_legs yX0_legs, Cond.code yX0_legs cX0_legs 7 (some .long), Cond.methodLink RX0 184 yX0_movement, Cond.static yX0_movement, Cond.code yX0_movement cX0_movement 3 (some .long), Cond.fieldLink RX0 187 "TraverseBoard" "SIN" "[I", Cond.methodLink RX0 190 yJ9_floorMod_7cf53, Cond.static yJ9_floorMod_7cf53]
def wsL_law_r17 : List Cond := [Cond.initialized RJ9, Cond.code yJ9_floorMod_7cf53 cJ9_floorMod_7cf53 3 (some .int), Cond.methodLink RL 84 yX1_reckonedNorth, Cond.instanceMethod yX1_reckonedNorth, Cond.selects RX1 yX1_reckonedNorth yX1_reckonedNorth, Cond.code yX1_reckonedNorth cX1_reckonedNorth 2 (some .long), Cond.methodLink RX1 160 yX1_isMoment, Cond.instanceMethod yX1_isMoment, Cond.selects RX1 yX1_isMoment yX1_isMoment, Cond.code yX1_isMoment cX1_isMoment 2 (some .boolean), Cond.methodLink RX1 163 yX1_reckoned, Cond.instanceMethod yX1_reckoned, Cond.selects RX1 yX1_reckoned yX1_reckoned, Cond.code yX1_reckoned cX1_reckoned 3 (some .long), Cond.methodLink RX1 146 yX1_fixAt, Cond.instanceMethod yX1_fixAt, Cond.selects RX1 yX1_fixAt yX1_fixAt, Cond.code yX1_fixAt cX1_fixAt 3 (some .int), Cond.methodLink RX1 149 yX1_gone, Cond.instanceMethod yX1_gone, Cond.selects RX1 yX1_gone yX1_gone, Cond.code yX1_gone cX1_gone 7 (some .long), Cond.methodLink RX1 139 yX1_fixed, Cond.instanceMethod yX1_fixed]
def wsL_law_r18 : List Cond := [Cond.selects RX1 yX1_fixed yX1_fixed, Cond.code yX1_fixed cX1_fixed 3 (some .long), Cond.methodLink RX1 143 yX1_leg, Cond.instanceMethod yX1_leg, Cond.selects RX1 yX1_leg yX1_leg, Cond.code yX1_leg cX1_leg 6 (some .long), Cond.methodLink RX1 136 yX1_cosine, Cond.static yX1_cosine, Cond.code yX1_cosine cX1_cosine 1 (some .int), Cond.methodLink RX1 44 yX1_sine, Cond.static yX1_sine, Cond.code yX1_sine cX1_sine 3 (some .int), Cond.methodLink RX1 40 yX1_quarter, Cond.static yX1_quarter, Cond.code yX1_quarter cX1_quarter 1 (some .int), Cond.methodLink RL 85 yX0_reckonedEast, Cond.instanceMethod yX0_reckonedEast, Cond.selects RX0 yX0_reckonedEast yX0_reckonedEast, Cond.code yX0_reckonedEast cX0_reckonedEast 2 (some .long), Cond.methodLink RL 88 yX1_reckonedEast, Cond.instanceMethod yX1_reckonedEast, Cond.selects RX1 yX1_reckonedEast yX1_reckonedEast, Cond.code yX1_reckonedEast cX1_reckonedEast 2 (some .long), Cond.methodLink RL 89 yX0_correctedNorth]
def wsL_law_r19 : List Cond := [Cond.instanceMethod yX0_correctedNorth, Cond.selects RX0 yX0_correctedNorth yX0_correctedNorth, Cond.code yX0_correctedNorth cX0_correctedNorth 2 (some .long), Cond.methodLink RX0 141 yX0_corrected, Cond.instanceMethod yX0_corrected, Cond.selects RX0 yX0_corrected yX0_corrected, Cond.code yX0_corrected cX0_corrected 5 (some .long), Cond.methodLink RX0 163 yX0_firstFixAfter, Cond.instanceMethod yX0_firstFixAfter, Cond.selects RX0 yX0_firstFixAfter yX0_firstFixAfter, Cond.code yX0_firstFixAfter cX0_firstFixAfter 3 (some .int), Cond.methodLink RX0 166 yX0_error, Cond.instanceMethod yX0_error, Cond.selects RX0 yX0_error yX0_error, Cond.code yX0_error cX0_error 4 (some .long), Cond.methodLink RX0 179 yJ9_floorDiv_f86c9, Cond.static yJ9_floorDiv_f86c9, Cond.code yJ9_floorDiv_f86c9 cJ9_floorDiv_f86c9 6 (some .long), Cond.methodLink RL 92 yX1_correctedNorth, Cond.instanceMethod yX1_correctedNorth, Cond.selects RX1 yX1_correctedNorth yX1_correctedNorth, Cond.code yX1_correctedNorth cX1_correctedNorth 2 (some .long), Cond.methodLink RX1 166 yX1_corrected, Cond.instanceMethod yX1_corrected]
def wsL_law_r20 : List Cond := [Cond.selects RX1 yX1_corrected yX1_corrected, Cond.code yX1_corrected cX1_corrected 9 (some .long), Cond.methodLink RX1 153 yX1_fixBehind, Cond.instanceMethod yX1_fixBehind, Cond.selects RX1 yX1_fixBehind yX1_fixBehind, Cond.code yX1_fixBehind cX1_fixBehind 4 (some .int), Cond.methodLink RX1 156 yX1_floor, Cond.static yX1_floor, Cond.code yX1_floor cX1_floor 6 (some .long), Cond.methodLink RL 93 yX0_correctedEast, Cond.instanceMethod yX0_correctedEast, Cond.selects RX0 yX0_correctedEast yX0_correctedEast, Cond.code yX0_correctedEast cX0_correctedEast 2 (some .long), Cond.methodLink RL 96 yX1_correctedEast, Cond.instanceMethod yX1_correctedEast, Cond.selects RX1 yX1_correctedEast yX1_correctedEast, Cond.code yX1_correctedEast cX1_correctedEast 2 (some .long), Cond.methodLink RL 97 yX0_distance, Cond.instanceMethod yX0_distance, Cond.selects RX0 yX0_distance yX0_distance, Cond.code yX0_distance cX0_distance 3 (some .long), Cond.methodLink RX0 144 yX0_difference, Cond.instanceMethod yX0_difference, Cond.selects RX0 yX0_difference yX0_difference]
def wsL_law_r21 : List Cond := [Cond.code yX0_difference cX0_difference 4 (some .long), Cond.methodLink RX0 148 yX0_squares, Cond.static yX0_squares, Cond.code yX0_squares cX0_squares 4 (some .long), Cond.methodLink RX0 152 yX0_root, Cond.static yX0_root, Cond.code yX0_root cX0_root 7 (some .long), Cond.methodLink RL 100 yX1_distance, Cond.instanceMethod yX1_distance, Cond.selects RX1 yX1_distance yX1_distance, Cond.code yX1_distance cX1_distance 3 (some .long), Cond.methodLink RX1 173 yX1_distanceNow, Cond.instanceMethod yX1_distanceNow, Cond.selects RX1 yX1_distanceNow yX1_distanceNow, Cond.code yX1_distanceNow cX1_distanceNow 15 (some .long), Cond.constantLong RX1 169 (2000000000), Cond.constantLong RX1 171 (2), Cond.methodLink RL 101 yX0_bearing, Cond.instanceMethod yX0_bearing, Cond.selects RX0 yX0_bearing yX0_bearing, Cond.code yX0_bearing cX0_bearing 7 (some .long), Cond.methodLink RX0 156 yX0_nearestPoint, Cond.static yX0_nearestPoint, Cond.code yX0_nearestPoint cX0_nearestPoint 6 (some .int)]
def wsL_law_r22 : List Cond := [Cond.methodLink RX0 193 yX0_advance, Cond.static yX0_advance, Cond.code yX0_advance cX0_advance 5 (some .long), Cond.methodLink RL 104 yX1_bearing, Cond.instanceMethod yX1_bearing, Cond.selects RX1 yX1_bearing yX1_bearing, Cond.code yX1_bearing cX1_bearing 3 (some .long), Cond.methodLink RX1 176 yX1_bearingNow, Cond.instanceMethod yX1_bearingNow, Cond.selects RX1 yX1_bearingNow yX1_bearingNow, Cond.code yX1_bearingNow cX1_bearingNow 9 (some .long), Cond.methodLink RL 105 yX0_findLost, Cond.instanceMethod yX0_findLost, Cond.selects RX0 yX0_findLost yX0_findLost, Cond.code yX0_findLost cX0_findLost 4 (some .long), Cond.methodLink RX0 169 yX0_likeliest, Cond.static yX0_likeliest, Cond.code yX0_likeliest cX0_likeliest 13 (some .long), Cond.constantLong RX0 200 (1000), Cond.methodLink RX0 196 yX0_miss, Cond.static yX0_miss, Cond.code yX0_miss cX0_miss 6 (some .long), Cond.methodLink RL 108 yX1_findLost, Cond.instanceMethod yX1_findLost]
def wsL_law_r23 : List Cond := [Cond.selects RX1 yX1_findLost yX1_findLost, Cond.code yX1_findLost cX1_findLost 2 (some .long), Cond.methodLink RX1 189 yX1_lostNow, Cond.instanceMethod yX1_lostNow, Cond.selects RX1 yX1_lostNow yX1_lostNow, Cond.code yX1_lostNow cX1_lostNow 4 (some .long), Cond.methodLink RX1 183 yX1_isOtherLost, Cond.instanceMethod yX1_isOtherLost, Cond.selects RX1 yX1_isOtherLost yX1_isOtherLost, Cond.code yX1_isOtherLost cX1_isOtherLost 6 (some .boolean), Cond.methodLink RX1 186 yX1_search, Cond.instanceMethod yX1_search, Cond.selects RX1 yX1_search yX1_search, Cond.code yX1_search cX1_search 21 (some .long), Cond.constantLong RX1 179 (-1), Cond.constantLong RX1 181 (1000), Cond.methodLink RL 109 yX0_digest, Cond.instanceMethod yX0_digest, Cond.selects RX0 yX0_digest yX0_digest, Cond.code yX0_digest cX0_digest 4 (some .long), Cond.constantLong RX0 202 (1811), Cond.methodLink RX0 204 yX0_mix, Cond.static yX0_mix, Cond.code yX0_mix cX0_mix 4 (some .long)]
def wsL_law_r24 : List Cond := [Cond.constantLong RX0 235 (31), Cond.methodLink RX0 207 yX0_mixPegs, Cond.instanceMethod yX0_mixPegs, Cond.selects RX0 yX0_mixPegs yX0_mixPegs, Cond.code yX0_mixPegs cX0_mixPegs 6 (some .long), Cond.methodLink RX0 229 yX0_pointOf, Cond.methodLink RX0 232 yX0_speedOf, Cond.methodLink RX0 210 yX0_mixMoments, Cond.instanceMethod yX0_mixMoments, Cond.selects RX0 yX0_mixMoments yX0_mixMoments, Cond.code yX0_mixMoments cX0_mixMoments 6 (some .long), Cond.methodLink RX0 213 yX0_distance, Cond.methodLink RX0 216 yX0_bearing, Cond.methodLink RX0 219 yX0_firstLost, Cond.instanceMethod yX0_firstLost, Cond.selects RX0 yX0_firstLost yX0_firstLost, Cond.code yX0_firstLost cX0_firstLost 2 (some .int), Cond.methodLink RX0 222 yX0_findLost, Cond.methodLink RX0 226 yX0_mixBuffer, Cond.instanceMethod yX0_mixBuffer, Cond.selects RX0 yX0_mixBuffer yX0_mixBuffer, Cond.code yX0_mixBuffer cX0_mixBuffer 6 (some .long), Cond.methodLink RL 112 yX1_digest, Cond.instanceMethod yX1_digest]
def wsL_law_r25 : List Cond := [Cond.selects RX1 yX1_digest yX1_digest, Cond.code yX1_digest cX1_digest 3 (some .long), Cond.constantLong RX1 198 (1811), Cond.fieldLink RX1 194 "TraverseBoardModel" "h" "J", Cond.methodLink RX1 200 yX1_mix, Cond.instanceMethod yX1_mix, Cond.selects RX1 yX1_mix yX1_mix, Cond.code yX1_mix cX1_mix 3 none, Cond.constantLong RX1 192 (31)]
def wsL_law : List Cond := (wsL_law_r1 ++ (wsL_law_r2 ++ (wsL_law_r3 ++ (wsL_law_r4 ++ (wsL_law_r5 ++ (wsL_law_r6 ++ (wsL_law_r7 ++ (wsL_law_r8 ++ (wsL_law_r9 ++ (wsL_law_r10 ++ (wsL_law_r11 ++ (wsL_law_r12 ++ (wsL_law_r13 ++ (wsL_law_r14 ++ (wsL_law_r15 ++ (wsL_law_r16 ++ (wsL_law_r17 ++ (wsL_law_r18 ++ (wsL_law_r19 ++ (wsL_law_r20 ++ (wsL_law_r21 ++ (wsL_law_r22 ++ (wsL_law_r23 ++ (wsL_law_r24 ++ wsL_law_r25)))))))))))))))))))))))) ++ wsX00 ++ wsX10 ++ ([] : List Cond)
end
section
def wsL_q1_0 : List Cond := [Cond.classLink RL 7 RX0, Cond.instantiable RX0 12, Cond.initialized RX0, Cond.classLink RL 10 RX1, Cond.instantiable RX1 17, Cond.initialized RX1, Cond.methodLink RL 9 yX0_init, Cond.instanceMethod yX0_init]
set_option maxRecDepth 20000 in
theorem wsL_qi1_0 : ∀ w ∈ wsL_q1_0, w ∈ lw_tbl := fun w h => (goodIn_p wsL_q1_0 [] (by decide +kernel) (by decide +kernel) w h).1
def wsL_q1_1 : List Cond := [Cond.code yX0_init cX0_init 1 none, Cond.methodLink RX0 1 objectInit, Cond.instanceMethod objectInit, Cond.code objectInit ⟨#[0xb1]⟩ 1 none, Cond.arrayClass .int, Cond.fieldLink RX0 9 "TraverseBoard" "buffer" "[I", Cond.fieldLink RX0 13 "TraverseBoard" "points" "[I", Cond.fieldLink RX0 16 "TraverseBoard" "speeds" "[I"]
set_option maxRecDepth 20000 in
theorem wsL_qi1_1 : ∀ w ∈ wsL_q1_1, w ∈ lw_tbl := fun w h => (goodIn_p wsL_q1_1 [62, 65] (by decide +kernel) (by decide +kernel) w h).1
def wsL_q1_2 : List Cond := [Cond.fieldLink RX0 19 "TraverseBoard" "leeways" "[I", Cond.arrayClass .boolean, Cond.fieldLink RX0 22 "TraverseBoard" "lost" "[Z", Cond.fieldLink RX0 26 "TraverseBoard" "fixed" "[Z", Cond.fieldLink RX0 29 "TraverseBoard" "fixNorths" "[I", Cond.fieldLink RX0 32 "TraverseBoard" "fixEasts" "[I", Cond.methodLink RL 12 yX1_init, Cond.instanceMethod yX1_init]
set_option maxRecDepth 20000 in
theorem wsL_qi1_2 : ∀ w ∈ wsL_q1_2, w ∈ lw_tbl := fun w h => (goodIn_p wsL_q1_2 [] (by decide +kernel) (by decide +kernel) w h).1
theorem wsL_ri1 : ∀ w ∈ wsL_law_r1, w ∈ lw_tbl := show ∀ w ∈ (wsL_q1_0 ++ (wsL_q1_1 ++ wsL_q1_2)), w ∈ lw_tbl from List.forall_mem_append.mpr ⟨wsL_qi1_0, List.forall_mem_append.mpr ⟨wsL_qi1_1, wsL_qi1_2⟩⟩
def wsL_q2_0 : List Cond := [Cond.code yX1_init cX1_init 1 none, Cond.methodLink RX1 1 objectInit, Cond.fieldLink RX1 7 "TraverseBoardModel" "buffer" "[I", Cond.fieldLink RX1 13 "TraverseBoardModel" "point" "[I", Cond.fieldLink RX1 16 "TraverseBoardModel" "speed" "[I", Cond.fieldLink RX1 19 "TraverseBoardModel" "leeway" "[I", Cond.fieldLink RX1 22 "TraverseBoardModel" "isLost" "[Z", Cond.fieldLink RX1 26 "TraverseBoardModel" "hasFix" "[Z"]
set_option maxRecDepth 20000 in
theorem wsL_qi2_0 : ∀ w ∈ wsL_q2_0, w ∈ lw_tbl := fun w h => (goodIn_p wsL_q2_0 [413] (by decide +kernel) (by decide +kernel) w h).1
def wsL_q2_1 : List Cond := [Cond.arrayClass .long, Cond.fieldLink RX1 29 "TraverseBoardModel" "fixNorth" "[J", Cond.fieldLink RX1 33 "TraverseBoardModel" "fixEast" "[J", Cond.methodLink RL 13 yX0_append, Cond.instanceMethod yX0_append, Cond.selects RX0 yX0_append yX0_append, Cond.code yX0_append cX0_append 2 (some .long), Cond.constantLong RX0 39 (-9000000000000000001)]
set_option maxRecDepth 20000 in
theorem wsL_qi2_1 : ∀ w ∈ wsL_q2_1, w ∈ lw_tbl := fun w h => (goodIn_p wsL_q2_1 [108] (by decide +kernel) (by decide +kernel) w h).1
def wsL_q2_2 : List Cond := [Cond.fieldLink RX0 41 "TraverseBoard" "bufferLength" "I", Cond.constantLong RX0 45 (-9000000000000000004), Cond.methodLink RX0 35 yX0_inRange, Cond.static yX0_inRange, Cond.code yX0_inRange cX0_inRange 3 (some .boolean), Cond.methodLink RL 17 yX1_append, Cond.instanceMethod yX1_append, Cond.selects RX1 yX1_append yX1_append]
set_option maxRecDepth 20000 in
theorem wsL_qi2_2 : ∀ w ∈ wsL_q2_2, w ∈ lw_tbl := fun w h => (goodIn_p wsL_q2_2 [111] (by decide +kernel) (by decide +kernel) w h).1
theorem wsL_ri2 : ∀ w ∈ wsL_law_r2, w ∈ lw_tbl := show ∀ w ∈ (wsL_q2_0 ++ (wsL_q2_1 ++ wsL_q2_2)), w ∈ lw_tbl from List.forall_mem_append.mpr ⟨wsL_qi2_0, List.forall_mem_append.mpr ⟨wsL_qi2_1, wsL_qi2_2⟩⟩
def wsL_q3_0 : List Cond := [Cond.code yX1_append cX1_append 2 (some .long), Cond.constantLong RX1 51 (-9000000000000000001), Cond.fieldLink RX1 53 "TraverseBoardModel" "bufferLength" "I", Cond.constantLong RX1 57 (-9000000000000000004), Cond.methodLink RX1 47 yX1_within, Cond.static yX1_within, Cond.code yX1_within cX1_within 3 (some .boolean), Cond.methodLink RL 18 yX0_clearBuffer]
set_option maxRecDepth 20000 in
theorem wsL_qi3_0 : ∀ w ∈ wsL_q3_0, w ∈ lw_tbl := fun w h => (goodIn_p wsL_q3_0 [471, 474] (by decide +kernel) (by decide +kernel) w h).1
def wsL_q3_1 : List Cond := [Cond.instanceMethod yX0_clearBuffer, Cond.selects RX0 yX0_clearBuffer yX0_clearBuffer, Cond.code yX0_clearBuffer cX0_clearBuffer 2 (some .long), Cond.methodLink RL 22 yX1_clearBuffer, Cond.instanceMethod yX1_clearBuffer, Cond.selects RX1 yX1_clearBuffer yX1_clearBuffer, Cond.code yX1_clearBuffer cX1_clearBuffer 2 (some .long), Cond.methodLink RL 23 yX0_errorPosition]
set_option maxRecDepth 20000 in
theorem wsL_qi3_1 : ∀ w ∈ wsL_q3_1, w ∈ lw_tbl := fun w h => (goodIn_p wsL_q3_1 [117, 480] (by decide +kernel) (by decide +kernel) w h).1
def wsL_q3_2 : List Cond := [Cond.instanceMethod yX0_errorPosition, Cond.selects RX0 yX0_errorPosition yX0_errorPosition, Cond.code yX0_errorPosition cX0_errorPosition 2 (some .long), Cond.methodLink RX0 47 yX0_pointInBuffer, Cond.instanceMethod yX0_pointInBuffer, Cond.selects RX0 yX0_pointInBuffer yX0_pointInBuffer, Cond.code yX0_pointInBuffer cX0_pointInBuffer 3 (some .int), Cond.methodLink RX0 51 yX0_agreement]
set_option maxRecDepth 20000 in
theorem wsL_qi3_2 : ∀ w ∈ wsL_q3_2, w ∈ lw_tbl := fun w h => (goodIn_p wsL_q3_2 [121, 125] (by decide +kernel) (by decide +kernel) w h).1
theorem wsL_ri3 : ∀ w ∈ wsL_law_r3, w ∈ lw_tbl := show ∀ w ∈ (wsL_q3_0 ++ (wsL_q3_1 ++ wsL_q3_2)), w ∈ lw_tbl from List.forall_mem_append.mpr ⟨wsL_qi3_0, List.forall_mem_append.mpr ⟨wsL_qi3_1, wsL_qi3_2⟩⟩
def wsL_q4_0 : List Cond := [Cond.instanceMethod yX0_agreement, Cond.selects RX0 yX0_agreement yX0_agreement, Cond.code yX0_agreement cX0_agreement 3 (some .int), Cond.methodLink RX0 55 yX0_blankEnds, Cond.instanceMethod yX0_blankEnds, Cond.selects RX0 yX0_blankEnds yX0_blankEnds, Cond.code yX0_blankEnds cX0_blankEnds 2 (some .boolean), Cond.methodLink RX0 83 yJ0_charAt_5068e]
set_option maxRecDepth 20000 in
theorem wsL_qi4_0 : ∀ w ∈ wsL_q4_0, w ∈ lw_tbl := fun w h => (goodIn_p wsL_q4_0 [129, 133] (by decide +kernel) (by decide +kernel) w h).1
def wsL_q4_1 : List Cond := [Cond.instanceMethod yJ0_charAt_5068e, Cond.selects RJ0 yJ0_charAt_5068e yJ0_charAt_5068e, Cond.initialized RJ0, Cond.code yJ0_charAt_5068e cJ0_charAt_5068e 2 (some .char), Cond.fieldLink RJ0 9 "java/lang/String" "value" "[B", Cond.methodLink RJ0 492 yJ0_isLatin1_aae02, Cond.instanceMethod yJ0_isLatin1_aae02, Cond.selects RJ0 yJ0_isLatin1_aae02 yJ0_isLatin1_aae02]
set_option maxRecDepth 20000 in
theorem wsL_qi4_1 : ∀ w ∈ wsL_q4_1, w ∈ lw_tbl := fun w h => (goodIn_p wsL_q4_1 [138] (by decide +kernel) (by decide +kernel) w h).1
def wsL_q4_2 : List Cond := [Cond.code yJ0_isLatin1_aae02 cJ0_isLatin1_aae02 1 (some .boolean), Cond.fieldLink RJ0 38 "java/lang/String" "COMPACT_STRINGS" "Z", Cond.fieldLink RJ0 15 "java/lang/String" "coder" "B", Cond.methodLink RJ0 495 yJ1_charAt_3b067, Cond.static yJ1_charAt_3b067, Cond.initialized RJ1, Cond.code yJ1_charAt_3b067 cJ1_charAt_3b067 2 (some .char), Cond.methodLink RJ1 9 yJ0_checkIndex_df160]
set_option maxRecDepth 20000 in
theorem wsL_qi4_2 : ∀ w ∈ wsL_q4_2, w ∈ lw_tbl := fun w h => (goodIn_p wsL_q4_2 [142, 147] (by decide +kernel) (by decide +kernel) w h).1
theorem wsL_ri4 : ∀ w ∈ wsL_law_r4, w ∈ lw_tbl := show ∀ w ∈ (wsL_q4_0 ++ (wsL_q4_1 ++ wsL_q4_2)), w ∈ lw_tbl from List.forall_mem_append.mpr ⟨wsL_qi4_0, List.forall_mem_append.mpr ⟨wsL_qi4_1, wsL_qi4_2⟩⟩
def wsL_q5_0 : List Cond := [Cond.static yJ0_checkIndex_df160, Cond.code yJ0_checkIndex_df160 cJ0_checkIndex_df160 2 none, Cond.fieldLink RJ0 1053 "jdk/internal/util/Preconditions" "SIOOBE_FORMATTER" "Ljava/util/function/BiFunction;", Cond.methodLink RJ0 1059 yJ3_checkIndex_8e157, Cond.static yJ3_checkIndex_8e157, Cond.initialized RJ3, Cond.code yJ3_checkIndex_8e157 cJ3_checkIndex_8e157 3 (some .int), Cond.methodLink RJ0 498 yJ2_charAt_3b067]
set_option maxRecDepth 20000 in
theorem wsL_qi5_0 : ∀ w ∈ wsL_q5_0, w ∈ lw_tbl := fun w h => (goodIn_p wsL_q5_0 [150, 155] (by decide +kernel) (by decide +kernel) w h).1
def wsL_q5_1 : List Cond := [Cond.static yJ2_charAt_3b067, Cond.initialized RJ2, Cond.code yJ2_charAt_3b067 cJ2_charAt_3b067 2 (some .char), Cond.methodLink RJ2 67 yJ2_checkIndex_2214a, Cond.static yJ2_checkIndex_2214a, Cond.code yJ2_checkIndex_2214a cJ2_checkIndex_2214a 2 none, Cond.methodLink RJ2 48 yJ2_length_9d52b, Cond.static yJ2_length_9d52b]
set_option maxRecDepth 20000 in
theorem wsL_qi5_1 : ∀ w ∈ wsL_q5_1, w ∈ lw_tbl := fun w h => (goodIn_p wsL_q5_1 [158, 161] (by decide +kernel) (by decide +kernel) w h).1
def wsL_q5_2 : List Cond := [Cond.code yJ2_length_9d52b cJ2_length_9d52b 1 (some .int), Cond.methodLink RJ2 414 yJ0_checkIndex_df160, Cond.methodLink RJ2 71 yJ2_getChar_3b067, Cond.static yJ2_getChar_3b067, Cond.code yJ2_getChar_3b067 cJ2_getChar_3b067 2 (some .char), Cond.fieldLink RJ2 44 "java/lang/StringUTF16" "$assertionsDisabled" "Z", Cond.fieldLink RJ2 59 "java/lang/StringUTF16" "HI_BYTE_SHIFT" "I", Cond.fieldLink RJ2 63 "java/lang/StringUTF16" "LO_BYTE_SHIFT" "I"]
set_option maxRecDepth 20000 in
theorem wsL_qi5_2 : ∀ w ∈ wsL_q5_2, w ∈ lw_tbl := fun w h => (goodIn_p wsL_q5_2 [164, 168] (by decide +kernel) (by decide +kernel) w h).1
theorem wsL_ri5 : ∀ w ∈ wsL_law_r5, w ∈ lw_tbl := show ∀ w ∈ (wsL_q5_0 ++ (wsL_q5_1 ++ wsL_q5_2)), w ∈ lw_tbl from List.forall_mem_append.mpr ⟨wsL_qi5_0, List.forall_mem_append.mpr ⟨wsL_qi5_1, wsL_qi5_2⟩⟩
def wsL_q6_0 : List Cond := [Cond.methodLink RX0 59 yX0_speedEnd, Cond.instanceMethod yX0_speedEnd, Cond.selects RX0 yX0_speedEnd yX0_speedEnd, Cond.code yX0_speedEnd cX0_speedEnd 3 (some .int), Cond.methodLink RX0 89 yX0_digitAllowed, Cond.instanceMethod yX0_digitAllowed, Cond.selects RX0 yX0_digitAllowed yX0_digitAllowed, Cond.code yX0_digitAllowed cX0_digitAllowed 3 (some .boolean)]
set_option maxRecDepth 20000 in
theorem wsL_qi6_0 : ∀ w ∈ wsL_q6_0, w ∈ lw_tbl := fun w h => (goodIn_p wsL_q6_0 [178, 182] (by decide +kernel) (by decide +kernel) w h).1
def wsL_q6_1 : List Cond := [Cond.methodLink RX0 66 yX0_digitEnds, Cond.instanceMethod yX0_digitEnds, Cond.selects RX0 yX0_digitEnds yX0_digitEnds, Cond.code yX0_digitEnds cX0_digitEnds 2 (some .boolean), Cond.methodLink RX0 74 yX0_number, Cond.instanceMethod yX0_number, Cond.selects RX0 yX0_number yX0_number, Cond.code yX0_number cX0_number 5 (some .int)]
set_option maxRecDepth 20000 in
theorem wsL_qi6_1 : ∀ w ∈ wsL_q6_1, w ∈ lw_tbl := fun w h => (goodIn_p wsL_q6_1 [186, 190] (by decide +kernel) (by decide +kernel) w h).1
def wsL_q6_2 : List Cond := [Cond.methodLink RL 26 yX1_errorPosition, Cond.instanceMethod yX1_errorPosition, Cond.selects RX1 yX1_errorPosition yX1_errorPosition, Cond.code yX1_errorPosition cX1_errorPosition 1 (some .long), Cond.fieldLink RX1 72 "TraverseBoardModel" "errorAt" "I", Cond.methodLink RX1 88 yX1_parse, Cond.instanceMethod yX1_parse, Cond.selects RX1 yX1_parse yX1_parse]
set_option maxRecDepth 20000 in
theorem wsL_qi6_2 : ∀ w ∈ wsL_q6_2, w ∈ lw_tbl := fun w h => (goodIn_p wsL_q6_2 [484] (by decide +kernel) (by decide +kernel) w h).1
theorem wsL_ri6 : ∀ w ∈ wsL_law_r6, w ∈ lw_tbl := show ∀ w ∈ (wsL_q6_0 ++ (wsL_q6_1 ++ wsL_q6_2)), w ∈ lw_tbl from List.forall_mem_append.mpr ⟨wsL_qi6_0, List.forall_mem_append.mpr ⟨wsL_qi6_1, wsL_qi6_2⟩⟩
def wsL_q7_0 : List Cond := [Cond.code yX1_parse cX1_parse 5 none, Cond.fieldLink RX1 75 "TraverseBoardModel" "isPeg" "Z", Cond.fieldLink RX1 82 "TraverseBoardModel" "readPoint" "I", Cond.fieldLink RX1 85 "TraverseBoardModel" "readSpeed" "I", Cond.methodLink RX1 68 yX1_isBeginning, Cond.instanceMethod yX1_isBeginning, Cond.selects RX1 yX1_isBeginning yX1_isBeginning, Cond.code yX1_isBeginning cX1_isBeginning 4 (some .boolean)]
set_option maxRecDepth 20000 in
theorem wsL_qi7_0 : ∀ w ∈ wsL_q7_0, w ∈ lw_tbl := fun w h => (goodIn_p wsL_q7_0 [488, 492] (by decide +kernel) (by decide +kernel) w h).1
def wsL_q7_1 : List Cond := [Cond.methodLink RX1 59 yX1_name, Cond.static yX1_name, Cond.code yX1_name cX1_name 1 (some .int), Cond.methodLink RX1 36 yX1_four, Cond.static yX1_four, Cond.code yX1_four cX1_four 4 (some .int), Cond.methodLink RX1 65 yX1_unit, Cond.static yX1_unit]
set_option maxRecDepth 20000 in
theorem wsL_qi7_1 : ∀ w ∈ wsL_q7_1, w ∈ lw_tbl := fun w h => (goodIn_p wsL_q7_1 [495, 498] (by decide +kernel) (by decide +kernel) w h).1
def wsL_q7_2 : List Cond := [Cond.code yX1_unit cX1_unit 3 (some .int), Cond.methodLink RX1 62 yX1_nameOf, Cond.instanceMethod yX1_nameOf, Cond.selects RX1 yX1_nameOf yX1_nameOf, Cond.code yX1_nameOf cX1_nameOf 2 (some .int), Cond.methodLink RX1 79 yX1_pointBy, Cond.instanceMethod yX1_pointBy, Cond.selects RX1 yX1_pointBy yX1_pointBy]
set_option maxRecDepth 20000 in
theorem wsL_qi7_2 : ∀ w ∈ wsL_q7_2, w ∈ lw_tbl := fun w h => (goodIn_p wsL_q7_2 [501, 505] (by decide +kernel) (by decide +kernel) w h).1
theorem wsL_ri7 : ∀ w ∈ wsL_law_r7, w ∈ lw_tbl := show ∀ w ∈ (wsL_q7_0 ++ (wsL_q7_1 ++ wsL_q7_2)), w ∈ lw_tbl from List.forall_mem_append.mpr ⟨wsL_qi7_0, List.forall_mem_append.mpr ⟨wsL_qi7_1, wsL_qi7_2⟩⟩
def wsL_q8_0 : List Cond := [Cond.code yX1_pointBy cX1_pointBy 4 (some .int), Cond.methodLink RL 27 yX0_addFromBuffer, Cond.instanceMethod yX0_addFromBuffer, Cond.selects RX0 yX0_addFromBuffer yX0_addFromBuffer, Cond.code yX0_addFromBuffer cX0_addFromBuffer 3 (some .long), Cond.constantLong RX0 69 (-9000000000000000005), Cond.fieldLink RX0 71 "TraverseBoard" "pegs" "I", Cond.methodLink RX0 62 yX0_errorPosition]
set_option maxRecDepth 20000 in
theorem wsL_qi8_0 : ∀ w ∈ wsL_q8_0, w ∈ lw_tbl := fun w h => (goodIn_p wsL_q8_0 [509, 195] (by decide +kernel) (by decide +kernel) w h).1
def wsL_q8_1 : List Cond := [Cond.methodLink RX0 78 yX0_putBehindLast, Cond.instanceMethod yX0_putBehindLast, Cond.selects RX0 yX0_putBehindLast yX0_putBehindLast, Cond.code yX0_putBehindLast cX0_putBehindLast 4 (some .int), Cond.methodLink RX0 104 yX0_put, Cond.instanceMethod yX0_put, Cond.selects RX0 yX0_put yX0_put, Cond.code yX0_put cX0_put 4 none]
set_option maxRecDepth 20000 in
theorem wsL_qi8_1 : ∀ w ∈ wsL_q8_1, w ∈ lw_tbl := fun w h => (goodIn_p wsL_q8_1 [201, 205] (by decide +kernel) (by decide +kernel) w h).1
def wsL_q8_2 : List Cond := [Cond.methodLink RL 30 yX1_addFromBuffer, Cond.instanceMethod yX1_addFromBuffer, Cond.selects RX1 yX1_addFromBuffer yX1_addFromBuffer, Cond.code yX1_addFromBuffer cX1_addFromBuffer 1 (some .long), Cond.constantLong RX1 94 (-9000000000000000005), Cond.fieldLink RX1 91 "TraverseBoardModel" "pegs" "I", Cond.methodLink RX1 96 yX1_addPeg, Cond.instanceMethod yX1_addPeg]
set_option maxRecDepth 20000 in
theorem wsL_qi8_2 : ∀ w ∈ wsL_q8_2, w ∈ lw_tbl := fun w h => (goodIn_p wsL_q8_2 [513] (by decide +kernel) (by decide +kernel) w h).1
theorem wsL_ri8 : ∀ w ∈ wsL_law_r8, w ∈ lw_tbl := show ∀ w ∈ (wsL_q8_0 ++ (wsL_q8_1 ++ wsL_q8_2)), w ∈ lw_tbl from List.forall_mem_append.mpr ⟨wsL_qi8_0, List.forall_mem_append.mpr ⟨wsL_qi8_1, wsL_qi8_2⟩⟩
def wsL_q9_0 : List Cond := [Cond.selects RX1 yX1_addPeg yX1_addPeg, Cond.code yX1_addPeg cX1_addPeg 3 (some .int), Cond.methodLink RL 31 yX0_add, Cond.instanceMethod yX0_add, Cond.selects RX0 yX0_add yX0_add, Cond.code yX0_add cX0_add 3 (some .long), Cond.methodLink RX0 93 yX0_isPoint, Cond.static yX0_isPoint]
set_option maxRecDepth 20000 in
theorem wsL_qi9_0 : ∀ w ∈ wsL_q9_0, w ∈ lw_tbl := fun w h => (goodIn_p wsL_q9_0 [518, 209] (by decide +kernel) (by decide +kernel) w h).1
def wsL_q9_1 : List Cond := [Cond.code yX0_isPoint cX0_isPoint 1 (some .boolean), Cond.methodLink RX0 96 yX0_isSpeed, Cond.static yX0_isSpeed, Cond.code yX0_isSpeed cX0_isSpeed 1 (some .boolean), Cond.methodLink RL 35 yX1_add, Cond.instanceMethod yX1_add, Cond.selects RX1 yX1_add yX1_add, Cond.code yX1_add cX1_add 3 (some .long)]
set_option maxRecDepth 20000 in
theorem wsL_qi9_1 : ∀ w ∈ wsL_q9_1, w ∈ lw_tbl := fun w h => (goodIn_p wsL_q9_1 [212, 215, 522] (by decide +kernel) (by decide +kernel) w h).1
def wsL_q9_2 : List Cond := [Cond.methodLink RX1 100 yX1_isPoint, Cond.static yX1_isPoint, Cond.code yX1_isPoint cX1_isPoint 1 (some .boolean), Cond.methodLink RL 36 yX0_replace, Cond.instanceMethod yX0_replace, Cond.selects RX0 yX0_replace yX0_replace, Cond.code yX0_replace cX0_replace 5 (some .long), Cond.constantLong RX0 102 (-9000000000000000002)]
set_option maxRecDepth 20000 in
theorem wsL_qi9_2 : ∀ w ∈ wsL_q9_2, w ∈ lw_tbl := fun w h => (goodIn_p wsL_q9_2 [525, 219] (by decide +kernel) (by decide +kernel) w h).1
theorem wsL_ri9 : ∀ w ∈ wsL_law_r9, w ∈ lw_tbl := show ∀ w ∈ (wsL_q9_0 ++ (wsL_q9_1 ++ wsL_q9_2)), w ∈ lw_tbl from List.forall_mem_append.mpr ⟨wsL_qi9_0, List.forall_mem_append.mpr ⟨wsL_qi9_1, wsL_qi9_2⟩⟩
def wsL_q10_0 : List Cond := [Cond.methodLink RX0 99 yX0_pegExists, Cond.instanceMethod yX0_pegExists, Cond.selects RX0 yX0_pegExists yX0_pegExists, Cond.code yX0_pegExists cX0_pegExists 2 (some .boolean), Cond.methodLink RL 40 yX1_replace, Cond.instanceMethod yX1_replace, Cond.selects RX1 yX1_replace yX1_replace, Cond.code yX1_replace cX1_replace 6 (some .long)]
set_option maxRecDepth 20000 in
theorem wsL_qi10_0 : ∀ w ∈ wsL_q10_0, w ∈ lw_tbl := fun w h => (goodIn_p wsL_q10_0 [223, 529] (by decide +kernel) (by decide +kernel) w h).1
def wsL_q10_1 : List Cond := [Cond.constantLong RX1 106 (-9000000000000000002), Cond.methodLink RX1 103 yX1_isPegNumber, Cond.instanceMethod yX1_isPegNumber, Cond.selects RX1 yX1_isPegNumber yX1_isPegNumber, Cond.code yX1_isPegNumber cX1_isPegNumber 2 (some .boolean), Cond.methodLink RL 41 yX0_removeLast, Cond.instanceMethod yX0_removeLast, Cond.selects RX0 yX0_removeLast yX0_removeLast]
set_option maxRecDepth 20000 in
theorem wsL_qi10_1 : ∀ w ∈ wsL_q10_1, w ∈ lw_tbl := fun w h => (goodIn_p wsL_q10_1 [533] (by decide +kernel) (by decide +kernel) w h).1
def wsL_q10_2 : List Cond := [Cond.code yX0_removeLast cX0_removeLast 1 (some .long), Cond.constantLong RX0 108 (-9000000000000000007), Cond.methodLink RL 44 yX1_removeLast, Cond.instanceMethod yX1_removeLast, Cond.selects RX1 yX1_removeLast yX1_removeLast, Cond.code yX1_removeLast cX1_removeLast 1 (some .long), Cond.constantLong RX1 108 (-9000000000000000007), Cond.methodLink RL 45 yX0_lose]
set_option maxRecDepth 20000 in
theorem wsL_qi10_2 : ∀ w ∈ wsL_q10_2, w ∈ lw_tbl := fun w h => (goodIn_p wsL_q10_2 [228, 538] (by decide +kernel) (by decide +kernel) w h).1
theorem wsL_ri10 : ∀ w ∈ wsL_law_r10, w ∈ lw_tbl := show ∀ w ∈ (wsL_q10_0 ++ (wsL_q10_1 ++ wsL_q10_2)), w ∈ lw_tbl from List.forall_mem_append.mpr ⟨wsL_qi10_0, List.forall_mem_append.mpr ⟨wsL_qi10_1, wsL_qi10_2⟩⟩
def wsL_q11_0 : List Cond := [Cond.instanceMethod yX0_lose, Cond.selects RX0 yX0_lose yX0_lose, Cond.code yX0_lose cX0_lose 2 (some .long), Cond.constantLong RX0 110 (-9000000000000000006), Cond.methodLink RX0 112 yX0_lostCount, Cond.instanceMethod yX0_lostCount, Cond.selects RX0 yX0_lostCount yX0_lostCount, Cond.code yX0_lostCount cX0_lostCount 5 (some .int)]
set_option maxRecDepth 20000 in
theorem wsL_qi11_0 : ∀ w ∈ wsL_q11_0, w ∈ lw_tbl := fun w h => (goodIn_p wsL_q11_0 [233, 238] (by decide +kernel) (by decide +kernel) w h).1
def wsL_q11_1 : List Cond := [Cond.methodLink RL 48 yX1_lose, Cond.instanceMethod yX1_lose, Cond.selects RX1 yX1_lose yX1_lose, Cond.code yX1_lose cX1_lose 2 (some .long), Cond.constantLong RX1 110 (-9000000000000000006), Cond.methodLink RX1 112 yX1_lostMany, Cond.instanceMethod yX1_lostMany, Cond.selects RX1 yX1_lostMany yX1_lostMany]
set_option maxRecDepth 20000 in
theorem wsL_qi11_1 : ∀ w ∈ wsL_q11_1, w ∈ lw_tbl := fun w h => (goodIn_p wsL_q11_1 [543] (by decide +kernel) (by decide +kernel) w h).1
def wsL_q11_2 : List Cond := [Cond.code yX1_lostMany cX1_lostMany 3 (some .int), Cond.methodLink RL 49 yX0_setLeeway, Cond.instanceMethod yX0_setLeeway, Cond.selects RX0 yX0_setLeeway yX0_setLeeway, Cond.code yX0_setLeeway cX0_setLeeway 4 (some .long), Cond.methodLink RL 52 yX1_setLeeway, Cond.instanceMethod yX1_setLeeway, Cond.selects RX1 yX1_setLeeway yX1_setLeeway]
set_option maxRecDepth 20000 in
theorem wsL_qi11_2 : ∀ w ∈ wsL_q11_2, w ∈ lw_tbl := fun w h => (goodIn_p wsL_q11_2 [548, 242] (by decide +kernel) (by decide +kernel) w h).1
theorem wsL_ri11 : ∀ w ∈ wsL_law_r11, w ∈ lw_tbl := show ∀ w ∈ (wsL_q11_0 ++ (wsL_q11_1 ++ wsL_q11_2)), w ∈ lw_tbl from List.forall_mem_append.mpr ⟨wsL_qi11_0, List.forall_mem_append.mpr ⟨wsL_qi11_1, wsL_qi11_2⟩⟩
def wsL_q12_0 : List Cond := [Cond.code yX1_setLeeway cX1_setLeeway 5 (some .long), Cond.methodLink RL 53 yX0_setCurrent, Cond.instanceMethod yX0_setCurrent, Cond.selects RX0 yX0_setCurrent yX0_setCurrent, Cond.code yX0_setCurrent cX0_setCurrent 4 (some .long), Cond.fieldLink RX0 115 "TraverseBoard" "drift" "I", Cond.fieldLink RX0 118 "TraverseBoard" "set" "I", Cond.methodLink RL 56 yX1_setCurrent]
set_option maxRecDepth 20000 in
theorem wsL_qi12_0 : ∀ w ∈ wsL_q12_0, w ∈ lw_tbl := fun w h => (goodIn_p wsL_q12_0 [552, 246] (by decide +kernel) (by decide +kernel) w h).1
def wsL_q12_1 : List Cond := [Cond.instanceMethod yX1_setCurrent, Cond.selects RX1 yX1_setCurrent yX1_setCurrent, Cond.code yX1_setCurrent cX1_setCurrent 5 (some .long), Cond.fieldLink RX1 116 "TraverseBoardModel" "drift" "I", Cond.fieldLink RX1 119 "TraverseBoardModel" "set" "I", Cond.methodLink RL 57 yX0_pegCount, Cond.instanceMethod yX0_pegCount, Cond.selects RX0 yX0_pegCount yX0_pegCount]
set_option maxRecDepth 20000 in
theorem wsL_qi12_1 : ∀ w ∈ wsL_q12_1, w ∈ lw_tbl := fun w h => (goodIn_p wsL_q12_1 [556] (by decide +kernel) (by decide +kernel) w h).1
def wsL_q12_2 : List Cond := [Cond.code yX0_pegCount cX0_pegCount 1 (some .long), Cond.methodLink RL 60 yX1_pegCount, Cond.instanceMethod yX1_pegCount, Cond.selects RX1 yX1_pegCount yX1_pegCount, Cond.code yX1_pegCount cX1_pegCount 1 (some .long), Cond.methodLink RL 61 yX0_pointOf, Cond.instanceMethod yX0_pointOf, Cond.selects RX0 yX0_pointOf yX0_pointOf]
set_option maxRecDepth 20000 in
theorem wsL_qi12_2 : ∀ w ∈ wsL_q12_2, w ∈ lw_tbl := fun w h => (goodIn_p wsL_q12_2 [250, 560] (by decide +kernel) (by decide +kernel) w h).1
theorem wsL_ri12 : ∀ w ∈ wsL_law_r12, w ∈ lw_tbl := show ∀ w ∈ (wsL_q12_0 ++ (wsL_q12_1 ++ wsL_q12_2)), w ∈ lw_tbl from List.forall_mem_append.mpr ⟨wsL_qi12_0, List.forall_mem_append.mpr ⟨wsL_qi12_1, wsL_qi12_2⟩⟩
def wsL_q13_0 : List Cond := [Cond.code yX0_pointOf cX0_pointOf 2 (some .long), Cond.methodLink RL 64 yX1_pointOf, Cond.instanceMethod yX1_pointOf, Cond.selects RX1 yX1_pointOf yX1_pointOf, Cond.code yX1_pointOf cX1_pointOf 2 (some .long), Cond.methodLink RX1 122 yX1_pointNow, Cond.instanceMethod yX1_pointNow, Cond.selects RX1 yX1_pointNow yX1_pointNow]
set_option maxRecDepth 20000 in
theorem wsL_qi13_0 : ∀ w ∈ wsL_q13_0, w ∈ lw_tbl := fun w h => (goodIn_p wsL_q13_0 [254, 564] (by decide +kernel) (by decide +kernel) w h).1
def wsL_q13_1 : List Cond := [Cond.code yX1_pointNow cX1_pointNow 2 (some .long), Cond.methodLink RL 65 yX0_speedOf, Cond.instanceMethod yX0_speedOf, Cond.selects RX0 yX0_speedOf yX0_speedOf, Cond.code yX0_speedOf cX0_speedOf 2 (some .long), Cond.methodLink RL 68 yX1_speedOf, Cond.instanceMethod yX1_speedOf, Cond.selects RX1 yX1_speedOf yX1_speedOf]
set_option maxRecDepth 20000 in
theorem wsL_qi13_1 : ∀ w ∈ wsL_q13_1, w ∈ lw_tbl := fun w h => (goodIn_p wsL_q13_1 [568, 258] (by decide +kernel) (by decide +kernel) w h).1
def wsL_q13_2 : List Cond := [Cond.code yX1_speedOf cX1_speedOf 2 (some .long), Cond.methodLink RX1 126 yX1_speedNow, Cond.instanceMethod yX1_speedNow, Cond.selects RX1 yX1_speedNow yX1_speedNow, Cond.code yX1_speedNow cX1_speedNow 2 (some .long), Cond.methodLink RL 69 yX0_speedTowards, Cond.instanceMethod yX0_speedTowards, Cond.selects RX0 yX0_speedTowards yX0_speedTowards]
set_option maxRecDepth 20000 in
theorem wsL_qi13_2 : ∀ w ∈ wsL_q13_2, w ∈ lw_tbl := fun w h => (goodIn_p wsL_q13_2 [572, 576] (by decide +kernel) (by decide +kernel) w h).1
theorem wsL_ri13 : ∀ w ∈ wsL_law_r13, w ∈ lw_tbl := show ∀ w ∈ (wsL_q13_0 ++ (wsL_q13_1 ++ wsL_q13_2)), w ∈ lw_tbl from List.forall_mem_append.mpr ⟨wsL_qi13_0, List.forall_mem_append.mpr ⟨wsL_qi13_1, wsL_qi13_2⟩⟩
def wsL_q14_0 : List Cond := [Cond.code yX0_speedTowards cX0_speedTowards 4 (some .long), Cond.methodLink RL 72 yX1_speedTowards, Cond.instanceMethod yX1_speedTowards, Cond.selects RX1 yX1_speedTowards yX1_speedTowards, Cond.code yX1_speedTowards cX1_speedTowards 5 (some .long), Cond.methodLink RL 73 yX0_setFix, Cond.instanceMethod yX0_setFix, Cond.selects RX0 yX0_setFix yX0_setFix]
set_option maxRecDepth 20000 in
theorem wsL_qi14_0 : ∀ w ∈ wsL_q14_0, w ∈ lw_tbl := fun w h => (goodIn_p wsL_q14_0 [262, 580] (by decide +kernel) (by decide +kernel) w h).1
def wsL_q14_1 : List Cond := [Cond.code yX0_setFix cX0_setFix 4 (some .long), Cond.constantLong RX0 124 (-9000000000000000003), Cond.methodLink RX0 121 yX0_fixCanStand, Cond.instanceMethod yX0_fixCanStand, Cond.selects RX0 yX0_fixCanStand yX0_fixCanStand, Cond.code yX0_fixCanStand cX0_fixCanStand 2 (some .boolean), Cond.methodLink RX0 126 yX0_isCoordinate, Cond.static yX0_isCoordinate]
set_option maxRecDepth 20000 in
theorem wsL_qi14_1 : ∀ w ∈ wsL_q14_1, w ∈ lw_tbl := fun w h => (goodIn_p wsL_q14_1 [266, 270] (by decide +kernel) (by decide +kernel) w h).1
def wsL_q14_2 : List Cond := [Cond.code yX0_isCoordinate cX0_isCoordinate 1 (some .boolean), Cond.constant RX0 132 (-200000000), Cond.constant RX0 133 (200000000), Cond.methodLink RX0 129 yX0_fixCount, Cond.instanceMethod yX0_fixCount, Cond.selects RX0 yX0_fixCount yX0_fixCount, Cond.code yX0_fixCount cX0_fixCount 3 (some .int), Cond.methodLink RL 76 yX1_setFix]
set_option maxRecDepth 20000 in
theorem wsL_qi14_2 : ∀ w ∈ wsL_q14_2, w ∈ lw_tbl := fun w h => (goodIn_p wsL_q14_2 [274, 280] (by decide +kernel) (by decide +kernel) w h).1
theorem wsL_ri14 : ∀ w ∈ wsL_law_r14, w ∈ lw_tbl := show ∀ w ∈ (wsL_q14_0 ++ (wsL_q14_1 ++ wsL_q14_2)), w ∈ lw_tbl from List.forall_mem_append.mpr ⟨wsL_qi14_0, List.forall_mem_append.mpr ⟨wsL_qi14_1, wsL_qi14_2⟩⟩
def wsL_q15_0 : List Cond := [Cond.instanceMethod yX1_setFix, Cond.selects RX1 yX1_setFix yX1_setFix, Cond.code yX1_setFix cX1_setFix 4 (some .long), Cond.constantLong RX1 129 (-9000000000000000003), Cond.constant RX1 131 (-200000000), Cond.constant RX1 132 (200000000), Cond.methodLink RX1 133 yX1_fixMany, Cond.instanceMethod yX1_fixMany]
set_option maxRecDepth 20000 in
theorem wsL_qi15_0 : ∀ w ∈ wsL_q15_0, w ∈ lw_tbl := fun w h => (goodIn_p wsL_q15_0 [584] (by decide +kernel) (by decide +kernel) w h).1
def wsL_q15_1 : List Cond := [Cond.selects RX1 yX1_fixMany yX1_fixMany, Cond.code yX1_fixMany cX1_fixMany 3 (some .int), Cond.methodLink RL 77 yX0_removeFix, Cond.instanceMethod yX0_removeFix, Cond.selects RX0 yX0_removeFix yX0_removeFix, Cond.code yX0_removeFix cX0_removeFix 2 (some .long), Cond.methodLink RL 80 yX1_removeFix, Cond.instanceMethod yX1_removeFix]
set_option maxRecDepth 20000 in
theorem wsL_qi15_1 : ∀ w ∈ wsL_q15_1, w ∈ lw_tbl := fun w h => (goodIn_p wsL_q15_1 [591, 284] (by decide +kernel) (by decide +kernel) w h).1
def wsL_q15_2 : List Cond := [Cond.selects RX1 yX1_removeFix yX1_removeFix, Cond.code yX1_removeFix cX1_removeFix 2 (some .long), Cond.methodLink RL 81 yX0_reckonedNorth, Cond.instanceMethod yX0_reckonedNorth, Cond.selects RX0 yX0_reckonedNorth yX0_reckonedNorth, Cond.code yX0_reckonedNorth cX0_reckonedNorth 2 (some .long), Cond.methodLink RX0 134 yX0_momentExists, Cond.instanceMethod yX0_momentExists]
set_option maxRecDepth 20000 in
theorem wsL_qi15_2 : ∀ w ∈ wsL_q15_2, w ∈ lw_tbl := fun w h => (goodIn_p wsL_q15_2 [595, 288] (by decide +kernel) (by decide +kernel) w h).1
theorem wsL_ri15 : ∀ w ∈ wsL_law_r15, w ∈ lw_tbl := show ∀ w ∈ (wsL_q15_0 ++ (wsL_q15_1 ++ wsL_q15_2)), w ∈ lw_tbl from List.forall_mem_append.mpr ⟨wsL_qi15_0, List.forall_mem_append.mpr ⟨wsL_qi15_1, wsL_qi15_2⟩⟩
def wsL_q16_0 : List Cond := [Cond.selects RX0 yX0_momentExists yX0_momentExists, Cond.code yX0_momentExists cX0_momentExists 2 (some .boolean), Cond.methodLink RX0 137 yX0_reckoned, Cond.instanceMethod yX0_reckoned, Cond.selects RX0 yX0_reckoned yX0_reckoned, Cond.code yX0_reckoned cX0_reckoned 4 (some .long), Cond.methodLink RX0 160 yX0_lastFix, Cond.instanceMethod yX0_lastFix]
set_option maxRecDepth 20000 in
theorem wsL_qi16_0 : ∀ w ∈ wsL_q16_0, w ∈ lw_tbl := fun w h => (goodIn_p wsL_q16_0 [292, 296] (by decide +kernel) (by decide +kernel) w h).1
def wsL_q16_1 : List Cond := [Cond.selects RX0 yX0_lastFix yX0_lastFix, Cond.code yX0_lastFix cX0_lastFix 3 (some .int), Cond.methodLink RX0 173 yX0_fix, Cond.instanceMethod yX0_fix, Cond.selects RX0 yX0_fix yX0_fix, Cond.code yX0_fix cX0_fix 3 (some .int), Cond.methodLink RX0 176 yX0_legs, Cond.instanceMethod yX0_legs]
set_option maxRecDepth 20000 in
theorem wsL_qi16_1 : ∀ w ∈ wsL_q16_1, w ∈ lw_tbl := fun w h => (goodIn_p wsL_q16_1 [300, 304] (by decide +kernel) (by decide +kernel) w h).1
def wsL_q16_2 : List Cond := [Cond.selects RX0 yX0_legs yX0_legs, Cond.code yX0_legs cX0_legs 7 (some .long), Cond.methodLink RX0 184 yX0_movement, Cond.static yX0_movement, Cond.code yX0_movement cX0_movement 3 (some .long), Cond.fieldLink RX0 187 "TraverseBoard" "SIN" "[I", Cond.methodLink RX0 190 yJ9_floorMod_7cf53, Cond.static yJ9_floorMod_7cf53]
set_option maxRecDepth 20000 in
theorem wsL_qi16_2 : ∀ w ∈ wsL_q16_2, w ∈ lw_tbl := fun w h => (goodIn_p wsL_q16_2 [308, 311] (by decide +kernel) (by decide +kernel) w h).1
theorem wsL_ri16 : ∀ w ∈ wsL_law_r16, w ∈ lw_tbl := show ∀ w ∈ (wsL_q16_0 ++ (wsL_q16_1 ++ wsL_q16_2)), w ∈ lw_tbl from List.forall_mem_append.mpr ⟨wsL_qi16_0, List.forall_mem_append.mpr ⟨wsL_qi16_1, wsL_qi16_2⟩⟩
def wsL_q17_0 : List Cond := [Cond.initialized RJ9, Cond.code yJ9_floorMod_7cf53 cJ9_floorMod_7cf53 3 (some .int), Cond.methodLink RL 84 yX1_reckonedNorth, Cond.instanceMethod yX1_reckonedNorth, Cond.selects RX1 yX1_reckonedNorth yX1_reckonedNorth, Cond.code yX1_reckonedNorth cX1_reckonedNorth 2 (some .long), Cond.methodLink RX1 160 yX1_isMoment, Cond.instanceMethod yX1_isMoment]
set_option maxRecDepth 20000 in
theorem wsL_qi17_0 : ∀ w ∈ wsL_q17_0, w ∈ lw_tbl := fun w h => (goodIn_p wsL_q17_0 [316, 599] (by decide +kernel) (by decide +kernel) w h).1
def wsL_q17_1 : List Cond := [Cond.selects RX1 yX1_isMoment yX1_isMoment, Cond.code yX1_isMoment cX1_isMoment 2 (some .boolean), Cond.methodLink RX1 163 yX1_reckoned, Cond.instanceMethod yX1_reckoned, Cond.selects RX1 yX1_reckoned yX1_reckoned, Cond.code yX1_reckoned cX1_reckoned 3 (some .long), Cond.methodLink RX1 146 yX1_fixAt, Cond.instanceMethod yX1_fixAt]
set_option maxRecDepth 20000 in
theorem wsL_qi17_1 : ∀ w ∈ wsL_q17_1, w ∈ lw_tbl := fun w h => (goodIn_p wsL_q17_1 [603, 607] (by decide +kernel) (by decide +kernel) w h).1
def wsL_q17_2 : List Cond := [Cond.selects RX1 yX1_fixAt yX1_fixAt, Cond.code yX1_fixAt cX1_fixAt 3 (some .int), Cond.methodLink RX1 149 yX1_gone, Cond.instanceMethod yX1_gone, Cond.selects RX1 yX1_gone yX1_gone, Cond.code yX1_gone cX1_gone 7 (some .long), Cond.methodLink RX1 139 yX1_fixed, Cond.instanceMethod yX1_fixed]
set_option maxRecDepth 20000 in
theorem wsL_qi17_2 : ∀ w ∈ wsL_q17_2, w ∈ lw_tbl := fun w h => (goodIn_p wsL_q17_2 [611, 615] (by decide +kernel) (by decide +kernel) w h).1
theorem wsL_ri17 : ∀ w ∈ wsL_law_r17, w ∈ lw_tbl := show ∀ w ∈ (wsL_q17_0 ++ (wsL_q17_1 ++ wsL_q17_2)), w ∈ lw_tbl from List.forall_mem_append.mpr ⟨wsL_qi17_0, List.forall_mem_append.mpr ⟨wsL_qi17_1, wsL_qi17_2⟩⟩
def wsL_q18_0 : List Cond := [Cond.selects RX1 yX1_fixed yX1_fixed, Cond.code yX1_fixed cX1_fixed 3 (some .long), Cond.methodLink RX1 143 yX1_leg, Cond.instanceMethod yX1_leg, Cond.selects RX1 yX1_leg yX1_leg, Cond.code yX1_leg cX1_leg 6 (some .long), Cond.methodLink RX1 136 yX1_cosine, Cond.static yX1_cosine]
set_option maxRecDepth 20000 in
theorem wsL_qi18_0 : ∀ w ∈ wsL_q18_0, w ∈ lw_tbl := fun w h => (goodIn_p wsL_q18_0 [619, 623] (by decide +kernel) (by decide +kernel) w h).1
def wsL_q18_1 : List Cond := [Cond.code yX1_cosine cX1_cosine 1 (some .int), Cond.methodLink RX1 44 yX1_sine, Cond.static yX1_sine, Cond.code yX1_sine cX1_sine 3 (some .int), Cond.methodLink RX1 40 yX1_quarter, Cond.static yX1_quarter, Cond.code yX1_quarter cX1_quarter 1 (some .int), Cond.methodLink RL 85 yX0_reckonedEast]
set_option maxRecDepth 20000 in
theorem wsL_qi18_1 : ∀ w ∈ wsL_q18_1, w ∈ lw_tbl := fun w h => (goodIn_p wsL_q18_1 [626, 629, 632] (by decide +kernel) (by decide +kernel) w h).1
def wsL_q18_2 : List Cond := [Cond.instanceMethod yX0_reckonedEast, Cond.selects RX0 yX0_reckonedEast yX0_reckonedEast, Cond.code yX0_reckonedEast cX0_reckonedEast 2 (some .long), Cond.methodLink RL 88 yX1_reckonedEast, Cond.instanceMethod yX1_reckonedEast, Cond.selects RX1 yX1_reckonedEast yX1_reckonedEast, Cond.code yX1_reckonedEast cX1_reckonedEast 2 (some .long), Cond.methodLink RL 89 yX0_correctedNorth]
set_option maxRecDepth 20000 in
theorem wsL_qi18_2 : ∀ w ∈ wsL_q18_2, w ∈ lw_tbl := fun w h => (goodIn_p wsL_q18_2 [320, 636] (by decide +kernel) (by decide +kernel) w h).1
theorem wsL_ri18 : ∀ w ∈ wsL_law_r18, w ∈ lw_tbl := show ∀ w ∈ (wsL_q18_0 ++ (wsL_q18_1 ++ wsL_q18_2)), w ∈ lw_tbl from List.forall_mem_append.mpr ⟨wsL_qi18_0, List.forall_mem_append.mpr ⟨wsL_qi18_1, wsL_qi18_2⟩⟩
def wsL_q19_0 : List Cond := [Cond.instanceMethod yX0_correctedNorth, Cond.selects RX0 yX0_correctedNorth yX0_correctedNorth, Cond.code yX0_correctedNorth cX0_correctedNorth 2 (some .long), Cond.methodLink RX0 141 yX0_corrected, Cond.instanceMethod yX0_corrected, Cond.selects RX0 yX0_corrected yX0_corrected, Cond.code yX0_corrected cX0_corrected 5 (some .long), Cond.methodLink RX0 163 yX0_firstFixAfter]
set_option maxRecDepth 20000 in
theorem wsL_qi19_0 : ∀ w ∈ wsL_q19_0, w ∈ lw_tbl := fun w h => (goodIn_p wsL_q19_0 [324, 328] (by decide +kernel) (by decide +kernel) w h).1
def wsL_q19_1 : List Cond := [Cond.instanceMethod yX0_firstFixAfter, Cond.selects RX0 yX0_firstFixAfter yX0_firstFixAfter, Cond.code yX0_firstFixAfter cX0_firstFixAfter 3 (some .int), Cond.methodLink RX0 166 yX0_error, Cond.instanceMethod yX0_error, Cond.selects RX0 yX0_error yX0_error, Cond.code yX0_error cX0_error 4 (some .long), Cond.methodLink RX0 179 yJ9_floorDiv_f86c9]
set_option maxRecDepth 20000 in
theorem wsL_qi19_1 : ∀ w ∈ wsL_q19_1, w ∈ lw_tbl := fun w h => (goodIn_p wsL_q19_1 [332, 336] (by decide +kernel) (by decide +kernel) w h).1
def wsL_q19_2 : List Cond := [Cond.static yJ9_floorDiv_f86c9, Cond.code yJ9_floorDiv_f86c9 cJ9_floorDiv_f86c9 6 (some .long), Cond.methodLink RL 92 yX1_correctedNorth, Cond.instanceMethod yX1_correctedNorth, Cond.selects RX1 yX1_correctedNorth yX1_correctedNorth, Cond.code yX1_correctedNorth cX1_correctedNorth 2 (some .long), Cond.methodLink RX1 166 yX1_corrected, Cond.instanceMethod yX1_corrected]
set_option maxRecDepth 20000 in
theorem wsL_qi19_2 : ∀ w ∈ wsL_q19_2, w ∈ lw_tbl := fun w h => (goodIn_p wsL_q19_2 [339, 640] (by decide +kernel) (by decide +kernel) w h).1
theorem wsL_ri19 : ∀ w ∈ wsL_law_r19, w ∈ lw_tbl := show ∀ w ∈ (wsL_q19_0 ++ (wsL_q19_1 ++ wsL_q19_2)), w ∈ lw_tbl from List.forall_mem_append.mpr ⟨wsL_qi19_0, List.forall_mem_append.mpr ⟨wsL_qi19_1, wsL_qi19_2⟩⟩
def wsL_q20_0 : List Cond := [Cond.selects RX1 yX1_corrected yX1_corrected, Cond.code yX1_corrected cX1_corrected 9 (some .long), Cond.methodLink RX1 153 yX1_fixBehind, Cond.instanceMethod yX1_fixBehind, Cond.selects RX1 yX1_fixBehind yX1_fixBehind, Cond.code yX1_fixBehind cX1_fixBehind 4 (some .int), Cond.methodLink RX1 156 yX1_floor, Cond.static yX1_floor]
set_option maxRecDepth 20000 in
theorem wsL_qi20_0 : ∀ w ∈ wsL_q20_0, w ∈ lw_tbl := fun w h => (goodIn_p wsL_q20_0 [644, 648] (by decide +kernel) (by decide +kernel) w h).1
def wsL_q20_1 : List Cond := [Cond.code yX1_floor cX1_floor 6 (some .long), Cond.methodLink RL 93 yX0_correctedEast, Cond.instanceMethod yX0_correctedEast, Cond.selects RX0 yX0_correctedEast yX0_correctedEast, Cond.code yX0_correctedEast cX0_correctedEast 2 (some .long), Cond.methodLink RL 96 yX1_correctedEast, Cond.instanceMethod yX1_correctedEast, Cond.selects RX1 yX1_correctedEast yX1_correctedEast]
set_option maxRecDepth 20000 in
theorem wsL_qi20_1 : ∀ w ∈ wsL_q20_1, w ∈ lw_tbl := fun w h => (goodIn_p wsL_q20_1 [651, 343] (by decide +kernel) (by decide +kernel) w h).1
def wsL_q20_2 : List Cond := [Cond.code yX1_correctedEast cX1_correctedEast 2 (some .long), Cond.methodLink RL 97 yX0_distance, Cond.instanceMethod yX0_distance, Cond.selects RX0 yX0_distance yX0_distance, Cond.code yX0_distance cX0_distance 3 (some .long), Cond.methodLink RX0 144 yX0_difference, Cond.instanceMethod yX0_difference, Cond.selects RX0 yX0_difference yX0_difference]
set_option maxRecDepth 20000 in
theorem wsL_qi20_2 : ∀ w ∈ wsL_q20_2, w ∈ lw_tbl := fun w h => (goodIn_p wsL_q20_2 [655, 347] (by decide +kernel) (by decide +kernel) w h).1
theorem wsL_ri20 : ∀ w ∈ wsL_law_r20, w ∈ lw_tbl := show ∀ w ∈ (wsL_q20_0 ++ (wsL_q20_1 ++ wsL_q20_2)), w ∈ lw_tbl from List.forall_mem_append.mpr ⟨wsL_qi20_0, List.forall_mem_append.mpr ⟨wsL_qi20_1, wsL_qi20_2⟩⟩
def wsL_q21_0 : List Cond := [Cond.code yX0_difference cX0_difference 4 (some .long), Cond.methodLink RX0 148 yX0_squares, Cond.static yX0_squares, Cond.code yX0_squares cX0_squares 4 (some .long), Cond.methodLink RX0 152 yX0_root, Cond.static yX0_root, Cond.code yX0_root cX0_root 7 (some .long), Cond.methodLink RL 100 yX1_distance]
set_option maxRecDepth 20000 in
theorem wsL_qi21_0 : ∀ w ∈ wsL_q21_0, w ∈ lw_tbl := fun w h => (goodIn_p wsL_q21_0 [351, 354, 357] (by decide +kernel) (by decide +kernel) w h).1
def wsL_q21_1 : List Cond := [Cond.instanceMethod yX1_distance, Cond.selects RX1 yX1_distance yX1_distance, Cond.code yX1_distance cX1_distance 3 (some .long), Cond.methodLink RX1 173 yX1_distanceNow, Cond.instanceMethod yX1_distanceNow, Cond.selects RX1 yX1_distanceNow yX1_distanceNow, Cond.code yX1_distanceNow cX1_distanceNow 15 (some .long), Cond.constantLong RX1 169 (2000000000)]
set_option maxRecDepth 20000 in
theorem wsL_qi21_1 : ∀ w ∈ wsL_q21_1, w ∈ lw_tbl := fun w h => (goodIn_p wsL_q21_1 [659, 663] (by decide +kernel) (by decide +kernel) w h).1
def wsL_q21_2 : List Cond := [Cond.constantLong RX1 171 (2), Cond.methodLink RL 101 yX0_bearing, Cond.instanceMethod yX0_bearing, Cond.selects RX0 yX0_bearing yX0_bearing, Cond.code yX0_bearing cX0_bearing 7 (some .long), Cond.methodLink RX0 156 yX0_nearestPoint, Cond.static yX0_nearestPoint, Cond.code yX0_nearestPoint cX0_nearestPoint 6 (some .int)]
set_option maxRecDepth 20000 in
theorem wsL_qi21_2 : ∀ w ∈ wsL_q21_2, w ∈ lw_tbl := fun w h => (goodIn_p wsL_q21_2 [361, 364] (by decide +kernel) (by decide +kernel) w h).1
theorem wsL_ri21 : ∀ w ∈ wsL_law_r21, w ∈ lw_tbl := show ∀ w ∈ (wsL_q21_0 ++ (wsL_q21_1 ++ wsL_q21_2)), w ∈ lw_tbl from List.forall_mem_append.mpr ⟨wsL_qi21_0, List.forall_mem_append.mpr ⟨wsL_qi21_1, wsL_qi21_2⟩⟩
def wsL_q22_0 : List Cond := [Cond.methodLink RX0 193 yX0_advance, Cond.static yX0_advance, Cond.code yX0_advance cX0_advance 5 (some .long), Cond.methodLink RL 104 yX1_bearing, Cond.instanceMethod yX1_bearing, Cond.selects RX1 yX1_bearing yX1_bearing, Cond.code yX1_bearing cX1_bearing 3 (some .long), Cond.methodLink RX1 176 yX1_bearingNow]
set_option maxRecDepth 20000 in
theorem wsL_qi22_0 : ∀ w ∈ wsL_q22_0, w ∈ lw_tbl := fun w h => (goodIn_p wsL_q22_0 [367, 669] (by decide +kernel) (by decide +kernel) w h).1
def wsL_q22_1 : List Cond := [Cond.instanceMethod yX1_bearingNow, Cond.selects RX1 yX1_bearingNow yX1_bearingNow, Cond.code yX1_bearingNow cX1_bearingNow 9 (some .long), Cond.methodLink RL 105 yX0_findLost, Cond.instanceMethod yX0_findLost, Cond.selects RX0 yX0_findLost yX0_findLost, Cond.code yX0_findLost cX0_findLost 4 (some .long), Cond.methodLink RX0 169 yX0_likeliest]
set_option maxRecDepth 20000 in
theorem wsL_qi22_1 : ∀ w ∈ wsL_q22_1, w ∈ lw_tbl := fun w h => (goodIn_p wsL_q22_1 [673, 371] (by decide +kernel) (by decide +kernel) w h).1
def wsL_q22_2 : List Cond := [Cond.static yX0_likeliest, Cond.code yX0_likeliest cX0_likeliest 13 (some .long), Cond.constantLong RX0 200 (1000), Cond.methodLink RX0 196 yX0_miss, Cond.static yX0_miss, Cond.code yX0_miss cX0_miss 6 (some .long), Cond.methodLink RL 108 yX1_findLost, Cond.instanceMethod yX1_findLost]
set_option maxRecDepth 20000 in
theorem wsL_qi22_2 : ∀ w ∈ wsL_q22_2, w ∈ lw_tbl := fun w h => (goodIn_p wsL_q22_2 [374, 377] (by decide +kernel) (by decide +kernel) w h).1
theorem wsL_ri22 : ∀ w ∈ wsL_law_r22, w ∈ lw_tbl := show ∀ w ∈ (wsL_q22_0 ++ (wsL_q22_1 ++ wsL_q22_2)), w ∈ lw_tbl from List.forall_mem_append.mpr ⟨wsL_qi22_0, List.forall_mem_append.mpr ⟨wsL_qi22_1, wsL_qi22_2⟩⟩
def wsL_q23_0 : List Cond := [Cond.selects RX1 yX1_findLost yX1_findLost, Cond.code yX1_findLost cX1_findLost 2 (some .long), Cond.methodLink RX1 189 yX1_lostNow, Cond.instanceMethod yX1_lostNow, Cond.selects RX1 yX1_lostNow yX1_lostNow, Cond.code yX1_lostNow cX1_lostNow 4 (some .long), Cond.methodLink RX1 183 yX1_isOtherLost, Cond.instanceMethod yX1_isOtherLost]
set_option maxRecDepth 20000 in
theorem wsL_qi23_0 : ∀ w ∈ wsL_q23_0, w ∈ lw_tbl := fun w h => (goodIn_p wsL_q23_0 [677, 681] (by decide +kernel) (by decide +kernel) w h).1
def wsL_q23_1 : List Cond := [Cond.selects RX1 yX1_isOtherLost yX1_isOtherLost, Cond.code yX1_isOtherLost cX1_isOtherLost 6 (some .boolean), Cond.methodLink RX1 186 yX1_search, Cond.instanceMethod yX1_search, Cond.selects RX1 yX1_search yX1_search, Cond.code yX1_search cX1_search 21 (some .long), Cond.constantLong RX1 179 (-1), Cond.constantLong RX1 181 (1000)]
set_option maxRecDepth 20000 in
theorem wsL_qi23_1 : ∀ w ∈ wsL_q23_1, w ∈ lw_tbl := fun w h => (goodIn_p wsL_q23_1 [685, 689] (by decide +kernel) (by decide +kernel) w h).1
def wsL_q23_2 : List Cond := [Cond.methodLink RL 109 yX0_digest, Cond.instanceMethod yX0_digest, Cond.selects RX0 yX0_digest yX0_digest, Cond.code yX0_digest cX0_digest 4 (some .long), Cond.constantLong RX0 202 (1811), Cond.methodLink RX0 204 yX0_mix, Cond.static yX0_mix, Cond.code yX0_mix cX0_mix 4 (some .long)]
set_option maxRecDepth 20000 in
theorem wsL_qi23_2 : ∀ w ∈ wsL_q23_2, w ∈ lw_tbl := fun w h => (goodIn_p wsL_q23_2 [382, 386] (by decide +kernel) (by decide +kernel) w h).1
theorem wsL_ri23 : ∀ w ∈ wsL_law_r23, w ∈ lw_tbl := show ∀ w ∈ (wsL_q23_0 ++ (wsL_q23_1 ++ wsL_q23_2)), w ∈ lw_tbl from List.forall_mem_append.mpr ⟨wsL_qi23_0, List.forall_mem_append.mpr ⟨wsL_qi23_1, wsL_qi23_2⟩⟩
def wsL_q24_0 : List Cond := [Cond.constantLong RX0 235 (31), Cond.methodLink RX0 207 yX0_mixPegs, Cond.instanceMethod yX0_mixPegs, Cond.selects RX0 yX0_mixPegs yX0_mixPegs, Cond.code yX0_mixPegs cX0_mixPegs 6 (some .long), Cond.methodLink RX0 229 yX0_pointOf, Cond.methodLink RX0 232 yX0_speedOf, Cond.methodLink RX0 210 yX0_mixMoments]
set_option maxRecDepth 20000 in
theorem wsL_qi24_0 : ∀ w ∈ wsL_q24_0, w ∈ lw_tbl := fun w h => (goodIn_p wsL_q24_0 [391] (by decide +kernel) (by decide +kernel) w h).1
def wsL_q24_1 : List Cond := [Cond.instanceMethod yX0_mixMoments, Cond.selects RX0 yX0_mixMoments yX0_mixMoments, Cond.code yX0_mixMoments cX0_mixMoments 6 (some .long), Cond.methodLink RX0 213 yX0_distance, Cond.methodLink RX0 216 yX0_bearing, Cond.methodLink RX0 219 yX0_firstLost, Cond.instanceMethod yX0_firstLost, Cond.selects RX0 yX0_firstLost yX0_firstLost]
set_option maxRecDepth 20000 in
theorem wsL_qi24_1 : ∀ w ∈ wsL_q24_1, w ∈ lw_tbl := fun w h => (goodIn_p wsL_q24_1 [397] (by decide +kernel) (by decide +kernel) w h).1
def wsL_q24_2 : List Cond := [Cond.code yX0_firstLost cX0_firstLost 2 (some .int), Cond.methodLink RX0 222 yX0_findLost, Cond.methodLink RX0 226 yX0_mixBuffer, Cond.instanceMethod yX0_mixBuffer, Cond.selects RX0 yX0_mixBuffer yX0_mixBuffer, Cond.code yX0_mixBuffer cX0_mixBuffer 6 (some .long), Cond.methodLink RL 112 yX1_digest, Cond.instanceMethod yX1_digest]
set_option maxRecDepth 20000 in
theorem wsL_qi24_2 : ∀ w ∈ wsL_q24_2, w ∈ lw_tbl := fun w h => (goodIn_p wsL_q24_2 [403, 408] (by decide +kernel) (by decide +kernel) w h).1
theorem wsL_ri24 : ∀ w ∈ wsL_law_r24, w ∈ lw_tbl := show ∀ w ∈ (wsL_q24_0 ++ (wsL_q24_1 ++ wsL_q24_2)), w ∈ lw_tbl from List.forall_mem_append.mpr ⟨wsL_qi24_0, List.forall_mem_append.mpr ⟨wsL_qi24_1, wsL_qi24_2⟩⟩
def wsL_q25_0 : List Cond := [Cond.selects RX1 yX1_digest yX1_digest, Cond.code yX1_digest cX1_digest 3 (some .long), Cond.constantLong RX1 198 (1811), Cond.fieldLink RX1 194 "TraverseBoardModel" "h" "J", Cond.methodLink RX1 200 yX1_mix, Cond.instanceMethod yX1_mix, Cond.selects RX1 yX1_mix yX1_mix, Cond.code yX1_mix cX1_mix 3 none]
set_option maxRecDepth 20000 in
theorem wsL_qi25_0 : ∀ w ∈ wsL_q25_0, w ∈ lw_tbl := fun w h => (goodIn_p wsL_q25_0 [695, 700] (by decide +kernel) (by decide +kernel) w h).1
def wsL_q25_1 : List Cond := [Cond.constantLong RX1 192 (31)]
set_option maxRecDepth 20000 in
theorem wsL_qi25_1 : ∀ w ∈ wsL_q25_1, w ∈ lw_tbl := fun w h => (goodIn_p wsL_q25_1 [] (by decide +kernel) (by decide +kernel) w h).1
theorem wsL_ri25 : ∀ w ∈ wsL_law_r25, w ∈ lw_tbl := show ∀ w ∈ (wsL_q25_0 ++ wsL_q25_1), w ∈ lw_tbl from List.forall_mem_append.mpr ⟨wsL_qi25_0, wsL_qi25_1⟩
theorem wsL_x0 : ∀ w ∈ wsX00, w ∈ lw_tbl := by decide +kernel
theorem wsL_x1 : ∀ w ∈ wsX10, w ∈ lw_tbl := by decide +kernel
theorem wsL_law_in : ∀ w ∈ wsL_law, w ∈ lw_tbl := List.forall_mem_append.mpr ⟨List.forall_mem_append.mpr ⟨List.forall_mem_append.mpr ⟨List.forall_mem_append.mpr ⟨wsL_ri1, List.forall_mem_append.mpr ⟨wsL_ri2, List.forall_mem_append.mpr ⟨wsL_ri3, List.forall_mem_append.mpr ⟨wsL_ri4, List.forall_mem_append.mpr ⟨wsL_ri5, List.forall_mem_append.mpr ⟨wsL_ri6, List.forall_mem_append.mpr ⟨wsL_ri7, List.forall_mem_append.mpr ⟨wsL_ri8, List.forall_mem_append.mpr ⟨wsL_ri9, List.forall_mem_append.mpr ⟨wsL_ri10, List.forall_mem_append.mpr ⟨wsL_ri11, List.forall_mem_append.mpr ⟨wsL_ri12, List.forall_mem_append.mpr ⟨wsL_ri13, List.forall_mem_append.mpr ⟨wsL_ri14, List.forall_mem_append.mpr ⟨wsL_ri15, List.forall_mem_append.mpr ⟨wsL_ri16, List.forall_mem_append.mpr ⟨wsL_ri17, List.forall_mem_append.mpr ⟨wsL_ri18, List.forall_mem_append.mpr ⟨wsL_ri19, List.forall_mem_append.mpr ⟨wsL_ri20, List.forall_mem_append.mpr ⟨wsL_ri21, List.forall_mem_append.mpr ⟨wsL_ri22, List.forall_mem_append.mpr ⟨wsL_ri23, List.forall_mem_append.mpr ⟨wsL_ri24, wsL_ri25⟩⟩⟩⟩⟩⟩⟩⟩⟩⟩⟩⟩⟩⟩⟩⟩⟩⟩⟩⟩⟩⟩⟩⟩, wsL_x0⟩, wsL_x1⟩, fun _ h => absurd h List.not_mem_nil⟩
theorem inlX0 : ∀ w ∈ wsX00, w ∈ wsL_law := fun _ h => List.mem_append_left _ (List.mem_append_left _ (List.mem_append_right _ h))
theorem inX0 : ∀ w ∈ wsX00, w ∈ lw_tbl := fun w h => wsL_law_in w (inlX0 w h)
theorem inlX1 : ∀ w ∈ wsX10, w ∈ wsL_law := fun _ h => List.mem_append_left _ (List.mem_append_right _ h)
theorem inX1 : ∀ w ∈ wsX10, w ∈ lw_tbl := fun w h => wsL_law_in w (inlX1 w h)
theorem inJ9 : ∀ w ∈ wsJ90, w ∈ lw_tbl := by decide +kernel
theorem inJ0 : ∀ w ∈ wsJ00, w ∈ lw_tbl := by decide +kernel
theorem inJ1 : ∀ w ∈ wsJ10, w ∈ lw_tbl := by decide +kernel
theorem inJ2 : ∀ w ∈ wsJ20, w ∈ lw_tbl := by decide +kernel
theorem inJ3 : ∀ w ∈ wsJ30, w ∈ lw_tbl := by decide +kernel
abbrev vwCl : List vw_C := [(RX0, TX0, 12), (RX1, TX1, 17)]
end
section
theorem dX0_init_0 : decode cX0_init 0 = .ok (.aload_n 0, 1) := by decide +kernel
theorem dX0_init_1 : decode cX0_init 1 = .ok (.invokespecial 1, 3) := by decide +kernel
theorem dX0_init_4 : decode cX0_init 4 = .ok (.aload_n 0, 1) := by decide +kernel
theorem dX0_init_5 : decode cX0_init 5 = .ok (.bipush 12, 2) := by decide +kernel
theorem dX0_init_7 : decode cX0_init 7 = .ok (.newarray .int, 2) := by decide +kernel
theorem dX0_init_9 : decode cX0_init 9 = .ok (.putfield 9, 3) := by decide +kernel
theorem dX0_init_12 : decode cX0_init 12 = .ok (.aload_n 0, 1) := by decide +kernel
theorem dX0_init_13 : decode cX0_init 13 = .ok (.bipush 48, 2) := by decide +kernel
theorem dX0_init_15 : decode cX0_init 15 = .ok (.newarray .int, 2) := by decide +kernel
theorem dX0_init_17 : decode cX0_init 17 = .ok (.putfield 13, 3) := by decide +kernel
theorem dX0_init_20 : decode cX0_init 20 = .ok (.aload_n 0, 1) := by decide +kernel
theorem dX0_init_21 : decode cX0_init 21 = .ok (.bipush 48, 2) := by decide +kernel
theorem dX0_init_23 : decode cX0_init 23 = .ok (.newarray .int, 2) := by decide +kernel
theorem dX0_init_25 : decode cX0_init 25 = .ok (.putfield 16, 3) := by decide +kernel
theorem dX0_init_28 : decode cX0_init 28 = .ok (.aload_n 0, 1) := by decide +kernel
theorem dX0_init_29 : decode cX0_init 29 = .ok (.bipush 48, 2) := by decide +kernel
theorem dX0_init_31 : decode cX0_init 31 = .ok (.newarray .int, 2) := by decide +kernel
theorem dX0_init_33 : decode cX0_init 33 = .ok (.putfield 19, 3) := by decide +kernel
theorem dX0_init_36 : decode cX0_init 36 = .ok (.aload_n 0, 1) := by decide +kernel
theorem dX0_init_37 : decode cX0_init 37 = .ok (.bipush 48, 2) := by decide +kernel
theorem dX0_init_39 : decode cX0_init 39 = .ok (.newarray .boolean, 2) := by decide +kernel
theorem dX0_init_41 : decode cX0_init 41 = .ok (.putfield 22, 3) := by decide +kernel
theorem dX0_init_44 : decode cX0_init 44 = .ok (.aload_n 0, 1) := by decide +kernel
theorem dX0_init_45 : decode cX0_init 45 = .ok (.bipush 49, 2) := by decide +kernel
theorem dX0_init_47 : decode cX0_init 47 = .ok (.newarray .boolean, 2) := by decide +kernel
theorem dX0_init_49 : decode cX0_init 49 = .ok (.putfield 26, 3) := by decide +kernel
theorem dX0_init_52 : decode cX0_init 52 = .ok (.aload_n 0, 1) := by decide +kernel
theorem dX0_init_53 : decode cX0_init 53 = .ok (.bipush 49, 2) := by decide +kernel
theorem dX0_init_55 : decode cX0_init 55 = .ok (.newarray .int, 2) := by decide +kernel
theorem dX0_init_57 : decode cX0_init 57 = .ok (.putfield 29, 3) := by decide +kernel
theorem dX0_init_60 : decode cX0_init 60 = .ok (.aload_n 0, 1) := by decide +kernel
theorem dX0_init_61 : decode cX0_init 61 = .ok (.bipush 49, 2) := by decide +kernel
theorem dX0_init_63 : decode cX0_init 63 = .ok (.newarray .int, 2) := by decide +kernel
theorem dX0_init_65 : decode cX0_init 65 = .ok (.putfield 32, 3) := by decide +kernel
theorem dX0_init_68 : decode cX0_init 68 = .ok (.aload_n 0, 1) := by decide +kernel
theorem dX0_init_69 : decode cX0_init 69 = .ok (.getfield 26, 3) := by decide +kernel
theorem dX0_init_72 : decode cX0_init 72 = .ok (.iconst 0, 1) := by decide +kernel
theorem dX0_init_73 : decode cX0_init 73 = .ok (.iconst 1, 1) := by decide +kernel
theorem dX0_init_74 : decode cX0_init 74 = .ok (.bastore, 1) := by decide +kernel
theorem dX0_init_75 : decode cX0_init 75 = .ok (.return_, 1) := by decide +kernel
set_option maxRecDepth 20000 in
theorem ggX0_append_X0_inRange : GoodIn wsX0_append wsX0_inRange := goodIn_r _ [8] (by decide +kernel) (by decide +kernel)
set_option maxRecDepth 20000 in
theorem gX0_append_X0_inRange : GoodIn wsX0_append (va_wsS RX0 35 yX0_inRange wsX0_inRange) := goodIn_app (goodIn_of _ (by decide +kernel)) ggX0_append_X0_inRange
theorem dX0_append_0 : decode cX0_append 0 = .ok (.iload_n 1, 1) := by decide +kernel
theorem dX0_append_1 : decode cX0_append 1 = .ok (.bipush 32, 2) := by decide +kernel
theorem dX0_append_3 : decode cX0_append 3 = .ok (.bipush 126, 2) := by decide +kernel
theorem dX0_append_5 : decode cX0_append 5 = .ok (.invokestatic 35, 3) := by decide +kernel
theorem dX0_append_8 : decode cX0_append 8 = .ok (.ifCond .ne 7, 3) := by decide +kernel
theorem dX0_append_11 : decode cX0_append 11 = .ok (.ldc2_w 39, 3) := by decide +kernel
theorem dX0_append_14 : decode cX0_append 14 = .ok (.lreturn, 1) := by decide +kernel
theorem dX0_append_15 : decode cX0_append 15 = .ok (.aload_n 0, 1) := by decide +kernel
theorem dX0_append_16 : decode cX0_append 16 = .ok (.getfield 41, 3) := by decide +kernel
theorem dX0_append_19 : decode cX0_append 19 = .ok (.bipush 12, 2) := by decide +kernel
theorem dX0_append_21 : decode cX0_append 21 = .ok (.if_icmp .lt 7, 3) := by decide +kernel
theorem dX0_append_24 : decode cX0_append 24 = .ok (.ldc2_w 45, 3) := by decide +kernel
theorem dX0_append_27 : decode cX0_append 27 = .ok (.lreturn, 1) := by decide +kernel
theorem dX0_append_28 : decode cX0_append 28 = .ok (.aload_n 0, 1) := by decide +kernel
theorem dX0_append_29 : decode cX0_append 29 = .ok (.getfield 9, 3) := by decide +kernel
theorem dX0_append_32 : decode cX0_append 32 = .ok (.aload_n 0, 1) := by decide +kernel
theorem dX0_append_33 : decode cX0_append 33 = .ok (.getfield 41, 3) := by decide +kernel
theorem dX0_append_36 : decode cX0_append 36 = .ok (.iload_n 1, 1) := by decide +kernel
theorem dX0_append_37 : decode cX0_append 37 = .ok (.iastore, 1) := by decide +kernel
theorem dX0_append_38 : decode cX0_append 38 = .ok (.aload_n 0, 1) := by decide +kernel
theorem dX0_append_39 : decode cX0_append 39 = .ok (.dup, 1) := by decide +kernel
theorem dX0_append_40 : decode cX0_append 40 = .ok (.getfield 41, 3) := by decide +kernel
theorem dX0_append_43 : decode cX0_append 43 = .ok (.iconst 1, 1) := by decide +kernel
theorem dX0_append_44 : decode cX0_append 44 = .ok (.iadd, 1) := by decide +kernel
theorem dX0_append_45 : decode cX0_append 45 = .ok (.putfield 41, 3) := by decide +kernel
theorem dX0_append_48 : decode cX0_append 48 = .ok (.aload_n 0, 1) := by decide +kernel
theorem dX0_append_49 : decode cX0_append 49 = .ok (.getfield 41, 3) := by decide +kernel
theorem dX0_append_52 : decode cX0_append 52 = .ok (.i2l, 1) := by decide +kernel
theorem dX0_append_53 : decode cX0_append 53 = .ok (.lreturn, 1) := by decide +kernel
theorem dX0_clearBuffer_0 : decode cX0_clearBuffer 0 = .ok (.aload_n 0, 1) := by decide +kernel
theorem dX0_clearBuffer_1 : decode cX0_clearBuffer 1 = .ok (.getfield 41, 3) := by decide +kernel
theorem dX0_clearBuffer_4 : decode cX0_clearBuffer 4 = .ok (.istore_n 1, 1) := by decide +kernel
theorem dX0_clearBuffer_5 : decode cX0_clearBuffer 5 = .ok (.aload_n 0, 1) := by decide +kernel
theorem dX0_clearBuffer_6 : decode cX0_clearBuffer 6 = .ok (.iconst 0, 1) := by decide +kernel
theorem dX0_clearBuffer_7 : decode cX0_clearBuffer 7 = .ok (.putfield 41, 3) := by decide +kernel
theorem dX0_clearBuffer_10 : decode cX0_clearBuffer 10 = .ok (.iload_n 1, 1) := by decide +kernel
theorem dX0_clearBuffer_11 : decode cX0_clearBuffer 11 = .ok (.i2l, 1) := by decide +kernel
theorem dX0_clearBuffer_12 : decode cX0_clearBuffer 12 = .ok (.lreturn, 1) := by decide +kernel
set_option maxRecDepth 20000 in
theorem ggX0_errorPosition_X0_pointInBuffer : GoodIn wsX0_errorPosition wsX0_pointInBuffer := goodIn_r _ [5, 6, 7, 8, 4, 9, 10, 11, 12, 13, 14, 15, 16, 17, 18, 19, 20, 21, 22, 23, 24, 25, 26, 27, 28, 29, 30, 31, 32, 33, 34, 35, 36, 37, 38, 39, 40, 41, 42, 43, 44, 45, 46, 47, 48, 49, 50, 51, 52, 53, 54, 55, 56, 76, 77, 78, 79, 80, 81, 82, 83, 84, 85, 86, 87] (by decide +kernel) (by decide +kernel)
set_option maxRecDepth 20000 in
theorem gX0_errorPosition_X0_pointInBuffer : GoodIn wsX0_errorPosition (wsV RX0 47 RX0 yX0_pointInBuffer wsX0_pointInBuffer) := goodIn_app (goodIn_of _ (by decide +kernel)) ggX0_errorPosition_X0_pointInBuffer
set_option maxRecDepth 20000 in
theorem ggX0_errorPosition_X0_agreement : GoodIn wsX0_errorPosition wsX0_agreement := goodIn_r _ [9, 10, 11, 12, 13, 14, 4, 15, 16, 17, 18, 19, 20, 21, 22, 23, 24, 25, 26, 27, 28, 29, 30, 31, 32, 33, 34, 35, 36, 37, 38, 39, 40, 41, 42, 43, 44, 45, 46, 47, 48, 49, 50, 51, 52, 53, 54, 55, 56, 76, 77, 78, 79, 80, 81, 82, 83, 84, 85, 86, 87] (by decide +kernel) (by decide +kernel)
set_option maxRecDepth 20000 in
theorem gX0_errorPosition_X0_agreement : GoodIn wsX0_errorPosition (wsV RX0 51 RX0 yX0_agreement wsX0_agreement) := goodIn_app (goodIn_of _ (by decide +kernel)) ggX0_errorPosition_X0_agreement
set_option maxRecDepth 20000 in
theorem ggX0_errorPosition_X0_blankEnds : GoodIn wsX0_errorPosition wsX0_blankEnds := goodIn_r _ [15, 11, 76, 77, 78, 79, 80, 81, 82, 83, 84, 85, 86, 87] (by decide +kernel) (by decide +kernel)
set_option maxRecDepth 20000 in
theorem gX0_errorPosition_X0_blankEnds : GoodIn wsX0_errorPosition (wsV RX0 55 RX0 yX0_blankEnds wsX0_blankEnds) := goodIn_app (goodIn_of _ (by decide +kernel)) ggX0_errorPosition_X0_blankEnds
set_option maxRecDepth 20000 in
theorem ggX0_errorPosition_X0_speedEnd : GoodIn wsX0_errorPosition wsX0_speedEnd := goodIn_r _ [60, 10, 61, 62, 63, 4, 64, 65, 66, 67, 68, 11, 69, 70, 71, 72, 73, 74, 75, 76, 77, 78, 79, 80, 81, 82, 83, 84, 85, 86, 87] (by decide +kernel) (by decide +kernel)
set_option maxRecDepth 20000 in
theorem gX0_errorPosition_X0_speedEnd : GoodIn wsX0_errorPosition (wsV RX0 59 RX0 yX0_speedEnd wsX0_speedEnd) := goodIn_app (goodIn_of _ (by decide +kernel)) ggX0_errorPosition_X0_speedEnd
theorem dX0_errorPosition_0 : decode cX0_errorPosition 0 = .ok (.aload_n 0, 1) := by decide +kernel
theorem dX0_errorPosition_1 : decode cX0_errorPosition 1 = .ok (.aload_n 0, 1) := by decide +kernel
theorem dX0_errorPosition_2 : decode cX0_errorPosition 2 = .ok (.invokevirtual 47, 3) := by decide +kernel
theorem dX0_errorPosition_5 : decode cX0_errorPosition 5 = .ok (.invokevirtual 51, 3) := by decide +kernel
theorem dX0_errorPosition_8 : decode cX0_errorPosition 8 = .ok (.istore_n 1, 1) := by decide +kernel
theorem dX0_errorPosition_9 : decode cX0_errorPosition 9 = .ok (.aload_n 0, 1) := by decide +kernel
theorem dX0_errorPosition_10 : decode cX0_errorPosition 10 = .ok (.iload_n 1, 1) := by decide +kernel
theorem dX0_errorPosition_11 : decode cX0_errorPosition 11 = .ok (.invokevirtual 55, 3) := by decide +kernel
theorem dX0_errorPosition_14 : decode cX0_errorPosition 14 = .ok (.ifCond .eq 12, 3) := by decide +kernel
theorem dX0_errorPosition_17 : decode cX0_errorPosition 17 = .ok (.aload_n 0, 1) := by decide +kernel
theorem dX0_errorPosition_18 : decode cX0_errorPosition 18 = .ok (.iload_n 1, 1) := by decide +kernel
theorem dX0_errorPosition_19 : decode cX0_errorPosition 19 = .ok (.invokevirtual 59, 3) := by decide +kernel
theorem dX0_errorPosition_22 : decode cX0_errorPosition 22 = .ok (.i2l, 1) := by decide +kernel
theorem dX0_errorPosition_23 : decode cX0_errorPosition 23 = .ok (.goto 5, 3) := by decide +kernel
theorem dX0_errorPosition_26 : decode cX0_errorPosition 26 = .ok (.iload_n 1, 1) := by decide +kernel
theorem dX0_errorPosition_27 : decode cX0_errorPosition 27 = .ok (.i2l, 1) := by decide +kernel
theorem dX0_errorPosition_28 : decode cX0_errorPosition 28 = .ok (.lreturn, 1) := by decide +kernel
set_option maxRecDepth 20000 in
theorem ggX0_addFromBuffer_X0_errorPosition : GoodIn wsX0_addFromBuffer wsX0_errorPosition := goodIn_r _ [9, 10, 11, 12, 8, 13, 14, 15, 16, 17, 1, 18, 19, 20, 21, 22, 23, 24, 25, 26, 27, 28, 29, 30, 31, 32, 33, 34, 35, 36, 37, 38, 39, 40, 41, 42, 43, 44, 45, 46, 47, 48, 49, 50, 51, 52, 53, 54, 55, 56, 57, 58, 59, 60, 61, 62, 63, 64, 65, 66, 67, 68, 69, 70, 71, 72, 73, 74, 75, 76, 77, 78, 79, 80, 81, 82, 95, 96, 97, 98, 99, 100, 101, 102, 103, 104, 105, 106] (by decide +kernel) (by decide +kernel)
set_option maxRecDepth 20000 in
theorem gX0_addFromBuffer_X0_errorPosition : GoodIn wsX0_addFromBuffer (wsV RX0 62 RX0 yX0_errorPosition wsX0_errorPosition) := goodIn_app (goodIn_of _ (by decide +kernel)) ggX0_addFromBuffer_X0_errorPosition
set_option maxRecDepth 20000 in
theorem ggX0_addFromBuffer_X0_digitEnds : GoodIn wsX0_addFromBuffer wsX0_digitEnds := goodIn_r _ [75, 18, 76, 77, 8, 78, 95, 96, 97, 98, 99, 100, 101, 102, 103, 104, 105, 106] (by decide +kernel) (by decide +kernel)
set_option maxRecDepth 20000 in
theorem gX0_addFromBuffer_X0_digitEnds : GoodIn wsX0_addFromBuffer (wsV RX0 66 RX0 yX0_digitEnds wsX0_digitEnds) := goodIn_app (goodIn_of _ (by decide +kernel)) ggX0_addFromBuffer_X0_digitEnds
set_option maxRecDepth 20000 in
theorem ggX0_addFromBuffer_X0_pointInBuffer : GoodIn wsX0_addFromBuffer wsX0_pointInBuffer := goodIn_r _ [13, 14, 15, 16, 8, 17, 1, 18, 19, 20, 21, 22, 23, 24, 25, 26, 27, 28, 29, 30, 31, 32, 33, 34, 35, 36, 37, 38, 39, 40, 41, 42, 43, 44, 45, 46, 47, 48, 49, 50, 51, 52, 53, 54, 55, 56, 57, 58, 59, 60, 61, 62, 63, 95, 96, 97, 98, 99, 100, 101, 102, 103, 104, 105, 106] (by decide +kernel) (by decide +kernel)
set_option maxRecDepth 20000 in
theorem gX0_addFromBuffer_X0_pointInBuffer : GoodIn wsX0_addFromBuffer (wsV RX0 47 RX0 yX0_pointInBuffer wsX0_pointInBuffer) := goodIn_app (goodIn_of _ (by decide +kernel)) ggX0_addFromBuffer_X0_pointInBuffer
set_option maxRecDepth 20000 in
theorem ggX0_addFromBuffer_X0_agreement : GoodIn wsX0_addFromBuffer wsX0_agreement := goodIn_r _ [17, 1, 18, 19, 20, 21, 8, 22, 23, 24, 25, 26, 27, 28, 29, 30, 31, 32, 33, 34, 35, 36, 37, 38, 39, 40, 41, 42, 43, 44, 45, 46, 47, 48, 49, 50, 51, 52, 53, 54, 55, 56, 57, 58, 59, 60, 61, 62, 63, 95, 96, 97, 98, 99, 100, 101, 102, 103, 104, 105, 106] (by decide +kernel) (by decide +kernel)
set_option maxRecDepth 20000 in
theorem gX0_addFromBuffer_X0_agreement : GoodIn wsX0_addFromBuffer (wsV RX0 51 RX0 yX0_agreement wsX0_agreement) := goodIn_app (goodIn_of _ (by decide +kernel)) ggX0_addFromBuffer_X0_agreement
set_option maxRecDepth 20000 in
theorem ggX0_addFromBuffer_X0_number : GoodIn wsX0_addFromBuffer wsX0_number := goodIn_r _ [82, 18, 95, 96, 97, 98, 99, 100, 101, 102, 103, 104, 105, 106] (by decide +kernel) (by decide +kernel)
set_option maxRecDepth 20000 in
theorem gX0_addFromBuffer_X0_number : GoodIn wsX0_addFromBuffer (wsV RX0 74 RX0 yX0_number wsX0_number) := goodIn_app (goodIn_of _ (by decide +kernel)) ggX0_addFromBuffer_X0_number
set_option maxRecDepth 20000 in
theorem ggX0_addFromBuffer_X0_putBehindLast : GoodIn wsX0_addFromBuffer wsX0_putBehindLast := goodIn_r _ [86, 3, 87, 88, 89, 90, 8, 91, 92, 93, 94, 95, 96, 97, 98, 99, 100, 101, 102, 103, 104, 105, 106] (by decide +kernel) (by decide +kernel)
set_option maxRecDepth 20000 in
theorem gX0_addFromBuffer_X0_putBehindLast : GoodIn wsX0_addFromBuffer (wsV RX0 78 RX0 yX0_putBehindLast wsX0_putBehindLast) := goodIn_app (goodIn_of _ (by decide +kernel)) ggX0_addFromBuffer_X0_putBehindLast
theorem dX0_addFromBuffer_0 : decode cX0_addFromBuffer 0 = .ok (.aload_n 0, 1) := by decide +kernel
theorem dX0_addFromBuffer_1 : decode cX0_addFromBuffer 1 = .ok (.invokevirtual 62, 3) := by decide +kernel
theorem dX0_addFromBuffer_4 : decode cX0_addFromBuffer 4 = .ok (.aload_n 0, 1) := by decide +kernel
theorem dX0_addFromBuffer_5 : decode cX0_addFromBuffer 5 = .ok (.getfield 41, 3) := by decide +kernel
theorem dX0_addFromBuffer_8 : decode cX0_addFromBuffer 8 = .ok (.i2l, 1) := by decide +kernel
theorem dX0_addFromBuffer_9 : decode cX0_addFromBuffer 9 = .ok (.lcmp, 1) := by decide +kernel
theorem dX0_addFromBuffer_10 : decode cX0_addFromBuffer 10 = .ok (.ifCond .ne 14, 3) := by decide +kernel
theorem dX0_addFromBuffer_13 : decode cX0_addFromBuffer 13 = .ok (.aload_n 0, 1) := by decide +kernel
theorem dX0_addFromBuffer_14 : decode cX0_addFromBuffer 14 = .ok (.aload_n 0, 1) := by decide +kernel
theorem dX0_addFromBuffer_15 : decode cX0_addFromBuffer 15 = .ok (.getfield 41, 3) := by decide +kernel
theorem dX0_addFromBuffer_18 : decode cX0_addFromBuffer 18 = .ok (.invokevirtual 66, 3) := by decide +kernel
theorem dX0_addFromBuffer_21 : decode cX0_addFromBuffer 21 = .ok (.ifCond .ne 7, 3) := by decide +kernel
theorem dX0_addFromBuffer_24 : decode cX0_addFromBuffer 24 = .ok (.ldc2_w 69, 3) := by decide +kernel
theorem dX0_addFromBuffer_27 : decode cX0_addFromBuffer 27 = .ok (.lreturn, 1) := by decide +kernel
theorem dX0_addFromBuffer_28 : decode cX0_addFromBuffer 28 = .ok (.aload_n 0, 1) := by decide +kernel
theorem dX0_addFromBuffer_29 : decode cX0_addFromBuffer 29 = .ok (.getfield 71, 3) := by decide +kernel
theorem dX0_addFromBuffer_32 : decode cX0_addFromBuffer 32 = .ok (.bipush 48, 2) := by decide +kernel
theorem dX0_addFromBuffer_34 : decode cX0_addFromBuffer 34 = .ok (.if_icmp .lt 7, 3) := by decide +kernel
theorem dX0_addFromBuffer_37 : decode cX0_addFromBuffer 37 = .ok (.ldc2_w 45, 3) := by decide +kernel
theorem dX0_addFromBuffer_40 : decode cX0_addFromBuffer 40 = .ok (.lreturn, 1) := by decide +kernel
theorem dX0_addFromBuffer_41 : decode cX0_addFromBuffer 41 = .ok (.aload_n 0, 1) := by decide +kernel
theorem dX0_addFromBuffer_42 : decode cX0_addFromBuffer 42 = .ok (.invokevirtual 47, 3) := by decide +kernel
theorem dX0_addFromBuffer_45 : decode cX0_addFromBuffer 45 = .ok (.istore_n 1, 1) := by decide +kernel
theorem dX0_addFromBuffer_46 : decode cX0_addFromBuffer 46 = .ok (.aload_n 0, 1) := by decide +kernel
theorem dX0_addFromBuffer_47 : decode cX0_addFromBuffer 47 = .ok (.aload_n 0, 1) := by decide +kernel
theorem dX0_addFromBuffer_48 : decode cX0_addFromBuffer 48 = .ok (.iload_n 1, 1) := by decide +kernel
theorem dX0_addFromBuffer_49 : decode cX0_addFromBuffer 49 = .ok (.invokevirtual 51, 3) := by decide +kernel
theorem dX0_addFromBuffer_52 : decode cX0_addFromBuffer 52 = .ok (.aload_n 0, 1) := by decide +kernel
theorem dX0_addFromBuffer_53 : decode cX0_addFromBuffer 53 = .ok (.getfield 41, 3) := by decide +kernel
theorem dX0_addFromBuffer_56 : decode cX0_addFromBuffer 56 = .ok (.invokevirtual 74, 3) := by decide +kernel
theorem dX0_addFromBuffer_59 : decode cX0_addFromBuffer 59 = .ok (.istore_n 2, 1) := by decide +kernel
theorem dX0_addFromBuffer_60 : decode cX0_addFromBuffer 60 = .ok (.aload_n 0, 1) := by decide +kernel
theorem dX0_addFromBuffer_61 : decode cX0_addFromBuffer 61 = .ok (.iconst 0, 1) := by decide +kernel
theorem dX0_addFromBuffer_62 : decode cX0_addFromBuffer 62 = .ok (.putfield 41, 3) := by decide +kernel
theorem dX0_addFromBuffer_65 : decode cX0_addFromBuffer 65 = .ok (.aload_n 0, 1) := by decide +kernel
theorem dX0_addFromBuffer_66 : decode cX0_addFromBuffer 66 = .ok (.iload_n 1, 1) := by decide +kernel
theorem dX0_addFromBuffer_67 : decode cX0_addFromBuffer 67 = .ok (.iload_n 2, 1) := by decide +kernel
theorem dX0_addFromBuffer_68 : decode cX0_addFromBuffer 68 = .ok (.invokevirtual 78, 3) := by decide +kernel
theorem dX0_addFromBuffer_71 : decode cX0_addFromBuffer 71 = .ok (.i2l, 1) := by decide +kernel
theorem dX0_addFromBuffer_72 : decode cX0_addFromBuffer 72 = .ok (.lreturn, 1) := by decide +kernel
set_option maxRecDepth 20000 in
theorem ggX0_pointInBuffer_X0_agreement : GoodIn wsX0_pointInBuffer wsX0_agreement := goodIn_r _ [5, 6, 7, 8, 9, 10, 4, 11, 12, 13, 14, 15, 16, 17, 18, 19, 20, 21, 22, 23, 24, 25, 26, 27, 28, 29, 30, 31, 32, 33, 34, 35, 36, 37, 38, 39, 40, 41, 42, 43, 44, 45, 46, 47, 48, 49, 50, 51, 52, 53, 54, 55, 56, 57, 58, 59, 60, 61, 62, 63, 64] (by decide +kernel) (by decide +kernel)
set_option maxRecDepth 20000 in
theorem gX0_pointInBuffer_X0_agreement : GoodIn wsX0_pointInBuffer (wsV RX0 51 RX0 yX0_agreement wsX0_agreement) := goodIn_app (goodIn_of _ (by decide +kernel)) ggX0_pointInBuffer_X0_agreement
theorem dX0_pointInBuffer_0 : decode cX0_pointInBuffer 0 = .ok (.iconst 0, 1) := by decide +kernel
theorem dX0_pointInBuffer_1 : decode cX0_pointInBuffer 1 = .ok (.istore_n 1, 1) := by decide +kernel
theorem dX0_pointInBuffer_2 : decode cX0_pointInBuffer 2 = .ok (.iconst 1, 1) := by decide +kernel
theorem dX0_pointInBuffer_3 : decode cX0_pointInBuffer 3 = .ok (.istore_n 2, 1) := by decide +kernel
theorem dX0_pointInBuffer_4 : decode cX0_pointInBuffer 4 = .ok (.iload_n 2, 1) := by decide +kernel
theorem dX0_pointInBuffer_5 : decode cX0_pointInBuffer 5 = .ok (.bipush 32, 2) := by decide +kernel
theorem dX0_pointInBuffer_7 : decode cX0_pointInBuffer 7 = .ok (.if_icmp .ge 24, 3) := by decide +kernel
theorem dX0_pointInBuffer_10 : decode cX0_pointInBuffer 10 = .ok (.aload_n 0, 1) := by decide +kernel
theorem dX0_pointInBuffer_11 : decode cX0_pointInBuffer 11 = .ok (.iload_n 2, 1) := by decide +kernel
theorem dX0_pointInBuffer_12 : decode cX0_pointInBuffer 12 = .ok (.invokevirtual 51, 3) := by decide +kernel
theorem dX0_pointInBuffer_15 : decode cX0_pointInBuffer 15 = .ok (.aload_n 0, 1) := by decide +kernel
theorem dX0_pointInBuffer_16 : decode cX0_pointInBuffer 16 = .ok (.iload_n 1, 1) := by decide +kernel
theorem dX0_pointInBuffer_17 : decode cX0_pointInBuffer 17 = .ok (.invokevirtual 51, 3) := by decide +kernel
theorem dX0_pointInBuffer_20 : decode cX0_pointInBuffer 20 = .ok (.if_icmp .le 5, 3) := by decide +kernel
theorem dX0_pointInBuffer_23 : decode cX0_pointInBuffer 23 = .ok (.iload_n 2, 1) := by decide +kernel
theorem dX0_pointInBuffer_24 : decode cX0_pointInBuffer 24 = .ok (.istore_n 1, 1) := by decide +kernel
theorem dX0_pointInBuffer_25 : decode cX0_pointInBuffer 25 = .ok (.iinc 2 1, 3) := by decide +kernel
theorem dX0_pointInBuffer_28 : decode cX0_pointInBuffer 28 = .ok (.goto (-24), 3) := by decide +kernel
theorem dX0_pointInBuffer_31 : decode cX0_pointInBuffer 31 = .ok (.iload_n 1, 1) := by decide +kernel
theorem dX0_pointInBuffer_32 : decode cX0_pointInBuffer 32 = .ok (.ireturn, 1) := by decide +kernel
set_option maxRecDepth 20000 in
theorem ggX0_agreement_X0_blankEnds : GoodIn wsX0_agreement wsX0_blankEnds := goodIn_r _ [7, 2, 49, 50, 51, 52, 53, 54, 55, 56, 57, 58, 59, 60] (by decide +kernel) (by decide +kernel)
set_option maxRecDepth 20000 in
theorem gX0_agreement_X0_blankEnds : GoodIn wsX0_agreement (wsV RX0 55 RX0 yX0_blankEnds wsX0_blankEnds) := goodIn_app (goodIn_of _ (by decide +kernel)) ggX0_agreement_X0_blankEnds
set_option maxRecDepth 20000 in
theorem ggX0_agreement_J0_charAt_5068e : GoodIn wsX0_agreement wsJ0_charAt_5068e := goodIn_r _ [12, 13, 14, 15, 16, 11, 17, 18, 19, 20, 21, 22, 23, 24, 25, 26, 27, 28, 29, 30, 31, 32, 33, 34, 35, 36, 37, 38, 39, 40, 41, 42, 43, 44, 45, 46, 47, 48] (by decide +kernel) (by decide +kernel)
set_option maxRecDepth 20000 in
theorem gX0_agreement_J0_charAt_5068e : GoodIn wsX0_agreement (wsV RX0 83 RJ0 yJ0_charAt_5068e wsJ0_charAt_5068e) := goodIn_app (goodIn_of _ (by decide +kernel)) ggX0_agreement_J0_charAt_5068e
theorem dX0_agreement_0 : decode cX0_agreement 0 = .ok (.iconst 0, 1) := by decide +kernel
theorem dX0_agreement_1 : decode cX0_agreement 1 = .ok (.istore_n 2, 1) := by decide +kernel
theorem dX0_agreement_2 : decode cX0_agreement 2 = .ok (.iload_n 2, 1) := by decide +kernel
theorem dX0_agreement_3 : decode cX0_agreement 3 = .ok (.aload_n 0, 1) := by decide +kernel
theorem dX0_agreement_4 : decode cX0_agreement 4 = .ok (.getfield 41, 3) := by decide +kernel
theorem dX0_agreement_7 : decode cX0_agreement 7 = .ok (.if_icmp .ge 41, 3) := by decide +kernel
theorem dX0_agreement_10 : decode cX0_agreement 10 = .ok (.iload_n 2, 1) := by decide +kernel
theorem dX0_agreement_11 : decode cX0_agreement 11 = .ok (.iconst 5, 1) := by decide +kernel
theorem dX0_agreement_12 : decode cX0_agreement 12 = .ok (.if_icmp .ge 36, 3) := by decide +kernel
theorem dX0_agreement_15 : decode cX0_agreement 15 = .ok (.aload_n 0, 1) := by decide +kernel
theorem dX0_agreement_16 : decode cX0_agreement 16 = .ok (.iload_n 2, 1) := by decide +kernel
theorem dX0_agreement_17 : decode cX0_agreement 17 = .ok (.invokevirtual 55, 3) := by decide +kernel
theorem dX0_agreement_20 : decode cX0_agreement 20 = .ok (.ifCond .ne 28, 3) := by decide +kernel
theorem dX0_agreement_23 : decode cX0_agreement 23 = .ok (.aload_n 0, 1) := by decide +kernel
theorem dX0_agreement_24 : decode cX0_agreement 24 = .ok (.getfield 9, 3) := by decide +kernel
theorem dX0_agreement_27 : decode cX0_agreement 27 = .ok (.iload_n 2, 1) := by decide +kernel
theorem dX0_agreement_28 : decode cX0_agreement 28 = .ok (.iaload, 1) := by decide +kernel
theorem dX0_agreement_29 : decode cX0_agreement 29 = .ok (.ldc 81, 2) := by decide +kernel
theorem dX0_agreement_31 : decode cX0_agreement 31 = .ok (.iconst 5, 1) := by decide +kernel
theorem dX0_agreement_32 : decode cX0_agreement 32 = .ok (.iload_n 1, 1) := by decide +kernel
theorem dX0_agreement_33 : decode cX0_agreement 33 = .ok (.imul, 1) := by decide +kernel
theorem dX0_agreement_34 : decode cX0_agreement 34 = .ok (.iload_n 2, 1) := by decide +kernel
theorem dX0_agreement_35 : decode cX0_agreement 35 = .ok (.iadd, 1) := by decide +kernel
theorem dX0_agreement_36 : decode cX0_agreement 36 = .ok (.invokevirtual 83, 3) := by decide +kernel
theorem dX0_agreement_39 : decode cX0_agreement 39 = .ok (.if_icmp .ne 9, 3) := by decide +kernel
theorem dX0_agreement_42 : decode cX0_agreement 42 = .ok (.iinc 2 1, 3) := by decide +kernel
theorem dX0_agreement_45 : decode cX0_agreement 45 = .ok (.goto (-43), 3) := by decide +kernel
theorem dX0_agreement_48 : decode cX0_agreement 48 = .ok (.iload_n 2, 1) := by decide +kernel
theorem dX0_agreement_49 : decode cX0_agreement 49 = .ok (.ireturn, 1) := by decide +kernel
set_option maxRecDepth 20000 in
theorem ggX0_speedEnd_X0_digitAllowed : GoodIn wsX0_speedEnd wsX0_digitAllowed := goodIn_r _ [6, 7, 8, 9, 5, 10, 11, 12, 13, 14, 15, 16, 17, 18, 19, 20, 21, 22, 23, 24, 25, 26, 27, 28, 29, 30] (by decide +kernel) (by decide +kernel)
set_option maxRecDepth 20000 in
theorem gX0_speedEnd_X0_digitAllowed : GoodIn wsX0_speedEnd (wsV RX0 89 RX0 yX0_digitAllowed wsX0_digitAllowed) := goodIn_app (goodIn_of _ (by decide +kernel)) ggX0_speedEnd_X0_digitAllowed
theorem dX0_speedEnd_0 : decode cX0_speedEnd 0 = .ok (.iload_n 1, 1) := by decide +kernel
theorem dX0_speedEnd_1 : decode cX0_speedEnd 1 = .ok (.istore_n 2, 1) := by decide +kernel
theorem dX0_speedEnd_2 : decode cX0_speedEnd 2 = .ok (.iload_n 2, 1) := by decide +kernel
theorem dX0_speedEnd_3 : decode cX0_speedEnd 3 = .ok (.aload_n 0, 1) := by decide +kernel
theorem dX0_speedEnd_4 : decode cX0_speedEnd 4 = .ok (.getfield 41, 3) := by decide +kernel
theorem dX0_speedEnd_7 : decode cX0_speedEnd 7 = .ok (.if_icmp .ge 18, 3) := by decide +kernel
theorem dX0_speedEnd_10 : decode cX0_speedEnd 10 = .ok (.aload_n 0, 1) := by decide +kernel
theorem dX0_speedEnd_11 : decode cX0_speedEnd 11 = .ok (.iload_n 1, 1) := by decide +kernel
theorem dX0_speedEnd_12 : decode cX0_speedEnd 12 = .ok (.iload_n 2, 1) := by decide +kernel
theorem dX0_speedEnd_13 : decode cX0_speedEnd 13 = .ok (.invokevirtual 89, 3) := by decide +kernel
theorem dX0_speedEnd_16 : decode cX0_speedEnd 16 = .ok (.ifCond .eq 9, 3) := by decide +kernel
theorem dX0_speedEnd_19 : decode cX0_speedEnd 19 = .ok (.iinc 2 1, 3) := by decide +kernel
theorem dX0_speedEnd_22 : decode cX0_speedEnd 22 = .ok (.goto (-20), 3) := by decide +kernel
theorem dX0_speedEnd_25 : decode cX0_speedEnd 25 = .ok (.iload_n 2, 1) := by decide +kernel
theorem dX0_speedEnd_26 : decode cX0_speedEnd 26 = .ok (.ireturn, 1) := by decide +kernel
set_option maxRecDepth 20000 in
theorem ggX0_digitAllowed_X0_digitEnds : GoodIn wsX0_digitAllowed wsX0_digitEnds := goodIn_r _ [5, 6, 7, 8, 4, 9, 14, 15, 16, 17, 18, 19, 20, 21, 22, 23, 24, 25] (by decide +kernel) (by decide +kernel)
set_option maxRecDepth 20000 in
theorem gX0_digitAllowed_X0_digitEnds : GoodIn wsX0_digitAllowed (wsV RX0 66 RX0 yX0_digitEnds wsX0_digitEnds) := goodIn_app (goodIn_of _ (by decide +kernel)) ggX0_digitAllowed_X0_digitEnds
set_option maxRecDepth 20000 in
theorem ggX0_digitAllowed_X0_number : GoodIn wsX0_digitAllowed wsX0_number := goodIn_r _ [13, 6, 14, 15, 16, 17, 18, 19, 20, 21, 22, 23, 24, 25] (by decide +kernel) (by decide +kernel)
set_option maxRecDepth 20000 in
theorem gX0_digitAllowed_X0_number : GoodIn wsX0_digitAllowed (wsV RX0 74 RX0 yX0_number wsX0_number) := goodIn_app (goodIn_of _ (by decide +kernel)) ggX0_digitAllowed_X0_number
theorem dX0_digitAllowed_0 : decode cX0_digitAllowed 0 = .ok (.aload_n 0, 1) := by decide +kernel
theorem dX0_digitAllowed_1 : decode cX0_digitAllowed 1 = .ok (.iload_n 2, 1) := by decide +kernel
theorem dX0_digitAllowed_2 : decode cX0_digitAllowed 2 = .ok (.iconst 1, 1) := by decide +kernel
theorem dX0_digitAllowed_3 : decode cX0_digitAllowed 3 = .ok (.iadd, 1) := by decide +kernel
theorem dX0_digitAllowed_4 : decode cX0_digitAllowed 4 = .ok (.invokevirtual 66, 3) := by decide +kernel
theorem dX0_digitAllowed_7 : decode cX0_digitAllowed 7 = .ok (.ifCond .ne 5, 3) := by decide +kernel
theorem dX0_digitAllowed_10 : decode cX0_digitAllowed 10 = .ok (.iconst 0, 1) := by decide +kernel
theorem dX0_digitAllowed_11 : decode cX0_digitAllowed 11 = .ok (.ireturn, 1) := by decide +kernel
theorem dX0_digitAllowed_12 : decode cX0_digitAllowed 12 = .ok (.iload_n 2, 1) := by decide +kernel
theorem dX0_digitAllowed_13 : decode cX0_digitAllowed 13 = .ok (.iload_n 1, 1) := by decide +kernel
theorem dX0_digitAllowed_14 : decode cX0_digitAllowed 14 = .ok (.if_icmp .eq 26, 3) := by decide +kernel
theorem dX0_digitAllowed_17 : decode cX0_digitAllowed 17 = .ok (.aload_n 0, 1) := by decide +kernel
theorem dX0_digitAllowed_18 : decode cX0_digitAllowed 18 = .ok (.iload_n 1, 1) := by decide +kernel
theorem dX0_digitAllowed_19 : decode cX0_digitAllowed 19 = .ok (.iload_n 2, 1) := by decide +kernel
theorem dX0_digitAllowed_20 : decode cX0_digitAllowed 20 = .ok (.invokevirtual 74, 3) := by decide +kernel
theorem dX0_digitAllowed_23 : decode cX0_digitAllowed 23 = .ok (.ifCond .eq 21, 3) := by decide +kernel
theorem dX0_digitAllowed_26 : decode cX0_digitAllowed 26 = .ok (.aload_n 0, 1) := by decide +kernel
theorem dX0_digitAllowed_27 : decode cX0_digitAllowed 27 = .ok (.iload_n 1, 1) := by decide +kernel
theorem dX0_digitAllowed_28 : decode cX0_digitAllowed 28 = .ok (.iload_n 2, 1) := by decide +kernel
theorem dX0_digitAllowed_29 : decode cX0_digitAllowed 29 = .ok (.iconst 1, 1) := by decide +kernel
theorem dX0_digitAllowed_30 : decode cX0_digitAllowed 30 = .ok (.iadd, 1) := by decide +kernel
theorem dX0_digitAllowed_31 : decode cX0_digitAllowed 31 = .ok (.invokevirtual 74, 3) := by decide +kernel
theorem dX0_digitAllowed_34 : decode cX0_digitAllowed 34 = .ok (.sipush 200, 3) := by decide +kernel
theorem dX0_digitAllowed_37 : decode cX0_digitAllowed 37 = .ok (.if_icmp .gt 7, 3) := by decide +kernel
theorem dX0_digitAllowed_40 : decode cX0_digitAllowed 40 = .ok (.iconst 1, 1) := by decide +kernel
theorem dX0_digitAllowed_41 : decode cX0_digitAllowed 41 = .ok (.goto 4, 3) := by decide +kernel
theorem dX0_digitAllowed_44 : decode cX0_digitAllowed 44 = .ok (.iconst 0, 1) := by decide +kernel
theorem dX0_digitAllowed_45 : decode cX0_digitAllowed 45 = .ok (.ireturn, 1) := by decide +kernel
theorem dX0_number_0 : decode cX0_number 0 = .ok (.iconst 0, 1) := by decide +kernel
theorem dX0_number_1 : decode cX0_number 1 = .ok (.istore_n 3, 1) := by decide +kernel
theorem dX0_number_2 : decode cX0_number 2 = .ok (.iload_n 1, 1) := by decide +kernel
theorem dX0_number_3 : decode cX0_number 3 = .ok (.istore 4, 2) := by decide +kernel
theorem dX0_number_5 : decode cX0_number 5 = .ok (.iload 4, 2) := by decide +kernel
theorem dX0_number_7 : decode cX0_number 7 = .ok (.iload_n 2, 1) := by decide +kernel
theorem dX0_number_8 : decode cX0_number 8 = .ok (.if_icmp .ge 25, 3) := by decide +kernel
theorem dX0_number_11 : decode cX0_number 11 = .ok (.bipush 10, 2) := by decide +kernel
theorem dX0_number_13 : decode cX0_number 13 = .ok (.iload_n 3, 1) := by decide +kernel
theorem dX0_number_14 : decode cX0_number 14 = .ok (.imul, 1) := by decide +kernel
theorem dX0_number_15 : decode cX0_number 15 = .ok (.aload_n 0, 1) := by decide +kernel
theorem dX0_number_16 : decode cX0_number 16 = .ok (.getfield 9, 3) := by decide +kernel
theorem dX0_number_19 : decode cX0_number 19 = .ok (.iload 4, 2) := by decide +kernel
theorem dX0_number_21 : decode cX0_number 21 = .ok (.iaload, 1) := by decide +kernel
theorem dX0_number_22 : decode cX0_number 22 = .ok (.iadd, 1) := by decide +kernel
theorem dX0_number_23 : decode cX0_number 23 = .ok (.bipush 48, 2) := by decide +kernel
theorem dX0_number_25 : decode cX0_number 25 = .ok (.isub, 1) := by decide +kernel
theorem dX0_number_26 : decode cX0_number 26 = .ok (.istore_n 3, 1) := by decide +kernel
theorem dX0_number_27 : decode cX0_number 27 = .ok (.iinc 4 1, 3) := by decide +kernel
theorem dX0_number_30 : decode cX0_number 30 = .ok (.goto (-25), 3) := by decide +kernel
theorem dX0_number_33 : decode cX0_number 33 = .ok (.iload_n 3, 1) := by decide +kernel
theorem dX0_number_34 : decode cX0_number 34 = .ok (.ireturn, 1) := by decide +kernel
theorem dX0_blankEnds_0 : decode cX0_blankEnds 0 = .ok (.iload_n 1, 1) := by decide +kernel
theorem dX0_blankEnds_1 : decode cX0_blankEnds 1 = .ok (.ifCond .le 20, 3) := by decide +kernel
theorem dX0_blankEnds_4 : decode cX0_blankEnds 4 = .ok (.aload_n 0, 1) := by decide +kernel
theorem dX0_blankEnds_5 : decode cX0_blankEnds 5 = .ok (.getfield 9, 3) := by decide +kernel
theorem dX0_blankEnds_8 : decode cX0_blankEnds 8 = .ok (.iload_n 1, 1) := by decide +kernel
theorem dX0_blankEnds_9 : decode cX0_blankEnds 9 = .ok (.iconst 1, 1) := by decide +kernel
theorem dX0_blankEnds_10 : decode cX0_blankEnds 10 = .ok (.isub, 1) := by decide +kernel
theorem dX0_blankEnds_11 : decode cX0_blankEnds 11 = .ok (.iaload, 1) := by decide +kernel
theorem dX0_blankEnds_12 : decode cX0_blankEnds 12 = .ok (.bipush 32, 2) := by decide +kernel
theorem dX0_blankEnds_14 : decode cX0_blankEnds 14 = .ok (.if_icmp .ne 7, 3) := by decide +kernel
theorem dX0_blankEnds_17 : decode cX0_blankEnds 17 = .ok (.iconst 1, 1) := by decide +kernel
theorem dX0_blankEnds_18 : decode cX0_blankEnds 18 = .ok (.goto 4, 3) := by decide +kernel
theorem dX0_blankEnds_21 : decode cX0_blankEnds 21 = .ok (.iconst 0, 1) := by decide +kernel
theorem dX0_blankEnds_22 : decode cX0_blankEnds 22 = .ok (.ireturn, 1) := by decide +kernel
set_option maxRecDepth 20000 in
theorem ggX0_digitEnds_X0_inRange : GoodIn wsX0_digitEnds wsX0_inRange := goodIn_r _ [5] (by decide +kernel) (by decide +kernel)
set_option maxRecDepth 20000 in
theorem gX0_digitEnds_X0_inRange : GoodIn wsX0_digitEnds (va_wsS RX0 35 yX0_inRange wsX0_inRange) := goodIn_app (goodIn_of _ (by decide +kernel)) ggX0_digitEnds_X0_inRange
theorem dX0_digitEnds_0 : decode cX0_digitEnds 0 = .ok (.iload_n 1, 1) := by decide +kernel
theorem dX0_digitEnds_1 : decode cX0_digitEnds 1 = .ok (.ifCond .le 25, 3) := by decide +kernel
theorem dX0_digitEnds_4 : decode cX0_digitEnds 4 = .ok (.aload_n 0, 1) := by decide +kernel
theorem dX0_digitEnds_5 : decode cX0_digitEnds 5 = .ok (.getfield 9, 3) := by decide +kernel
theorem dX0_digitEnds_8 : decode cX0_digitEnds 8 = .ok (.iload_n 1, 1) := by decide +kernel
theorem dX0_digitEnds_9 : decode cX0_digitEnds 9 = .ok (.iconst 1, 1) := by decide +kernel
theorem dX0_digitEnds_10 : decode cX0_digitEnds 10 = .ok (.isub, 1) := by decide +kernel
theorem dX0_digitEnds_11 : decode cX0_digitEnds 11 = .ok (.iaload, 1) := by decide +kernel
theorem dX0_digitEnds_12 : decode cX0_digitEnds 12 = .ok (.bipush 48, 2) := by decide +kernel
theorem dX0_digitEnds_14 : decode cX0_digitEnds 14 = .ok (.bipush 57, 2) := by decide +kernel
theorem dX0_digitEnds_16 : decode cX0_digitEnds 16 = .ok (.invokestatic 35, 3) := by decide +kernel
theorem dX0_digitEnds_19 : decode cX0_digitEnds 19 = .ok (.ifCond .eq 7, 3) := by decide +kernel
theorem dX0_digitEnds_22 : decode cX0_digitEnds 22 = .ok (.iconst 1, 1) := by decide +kernel
theorem dX0_digitEnds_23 : decode cX0_digitEnds 23 = .ok (.goto 4, 3) := by decide +kernel
theorem dX0_digitEnds_26 : decode cX0_digitEnds 26 = .ok (.iconst 0, 1) := by decide +kernel
theorem dX0_digitEnds_27 : decode cX0_digitEnds 27 = .ok (.ireturn, 1) := by decide +kernel
set_option maxRecDepth 20000 in
theorem ggX0_add_X0_isPoint : GoodIn wsX0_add wsX0_isPoint := goodIn_r _ [7, 8, 9, 6, 10] (by decide +kernel) (by decide +kernel)
set_option maxRecDepth 20000 in
theorem gX0_add_X0_isPoint : GoodIn wsX0_add (va_wsS RX0 93 yX0_isPoint wsX0_isPoint) := goodIn_app (goodIn_of _ (by decide +kernel)) ggX0_add_X0_isPoint
set_option maxRecDepth 20000 in
theorem ggX0_add_X0_isSpeed : GoodIn wsX0_add wsX0_isSpeed := goodIn_r _ [13, 8, 9, 6, 10] (by decide +kernel) (by decide +kernel)
set_option maxRecDepth 20000 in
theorem gX0_add_X0_isSpeed : GoodIn wsX0_add (va_wsS RX0 96 yX0_isSpeed wsX0_isSpeed) := goodIn_app (goodIn_of _ (by decide +kernel)) ggX0_add_X0_isSpeed
set_option maxRecDepth 20000 in
theorem ggX0_add_X0_putBehindLast : GoodIn wsX0_add wsX0_putBehindLast := goodIn_r _ [17, 2, 18, 19, 20, 21, 6, 22, 23, 24, 25, 26, 27, 28, 29, 30, 31, 32, 33, 34, 35, 36, 37] (by decide +kernel) (by decide +kernel)
set_option maxRecDepth 20000 in
theorem gX0_add_X0_putBehindLast : GoodIn wsX0_add (wsV RX0 78 RX0 yX0_putBehindLast wsX0_putBehindLast) := goodIn_app (goodIn_of _ (by decide +kernel)) ggX0_add_X0_putBehindLast
theorem dX0_add_0 : decode cX0_add 0 = .ok (.iload_n 1, 1) := by decide +kernel
theorem dX0_add_1 : decode cX0_add 1 = .ok (.invokestatic 93, 3) := by decide +kernel
theorem dX0_add_4 : decode cX0_add 4 = .ok (.ifCond .eq 10, 3) := by decide +kernel
theorem dX0_add_7 : decode cX0_add 7 = .ok (.iload_n 2, 1) := by decide +kernel
theorem dX0_add_8 : decode cX0_add 8 = .ok (.invokestatic 96, 3) := by decide +kernel
theorem dX0_add_11 : decode cX0_add 11 = .ok (.ifCond .ne 7, 3) := by decide +kernel
theorem dX0_add_14 : decode cX0_add 14 = .ok (.ldc2_w 39, 3) := by decide +kernel
theorem dX0_add_17 : decode cX0_add 17 = .ok (.lreturn, 1) := by decide +kernel
theorem dX0_add_18 : decode cX0_add 18 = .ok (.aload_n 0, 1) := by decide +kernel
theorem dX0_add_19 : decode cX0_add 19 = .ok (.getfield 71, 3) := by decide +kernel
theorem dX0_add_22 : decode cX0_add 22 = .ok (.bipush 48, 2) := by decide +kernel
theorem dX0_add_24 : decode cX0_add 24 = .ok (.if_icmp .lt 7, 3) := by decide +kernel
theorem dX0_add_27 : decode cX0_add 27 = .ok (.ldc2_w 45, 3) := by decide +kernel
theorem dX0_add_30 : decode cX0_add 30 = .ok (.lreturn, 1) := by decide +kernel
theorem dX0_add_31 : decode cX0_add 31 = .ok (.aload_n 0, 1) := by decide +kernel
theorem dX0_add_32 : decode cX0_add 32 = .ok (.iload_n 1, 1) := by decide +kernel
theorem dX0_add_33 : decode cX0_add 33 = .ok (.iload_n 2, 1) := by decide +kernel
theorem dX0_add_34 : decode cX0_add 34 = .ok (.invokevirtual 78, 3) := by decide +kernel
theorem dX0_add_37 : decode cX0_add 37 = .ok (.i2l, 1) := by decide +kernel
theorem dX0_add_38 : decode cX0_add 38 = .ok (.lreturn, 1) := by decide +kernel
set_option maxRecDepth 20000 in
theorem ggX0_replace_X0_pegExists : GoodIn wsX0_replace wsX0_pegExists := goodIn_r _ [8, 9, 10, 11, 7, 12, 25, 26, 27, 28, 29, 30, 31, 32, 33, 34, 35, 36] (by decide +kernel) (by decide +kernel)
set_option maxRecDepth 20000 in
theorem gX0_replace_X0_pegExists : GoodIn wsX0_replace (wsV RX0 99 RX0 yX0_pegExists wsX0_pegExists) := goodIn_app (goodIn_of _ (by decide +kernel)) ggX0_replace_X0_pegExists
set_option maxRecDepth 20000 in
theorem ggX0_replace_X0_isPoint : GoodIn wsX0_replace wsX0_isPoint := goodIn_r _ [15, 10, 11, 7, 12] (by decide +kernel) (by decide +kernel)
set_option maxRecDepth 20000 in
theorem gX0_replace_X0_isPoint : GoodIn wsX0_replace (va_wsS RX0 93 yX0_isPoint wsX0_isPoint) := goodIn_app (goodIn_of _ (by decide +kernel)) ggX0_replace_X0_isPoint
set_option maxRecDepth 20000 in
theorem ggX0_replace_X0_isSpeed : GoodIn wsX0_replace wsX0_isSpeed := goodIn_r _ [18, 10, 11, 7, 12] (by decide +kernel) (by decide +kernel)
set_option maxRecDepth 20000 in
theorem gX0_replace_X0_isSpeed : GoodIn wsX0_replace (va_wsS RX0 96 yX0_isSpeed wsX0_isSpeed) := goodIn_app (goodIn_of _ (by decide +kernel)) ggX0_replace_X0_isSpeed
set_option maxRecDepth 20000 in
theorem ggX0_replace_X0_put : GoodIn wsX0_replace wsX0_put := goodIn_r _ [22, 23, 24, 3, 25, 26, 27, 28, 29, 30, 31, 32, 33, 34, 35, 36] (by decide +kernel) (by decide +kernel)
set_option maxRecDepth 20000 in
theorem gX0_replace_X0_put : GoodIn wsX0_replace (wsV RX0 104 RX0 yX0_put wsX0_put) := goodIn_app (goodIn_of _ (by decide +kernel)) ggX0_replace_X0_put
theorem dX0_replace_0 : decode cX0_replace 0 = .ok (.aload_n 0, 1) := by decide +kernel
theorem dX0_replace_1 : decode cX0_replace 1 = .ok (.iload_n 1, 1) := by decide +kernel
theorem dX0_replace_2 : decode cX0_replace 2 = .ok (.invokevirtual 99, 3) := by decide +kernel
theorem dX0_replace_5 : decode cX0_replace 5 = .ok (.ifCond .ne 7, 3) := by decide +kernel
theorem dX0_replace_8 : decode cX0_replace 8 = .ok (.ldc2_w 102, 3) := by decide +kernel
theorem dX0_replace_11 : decode cX0_replace 11 = .ok (.lreturn, 1) := by decide +kernel
theorem dX0_replace_12 : decode cX0_replace 12 = .ok (.iload_n 2, 1) := by decide +kernel
theorem dX0_replace_13 : decode cX0_replace 13 = .ok (.invokestatic 93, 3) := by decide +kernel
theorem dX0_replace_16 : decode cX0_replace 16 = .ok (.ifCond .eq 10, 3) := by decide +kernel
theorem dX0_replace_19 : decode cX0_replace 19 = .ok (.iload_n 3, 1) := by decide +kernel
theorem dX0_replace_20 : decode cX0_replace 20 = .ok (.invokestatic 96, 3) := by decide +kernel
theorem dX0_replace_23 : decode cX0_replace 23 = .ok (.ifCond .ne 7, 3) := by decide +kernel
theorem dX0_replace_26 : decode cX0_replace 26 = .ok (.ldc2_w 39, 3) := by decide +kernel
theorem dX0_replace_29 : decode cX0_replace 29 = .ok (.lreturn, 1) := by decide +kernel
theorem dX0_replace_30 : decode cX0_replace 30 = .ok (.aload_n 0, 1) := by decide +kernel
theorem dX0_replace_31 : decode cX0_replace 31 = .ok (.getfield 22, 3) := by decide +kernel
theorem dX0_replace_34 : decode cX0_replace 34 = .ok (.iload_n 1, 1) := by decide +kernel
theorem dX0_replace_35 : decode cX0_replace 35 = .ok (.baload, 1) := by decide +kernel
theorem dX0_replace_36 : decode cX0_replace 36 = .ok (.istore 4, 2) := by decide +kernel
theorem dX0_replace_38 : decode cX0_replace 38 = .ok (.aload_n 0, 1) := by decide +kernel
theorem dX0_replace_39 : decode cX0_replace 39 = .ok (.iload_n 1, 1) := by decide +kernel
theorem dX0_replace_40 : decode cX0_replace 40 = .ok (.iload_n 2, 1) := by decide +kernel
theorem dX0_replace_41 : decode cX0_replace 41 = .ok (.iload_n 3, 1) := by decide +kernel
theorem dX0_replace_42 : decode cX0_replace 42 = .ok (.invokevirtual 104, 3) := by decide +kernel
theorem dX0_replace_45 : decode cX0_replace 45 = .ok (.iload 4, 2) := by decide +kernel
theorem dX0_replace_47 : decode cX0_replace 47 = .ok (.ifCond .eq 7, 3) := by decide +kernel
theorem dX0_replace_50 : decode cX0_replace 50 = .ok (.lconst 1, 1) := by decide +kernel
theorem dX0_replace_51 : decode cX0_replace 51 = .ok (.goto 4, 3) := by decide +kernel
theorem dX0_replace_54 : decode cX0_replace 54 = .ok (.lconst 0, 1) := by decide +kernel
theorem dX0_replace_55 : decode cX0_replace 55 = .ok (.lreturn, 1) := by decide +kernel
theorem dX0_removeLast_0 : decode cX0_removeLast 0 = .ok (.aload_n 0, 1) := by decide +kernel
theorem dX0_removeLast_1 : decode cX0_removeLast 1 = .ok (.getfield 71, 3) := by decide +kernel
theorem dX0_removeLast_4 : decode cX0_removeLast 4 = .ok (.ifCond .gt 7, 3) := by decide +kernel
theorem dX0_removeLast_7 : decode cX0_removeLast 7 = .ok (.ldc2_w 108, 3) := by decide +kernel
theorem dX0_removeLast_10 : decode cX0_removeLast 10 = .ok (.lreturn, 1) := by decide +kernel
theorem dX0_removeLast_11 : decode cX0_removeLast 11 = .ok (.aload_n 0, 1) := by decide +kernel
theorem dX0_removeLast_12 : decode cX0_removeLast 12 = .ok (.getfield 26, 3) := by decide +kernel
theorem dX0_removeLast_15 : decode cX0_removeLast 15 = .ok (.aload_n 0, 1) := by decide +kernel
theorem dX0_removeLast_16 : decode cX0_removeLast 16 = .ok (.getfield 71, 3) := by decide +kernel
theorem dX0_removeLast_19 : decode cX0_removeLast 19 = .ok (.iconst 0, 1) := by decide +kernel
theorem dX0_removeLast_20 : decode cX0_removeLast 20 = .ok (.bastore, 1) := by decide +kernel
theorem dX0_removeLast_21 : decode cX0_removeLast 21 = .ok (.aload_n 0, 1) := by decide +kernel
theorem dX0_removeLast_22 : decode cX0_removeLast 22 = .ok (.dup, 1) := by decide +kernel
theorem dX0_removeLast_23 : decode cX0_removeLast 23 = .ok (.getfield 71, 3) := by decide +kernel
theorem dX0_removeLast_26 : decode cX0_removeLast 26 = .ok (.iconst 1, 1) := by decide +kernel
theorem dX0_removeLast_27 : decode cX0_removeLast 27 = .ok (.isub, 1) := by decide +kernel
theorem dX0_removeLast_28 : decode cX0_removeLast 28 = .ok (.putfield 71, 3) := by decide +kernel
theorem dX0_removeLast_31 : decode cX0_removeLast 31 = .ok (.aload_n 0, 1) := by decide +kernel
theorem dX0_removeLast_32 : decode cX0_removeLast 32 = .ok (.getfield 71, 3) := by decide +kernel
theorem dX0_removeLast_35 : decode cX0_removeLast 35 = .ok (.i2l, 1) := by decide +kernel
theorem dX0_removeLast_36 : decode cX0_removeLast 36 = .ok (.lreturn, 1) := by decide +kernel
set_option maxRecDepth 20000 in
theorem ggX0_lose_X0_pegExists : GoodIn wsX0_lose wsX0_pegExists := goodIn_r _ [9, 4, 10, 11, 8, 12, 17, 18, 19, 20, 21, 22, 23, 24, 25, 26, 27, 28] (by decide +kernel) (by decide +kernel)
set_option maxRecDepth 20000 in
theorem gX0_lose_X0_pegExists : GoodIn wsX0_lose (wsV RX0 99 RX0 yX0_pegExists wsX0_pegExists) := goodIn_app (goodIn_of _ (by decide +kernel)) ggX0_lose_X0_pegExists
set_option maxRecDepth 20000 in
theorem ggX0_lose_X0_lostCount : GoodIn wsX0_lose wsX0_lostCount := goodIn_r _ [16, 2, 17, 18, 19, 20, 21, 22, 23, 24, 25, 26, 27, 28] (by decide +kernel) (by decide +kernel)
set_option maxRecDepth 20000 in
theorem gX0_lose_X0_lostCount : GoodIn wsX0_lose (wsV RX0 112 RX0 yX0_lostCount wsX0_lostCount) := goodIn_app (goodIn_of _ (by decide +kernel)) ggX0_lose_X0_lostCount
theorem dX0_lose_0 : decode cX0_lose 0 = .ok (.aload_n 0, 1) := by decide +kernel
theorem dX0_lose_1 : decode cX0_lose 1 = .ok (.iload_n 1, 1) := by decide +kernel
theorem dX0_lose_2 : decode cX0_lose 2 = .ok (.invokevirtual 99, 3) := by decide +kernel
theorem dX0_lose_5 : decode cX0_lose 5 = .ok (.ifCond .ne 7, 3) := by decide +kernel
theorem dX0_lose_8 : decode cX0_lose 8 = .ok (.ldc2_w 102, 3) := by decide +kernel
theorem dX0_lose_11 : decode cX0_lose 11 = .ok (.lreturn, 1) := by decide +kernel
theorem dX0_lose_12 : decode cX0_lose 12 = .ok (.aload_n 0, 1) := by decide +kernel
theorem dX0_lose_13 : decode cX0_lose 13 = .ok (.getfield 22, 3) := by decide +kernel
theorem dX0_lose_16 : decode cX0_lose 16 = .ok (.iload_n 1, 1) := by decide +kernel
theorem dX0_lose_17 : decode cX0_lose 17 = .ok (.baload, 1) := by decide +kernel
theorem dX0_lose_18 : decode cX0_lose 18 = .ok (.ifCond .eq 7, 3) := by decide +kernel
theorem dX0_lose_21 : decode cX0_lose 21 = .ok (.ldc2_w 110, 3) := by decide +kernel
theorem dX0_lose_24 : decode cX0_lose 24 = .ok (.lreturn, 1) := by decide +kernel
theorem dX0_lose_25 : decode cX0_lose 25 = .ok (.aload_n 0, 1) := by decide +kernel
theorem dX0_lose_26 : decode cX0_lose 26 = .ok (.getfield 22, 3) := by decide +kernel
theorem dX0_lose_29 : decode cX0_lose 29 = .ok (.iload_n 1, 1) := by decide +kernel
theorem dX0_lose_30 : decode cX0_lose 30 = .ok (.iconst 1, 1) := by decide +kernel
theorem dX0_lose_31 : decode cX0_lose 31 = .ok (.bastore, 1) := by decide +kernel
theorem dX0_lose_32 : decode cX0_lose 32 = .ok (.aload_n 0, 1) := by decide +kernel
theorem dX0_lose_33 : decode cX0_lose 33 = .ok (.iconst 0, 1) := by decide +kernel
theorem dX0_lose_34 : decode cX0_lose 34 = .ok (.aload_n 0, 1) := by decide +kernel
theorem dX0_lose_35 : decode cX0_lose 35 = .ok (.getfield 71, 3) := by decide +kernel
theorem dX0_lose_38 : decode cX0_lose 38 = .ok (.invokevirtual 112, 3) := by decide +kernel
theorem dX0_lose_41 : decode cX0_lose 41 = .ok (.i2l, 1) := by decide +kernel
theorem dX0_lose_42 : decode cX0_lose 42 = .ok (.lreturn, 1) := by decide +kernel
set_option maxRecDepth 20000 in
theorem ggX0_setLeeway_X0_pegExists : GoodIn wsX0_setLeeway wsX0_pegExists := goodIn_r _ [8, 9, 10, 11, 7, 12, 13, 14, 15, 16, 17, 18, 19, 20, 21, 22, 23, 24] (by decide +kernel) (by decide +kernel)
set_option maxRecDepth 20000 in
theorem gX0_setLeeway_X0_pegExists : GoodIn wsX0_setLeeway (wsV RX0 99 RX0 yX0_pegExists wsX0_pegExists) := goodIn_app (goodIn_of _ (by decide +kernel)) ggX0_setLeeway_X0_pegExists
set_option maxRecDepth 20000 in
theorem ggX0_setLeeway_X0_inRange : GoodIn wsX0_setLeeway wsX0_inRange := goodIn_r _ [12] (by decide +kernel) (by decide +kernel)
set_option maxRecDepth 20000 in
theorem gX0_setLeeway_X0_inRange : GoodIn wsX0_setLeeway (va_wsS RX0 35 yX0_inRange wsX0_inRange) := goodIn_app (goodIn_of _ (by decide +kernel)) ggX0_setLeeway_X0_inRange
theorem dX0_setLeeway_0 : decode cX0_setLeeway 0 = .ok (.aload_n 0, 1) := by decide +kernel
theorem dX0_setLeeway_1 : decode cX0_setLeeway 1 = .ok (.iload_n 1, 1) := by decide +kernel
theorem dX0_setLeeway_2 : decode cX0_setLeeway 2 = .ok (.invokevirtual 99, 3) := by decide +kernel
theorem dX0_setLeeway_5 : decode cX0_setLeeway 5 = .ok (.ifCond .ne 7, 3) := by decide +kernel
theorem dX0_setLeeway_8 : decode cX0_setLeeway 8 = .ok (.ldc2_w 102, 3) := by decide +kernel
theorem dX0_setLeeway_11 : decode cX0_setLeeway 11 = .ok (.lreturn, 1) := by decide +kernel
theorem dX0_setLeeway_12 : decode cX0_setLeeway 12 = .ok (.iload_n 2, 1) := by decide +kernel
theorem dX0_setLeeway_13 : decode cX0_setLeeway 13 = .ok (.bipush (-2), 2) := by decide +kernel
theorem dX0_setLeeway_15 : decode cX0_setLeeway 15 = .ok (.iconst 2, 1) := by decide +kernel
theorem dX0_setLeeway_16 : decode cX0_setLeeway 16 = .ok (.invokestatic 35, 3) := by decide +kernel
theorem dX0_setLeeway_19 : decode cX0_setLeeway 19 = .ok (.ifCond .ne 7, 3) := by decide +kernel
theorem dX0_setLeeway_22 : decode cX0_setLeeway 22 = .ok (.ldc2_w 39, 3) := by decide +kernel
theorem dX0_setLeeway_25 : decode cX0_setLeeway 25 = .ok (.lreturn, 1) := by decide +kernel
theorem dX0_setLeeway_26 : decode cX0_setLeeway 26 = .ok (.aload_n 0, 1) := by decide +kernel
theorem dX0_setLeeway_27 : decode cX0_setLeeway 27 = .ok (.getfield 19, 3) := by decide +kernel
theorem dX0_setLeeway_30 : decode cX0_setLeeway 30 = .ok (.iload_n 1, 1) := by decide +kernel
theorem dX0_setLeeway_31 : decode cX0_setLeeway 31 = .ok (.iaload, 1) := by decide +kernel
theorem dX0_setLeeway_32 : decode cX0_setLeeway 32 = .ok (.istore_n 3, 1) := by decide +kernel
theorem dX0_setLeeway_33 : decode cX0_setLeeway 33 = .ok (.aload_n 0, 1) := by decide +kernel
theorem dX0_setLeeway_34 : decode cX0_setLeeway 34 = .ok (.getfield 19, 3) := by decide +kernel
theorem dX0_setLeeway_37 : decode cX0_setLeeway 37 = .ok (.iload_n 1, 1) := by decide +kernel
theorem dX0_setLeeway_38 : decode cX0_setLeeway 38 = .ok (.iload_n 2, 1) := by decide +kernel
theorem dX0_setLeeway_39 : decode cX0_setLeeway 39 = .ok (.iastore, 1) := by decide +kernel
theorem dX0_setLeeway_40 : decode cX0_setLeeway 40 = .ok (.iload_n 3, 1) := by decide +kernel
theorem dX0_setLeeway_41 : decode cX0_setLeeway 41 = .ok (.i2l, 1) := by decide +kernel
theorem dX0_setLeeway_42 : decode cX0_setLeeway 42 = .ok (.lreturn, 1) := by decide +kernel
set_option maxRecDepth 20000 in
theorem ggX0_setCurrent_X0_isPoint : GoodIn wsX0_setCurrent wsX0_isPoint := goodIn_r _ [7, 8, 9, 6, 10] (by decide +kernel) (by decide +kernel)
set_option maxRecDepth 20000 in
theorem gX0_setCurrent_X0_isPoint : GoodIn wsX0_setCurrent (va_wsS RX0 93 yX0_isPoint wsX0_isPoint) := goodIn_app (goodIn_of _ (by decide +kernel)) ggX0_setCurrent_X0_isPoint
set_option maxRecDepth 20000 in
theorem ggX0_setCurrent_X0_inRange : GoodIn wsX0_setCurrent wsX0_inRange := goodIn_r _ [10] (by decide +kernel) (by decide +kernel)
set_option maxRecDepth 20000 in
theorem gX0_setCurrent_X0_inRange : GoodIn wsX0_setCurrent (va_wsS RX0 35 yX0_inRange wsX0_inRange) := goodIn_app (goodIn_of _ (by decide +kernel)) ggX0_setCurrent_X0_inRange
theorem dX0_setCurrent_0 : decode cX0_setCurrent 0 = .ok (.iload_n 1, 1) := by decide +kernel
theorem dX0_setCurrent_1 : decode cX0_setCurrent 1 = .ok (.invokestatic 93, 3) := by decide +kernel
theorem dX0_setCurrent_4 : decode cX0_setCurrent 4 = .ok (.ifCond .eq 13, 3) := by decide +kernel
theorem dX0_setCurrent_7 : decode cX0_setCurrent 7 = .ok (.iload_n 2, 1) := by decide +kernel
theorem dX0_setCurrent_8 : decode cX0_setCurrent 8 = .ok (.iconst 0, 1) := by decide +kernel
theorem dX0_setCurrent_9 : decode cX0_setCurrent 9 = .ok (.bipush 50, 2) := by decide +kernel
theorem dX0_setCurrent_11 : decode cX0_setCurrent 11 = .ok (.invokestatic 35, 3) := by decide +kernel
theorem dX0_setCurrent_14 : decode cX0_setCurrent 14 = .ok (.ifCond .ne 7, 3) := by decide +kernel
theorem dX0_setCurrent_17 : decode cX0_setCurrent 17 = .ok (.ldc2_w 39, 3) := by decide +kernel
theorem dX0_setCurrent_20 : decode cX0_setCurrent 20 = .ok (.lreturn, 1) := by decide +kernel
theorem dX0_setCurrent_21 : decode cX0_setCurrent 21 = .ok (.aload_n 0, 1) := by decide +kernel
theorem dX0_setCurrent_22 : decode cX0_setCurrent 22 = .ok (.getfield 115, 3) := by decide +kernel
theorem dX0_setCurrent_25 : decode cX0_setCurrent 25 = .ok (.istore_n 3, 1) := by decide +kernel
theorem dX0_setCurrent_26 : decode cX0_setCurrent 26 = .ok (.aload_n 0, 1) := by decide +kernel
theorem dX0_setCurrent_27 : decode cX0_setCurrent 27 = .ok (.iload_n 1, 1) := by decide +kernel
theorem dX0_setCurrent_28 : decode cX0_setCurrent 28 = .ok (.putfield 118, 3) := by decide +kernel
theorem dX0_setCurrent_31 : decode cX0_setCurrent 31 = .ok (.aload_n 0, 1) := by decide +kernel
theorem dX0_setCurrent_32 : decode cX0_setCurrent 32 = .ok (.iload_n 2, 1) := by decide +kernel
theorem dX0_setCurrent_33 : decode cX0_setCurrent 33 = .ok (.putfield 115, 3) := by decide +kernel
theorem dX0_setCurrent_36 : decode cX0_setCurrent 36 = .ok (.iload_n 3, 1) := by decide +kernel
theorem dX0_setCurrent_37 : decode cX0_setCurrent 37 = .ok (.i2l, 1) := by decide +kernel
theorem dX0_setCurrent_38 : decode cX0_setCurrent 38 = .ok (.lreturn, 1) := by decide +kernel
theorem dX0_pegCount_0 : decode cX0_pegCount 0 = .ok (.aload_n 0, 1) := by decide +kernel
theorem dX0_pegCount_1 : decode cX0_pegCount 1 = .ok (.getfield 71, 3) := by decide +kernel
theorem dX0_pegCount_4 : decode cX0_pegCount 4 = .ok (.i2l, 1) := by decide +kernel
theorem dX0_pegCount_5 : decode cX0_pegCount 5 = .ok (.lreturn, 1) := by decide +kernel
set_option maxRecDepth 20000 in
theorem ggX0_pointOf_X0_pegExists : GoodIn wsX0_pointOf wsX0_pegExists := goodIn_r _ [9, 10, 11, 12, 8, 13, 14, 15, 16, 17, 18, 19, 20, 21, 22, 23, 24, 25] (by decide +kernel) (by decide +kernel)
set_option maxRecDepth 20000 in
theorem gX0_pointOf_X0_pegExists : GoodIn wsX0_pointOf (wsV RX0 99 RX0 yX0_pegExists wsX0_pegExists) := goodIn_app (goodIn_of _ (by decide +kernel)) ggX0_pointOf_X0_pegExists
theorem dX0_pointOf_0 : decode cX0_pointOf 0 = .ok (.aload_n 0, 1) := by decide +kernel
theorem dX0_pointOf_1 : decode cX0_pointOf 1 = .ok (.iload_n 1, 1) := by decide +kernel
theorem dX0_pointOf_2 : decode cX0_pointOf 2 = .ok (.invokevirtual 99, 3) := by decide +kernel
theorem dX0_pointOf_5 : decode cX0_pointOf 5 = .ok (.ifCond .ne 7, 3) := by decide +kernel
theorem dX0_pointOf_8 : decode cX0_pointOf 8 = .ok (.ldc2_w 102, 3) := by decide +kernel
theorem dX0_pointOf_11 : decode cX0_pointOf 11 = .ok (.lreturn, 1) := by decide +kernel
theorem dX0_pointOf_12 : decode cX0_pointOf 12 = .ok (.aload_n 0, 1) := by decide +kernel
theorem dX0_pointOf_13 : decode cX0_pointOf 13 = .ok (.getfield 22, 3) := by decide +kernel
theorem dX0_pointOf_16 : decode cX0_pointOf 16 = .ok (.iload_n 1, 1) := by decide +kernel
theorem dX0_pointOf_17 : decode cX0_pointOf 17 = .ok (.baload, 1) := by decide +kernel
theorem dX0_pointOf_18 : decode cX0_pointOf 18 = .ok (.ifCond .eq 9, 3) := by decide +kernel
theorem dX0_pointOf_21 : decode cX0_pointOf 21 = .ok (.ldc2_w 110, 3) := by decide +kernel
theorem dX0_pointOf_24 : decode cX0_pointOf 24 = .ok (.goto 10, 3) := by decide +kernel
theorem dX0_pointOf_27 : decode cX0_pointOf 27 = .ok (.aload_n 0, 1) := by decide +kernel
theorem dX0_pointOf_28 : decode cX0_pointOf 28 = .ok (.getfield 13, 3) := by decide +kernel
theorem dX0_pointOf_31 : decode cX0_pointOf 31 = .ok (.iload_n 1, 1) := by decide +kernel
theorem dX0_pointOf_32 : decode cX0_pointOf 32 = .ok (.iaload, 1) := by decide +kernel
end
section
theorem dX0_pointOf_33 : decode cX0_pointOf 33 = .ok (.i2l, 1) := by decide +kernel
theorem dX0_pointOf_34 : decode cX0_pointOf 34 = .ok (.lreturn, 1) := by decide +kernel
set_option maxRecDepth 20000 in
theorem ggX0_speedOf_X0_pegExists : GoodIn wsX0_speedOf wsX0_pegExists := goodIn_r _ [9, 10, 11, 12, 8, 13, 14, 15, 16, 17, 18, 19, 20, 21, 22, 23, 24, 25] (by decide +kernel) (by decide +kernel)
set_option maxRecDepth 20000 in
theorem gX0_speedOf_X0_pegExists : GoodIn wsX0_speedOf (wsV RX0 99 RX0 yX0_pegExists wsX0_pegExists) := goodIn_app (goodIn_of _ (by decide +kernel)) ggX0_speedOf_X0_pegExists
theorem dX0_speedOf_0 : decode cX0_speedOf 0 = .ok (.aload_n 0, 1) := by decide +kernel
theorem dX0_speedOf_1 : decode cX0_speedOf 1 = .ok (.iload_n 1, 1) := by decide +kernel
theorem dX0_speedOf_2 : decode cX0_speedOf 2 = .ok (.invokevirtual 99, 3) := by decide +kernel
theorem dX0_speedOf_5 : decode cX0_speedOf 5 = .ok (.ifCond .ne 7, 3) := by decide +kernel
theorem dX0_speedOf_8 : decode cX0_speedOf 8 = .ok (.ldc2_w 102, 3) := by decide +kernel
theorem dX0_speedOf_11 : decode cX0_speedOf 11 = .ok (.lreturn, 1) := by decide +kernel
theorem dX0_speedOf_12 : decode cX0_speedOf 12 = .ok (.aload_n 0, 1) := by decide +kernel
theorem dX0_speedOf_13 : decode cX0_speedOf 13 = .ok (.getfield 22, 3) := by decide +kernel
theorem dX0_speedOf_16 : decode cX0_speedOf 16 = .ok (.iload_n 1, 1) := by decide +kernel
theorem dX0_speedOf_17 : decode cX0_speedOf 17 = .ok (.baload, 1) := by decide +kernel
theorem dX0_speedOf_18 : decode cX0_speedOf 18 = .ok (.ifCond .eq 9, 3) := by decide +kernel
theorem dX0_speedOf_21 : decode cX0_speedOf 21 = .ok (.ldc2_w 110, 3) := by decide +kernel
theorem dX0_speedOf_24 : decode cX0_speedOf 24 = .ok (.goto 10, 3) := by decide +kernel
theorem dX0_speedOf_27 : decode cX0_speedOf 27 = .ok (.aload_n 0, 1) := by decide +kernel
theorem dX0_speedOf_28 : decode cX0_speedOf 28 = .ok (.getfield 16, 3) := by decide +kernel
theorem dX0_speedOf_31 : decode cX0_speedOf 31 = .ok (.iload_n 1, 1) := by decide +kernel
theorem dX0_speedOf_32 : decode cX0_speedOf 32 = .ok (.iaload, 1) := by decide +kernel
theorem dX0_speedOf_33 : decode cX0_speedOf 33 = .ok (.i2l, 1) := by decide +kernel
theorem dX0_speedOf_34 : decode cX0_speedOf 34 = .ok (.lreturn, 1) := by decide +kernel
set_option maxRecDepth 20000 in
theorem ggX0_speedTowards_X0_isPoint : GoodIn wsX0_speedTowards wsX0_isPoint := goodIn_r _ [9, 10, 11, 8, 12] (by decide +kernel) (by decide +kernel)
set_option maxRecDepth 20000 in
theorem gX0_speedTowards_X0_isPoint : GoodIn wsX0_speedTowards (va_wsS RX0 93 yX0_isPoint wsX0_isPoint) := goodIn_app (goodIn_of _ (by decide +kernel)) ggX0_speedTowards_X0_isPoint
theorem dX0_speedTowards_0 : decode cX0_speedTowards 0 = .ok (.iload_n 1, 1) := by decide +kernel
theorem dX0_speedTowards_1 : decode cX0_speedTowards 1 = .ok (.invokestatic 93, 3) := by decide +kernel
theorem dX0_speedTowards_4 : decode cX0_speedTowards 4 = .ok (.ifCond .ne 7, 3) := by decide +kernel
theorem dX0_speedTowards_7 : decode cX0_speedTowards 7 = .ok (.ldc2_w 39, 3) := by decide +kernel
theorem dX0_speedTowards_10 : decode cX0_speedTowards 10 = .ok (.lreturn, 1) := by decide +kernel
theorem dX0_speedTowards_11 : decode cX0_speedTowards 11 = .ok (.iconst 0, 1) := by decide +kernel
theorem dX0_speedTowards_12 : decode cX0_speedTowards 12 = .ok (.istore_n 2, 1) := by decide +kernel
theorem dX0_speedTowards_13 : decode cX0_speedTowards 13 = .ok (.iconst 0, 1) := by decide +kernel
theorem dX0_speedTowards_14 : decode cX0_speedTowards 14 = .ok (.istore_n 3, 1) := by decide +kernel
theorem dX0_speedTowards_15 : decode cX0_speedTowards 15 = .ok (.iload_n 3, 1) := by decide +kernel
theorem dX0_speedTowards_16 : decode cX0_speedTowards 16 = .ok (.aload_n 0, 1) := by decide +kernel
theorem dX0_speedTowards_17 : decode cX0_speedTowards 17 = .ok (.getfield 71, 3) := by decide +kernel
theorem dX0_speedTowards_20 : decode cX0_speedTowards 20 = .ok (.if_icmp .ge 37, 3) := by decide +kernel
theorem dX0_speedTowards_23 : decode cX0_speedTowards 23 = .ok (.aload_n 0, 1) := by decide +kernel
theorem dX0_speedTowards_24 : decode cX0_speedTowards 24 = .ok (.getfield 22, 3) := by decide +kernel
theorem dX0_speedTowards_27 : decode cX0_speedTowards 27 = .ok (.iload_n 3, 1) := by decide +kernel
theorem dX0_speedTowards_28 : decode cX0_speedTowards 28 = .ok (.baload, 1) := by decide +kernel
theorem dX0_speedTowards_29 : decode cX0_speedTowards 29 = .ok (.ifCond .ne 22, 3) := by decide +kernel
theorem dX0_speedTowards_32 : decode cX0_speedTowards 32 = .ok (.aload_n 0, 1) := by decide +kernel
theorem dX0_speedTowards_33 : decode cX0_speedTowards 33 = .ok (.getfield 13, 3) := by decide +kernel
theorem dX0_speedTowards_36 : decode cX0_speedTowards 36 = .ok (.iload_n 3, 1) := by decide +kernel
theorem dX0_speedTowards_37 : decode cX0_speedTowards 37 = .ok (.iaload, 1) := by decide +kernel
theorem dX0_speedTowards_38 : decode cX0_speedTowards 38 = .ok (.iload_n 1, 1) := by decide +kernel
theorem dX0_speedTowards_39 : decode cX0_speedTowards 39 = .ok (.if_icmp .ne 12, 3) := by decide +kernel
theorem dX0_speedTowards_42 : decode cX0_speedTowards 42 = .ok (.iload_n 2, 1) := by decide +kernel
theorem dX0_speedTowards_43 : decode cX0_speedTowards 43 = .ok (.aload_n 0, 1) := by decide +kernel
theorem dX0_speedTowards_44 : decode cX0_speedTowards 44 = .ok (.getfield 16, 3) := by decide +kernel
theorem dX0_speedTowards_47 : decode cX0_speedTowards 47 = .ok (.iload_n 3, 1) := by decide +kernel
theorem dX0_speedTowards_48 : decode cX0_speedTowards 48 = .ok (.iaload, 1) := by decide +kernel
theorem dX0_speedTowards_49 : decode cX0_speedTowards 49 = .ok (.iadd, 1) := by decide +kernel
theorem dX0_speedTowards_50 : decode cX0_speedTowards 50 = .ok (.istore_n 2, 1) := by decide +kernel
theorem dX0_speedTowards_51 : decode cX0_speedTowards 51 = .ok (.iinc 3 1, 3) := by decide +kernel
theorem dX0_speedTowards_54 : decode cX0_speedTowards 54 = .ok (.goto (-39), 3) := by decide +kernel
theorem dX0_speedTowards_57 : decode cX0_speedTowards 57 = .ok (.iload_n 2, 1) := by decide +kernel
theorem dX0_speedTowards_58 : decode cX0_speedTowards 58 = .ok (.i2l, 1) := by decide +kernel
theorem dX0_speedTowards_59 : decode cX0_speedTowards 59 = .ok (.lreturn, 1) := by decide +kernel
set_option maxRecDepth 20000 in
theorem ggX0_putBehindLast_X0_put : GoodIn wsX0_putBehindLast wsX0_put := goodIn_r _ [7, 8, 9, 10, 11, 12, 13, 14, 15, 16, 17, 18, 19, 20, 21, 22] (by decide +kernel) (by decide +kernel)
set_option maxRecDepth 20000 in
theorem gX0_putBehindLast_X0_put : GoodIn wsX0_putBehindLast (wsV RX0 104 RX0 yX0_put wsX0_put) := goodIn_app (goodIn_of _ (by decide +kernel)) ggX0_putBehindLast_X0_put
theorem dX0_putBehindLast_0 : decode cX0_putBehindLast 0 = .ok (.aload_n 0, 1) := by decide +kernel
theorem dX0_putBehindLast_1 : decode cX0_putBehindLast 1 = .ok (.getfield 71, 3) := by decide +kernel
theorem dX0_putBehindLast_4 : decode cX0_putBehindLast 4 = .ok (.istore_n 3, 1) := by decide +kernel
theorem dX0_putBehindLast_5 : decode cX0_putBehindLast 5 = .ok (.aload_n 0, 1) := by decide +kernel
theorem dX0_putBehindLast_6 : decode cX0_putBehindLast 6 = .ok (.dup, 1) := by decide +kernel
theorem dX0_putBehindLast_7 : decode cX0_putBehindLast 7 = .ok (.getfield 71, 3) := by decide +kernel
theorem dX0_putBehindLast_10 : decode cX0_putBehindLast 10 = .ok (.iconst 1, 1) := by decide +kernel
theorem dX0_putBehindLast_11 : decode cX0_putBehindLast 11 = .ok (.iadd, 1) := by decide +kernel
theorem dX0_putBehindLast_12 : decode cX0_putBehindLast 12 = .ok (.putfield 71, 3) := by decide +kernel
theorem dX0_putBehindLast_15 : decode cX0_putBehindLast 15 = .ok (.aload_n 0, 1) := by decide +kernel
theorem dX0_putBehindLast_16 : decode cX0_putBehindLast 16 = .ok (.iload_n 3, 1) := by decide +kernel
theorem dX0_putBehindLast_17 : decode cX0_putBehindLast 17 = .ok (.iload_n 1, 1) := by decide +kernel
theorem dX0_putBehindLast_18 : decode cX0_putBehindLast 18 = .ok (.iload_n 2, 1) := by decide +kernel
theorem dX0_putBehindLast_19 : decode cX0_putBehindLast 19 = .ok (.invokevirtual 104, 3) := by decide +kernel
theorem dX0_putBehindLast_22 : decode cX0_putBehindLast 22 = .ok (.aload_n 0, 1) := by decide +kernel
theorem dX0_putBehindLast_23 : decode cX0_putBehindLast 23 = .ok (.getfield 19, 3) := by decide +kernel
theorem dX0_putBehindLast_26 : decode cX0_putBehindLast 26 = .ok (.iload_n 3, 1) := by decide +kernel
theorem dX0_putBehindLast_27 : decode cX0_putBehindLast 27 = .ok (.iconst 0, 1) := by decide +kernel
theorem dX0_putBehindLast_28 : decode cX0_putBehindLast 28 = .ok (.iastore, 1) := by decide +kernel
theorem dX0_putBehindLast_29 : decode cX0_putBehindLast 29 = .ok (.iload_n 3, 1) := by decide +kernel
theorem dX0_putBehindLast_30 : decode cX0_putBehindLast 30 = .ok (.ireturn, 1) := by decide +kernel
theorem dX0_put_0 : decode cX0_put 0 = .ok (.aload_n 0, 1) := by decide +kernel
theorem dX0_put_1 : decode cX0_put 1 = .ok (.getfield 13, 3) := by decide +kernel
theorem dX0_put_4 : decode cX0_put 4 = .ok (.iload_n 1, 1) := by decide +kernel
theorem dX0_put_5 : decode cX0_put 5 = .ok (.iload_n 2, 1) := by decide +kernel
theorem dX0_put_6 : decode cX0_put 6 = .ok (.iastore, 1) := by decide +kernel
theorem dX0_put_7 : decode cX0_put 7 = .ok (.aload_n 0, 1) := by decide +kernel
theorem dX0_put_8 : decode cX0_put 8 = .ok (.getfield 16, 3) := by decide +kernel
theorem dX0_put_11 : decode cX0_put 11 = .ok (.iload_n 1, 1) := by decide +kernel
theorem dX0_put_12 : decode cX0_put 12 = .ok (.iload_n 3, 1) := by decide +kernel
theorem dX0_put_13 : decode cX0_put 13 = .ok (.iastore, 1) := by decide +kernel
theorem dX0_put_14 : decode cX0_put 14 = .ok (.aload_n 0, 1) := by decide +kernel
theorem dX0_put_15 : decode cX0_put 15 = .ok (.getfield 22, 3) := by decide +kernel
theorem dX0_put_18 : decode cX0_put 18 = .ok (.iload_n 1, 1) := by decide +kernel
theorem dX0_put_19 : decode cX0_put 19 = .ok (.iconst 0, 1) := by decide +kernel
theorem dX0_put_20 : decode cX0_put 20 = .ok (.bastore, 1) := by decide +kernel
theorem dX0_put_21 : decode cX0_put 21 = .ok (.return_, 1) := by decide +kernel
theorem dX0_lostCount_0 : decode cX0_lostCount 0 = .ok (.iconst 0, 1) := by decide +kernel
theorem dX0_lostCount_1 : decode cX0_lostCount 1 = .ok (.istore_n 3, 1) := by decide +kernel
theorem dX0_lostCount_2 : decode cX0_lostCount 2 = .ok (.iload_n 1, 1) := by decide +kernel
theorem dX0_lostCount_3 : decode cX0_lostCount 3 = .ok (.istore 4, 2) := by decide +kernel
theorem dX0_lostCount_5 : decode cX0_lostCount 5 = .ok (.iload 4, 2) := by decide +kernel
theorem dX0_lostCount_7 : decode cX0_lostCount 7 = .ok (.iload_n 2, 1) := by decide +kernel
theorem dX0_lostCount_8 : decode cX0_lostCount 8 = .ok (.if_icmp .ge 22, 3) := by decide +kernel
theorem dX0_lostCount_11 : decode cX0_lostCount 11 = .ok (.aload_n 0, 1) := by decide +kernel
theorem dX0_lostCount_12 : decode cX0_lostCount 12 = .ok (.getfield 22, 3) := by decide +kernel
theorem dX0_lostCount_15 : decode cX0_lostCount 15 = .ok (.iload 4, 2) := by decide +kernel
theorem dX0_lostCount_17 : decode cX0_lostCount 17 = .ok (.baload, 1) := by decide +kernel
theorem dX0_lostCount_18 : decode cX0_lostCount 18 = .ok (.ifCond .eq 6, 3) := by decide +kernel
theorem dX0_lostCount_21 : decode cX0_lostCount 21 = .ok (.iinc 3 1, 3) := by decide +kernel
theorem dX0_lostCount_24 : decode cX0_lostCount 24 = .ok (.iinc 4 1, 3) := by decide +kernel
theorem dX0_lostCount_27 : decode cX0_lostCount 27 = .ok (.goto (-22), 3) := by decide +kernel
theorem dX0_lostCount_30 : decode cX0_lostCount 30 = .ok (.iload_n 3, 1) := by decide +kernel
theorem dX0_lostCount_31 : decode cX0_lostCount 31 = .ok (.ireturn, 1) := by decide +kernel
theorem dX0_firstLost_0 : decode cX0_firstLost 0 = .ok (.iconst 0, 1) := by decide +kernel
theorem dX0_firstLost_1 : decode cX0_firstLost 1 = .ok (.istore_n 1, 1) := by decide +kernel
theorem dX0_firstLost_2 : decode cX0_firstLost 2 = .ok (.iload_n 1, 1) := by decide +kernel
theorem dX0_firstLost_3 : decode cX0_firstLost 3 = .ok (.aload_n 0, 1) := by decide +kernel
theorem dX0_firstLost_4 : decode cX0_firstLost 4 = .ok (.getfield 71, 3) := by decide +kernel
theorem dX0_firstLost_7 : decode cX0_firstLost 7 = .ok (.if_icmp .ge 20, 3) := by decide +kernel
theorem dX0_firstLost_10 : decode cX0_firstLost 10 = .ok (.aload_n 0, 1) := by decide +kernel
theorem dX0_firstLost_11 : decode cX0_firstLost 11 = .ok (.getfield 22, 3) := by decide +kernel
theorem dX0_firstLost_14 : decode cX0_firstLost 14 = .ok (.iload_n 1, 1) := by decide +kernel
theorem dX0_firstLost_15 : decode cX0_firstLost 15 = .ok (.baload, 1) := by decide +kernel
theorem dX0_firstLost_16 : decode cX0_firstLost 16 = .ok (.ifCond .eq 5, 3) := by decide +kernel
theorem dX0_firstLost_19 : decode cX0_firstLost 19 = .ok (.iload_n 1, 1) := by decide +kernel
theorem dX0_firstLost_20 : decode cX0_firstLost 20 = .ok (.ireturn, 1) := by decide +kernel
theorem dX0_firstLost_21 : decode cX0_firstLost 21 = .ok (.iinc 1 1, 3) := by decide +kernel
theorem dX0_firstLost_24 : decode cX0_firstLost 24 = .ok (.goto (-22), 3) := by decide +kernel
theorem dX0_firstLost_27 : decode cX0_firstLost 27 = .ok (.iconst (-1), 1) := by decide +kernel
theorem dX0_firstLost_28 : decode cX0_firstLost 28 = .ok (.ireturn, 1) := by decide +kernel
set_option maxRecDepth 20000 in
theorem ggX0_pegExists_X0_inRange : GoodIn wsX0_pegExists wsX0_inRange := goodIn_r _ [5] (by decide +kernel) (by decide +kernel)
set_option maxRecDepth 20000 in
theorem gX0_pegExists_X0_inRange : GoodIn wsX0_pegExists (va_wsS RX0 35 yX0_inRange wsX0_inRange) := goodIn_app (goodIn_of _ (by decide +kernel)) ggX0_pegExists_X0_inRange
theorem dX0_pegExists_0 : decode cX0_pegExists 0 = .ok (.iload_n 1, 1) := by decide +kernel
theorem dX0_pegExists_1 : decode cX0_pegExists 1 = .ok (.iconst 0, 1) := by decide +kernel
theorem dX0_pegExists_2 : decode cX0_pegExists 2 = .ok (.aload_n 0, 1) := by decide +kernel
theorem dX0_pegExists_3 : decode cX0_pegExists 3 = .ok (.getfield 71, 3) := by decide +kernel
theorem dX0_pegExists_6 : decode cX0_pegExists 6 = .ok (.iconst 1, 1) := by decide +kernel
theorem dX0_pegExists_7 : decode cX0_pegExists 7 = .ok (.isub, 1) := by decide +kernel
theorem dX0_pegExists_8 : decode cX0_pegExists 8 = .ok (.invokestatic 35, 3) := by decide +kernel
theorem dX0_pegExists_11 : decode cX0_pegExists 11 = .ok (.ireturn, 1) := by decide +kernel
set_option maxRecDepth 20000 in
theorem ggX0_isPoint_X0_inRange : GoodIn wsX0_isPoint wsX0_inRange := goodIn_r _ [4] (by decide +kernel) (by decide +kernel)
set_option maxRecDepth 20000 in
theorem gX0_isPoint_X0_inRange : GoodIn wsX0_isPoint (va_wsS RX0 35 yX0_inRange wsX0_inRange) := goodIn_app (goodIn_of _ (by decide +kernel)) ggX0_isPoint_X0_inRange
theorem dX0_isPoint_0 : decode cX0_isPoint 0 = .ok (.iload_n 0, 1) := by decide +kernel
theorem dX0_isPoint_1 : decode cX0_isPoint 1 = .ok (.iconst 0, 1) := by decide +kernel
theorem dX0_isPoint_2 : decode cX0_isPoint 2 = .ok (.bipush 31, 2) := by decide +kernel
theorem dX0_isPoint_4 : decode cX0_isPoint 4 = .ok (.invokestatic 35, 3) := by decide +kernel
theorem dX0_isPoint_7 : decode cX0_isPoint 7 = .ok (.ireturn, 1) := by decide +kernel
set_option maxRecDepth 20000 in
theorem ggX0_isSpeed_X0_inRange : GoodIn wsX0_isSpeed wsX0_inRange := goodIn_r _ [4] (by decide +kernel) (by decide +kernel)
set_option maxRecDepth 20000 in
theorem gX0_isSpeed_X0_inRange : GoodIn wsX0_isSpeed (va_wsS RX0 35 yX0_inRange wsX0_inRange) := goodIn_app (goodIn_of _ (by decide +kernel)) ggX0_isSpeed_X0_inRange
theorem dX0_isSpeed_0 : decode cX0_isSpeed 0 = .ok (.iload_n 0, 1) := by decide +kernel
theorem dX0_isSpeed_1 : decode cX0_isSpeed 1 = .ok (.iconst 0, 1) := by decide +kernel
theorem dX0_isSpeed_2 : decode cX0_isSpeed 2 = .ok (.sipush 200, 3) := by decide +kernel
theorem dX0_isSpeed_5 : decode cX0_isSpeed 5 = .ok (.invokestatic 35, 3) := by decide +kernel
theorem dX0_isSpeed_8 : decode cX0_isSpeed 8 = .ok (.ireturn, 1) := by decide +kernel
theorem dX0_inRange_0 : decode cX0_inRange 0 = .ok (.iload_n 0, 1) := by decide +kernel
theorem dX0_inRange_1 : decode cX0_inRange 1 = .ok (.iload_n 1, 1) := by decide +kernel
theorem dX0_inRange_2 : decode cX0_inRange 2 = .ok (.if_icmp .lt 12, 3) := by decide +kernel
theorem dX0_inRange_5 : decode cX0_inRange 5 = .ok (.iload_n 0, 1) := by decide +kernel
theorem dX0_inRange_6 : decode cX0_inRange 6 = .ok (.iload_n 2, 1) := by decide +kernel
theorem dX0_inRange_7 : decode cX0_inRange 7 = .ok (.if_icmp .gt 7, 3) := by decide +kernel
theorem dX0_inRange_10 : decode cX0_inRange 10 = .ok (.iconst 1, 1) := by decide +kernel
theorem dX0_inRange_11 : decode cX0_inRange 11 = .ok (.goto 4, 3) := by decide +kernel
theorem dX0_inRange_14 : decode cX0_inRange 14 = .ok (.iconst 0, 1) := by decide +kernel
theorem dX0_inRange_15 : decode cX0_inRange 15 = .ok (.ireturn, 1) := by decide +kernel
set_option maxRecDepth 20000 in
theorem ggX0_setFix_X0_fixCanStand : GoodIn wsX0_setFix wsX0_fixCanStand := goodIn_r _ [10, 11, 12, 13, 9, 14, 24, 25, 26, 27, 28, 29, 30, 31, 32, 33, 34, 35] (by decide +kernel) (by decide +kernel)
set_option maxRecDepth 20000 in
theorem gX0_setFix_X0_fixCanStand : GoodIn wsX0_setFix (wsV RX0 121 RX0 yX0_fixCanStand wsX0_fixCanStand) := goodIn_app (goodIn_of _ (by decide +kernel)) ggX0_setFix_X0_fixCanStand
set_option maxRecDepth 20000 in
theorem ggX0_setFix_X0_isCoordinate : GoodIn wsX0_setFix wsX0_isCoordinate := goodIn_r _ [17, 18, 19, 12, 13, 9, 14] (by decide +kernel) (by decide +kernel)
set_option maxRecDepth 20000 in
theorem gX0_setFix_X0_isCoordinate : GoodIn wsX0_setFix (va_wsS RX0 126 yX0_isCoordinate wsX0_isCoordinate) := goodIn_app (goodIn_of _ (by decide +kernel)) ggX0_setFix_X0_isCoordinate
set_option maxRecDepth 20000 in
theorem ggX0_setFix_X0_fixCount : GoodIn wsX0_setFix wsX0_fixCount := goodIn_r _ [23, 11, 3, 24, 25, 26, 27, 28, 29, 30, 31, 32, 33, 34, 35] (by decide +kernel) (by decide +kernel)
set_option maxRecDepth 20000 in
theorem gX0_setFix_X0_fixCount : GoodIn wsX0_setFix (wsV RX0 129 RX0 yX0_fixCount wsX0_fixCount) := goodIn_app (goodIn_of _ (by decide +kernel)) ggX0_setFix_X0_fixCount
theorem dX0_setFix_0 : decode cX0_setFix 0 = .ok (.aload_n 0, 1) := by decide +kernel
theorem dX0_setFix_1 : decode cX0_setFix 1 = .ok (.iload_n 1, 1) := by decide +kernel
theorem dX0_setFix_2 : decode cX0_setFix 2 = .ok (.invokevirtual 121, 3) := by decide +kernel
theorem dX0_setFix_5 : decode cX0_setFix 5 = .ok (.ifCond .ne 7, 3) := by decide +kernel
theorem dX0_setFix_8 : decode cX0_setFix 8 = .ok (.ldc2_w 124, 3) := by decide +kernel
theorem dX0_setFix_11 : decode cX0_setFix 11 = .ok (.lreturn, 1) := by decide +kernel
theorem dX0_setFix_12 : decode cX0_setFix 12 = .ok (.iload_n 2, 1) := by decide +kernel
theorem dX0_setFix_13 : decode cX0_setFix 13 = .ok (.invokestatic 126, 3) := by decide +kernel
theorem dX0_setFix_16 : decode cX0_setFix 16 = .ok (.ifCond .eq 10, 3) := by decide +kernel
theorem dX0_setFix_19 : decode cX0_setFix 19 = .ok (.iload_n 3, 1) := by decide +kernel
theorem dX0_setFix_20 : decode cX0_setFix 20 = .ok (.invokestatic 126, 3) := by decide +kernel
theorem dX0_setFix_23 : decode cX0_setFix 23 = .ok (.ifCond .ne 7, 3) := by decide +kernel
theorem dX0_setFix_26 : decode cX0_setFix 26 = .ok (.ldc2_w 39, 3) := by decide +kernel
theorem dX0_setFix_29 : decode cX0_setFix 29 = .ok (.lreturn, 1) := by decide +kernel
theorem dX0_setFix_30 : decode cX0_setFix 30 = .ok (.aload_n 0, 1) := by decide +kernel
theorem dX0_setFix_31 : decode cX0_setFix 31 = .ok (.getfield 26, 3) := by decide +kernel
theorem dX0_setFix_34 : decode cX0_setFix 34 = .ok (.iload_n 1, 1) := by decide +kernel
theorem dX0_setFix_35 : decode cX0_setFix 35 = .ok (.iconst 1, 1) := by decide +kernel
theorem dX0_setFix_36 : decode cX0_setFix 36 = .ok (.bastore, 1) := by decide +kernel
theorem dX0_setFix_37 : decode cX0_setFix 37 = .ok (.aload_n 0, 1) := by decide +kernel
theorem dX0_setFix_38 : decode cX0_setFix 38 = .ok (.getfield 29, 3) := by decide +kernel
theorem dX0_setFix_41 : decode cX0_setFix 41 = .ok (.iload_n 1, 1) := by decide +kernel
theorem dX0_setFix_42 : decode cX0_setFix 42 = .ok (.iload_n 2, 1) := by decide +kernel
theorem dX0_setFix_43 : decode cX0_setFix 43 = .ok (.iastore, 1) := by decide +kernel
theorem dX0_setFix_44 : decode cX0_setFix 44 = .ok (.aload_n 0, 1) := by decide +kernel
theorem dX0_setFix_45 : decode cX0_setFix 45 = .ok (.getfield 32, 3) := by decide +kernel
theorem dX0_setFix_48 : decode cX0_setFix 48 = .ok (.iload_n 1, 1) := by decide +kernel
theorem dX0_setFix_49 : decode cX0_setFix 49 = .ok (.iload_n 3, 1) := by decide +kernel
theorem dX0_setFix_50 : decode cX0_setFix 50 = .ok (.iastore, 1) := by decide +kernel
theorem dX0_setFix_51 : decode cX0_setFix 51 = .ok (.aload_n 0, 1) := by decide +kernel
theorem dX0_setFix_52 : decode cX0_setFix 52 = .ok (.invokevirtual 129, 3) := by decide +kernel
theorem dX0_setFix_55 : decode cX0_setFix 55 = .ok (.i2l, 1) := by decide +kernel
theorem dX0_setFix_56 : decode cX0_setFix 56 = .ok (.lreturn, 1) := by decide +kernel
set_option maxRecDepth 20000 in
theorem ggX0_removeFix_X0_fixCanStand : GoodIn wsX0_removeFix wsX0_fixCanStand := goodIn_r _ [8, 9, 10, 11, 7, 12, 17, 18, 19, 20, 21, 22, 23, 24, 25, 26, 27, 28] (by decide +kernel) (by decide +kernel)
set_option maxRecDepth 20000 in
theorem gX0_removeFix_X0_fixCanStand : GoodIn wsX0_removeFix (wsV RX0 121 RX0 yX0_fixCanStand wsX0_fixCanStand) := goodIn_app (goodIn_of _ (by decide +kernel)) ggX0_removeFix_X0_fixCanStand
set_option maxRecDepth 20000 in
theorem ggX0_removeFix_X0_fixCount : GoodIn wsX0_removeFix wsX0_fixCount := goodIn_r _ [16, 9, 2, 17, 18, 19, 20, 21, 22, 23, 24, 25, 26, 27, 28] (by decide +kernel) (by decide +kernel)
set_option maxRecDepth 20000 in
theorem gX0_removeFix_X0_fixCount : GoodIn wsX0_removeFix (wsV RX0 129 RX0 yX0_fixCount wsX0_fixCount) := goodIn_app (goodIn_of _ (by decide +kernel)) ggX0_removeFix_X0_fixCount
theorem dX0_removeFix_0 : decode cX0_removeFix 0 = .ok (.aload_n 0, 1) := by decide +kernel
theorem dX0_removeFix_1 : decode cX0_removeFix 1 = .ok (.iload_n 1, 1) := by decide +kernel
theorem dX0_removeFix_2 : decode cX0_removeFix 2 = .ok (.invokevirtual 121, 3) := by decide +kernel
theorem dX0_removeFix_5 : decode cX0_removeFix 5 = .ok (.ifCond .ne 7, 3) := by decide +kernel
theorem dX0_removeFix_8 : decode cX0_removeFix 8 = .ok (.ldc2_w 124, 3) := by decide +kernel
theorem dX0_removeFix_11 : decode cX0_removeFix 11 = .ok (.lreturn, 1) := by decide +kernel
theorem dX0_removeFix_12 : decode cX0_removeFix 12 = .ok (.aload_n 0, 1) := by decide +kernel
theorem dX0_removeFix_13 : decode cX0_removeFix 13 = .ok (.getfield 26, 3) := by decide +kernel
theorem dX0_removeFix_16 : decode cX0_removeFix 16 = .ok (.iload_n 1, 1) := by decide +kernel
theorem dX0_removeFix_17 : decode cX0_removeFix 17 = .ok (.baload, 1) := by decide +kernel
theorem dX0_removeFix_18 : decode cX0_removeFix 18 = .ok (.ifCond .ne 7, 3) := by decide +kernel
theorem dX0_removeFix_21 : decode cX0_removeFix 21 = .ok (.ldc2_w 108, 3) := by decide +kernel
theorem dX0_removeFix_24 : decode cX0_removeFix 24 = .ok (.lreturn, 1) := by decide +kernel
theorem dX0_removeFix_25 : decode cX0_removeFix 25 = .ok (.aload_n 0, 1) := by decide +kernel
theorem dX0_removeFix_26 : decode cX0_removeFix 26 = .ok (.getfield 26, 3) := by decide +kernel
theorem dX0_removeFix_29 : decode cX0_removeFix 29 = .ok (.iload_n 1, 1) := by decide +kernel
theorem dX0_removeFix_30 : decode cX0_removeFix 30 = .ok (.iconst 0, 1) := by decide +kernel
theorem dX0_removeFix_31 : decode cX0_removeFix 31 = .ok (.bastore, 1) := by decide +kernel
theorem dX0_removeFix_32 : decode cX0_removeFix 32 = .ok (.aload_n 0, 1) := by decide +kernel
theorem dX0_removeFix_33 : decode cX0_removeFix 33 = .ok (.invokevirtual 129, 3) := by decide +kernel
theorem dX0_removeFix_36 : decode cX0_removeFix 36 = .ok (.i2l, 1) := by decide +kernel
theorem dX0_removeFix_37 : decode cX0_removeFix 37 = .ok (.lreturn, 1) := by decide +kernel
theorem dX0_fixCount_0 : decode cX0_fixCount 0 = .ok (.iconst 0, 1) := by decide +kernel
theorem dX0_fixCount_1 : decode cX0_fixCount 1 = .ok (.istore_n 1, 1) := by decide +kernel
theorem dX0_fixCount_2 : decode cX0_fixCount 2 = .ok (.iconst 0, 1) := by decide +kernel
theorem dX0_fixCount_3 : decode cX0_fixCount 3 = .ok (.istore_n 2, 1) := by decide +kernel
theorem dX0_fixCount_4 : decode cX0_fixCount 4 = .ok (.iload_n 2, 1) := by decide +kernel
theorem dX0_fixCount_5 : decode cX0_fixCount 5 = .ok (.aload_n 0, 1) := by decide +kernel
theorem dX0_fixCount_6 : decode cX0_fixCount 6 = .ok (.getfield 71, 3) := by decide +kernel
theorem dX0_fixCount_9 : decode cX0_fixCount 9 = .ok (.if_icmp .gt 21, 3) := by decide +kernel
theorem dX0_fixCount_12 : decode cX0_fixCount 12 = .ok (.aload_n 0, 1) := by decide +kernel
theorem dX0_fixCount_13 : decode cX0_fixCount 13 = .ok (.getfield 26, 3) := by decide +kernel
theorem dX0_fixCount_16 : decode cX0_fixCount 16 = .ok (.iload_n 2, 1) := by decide +kernel
theorem dX0_fixCount_17 : decode cX0_fixCount 17 = .ok (.baload, 1) := by decide +kernel
theorem dX0_fixCount_18 : decode cX0_fixCount 18 = .ok (.ifCond .eq 6, 3) := by decide +kernel
theorem dX0_fixCount_21 : decode cX0_fixCount 21 = .ok (.iinc 1 1, 3) := by decide +kernel
theorem dX0_fixCount_24 : decode cX0_fixCount 24 = .ok (.iinc 2 1, 3) := by decide +kernel
theorem dX0_fixCount_27 : decode cX0_fixCount 27 = .ok (.goto (-23), 3) := by decide +kernel
theorem dX0_fixCount_30 : decode cX0_fixCount 30 = .ok (.iload_n 1, 1) := by decide +kernel
theorem dX0_fixCount_31 : decode cX0_fixCount 31 = .ok (.ireturn, 1) := by decide +kernel
theorem dX0_lastFix_0 : decode cX0_lastFix 0 = .ok (.iload_n 1, 1) := by decide +kernel
theorem dX0_lastFix_1 : decode cX0_lastFix 1 = .ok (.istore_n 2, 1) := by decide +kernel
theorem dX0_lastFix_2 : decode cX0_lastFix 2 = .ok (.iload_n 2, 1) := by decide +kernel
theorem dX0_lastFix_3 : decode cX0_lastFix 3 = .ok (.ifCond .le 18, 3) := by decide +kernel
theorem dX0_lastFix_6 : decode cX0_lastFix 6 = .ok (.aload_n 0, 1) := by decide +kernel
theorem dX0_lastFix_7 : decode cX0_lastFix 7 = .ok (.getfield 26, 3) := by decide +kernel
theorem dX0_lastFix_10 : decode cX0_lastFix 10 = .ok (.iload_n 2, 1) := by decide +kernel
theorem dX0_lastFix_11 : decode cX0_lastFix 11 = .ok (.baload, 1) := by decide +kernel
theorem dX0_lastFix_12 : decode cX0_lastFix 12 = .ok (.ifCond .ne 9, 3) := by decide +kernel
theorem dX0_lastFix_15 : decode cX0_lastFix 15 = .ok (.iinc 2 (-1), 3) := by decide +kernel
theorem dX0_lastFix_18 : decode cX0_lastFix 18 = .ok (.goto (-16), 3) := by decide +kernel
theorem dX0_lastFix_21 : decode cX0_lastFix 21 = .ok (.iload_n 2, 1) := by decide +kernel
theorem dX0_lastFix_22 : decode cX0_lastFix 22 = .ok (.ireturn, 1) := by decide +kernel
theorem dX0_firstFixAfter_0 : decode cX0_firstFixAfter 0 = .ok (.iload_n 1, 1) := by decide +kernel
theorem dX0_firstFixAfter_1 : decode cX0_firstFixAfter 1 = .ok (.iconst 1, 1) := by decide +kernel
theorem dX0_firstFixAfter_2 : decode cX0_firstFixAfter 2 = .ok (.iadd, 1) := by decide +kernel
theorem dX0_firstFixAfter_3 : decode cX0_firstFixAfter 3 = .ok (.istore_n 2, 1) := by decide +kernel
theorem dX0_firstFixAfter_4 : decode cX0_firstFixAfter 4 = .ok (.iload_n 2, 1) := by decide +kernel
theorem dX0_firstFixAfter_5 : decode cX0_firstFixAfter 5 = .ok (.aload_n 0, 1) := by decide +kernel
theorem dX0_firstFixAfter_6 : decode cX0_firstFixAfter 6 = .ok (.getfield 71, 3) := by decide +kernel
theorem dX0_firstFixAfter_9 : decode cX0_firstFixAfter 9 = .ok (.if_icmp .gt 20, 3) := by decide +kernel
theorem dX0_firstFixAfter_12 : decode cX0_firstFixAfter 12 = .ok (.aload_n 0, 1) := by decide +kernel
theorem dX0_firstFixAfter_13 : decode cX0_firstFixAfter 13 = .ok (.getfield 26, 3) := by decide +kernel
theorem dX0_firstFixAfter_16 : decode cX0_firstFixAfter 16 = .ok (.iload_n 2, 1) := by decide +kernel
theorem dX0_firstFixAfter_17 : decode cX0_firstFixAfter 17 = .ok (.baload, 1) := by decide +kernel
theorem dX0_firstFixAfter_18 : decode cX0_firstFixAfter 18 = .ok (.ifCond .eq 5, 3) := by decide +kernel
theorem dX0_firstFixAfter_21 : decode cX0_firstFixAfter 21 = .ok (.iload_n 2, 1) := by decide +kernel
theorem dX0_firstFixAfter_22 : decode cX0_firstFixAfter 22 = .ok (.ireturn, 1) := by decide +kernel
theorem dX0_firstFixAfter_23 : decode cX0_firstFixAfter 23 = .ok (.iinc 2 1, 3) := by decide +kernel
theorem dX0_firstFixAfter_26 : decode cX0_firstFixAfter 26 = .ok (.goto (-22), 3) := by decide +kernel
theorem dX0_firstFixAfter_29 : decode cX0_firstFixAfter 29 = .ok (.iconst (-1), 1) := by decide +kernel
theorem dX0_firstFixAfter_30 : decode cX0_firstFixAfter 30 = .ok (.ireturn, 1) := by decide +kernel
theorem dX0_fix_0 : decode cX0_fix 0 = .ok (.iload_n 2, 1) := by decide +kernel
theorem dX0_fix_1 : decode cX0_fix 1 = .ok (.bipush 8, 2) := by decide +kernel
theorem dX0_fix_3 : decode cX0_fix 3 = .ok (.if_icmp .ne 12, 3) := by decide +kernel
theorem dX0_fix_6 : decode cX0_fix 6 = .ok (.aload_n 0, 1) := by decide +kernel
theorem dX0_fix_7 : decode cX0_fix 7 = .ok (.getfield 29, 3) := by decide +kernel
theorem dX0_fix_10 : decode cX0_fix 10 = .ok (.iload_n 1, 1) := by decide +kernel
theorem dX0_fix_11 : decode cX0_fix 11 = .ok (.iaload, 1) := by decide +kernel
theorem dX0_fix_12 : decode cX0_fix 12 = .ok (.goto 9, 3) := by decide +kernel
theorem dX0_fix_15 : decode cX0_fix 15 = .ok (.aload_n 0, 1) := by decide +kernel
theorem dX0_fix_16 : decode cX0_fix 16 = .ok (.getfield 32, 3) := by decide +kernel
theorem dX0_fix_19 : decode cX0_fix 19 = .ok (.iload_n 1, 1) := by decide +kernel
theorem dX0_fix_20 : decode cX0_fix 20 = .ok (.iaload, 1) := by decide +kernel
theorem dX0_fix_21 : decode cX0_fix 21 = .ok (.ireturn, 1) := by decide +kernel
set_option maxRecDepth 20000 in
theorem ggX0_momentExists_X0_inRange : GoodIn wsX0_momentExists wsX0_inRange := goodIn_r _ [5] (by decide +kernel) (by decide +kernel)
set_option maxRecDepth 20000 in
theorem gX0_momentExists_X0_inRange : GoodIn wsX0_momentExists (va_wsS RX0 35 yX0_inRange wsX0_inRange) := goodIn_app (goodIn_of _ (by decide +kernel)) ggX0_momentExists_X0_inRange
theorem dX0_momentExists_0 : decode cX0_momentExists 0 = .ok (.iload_n 1, 1) := by decide +kernel
theorem dX0_momentExists_1 : decode cX0_momentExists 1 = .ok (.iconst 0, 1) := by decide +kernel
theorem dX0_momentExists_2 : decode cX0_momentExists 2 = .ok (.aload_n 0, 1) := by decide +kernel
theorem dX0_momentExists_3 : decode cX0_momentExists 3 = .ok (.getfield 71, 3) := by decide +kernel
theorem dX0_momentExists_6 : decode cX0_momentExists 6 = .ok (.invokestatic 35, 3) := by decide +kernel
theorem dX0_momentExists_9 : decode cX0_momentExists 9 = .ok (.ireturn, 1) := by decide +kernel
set_option maxRecDepth 20000 in
theorem ggX0_fixCanStand_X0_inRange : GoodIn wsX0_fixCanStand wsX0_inRange := goodIn_r _ [5] (by decide +kernel) (by decide +kernel)
set_option maxRecDepth 20000 in
theorem gX0_fixCanStand_X0_inRange : GoodIn wsX0_fixCanStand (va_wsS RX0 35 yX0_inRange wsX0_inRange) := goodIn_app (goodIn_of _ (by decide +kernel)) ggX0_fixCanStand_X0_inRange
theorem dX0_fixCanStand_0 : decode cX0_fixCanStand 0 = .ok (.iload_n 1, 1) := by decide +kernel
theorem dX0_fixCanStand_1 : decode cX0_fixCanStand 1 = .ok (.iconst 1, 1) := by decide +kernel
theorem dX0_fixCanStand_2 : decode cX0_fixCanStand 2 = .ok (.aload_n 0, 1) := by decide +kernel
theorem dX0_fixCanStand_3 : decode cX0_fixCanStand 3 = .ok (.getfield 71, 3) := by decide +kernel
theorem dX0_fixCanStand_6 : decode cX0_fixCanStand 6 = .ok (.invokestatic 35, 3) := by decide +kernel
theorem dX0_fixCanStand_9 : decode cX0_fixCanStand 9 = .ok (.ireturn, 1) := by decide +kernel
set_option maxRecDepth 20000 in
theorem ggX0_isCoordinate_X0_inRange : GoodIn wsX0_isCoordinate wsX0_inRange := goodIn_r _ [6] (by decide +kernel) (by decide +kernel)
set_option maxRecDepth 20000 in
theorem gX0_isCoordinate_X0_inRange : GoodIn wsX0_isCoordinate (va_wsS RX0 35 yX0_inRange wsX0_inRange) := goodIn_app (goodIn_of _ (by decide +kernel)) ggX0_isCoordinate_X0_inRange
theorem dX0_isCoordinate_0 : decode cX0_isCoordinate 0 = .ok (.iload_n 0, 1) := by decide +kernel
theorem dX0_isCoordinate_1 : decode cX0_isCoordinate 1 = .ok (.ldc 132, 2) := by decide +kernel
theorem dX0_isCoordinate_3 : decode cX0_isCoordinate 3 = .ok (.ldc 133, 2) := by decide +kernel
theorem dX0_isCoordinate_5 : decode cX0_isCoordinate 5 = .ok (.invokestatic 35, 3) := by decide +kernel
theorem dX0_isCoordinate_8 : decode cX0_isCoordinate 8 = .ok (.ireturn, 1) := by decide +kernel
set_option maxRecDepth 20000 in
theorem ggX0_reckonedNorth_X0_momentExists : GoodIn wsX0_reckonedNorth wsX0_momentExists := goodIn_r _ [6, 7, 8, 9, 5, 10, 44, 45, 46, 47, 48, 49, 50, 51, 52, 53, 54, 55] (by decide +kernel) (by decide +kernel)
set_option maxRecDepth 20000 in
theorem gX0_reckonedNorth_X0_momentExists : GoodIn wsX0_reckonedNorth (wsV RX0 134 RX0 yX0_momentExists wsX0_momentExists) := goodIn_app (goodIn_of _ (by decide +kernel)) ggX0_reckonedNorth_X0_momentExists
set_option maxRecDepth 20000 in
theorem ggX0_reckonedNorth_X0_reckoned : GoodIn wsX0_reckonedNorth wsX0_reckoned := goodIn_r _ [14, 15, 16, 17, 5, 18, 19, 20, 21, 22, 23, 24, 25, 26, 27, 28, 29, 30, 31, 32, 33, 34, 35, 36, 37, 38, 39, 40, 41, 42, 43, 44, 45, 46, 47, 48, 49, 50, 51, 52, 53, 54, 55] (by decide +kernel) (by decide +kernel)
set_option maxRecDepth 20000 in
theorem gX0_reckonedNorth_X0_reckoned : GoodIn wsX0_reckonedNorth (wsV RX0 137 RX0 yX0_reckoned wsX0_reckoned) := goodIn_app (goodIn_of _ (by decide +kernel)) ggX0_reckonedNorth_X0_reckoned
theorem dX0_reckonedNorth_0 : decode cX0_reckonedNorth 0 = .ok (.aload_n 0, 1) := by decide +kernel
theorem dX0_reckonedNorth_1 : decode cX0_reckonedNorth 1 = .ok (.iload_n 1, 1) := by decide +kernel
theorem dX0_reckonedNorth_2 : decode cX0_reckonedNorth 2 = .ok (.invokevirtual 134, 3) := by decide +kernel
theorem dX0_reckonedNorth_5 : decode cX0_reckonedNorth 5 = .ok (.ifCond .eq 13, 3) := by decide +kernel
theorem dX0_reckonedNorth_8 : decode cX0_reckonedNorth 8 = .ok (.aload_n 0, 1) := by decide +kernel
theorem dX0_reckonedNorth_9 : decode cX0_reckonedNorth 9 = .ok (.iload_n 1, 1) := by decide +kernel
theorem dX0_reckonedNorth_10 : decode cX0_reckonedNorth 10 = .ok (.bipush 8, 2) := by decide +kernel
theorem dX0_reckonedNorth_12 : decode cX0_reckonedNorth 12 = .ok (.invokevirtual 137, 3) := by decide +kernel
theorem dX0_reckonedNorth_15 : decode cX0_reckonedNorth 15 = .ok (.goto 6, 3) := by decide +kernel
theorem dX0_reckonedNorth_18 : decode cX0_reckonedNorth 18 = .ok (.ldc2_w 124, 3) := by decide +kernel
theorem dX0_reckonedNorth_21 : decode cX0_reckonedNorth 21 = .ok (.lreturn, 1) := by decide +kernel
set_option maxRecDepth 20000 in
theorem ggX0_reckonedEast_X0_momentExists : GoodIn wsX0_reckonedEast wsX0_momentExists := goodIn_r _ [6, 7, 8, 9, 5, 10, 44, 45, 46, 47, 48, 49, 50, 51, 52, 53, 54, 55] (by decide +kernel) (by decide +kernel)
set_option maxRecDepth 20000 in
theorem gX0_reckonedEast_X0_momentExists : GoodIn wsX0_reckonedEast (wsV RX0 134 RX0 yX0_momentExists wsX0_momentExists) := goodIn_app (goodIn_of _ (by decide +kernel)) ggX0_reckonedEast_X0_momentExists
set_option maxRecDepth 20000 in
theorem ggX0_reckonedEast_X0_reckoned : GoodIn wsX0_reckonedEast wsX0_reckoned := goodIn_r _ [14, 15, 16, 17, 5, 18, 19, 20, 21, 22, 23, 24, 25, 26, 27, 28, 29, 30, 31, 32, 33, 34, 35, 36, 37, 38, 39, 40, 41, 42, 43, 44, 45, 46, 47, 48, 49, 50, 51, 52, 53, 54, 55] (by decide +kernel) (by decide +kernel)
set_option maxRecDepth 20000 in
theorem gX0_reckonedEast_X0_reckoned : GoodIn wsX0_reckonedEast (wsV RX0 137 RX0 yX0_reckoned wsX0_reckoned) := goodIn_app (goodIn_of _ (by decide +kernel)) ggX0_reckonedEast_X0_reckoned
theorem dX0_reckonedEast_0 : decode cX0_reckonedEast 0 = .ok (.aload_n 0, 1) := by decide +kernel
theorem dX0_reckonedEast_1 : decode cX0_reckonedEast 1 = .ok (.iload_n 1, 1) := by decide +kernel
theorem dX0_reckonedEast_2 : decode cX0_reckonedEast 2 = .ok (.invokevirtual 134, 3) := by decide +kernel
theorem dX0_reckonedEast_5 : decode cX0_reckonedEast 5 = .ok (.ifCond .eq 12, 3) := by decide +kernel
theorem dX0_reckonedEast_8 : decode cX0_reckonedEast 8 = .ok (.aload_n 0, 1) := by decide +kernel
theorem dX0_reckonedEast_9 : decode cX0_reckonedEast 9 = .ok (.iload_n 1, 1) := by decide +kernel
theorem dX0_reckonedEast_10 : decode cX0_reckonedEast 10 = .ok (.iconst 0, 1) := by decide +kernel
theorem dX0_reckonedEast_11 : decode cX0_reckonedEast 11 = .ok (.invokevirtual 137, 3) := by decide +kernel
theorem dX0_reckonedEast_14 : decode cX0_reckonedEast 14 = .ok (.goto 6, 3) := by decide +kernel
theorem dX0_reckonedEast_17 : decode cX0_reckonedEast 17 = .ok (.ldc2_w 124, 3) := by decide +kernel
theorem dX0_reckonedEast_20 : decode cX0_reckonedEast 20 = .ok (.lreturn, 1) := by decide +kernel
set_option maxRecDepth 20000 in
theorem ggX0_correctedNorth_X0_momentExists : GoodIn wsX0_correctedNorth wsX0_momentExists := goodIn_r _ [6, 7, 8, 9, 5, 10, 59, 60, 61, 62, 63, 64, 65, 66, 67, 68, 69, 70] (by decide +kernel) (by decide +kernel)
set_option maxRecDepth 20000 in
theorem gX0_correctedNorth_X0_momentExists : GoodIn wsX0_correctedNorth (wsV RX0 134 RX0 yX0_momentExists wsX0_momentExists) := goodIn_app (goodIn_of _ (by decide +kernel)) ggX0_correctedNorth_X0_momentExists
set_option maxRecDepth 20000 in
theorem ggX0_correctedNorth_X0_corrected : GoodIn wsX0_correctedNorth wsX0_corrected := goodIn_r _ [14, 15, 16, 17, 5, 18, 19, 20, 21, 22, 23, 7, 24, 25, 26, 27, 28, 29, 30, 31, 32, 33, 34, 35, 36, 37, 38, 39, 40, 41, 42, 43, 44, 45, 46, 47, 48, 49, 50, 51, 52, 53, 54, 55, 56, 57, 58, 59, 60, 61, 62, 63, 64, 65, 66, 67, 68, 69, 70] (by decide +kernel) (by decide +kernel)
set_option maxRecDepth 20000 in
theorem gX0_correctedNorth_X0_corrected : GoodIn wsX0_correctedNorth (wsV RX0 141 RX0 yX0_corrected wsX0_corrected) := goodIn_app (goodIn_of _ (by decide +kernel)) ggX0_correctedNorth_X0_corrected
theorem dX0_correctedNorth_0 : decode cX0_correctedNorth 0 = .ok (.aload_n 0, 1) := by decide +kernel
theorem dX0_correctedNorth_1 : decode cX0_correctedNorth 1 = .ok (.iload_n 1, 1) := by decide +kernel
theorem dX0_correctedNorth_2 : decode cX0_correctedNorth 2 = .ok (.invokevirtual 134, 3) := by decide +kernel
theorem dX0_correctedNorth_5 : decode cX0_correctedNorth 5 = .ok (.ifCond .eq 13, 3) := by decide +kernel
theorem dX0_correctedNorth_8 : decode cX0_correctedNorth 8 = .ok (.aload_n 0, 1) := by decide +kernel
theorem dX0_correctedNorth_9 : decode cX0_correctedNorth 9 = .ok (.iload_n 1, 1) := by decide +kernel
theorem dX0_correctedNorth_10 : decode cX0_correctedNorth 10 = .ok (.bipush 8, 2) := by decide +kernel
theorem dX0_correctedNorth_12 : decode cX0_correctedNorth 12 = .ok (.invokevirtual 141, 3) := by decide +kernel
theorem dX0_correctedNorth_15 : decode cX0_correctedNorth 15 = .ok (.goto 6, 3) := by decide +kernel
theorem dX0_correctedNorth_18 : decode cX0_correctedNorth 18 = .ok (.ldc2_w 124, 3) := by decide +kernel
theorem dX0_correctedNorth_21 : decode cX0_correctedNorth 21 = .ok (.lreturn, 1) := by decide +kernel
set_option maxRecDepth 20000 in
theorem ggX0_correctedEast_X0_momentExists : GoodIn wsX0_correctedEast wsX0_momentExists := goodIn_r _ [6, 7, 8, 9, 5, 10, 59, 60, 61, 62, 63, 64, 65, 66, 67, 68, 69, 70] (by decide +kernel) (by decide +kernel)
set_option maxRecDepth 20000 in
theorem gX0_correctedEast_X0_momentExists : GoodIn wsX0_correctedEast (wsV RX0 134 RX0 yX0_momentExists wsX0_momentExists) := goodIn_app (goodIn_of _ (by decide +kernel)) ggX0_correctedEast_X0_momentExists
set_option maxRecDepth 20000 in
theorem ggX0_correctedEast_X0_corrected : GoodIn wsX0_correctedEast wsX0_corrected := goodIn_r _ [14, 15, 16, 17, 5, 18, 19, 20, 21, 22, 23, 7, 24, 25, 26, 27, 28, 29, 30, 31, 32, 33, 34, 35, 36, 37, 38, 39, 40, 41, 42, 43, 44, 45, 46, 47, 48, 49, 50, 51, 52, 53, 54, 55, 56, 57, 58, 59, 60, 61, 62, 63, 64, 65, 66, 67, 68, 69, 70] (by decide +kernel) (by decide +kernel)
set_option maxRecDepth 20000 in
theorem gX0_correctedEast_X0_corrected : GoodIn wsX0_correctedEast (wsV RX0 141 RX0 yX0_corrected wsX0_corrected) := goodIn_app (goodIn_of _ (by decide +kernel)) ggX0_correctedEast_X0_corrected
theorem dX0_correctedEast_0 : decode cX0_correctedEast 0 = .ok (.aload_n 0, 1) := by decide +kernel
theorem dX0_correctedEast_1 : decode cX0_correctedEast 1 = .ok (.iload_n 1, 1) := by decide +kernel
theorem dX0_correctedEast_2 : decode cX0_correctedEast 2 = .ok (.invokevirtual 134, 3) := by decide +kernel
theorem dX0_correctedEast_5 : decode cX0_correctedEast 5 = .ok (.ifCond .eq 12, 3) := by decide +kernel
theorem dX0_correctedEast_8 : decode cX0_correctedEast 8 = .ok (.aload_n 0, 1) := by decide +kernel
theorem dX0_correctedEast_9 : decode cX0_correctedEast 9 = .ok (.iload_n 1, 1) := by decide +kernel
theorem dX0_correctedEast_10 : decode cX0_correctedEast 10 = .ok (.iconst 0, 1) := by decide +kernel
theorem dX0_correctedEast_11 : decode cX0_correctedEast 11 = .ok (.invokevirtual 141, 3) := by decide +kernel
theorem dX0_correctedEast_14 : decode cX0_correctedEast 14 = .ok (.goto 6, 3) := by decide +kernel
theorem dX0_correctedEast_17 : decode cX0_correctedEast 17 = .ok (.ldc2_w 124, 3) := by decide +kernel
theorem dX0_correctedEast_20 : decode cX0_correctedEast 20 = .ok (.lreturn, 1) := by decide +kernel
set_option maxRecDepth 20000 in
theorem ggX0_distance_X0_momentExists : GoodIn wsX0_distance wsX0_momentExists := goodIn_r _ [6, 7, 8, 9, 5, 10, 69, 70, 71, 72, 73, 74, 75, 76, 77, 78, 79, 80] (by decide +kernel) (by decide +kernel)
set_option maxRecDepth 20000 in
theorem gX0_distance_X0_momentExists : GoodIn wsX0_distance (wsV RX0 134 RX0 yX0_momentExists wsX0_momentExists) := goodIn_app (goodIn_of _ (by decide +kernel)) ggX0_distance_X0_momentExists
set_option maxRecDepth 20000 in
theorem ggX0_distance_X0_difference : GoodIn wsX0_distance wsX0_difference := goodIn_r _ [14, 15, 16, 17, 5, 18, 19, 20, 21, 22, 23, 24, 25, 26, 27, 7, 28, 29, 30, 31, 32, 33, 34, 35, 36, 37, 38, 39, 40, 41, 42, 43, 44, 45, 46, 47, 48, 49, 50, 51, 52, 53, 54, 55, 56, 57, 58, 59, 60, 61, 62, 69, 70, 71, 72, 73, 74, 75, 76, 77, 78, 79, 80] (by decide +kernel) (by decide +kernel)
set_option maxRecDepth 20000 in
theorem gX0_distance_X0_difference : GoodIn wsX0_distance (wsV RX0 144 RX0 yX0_difference wsX0_difference) := goodIn_app (goodIn_of _ (by decide +kernel)) ggX0_distance_X0_difference
set_option maxRecDepth 20000 in
theorem ggX0_distance_X0_squares : GoodIn wsX0_distance wsX0_squares := goodIn_r _ [65] (by decide +kernel) (by decide +kernel)
set_option maxRecDepth 20000 in
theorem gX0_distance_X0_squares : GoodIn wsX0_distance (va_wsS RX0 148 yX0_squares wsX0_squares) := goodIn_app (goodIn_of _ (by decide +kernel)) ggX0_distance_X0_squares
set_option maxRecDepth 20000 in
theorem ggX0_distance_X0_root : GoodIn wsX0_distance wsX0_root := goodIn_r _ [68] (by decide +kernel) (by decide +kernel)
set_option maxRecDepth 20000 in
theorem gX0_distance_X0_root : GoodIn wsX0_distance (va_wsS RX0 152 yX0_root wsX0_root) := goodIn_app (goodIn_of _ (by decide +kernel)) ggX0_distance_X0_root
theorem dX0_distance_0 : decode cX0_distance 0 = .ok (.aload_n 0, 1) := by decide +kernel
theorem dX0_distance_1 : decode cX0_distance 1 = .ok (.iload_n 1, 1) := by decide +kernel
theorem dX0_distance_2 : decode cX0_distance 2 = .ok (.invokevirtual 134, 3) := by decide +kernel
theorem dX0_distance_5 : decode cX0_distance 5 = .ok (.ifCond .eq 11, 3) := by decide +kernel
theorem dX0_distance_8 : decode cX0_distance 8 = .ok (.aload_n 0, 1) := by decide +kernel
theorem dX0_distance_9 : decode cX0_distance 9 = .ok (.iload_n 2, 1) := by decide +kernel
theorem dX0_distance_10 : decode cX0_distance 10 = .ok (.invokevirtual 134, 3) := by decide +kernel
theorem dX0_distance_13 : decode cX0_distance 13 = .ok (.ifCond .ne 7, 3) := by decide +kernel
theorem dX0_distance_16 : decode cX0_distance 16 = .ok (.ldc2_w 124, 3) := by decide +kernel
theorem dX0_distance_19 : decode cX0_distance 19 = .ok (.lreturn, 1) := by decide +kernel
theorem dX0_distance_20 : decode cX0_distance 20 = .ok (.aload_n 0, 1) := by decide +kernel
theorem dX0_distance_21 : decode cX0_distance 21 = .ok (.iload_n 1, 1) := by decide +kernel
theorem dX0_distance_22 : decode cX0_distance 22 = .ok (.iload_n 2, 1) := by decide +kernel
theorem dX0_distance_23 : decode cX0_distance 23 = .ok (.bipush 8, 2) := by decide +kernel
theorem dX0_distance_25 : decode cX0_distance 25 = .ok (.invokevirtual 144, 3) := by decide +kernel
theorem dX0_distance_28 : decode cX0_distance 28 = .ok (.aload_n 0, 1) := by decide +kernel
theorem dX0_distance_29 : decode cX0_distance 29 = .ok (.iload_n 1, 1) := by decide +kernel
theorem dX0_distance_30 : decode cX0_distance 30 = .ok (.iload_n 2, 1) := by decide +kernel
theorem dX0_distance_31 : decode cX0_distance 31 = .ok (.iconst 0, 1) := by decide +kernel
theorem dX0_distance_32 : decode cX0_distance 32 = .ok (.invokevirtual 144, 3) := by decide +kernel
theorem dX0_distance_35 : decode cX0_distance 35 = .ok (.invokestatic 148, 3) := by decide +kernel
theorem dX0_distance_38 : decode cX0_distance 38 = .ok (.invokestatic 152, 3) := by decide +kernel
theorem dX0_distance_41 : decode cX0_distance 41 = .ok (.lreturn, 1) := by decide +kernel
set_option maxRecDepth 20000 in
theorem ggX0_bearing_X0_momentExists : GoodIn wsX0_bearing wsX0_momentExists := goodIn_r _ [7, 8, 9, 10, 6, 11, 70, 71, 72, 73, 74, 75, 76, 77, 78, 79, 80, 81] (by decide +kernel) (by decide +kernel)
set_option maxRecDepth 20000 in
theorem gX0_bearing_X0_momentExists : GoodIn wsX0_bearing (wsV RX0 134 RX0 yX0_momentExists wsX0_momentExists) := goodIn_app (goodIn_of _ (by decide +kernel)) ggX0_bearing_X0_momentExists
set_option maxRecDepth 20000 in
theorem ggX0_bearing_X0_difference : GoodIn wsX0_bearing wsX0_difference := goodIn_r _ [15, 16, 17, 18, 6, 19, 20, 21, 22, 23, 24, 25, 26, 27, 28, 8, 29, 30, 31, 32, 33, 34, 35, 36, 37, 38, 39, 40, 41, 42, 43, 44, 45, 46, 47, 48, 49, 50, 51, 52, 53, 54, 55, 56, 57, 58, 59, 60, 61, 62, 63, 70, 71, 72, 73, 74, 75, 76, 77, 78, 79, 80, 81] (by decide +kernel) (by decide +kernel)
set_option maxRecDepth 20000 in
theorem gX0_bearing_X0_difference : GoodIn wsX0_bearing (wsV RX0 144 RX0 yX0_difference wsX0_difference) := goodIn_app (goodIn_of _ (by decide +kernel)) ggX0_bearing_X0_difference
set_option maxRecDepth 20000 in
theorem ggX0_bearing_X0_nearestPoint : GoodIn wsX0_bearing wsX0_nearestPoint := goodIn_r _ [66, 67, 68, 6, 69, 49, 50, 51, 52, 53, 54, 55, 56] (by decide +kernel) (by decide +kernel)
set_option maxRecDepth 20000 in
theorem gX0_bearing_X0_nearestPoint : GoodIn wsX0_bearing (va_wsS RX0 156 yX0_nearestPoint wsX0_nearestPoint) := goodIn_app (goodIn_of _ (by decide +kernel)) ggX0_bearing_X0_nearestPoint
theorem dX0_bearing_0 : decode cX0_bearing 0 = .ok (.aload_n 0, 1) := by decide +kernel
theorem dX0_bearing_1 : decode cX0_bearing 1 = .ok (.iload_n 1, 1) := by decide +kernel
theorem dX0_bearing_2 : decode cX0_bearing 2 = .ok (.invokevirtual 134, 3) := by decide +kernel
theorem dX0_bearing_5 : decode cX0_bearing 5 = .ok (.ifCond .eq 11, 3) := by decide +kernel
theorem dX0_bearing_8 : decode cX0_bearing 8 = .ok (.aload_n 0, 1) := by decide +kernel
theorem dX0_bearing_9 : decode cX0_bearing 9 = .ok (.iload_n 2, 1) := by decide +kernel
theorem dX0_bearing_10 : decode cX0_bearing 10 = .ok (.invokevirtual 134, 3) := by decide +kernel
theorem dX0_bearing_13 : decode cX0_bearing 13 = .ok (.ifCond .ne 7, 3) := by decide +kernel
theorem dX0_bearing_16 : decode cX0_bearing 16 = .ok (.ldc2_w 124, 3) := by decide +kernel
theorem dX0_bearing_19 : decode cX0_bearing 19 = .ok (.lreturn, 1) := by decide +kernel
theorem dX0_bearing_20 : decode cX0_bearing 20 = .ok (.aload_n 0, 1) := by decide +kernel
theorem dX0_bearing_21 : decode cX0_bearing 21 = .ok (.iload_n 1, 1) := by decide +kernel
theorem dX0_bearing_22 : decode cX0_bearing 22 = .ok (.iload_n 2, 1) := by decide +kernel
theorem dX0_bearing_23 : decode cX0_bearing 23 = .ok (.bipush 8, 2) := by decide +kernel
theorem dX0_bearing_25 : decode cX0_bearing 25 = .ok (.invokevirtual 144, 3) := by decide +kernel
theorem dX0_bearing_28 : decode cX0_bearing 28 = .ok (.lstore_n 3, 1) := by decide +kernel
theorem dX0_bearing_29 : decode cX0_bearing 29 = .ok (.aload_n 0, 1) := by decide +kernel
theorem dX0_bearing_30 : decode cX0_bearing 30 = .ok (.iload_n 1, 1) := by decide +kernel
theorem dX0_bearing_31 : decode cX0_bearing 31 = .ok (.iload_n 2, 1) := by decide +kernel
theorem dX0_bearing_32 : decode cX0_bearing 32 = .ok (.iconst 0, 1) := by decide +kernel
theorem dX0_bearing_33 : decode cX0_bearing 33 = .ok (.invokevirtual 144, 3) := by decide +kernel
theorem dX0_bearing_36 : decode cX0_bearing 36 = .ok (.lstore 5, 2) := by decide +kernel
theorem dX0_bearing_38 : decode cX0_bearing 38 = .ok (.lload_n 3, 1) := by decide +kernel
theorem dX0_bearing_39 : decode cX0_bearing 39 = .ok (.lconst 0, 1) := by decide +kernel
theorem dX0_bearing_40 : decode cX0_bearing 40 = .ok (.lcmp, 1) := by decide +kernel
theorem dX0_bearing_41 : decode cX0_bearing 41 = .ok (.ifCond .ne 14, 3) := by decide +kernel
theorem dX0_bearing_44 : decode cX0_bearing 44 = .ok (.lload 5, 2) := by decide +kernel
theorem dX0_bearing_46 : decode cX0_bearing 46 = .ok (.lconst 0, 1) := by decide +kernel
theorem dX0_bearing_47 : decode cX0_bearing 47 = .ok (.lcmp, 1) := by decide +kernel
theorem dX0_bearing_48 : decode cX0_bearing 48 = .ok (.ifCond .ne 7, 3) := by decide +kernel
theorem dX0_bearing_51 : decode cX0_bearing 51 = .ok (.ldc2_w 108, 3) := by decide +kernel
theorem dX0_bearing_54 : decode cX0_bearing 54 = .ok (.lreturn, 1) := by decide +kernel
theorem dX0_bearing_55 : decode cX0_bearing 55 = .ok (.lload_n 3, 1) := by decide +kernel
theorem dX0_bearing_56 : decode cX0_bearing 56 = .ok (.lload 5, 2) := by decide +kernel
theorem dX0_bearing_58 : decode cX0_bearing 58 = .ok (.invokestatic 156, 3) := by decide +kernel
theorem dX0_bearing_61 : decode cX0_bearing 61 = .ok (.i2l, 1) := by decide +kernel
theorem dX0_bearing_62 : decode cX0_bearing 62 = .ok (.lreturn, 1) := by decide +kernel
set_option maxRecDepth 20000 in
theorem ggX0_findLost_X0_pegExists : GoodIn wsX0_findLost wsX0_pegExists := goodIn_r _ [10, 11, 12, 13, 9, 14, 64, 65, 66, 67, 68, 69, 70, 71, 72, 73, 74, 75] (by decide +kernel) (by decide +kernel)
set_option maxRecDepth 20000 in
theorem gX0_findLost_X0_pegExists : GoodIn wsX0_findLost (wsV RX0 99 RX0 yX0_pegExists wsX0_pegExists) := goodIn_app (goodIn_of _ (by decide +kernel)) ggX0_findLost_X0_pegExists
set_option maxRecDepth 20000 in
theorem ggX0_findLost_X0_lastFix : GoodIn wsX0_findLost wsX0_lastFix := goodIn_r _ [18, 19, 64, 65, 66, 67, 68, 69, 70, 71, 72, 73, 74, 75] (by decide +kernel) (by decide +kernel)
set_option maxRecDepth 20000 in
theorem gX0_findLost_X0_lastFix : GoodIn wsX0_findLost (wsV RX0 160 RX0 yX0_lastFix wsX0_lastFix) := goodIn_app (goodIn_of _ (by decide +kernel)) ggX0_findLost_X0_lastFix
set_option maxRecDepth 20000 in
theorem ggX0_findLost_X0_firstFixAfter : GoodIn wsX0_findLost wsX0_firstFixAfter := goodIn_r _ [23, 11, 19, 64, 65, 66, 67, 68, 69, 70, 71, 72, 73, 74, 75] (by decide +kernel) (by decide +kernel)
set_option maxRecDepth 20000 in
theorem gX0_findLost_X0_firstFixAfter : GoodIn wsX0_findLost (wsV RX0 163 RX0 yX0_firstFixAfter wsX0_firstFixAfter) := goodIn_app (goodIn_of _ (by decide +kernel)) ggX0_findLost_X0_firstFixAfter
set_option maxRecDepth 20000 in
theorem ggX0_findLost_X0_lostCount : GoodIn wsX0_findLost wsX0_lostCount := goodIn_r _ [27, 2, 64, 65, 66, 67, 68, 69, 70, 71, 72, 73, 74, 75] (by decide +kernel) (by decide +kernel)
set_option maxRecDepth 20000 in
theorem gX0_findLost_X0_lostCount : GoodIn wsX0_findLost (wsV RX0 112 RX0 yX0_lostCount wsX0_lostCount) := goodIn_app (goodIn_of _ (by decide +kernel)) ggX0_findLost_X0_lostCount
set_option maxRecDepth 20000 in
theorem ggX0_findLost_X0_error : GoodIn wsX0_findLost wsX0_error := goodIn_r _ [31, 32, 33, 34, 9, 35, 36, 37, 38, 39, 40, 41, 42, 43, 2, 44, 5, 45, 46, 47, 48, 49, 50, 51, 52, 53, 64, 65, 66, 67, 68, 69, 70, 71, 72, 73, 74, 75] (by decide +kernel) (by decide +kernel)
set_option maxRecDepth 20000 in
theorem gX0_findLost_X0_error : GoodIn wsX0_findLost (wsV RX0 166 RX0 yX0_error wsX0_error) := goodIn_app (goodIn_of _ (by decide +kernel)) ggX0_findLost_X0_error
set_option maxRecDepth 20000 in
theorem ggX0_findLost_X0_likeliest : GoodIn wsX0_findLost wsX0_likeliest := goodIn_r _ [56, 57, 58, 59, 9, 60, 61, 62, 63, 46, 47, 48, 49, 50, 51, 52, 53] (by decide +kernel) (by decide +kernel)
set_option maxRecDepth 20000 in
theorem gX0_findLost_X0_likeliest : GoodIn wsX0_findLost (va_wsS RX0 169 yX0_likeliest wsX0_likeliest) := goodIn_app (goodIn_of _ (by decide +kernel)) ggX0_findLost_X0_likeliest
theorem dX0_findLost_0 : decode cX0_findLost 0 = .ok (.aload_n 0, 1) := by decide +kernel
theorem dX0_findLost_1 : decode cX0_findLost 1 = .ok (.iload_n 1, 1) := by decide +kernel
theorem dX0_findLost_2 : decode cX0_findLost 2 = .ok (.invokevirtual 99, 3) := by decide +kernel
theorem dX0_findLost_5 : decode cX0_findLost 5 = .ok (.ifCond .ne 7, 3) := by decide +kernel
theorem dX0_findLost_8 : decode cX0_findLost 8 = .ok (.ldc2_w 102, 3) := by decide +kernel
theorem dX0_findLost_11 : decode cX0_findLost 11 = .ok (.lreturn, 1) := by decide +kernel
theorem dX0_findLost_12 : decode cX0_findLost 12 = .ok (.aload_n 0, 1) := by decide +kernel
theorem dX0_findLost_13 : decode cX0_findLost 13 = .ok (.getfield 22, 3) := by decide +kernel
theorem dX0_findLost_16 : decode cX0_findLost 16 = .ok (.iload_n 1, 1) := by decide +kernel
theorem dX0_findLost_17 : decode cX0_findLost 17 = .ok (.baload, 1) := by decide +kernel
theorem dX0_findLost_18 : decode cX0_findLost 18 = .ok (.ifCond .ne 7, 3) := by decide +kernel
theorem dX0_findLost_21 : decode cX0_findLost 21 = .ok (.ldc2_w 110, 3) := by decide +kernel
theorem dX0_findLost_24 : decode cX0_findLost 24 = .ok (.lreturn, 1) := by decide +kernel
theorem dX0_findLost_25 : decode cX0_findLost 25 = .ok (.aload_n 0, 1) := by decide +kernel
theorem dX0_findLost_26 : decode cX0_findLost 26 = .ok (.iload_n 1, 1) := by decide +kernel
theorem dX0_findLost_27 : decode cX0_findLost 27 = .ok (.invokevirtual 160, 3) := by decide +kernel
theorem dX0_findLost_30 : decode cX0_findLost 30 = .ok (.istore_n 2, 1) := by decide +kernel
theorem dX0_findLost_31 : decode cX0_findLost 31 = .ok (.aload_n 0, 1) := by decide +kernel
theorem dX0_findLost_32 : decode cX0_findLost 32 = .ok (.iload_n 1, 1) := by decide +kernel
theorem dX0_findLost_33 : decode cX0_findLost 33 = .ok (.invokevirtual 163, 3) := by decide +kernel
theorem dX0_findLost_36 : decode cX0_findLost 36 = .ok (.istore_n 3, 1) := by decide +kernel
theorem dX0_findLost_37 : decode cX0_findLost 37 = .ok (.iload_n 3, 1) := by decide +kernel
theorem dX0_findLost_38 : decode cX0_findLost 38 = .ok (.iconst (-1), 1) := by decide +kernel
theorem dX0_findLost_39 : decode cX0_findLost 39 = .ok (.if_icmp .ne 7, 3) := by decide +kernel
theorem dX0_findLost_42 : decode cX0_findLost 42 = .ok (.ldc2_w 108, 3) := by decide +kernel
theorem dX0_findLost_45 : decode cX0_findLost 45 = .ok (.lreturn, 1) := by decide +kernel
theorem dX0_findLost_46 : decode cX0_findLost 46 = .ok (.aload_n 0, 1) := by decide +kernel
theorem dX0_findLost_47 : decode cX0_findLost 47 = .ok (.iload_n 2, 1) := by decide +kernel
theorem dX0_findLost_48 : decode cX0_findLost 48 = .ok (.iload_n 3, 1) := by decide +kernel
theorem dX0_findLost_49 : decode cX0_findLost 49 = .ok (.invokevirtual 112, 3) := by decide +kernel
theorem dX0_findLost_52 : decode cX0_findLost 52 = .ok (.iconst 1, 1) := by decide +kernel
theorem dX0_findLost_53 : decode cX0_findLost 53 = .ok (.if_icmp .le 7, 3) := by decide +kernel
theorem dX0_findLost_56 : decode cX0_findLost 56 = .ok (.ldc2_w 110, 3) := by decide +kernel
theorem dX0_findLost_59 : decode cX0_findLost 59 = .ok (.lreturn, 1) := by decide +kernel
theorem dX0_findLost_60 : decode cX0_findLost 60 = .ok (.aload_n 0, 1) := by decide +kernel
theorem dX0_findLost_61 : decode cX0_findLost 61 = .ok (.iload_n 2, 1) := by decide +kernel
theorem dX0_findLost_62 : decode cX0_findLost 62 = .ok (.iload_n 3, 1) := by decide +kernel
theorem dX0_findLost_63 : decode cX0_findLost 63 = .ok (.bipush 8, 2) := by decide +kernel
theorem dX0_findLost_65 : decode cX0_findLost 65 = .ok (.invokevirtual 166, 3) := by decide +kernel
theorem dX0_findLost_68 : decode cX0_findLost 68 = .ok (.aload_n 0, 1) := by decide +kernel
theorem dX0_findLost_69 : decode cX0_findLost 69 = .ok (.iload_n 2, 1) := by decide +kernel
theorem dX0_findLost_70 : decode cX0_findLost 70 = .ok (.iload_n 3, 1) := by decide +kernel
theorem dX0_findLost_71 : decode cX0_findLost 71 = .ok (.iconst 0, 1) := by decide +kernel
end
section
theorem dX0_findLost_72 : decode cX0_findLost 72 = .ok (.invokevirtual 166, 3) := by decide +kernel
theorem dX0_findLost_75 : decode cX0_findLost 75 = .ok (.aload_n 0, 1) := by decide +kernel
theorem dX0_findLost_76 : decode cX0_findLost 76 = .ok (.getfield 19, 3) := by decide +kernel
theorem dX0_findLost_79 : decode cX0_findLost 79 = .ok (.iload_n 1, 1) := by decide +kernel
theorem dX0_findLost_80 : decode cX0_findLost 80 = .ok (.iaload, 1) := by decide +kernel
theorem dX0_findLost_81 : decode cX0_findLost 81 = .ok (.invokestatic 169, 3) := by decide +kernel
theorem dX0_findLost_84 : decode cX0_findLost 84 = .ok (.lreturn, 1) := by decide +kernel
set_option maxRecDepth 20000 in
theorem ggX0_reckoned_X0_lastFix : GoodIn wsX0_reckoned wsX0_lastFix := goodIn_r _ [5, 6, 31, 32, 33, 34, 35, 36, 37, 38, 39, 40, 41, 42] (by decide +kernel) (by decide +kernel)
set_option maxRecDepth 20000 in
theorem gX0_reckoned_X0_lastFix : GoodIn wsX0_reckoned (wsV RX0 160 RX0 yX0_lastFix wsX0_lastFix) := goodIn_app (goodIn_of _ (by decide +kernel)) ggX0_reckoned_X0_lastFix
set_option maxRecDepth 20000 in
theorem ggX0_reckoned_X0_fix : GoodIn wsX0_reckoned wsX0_fix := goodIn_r _ [10, 11, 12, 31, 32, 33, 34, 35, 36, 37, 38, 39, 40, 41, 42] (by decide +kernel) (by decide +kernel)
set_option maxRecDepth 20000 in
theorem gX0_reckoned_X0_fix : GoodIn wsX0_reckoned (wsV RX0 173 RX0 yX0_fix wsX0_fix) := goodIn_app (goodIn_of _ (by decide +kernel)) ggX0_reckoned_X0_fix
set_option maxRecDepth 20000 in
theorem ggX0_reckoned_X0_legs : GoodIn wsX0_reckoned wsX0_legs := goodIn_r _ [16, 17, 18, 19, 20, 21, 22, 23, 24, 4, 25, 26, 27, 28, 29, 30, 31, 32, 33, 34, 35, 36, 37, 38, 39, 40, 41, 42] (by decide +kernel) (by decide +kernel)
set_option maxRecDepth 20000 in
theorem gX0_reckoned_X0_legs : GoodIn wsX0_reckoned (wsV RX0 176 RX0 yX0_legs wsX0_legs) := goodIn_app (goodIn_of _ (by decide +kernel)) ggX0_reckoned_X0_legs
theorem dX0_reckoned_0 : decode cX0_reckoned 0 = .ok (.aload_n 0, 1) := by decide +kernel
theorem dX0_reckoned_1 : decode cX0_reckoned 1 = .ok (.iload_n 1, 1) := by decide +kernel
theorem dX0_reckoned_2 : decode cX0_reckoned 2 = .ok (.invokevirtual 160, 3) := by decide +kernel
theorem dX0_reckoned_5 : decode cX0_reckoned 5 = .ok (.istore_n 3, 1) := by decide +kernel
theorem dX0_reckoned_6 : decode cX0_reckoned 6 = .ok (.aload_n 0, 1) := by decide +kernel
theorem dX0_reckoned_7 : decode cX0_reckoned 7 = .ok (.iload_n 3, 1) := by decide +kernel
theorem dX0_reckoned_8 : decode cX0_reckoned 8 = .ok (.iload_n 2, 1) := by decide +kernel
theorem dX0_reckoned_9 : decode cX0_reckoned 9 = .ok (.invokevirtual 173, 3) := by decide +kernel
theorem dX0_reckoned_12 : decode cX0_reckoned 12 = .ok (.i2l, 1) := by decide +kernel
theorem dX0_reckoned_13 : decode cX0_reckoned 13 = .ok (.aload_n 0, 1) := by decide +kernel
theorem dX0_reckoned_14 : decode cX0_reckoned 14 = .ok (.iload_n 3, 1) := by decide +kernel
theorem dX0_reckoned_15 : decode cX0_reckoned 15 = .ok (.iload_n 1, 1) := by decide +kernel
theorem dX0_reckoned_16 : decode cX0_reckoned 16 = .ok (.iload_n 2, 1) := by decide +kernel
theorem dX0_reckoned_17 : decode cX0_reckoned 17 = .ok (.invokevirtual 176, 3) := by decide +kernel
theorem dX0_reckoned_20 : decode cX0_reckoned 20 = .ok (.ladd, 1) := by decide +kernel
theorem dX0_reckoned_21 : decode cX0_reckoned 21 = .ok (.lreturn, 1) := by decide +kernel
set_option maxRecDepth 20000 in
theorem ggX0_corrected_X0_lastFix : GoodIn wsX0_corrected wsX0_lastFix := goodIn_r _ [5, 6, 47, 48, 49, 50, 51, 52, 53, 54, 55, 56, 57, 58] (by decide +kernel) (by decide +kernel)
set_option maxRecDepth 20000 in
theorem gX0_corrected_X0_lastFix : GoodIn wsX0_corrected (wsV RX0 160 RX0 yX0_lastFix wsX0_lastFix) := goodIn_app (goodIn_of _ (by decide +kernel)) ggX0_corrected_X0_lastFix
set_option maxRecDepth 20000 in
theorem ggX0_corrected_X0_firstFixAfter : GoodIn wsX0_corrected wsX0_firstFixAfter := goodIn_r _ [10, 11, 6, 47, 48, 49, 50, 51, 52, 53, 54, 55, 56, 57, 58] (by decide +kernel) (by decide +kernel)
set_option maxRecDepth 20000 in
theorem gX0_corrected_X0_firstFixAfter : GoodIn wsX0_corrected (wsV RX0 163 RX0 yX0_firstFixAfter wsX0_firstFixAfter) := goodIn_app (goodIn_of _ (by decide +kernel)) ggX0_corrected_X0_firstFixAfter
set_option maxRecDepth 20000 in
theorem ggX0_corrected_X0_reckoned : GoodIn wsX0_corrected wsX0_reckoned := goodIn_r _ [15, 1, 2, 3, 4, 5, 6, 16, 17, 18, 19, 20, 21, 22, 23, 24, 25, 26, 27, 28, 29, 30, 31, 32, 33, 34, 35, 36, 37, 38, 39, 47, 48, 49, 50, 51, 52, 53, 54, 55, 56, 57, 58] (by decide +kernel) (by decide +kernel)
set_option maxRecDepth 20000 in
theorem gX0_corrected_X0_reckoned : GoodIn wsX0_corrected (wsV RX0 137 RX0 yX0_reckoned wsX0_reckoned) := goodIn_app (goodIn_of _ (by decide +kernel)) ggX0_corrected_X0_reckoned
set_option maxRecDepth 20000 in
theorem ggX0_corrected_X0_error : GoodIn wsX0_corrected wsX0_error := goodIn_r _ [43, 16, 17, 18, 4, 19, 20, 21, 22, 23, 24, 25, 26, 27, 28, 29, 30, 31, 32, 33, 34, 35, 36, 37, 38, 39, 47, 48, 49, 50, 51, 52, 53, 54, 55, 56, 57, 58] (by decide +kernel) (by decide +kernel)
set_option maxRecDepth 20000 in
theorem gX0_corrected_X0_error : GoodIn wsX0_corrected (wsV RX0 166 RX0 yX0_error wsX0_error) := goodIn_app (goodIn_of _ (by decide +kernel)) ggX0_corrected_X0_error
set_option maxRecDepth 20000 in
theorem ggX0_corrected_J9_floorDiv_f86c9 : GoodIn wsX0_corrected wsJ9_floorDiv_f86c9 := goodIn_r _ [46] (by decide +kernel) (by decide +kernel)
set_option maxRecDepth 20000 in
theorem gX0_corrected_J9_floorDiv_f86c9 : GoodIn wsX0_corrected (va_wsS RX0 179 yJ9_floorDiv_f86c9 wsJ9_floorDiv_f86c9) := goodIn_app (goodIn_of _ (by decide +kernel)) ggX0_corrected_J9_floorDiv_f86c9
theorem dX0_corrected_0 : decode cX0_corrected 0 = .ok (.aload_n 0, 1) := by decide +kernel
theorem dX0_corrected_1 : decode cX0_corrected 1 = .ok (.iload_n 1, 1) := by decide +kernel
theorem dX0_corrected_2 : decode cX0_corrected 2 = .ok (.invokevirtual 160, 3) := by decide +kernel
theorem dX0_corrected_5 : decode cX0_corrected 5 = .ok (.istore_n 3, 1) := by decide +kernel
theorem dX0_corrected_6 : decode cX0_corrected 6 = .ok (.aload_n 0, 1) := by decide +kernel
theorem dX0_corrected_7 : decode cX0_corrected 7 = .ok (.iload_n 1, 1) := by decide +kernel
theorem dX0_corrected_8 : decode cX0_corrected 8 = .ok (.invokevirtual 163, 3) := by decide +kernel
theorem dX0_corrected_11 : decode cX0_corrected 11 = .ok (.istore 4, 2) := by decide +kernel
theorem dX0_corrected_13 : decode cX0_corrected 13 = .ok (.iload_n 3, 1) := by decide +kernel
theorem dX0_corrected_14 : decode cX0_corrected 14 = .ok (.iload_n 1, 1) := by decide +kernel
theorem dX0_corrected_15 : decode cX0_corrected 15 = .ok (.if_icmp .eq 9, 3) := by decide +kernel
theorem dX0_corrected_18 : decode cX0_corrected 18 = .ok (.iload 4, 2) := by decide +kernel
theorem dX0_corrected_20 : decode cX0_corrected 20 = .ok (.iload_n 3, 1) := by decide +kernel
theorem dX0_corrected_21 : decode cX0_corrected 21 = .ok (.if_icmp .gt 10, 3) := by decide +kernel
theorem dX0_corrected_24 : decode cX0_corrected 24 = .ok (.aload_n 0, 1) := by decide +kernel
theorem dX0_corrected_25 : decode cX0_corrected 25 = .ok (.iload_n 1, 1) := by decide +kernel
theorem dX0_corrected_26 : decode cX0_corrected 26 = .ok (.iload_n 2, 1) := by decide +kernel
theorem dX0_corrected_27 : decode cX0_corrected 27 = .ok (.invokevirtual 137, 3) := by decide +kernel
theorem dX0_corrected_30 : decode cX0_corrected 30 = .ok (.lreturn, 1) := by decide +kernel
theorem dX0_corrected_31 : decode cX0_corrected 31 = .ok (.aload_n 0, 1) := by decide +kernel
theorem dX0_corrected_32 : decode cX0_corrected 32 = .ok (.iload_n 1, 1) := by decide +kernel
theorem dX0_corrected_33 : decode cX0_corrected 33 = .ok (.iload_n 2, 1) := by decide +kernel
theorem dX0_corrected_34 : decode cX0_corrected 34 = .ok (.invokevirtual 137, 3) := by decide +kernel
theorem dX0_corrected_37 : decode cX0_corrected 37 = .ok (.aload_n 0, 1) := by decide +kernel
theorem dX0_corrected_38 : decode cX0_corrected 38 = .ok (.iload_n 3, 1) := by decide +kernel
theorem dX0_corrected_39 : decode cX0_corrected 39 = .ok (.iload 4, 2) := by decide +kernel
theorem dX0_corrected_41 : decode cX0_corrected 41 = .ok (.iload_n 2, 1) := by decide +kernel
theorem dX0_corrected_42 : decode cX0_corrected 42 = .ok (.invokevirtual 166, 3) := by decide +kernel
theorem dX0_corrected_45 : decode cX0_corrected 45 = .ok (.iload_n 1, 1) := by decide +kernel
theorem dX0_corrected_46 : decode cX0_corrected 46 = .ok (.iload_n 3, 1) := by decide +kernel
theorem dX0_corrected_47 : decode cX0_corrected 47 = .ok (.isub, 1) := by decide +kernel
theorem dX0_corrected_48 : decode cX0_corrected 48 = .ok (.i2l, 1) := by decide +kernel
theorem dX0_corrected_49 : decode cX0_corrected 49 = .ok (.lmul, 1) := by decide +kernel
theorem dX0_corrected_50 : decode cX0_corrected 50 = .ok (.iload 4, 2) := by decide +kernel
theorem dX0_corrected_52 : decode cX0_corrected 52 = .ok (.iload_n 3, 1) := by decide +kernel
theorem dX0_corrected_53 : decode cX0_corrected 53 = .ok (.isub, 1) := by decide +kernel
theorem dX0_corrected_54 : decode cX0_corrected 54 = .ok (.i2l, 1) := by decide +kernel
theorem dX0_corrected_55 : decode cX0_corrected 55 = .ok (.invokestatic 179, 3) := by decide +kernel
theorem dX0_corrected_58 : decode cX0_corrected 58 = .ok (.ladd, 1) := by decide +kernel
theorem dX0_corrected_59 : decode cX0_corrected 59 = .ok (.lreturn, 1) := by decide +kernel
set_option maxRecDepth 20000 in
theorem ggX0_error_X0_fix : GoodIn wsX0_error wsX0_fix := goodIn_r _ [5, 6, 7, 26, 27, 28, 29, 30, 31, 32, 33, 34, 35, 36, 37] (by decide +kernel) (by decide +kernel)
set_option maxRecDepth 20000 in
theorem gX0_error_X0_fix : GoodIn wsX0_error (wsV RX0 173 RX0 yX0_fix wsX0_fix) := goodIn_app (goodIn_of _ (by decide +kernel)) ggX0_error_X0_fix
set_option maxRecDepth 20000 in
theorem ggX0_error_X0_legs : GoodIn wsX0_error wsX0_legs := goodIn_r _ [11, 12, 13, 14, 15, 16, 17, 18, 19, 4, 20, 21, 22, 23, 24, 25, 26, 27, 28, 29, 30, 31, 32, 33, 34, 35, 36, 37] (by decide +kernel) (by decide +kernel)
set_option maxRecDepth 20000 in
theorem gX0_error_X0_legs : GoodIn wsX0_error (wsV RX0 176 RX0 yX0_legs wsX0_legs) := goodIn_app (goodIn_of _ (by decide +kernel)) ggX0_error_X0_legs
theorem dX0_error_0 : decode cX0_error 0 = .ok (.aload_n 0, 1) := by decide +kernel
theorem dX0_error_1 : decode cX0_error 1 = .ok (.iload_n 2, 1) := by decide +kernel
theorem dX0_error_2 : decode cX0_error 2 = .ok (.iload_n 3, 1) := by decide +kernel
theorem dX0_error_3 : decode cX0_error 3 = .ok (.invokevirtual 173, 3) := by decide +kernel
theorem dX0_error_6 : decode cX0_error 6 = .ok (.aload_n 0, 1) := by decide +kernel
theorem dX0_error_7 : decode cX0_error 7 = .ok (.iload_n 1, 1) := by decide +kernel
theorem dX0_error_8 : decode cX0_error 8 = .ok (.iload_n 3, 1) := by decide +kernel
theorem dX0_error_9 : decode cX0_error 9 = .ok (.invokevirtual 173, 3) := by decide +kernel
theorem dX0_error_12 : decode cX0_error 12 = .ok (.isub, 1) := by decide +kernel
theorem dX0_error_13 : decode cX0_error 13 = .ok (.i2l, 1) := by decide +kernel
theorem dX0_error_14 : decode cX0_error 14 = .ok (.aload_n 0, 1) := by decide +kernel
theorem dX0_error_15 : decode cX0_error 15 = .ok (.iload_n 1, 1) := by decide +kernel
theorem dX0_error_16 : decode cX0_error 16 = .ok (.iload_n 2, 1) := by decide +kernel
theorem dX0_error_17 : decode cX0_error 17 = .ok (.iload_n 3, 1) := by decide +kernel
theorem dX0_error_18 : decode cX0_error 18 = .ok (.invokevirtual 176, 3) := by decide +kernel
theorem dX0_error_21 : decode cX0_error 21 = .ok (.lsub, 1) := by decide +kernel
theorem dX0_error_22 : decode cX0_error 22 = .ok (.lreturn, 1) := by decide +kernel
set_option maxRecDepth 20000 in
theorem ggX0_legs_X0_movement : GoodIn wsX0_legs wsX0_movement := goodIn_r _ [10, 11, 12, 13, 14, 15] (by decide +kernel) (by decide +kernel)
set_option maxRecDepth 20000 in
theorem gX0_legs_X0_movement : GoodIn wsX0_legs (va_wsS RX0 184 yX0_movement wsX0_movement) := goodIn_app (goodIn_of _ (by decide +kernel)) ggX0_legs_X0_movement
theorem dX0_legs_0 : decode cX0_legs 0 = .ok (.iload_n 2, 1) := by decide +kernel
theorem dX0_legs_1 : decode cX0_legs 1 = .ok (.iload_n 1, 1) := by decide +kernel
theorem dX0_legs_2 : decode cX0_legs 2 = .ok (.isub, 1) := by decide +kernel
theorem dX0_legs_3 : decode cX0_legs 3 = .ok (.i2l, 1) := by decide +kernel
theorem dX0_legs_4 : decode cX0_legs 4 = .ok (.aload_n 0, 1) := by decide +kernel
theorem dX0_legs_5 : decode cX0_legs 5 = .ok (.getfield 118, 3) := by decide +kernel
theorem dX0_legs_8 : decode cX0_legs 8 = .ok (.aload_n 0, 1) := by decide +kernel
theorem dX0_legs_9 : decode cX0_legs 9 = .ok (.getfield 115, 3) := by decide +kernel
theorem dX0_legs_12 : decode cX0_legs 12 = .ok (.iload_n 3, 1) := by decide +kernel
theorem dX0_legs_13 : decode cX0_legs 13 = .ok (.invokestatic 184, 3) := by decide +kernel
theorem dX0_legs_16 : decode cX0_legs 16 = .ok (.lmul, 1) := by decide +kernel
theorem dX0_legs_17 : decode cX0_legs 17 = .ok (.lstore 4, 2) := by decide +kernel
theorem dX0_legs_19 : decode cX0_legs 19 = .ok (.iload_n 1, 1) := by decide +kernel
theorem dX0_legs_20 : decode cX0_legs 20 = .ok (.istore 6, 2) := by decide +kernel
theorem dX0_legs_22 : decode cX0_legs 22 = .ok (.iload 6, 2) := by decide +kernel
theorem dX0_legs_24 : decode cX0_legs 24 = .ok (.iload_n 2, 1) := by decide +kernel
theorem dX0_legs_25 : decode cX0_legs 25 = .ok (.if_icmp .ge 50, 3) := by decide +kernel
theorem dX0_legs_28 : decode cX0_legs 28 = .ok (.aload_n 0, 1) := by decide +kernel
theorem dX0_legs_29 : decode cX0_legs 29 = .ok (.getfield 22, 3) := by decide +kernel
theorem dX0_legs_32 : decode cX0_legs 32 = .ok (.iload 6, 2) := by decide +kernel
theorem dX0_legs_34 : decode cX0_legs 34 = .ok (.baload, 1) := by decide +kernel
theorem dX0_legs_35 : decode cX0_legs 35 = .ok (.ifCond .ne 34, 3) := by decide +kernel
theorem dX0_legs_38 : decode cX0_legs 38 = .ok (.lload 4, 2) := by decide +kernel
theorem dX0_legs_40 : decode cX0_legs 40 = .ok (.aload_n 0, 1) := by decide +kernel
theorem dX0_legs_41 : decode cX0_legs 41 = .ok (.getfield 13, 3) := by decide +kernel
theorem dX0_legs_44 : decode cX0_legs 44 = .ok (.iload 6, 2) := by decide +kernel
theorem dX0_legs_46 : decode cX0_legs 46 = .ok (.iaload, 1) := by decide +kernel
theorem dX0_legs_47 : decode cX0_legs 47 = .ok (.aload_n 0, 1) := by decide +kernel
theorem dX0_legs_48 : decode cX0_legs 48 = .ok (.getfield 19, 3) := by decide +kernel
theorem dX0_legs_51 : decode cX0_legs 51 = .ok (.iload 6, 2) := by decide +kernel
theorem dX0_legs_53 : decode cX0_legs 53 = .ok (.iaload, 1) := by decide +kernel
theorem dX0_legs_54 : decode cX0_legs 54 = .ok (.iadd, 1) := by decide +kernel
theorem dX0_legs_55 : decode cX0_legs 55 = .ok (.aload_n 0, 1) := by decide +kernel
theorem dX0_legs_56 : decode cX0_legs 56 = .ok (.getfield 16, 3) := by decide +kernel
theorem dX0_legs_59 : decode cX0_legs 59 = .ok (.iload 6, 2) := by decide +kernel
theorem dX0_legs_61 : decode cX0_legs 61 = .ok (.iaload, 1) := by decide +kernel
theorem dX0_legs_62 : decode cX0_legs 62 = .ok (.iload_n 3, 1) := by decide +kernel
theorem dX0_legs_63 : decode cX0_legs 63 = .ok (.invokestatic 184, 3) := by decide +kernel
theorem dX0_legs_66 : decode cX0_legs 66 = .ok (.ladd, 1) := by decide +kernel
theorem dX0_legs_67 : decode cX0_legs 67 = .ok (.lstore 4, 2) := by decide +kernel
theorem dX0_legs_69 : decode cX0_legs 69 = .ok (.iinc 6 1, 3) := by decide +kernel
theorem dX0_legs_72 : decode cX0_legs 72 = .ok (.goto (-50), 3) := by decide +kernel
theorem dX0_legs_75 : decode cX0_legs 75 = .ok (.lload 4, 2) := by decide +kernel
theorem dX0_legs_77 : decode cX0_legs 77 = .ok (.lreturn, 1) := by decide +kernel
set_option maxRecDepth 20000 in
theorem ggX0_movement_J9_floorMod_7cf53 : GoodIn wsX0_movement wsJ9_floorMod_7cf53 := goodIn_r _ [5] (by decide +kernel) (by decide +kernel)
set_option maxRecDepth 20000 in
theorem gX0_movement_J9_floorMod_7cf53 : GoodIn wsX0_movement (va_wsS RX0 190 yJ9_floorMod_7cf53 wsJ9_floorMod_7cf53) := goodIn_app (goodIn_of _ (by decide +kernel)) ggX0_movement_J9_floorMod_7cf53
theorem dX0_movement_0 : decode cX0_movement 0 = .ok (.iload_n 1, 1) := by decide +kernel
theorem dX0_movement_1 : decode cX0_movement 1 = .ok (.i2l, 1) := by decide +kernel
theorem dX0_movement_2 : decode cX0_movement 2 = .ok (.getstatic 187, 3) := by decide +kernel
theorem dX0_movement_5 : decode cX0_movement 5 = .ok (.iload_n 0, 1) := by decide +kernel
theorem dX0_movement_6 : decode cX0_movement 6 = .ok (.iload_n 2, 1) := by decide +kernel
theorem dX0_movement_7 : decode cX0_movement 7 = .ok (.iadd, 1) := by decide +kernel
theorem dX0_movement_8 : decode cX0_movement 8 = .ok (.bipush 32, 2) := by decide +kernel
theorem dX0_movement_10 : decode cX0_movement 10 = .ok (.invokestatic 190, 3) := by decide +kernel
theorem dX0_movement_13 : decode cX0_movement 13 = .ok (.iaload, 1) := by decide +kernel
theorem dX0_movement_14 : decode cX0_movement 14 = .ok (.i2l, 1) := by decide +kernel
theorem dX0_movement_15 : decode cX0_movement 15 = .ok (.lmul, 1) := by decide +kernel
theorem dX0_movement_16 : decode cX0_movement 16 = .ok (.lreturn, 1) := by decide +kernel
set_option maxRecDepth 20000 in
theorem ggX0_difference_X0_corrected : GoodIn wsX0_difference wsX0_corrected := goodIn_r _ [5, 6, 7, 8, 4, 9, 10, 11, 12, 13, 14, 15, 16, 17, 18, 19, 20, 21, 22, 23, 24, 25, 26, 27, 28, 29, 30, 31, 32, 33, 34, 35, 36, 37, 38, 39, 40, 41, 42, 43, 44, 45, 46, 47, 48, 49, 50, 51, 52, 53, 54, 55, 56, 57, 58, 59, 60, 61, 62] (by decide +kernel) (by decide +kernel)
set_option maxRecDepth 20000 in
theorem gX0_difference_X0_corrected : GoodIn wsX0_difference (wsV RX0 141 RX0 yX0_corrected wsX0_corrected) := goodIn_app (goodIn_of _ (by decide +kernel)) ggX0_difference_X0_corrected
theorem dX0_difference_0 : decode cX0_difference 0 = .ok (.aload_n 0, 1) := by decide +kernel
theorem dX0_difference_1 : decode cX0_difference 1 = .ok (.iload_n 2, 1) := by decide +kernel
theorem dX0_difference_2 : decode cX0_difference 2 = .ok (.iload_n 3, 1) := by decide +kernel
theorem dX0_difference_3 : decode cX0_difference 3 = .ok (.invokevirtual 141, 3) := by decide +kernel
theorem dX0_difference_6 : decode cX0_difference 6 = .ok (.aload_n 0, 1) := by decide +kernel
theorem dX0_difference_7 : decode cX0_difference 7 = .ok (.iload_n 1, 1) := by decide +kernel
theorem dX0_difference_8 : decode cX0_difference 8 = .ok (.iload_n 3, 1) := by decide +kernel
theorem dX0_difference_9 : decode cX0_difference 9 = .ok (.invokevirtual 141, 3) := by decide +kernel
theorem dX0_difference_12 : decode cX0_difference 12 = .ok (.lsub, 1) := by decide +kernel
theorem dX0_difference_13 : decode cX0_difference 13 = .ok (.lreturn, 1) := by decide +kernel
theorem dX0_squares_0 : decode cX0_squares 0 = .ok (.lload_n 0, 1) := by decide +kernel
theorem dX0_squares_1 : decode cX0_squares 1 = .ok (.lload_n 0, 1) := by decide +kernel
theorem dX0_squares_2 : decode cX0_squares 2 = .ok (.lmul, 1) := by decide +kernel
theorem dX0_squares_3 : decode cX0_squares 3 = .ok (.lload_n 2, 1) := by decide +kernel
theorem dX0_squares_4 : decode cX0_squares 4 = .ok (.lload_n 2, 1) := by decide +kernel
theorem dX0_squares_5 : decode cX0_squares 5 = .ok (.lmul, 1) := by decide +kernel
theorem dX0_squares_6 : decode cX0_squares 6 = .ok (.ladd, 1) := by decide +kernel
theorem dX0_squares_7 : decode cX0_squares 7 = .ok (.lreturn, 1) := by decide +kernel
theorem dX0_root_0 : decode cX0_root 0 = .ok (.lconst 0, 1) := by decide +kernel
theorem dX0_root_1 : decode cX0_root 1 = .ok (.lstore_n 2, 1) := by decide +kernel
theorem dX0_root_2 : decode cX0_root 2 = .ok (.bipush 30, 2) := by decide +kernel
theorem dX0_root_4 : decode cX0_root 4 = .ok (.istore 4, 2) := by decide +kernel
theorem dX0_root_6 : decode cX0_root 6 = .ok (.iload 4, 2) := by decide +kernel
theorem dX0_root_8 : decode cX0_root 8 = .ok (.ifCond .lt 30, 3) := by decide +kernel
theorem dX0_root_11 : decode cX0_root 11 = .ok (.lload_n 2, 1) := by decide +kernel
theorem dX0_root_12 : decode cX0_root 12 = .ok (.lconst 1, 1) := by decide +kernel
theorem dX0_root_13 : decode cX0_root 13 = .ok (.iload 4, 2) := by decide +kernel
theorem dX0_root_15 : decode cX0_root 15 = .ok (.lshl, 1) := by decide +kernel
theorem dX0_root_16 : decode cX0_root 16 = .ok (.ladd, 1) := by decide +kernel
theorem dX0_root_17 : decode cX0_root 17 = .ok (.lstore 5, 2) := by decide +kernel
theorem dX0_root_19 : decode cX0_root 19 = .ok (.lload 5, 2) := by decide +kernel
theorem dX0_root_21 : decode cX0_root 21 = .ok (.lload 5, 2) := by decide +kernel
theorem dX0_root_23 : decode cX0_root 23 = .ok (.lmul, 1) := by decide +kernel
theorem dX0_root_24 : decode cX0_root 24 = .ok (.lload_n 0, 1) := by decide +kernel
theorem dX0_root_25 : decode cX0_root 25 = .ok (.lcmp, 1) := by decide +kernel
theorem dX0_root_26 : decode cX0_root 26 = .ok (.ifCond .gt 6, 3) := by decide +kernel
theorem dX0_root_29 : decode cX0_root 29 = .ok (.lload 5, 2) := by decide +kernel
theorem dX0_root_31 : decode cX0_root 31 = .ok (.lstore_n 2, 1) := by decide +kernel
theorem dX0_root_32 : decode cX0_root 32 = .ok (.iinc 4 (-1), 3) := by decide +kernel
theorem dX0_root_35 : decode cX0_root 35 = .ok (.goto (-29), 3) := by decide +kernel
theorem dX0_root_38 : decode cX0_root 38 = .ok (.lload_n 2, 1) := by decide +kernel
theorem dX0_root_39 : decode cX0_root 39 = .ok (.lreturn, 1) := by decide +kernel
set_option maxRecDepth 20000 in
theorem ggX0_nearestPoint_X0_advance : GoodIn wsX0_nearestPoint wsX0_advance := goodIn_r _ [4, 5, 6, 3, 7, 8, 9, 10, 11, 12] (by decide +kernel) (by decide +kernel)
set_option maxRecDepth 20000 in
theorem gX0_nearestPoint_X0_advance : GoodIn wsX0_nearestPoint (va_wsS RX0 193 yX0_advance wsX0_advance) := goodIn_app (goodIn_of _ (by decide +kernel)) ggX0_nearestPoint_X0_advance
theorem dX0_nearestPoint_0 : decode cX0_nearestPoint 0 = .ok (.iconst 0, 1) := by decide +kernel
theorem dX0_nearestPoint_1 : decode cX0_nearestPoint 1 = .ok (.istore 4, 2) := by decide +kernel
theorem dX0_nearestPoint_3 : decode cX0_nearestPoint 3 = .ok (.iconst 1, 1) := by decide +kernel
theorem dX0_nearestPoint_4 : decode cX0_nearestPoint 4 = .ok (.istore 5, 2) := by decide +kernel
theorem dX0_nearestPoint_6 : decode cX0_nearestPoint 6 = .ok (.iload 5, 2) := by decide +kernel
theorem dX0_nearestPoint_8 : decode cX0_nearestPoint 8 = .ok (.bipush 32, 2) := by decide +kernel
theorem dX0_nearestPoint_10 : decode cX0_nearestPoint 10 = .ok (.if_icmp .ge 31, 3) := by decide +kernel
theorem dX0_nearestPoint_13 : decode cX0_nearestPoint 13 = .ok (.lload_n 0, 1) := by decide +kernel
theorem dX0_nearestPoint_14 : decode cX0_nearestPoint 14 = .ok (.lload_n 2, 1) := by decide +kernel
theorem dX0_nearestPoint_15 : decode cX0_nearestPoint 15 = .ok (.iload 5, 2) := by decide +kernel
theorem dX0_nearestPoint_17 : decode cX0_nearestPoint 17 = .ok (.invokestatic 193, 3) := by decide +kernel
theorem dX0_nearestPoint_20 : decode cX0_nearestPoint 20 = .ok (.lload_n 0, 1) := by decide +kernel
theorem dX0_nearestPoint_21 : decode cX0_nearestPoint 21 = .ok (.lload_n 2, 1) := by decide +kernel
theorem dX0_nearestPoint_22 : decode cX0_nearestPoint 22 = .ok (.iload 4, 2) := by decide +kernel
theorem dX0_nearestPoint_24 : decode cX0_nearestPoint 24 = .ok (.invokestatic 193, 3) := by decide +kernel
theorem dX0_nearestPoint_27 : decode cX0_nearestPoint 27 = .ok (.lcmp, 1) := by decide +kernel
theorem dX0_nearestPoint_28 : decode cX0_nearestPoint 28 = .ok (.ifCond .le 7, 3) := by decide +kernel
theorem dX0_nearestPoint_31 : decode cX0_nearestPoint 31 = .ok (.iload 5, 2) := by decide +kernel
theorem dX0_nearestPoint_33 : decode cX0_nearestPoint 33 = .ok (.istore 4, 2) := by decide +kernel
theorem dX0_nearestPoint_35 : decode cX0_nearestPoint 35 = .ok (.iinc 5 1, 3) := by decide +kernel
theorem dX0_nearestPoint_38 : decode cX0_nearestPoint 38 = .ok (.goto (-32), 3) := by decide +kernel
theorem dX0_nearestPoint_41 : decode cX0_nearestPoint 41 = .ok (.iload 4, 2) := by decide +kernel
theorem dX0_nearestPoint_43 : decode cX0_nearestPoint 43 = .ok (.ireturn, 1) := by decide +kernel
set_option maxRecDepth 20000 in
theorem ggX0_advance_X0_movement : GoodIn wsX0_advance wsX0_movement := goodIn_r _ [4, 5, 6, 7, 8, 9] (by decide +kernel) (by decide +kernel)
set_option maxRecDepth 20000 in
theorem gX0_advance_X0_movement : GoodIn wsX0_advance (va_wsS RX0 184 yX0_movement wsX0_movement) := goodIn_app (goodIn_of _ (by decide +kernel)) ggX0_advance_X0_movement
theorem dX0_advance_0 : decode cX0_advance 0 = .ok (.lload_n 0, 1) := by decide +kernel
theorem dX0_advance_1 : decode cX0_advance 1 = .ok (.iload 4, 2) := by decide +kernel
theorem dX0_advance_3 : decode cX0_advance 3 = .ok (.iconst 1, 1) := by decide +kernel
theorem dX0_advance_4 : decode cX0_advance 4 = .ok (.bipush 8, 2) := by decide +kernel
theorem dX0_advance_6 : decode cX0_advance 6 = .ok (.invokestatic 184, 3) := by decide +kernel
theorem dX0_advance_9 : decode cX0_advance 9 = .ok (.lmul, 1) := by decide +kernel
theorem dX0_advance_10 : decode cX0_advance 10 = .ok (.lload_n 2, 1) := by decide +kernel
theorem dX0_advance_11 : decode cX0_advance 11 = .ok (.iload 4, 2) := by decide +kernel
theorem dX0_advance_13 : decode cX0_advance 13 = .ok (.iconst 1, 1) := by decide +kernel
theorem dX0_advance_14 : decode cX0_advance 14 = .ok (.iconst 0, 1) := by decide +kernel
theorem dX0_advance_15 : decode cX0_advance 15 = .ok (.invokestatic 184, 3) := by decide +kernel
theorem dX0_advance_18 : decode cX0_advance 18 = .ok (.lmul, 1) := by decide +kernel
theorem dX0_advance_19 : decode cX0_advance 19 = .ok (.ladd, 1) := by decide +kernel
theorem dX0_advance_20 : decode cX0_advance 20 = .ok (.lreturn, 1) := by decide +kernel
set_option maxRecDepth 20000 in
theorem ggX0_likeliest_X0_squares : GoodIn wsX0_likeliest wsX0_squares := goodIn_r _ [5] (by decide +kernel) (by decide +kernel)
set_option maxRecDepth 20000 in
theorem gX0_likeliest_X0_squares : GoodIn wsX0_likeliest (va_wsS RX0 148 yX0_squares wsX0_squares) := goodIn_app (goodIn_of _ (by decide +kernel)) ggX0_likeliest_X0_squares
set_option maxRecDepth 20000 in
theorem ggX0_likeliest_X0_miss : GoodIn wsX0_likeliest wsX0_miss := goodIn_r _ [8, 9, 10, 4, 11, 12, 13, 14, 15, 16, 2, 3, 5] (by decide +kernel) (by decide +kernel)
set_option maxRecDepth 20000 in
theorem gX0_likeliest_X0_miss : GoodIn wsX0_likeliest (va_wsS RX0 196 yX0_miss wsX0_miss) := goodIn_app (goodIn_of _ (by decide +kernel)) ggX0_likeliest_X0_miss
theorem dX0_likeliest_0 : decode cX0_likeliest 0 = .ok (.lconst 0, 1) := by decide +kernel
theorem dX0_likeliest_1 : decode cX0_likeliest 1 = .ok (.lstore 5, 2) := by decide +kernel
theorem dX0_likeliest_3 : decode cX0_likeliest 3 = .ok (.lload_n 0, 1) := by decide +kernel
theorem dX0_likeliest_4 : decode cX0_likeliest 4 = .ok (.lload_n 2, 1) := by decide +kernel
theorem dX0_likeliest_5 : decode cX0_likeliest 5 = .ok (.invokestatic 148, 3) := by decide +kernel
theorem dX0_likeliest_8 : decode cX0_likeliest 8 = .ok (.lstore 7, 2) := by decide +kernel
theorem dX0_likeliest_10 : decode cX0_likeliest 10 = .ok (.iconst 1, 1) := by decide +kernel
theorem dX0_likeliest_11 : decode cX0_likeliest 11 = .ok (.istore 9, 2) := by decide +kernel
theorem dX0_likeliest_13 : decode cX0_likeliest 13 = .ok (.iload 9, 2) := by decide +kernel
theorem dX0_likeliest_15 : decode cX0_likeliest 15 = .ok (.sipush 200, 3) := by decide +kernel
theorem dX0_likeliest_18 : decode cX0_likeliest 18 = .ok (.if_icmp .gt 64, 3) := by decide +kernel
theorem dX0_likeliest_21 : decode cX0_likeliest 21 = .ok (.iconst 0, 1) := by decide +kernel
theorem dX0_likeliest_22 : decode cX0_likeliest 22 = .ok (.istore 10, 2) := by decide +kernel
theorem dX0_likeliest_24 : decode cX0_likeliest 24 = .ok (.iload 10, 2) := by decide +kernel
theorem dX0_likeliest_26 : decode cX0_likeliest 26 = .ok (.bipush 32, 2) := by decide +kernel
theorem dX0_likeliest_28 : decode cX0_likeliest 28 = .ok (.if_icmp .ge 48, 3) := by decide +kernel
theorem dX0_likeliest_31 : decode cX0_likeliest 31 = .ok (.lload_n 0, 1) := by decide +kernel
theorem dX0_likeliest_32 : decode cX0_likeliest 32 = .ok (.lload_n 2, 1) := by decide +kernel
theorem dX0_likeliest_33 : decode cX0_likeliest 33 = .ok (.iload 10, 2) := by decide +kernel
theorem dX0_likeliest_35 : decode cX0_likeliest 35 = .ok (.iload 4, 2) := by decide +kernel
theorem dX0_likeliest_37 : decode cX0_likeliest 37 = .ok (.iadd, 1) := by decide +kernel
theorem dX0_likeliest_38 : decode cX0_likeliest 38 = .ok (.iload 9, 2) := by decide +kernel
theorem dX0_likeliest_40 : decode cX0_likeliest 40 = .ok (.invokestatic 196, 3) := by decide +kernel
theorem dX0_likeliest_43 : decode cX0_likeliest 43 = .ok (.lstore 11, 2) := by decide +kernel
theorem dX0_likeliest_45 : decode cX0_likeliest 45 = .ok (.lload 11, 2) := by decide +kernel
theorem dX0_likeliest_47 : decode cX0_likeliest 47 = .ok (.lload 7, 2) := by decide +kernel
theorem dX0_likeliest_49 : decode cX0_likeliest 49 = .ok (.lcmp, 1) := by decide +kernel
theorem dX0_likeliest_50 : decode cX0_likeliest 50 = .ok (.ifCond .ge 20, 3) := by decide +kernel
theorem dX0_likeliest_53 : decode cX0_likeliest 53 = .ok (.lload 11, 2) := by decide +kernel
theorem dX0_likeliest_55 : decode cX0_likeliest 55 = .ok (.lstore 7, 2) := by decide +kernel
theorem dX0_likeliest_57 : decode cX0_likeliest 57 = .ok (.ldc2_w 200, 3) := by decide +kernel
theorem dX0_likeliest_60 : decode cX0_likeliest 60 = .ok (.iload 10, 2) := by decide +kernel
theorem dX0_likeliest_62 : decode cX0_likeliest 62 = .ok (.i2l, 1) := by decide +kernel
theorem dX0_likeliest_63 : decode cX0_likeliest 63 = .ok (.lmul, 1) := by decide +kernel
theorem dX0_likeliest_64 : decode cX0_likeliest 64 = .ok (.iload 9, 2) := by decide +kernel
theorem dX0_likeliest_66 : decode cX0_likeliest 66 = .ok (.i2l, 1) := by decide +kernel
theorem dX0_likeliest_67 : decode cX0_likeliest 67 = .ok (.ladd, 1) := by decide +kernel
theorem dX0_likeliest_68 : decode cX0_likeliest 68 = .ok (.lstore 5, 2) := by decide +kernel
theorem dX0_likeliest_70 : decode cX0_likeliest 70 = .ok (.iinc 10 1, 3) := by decide +kernel
theorem dX0_likeliest_73 : decode cX0_likeliest 73 = .ok (.goto (-49), 3) := by decide +kernel
theorem dX0_likeliest_76 : decode cX0_likeliest 76 = .ok (.iinc 9 1, 3) := by decide +kernel
theorem dX0_likeliest_79 : decode cX0_likeliest 79 = .ok (.goto (-66), 3) := by decide +kernel
theorem dX0_likeliest_82 : decode cX0_likeliest 82 = .ok (.lload 5, 2) := by decide +kernel
theorem dX0_likeliest_84 : decode cX0_likeliest 84 = .ok (.lreturn, 1) := by decide +kernel
set_option maxRecDepth 20000 in
theorem ggX0_miss_X0_movement : GoodIn wsX0_miss wsX0_movement := goodIn_r _ [4, 5, 6, 7, 8, 9] (by decide +kernel) (by decide +kernel)
set_option maxRecDepth 20000 in
theorem gX0_miss_X0_movement : GoodIn wsX0_miss (va_wsS RX0 184 yX0_movement wsX0_movement) := goodIn_app (goodIn_of _ (by decide +kernel)) ggX0_miss_X0_movement
set_option maxRecDepth 20000 in
theorem ggX0_miss_X0_squares : GoodIn wsX0_miss wsX0_squares := goodIn_r _ [12] (by decide +kernel) (by decide +kernel)
set_option maxRecDepth 20000 in
theorem gX0_miss_X0_squares : GoodIn wsX0_miss (va_wsS RX0 148 yX0_squares wsX0_squares) := goodIn_app (goodIn_of _ (by decide +kernel)) ggX0_miss_X0_squares
theorem dX0_miss_0 : decode cX0_miss 0 = .ok (.lload_n 0, 1) := by decide +kernel
theorem dX0_miss_1 : decode cX0_miss 1 = .ok (.iload 4, 2) := by decide +kernel
theorem dX0_miss_3 : decode cX0_miss 3 = .ok (.iload 5, 2) := by decide +kernel
theorem dX0_miss_5 : decode cX0_miss 5 = .ok (.bipush 8, 2) := by decide +kernel
theorem dX0_miss_7 : decode cX0_miss 7 = .ok (.invokestatic 184, 3) := by decide +kernel
theorem dX0_miss_10 : decode cX0_miss 10 = .ok (.lsub, 1) := by decide +kernel
theorem dX0_miss_11 : decode cX0_miss 11 = .ok (.lload_n 2, 1) := by decide +kernel
theorem dX0_miss_12 : decode cX0_miss 12 = .ok (.iload 4, 2) := by decide +kernel
theorem dX0_miss_14 : decode cX0_miss 14 = .ok (.iload 5, 2) := by decide +kernel
theorem dX0_miss_16 : decode cX0_miss 16 = .ok (.iconst 0, 1) := by decide +kernel
theorem dX0_miss_17 : decode cX0_miss 17 = .ok (.invokestatic 184, 3) := by decide +kernel
theorem dX0_miss_20 : decode cX0_miss 20 = .ok (.lsub, 1) := by decide +kernel
theorem dX0_miss_21 : decode cX0_miss 21 = .ok (.invokestatic 148, 3) := by decide +kernel
theorem dX0_miss_24 : decode cX0_miss 24 = .ok (.lreturn, 1) := by decide +kernel
set_option maxRecDepth 20000 in
theorem ggX0_digest_X0_mix : GoodIn wsX0_digest wsX0_mix := goodIn_r _ [8, 9] (by decide +kernel) (by decide +kernel)
set_option maxRecDepth 20000 in
theorem gX0_digest_X0_mix : GoodIn wsX0_digest (va_wsS RX0 204 yX0_mix wsX0_mix) := goodIn_app (goodIn_of _ (by decide +kernel)) ggX0_digest_X0_mix
set_option maxRecDepth 20000 in
theorem ggX0_digest_X0_mixPegs : GoodIn wsX0_digest wsX0_mixPegs := goodIn_r _ [13, 2, 14, 15, 16, 17, 7, 18, 19, 20, 21, 22, 23, 24, 25, 26, 27, 28, 29, 5, 6, 8, 9, 30, 31, 32, 33, 34, 136, 137, 138, 139, 140, 141, 142, 143, 144, 145, 146, 147] (by decide +kernel) (by decide +kernel)
set_option maxRecDepth 20000 in
theorem gX0_digest_X0_mixPegs : GoodIn wsX0_digest (wsV RX0 207 RX0 yX0_mixPegs wsX0_mixPegs) := goodIn_app (goodIn_of _ (by decide +kernel)) ggX0_digest_X0_mixPegs
set_option maxRecDepth 20000 in
theorem ggX0_digest_X0_mixMoments : GoodIn wsX0_digest wsX0_mixMoments := goodIn_r _ [38, 2, 39, 5, 6, 7, 8, 9, 40, 41, 42, 43, 44, 45, 46, 47, 48, 49, 50, 51, 52, 53, 54, 55, 56, 57, 3, 4, 20, 22, 14, 34, 58, 59, 60, 61, 62, 63, 64, 65, 66, 67, 68, 69, 70, 71, 72, 73, 74, 75, 76, 77, 78, 79, 80, 136, 137, 138, 139, 140, 141, 142, 143, 144, 145, 146, 147] (by decide +kernel) (by decide +kernel)
set_option maxRecDepth 20000 in
theorem gX0_digest_X0_mixMoments : GoodIn wsX0_digest (wsV RX0 210 RX0 yX0_mixMoments wsX0_mixMoments) := goodIn_app (goodIn_of _ (by decide +kernel)) ggX0_digest_X0_mixMoments
set_option maxRecDepth 20000 in
theorem ggX0_digest_X0_distance : GoodIn wsX0_digest wsX0_distance := goodIn_r _ [84, 85, 86, 87, 88, 7, 89, 2, 27, 28, 29, 90, 91, 92, 93, 66, 67, 68, 69, 44, 45, 46, 47, 39, 70, 71, 72, 73, 40, 41, 42, 43, 48, 49, 50, 51, 52, 53, 54, 55, 56, 57, 3, 4, 20, 22, 14, 34, 58, 59, 60, 61, 62, 63, 64, 65, 74, 75, 76, 77, 78, 79, 80, 94, 95, 96, 97, 98, 99, 136, 137, 138, 139, 140, 141, 142, 143, 144, 145, 146, 147] (by decide +kernel) (by decide +kernel)
set_option maxRecDepth 20000 in
theorem gX0_digest_X0_distance : GoodIn wsX0_digest (wsV RX0 213 RX0 yX0_distance wsX0_distance) := goodIn_app (goodIn_of _ (by decide +kernel)) ggX0_digest_X0_distance
set_option maxRecDepth 20000 in
theorem ggX0_digest_X0_bearing : GoodIn wsX0_digest wsX0_bearing := goodIn_r _ [103, 85, 104, 86, 87, 88, 7, 89, 2, 27, 28, 29, 90, 91, 92, 93, 66, 67, 68, 69, 44, 45, 46, 47, 39, 70, 71, 72, 73, 40, 41, 42, 43, 48, 49, 50, 51, 52, 53, 54, 55, 56, 57, 3, 4, 20, 22, 14, 34, 58, 59, 60, 61, 62, 63, 64, 65, 74, 75, 76, 77, 78, 79, 80, 105, 106, 107, 108, 109, 110, 136, 137, 138, 139, 140, 141, 142, 143, 144, 145, 146, 147] (by decide +kernel) (by decide +kernel)
set_option maxRecDepth 20000 in
theorem gX0_digest_X0_bearing : GoodIn wsX0_digest (wsV RX0 216 RX0 yX0_bearing wsX0_bearing) := goodIn_app (goodIn_of _ (by decide +kernel)) ggX0_digest_X0_bearing
set_option maxRecDepth 20000 in
theorem ggX0_digest_X0_firstLost : GoodIn wsX0_digest wsX0_firstLost := goodIn_r _ [114, 2, 20, 136, 137, 138, 139, 140, 141, 142, 143, 144, 145, 146, 147] (by decide +kernel) (by decide +kernel)
set_option maxRecDepth 20000 in
theorem gX0_digest_X0_firstLost : GoodIn wsX0_digest (wsV RX0 219 RX0 yX0_firstLost wsX0_firstLost) := goodIn_app (goodIn_of _ (by decide +kernel)) ggX0_digest_X0_firstLost
set_option maxRecDepth 20000 in
theorem ggX0_digest_X0_findLost : GoodIn wsX0_digest wsX0_findLost := goodIn_r _ [118, 19, 20, 21, 104, 14, 23, 24, 25, 7, 26, 2, 27, 28, 29, 44, 45, 46, 47, 39, 70, 71, 72, 73, 119, 120, 121, 122, 74, 75, 76, 77, 48, 49, 50, 51, 52, 53, 54, 55, 56, 57, 3, 4, 22, 34, 58, 59, 60, 61, 62, 63, 64, 65, 123, 124, 125, 126, 94, 95, 96, 127, 128, 129, 136, 137, 138, 139, 140, 141, 142, 143, 144, 145, 146, 147] (by decide +kernel) (by decide +kernel)
set_option maxRecDepth 20000 in
theorem gX0_digest_X0_findLost : GoodIn wsX0_digest (wsV RX0 222 RX0 yX0_findLost wsX0_findLost) := goodIn_app (goodIn_of _ (by decide +kernel)) ggX0_digest_X0_findLost
set_option maxRecDepth 20000 in
theorem ggX0_digest_X0_mixBuffer : GoodIn wsX0_digest wsX0_mixBuffer := goodIn_r _ [133, 134, 135, 5, 6, 7, 8, 9, 136, 137, 138, 139, 140, 141, 142, 143, 144, 145, 146, 147] (by decide +kernel) (by decide +kernel)
set_option maxRecDepth 20000 in
theorem gX0_digest_X0_mixBuffer : GoodIn wsX0_digest (wsV RX0 226 RX0 yX0_mixBuffer wsX0_mixBuffer) := goodIn_app (goodIn_of _ (by decide +kernel)) ggX0_digest_X0_mixBuffer
theorem dX0_digest_0 : decode cX0_digest 0 = .ok (.ldc2_w 202, 3) := by decide +kernel
theorem dX0_digest_3 : decode cX0_digest 3 = .ok (.aload_n 0, 1) := by decide +kernel
theorem dX0_digest_4 : decode cX0_digest 4 = .ok (.getfield 71, 3) := by decide +kernel
theorem dX0_digest_7 : decode cX0_digest 7 = .ok (.i2l, 1) := by decide +kernel
theorem dX0_digest_8 : decode cX0_digest 8 = .ok (.invokestatic 204, 3) := by decide +kernel
theorem dX0_digest_11 : decode cX0_digest 11 = .ok (.lstore_n 1, 1) := by decide +kernel
theorem dX0_digest_12 : decode cX0_digest 12 = .ok (.aload_n 0, 1) := by decide +kernel
theorem dX0_digest_13 : decode cX0_digest 13 = .ok (.lload_n 1, 1) := by decide +kernel
theorem dX0_digest_14 : decode cX0_digest 14 = .ok (.invokevirtual 207, 3) := by decide +kernel
theorem dX0_digest_17 : decode cX0_digest 17 = .ok (.lstore_n 1, 1) := by decide +kernel
theorem dX0_digest_18 : decode cX0_digest 18 = .ok (.lload_n 1, 1) := by decide +kernel
theorem dX0_digest_19 : decode cX0_digest 19 = .ok (.aload_n 0, 1) := by decide +kernel
theorem dX0_digest_20 : decode cX0_digest 20 = .ok (.getfield 118, 3) := by decide +kernel
theorem dX0_digest_23 : decode cX0_digest 23 = .ok (.i2l, 1) := by decide +kernel
theorem dX0_digest_24 : decode cX0_digest 24 = .ok (.invokestatic 204, 3) := by decide +kernel
theorem dX0_digest_27 : decode cX0_digest 27 = .ok (.aload_n 0, 1) := by decide +kernel
theorem dX0_digest_28 : decode cX0_digest 28 = .ok (.getfield 115, 3) := by decide +kernel
theorem dX0_digest_31 : decode cX0_digest 31 = .ok (.i2l, 1) := by decide +kernel
theorem dX0_digest_32 : decode cX0_digest 32 = .ok (.invokestatic 204, 3) := by decide +kernel
theorem dX0_digest_35 : decode cX0_digest 35 = .ok (.lstore_n 1, 1) := by decide +kernel
theorem dX0_digest_36 : decode cX0_digest 36 = .ok (.aload_n 0, 1) := by decide +kernel
theorem dX0_digest_37 : decode cX0_digest 37 = .ok (.lload_n 1, 1) := by decide +kernel
theorem dX0_digest_38 : decode cX0_digest 38 = .ok (.invokevirtual 210, 3) := by decide +kernel
theorem dX0_digest_41 : decode cX0_digest 41 = .ok (.lstore_n 1, 1) := by decide +kernel
theorem dX0_digest_42 : decode cX0_digest 42 = .ok (.lload_n 1, 1) := by decide +kernel
theorem dX0_digest_43 : decode cX0_digest 43 = .ok (.aload_n 0, 1) := by decide +kernel
theorem dX0_digest_44 : decode cX0_digest 44 = .ok (.iconst 0, 1) := by decide +kernel
theorem dX0_digest_45 : decode cX0_digest 45 = .ok (.aload_n 0, 1) := by decide +kernel
theorem dX0_digest_46 : decode cX0_digest 46 = .ok (.getfield 71, 3) := by decide +kernel
theorem dX0_digest_49 : decode cX0_digest 49 = .ok (.invokevirtual 213, 3) := by decide +kernel
theorem dX0_digest_52 : decode cX0_digest 52 = .ok (.invokestatic 204, 3) := by decide +kernel
theorem dX0_digest_55 : decode cX0_digest 55 = .ok (.aload_n 0, 1) := by decide +kernel
theorem dX0_digest_56 : decode cX0_digest 56 = .ok (.iconst 0, 1) := by decide +kernel
theorem dX0_digest_57 : decode cX0_digest 57 = .ok (.aload_n 0, 1) := by decide +kernel
theorem dX0_digest_58 : decode cX0_digest 58 = .ok (.getfield 71, 3) := by decide +kernel
theorem dX0_digest_61 : decode cX0_digest 61 = .ok (.invokevirtual 216, 3) := by decide +kernel
theorem dX0_digest_64 : decode cX0_digest 64 = .ok (.invokestatic 204, 3) := by decide +kernel
theorem dX0_digest_67 : decode cX0_digest 67 = .ok (.lstore_n 1, 1) := by decide +kernel
theorem dX0_digest_68 : decode cX0_digest 68 = .ok (.aload_n 0, 1) := by decide +kernel
theorem dX0_digest_69 : decode cX0_digest 69 = .ok (.invokevirtual 219, 3) := by decide +kernel
theorem dX0_digest_72 : decode cX0_digest 72 = .ok (.istore_n 3, 1) := by decide +kernel
theorem dX0_digest_73 : decode cX0_digest 73 = .ok (.iload_n 3, 1) := by decide +kernel
theorem dX0_digest_74 : decode cX0_digest 74 = .ok (.iconst (-1), 1) := by decide +kernel
theorem dX0_digest_75 : decode cX0_digest 75 = .ok (.if_icmp .eq 13, 3) := by decide +kernel
theorem dX0_digest_78 : decode cX0_digest 78 = .ok (.lload_n 1, 1) := by decide +kernel
theorem dX0_digest_79 : decode cX0_digest 79 = .ok (.aload_n 0, 1) := by decide +kernel
theorem dX0_digest_80 : decode cX0_digest 80 = .ok (.iload_n 3, 1) := by decide +kernel
theorem dX0_digest_81 : decode cX0_digest 81 = .ok (.invokevirtual 222, 3) := by decide +kernel
theorem dX0_digest_84 : decode cX0_digest 84 = .ok (.invokestatic 204, 3) := by decide +kernel
theorem dX0_digest_87 : decode cX0_digest 87 = .ok (.lstore_n 1, 1) := by decide +kernel
theorem dX0_digest_88 : decode cX0_digest 88 = .ok (.aload_n 0, 1) := by decide +kernel
theorem dX0_digest_89 : decode cX0_digest 89 = .ok (.lload_n 1, 1) := by decide +kernel
theorem dX0_digest_90 : decode cX0_digest 90 = .ok (.invokevirtual 226, 3) := by decide +kernel
theorem dX0_digest_93 : decode cX0_digest 93 = .ok (.lreturn, 1) := by decide +kernel
set_option maxRecDepth 20000 in
theorem ggX0_mixPegs_X0_pointOf : GoodIn wsX0_mixPegs wsX0_pointOf := goodIn_r _ [7, 8, 9, 10, 11, 12, 13, 14, 6, 15, 1, 16, 17, 18, 28, 29, 30, 31, 32, 33, 34, 35, 36, 37, 38, 39] (by decide +kernel) (by decide +kernel)
set_option maxRecDepth 20000 in
theorem gX0_mixPegs_X0_pointOf : GoodIn wsX0_mixPegs (wsV RX0 229 RX0 yX0_pointOf wsX0_pointOf) := goodIn_app (goodIn_of _ (by decide +kernel)) ggX0_mixPegs_X0_pointOf
set_option maxRecDepth 20000 in
theorem ggX0_mixPegs_X0_mix : GoodIn wsX0_mixPegs wsX0_mix := goodIn_r _ [21, 22] (by decide +kernel) (by decide +kernel)
set_option maxRecDepth 20000 in
theorem gX0_mixPegs_X0_mix : GoodIn wsX0_mixPegs (va_wsS RX0 204 yX0_mix wsX0_mix) := goodIn_app (goodIn_of _ (by decide +kernel)) ggX0_mixPegs_X0_mix
set_option maxRecDepth 20000 in
theorem ggX0_mixPegs_X0_speedOf : GoodIn wsX0_mixPegs wsX0_speedOf := goodIn_r _ [26, 8, 9, 10, 27, 12, 13, 14, 6, 15, 1, 16, 17, 18, 28, 29, 30, 31, 32, 33, 34, 35, 36, 37, 38, 39] (by decide +kernel) (by decide +kernel)
set_option maxRecDepth 20000 in
theorem gX0_mixPegs_X0_speedOf : GoodIn wsX0_mixPegs (wsV RX0 232 RX0 yX0_speedOf wsX0_speedOf) := goodIn_app (goodIn_of _ (by decide +kernel)) ggX0_mixPegs_X0_speedOf
theorem dX0_mixPegs_0 : decode cX0_mixPegs 0 = .ok (.lload_n 1, 1) := by decide +kernel
theorem dX0_mixPegs_1 : decode cX0_mixPegs 1 = .ok (.lstore_n 3, 1) := by decide +kernel
theorem dX0_mixPegs_2 : decode cX0_mixPegs 2 = .ok (.iconst 0, 1) := by decide +kernel
theorem dX0_mixPegs_3 : decode cX0_mixPegs 3 = .ok (.istore 5, 2) := by decide +kernel
theorem dX0_mixPegs_5 : decode cX0_mixPegs 5 = .ok (.iload 5, 2) := by decide +kernel
theorem dX0_mixPegs_7 : decode cX0_mixPegs 7 = .ok (.aload_n 0, 1) := by decide +kernel
theorem dX0_mixPegs_8 : decode cX0_mixPegs 8 = .ok (.getfield 71, 3) := by decide +kernel
theorem dX0_mixPegs_11 : decode cX0_mixPegs 11 = .ok (.if_icmp .ge 44, 3) := by decide +kernel
theorem dX0_mixPegs_14 : decode cX0_mixPegs 14 = .ok (.lload_n 3, 1) := by decide +kernel
theorem dX0_mixPegs_15 : decode cX0_mixPegs 15 = .ok (.aload_n 0, 1) := by decide +kernel
theorem dX0_mixPegs_16 : decode cX0_mixPegs 16 = .ok (.iload 5, 2) := by decide +kernel
theorem dX0_mixPegs_18 : decode cX0_mixPegs 18 = .ok (.invokevirtual 229, 3) := by decide +kernel
theorem dX0_mixPegs_21 : decode cX0_mixPegs 21 = .ok (.invokestatic 204, 3) := by decide +kernel
theorem dX0_mixPegs_24 : decode cX0_mixPegs 24 = .ok (.lstore_n 3, 1) := by decide +kernel
theorem dX0_mixPegs_25 : decode cX0_mixPegs 25 = .ok (.lload_n 3, 1) := by decide +kernel
theorem dX0_mixPegs_26 : decode cX0_mixPegs 26 = .ok (.aload_n 0, 1) := by decide +kernel
theorem dX0_mixPegs_27 : decode cX0_mixPegs 27 = .ok (.iload 5, 2) := by decide +kernel
theorem dX0_mixPegs_29 : decode cX0_mixPegs 29 = .ok (.invokevirtual 232, 3) := by decide +kernel
theorem dX0_mixPegs_32 : decode cX0_mixPegs 32 = .ok (.invokestatic 204, 3) := by decide +kernel
theorem dX0_mixPegs_35 : decode cX0_mixPegs 35 = .ok (.lstore_n 3, 1) := by decide +kernel
theorem dX0_mixPegs_36 : decode cX0_mixPegs 36 = .ok (.lload_n 3, 1) := by decide +kernel
theorem dX0_mixPegs_37 : decode cX0_mixPegs 37 = .ok (.aload_n 0, 1) := by decide +kernel
theorem dX0_mixPegs_38 : decode cX0_mixPegs 38 = .ok (.getfield 19, 3) := by decide +kernel
theorem dX0_mixPegs_41 : decode cX0_mixPegs 41 = .ok (.iload 5, 2) := by decide +kernel
theorem dX0_mixPegs_43 : decode cX0_mixPegs 43 = .ok (.iaload, 1) := by decide +kernel
theorem dX0_mixPegs_44 : decode cX0_mixPegs 44 = .ok (.i2l, 1) := by decide +kernel
theorem dX0_mixPegs_45 : decode cX0_mixPegs 45 = .ok (.invokestatic 204, 3) := by decide +kernel
theorem dX0_mixPegs_48 : decode cX0_mixPegs 48 = .ok (.lstore_n 3, 1) := by decide +kernel
theorem dX0_mixPegs_49 : decode cX0_mixPegs 49 = .ok (.iinc 5 1, 3) := by decide +kernel
theorem dX0_mixPegs_52 : decode cX0_mixPegs 52 = .ok (.goto (-47), 3) := by decide +kernel
theorem dX0_mixPegs_55 : decode cX0_mixPegs 55 = .ok (.lload_n 3, 1) := by decide +kernel
theorem dX0_mixPegs_56 : decode cX0_mixPegs 56 = .ok (.lreturn, 1) := by decide +kernel
set_option maxRecDepth 20000 in
theorem ggX0_mixMoments_X0_mix : GoodIn wsX0_mixMoments wsX0_mix := goodIn_r _ [6, 7] (by decide +kernel) (by decide +kernel)
set_option maxRecDepth 20000 in
theorem gX0_mixMoments_X0_mix : GoodIn wsX0_mixMoments (va_wsS RX0 204 yX0_mix wsX0_mix) := goodIn_app (goodIn_of _ (by decide +kernel)) ggX0_mixMoments_X0_mix
set_option maxRecDepth 20000 in
theorem ggX0_mixMoments_X0_reckoned : GoodIn wsX0_mixMoments wsX0_reckoned := goodIn_r _ [11, 12, 13, 14, 5, 15, 2, 16, 17, 18, 19, 20, 21, 22, 23, 24, 25, 26, 27, 28, 29, 30, 31, 32, 33, 34, 35, 36, 37, 38, 39, 55, 56, 57, 58, 59, 60, 61, 62, 63, 64, 65, 66] (by decide +kernel) (by decide +kernel)
set_option maxRecDepth 20000 in
theorem gX0_mixMoments_X0_reckoned : GoodIn wsX0_mixMoments (wsV RX0 137 RX0 yX0_reckoned wsX0_reckoned) := goodIn_app (goodIn_of _ (by decide +kernel)) ggX0_mixMoments_X0_reckoned
set_option maxRecDepth 20000 in
theorem ggX0_mixMoments_X0_corrected : GoodIn wsX0_mixMoments wsX0_corrected := goodIn_r _ [43, 12, 13, 14, 5, 15, 2, 44, 45, 46, 47, 1, 8, 9, 10, 11, 16, 17, 18, 19, 20, 21, 22, 23, 24, 25, 26, 27, 28, 29, 30, 31, 32, 33, 34, 35, 36, 37, 38, 39, 48, 49, 50, 51, 52, 53, 54, 55, 56, 57, 58, 59, 60, 61, 62, 63, 64, 65, 66] (by decide +kernel) (by decide +kernel)
set_option maxRecDepth 20000 in
theorem gX0_mixMoments_X0_corrected : GoodIn wsX0_mixMoments (wsV RX0 141 RX0 yX0_corrected wsX0_corrected) := goodIn_app (goodIn_of _ (by decide +kernel)) ggX0_mixMoments_X0_corrected
theorem dX0_mixMoments_0 : decode cX0_mixMoments 0 = .ok (.lload_n 1, 1) := by decide +kernel
theorem dX0_mixMoments_1 : decode cX0_mixMoments 1 = .ok (.lstore_n 3, 1) := by decide +kernel
theorem dX0_mixMoments_2 : decode cX0_mixMoments 2 = .ok (.iconst 0, 1) := by decide +kernel
theorem dX0_mixMoments_3 : decode cX0_mixMoments 3 = .ok (.istore 5, 2) := by decide +kernel
theorem dX0_mixMoments_5 : decode cX0_mixMoments 5 = .ok (.iload 5, 2) := by decide +kernel
theorem dX0_mixMoments_7 : decode cX0_mixMoments 7 = .ok (.aload_n 0, 1) := by decide +kernel
theorem dX0_mixMoments_8 : decode cX0_mixMoments 8 = .ok (.getfield 71, 3) := by decide +kernel
theorem dX0_mixMoments_11 : decode cX0_mixMoments 11 = .ok (.if_icmp .gt 79, 3) := by decide +kernel
theorem dX0_mixMoments_14 : decode cX0_mixMoments 14 = .ok (.lload_n 3, 1) := by decide +kernel
theorem dX0_mixMoments_15 : decode cX0_mixMoments 15 = .ok (.aload_n 0, 1) := by decide +kernel
theorem dX0_mixMoments_16 : decode cX0_mixMoments 16 = .ok (.getfield 26, 3) := by decide +kernel
theorem dX0_mixMoments_19 : decode cX0_mixMoments 19 = .ok (.iload 5, 2) := by decide +kernel
theorem dX0_mixMoments_21 : decode cX0_mixMoments 21 = .ok (.baload, 1) := by decide +kernel
theorem dX0_mixMoments_22 : decode cX0_mixMoments 22 = .ok (.ifCond .eq 7, 3) := by decide +kernel
theorem dX0_mixMoments_25 : decode cX0_mixMoments 25 = .ok (.lconst 1, 1) := by decide +kernel
theorem dX0_mixMoments_26 : decode cX0_mixMoments 26 = .ok (.goto 4, 3) := by decide +kernel
theorem dX0_mixMoments_29 : decode cX0_mixMoments 29 = .ok (.lconst 0, 1) := by decide +kernel
theorem dX0_mixMoments_30 : decode cX0_mixMoments 30 = .ok (.invokestatic 204, 3) := by decide +kernel
theorem dX0_mixMoments_33 : decode cX0_mixMoments 33 = .ok (.lstore_n 3, 1) := by decide +kernel
theorem dX0_mixMoments_34 : decode cX0_mixMoments 34 = .ok (.lload_n 3, 1) := by decide +kernel
theorem dX0_mixMoments_35 : decode cX0_mixMoments 35 = .ok (.aload_n 0, 1) := by decide +kernel
theorem dX0_mixMoments_36 : decode cX0_mixMoments 36 = .ok (.iload 5, 2) := by decide +kernel
theorem dX0_mixMoments_38 : decode cX0_mixMoments 38 = .ok (.bipush 8, 2) := by decide +kernel
theorem dX0_mixMoments_40 : decode cX0_mixMoments 40 = .ok (.invokevirtual 137, 3) := by decide +kernel
theorem dX0_mixMoments_43 : decode cX0_mixMoments 43 = .ok (.invokestatic 204, 3) := by decide +kernel
theorem dX0_mixMoments_46 : decode cX0_mixMoments 46 = .ok (.lstore_n 3, 1) := by decide +kernel
theorem dX0_mixMoments_47 : decode cX0_mixMoments 47 = .ok (.lload_n 3, 1) := by decide +kernel
theorem dX0_mixMoments_48 : decode cX0_mixMoments 48 = .ok (.aload_n 0, 1) := by decide +kernel
theorem dX0_mixMoments_49 : decode cX0_mixMoments 49 = .ok (.iload 5, 2) := by decide +kernel
theorem dX0_mixMoments_51 : decode cX0_mixMoments 51 = .ok (.iconst 0, 1) := by decide +kernel
theorem dX0_mixMoments_52 : decode cX0_mixMoments 52 = .ok (.invokevirtual 137, 3) := by decide +kernel
theorem dX0_mixMoments_55 : decode cX0_mixMoments 55 = .ok (.invokestatic 204, 3) := by decide +kernel
theorem dX0_mixMoments_58 : decode cX0_mixMoments 58 = .ok (.lstore_n 3, 1) := by decide +kernel
theorem dX0_mixMoments_59 : decode cX0_mixMoments 59 = .ok (.lload_n 3, 1) := by decide +kernel
theorem dX0_mixMoments_60 : decode cX0_mixMoments 60 = .ok (.aload_n 0, 1) := by decide +kernel
theorem dX0_mixMoments_61 : decode cX0_mixMoments 61 = .ok (.iload 5, 2) := by decide +kernel
theorem dX0_mixMoments_63 : decode cX0_mixMoments 63 = .ok (.bipush 8, 2) := by decide +kernel
theorem dX0_mixMoments_65 : decode cX0_mixMoments 65 = .ok (.invokevirtual 141, 3) := by decide +kernel
theorem dX0_mixMoments_68 : decode cX0_mixMoments 68 = .ok (.invokestatic 204, 3) := by decide +kernel
theorem dX0_mixMoments_71 : decode cX0_mixMoments 71 = .ok (.lstore_n 3, 1) := by decide +kernel
theorem dX0_mixMoments_72 : decode cX0_mixMoments 72 = .ok (.lload_n 3, 1) := by decide +kernel
theorem dX0_mixMoments_73 : decode cX0_mixMoments 73 = .ok (.aload_n 0, 1) := by decide +kernel
theorem dX0_mixMoments_74 : decode cX0_mixMoments 74 = .ok (.iload 5, 2) := by decide +kernel
theorem dX0_mixMoments_76 : decode cX0_mixMoments 76 = .ok (.iconst 0, 1) := by decide +kernel
theorem dX0_mixMoments_77 : decode cX0_mixMoments 77 = .ok (.invokevirtual 141, 3) := by decide +kernel
theorem dX0_mixMoments_80 : decode cX0_mixMoments 80 = .ok (.invokestatic 204, 3) := by decide +kernel
theorem dX0_mixMoments_83 : decode cX0_mixMoments 83 = .ok (.lstore_n 3, 1) := by decide +kernel
theorem dX0_mixMoments_84 : decode cX0_mixMoments 84 = .ok (.iinc 5 1, 3) := by decide +kernel
theorem dX0_mixMoments_87 : decode cX0_mixMoments 87 = .ok (.goto (-82), 3) := by decide +kernel
theorem dX0_mixMoments_90 : decode cX0_mixMoments 90 = .ok (.lload_n 3, 1) := by decide +kernel
theorem dX0_mixMoments_91 : decode cX0_mixMoments 91 = .ok (.lreturn, 1) := by decide +kernel
set_option maxRecDepth 20000 in
theorem ggX0_mixBuffer_X0_mix : GoodIn wsX0_mixBuffer wsX0_mix := goodIn_r _ [6, 7] (by decide +kernel) (by decide +kernel)
set_option maxRecDepth 20000 in
theorem gX0_mixBuffer_X0_mix : GoodIn wsX0_mixBuffer (va_wsS RX0 204 yX0_mix wsX0_mix) := goodIn_app (goodIn_of _ (by decide +kernel)) ggX0_mixBuffer_X0_mix
theorem dX0_mixBuffer_0 : decode cX0_mixBuffer 0 = .ok (.lload_n 1, 1) := by decide +kernel
theorem dX0_mixBuffer_1 : decode cX0_mixBuffer 1 = .ok (.aload_n 0, 1) := by decide +kernel
theorem dX0_mixBuffer_2 : decode cX0_mixBuffer 2 = .ok (.getfield 41, 3) := by decide +kernel
theorem dX0_mixBuffer_5 : decode cX0_mixBuffer 5 = .ok (.i2l, 1) := by decide +kernel
theorem dX0_mixBuffer_6 : decode cX0_mixBuffer 6 = .ok (.invokestatic 204, 3) := by decide +kernel
theorem dX0_mixBuffer_9 : decode cX0_mixBuffer 9 = .ok (.lstore_n 3, 1) := by decide +kernel
theorem dX0_mixBuffer_10 : decode cX0_mixBuffer 10 = .ok (.iconst 0, 1) := by decide +kernel
theorem dX0_mixBuffer_11 : decode cX0_mixBuffer 11 = .ok (.istore 5, 2) := by decide +kernel
theorem dX0_mixBuffer_13 : decode cX0_mixBuffer 13 = .ok (.iload 5, 2) := by decide +kernel
theorem dX0_mixBuffer_15 : decode cX0_mixBuffer 15 = .ok (.aload_n 0, 1) := by decide +kernel
theorem dX0_mixBuffer_16 : decode cX0_mixBuffer 16 = .ok (.getfield 41, 3) := by decide +kernel
theorem dX0_mixBuffer_19 : decode cX0_mixBuffer 19 = .ok (.if_icmp .ge 22, 3) := by decide +kernel
theorem dX0_mixBuffer_22 : decode cX0_mixBuffer 22 = .ok (.lload_n 3, 1) := by decide +kernel
theorem dX0_mixBuffer_23 : decode cX0_mixBuffer 23 = .ok (.aload_n 0, 1) := by decide +kernel
theorem dX0_mixBuffer_24 : decode cX0_mixBuffer 24 = .ok (.getfield 9, 3) := by decide +kernel
theorem dX0_mixBuffer_27 : decode cX0_mixBuffer 27 = .ok (.iload 5, 2) := by decide +kernel
theorem dX0_mixBuffer_29 : decode cX0_mixBuffer 29 = .ok (.iaload, 1) := by decide +kernel
theorem dX0_mixBuffer_30 : decode cX0_mixBuffer 30 = .ok (.i2l, 1) := by decide +kernel
theorem dX0_mixBuffer_31 : decode cX0_mixBuffer 31 = .ok (.invokestatic 204, 3) := by decide +kernel
theorem dX0_mixBuffer_34 : decode cX0_mixBuffer 34 = .ok (.lstore_n 3, 1) := by decide +kernel
theorem dX0_mixBuffer_35 : decode cX0_mixBuffer 35 = .ok (.iinc 5 1, 3) := by decide +kernel
theorem dX0_mixBuffer_38 : decode cX0_mixBuffer 38 = .ok (.goto (-25), 3) := by decide +kernel
theorem dX0_mixBuffer_41 : decode cX0_mixBuffer 41 = .ok (.lload_n 3, 1) := by decide +kernel
theorem dX0_mixBuffer_42 : decode cX0_mixBuffer 42 = .ok (.lreturn, 1) := by decide +kernel
theorem dX0_mix_0 : decode cX0_mix 0 = .ok (.ldc2_w 235, 3) := by decide +kernel
theorem dX0_mix_3 : decode cX0_mix 3 = .ok (.lload_n 0, 1) := by decide +kernel
theorem dX0_mix_4 : decode cX0_mix 4 = .ok (.lmul, 1) := by decide +kernel
theorem dX0_mix_5 : decode cX0_mix 5 = .ok (.lload_n 2, 1) := by decide +kernel
theorem dX0_mix_6 : decode cX0_mix 6 = .ok (.ladd, 1) := by decide +kernel
theorem dX0_mix_7 : decode cX0_mix 7 = .ok (.lreturn, 1) := by decide +kernel
end
section
theorem dX1_init_0 : decode cX1_init 0 = .ok (.aload_n 0, 1) := by decide +kernel
theorem dX1_init_1 : decode cX1_init 1 = .ok (.invokespecial 1, 3) := by decide +kernel
theorem dX1_init_4 : decode cX1_init 4 = .ok (.aload_n 0, 1) := by decide +kernel
theorem dX1_init_5 : decode cX1_init 5 = .ok (.bipush 12, 2) := by decide +kernel
theorem dX1_init_7 : decode cX1_init 7 = .ok (.newarray .int, 2) := by decide +kernel
theorem dX1_init_9 : decode cX1_init 9 = .ok (.putfield 7, 3) := by decide +kernel
theorem dX1_init_12 : decode cX1_init 12 = .ok (.aload_n 0, 1) := by decide +kernel
theorem dX1_init_13 : decode cX1_init 13 = .ok (.bipush 48, 2) := by decide +kernel
theorem dX1_init_15 : decode cX1_init 15 = .ok (.newarray .int, 2) := by decide +kernel
theorem dX1_init_17 : decode cX1_init 17 = .ok (.putfield 13, 3) := by decide +kernel
theorem dX1_init_20 : decode cX1_init 20 = .ok (.aload_n 0, 1) := by decide +kernel
theorem dX1_init_21 : decode cX1_init 21 = .ok (.bipush 48, 2) := by decide +kernel
theorem dX1_init_23 : decode cX1_init 23 = .ok (.newarray .int, 2) := by decide +kernel
theorem dX1_init_25 : decode cX1_init 25 = .ok (.putfield 16, 3) := by decide +kernel
theorem dX1_init_28 : decode cX1_init 28 = .ok (.aload_n 0, 1) := by decide +kernel
theorem dX1_init_29 : decode cX1_init 29 = .ok (.bipush 48, 2) := by decide +kernel
theorem dX1_init_31 : decode cX1_init 31 = .ok (.newarray .int, 2) := by decide +kernel
theorem dX1_init_33 : decode cX1_init 33 = .ok (.putfield 19, 3) := by decide +kernel
theorem dX1_init_36 : decode cX1_init 36 = .ok (.aload_n 0, 1) := by decide +kernel
theorem dX1_init_37 : decode cX1_init 37 = .ok (.bipush 48, 2) := by decide +kernel
theorem dX1_init_39 : decode cX1_init 39 = .ok (.newarray .boolean, 2) := by decide +kernel
theorem dX1_init_41 : decode cX1_init 41 = .ok (.putfield 22, 3) := by decide +kernel
theorem dX1_init_44 : decode cX1_init 44 = .ok (.aload_n 0, 1) := by decide +kernel
theorem dX1_init_45 : decode cX1_init 45 = .ok (.bipush 49, 2) := by decide +kernel
theorem dX1_init_47 : decode cX1_init 47 = .ok (.newarray .boolean, 2) := by decide +kernel
theorem dX1_init_49 : decode cX1_init 49 = .ok (.putfield 26, 3) := by decide +kernel
theorem dX1_init_52 : decode cX1_init 52 = .ok (.aload_n 0, 1) := by decide +kernel
theorem dX1_init_53 : decode cX1_init 53 = .ok (.bipush 49, 2) := by decide +kernel
theorem dX1_init_55 : decode cX1_init 55 = .ok (.newarray .long, 2) := by decide +kernel
theorem dX1_init_57 : decode cX1_init 57 = .ok (.putfield 29, 3) := by decide +kernel
theorem dX1_init_60 : decode cX1_init 60 = .ok (.aload_n 0, 1) := by decide +kernel
theorem dX1_init_61 : decode cX1_init 61 = .ok (.bipush 49, 2) := by decide +kernel
theorem dX1_init_63 : decode cX1_init 63 = .ok (.newarray .long, 2) := by decide +kernel
theorem dX1_init_65 : decode cX1_init 65 = .ok (.putfield 33, 3) := by decide +kernel
theorem dX1_init_68 : decode cX1_init 68 = .ok (.aload_n 0, 1) := by decide +kernel
theorem dX1_init_69 : decode cX1_init 69 = .ok (.getfield 26, 3) := by decide +kernel
theorem dX1_init_72 : decode cX1_init 72 = .ok (.iconst 0, 1) := by decide +kernel
theorem dX1_init_73 : decode cX1_init 73 = .ok (.iconst 1, 1) := by decide +kernel
theorem dX1_init_74 : decode cX1_init 74 = .ok (.bastore, 1) := by decide +kernel
theorem dX1_init_75 : decode cX1_init 75 = .ok (.return_, 1) := by decide +kernel
theorem dX1_within_0 : decode cX1_within 0 = .ok (.iload_n 0, 1) := by decide +kernel
theorem dX1_within_1 : decode cX1_within 1 = .ok (.iload_n 1, 1) := by decide +kernel
theorem dX1_within_2 : decode cX1_within 2 = .ok (.if_icmp .lt 12, 3) := by decide +kernel
theorem dX1_within_5 : decode cX1_within 5 = .ok (.iload_n 0, 1) := by decide +kernel
theorem dX1_within_6 : decode cX1_within 6 = .ok (.iload_n 2, 1) := by decide +kernel
theorem dX1_within_7 : decode cX1_within 7 = .ok (.if_icmp .gt 7, 3) := by decide +kernel
theorem dX1_within_10 : decode cX1_within 10 = .ok (.iconst 1, 1) := by decide +kernel
theorem dX1_within_11 : decode cX1_within 11 = .ok (.goto 4, 3) := by decide +kernel
theorem dX1_within_14 : decode cX1_within 14 = .ok (.iconst 0, 1) := by decide +kernel
theorem dX1_within_15 : decode cX1_within 15 = .ok (.ireturn, 1) := by decide +kernel
theorem dX1_four_0 : decode cX1_four 0 = .ok (.iload_n 0, 1) := by decide +kernel
theorem dX1_four_1 : decode cX1_four 1 = .ok (.sipush 128, 3) := by decide +kernel
theorem dX1_four_4 : decode cX1_four 4 = .ok (.imul, 1) := by decide +kernel
theorem dX1_four_5 : decode cX1_four 5 = .ok (.iload_n 1, 1) := by decide +kernel
theorem dX1_four_6 : decode cX1_four 6 = .ok (.iadd, 1) := by decide +kernel
theorem dX1_four_7 : decode cX1_four 7 = .ok (.sipush 128, 3) := by decide +kernel
theorem dX1_four_10 : decode cX1_four 10 = .ok (.imul, 1) := by decide +kernel
theorem dX1_four_11 : decode cX1_four 11 = .ok (.iload_n 2, 1) := by decide +kernel
theorem dX1_four_12 : decode cX1_four 12 = .ok (.iadd, 1) := by decide +kernel
theorem dX1_four_13 : decode cX1_four 13 = .ok (.sipush 128, 3) := by decide +kernel
theorem dX1_four_16 : decode cX1_four 16 = .ok (.imul, 1) := by decide +kernel
theorem dX1_four_17 : decode cX1_four 17 = .ok (.iload_n 3, 1) := by decide +kernel
theorem dX1_four_18 : decode cX1_four 18 = .ok (.iadd, 1) := by decide +kernel
theorem dX1_four_19 : decode cX1_four 19 = .ok (.ireturn, 1) := by decide +kernel
set_option maxRecDepth 20000 in
theorem ggX1_name_X1_four : GoodIn wsX1_name wsX1_four := goodIn_r _ [4] (by decide +kernel) (by decide +kernel)
set_option maxRecDepth 20000 in
theorem gX1_name_X1_four : GoodIn wsX1_name (va_wsS RX1 36 yX1_four wsX1_four) := goodIn_app (goodIn_of _ (by decide +kernel)) ggX1_name_X1_four
theorem dX1_name_0 : decode cX1_name 0 = .ok (.iload_n 0, 1) := by decide +kernel
theorem dX1_name_1 : decode cX1_name 1 = .ok (.tableswitch 476 0 30 #[139, 148, 159, 170, 182, 192, 204, 215, 226, 235, 246, 257, 269, 279, 291, 302, 313, 322, 333, 344, 356, 366, 378, 389, 400, 409, 420, 431, 443, 453, 465], 139) := by decide +kernel
theorem dX1_name_140 : decode cX1_name 140 = .ok (.bipush 78, 2) := by decide +kernel
theorem dX1_name_142 : decode cX1_name 142 = .ok (.iconst 0, 1) := by decide +kernel
theorem dX1_name_143 : decode cX1_name 143 = .ok (.iconst 0, 1) := by decide +kernel
theorem dX1_name_144 : decode cX1_name 144 = .ok (.iconst 0, 1) := by decide +kernel
theorem dX1_name_145 : decode cX1_name 145 = .ok (.invokestatic 36, 3) := by decide +kernel
theorem dX1_name_148 : decode cX1_name 148 = .ok (.ireturn, 1) := by decide +kernel
theorem dX1_name_149 : decode cX1_name 149 = .ok (.bipush 78, 2) := by decide +kernel
theorem dX1_name_151 : decode cX1_name 151 = .ok (.bipush 98, 2) := by decide +kernel
theorem dX1_name_153 : decode cX1_name 153 = .ok (.bipush 69, 2) := by decide +kernel
theorem dX1_name_155 : decode cX1_name 155 = .ok (.iconst 0, 1) := by decide +kernel
theorem dX1_name_156 : decode cX1_name 156 = .ok (.invokestatic 36, 3) := by decide +kernel
theorem dX1_name_159 : decode cX1_name 159 = .ok (.ireturn, 1) := by decide +kernel
theorem dX1_name_160 : decode cX1_name 160 = .ok (.bipush 78, 2) := by decide +kernel
theorem dX1_name_162 : decode cX1_name 162 = .ok (.bipush 78, 2) := by decide +kernel
theorem dX1_name_164 : decode cX1_name 164 = .ok (.bipush 69, 2) := by decide +kernel
theorem dX1_name_166 : decode cX1_name 166 = .ok (.iconst 0, 1) := by decide +kernel
theorem dX1_name_167 : decode cX1_name 167 = .ok (.invokestatic 36, 3) := by decide +kernel
theorem dX1_name_170 : decode cX1_name 170 = .ok (.ireturn, 1) := by decide +kernel
theorem dX1_name_171 : decode cX1_name 171 = .ok (.bipush 78, 2) := by decide +kernel
theorem dX1_name_173 : decode cX1_name 173 = .ok (.bipush 69, 2) := by decide +kernel
theorem dX1_name_175 : decode cX1_name 175 = .ok (.bipush 98, 2) := by decide +kernel
theorem dX1_name_177 : decode cX1_name 177 = .ok (.bipush 78, 2) := by decide +kernel
theorem dX1_name_179 : decode cX1_name 179 = .ok (.invokestatic 36, 3) := by decide +kernel
theorem dX1_name_182 : decode cX1_name 182 = .ok (.ireturn, 1) := by decide +kernel
theorem dX1_name_183 : decode cX1_name 183 = .ok (.bipush 78, 2) := by decide +kernel
theorem dX1_name_185 : decode cX1_name 185 = .ok (.bipush 69, 2) := by decide +kernel
theorem dX1_name_187 : decode cX1_name 187 = .ok (.iconst 0, 1) := by decide +kernel
theorem dX1_name_188 : decode cX1_name 188 = .ok (.iconst 0, 1) := by decide +kernel
theorem dX1_name_189 : decode cX1_name 189 = .ok (.invokestatic 36, 3) := by decide +kernel
theorem dX1_name_192 : decode cX1_name 192 = .ok (.ireturn, 1) := by decide +kernel
theorem dX1_name_193 : decode cX1_name 193 = .ok (.bipush 78, 2) := by decide +kernel
theorem dX1_name_195 : decode cX1_name 195 = .ok (.bipush 69, 2) := by decide +kernel
theorem dX1_name_197 : decode cX1_name 197 = .ok (.bipush 98, 2) := by decide +kernel
theorem dX1_name_199 : decode cX1_name 199 = .ok (.bipush 69, 2) := by decide +kernel
theorem dX1_name_201 : decode cX1_name 201 = .ok (.invokestatic 36, 3) := by decide +kernel
theorem dX1_name_204 : decode cX1_name 204 = .ok (.ireturn, 1) := by decide +kernel
theorem dX1_name_205 : decode cX1_name 205 = .ok (.bipush 69, 2) := by decide +kernel
theorem dX1_name_207 : decode cX1_name 207 = .ok (.bipush 78, 2) := by decide +kernel
theorem dX1_name_209 : decode cX1_name 209 = .ok (.bipush 69, 2) := by decide +kernel
theorem dX1_name_211 : decode cX1_name 211 = .ok (.iconst 0, 1) := by decide +kernel
theorem dX1_name_212 : decode cX1_name 212 = .ok (.invokestatic 36, 3) := by decide +kernel
theorem dX1_name_215 : decode cX1_name 215 = .ok (.ireturn, 1) := by decide +kernel
theorem dX1_name_216 : decode cX1_name 216 = .ok (.bipush 69, 2) := by decide +kernel
theorem dX1_name_218 : decode cX1_name 218 = .ok (.bipush 98, 2) := by decide +kernel
theorem dX1_name_220 : decode cX1_name 220 = .ok (.bipush 78, 2) := by decide +kernel
theorem dX1_name_222 : decode cX1_name 222 = .ok (.iconst 0, 1) := by decide +kernel
theorem dX1_name_223 : decode cX1_name 223 = .ok (.invokestatic 36, 3) := by decide +kernel
theorem dX1_name_226 : decode cX1_name 226 = .ok (.ireturn, 1) := by decide +kernel
theorem dX1_name_227 : decode cX1_name 227 = .ok (.bipush 69, 2) := by decide +kernel
theorem dX1_name_229 : decode cX1_name 229 = .ok (.iconst 0, 1) := by decide +kernel
theorem dX1_name_230 : decode cX1_name 230 = .ok (.iconst 0, 1) := by decide +kernel
theorem dX1_name_231 : decode cX1_name 231 = .ok (.iconst 0, 1) := by decide +kernel
theorem dX1_name_232 : decode cX1_name 232 = .ok (.invokestatic 36, 3) := by decide +kernel
theorem dX1_name_235 : decode cX1_name 235 = .ok (.ireturn, 1) := by decide +kernel
theorem dX1_name_236 : decode cX1_name 236 = .ok (.bipush 69, 2) := by decide +kernel
theorem dX1_name_238 : decode cX1_name 238 = .ok (.bipush 98, 2) := by decide +kernel
theorem dX1_name_240 : decode cX1_name 240 = .ok (.bipush 83, 2) := by decide +kernel
theorem dX1_name_242 : decode cX1_name 242 = .ok (.iconst 0, 1) := by decide +kernel
theorem dX1_name_243 : decode cX1_name 243 = .ok (.invokestatic 36, 3) := by decide +kernel
theorem dX1_name_246 : decode cX1_name 246 = .ok (.ireturn, 1) := by decide +kernel
theorem dX1_name_247 : decode cX1_name 247 = .ok (.bipush 69, 2) := by decide +kernel
theorem dX1_name_249 : decode cX1_name 249 = .ok (.bipush 83, 2) := by decide +kernel
theorem dX1_name_251 : decode cX1_name 251 = .ok (.bipush 69, 2) := by decide +kernel
theorem dX1_name_253 : decode cX1_name 253 = .ok (.iconst 0, 1) := by decide +kernel
theorem dX1_name_254 : decode cX1_name 254 = .ok (.invokestatic 36, 3) := by decide +kernel
theorem dX1_name_257 : decode cX1_name 257 = .ok (.ireturn, 1) := by decide +kernel
theorem dX1_name_258 : decode cX1_name 258 = .ok (.bipush 83, 2) := by decide +kernel
theorem dX1_name_260 : decode cX1_name 260 = .ok (.bipush 69, 2) := by decide +kernel
theorem dX1_name_262 : decode cX1_name 262 = .ok (.bipush 98, 2) := by decide +kernel
theorem dX1_name_264 : decode cX1_name 264 = .ok (.bipush 69, 2) := by decide +kernel
theorem dX1_name_266 : decode cX1_name 266 = .ok (.invokestatic 36, 3) := by decide +kernel
theorem dX1_name_269 : decode cX1_name 269 = .ok (.ireturn, 1) := by decide +kernel
theorem dX1_name_270 : decode cX1_name 270 = .ok (.bipush 83, 2) := by decide +kernel
theorem dX1_name_272 : decode cX1_name 272 = .ok (.bipush 69, 2) := by decide +kernel
theorem dX1_name_274 : decode cX1_name 274 = .ok (.iconst 0, 1) := by decide +kernel
theorem dX1_name_275 : decode cX1_name 275 = .ok (.iconst 0, 1) := by decide +kernel
theorem dX1_name_276 : decode cX1_name 276 = .ok (.invokestatic 36, 3) := by decide +kernel
theorem dX1_name_279 : decode cX1_name 279 = .ok (.ireturn, 1) := by decide +kernel
theorem dX1_name_280 : decode cX1_name 280 = .ok (.bipush 83, 2) := by decide +kernel
theorem dX1_name_282 : decode cX1_name 282 = .ok (.bipush 69, 2) := by decide +kernel
theorem dX1_name_284 : decode cX1_name 284 = .ok (.bipush 98, 2) := by decide +kernel
theorem dX1_name_286 : decode cX1_name 286 = .ok (.bipush 83, 2) := by decide +kernel
theorem dX1_name_288 : decode cX1_name 288 = .ok (.invokestatic 36, 3) := by decide +kernel
theorem dX1_name_291 : decode cX1_name 291 = .ok (.ireturn, 1) := by decide +kernel
theorem dX1_name_292 : decode cX1_name 292 = .ok (.bipush 83, 2) := by decide +kernel
theorem dX1_name_294 : decode cX1_name 294 = .ok (.bipush 83, 2) := by decide +kernel
theorem dX1_name_296 : decode cX1_name 296 = .ok (.bipush 69, 2) := by decide +kernel
theorem dX1_name_298 : decode cX1_name 298 = .ok (.iconst 0, 1) := by decide +kernel
theorem dX1_name_299 : decode cX1_name 299 = .ok (.invokestatic 36, 3) := by decide +kernel
theorem dX1_name_302 : decode cX1_name 302 = .ok (.ireturn, 1) := by decide +kernel
theorem dX1_name_303 : decode cX1_name 303 = .ok (.bipush 83, 2) := by decide +kernel
theorem dX1_name_305 : decode cX1_name 305 = .ok (.bipush 98, 2) := by decide +kernel
theorem dX1_name_307 : decode cX1_name 307 = .ok (.bipush 69, 2) := by decide +kernel
theorem dX1_name_309 : decode cX1_name 309 = .ok (.iconst 0, 1) := by decide +kernel
theorem dX1_name_310 : decode cX1_name 310 = .ok (.invokestatic 36, 3) := by decide +kernel
theorem dX1_name_313 : decode cX1_name 313 = .ok (.ireturn, 1) := by decide +kernel
theorem dX1_name_314 : decode cX1_name 314 = .ok (.bipush 83, 2) := by decide +kernel
theorem dX1_name_316 : decode cX1_name 316 = .ok (.iconst 0, 1) := by decide +kernel
theorem dX1_name_317 : decode cX1_name 317 = .ok (.iconst 0, 1) := by decide +kernel
theorem dX1_name_318 : decode cX1_name 318 = .ok (.iconst 0, 1) := by decide +kernel
theorem dX1_name_319 : decode cX1_name 319 = .ok (.invokestatic 36, 3) := by decide +kernel
theorem dX1_name_322 : decode cX1_name 322 = .ok (.ireturn, 1) := by decide +kernel
theorem dX1_name_323 : decode cX1_name 323 = .ok (.bipush 83, 2) := by decide +kernel
theorem dX1_name_325 : decode cX1_name 325 = .ok (.bipush 98, 2) := by decide +kernel
theorem dX1_name_327 : decode cX1_name 327 = .ok (.bipush 87, 2) := by decide +kernel
theorem dX1_name_329 : decode cX1_name 329 = .ok (.iconst 0, 1) := by decide +kernel
theorem dX1_name_330 : decode cX1_name 330 = .ok (.invokestatic 36, 3) := by decide +kernel
theorem dX1_name_333 : decode cX1_name 333 = .ok (.ireturn, 1) := by decide +kernel
theorem dX1_name_334 : decode cX1_name 334 = .ok (.bipush 83, 2) := by decide +kernel
theorem dX1_name_336 : decode cX1_name 336 = .ok (.bipush 83, 2) := by decide +kernel
theorem dX1_name_338 : decode cX1_name 338 = .ok (.bipush 87, 2) := by decide +kernel
theorem dX1_name_340 : decode cX1_name 340 = .ok (.iconst 0, 1) := by decide +kernel
theorem dX1_name_341 : decode cX1_name 341 = .ok (.invokestatic 36, 3) := by decide +kernel
theorem dX1_name_344 : decode cX1_name 344 = .ok (.ireturn, 1) := by decide +kernel
theorem dX1_name_345 : decode cX1_name 345 = .ok (.bipush 83, 2) := by decide +kernel
theorem dX1_name_347 : decode cX1_name 347 = .ok (.bipush 87, 2) := by decide +kernel
theorem dX1_name_349 : decode cX1_name 349 = .ok (.bipush 98, 2) := by decide +kernel
theorem dX1_name_351 : decode cX1_name 351 = .ok (.bipush 83, 2) := by decide +kernel
theorem dX1_name_353 : decode cX1_name 353 = .ok (.invokestatic 36, 3) := by decide +kernel
theorem dX1_name_356 : decode cX1_name 356 = .ok (.ireturn, 1) := by decide +kernel
theorem dX1_name_357 : decode cX1_name 357 = .ok (.bipush 83, 2) := by decide +kernel
theorem dX1_name_359 : decode cX1_name 359 = .ok (.bipush 87, 2) := by decide +kernel
theorem dX1_name_361 : decode cX1_name 361 = .ok (.iconst 0, 1) := by decide +kernel
theorem dX1_name_362 : decode cX1_name 362 = .ok (.iconst 0, 1) := by decide +kernel
theorem dX1_name_363 : decode cX1_name 363 = .ok (.invokestatic 36, 3) := by decide +kernel
theorem dX1_name_366 : decode cX1_name 366 = .ok (.ireturn, 1) := by decide +kernel
theorem dX1_name_367 : decode cX1_name 367 = .ok (.bipush 83, 2) := by decide +kernel
theorem dX1_name_369 : decode cX1_name 369 = .ok (.bipush 87, 2) := by decide +kernel
theorem dX1_name_371 : decode cX1_name 371 = .ok (.bipush 98, 2) := by decide +kernel
theorem dX1_name_373 : decode cX1_name 373 = .ok (.bipush 87, 2) := by decide +kernel
theorem dX1_name_375 : decode cX1_name 375 = .ok (.invokestatic 36, 3) := by decide +kernel
theorem dX1_name_378 : decode cX1_name 378 = .ok (.ireturn, 1) := by decide +kernel
theorem dX1_name_379 : decode cX1_name 379 = .ok (.bipush 87, 2) := by decide +kernel
theorem dX1_name_381 : decode cX1_name 381 = .ok (.bipush 83, 2) := by decide +kernel
theorem dX1_name_383 : decode cX1_name 383 = .ok (.bipush 87, 2) := by decide +kernel
theorem dX1_name_385 : decode cX1_name 385 = .ok (.iconst 0, 1) := by decide +kernel
theorem dX1_name_386 : decode cX1_name 386 = .ok (.invokestatic 36, 3) := by decide +kernel
theorem dX1_name_389 : decode cX1_name 389 = .ok (.ireturn, 1) := by decide +kernel
theorem dX1_name_390 : decode cX1_name 390 = .ok (.bipush 87, 2) := by decide +kernel
theorem dX1_name_392 : decode cX1_name 392 = .ok (.bipush 98, 2) := by decide +kernel
theorem dX1_name_394 : decode cX1_name 394 = .ok (.bipush 83, 2) := by decide +kernel
theorem dX1_name_396 : decode cX1_name 396 = .ok (.iconst 0, 1) := by decide +kernel
theorem dX1_name_397 : decode cX1_name 397 = .ok (.invokestatic 36, 3) := by decide +kernel
theorem dX1_name_400 : decode cX1_name 400 = .ok (.ireturn, 1) := by decide +kernel
theorem dX1_name_401 : decode cX1_name 401 = .ok (.bipush 87, 2) := by decide +kernel
theorem dX1_name_403 : decode cX1_name 403 = .ok (.iconst 0, 1) := by decide +kernel
theorem dX1_name_404 : decode cX1_name 404 = .ok (.iconst 0, 1) := by decide +kernel
theorem dX1_name_405 : decode cX1_name 405 = .ok (.iconst 0, 1) := by decide +kernel
theorem dX1_name_406 : decode cX1_name 406 = .ok (.invokestatic 36, 3) := by decide +kernel
theorem dX1_name_409 : decode cX1_name 409 = .ok (.ireturn, 1) := by decide +kernel
theorem dX1_name_410 : decode cX1_name 410 = .ok (.bipush 87, 2) := by decide +kernel
theorem dX1_name_412 : decode cX1_name 412 = .ok (.bipush 98, 2) := by decide +kernel
theorem dX1_name_414 : decode cX1_name 414 = .ok (.bipush 78, 2) := by decide +kernel
theorem dX1_name_416 : decode cX1_name 416 = .ok (.iconst 0, 1) := by decide +kernel
theorem dX1_name_417 : decode cX1_name 417 = .ok (.invokestatic 36, 3) := by decide +kernel
theorem dX1_name_420 : decode cX1_name 420 = .ok (.ireturn, 1) := by decide +kernel
theorem dX1_name_421 : decode cX1_name 421 = .ok (.bipush 87, 2) := by decide +kernel
theorem dX1_name_423 : decode cX1_name 423 = .ok (.bipush 78, 2) := by decide +kernel
theorem dX1_name_425 : decode cX1_name 425 = .ok (.bipush 87, 2) := by decide +kernel
theorem dX1_name_427 : decode cX1_name 427 = .ok (.iconst 0, 1) := by decide +kernel
theorem dX1_name_428 : decode cX1_name 428 = .ok (.invokestatic 36, 3) := by decide +kernel
theorem dX1_name_431 : decode cX1_name 431 = .ok (.ireturn, 1) := by decide +kernel
theorem dX1_name_432 : decode cX1_name 432 = .ok (.bipush 78, 2) := by decide +kernel
theorem dX1_name_434 : decode cX1_name 434 = .ok (.bipush 87, 2) := by decide +kernel
theorem dX1_name_436 : decode cX1_name 436 = .ok (.bipush 98, 2) := by decide +kernel
theorem dX1_name_438 : decode cX1_name 438 = .ok (.bipush 87, 2) := by decide +kernel
theorem dX1_name_440 : decode cX1_name 440 = .ok (.invokestatic 36, 3) := by decide +kernel
theorem dX1_name_443 : decode cX1_name 443 = .ok (.ireturn, 1) := by decide +kernel
theorem dX1_name_444 : decode cX1_name 444 = .ok (.bipush 78, 2) := by decide +kernel
theorem dX1_name_446 : decode cX1_name 446 = .ok (.bipush 87, 2) := by decide +kernel
theorem dX1_name_448 : decode cX1_name 448 = .ok (.iconst 0, 1) := by decide +kernel
theorem dX1_name_449 : decode cX1_name 449 = .ok (.iconst 0, 1) := by decide +kernel
theorem dX1_name_450 : decode cX1_name 450 = .ok (.invokestatic 36, 3) := by decide +kernel
theorem dX1_name_453 : decode cX1_name 453 = .ok (.ireturn, 1) := by decide +kernel
theorem dX1_name_454 : decode cX1_name 454 = .ok (.bipush 78, 2) := by decide +kernel
theorem dX1_name_456 : decode cX1_name 456 = .ok (.bipush 87, 2) := by decide +kernel
theorem dX1_name_458 : decode cX1_name 458 = .ok (.bipush 98, 2) := by decide +kernel
theorem dX1_name_460 : decode cX1_name 460 = .ok (.bipush 78, 2) := by decide +kernel
theorem dX1_name_462 : decode cX1_name 462 = .ok (.invokestatic 36, 3) := by decide +kernel
theorem dX1_name_465 : decode cX1_name 465 = .ok (.ireturn, 1) := by decide +kernel
theorem dX1_name_466 : decode cX1_name 466 = .ok (.bipush 78, 2) := by decide +kernel
theorem dX1_name_468 : decode cX1_name 468 = .ok (.bipush 78, 2) := by decide +kernel
theorem dX1_name_470 : decode cX1_name 470 = .ok (.bipush 87, 2) := by decide +kernel
theorem dX1_name_472 : decode cX1_name 472 = .ok (.iconst 0, 1) := by decide +kernel
theorem dX1_name_473 : decode cX1_name 473 = .ok (.invokestatic 36, 3) := by decide +kernel
theorem dX1_name_476 : decode cX1_name 476 = .ok (.ireturn, 1) := by decide +kernel
theorem dX1_name_477 : decode cX1_name 477 = .ok (.bipush 78, 2) := by decide +kernel
theorem dX1_name_479 : decode cX1_name 479 = .ok (.bipush 98, 2) := by decide +kernel
theorem dX1_name_481 : decode cX1_name 481 = .ok (.bipush 87, 2) := by decide +kernel
theorem dX1_name_483 : decode cX1_name 483 = .ok (.iconst 0, 1) := by decide +kernel
theorem dX1_name_484 : decode cX1_name 484 = .ok (.invokestatic 36, 3) := by decide +kernel
theorem dX1_name_487 : decode cX1_name 487 = .ok (.ireturn, 1) := by decide +kernel
theorem dX1_quarter_0 : decode cX1_quarter 0 = .ok (.iload_n 0, 1) := by decide +kernel
theorem dX1_quarter_1 : decode cX1_quarter 1 = .ok (.tableswitch 77 0 7 #[47, 49, 53, 57, 61, 65, 69, 73], 47) := by decide +kernel
theorem dX1_quarter_48 : decode cX1_quarter 48 = .ok (.iconst 0, 1) := by decide +kernel
theorem dX1_quarter_49 : decode cX1_quarter 49 = .ok (.ireturn, 1) := by decide +kernel
theorem dX1_quarter_50 : decode cX1_quarter 50 = .ok (.sipush 1951, 3) := by decide +kernel
theorem dX1_quarter_53 : decode cX1_quarter 53 = .ok (.ireturn, 1) := by decide +kernel
theorem dX1_quarter_54 : decode cX1_quarter 54 = .ok (.sipush 3827, 3) := by decide +kernel
theorem dX1_quarter_57 : decode cX1_quarter 57 = .ok (.ireturn, 1) := by decide +kernel
theorem dX1_quarter_58 : decode cX1_quarter 58 = .ok (.sipush 5556, 3) := by decide +kernel
theorem dX1_quarter_61 : decode cX1_quarter 61 = .ok (.ireturn, 1) := by decide +kernel
theorem dX1_quarter_62 : decode cX1_quarter 62 = .ok (.sipush 7071, 3) := by decide +kernel
theorem dX1_quarter_65 : decode cX1_quarter 65 = .ok (.ireturn, 1) := by decide +kernel
theorem dX1_quarter_66 : decode cX1_quarter 66 = .ok (.sipush 8315, 3) := by decide +kernel
theorem dX1_quarter_69 : decode cX1_quarter 69 = .ok (.ireturn, 1) := by decide +kernel
theorem dX1_quarter_70 : decode cX1_quarter 70 = .ok (.sipush 9239, 3) := by decide +kernel
theorem dX1_quarter_73 : decode cX1_quarter 73 = .ok (.ireturn, 1) := by decide +kernel
theorem dX1_quarter_74 : decode cX1_quarter 74 = .ok (.sipush 9808, 3) := by decide +kernel
theorem dX1_quarter_77 : decode cX1_quarter 77 = .ok (.ireturn, 1) := by decide +kernel
theorem dX1_quarter_78 : decode cX1_quarter 78 = .ok (.sipush 10000, 3) := by decide +kernel
theorem dX1_quarter_81 : decode cX1_quarter 81 = .ok (.ireturn, 1) := by decide +kernel
set_option maxRecDepth 20000 in
theorem ggX1_sine_X1_quarter : GoodIn wsX1_sine wsX1_quarter := goodIn_r _ [4] (by decide +kernel) (by decide +kernel)
set_option maxRecDepth 20000 in
theorem gX1_sine_X1_quarter : GoodIn wsX1_sine (va_wsS RX1 40 yX1_quarter wsX1_quarter) := goodIn_app (goodIn_of _ (by decide +kernel)) ggX1_sine_X1_quarter
theorem dX1_sine_0 : decode cX1_sine 0 = .ok (.iload_n 0, 1) := by decide +kernel
theorem dX1_sine_1 : decode cX1_sine 1 = .ok (.bipush 16, 2) := by decide +kernel
theorem dX1_sine_3 : decode cX1_sine 3 = .ok (.irem, 1) := by decide +kernel
theorem dX1_sine_4 : decode cX1_sine 4 = .ok (.istore_n 1, 1) := by decide +kernel
theorem dX1_sine_5 : decode cX1_sine 5 = .ok (.iload_n 1, 1) := by decide +kernel
theorem dX1_sine_6 : decode cX1_sine 6 = .ok (.bipush 8, 2) := by decide +kernel
theorem dX1_sine_8 : decode cX1_sine 8 = .ok (.if_icmp .le 10, 3) := by decide +kernel
theorem dX1_sine_11 : decode cX1_sine 11 = .ok (.bipush 16, 2) := by decide +kernel
theorem dX1_sine_13 : decode cX1_sine 13 = .ok (.iload_n 1, 1) := by decide +kernel
theorem dX1_sine_14 : decode cX1_sine 14 = .ok (.isub, 1) := by decide +kernel
theorem dX1_sine_15 : decode cX1_sine 15 = .ok (.goto 4, 3) := by decide +kernel
theorem dX1_sine_18 : decode cX1_sine 18 = .ok (.iload_n 1, 1) := by decide +kernel
theorem dX1_sine_19 : decode cX1_sine 19 = .ok (.invokestatic 40, 3) := by decide +kernel
theorem dX1_sine_22 : decode cX1_sine 22 = .ok (.istore_n 2, 1) := by decide +kernel
theorem dX1_sine_23 : decode cX1_sine 23 = .ok (.iload_n 0, 1) := by decide +kernel
theorem dX1_sine_24 : decode cX1_sine 24 = .ok (.bipush 16, 2) := by decide +kernel
theorem dX1_sine_26 : decode cX1_sine 26 = .ok (.if_icmp .ge 7, 3) := by decide +kernel
theorem dX1_sine_29 : decode cX1_sine 29 = .ok (.iload_n 2, 1) := by decide +kernel
theorem dX1_sine_30 : decode cX1_sine 30 = .ok (.goto 5, 3) := by decide +kernel
theorem dX1_sine_33 : decode cX1_sine 33 = .ok (.iload_n 2, 1) := by decide +kernel
theorem dX1_sine_34 : decode cX1_sine 34 = .ok (.ineg, 1) := by decide +kernel
theorem dX1_sine_35 : decode cX1_sine 35 = .ok (.ireturn, 1) := by decide +kernel
set_option maxRecDepth 20000 in
theorem ggX1_cosine_X1_sine : GoodIn wsX1_cosine wsX1_sine := goodIn_r _ [4, 5, 6, 3, 7] (by decide +kernel) (by decide +kernel)
set_option maxRecDepth 20000 in
theorem gX1_cosine_X1_sine : GoodIn wsX1_cosine (va_wsS RX1 44 yX1_sine wsX1_sine) := goodIn_app (goodIn_of _ (by decide +kernel)) ggX1_cosine_X1_sine
theorem dX1_cosine_0 : decode cX1_cosine 0 = .ok (.iload_n 0, 1) := by decide +kernel
theorem dX1_cosine_1 : decode cX1_cosine 1 = .ok (.bipush 8, 2) := by decide +kernel
theorem dX1_cosine_3 : decode cX1_cosine 3 = .ok (.iadd, 1) := by decide +kernel
theorem dX1_cosine_4 : decode cX1_cosine 4 = .ok (.bipush 32, 2) := by decide +kernel
theorem dX1_cosine_6 : decode cX1_cosine 6 = .ok (.irem, 1) := by decide +kernel
theorem dX1_cosine_7 : decode cX1_cosine 7 = .ok (.invokestatic 44, 3) := by decide +kernel
theorem dX1_cosine_10 : decode cX1_cosine 10 = .ok (.ireturn, 1) := by decide +kernel
set_option maxRecDepth 20000 in
theorem ggX1_append_X1_within : GoodIn wsX1_append wsX1_within := goodIn_r _ [8] (by decide +kernel) (by decide +kernel)
set_option maxRecDepth 20000 in
theorem gX1_append_X1_within : GoodIn wsX1_append (va_wsS RX1 47 yX1_within wsX1_within) := goodIn_app (goodIn_of _ (by decide +kernel)) ggX1_append_X1_within
theorem dX1_append_0 : decode cX1_append 0 = .ok (.iload_n 1, 1) := by decide +kernel
theorem dX1_append_1 : decode cX1_append 1 = .ok (.bipush 32, 2) := by decide +kernel
theorem dX1_append_3 : decode cX1_append 3 = .ok (.bipush 126, 2) := by decide +kernel
theorem dX1_append_5 : decode cX1_append 5 = .ok (.invokestatic 47, 3) := by decide +kernel
theorem dX1_append_8 : decode cX1_append 8 = .ok (.ifCond .ne 7, 3) := by decide +kernel
theorem dX1_append_11 : decode cX1_append 11 = .ok (.ldc2_w 51, 3) := by decide +kernel
theorem dX1_append_14 : decode cX1_append 14 = .ok (.lreturn, 1) := by decide +kernel
theorem dX1_append_15 : decode cX1_append 15 = .ok (.aload_n 0, 1) := by decide +kernel
theorem dX1_append_16 : decode cX1_append 16 = .ok (.getfield 53, 3) := by decide +kernel
theorem dX1_append_19 : decode cX1_append 19 = .ok (.bipush 12, 2) := by decide +kernel
theorem dX1_append_21 : decode cX1_append 21 = .ok (.if_icmp .ne 7, 3) := by decide +kernel
theorem dX1_append_24 : decode cX1_append 24 = .ok (.ldc2_w 57, 3) := by decide +kernel
theorem dX1_append_27 : decode cX1_append 27 = .ok (.lreturn, 1) := by decide +kernel
theorem dX1_append_28 : decode cX1_append 28 = .ok (.aload_n 0, 1) := by decide +kernel
theorem dX1_append_29 : decode cX1_append 29 = .ok (.getfield 7, 3) := by decide +kernel
theorem dX1_append_32 : decode cX1_append 32 = .ok (.aload_n 0, 1) := by decide +kernel
theorem dX1_append_33 : decode cX1_append 33 = .ok (.getfield 53, 3) := by decide +kernel
theorem dX1_append_36 : decode cX1_append 36 = .ok (.iload_n 1, 1) := by decide +kernel
theorem dX1_append_37 : decode cX1_append 37 = .ok (.iastore, 1) := by decide +kernel
theorem dX1_append_38 : decode cX1_append 38 = .ok (.aload_n 0, 1) := by decide +kernel
theorem dX1_append_39 : decode cX1_append 39 = .ok (.dup, 1) := by decide +kernel
theorem dX1_append_40 : decode cX1_append 40 = .ok (.getfield 53, 3) := by decide +kernel
theorem dX1_append_43 : decode cX1_append 43 = .ok (.iconst 1, 1) := by decide +kernel
theorem dX1_append_44 : decode cX1_append 44 = .ok (.iadd, 1) := by decide +kernel
theorem dX1_append_45 : decode cX1_append 45 = .ok (.putfield 53, 3) := by decide +kernel
theorem dX1_append_48 : decode cX1_append 48 = .ok (.aload_n 0, 1) := by decide +kernel
theorem dX1_append_49 : decode cX1_append 49 = .ok (.getfield 53, 3) := by decide +kernel
theorem dX1_append_52 : decode cX1_append 52 = .ok (.i2l, 1) := by decide +kernel
theorem dX1_append_53 : decode cX1_append 53 = .ok (.lreturn, 1) := by decide +kernel
theorem dX1_clearBuffer_0 : decode cX1_clearBuffer 0 = .ok (.aload_n 0, 1) := by decide +kernel
theorem dX1_clearBuffer_1 : decode cX1_clearBuffer 1 = .ok (.getfield 53, 3) := by decide +kernel
theorem dX1_clearBuffer_4 : decode cX1_clearBuffer 4 = .ok (.istore_n 1, 1) := by decide +kernel
theorem dX1_clearBuffer_5 : decode cX1_clearBuffer 5 = .ok (.aload_n 0, 1) := by decide +kernel
theorem dX1_clearBuffer_6 : decode cX1_clearBuffer 6 = .ok (.iconst 0, 1) := by decide +kernel
theorem dX1_clearBuffer_7 : decode cX1_clearBuffer 7 = .ok (.putfield 53, 3) := by decide +kernel
theorem dX1_clearBuffer_10 : decode cX1_clearBuffer 10 = .ok (.iload_n 1, 1) := by decide +kernel
theorem dX1_clearBuffer_11 : decode cX1_clearBuffer 11 = .ok (.i2l, 1) := by decide +kernel
theorem dX1_clearBuffer_12 : decode cX1_clearBuffer 12 = .ok (.lreturn, 1) := by decide +kernel
set_option maxRecDepth 20000 in
theorem ggX1_nameOf_X1_four : GoodIn wsX1_nameOf wsX1_four := goodIn_r _ [5] (by decide +kernel) (by decide +kernel)
set_option maxRecDepth 20000 in
theorem gX1_nameOf_X1_four : GoodIn wsX1_nameOf (va_wsS RX1 36 yX1_four wsX1_four) := goodIn_app (goodIn_of _ (by decide +kernel)) ggX1_nameOf_X1_four
theorem dX1_nameOf_0 : decode cX1_nameOf 0 = .ok (.iload_n 1, 1) := by decide +kernel
theorem dX1_nameOf_1 : decode cX1_nameOf 1 = .ok (.ifCond .le 12, 3) := by decide +kernel
theorem dX1_nameOf_4 : decode cX1_nameOf 4 = .ok (.aload_n 0, 1) := by decide +kernel
theorem dX1_nameOf_5 : decode cX1_nameOf 5 = .ok (.getfield 7, 3) := by decide +kernel
theorem dX1_nameOf_8 : decode cX1_nameOf 8 = .ok (.iconst 0, 1) := by decide +kernel
theorem dX1_nameOf_9 : decode cX1_nameOf 9 = .ok (.iaload, 1) := by decide +kernel
theorem dX1_nameOf_10 : decode cX1_nameOf 10 = .ok (.goto 4, 3) := by decide +kernel
theorem dX1_nameOf_13 : decode cX1_nameOf 13 = .ok (.iconst 0, 1) := by decide +kernel
theorem dX1_nameOf_14 : decode cX1_nameOf 14 = .ok (.iload_n 1, 1) := by decide +kernel
theorem dX1_nameOf_15 : decode cX1_nameOf 15 = .ok (.iconst 1, 1) := by decide +kernel
theorem dX1_nameOf_16 : decode cX1_nameOf 16 = .ok (.if_icmp .le 12, 3) := by decide +kernel
theorem dX1_nameOf_19 : decode cX1_nameOf 19 = .ok (.aload_n 0, 1) := by decide +kernel
theorem dX1_nameOf_20 : decode cX1_nameOf 20 = .ok (.getfield 7, 3) := by decide +kernel
theorem dX1_nameOf_23 : decode cX1_nameOf 23 = .ok (.iconst 1, 1) := by decide +kernel
theorem dX1_nameOf_24 : decode cX1_nameOf 24 = .ok (.iaload, 1) := by decide +kernel
theorem dX1_nameOf_25 : decode cX1_nameOf 25 = .ok (.goto 4, 3) := by decide +kernel
theorem dX1_nameOf_28 : decode cX1_nameOf 28 = .ok (.iconst 0, 1) := by decide +kernel
theorem dX1_nameOf_29 : decode cX1_nameOf 29 = .ok (.iload_n 1, 1) := by decide +kernel
theorem dX1_nameOf_30 : decode cX1_nameOf 30 = .ok (.iconst 2, 1) := by decide +kernel
theorem dX1_nameOf_31 : decode cX1_nameOf 31 = .ok (.if_icmp .le 12, 3) := by decide +kernel
theorem dX1_nameOf_34 : decode cX1_nameOf 34 = .ok (.aload_n 0, 1) := by decide +kernel
theorem dX1_nameOf_35 : decode cX1_nameOf 35 = .ok (.getfield 7, 3) := by decide +kernel
theorem dX1_nameOf_38 : decode cX1_nameOf 38 = .ok (.iconst 2, 1) := by decide +kernel
theorem dX1_nameOf_39 : decode cX1_nameOf 39 = .ok (.iaload, 1) := by decide +kernel
theorem dX1_nameOf_40 : decode cX1_nameOf 40 = .ok (.goto 4, 3) := by decide +kernel
theorem dX1_nameOf_43 : decode cX1_nameOf 43 = .ok (.iconst 0, 1) := by decide +kernel
theorem dX1_nameOf_44 : decode cX1_nameOf 44 = .ok (.iload_n 1, 1) := by decide +kernel
theorem dX1_nameOf_45 : decode cX1_nameOf 45 = .ok (.iconst 3, 1) := by decide +kernel
theorem dX1_nameOf_46 : decode cX1_nameOf 46 = .ok (.if_icmp .le 12, 3) := by decide +kernel
theorem dX1_nameOf_49 : decode cX1_nameOf 49 = .ok (.aload_n 0, 1) := by decide +kernel
theorem dX1_nameOf_50 : decode cX1_nameOf 50 = .ok (.getfield 7, 3) := by decide +kernel
theorem dX1_nameOf_53 : decode cX1_nameOf 53 = .ok (.iconst 3, 1) := by decide +kernel
theorem dX1_nameOf_54 : decode cX1_nameOf 54 = .ok (.iaload, 1) := by decide +kernel
theorem dX1_nameOf_55 : decode cX1_nameOf 55 = .ok (.goto 4, 3) := by decide +kernel
theorem dX1_nameOf_58 : decode cX1_nameOf 58 = .ok (.iconst 0, 1) := by decide +kernel
theorem dX1_nameOf_59 : decode cX1_nameOf 59 = .ok (.invokestatic 36, 3) := by decide +kernel
theorem dX1_nameOf_62 : decode cX1_nameOf 62 = .ok (.ireturn, 1) := by decide +kernel
theorem dX1_unit_0 : decode cX1_unit 0 = .ok (.iconst 1, 1) := by decide +kernel
theorem dX1_unit_1 : decode cX1_unit 1 = .ok (.istore_n 1, 1) := by decide +kernel
theorem dX1_unit_2 : decode cX1_unit 2 = .ok (.iload_n 0, 1) := by decide +kernel
theorem dX1_unit_3 : decode cX1_unit 3 = .ok (.istore_n 2, 1) := by decide +kernel
theorem dX1_unit_4 : decode cX1_unit 4 = .ok (.iload_n 2, 1) := by decide +kernel
theorem dX1_unit_5 : decode cX1_unit 5 = .ok (.iconst 4, 1) := by decide +kernel
theorem dX1_unit_6 : decode cX1_unit 6 = .ok (.if_icmp .ge 15, 3) := by decide +kernel
theorem dX1_unit_9 : decode cX1_unit 9 = .ok (.iload_n 1, 1) := by decide +kernel
theorem dX1_unit_10 : decode cX1_unit 10 = .ok (.sipush 128, 3) := by decide +kernel
theorem dX1_unit_13 : decode cX1_unit 13 = .ok (.imul, 1) := by decide +kernel
theorem dX1_unit_14 : decode cX1_unit 14 = .ok (.istore_n 1, 1) := by decide +kernel
theorem dX1_unit_15 : decode cX1_unit 15 = .ok (.iinc 2 1, 3) := by decide +kernel
theorem dX1_unit_18 : decode cX1_unit 18 = .ok (.goto (-14), 3) := by decide +kernel
theorem dX1_unit_21 : decode cX1_unit 21 = .ok (.iload_n 1, 1) := by decide +kernel
theorem dX1_unit_22 : decode cX1_unit 22 = .ok (.ireturn, 1) := by decide +kernel
set_option maxRecDepth 20000 in
theorem ggX1_pointBy_X1_name : GoodIn wsX1_pointBy wsX1_name := goodIn_r _ [4, 5, 6, 3, 7] (by decide +kernel) (by decide +kernel)
set_option maxRecDepth 20000 in
theorem gX1_pointBy_X1_name : GoodIn wsX1_pointBy (va_wsS RX1 59 yX1_name wsX1_name) := goodIn_app (goodIn_of _ (by decide +kernel)) ggX1_pointBy_X1_name
set_option maxRecDepth 20000 in
theorem ggX1_pointBy_X1_nameOf : GoodIn wsX1_pointBy wsX1_nameOf := goodIn_r _ [11, 12, 5, 6, 3, 7, 13, 14, 15, 16, 17, 18, 19, 20, 21, 22, 23, 24, 25, 26, 27, 28, 29] (by decide +kernel) (by decide +kernel)
set_option maxRecDepth 20000 in
theorem gX1_pointBy_X1_nameOf : GoodIn wsX1_pointBy (wsV RX1 62 RX1 yX1_nameOf wsX1_nameOf) := goodIn_app (goodIn_of _ (by decide +kernel)) ggX1_pointBy_X1_nameOf
theorem dX1_pointBy_0 : decode cX1_pointBy 0 = .ok (.iconst (-1), 1) := by decide +kernel
theorem dX1_pointBy_1 : decode cX1_pointBy 1 = .ok (.istore_n 2, 1) := by decide +kernel
theorem dX1_pointBy_2 : decode cX1_pointBy 2 = .ok (.iconst 0, 1) := by decide +kernel
theorem dX1_pointBy_3 : decode cX1_pointBy 3 = .ok (.istore_n 3, 1) := by decide +kernel
theorem dX1_pointBy_4 : decode cX1_pointBy 4 = .ok (.iload_n 3, 1) := by decide +kernel
theorem dX1_pointBy_5 : decode cX1_pointBy 5 = .ok (.bipush 32, 2) := by decide +kernel
theorem dX1_pointBy_7 : decode cX1_pointBy 7 = .ok (.if_icmp .ge 36, 3) := by decide +kernel
theorem dX1_pointBy_10 : decode cX1_pointBy 10 = .ok (.iload_n 1, 1) := by decide +kernel
theorem dX1_pointBy_11 : decode cX1_pointBy 11 = .ok (.ifCond .le 32, 3) := by decide +kernel
theorem dX1_pointBy_14 : decode cX1_pointBy 14 = .ok (.iload_n 1, 1) := by decide +kernel
theorem dX1_pointBy_15 : decode cX1_pointBy 15 = .ok (.iconst 5, 1) := by decide +kernel
theorem dX1_pointBy_16 : decode cX1_pointBy 16 = .ok (.if_icmp .ge 27, 3) := by decide +kernel
theorem dX1_pointBy_19 : decode cX1_pointBy 19 = .ok (.iload_n 3, 1) := by decide +kernel
theorem dX1_pointBy_20 : decode cX1_pointBy 20 = .ok (.invokestatic 59, 3) := by decide +kernel
theorem dX1_pointBy_23 : decode cX1_pointBy 23 = .ok (.aload_n 0, 1) := by decide +kernel
theorem dX1_pointBy_24 : decode cX1_pointBy 24 = .ok (.iload_n 1, 1) := by decide +kernel
theorem dX1_pointBy_25 : decode cX1_pointBy 25 = .ok (.invokevirtual 62, 3) := by decide +kernel
theorem dX1_pointBy_28 : decode cX1_pointBy 28 = .ok (.if_icmp .ne 7, 3) := by decide +kernel
theorem dX1_pointBy_31 : decode cX1_pointBy 31 = .ok (.iload_n 3, 1) := by decide +kernel
theorem dX1_pointBy_32 : decode cX1_pointBy 32 = .ok (.goto 4, 3) := by decide +kernel
theorem dX1_pointBy_35 : decode cX1_pointBy 35 = .ok (.iload_n 2, 1) := by decide +kernel
theorem dX1_pointBy_36 : decode cX1_pointBy 36 = .ok (.istore_n 2, 1) := by decide +kernel
theorem dX1_pointBy_37 : decode cX1_pointBy 37 = .ok (.iinc 3 1, 3) := by decide +kernel
theorem dX1_pointBy_40 : decode cX1_pointBy 40 = .ok (.goto (-36), 3) := by decide +kernel
theorem dX1_pointBy_43 : decode cX1_pointBy 43 = .ok (.iload_n 2, 1) := by decide +kernel
theorem dX1_pointBy_44 : decode cX1_pointBy 44 = .ok (.ireturn, 1) := by decide +kernel
set_option maxRecDepth 20000 in
theorem ggX1_isBeginning_X1_name : GoodIn wsX1_isBeginning wsX1_name := goodIn_r _ [4, 5, 6, 3, 7] (by decide +kernel) (by decide +kernel)
set_option maxRecDepth 20000 in
theorem gX1_isBeginning_X1_name : GoodIn wsX1_isBeginning (va_wsS RX1 59 yX1_name wsX1_name) := goodIn_app (goodIn_of _ (by decide +kernel)) ggX1_isBeginning_X1_name
set_option maxRecDepth 20000 in
theorem ggX1_isBeginning_X1_unit : GoodIn wsX1_isBeginning wsX1_unit := goodIn_r _ [10] (by decide +kernel) (by decide +kernel)
set_option maxRecDepth 20000 in
theorem gX1_isBeginning_X1_unit : GoodIn wsX1_isBeginning (va_wsS RX1 65 yX1_unit wsX1_unit) := goodIn_app (goodIn_of _ (by decide +kernel)) ggX1_isBeginning_X1_unit
set_option maxRecDepth 20000 in
theorem ggX1_isBeginning_X1_nameOf : GoodIn wsX1_isBeginning wsX1_nameOf := goodIn_r _ [14, 15, 5, 6, 3, 7, 16, 17, 18, 19, 20, 21, 22, 23, 24, 25, 26, 27, 28, 29, 30, 31, 32] (by decide +kernel) (by decide +kernel)
set_option maxRecDepth 20000 in
theorem gX1_isBeginning_X1_nameOf : GoodIn wsX1_isBeginning (wsV RX1 62 RX1 yX1_nameOf wsX1_nameOf) := goodIn_app (goodIn_of _ (by decide +kernel)) ggX1_isBeginning_X1_nameOf
theorem dX1_isBeginning_0 : decode cX1_isBeginning 0 = .ok (.iconst 0, 1) := by decide +kernel
theorem dX1_isBeginning_1 : decode cX1_isBeginning 1 = .ok (.istore_n 2, 1) := by decide +kernel
theorem dX1_isBeginning_2 : decode cX1_isBeginning 2 = .ok (.iconst 0, 1) := by decide +kernel
theorem dX1_isBeginning_3 : decode cX1_isBeginning 3 = .ok (.istore_n 3, 1) := by decide +kernel
theorem dX1_isBeginning_4 : decode cX1_isBeginning 4 = .ok (.iload_n 3, 1) := by decide +kernel
theorem dX1_isBeginning_5 : decode cX1_isBeginning 5 = .ok (.bipush 32, 2) := by decide +kernel
theorem dX1_isBeginning_7 : decode cX1_isBeginning 7 = .ok (.if_icmp .ge 46, 3) := by decide +kernel
theorem dX1_isBeginning_10 : decode cX1_isBeginning 10 = .ok (.iload_n 1, 1) := by decide +kernel
theorem dX1_isBeginning_11 : decode cX1_isBeginning 11 = .ok (.iconst 5, 1) := by decide +kernel
theorem dX1_isBeginning_12 : decode cX1_isBeginning 12 = .ok (.if_icmp .ge 41, 3) := by decide +kernel
theorem dX1_isBeginning_15 : decode cX1_isBeginning 15 = .ok (.iload_n 2, 1) := by decide +kernel
theorem dX1_isBeginning_16 : decode cX1_isBeginning 16 = .ok (.ifCond .ne 25, 3) := by decide +kernel
theorem dX1_isBeginning_19 : decode cX1_isBeginning 19 = .ok (.iload_n 3, 1) := by decide +kernel
theorem dX1_isBeginning_20 : decode cX1_isBeginning 20 = .ok (.invokestatic 59, 3) := by decide +kernel
theorem dX1_isBeginning_23 : decode cX1_isBeginning 23 = .ok (.iload_n 1, 1) := by decide +kernel
theorem dX1_isBeginning_24 : decode cX1_isBeginning 24 = .ok (.invokestatic 65, 3) := by decide +kernel
theorem dX1_isBeginning_27 : decode cX1_isBeginning 27 = .ok (.idiv, 1) := by decide +kernel
theorem dX1_isBeginning_28 : decode cX1_isBeginning 28 = .ok (.aload_n 0, 1) := by decide +kernel
theorem dX1_isBeginning_29 : decode cX1_isBeginning 29 = .ok (.iload_n 1, 1) := by decide +kernel
theorem dX1_isBeginning_30 : decode cX1_isBeginning 30 = .ok (.invokevirtual 62, 3) := by decide +kernel
theorem dX1_isBeginning_33 : decode cX1_isBeginning 33 = .ok (.iload_n 1, 1) := by decide +kernel
theorem dX1_isBeginning_34 : decode cX1_isBeginning 34 = .ok (.invokestatic 65, 3) := by decide +kernel
theorem dX1_isBeginning_37 : decode cX1_isBeginning 37 = .ok (.idiv, 1) := by decide +kernel
theorem dX1_isBeginning_38 : decode cX1_isBeginning 38 = .ok (.if_icmp .ne 7, 3) := by decide +kernel
theorem dX1_isBeginning_41 : decode cX1_isBeginning 41 = .ok (.iconst 1, 1) := by decide +kernel
theorem dX1_isBeginning_42 : decode cX1_isBeginning 42 = .ok (.goto 4, 3) := by decide +kernel
theorem dX1_isBeginning_45 : decode cX1_isBeginning 45 = .ok (.iconst 0, 1) := by decide +kernel
theorem dX1_isBeginning_46 : decode cX1_isBeginning 46 = .ok (.istore_n 2, 1) := by decide +kernel
theorem dX1_isBeginning_47 : decode cX1_isBeginning 47 = .ok (.iinc 3 1, 3) := by decide +kernel
theorem dX1_isBeginning_50 : decode cX1_isBeginning 50 = .ok (.goto (-46), 3) := by decide +kernel
theorem dX1_isBeginning_53 : decode cX1_isBeginning 53 = .ok (.iload_n 2, 1) := by decide +kernel
theorem dX1_isBeginning_54 : decode cX1_isBeginning 54 = .ok (.ireturn, 1) := by decide +kernel
set_option maxRecDepth 20000 in
theorem ggX1_parse_X1_isBeginning : GoodIn wsX1_parse wsX1_isBeginning := goodIn_r _ [11, 12, 13, 10, 14, 15, 16, 17, 18, 19, 20, 21, 22, 23, 24, 2, 32, 33, 34, 35, 36, 37, 38, 39, 40, 41, 42, 43, 44, 45, 46, 47, 48] (by decide +kernel) (by decide +kernel)
set_option maxRecDepth 20000 in
theorem gX1_parse_X1_isBeginning : GoodIn wsX1_parse (wsV RX1 68 RX1 yX1_isBeginning wsX1_isBeginning) := goodIn_app (goodIn_of _ (by decide +kernel)) ggX1_parse_X1_isBeginning
set_option maxRecDepth 20000 in
theorem ggX1_parse_X1_pointBy : GoodIn wsX1_parse wsX1_pointBy := goodIn_r _ [28, 12, 13, 10, 14, 15, 16, 17, 21, 22, 23, 24, 2, 32, 33, 34, 35, 36, 37, 38, 39, 40, 41, 42, 43, 44, 45, 46, 47, 48] (by decide +kernel) (by decide +kernel)
set_option maxRecDepth 20000 in
theorem gX1_parse_X1_pointBy : GoodIn wsX1_parse (wsV RX1 79 RX1 yX1_pointBy wsX1_pointBy) := goodIn_app (goodIn_of _ (by decide +kernel)) ggX1_parse_X1_pointBy
set_option maxRecDepth 20000 in
theorem ggX1_parse_X1_within : GoodIn wsX1_parse wsX1_within := goodIn_r _ [31] (by decide +kernel) (by decide +kernel)
set_option maxRecDepth 20000 in
theorem gX1_parse_X1_within : GoodIn wsX1_parse (va_wsS RX1 47 yX1_within wsX1_within) := goodIn_app (goodIn_of _ (by decide +kernel)) ggX1_parse_X1_within
theorem dX1_parse_0 : decode cX1_parse 0 = .ok (.iconst 0, 1) := by decide +kernel
theorem dX1_parse_1 : decode cX1_parse 1 = .ok (.istore_n 1, 1) := by decide +kernel
theorem dX1_parse_2 : decode cX1_parse 2 = .ok (.iload_n 1, 1) := by decide +kernel
theorem dX1_parse_3 : decode cX1_parse 3 = .ok (.aload_n 0, 1) := by decide +kernel
theorem dX1_parse_4 : decode cX1_parse 4 = .ok (.getfield 53, 3) := by decide +kernel
theorem dX1_parse_7 : decode cX1_parse 7 = .ok (.if_icmp .ge 30, 3) := by decide +kernel
theorem dX1_parse_10 : decode cX1_parse 10 = .ok (.aload_n 0, 1) := by decide +kernel
theorem dX1_parse_11 : decode cX1_parse 11 = .ok (.getfield 7, 3) := by decide +kernel
theorem dX1_parse_14 : decode cX1_parse 14 = .ok (.iload_n 1, 1) := by decide +kernel
theorem dX1_parse_15 : decode cX1_parse 15 = .ok (.iaload, 1) := by decide +kernel
theorem dX1_parse_16 : decode cX1_parse 16 = .ok (.bipush 32, 2) := by decide +kernel
theorem dX1_parse_18 : decode cX1_parse 18 = .ok (.if_icmp .eq 19, 3) := by decide +kernel
theorem dX1_parse_21 : decode cX1_parse 21 = .ok (.aload_n 0, 1) := by decide +kernel
theorem dX1_parse_22 : decode cX1_parse 22 = .ok (.iload_n 1, 1) := by decide +kernel
theorem dX1_parse_23 : decode cX1_parse 23 = .ok (.iconst 1, 1) := by decide +kernel
theorem dX1_parse_24 : decode cX1_parse 24 = .ok (.iadd, 1) := by decide +kernel
theorem dX1_parse_25 : decode cX1_parse 25 = .ok (.invokevirtual 68, 3) := by decide +kernel
theorem dX1_parse_28 : decode cX1_parse 28 = .ok (.ifCond .eq 9, 3) := by decide +kernel
theorem dX1_parse_31 : decode cX1_parse 31 = .ok (.iinc 1 1, 3) := by decide +kernel
theorem dX1_parse_34 : decode cX1_parse 34 = .ok (.goto (-32), 3) := by decide +kernel
theorem dX1_parse_37 : decode cX1_parse 37 = .ok (.aload_n 0, 1) := by decide +kernel
theorem dX1_parse_38 : decode cX1_parse 38 = .ok (.iload_n 1, 1) := by decide +kernel
theorem dX1_parse_39 : decode cX1_parse 39 = .ok (.putfield 72, 3) := by decide +kernel
theorem dX1_parse_42 : decode cX1_parse 42 = .ok (.aload_n 0, 1) := by decide +kernel
theorem dX1_parse_43 : decode cX1_parse 43 = .ok (.iconst 0, 1) := by decide +kernel
theorem dX1_parse_44 : decode cX1_parse 44 = .ok (.putfield 75, 3) := by decide +kernel
theorem dX1_parse_47 : decode cX1_parse 47 = .ok (.aload_n 0, 1) := by decide +kernel
theorem dX1_parse_48 : decode cX1_parse 48 = .ok (.iload_n 1, 1) := by decide +kernel
theorem dX1_parse_49 : decode cX1_parse 49 = .ok (.aload_n 0, 1) := by decide +kernel
theorem dX1_parse_50 : decode cX1_parse 50 = .ok (.getfield 53, 3) := by decide +kernel
theorem dX1_parse_53 : decode cX1_parse 53 = .ok (.if_icmp .ge 22, 3) := by decide +kernel
theorem dX1_parse_56 : decode cX1_parse 56 = .ok (.aload_n 0, 1) := by decide +kernel
theorem dX1_parse_57 : decode cX1_parse 57 = .ok (.getfield 7, 3) := by decide +kernel
theorem dX1_parse_60 : decode cX1_parse 60 = .ok (.iload_n 1, 1) := by decide +kernel
theorem dX1_parse_61 : decode cX1_parse 61 = .ok (.iaload, 1) := by decide +kernel
theorem dX1_parse_62 : decode cX1_parse 62 = .ok (.bipush 32, 2) := by decide +kernel
theorem dX1_parse_64 : decode cX1_parse 64 = .ok (.if_icmp .ne 11, 3) := by decide +kernel
theorem dX1_parse_67 : decode cX1_parse 67 = .ok (.aload_n 0, 1) := by decide +kernel
theorem dX1_parse_68 : decode cX1_parse 68 = .ok (.iload_n 1, 1) := by decide +kernel
theorem dX1_parse_69 : decode cX1_parse 69 = .ok (.invokevirtual 79, 3) := by decide +kernel
theorem dX1_parse_72 : decode cX1_parse 72 = .ok (.goto 4, 3) := by decide +kernel
theorem dX1_parse_75 : decode cX1_parse 75 = .ok (.iconst (-1), 1) := by decide +kernel
theorem dX1_parse_76 : decode cX1_parse 76 = .ok (.putfield 82, 3) := by decide +kernel
theorem dX1_parse_79 : decode cX1_parse 79 = .ok (.aload_n 0, 1) := by decide +kernel
theorem dX1_parse_80 : decode cX1_parse 80 = .ok (.getfield 82, 3) := by decide +kernel
theorem dX1_parse_83 : decode cX1_parse 83 = .ok (.ifCond .ge 4, 3) := by decide +kernel
theorem dX1_parse_86 : decode cX1_parse 86 = .ok (.return_, 1) := by decide +kernel
theorem dX1_parse_87 : decode cX1_parse 87 = .ok (.iinc 1 1, 3) := by decide +kernel
theorem dX1_parse_90 : decode cX1_parse 90 = .ok (.iconst 0, 1) := by decide +kernel
theorem dX1_parse_91 : decode cX1_parse 91 = .ok (.istore_n 2, 1) := by decide +kernel
theorem dX1_parse_92 : decode cX1_parse 92 = .ok (.aload_n 0, 1) := by decide +kernel
theorem dX1_parse_93 : decode cX1_parse 93 = .ok (.iconst 0, 1) := by decide +kernel
theorem dX1_parse_94 : decode cX1_parse 94 = .ok (.putfield 85, 3) := by decide +kernel
theorem dX1_parse_97 : decode cX1_parse 97 = .ok (.iconst 1, 1) := by decide +kernel
theorem dX1_parse_98 : decode cX1_parse 98 = .ok (.istore_n 3, 1) := by decide +kernel
theorem dX1_parse_99 : decode cX1_parse 99 = .ok (.iload_n 3, 1) := by decide +kernel
theorem dX1_parse_100 : decode cX1_parse 100 = .ok (.ifCond .eq 115, 3) := by decide +kernel
theorem dX1_parse_103 : decode cX1_parse 103 = .ok (.iload_n 1, 1) := by decide +kernel
theorem dX1_parse_104 : decode cX1_parse 104 = .ok (.aload_n 0, 1) := by decide +kernel
theorem dX1_parse_105 : decode cX1_parse 105 = .ok (.getfield 53, 3) := by decide +kernel
theorem dX1_parse_108 : decode cX1_parse 108 = .ok (.if_icmp .ge 107, 3) := by decide +kernel
theorem dX1_parse_111 : decode cX1_parse 111 = .ok (.bipush 10, 2) := by decide +kernel
theorem dX1_parse_113 : decode cX1_parse 113 = .ok (.aload_n 0, 1) := by decide +kernel
theorem dX1_parse_114 : decode cX1_parse 114 = .ok (.getfield 85, 3) := by decide +kernel
theorem dX1_parse_117 : decode cX1_parse 117 = .ok (.imul, 1) := by decide +kernel
theorem dX1_parse_118 : decode cX1_parse 118 = .ok (.aload_n 0, 1) := by decide +kernel
theorem dX1_parse_119 : decode cX1_parse 119 = .ok (.getfield 7, 3) := by decide +kernel
theorem dX1_parse_122 : decode cX1_parse 122 = .ok (.iload_n 1, 1) := by decide +kernel
theorem dX1_parse_123 : decode cX1_parse 123 = .ok (.iaload, 1) := by decide +kernel
theorem dX1_parse_124 : decode cX1_parse 124 = .ok (.iadd, 1) := by decide +kernel
theorem dX1_parse_125 : decode cX1_parse 125 = .ok (.bipush 48, 2) := by decide +kernel
theorem dX1_parse_127 : decode cX1_parse 127 = .ok (.isub, 1) := by decide +kernel
theorem dX1_parse_128 : decode cX1_parse 128 = .ok (.istore 4, 2) := by decide +kernel
theorem dX1_parse_130 : decode cX1_parse 130 = .ok (.aload_n 0, 1) := by decide +kernel
theorem dX1_parse_131 : decode cX1_parse 131 = .ok (.getfield 7, 3) := by decide +kernel
theorem dX1_parse_134 : decode cX1_parse 134 = .ok (.iload_n 1, 1) := by decide +kernel
theorem dX1_parse_135 : decode cX1_parse 135 = .ok (.iaload, 1) := by decide +kernel
theorem dX1_parse_136 : decode cX1_parse 136 = .ok (.bipush 48, 2) := by decide +kernel
theorem dX1_parse_138 : decode cX1_parse 138 = .ok (.bipush 57, 2) := by decide +kernel
theorem dX1_parse_140 : decode cX1_parse 140 = .ok (.invokestatic 47, 3) := by decide +kernel
theorem dX1_parse_143 : decode cX1_parse 143 = .ok (.ifCond .eq 26, 3) := by decide +kernel
theorem dX1_parse_146 : decode cX1_parse 146 = .ok (.iload_n 2, 1) := by decide +kernel
theorem dX1_parse_147 : decode cX1_parse 147 = .ok (.ifCond .eq 18, 3) := by decide +kernel
theorem dX1_parse_150 : decode cX1_parse 150 = .ok (.aload_n 0, 1) := by decide +kernel
theorem dX1_parse_151 : decode cX1_parse 151 = .ok (.getfield 85, 3) := by decide +kernel
theorem dX1_parse_154 : decode cX1_parse 154 = .ok (.ifCond .le 15, 3) := by decide +kernel
theorem dX1_parse_157 : decode cX1_parse 157 = .ok (.iload 4, 2) := by decide +kernel
theorem dX1_parse_159 : decode cX1_parse 159 = .ok (.sipush 200, 3) := by decide +kernel
theorem dX1_parse_162 : decode cX1_parse 162 = .ok (.if_icmp .gt 7, 3) := by decide +kernel
theorem dX1_parse_165 : decode cX1_parse 165 = .ok (.iconst 1, 1) := by decide +kernel
theorem dX1_parse_166 : decode cX1_parse 166 = .ok (.goto 4, 3) := by decide +kernel
theorem dX1_parse_169 : decode cX1_parse 169 = .ok (.iconst 0, 1) := by decide +kernel
theorem dX1_parse_170 : decode cX1_parse 170 = .ok (.istore_n 3, 1) := by decide +kernel
theorem dX1_parse_171 : decode cX1_parse 171 = .ok (.aload_n 0, 1) := by decide +kernel
theorem dX1_parse_172 : decode cX1_parse 172 = .ok (.iload_n 3, 1) := by decide +kernel
theorem dX1_parse_173 : decode cX1_parse 173 = .ok (.ifCond .eq 8, 3) := by decide +kernel
theorem dX1_parse_176 : decode cX1_parse 176 = .ok (.iload 4, 2) := by decide +kernel
theorem dX1_parse_178 : decode cX1_parse 178 = .ok (.goto 7, 3) := by decide +kernel
theorem dX1_parse_181 : decode cX1_parse 181 = .ok (.aload_n 0, 1) := by decide +kernel
theorem dX1_parse_182 : decode cX1_parse 182 = .ok (.getfield 85, 3) := by decide +kernel
theorem dX1_parse_185 : decode cX1_parse 185 = .ok (.putfield 85, 3) := by decide +kernel
theorem dX1_parse_188 : decode cX1_parse 188 = .ok (.iload_n 2, 1) := by decide +kernel
theorem dX1_parse_189 : decode cX1_parse 189 = .ok (.iload_n 3, 1) := by decide +kernel
theorem dX1_parse_190 : decode cX1_parse 190 = .ok (.ifCond .eq 7, 3) := by decide +kernel
theorem dX1_parse_193 : decode cX1_parse 193 = .ok (.iconst 1, 1) := by decide +kernel
theorem dX1_parse_194 : decode cX1_parse 194 = .ok (.goto 4, 3) := by decide +kernel
theorem dX1_parse_197 : decode cX1_parse 197 = .ok (.iconst 0, 1) := by decide +kernel
theorem dX1_parse_198 : decode cX1_parse 198 = .ok (.iadd, 1) := by decide +kernel
theorem dX1_parse_199 : decode cX1_parse 199 = .ok (.istore_n 2, 1) := by decide +kernel
theorem dX1_parse_200 : decode cX1_parse 200 = .ok (.iload_n 1, 1) := by decide +kernel
theorem dX1_parse_201 : decode cX1_parse 201 = .ok (.iload_n 3, 1) := by decide +kernel
theorem dX1_parse_202 : decode cX1_parse 202 = .ok (.ifCond .eq 7, 3) := by decide +kernel
theorem dX1_parse_205 : decode cX1_parse 205 = .ok (.iconst 1, 1) := by decide +kernel
theorem dX1_parse_206 : decode cX1_parse 206 = .ok (.goto 4, 3) := by decide +kernel
theorem dX1_parse_209 : decode cX1_parse 209 = .ok (.iconst 0, 1) := by decide +kernel
theorem dX1_parse_210 : decode cX1_parse 210 = .ok (.iadd, 1) := by decide +kernel
theorem dX1_parse_211 : decode cX1_parse 211 = .ok (.istore_n 1, 1) := by decide +kernel
theorem dX1_parse_212 : decode cX1_parse 212 = .ok (.goto (-113), 3) := by decide +kernel
theorem dX1_parse_215 : decode cX1_parse 215 = .ok (.aload_n 0, 1) := by decide +kernel
theorem dX1_parse_216 : decode cX1_parse 216 = .ok (.iload_n 1, 1) := by decide +kernel
theorem dX1_parse_217 : decode cX1_parse 217 = .ok (.putfield 72, 3) := by decide +kernel
theorem dX1_parse_220 : decode cX1_parse 220 = .ok (.aload_n 0, 1) := by decide +kernel
theorem dX1_parse_221 : decode cX1_parse 221 = .ok (.iload_n 3, 1) := by decide +kernel
theorem dX1_parse_222 : decode cX1_parse 222 = .ok (.ifCond .eq 11, 3) := by decide +kernel
theorem dX1_parse_225 : decode cX1_parse 225 = .ok (.iload_n 2, 1) := by decide +kernel
theorem dX1_parse_226 : decode cX1_parse 226 = .ok (.ifCond .le 7, 3) := by decide +kernel
theorem dX1_parse_229 : decode cX1_parse 229 = .ok (.iconst 1, 1) := by decide +kernel
theorem dX1_parse_230 : decode cX1_parse 230 = .ok (.goto 4, 3) := by decide +kernel
theorem dX1_parse_233 : decode cX1_parse 233 = .ok (.iconst 0, 1) := by decide +kernel
theorem dX1_parse_234 : decode cX1_parse 234 = .ok (.putfield 75, 3) := by decide +kernel
theorem dX1_parse_237 : decode cX1_parse 237 = .ok (.return_, 1) := by decide +kernel
set_option maxRecDepth 20000 in
theorem ggX1_errorPosition_X1_parse : GoodIn wsX1_errorPosition wsX1_parse := goodIn_r _ [6, 7, 8, 1, 9, 10, 11, 12, 13, 14, 5, 15, 16, 17, 18, 19, 20, 21, 22, 23, 24, 25, 26, 27, 28, 29, 30, 31, 32, 33, 34, 35, 36, 37, 38, 39, 40, 41, 42, 43, 44, 45, 46, 47, 48, 49, 50, 51, 52] (by decide +kernel) (by decide +kernel)
set_option maxRecDepth 20000 in
theorem gX1_errorPosition_X1_parse : GoodIn wsX1_errorPosition (wsV RX1 88 RX1 yX1_parse wsX1_parse) := goodIn_app (goodIn_of _ (by decide +kernel)) ggX1_errorPosition_X1_parse
theorem dX1_errorPosition_0 : decode cX1_errorPosition 0 = .ok (.aload_n 0, 1) := by decide +kernel
theorem dX1_errorPosition_1 : decode cX1_errorPosition 1 = .ok (.invokevirtual 88, 3) := by decide +kernel
theorem dX1_errorPosition_4 : decode cX1_errorPosition 4 = .ok (.aload_n 0, 1) := by decide +kernel
theorem dX1_errorPosition_5 : decode cX1_errorPosition 5 = .ok (.getfield 72, 3) := by decide +kernel
theorem dX1_errorPosition_8 : decode cX1_errorPosition 8 = .ok (.i2l, 1) := by decide +kernel
theorem dX1_errorPosition_9 : decode cX1_errorPosition 9 = .ok (.lreturn, 1) := by decide +kernel
theorem dX1_addPeg_0 : decode cX1_addPeg 0 = .ok (.aload_n 0, 1) := by decide +kernel
theorem dX1_addPeg_1 : decode cX1_addPeg 1 = .ok (.getfield 13, 3) := by decide +kernel
theorem dX1_addPeg_4 : decode cX1_addPeg 4 = .ok (.aload_n 0, 1) := by decide +kernel
theorem dX1_addPeg_5 : decode cX1_addPeg 5 = .ok (.getfield 91, 3) := by decide +kernel
theorem dX1_addPeg_8 : decode cX1_addPeg 8 = .ok (.iload_n 1, 1) := by decide +kernel
theorem dX1_addPeg_9 : decode cX1_addPeg 9 = .ok (.iastore, 1) := by decide +kernel
theorem dX1_addPeg_10 : decode cX1_addPeg 10 = .ok (.aload_n 0, 1) := by decide +kernel
theorem dX1_addPeg_11 : decode cX1_addPeg 11 = .ok (.getfield 16, 3) := by decide +kernel
theorem dX1_addPeg_14 : decode cX1_addPeg 14 = .ok (.aload_n 0, 1) := by decide +kernel
theorem dX1_addPeg_15 : decode cX1_addPeg 15 = .ok (.getfield 91, 3) := by decide +kernel
theorem dX1_addPeg_18 : decode cX1_addPeg 18 = .ok (.iload_n 2, 1) := by decide +kernel
theorem dX1_addPeg_19 : decode cX1_addPeg 19 = .ok (.iastore, 1) := by decide +kernel
theorem dX1_addPeg_20 : decode cX1_addPeg 20 = .ok (.aload_n 0, 1) := by decide +kernel
theorem dX1_addPeg_21 : decode cX1_addPeg 21 = .ok (.getfield 19, 3) := by decide +kernel
theorem dX1_addPeg_24 : decode cX1_addPeg 24 = .ok (.aload_n 0, 1) := by decide +kernel
theorem dX1_addPeg_25 : decode cX1_addPeg 25 = .ok (.getfield 91, 3) := by decide +kernel
end
section
theorem dX1_addPeg_28 : decode cX1_addPeg 28 = .ok (.iconst 0, 1) := by decide +kernel
theorem dX1_addPeg_29 : decode cX1_addPeg 29 = .ok (.iastore, 1) := by decide +kernel
theorem dX1_addPeg_30 : decode cX1_addPeg 30 = .ok (.aload_n 0, 1) := by decide +kernel
theorem dX1_addPeg_31 : decode cX1_addPeg 31 = .ok (.getfield 22, 3) := by decide +kernel
theorem dX1_addPeg_34 : decode cX1_addPeg 34 = .ok (.aload_n 0, 1) := by decide +kernel
theorem dX1_addPeg_35 : decode cX1_addPeg 35 = .ok (.getfield 91, 3) := by decide +kernel
theorem dX1_addPeg_38 : decode cX1_addPeg 38 = .ok (.iconst 0, 1) := by decide +kernel
theorem dX1_addPeg_39 : decode cX1_addPeg 39 = .ok (.bastore, 1) := by decide +kernel
theorem dX1_addPeg_40 : decode cX1_addPeg 40 = .ok (.aload_n 0, 1) := by decide +kernel
theorem dX1_addPeg_41 : decode cX1_addPeg 41 = .ok (.dup, 1) := by decide +kernel
theorem dX1_addPeg_42 : decode cX1_addPeg 42 = .ok (.getfield 91, 3) := by decide +kernel
theorem dX1_addPeg_45 : decode cX1_addPeg 45 = .ok (.iconst 1, 1) := by decide +kernel
theorem dX1_addPeg_46 : decode cX1_addPeg 46 = .ok (.iadd, 1) := by decide +kernel
theorem dX1_addPeg_47 : decode cX1_addPeg 47 = .ok (.putfield 91, 3) := by decide +kernel
theorem dX1_addPeg_50 : decode cX1_addPeg 50 = .ok (.aload_n 0, 1) := by decide +kernel
theorem dX1_addPeg_51 : decode cX1_addPeg 51 = .ok (.getfield 26, 3) := by decide +kernel
theorem dX1_addPeg_54 : decode cX1_addPeg 54 = .ok (.aload_n 0, 1) := by decide +kernel
theorem dX1_addPeg_55 : decode cX1_addPeg 55 = .ok (.getfield 91, 3) := by decide +kernel
theorem dX1_addPeg_58 : decode cX1_addPeg 58 = .ok (.iconst 0, 1) := by decide +kernel
theorem dX1_addPeg_59 : decode cX1_addPeg 59 = .ok (.bastore, 1) := by decide +kernel
theorem dX1_addPeg_60 : decode cX1_addPeg 60 = .ok (.aload_n 0, 1) := by decide +kernel
theorem dX1_addPeg_61 : decode cX1_addPeg 61 = .ok (.getfield 91, 3) := by decide +kernel
theorem dX1_addPeg_64 : decode cX1_addPeg 64 = .ok (.iconst 1, 1) := by decide +kernel
theorem dX1_addPeg_65 : decode cX1_addPeg 65 = .ok (.isub, 1) := by decide +kernel
theorem dX1_addPeg_66 : decode cX1_addPeg 66 = .ok (.ireturn, 1) := by decide +kernel
set_option maxRecDepth 20000 in
theorem ggX1_addFromBuffer_X1_parse : GoodIn wsX1_addFromBuffer wsX1_parse := goodIn_r _ [12, 5, 13, 14, 1, 6, 7, 15, 16, 17, 11, 18, 19, 20, 21, 22, 23, 24, 25, 26, 27, 28, 29, 30, 31, 32, 33, 34, 35, 36, 37, 38, 48, 49, 50, 51, 52, 53, 54, 55, 56, 57, 58, 59, 60, 61, 62, 63, 64] (by decide +kernel) (by decide +kernel)
set_option maxRecDepth 20000 in
theorem gX1_addFromBuffer_X1_parse : GoodIn wsX1_addFromBuffer (wsV RX1 88 RX1 yX1_parse wsX1_parse) := goodIn_app (goodIn_of _ (by decide +kernel)) ggX1_addFromBuffer_X1_parse
set_option maxRecDepth 20000 in
theorem ggX1_addFromBuffer_X1_addPeg : GoodIn wsX1_addFromBuffer wsX1_addPeg := goodIn_r _ [42, 43, 3, 44, 45, 46, 47, 48, 49, 50, 51, 52, 53, 54, 55, 56, 57, 58, 59, 60, 61, 62, 63, 64] (by decide +kernel) (by decide +kernel)
set_option maxRecDepth 20000 in
theorem gX1_addFromBuffer_X1_addPeg : GoodIn wsX1_addFromBuffer (wsV RX1 96 RX1 yX1_addPeg wsX1_addPeg) := goodIn_app (goodIn_of _ (by decide +kernel)) ggX1_addFromBuffer_X1_addPeg
theorem dX1_addFromBuffer_0 : decode cX1_addFromBuffer 0 = .ok (.aload_n 0, 1) := by decide +kernel
theorem dX1_addFromBuffer_1 : decode cX1_addFromBuffer 1 = .ok (.invokevirtual 88, 3) := by decide +kernel
theorem dX1_addFromBuffer_4 : decode cX1_addFromBuffer 4 = .ok (.aload_n 0, 1) := by decide +kernel
theorem dX1_addFromBuffer_5 : decode cX1_addFromBuffer 5 = .ok (.getfield 75, 3) := by decide +kernel
theorem dX1_addFromBuffer_8 : decode cX1_addFromBuffer 8 = .ok (.ifCond .ne 7, 3) := by decide +kernel
theorem dX1_addFromBuffer_11 : decode cX1_addFromBuffer 11 = .ok (.ldc2_w 94, 3) := by decide +kernel
theorem dX1_addFromBuffer_14 : decode cX1_addFromBuffer 14 = .ok (.lreturn, 1) := by decide +kernel
theorem dX1_addFromBuffer_15 : decode cX1_addFromBuffer 15 = .ok (.aload_n 0, 1) := by decide +kernel
theorem dX1_addFromBuffer_16 : decode cX1_addFromBuffer 16 = .ok (.getfield 91, 3) := by decide +kernel
theorem dX1_addFromBuffer_19 : decode cX1_addFromBuffer 19 = .ok (.bipush 48, 2) := by decide +kernel
theorem dX1_addFromBuffer_21 : decode cX1_addFromBuffer 21 = .ok (.if_icmp .ne 7, 3) := by decide +kernel
theorem dX1_addFromBuffer_24 : decode cX1_addFromBuffer 24 = .ok (.ldc2_w 57, 3) := by decide +kernel
theorem dX1_addFromBuffer_27 : decode cX1_addFromBuffer 27 = .ok (.lreturn, 1) := by decide +kernel
theorem dX1_addFromBuffer_28 : decode cX1_addFromBuffer 28 = .ok (.aload_n 0, 1) := by decide +kernel
theorem dX1_addFromBuffer_29 : decode cX1_addFromBuffer 29 = .ok (.iconst 0, 1) := by decide +kernel
theorem dX1_addFromBuffer_30 : decode cX1_addFromBuffer 30 = .ok (.putfield 53, 3) := by decide +kernel
theorem dX1_addFromBuffer_33 : decode cX1_addFromBuffer 33 = .ok (.aload_n 0, 1) := by decide +kernel
theorem dX1_addFromBuffer_34 : decode cX1_addFromBuffer 34 = .ok (.aload_n 0, 1) := by decide +kernel
theorem dX1_addFromBuffer_35 : decode cX1_addFromBuffer 35 = .ok (.getfield 82, 3) := by decide +kernel
theorem dX1_addFromBuffer_38 : decode cX1_addFromBuffer 38 = .ok (.aload_n 0, 1) := by decide +kernel
theorem dX1_addFromBuffer_39 : decode cX1_addFromBuffer 39 = .ok (.getfield 85, 3) := by decide +kernel
theorem dX1_addFromBuffer_42 : decode cX1_addFromBuffer 42 = .ok (.invokevirtual 96, 3) := by decide +kernel
theorem dX1_addFromBuffer_45 : decode cX1_addFromBuffer 45 = .ok (.i2l, 1) := by decide +kernel
theorem dX1_addFromBuffer_46 : decode cX1_addFromBuffer 46 = .ok (.lreturn, 1) := by decide +kernel
set_option maxRecDepth 20000 in
theorem ggX1_isPoint_X1_within : GoodIn wsX1_isPoint wsX1_within := goodIn_r _ [4] (by decide +kernel) (by decide +kernel)
set_option maxRecDepth 20000 in
theorem gX1_isPoint_X1_within : GoodIn wsX1_isPoint (va_wsS RX1 47 yX1_within wsX1_within) := goodIn_app (goodIn_of _ (by decide +kernel)) ggX1_isPoint_X1_within
theorem dX1_isPoint_0 : decode cX1_isPoint 0 = .ok (.iload_n 0, 1) := by decide +kernel
theorem dX1_isPoint_1 : decode cX1_isPoint 1 = .ok (.iconst 0, 1) := by decide +kernel
theorem dX1_isPoint_2 : decode cX1_isPoint 2 = .ok (.bipush 31, 2) := by decide +kernel
theorem dX1_isPoint_4 : decode cX1_isPoint 4 = .ok (.invokestatic 47, 3) := by decide +kernel
theorem dX1_isPoint_7 : decode cX1_isPoint 7 = .ok (.ireturn, 1) := by decide +kernel
set_option maxRecDepth 20000 in
theorem ggX1_add_X1_isPoint : GoodIn wsX1_add wsX1_isPoint := goodIn_r _ [7, 8, 9, 6, 10] (by decide +kernel) (by decide +kernel)
set_option maxRecDepth 20000 in
theorem gX1_add_X1_isPoint : GoodIn wsX1_add (va_wsS RX1 100 yX1_isPoint wsX1_isPoint) := goodIn_app (goodIn_of _ (by decide +kernel)) ggX1_add_X1_isPoint
set_option maxRecDepth 20000 in
theorem ggX1_add_X1_within : GoodIn wsX1_add wsX1_within := goodIn_r _ [10] (by decide +kernel) (by decide +kernel)
set_option maxRecDepth 20000 in
theorem gX1_add_X1_within : GoodIn wsX1_add (va_wsS RX1 47 yX1_within wsX1_within) := goodIn_app (goodIn_of _ (by decide +kernel)) ggX1_add_X1_within
set_option maxRecDepth 20000 in
theorem ggX1_add_X1_addPeg : GoodIn wsX1_add wsX1_addPeg := goodIn_r _ [14, 15, 2, 16, 17, 18, 19, 20, 21, 22, 23, 24, 25, 26, 27, 28, 29, 30, 31, 32, 33, 34, 35, 36] (by decide +kernel) (by decide +kernel)
set_option maxRecDepth 20000 in
theorem gX1_add_X1_addPeg : GoodIn wsX1_add (wsV RX1 96 RX1 yX1_addPeg wsX1_addPeg) := goodIn_app (goodIn_of _ (by decide +kernel)) ggX1_add_X1_addPeg
theorem dX1_add_0 : decode cX1_add 0 = .ok (.iload_n 1, 1) := by decide +kernel
theorem dX1_add_1 : decode cX1_add 1 = .ok (.invokestatic 100, 3) := by decide +kernel
theorem dX1_add_4 : decode cX1_add 4 = .ok (.ifCond .eq 14, 3) := by decide +kernel
theorem dX1_add_7 : decode cX1_add 7 = .ok (.iload_n 2, 1) := by decide +kernel
theorem dX1_add_8 : decode cX1_add 8 = .ok (.iconst 0, 1) := by decide +kernel
theorem dX1_add_9 : decode cX1_add 9 = .ok (.sipush 200, 3) := by decide +kernel
theorem dX1_add_12 : decode cX1_add 12 = .ok (.invokestatic 47, 3) := by decide +kernel
theorem dX1_add_15 : decode cX1_add 15 = .ok (.ifCond .ne 7, 3) := by decide +kernel
theorem dX1_add_18 : decode cX1_add 18 = .ok (.ldc2_w 51, 3) := by decide +kernel
theorem dX1_add_21 : decode cX1_add 21 = .ok (.lreturn, 1) := by decide +kernel
theorem dX1_add_22 : decode cX1_add 22 = .ok (.aload_n 0, 1) := by decide +kernel
theorem dX1_add_23 : decode cX1_add 23 = .ok (.getfield 91, 3) := by decide +kernel
theorem dX1_add_26 : decode cX1_add 26 = .ok (.bipush 48, 2) := by decide +kernel
theorem dX1_add_28 : decode cX1_add 28 = .ok (.if_icmp .ne 9, 3) := by decide +kernel
theorem dX1_add_31 : decode cX1_add 31 = .ok (.ldc2_w 57, 3) := by decide +kernel
theorem dX1_add_34 : decode cX1_add 34 = .ok (.goto 10, 3) := by decide +kernel
theorem dX1_add_37 : decode cX1_add 37 = .ok (.aload_n 0, 1) := by decide +kernel
theorem dX1_add_38 : decode cX1_add 38 = .ok (.iload_n 1, 1) := by decide +kernel
theorem dX1_add_39 : decode cX1_add 39 = .ok (.iload_n 2, 1) := by decide +kernel
theorem dX1_add_40 : decode cX1_add 40 = .ok (.invokevirtual 96, 3) := by decide +kernel
theorem dX1_add_43 : decode cX1_add 43 = .ok (.i2l, 1) := by decide +kernel
theorem dX1_add_44 : decode cX1_add 44 = .ok (.lreturn, 1) := by decide +kernel
set_option maxRecDepth 20000 in
theorem ggX1_isPegNumber_X1_within : GoodIn wsX1_isPegNumber wsX1_within := goodIn_r _ [5] (by decide +kernel) (by decide +kernel)
set_option maxRecDepth 20000 in
theorem gX1_isPegNumber_X1_within : GoodIn wsX1_isPegNumber (va_wsS RX1 47 yX1_within wsX1_within) := goodIn_app (goodIn_of _ (by decide +kernel)) ggX1_isPegNumber_X1_within
theorem dX1_isPegNumber_0 : decode cX1_isPegNumber 0 = .ok (.iload_n 1, 1) := by decide +kernel
theorem dX1_isPegNumber_1 : decode cX1_isPegNumber 1 = .ok (.iconst 0, 1) := by decide +kernel
theorem dX1_isPegNumber_2 : decode cX1_isPegNumber 2 = .ok (.aload_n 0, 1) := by decide +kernel
theorem dX1_isPegNumber_3 : decode cX1_isPegNumber 3 = .ok (.getfield 91, 3) := by decide +kernel
theorem dX1_isPegNumber_6 : decode cX1_isPegNumber 6 = .ok (.iconst 1, 1) := by decide +kernel
theorem dX1_isPegNumber_7 : decode cX1_isPegNumber 7 = .ok (.isub, 1) := by decide +kernel
theorem dX1_isPegNumber_8 : decode cX1_isPegNumber 8 = .ok (.invokestatic 47, 3) := by decide +kernel
theorem dX1_isPegNumber_11 : decode cX1_isPegNumber 11 = .ok (.ireturn, 1) := by decide +kernel
set_option maxRecDepth 20000 in
theorem ggX1_replace_X1_isPegNumber : GoodIn wsX1_replace wsX1_isPegNumber := goodIn_r _ [10, 11, 12, 13, 9, 14, 18, 19, 20, 21, 22, 23, 24, 25, 26, 27, 28, 29, 30, 31, 32, 33, 34] (by decide +kernel) (by decide +kernel)
set_option maxRecDepth 20000 in
theorem gX1_replace_X1_isPegNumber : GoodIn wsX1_replace (wsV RX1 103 RX1 yX1_isPegNumber wsX1_isPegNumber) := goodIn_app (goodIn_of _ (by decide +kernel)) ggX1_replace_X1_isPegNumber
set_option maxRecDepth 20000 in
theorem ggX1_replace_X1_isPoint : GoodIn wsX1_replace wsX1_isPoint := goodIn_r _ [17, 12, 13, 9, 14] (by decide +kernel) (by decide +kernel)
set_option maxRecDepth 20000 in
theorem gX1_replace_X1_isPoint : GoodIn wsX1_replace (va_wsS RX1 100 yX1_isPoint wsX1_isPoint) := goodIn_app (goodIn_of _ (by decide +kernel)) ggX1_replace_X1_isPoint
set_option maxRecDepth 20000 in
theorem ggX1_replace_X1_within : GoodIn wsX1_replace wsX1_within := goodIn_r _ [14] (by decide +kernel) (by decide +kernel)
set_option maxRecDepth 20000 in
theorem gX1_replace_X1_within : GoodIn wsX1_replace (va_wsS RX1 47 yX1_within wsX1_within) := goodIn_app (goodIn_of _ (by decide +kernel)) ggX1_replace_X1_within
theorem dX1_replace_0 : decode cX1_replace 0 = .ok (.aload_n 0, 1) := by decide +kernel
theorem dX1_replace_1 : decode cX1_replace 1 = .ok (.iload_n 1, 1) := by decide +kernel
theorem dX1_replace_2 : decode cX1_replace 2 = .ok (.invokevirtual 103, 3) := by decide +kernel
theorem dX1_replace_5 : decode cX1_replace 5 = .ok (.ifCond .ne 7, 3) := by decide +kernel
theorem dX1_replace_8 : decode cX1_replace 8 = .ok (.ldc2_w 106, 3) := by decide +kernel
theorem dX1_replace_11 : decode cX1_replace 11 = .ok (.lreturn, 1) := by decide +kernel
theorem dX1_replace_12 : decode cX1_replace 12 = .ok (.iload_n 2, 1) := by decide +kernel
theorem dX1_replace_13 : decode cX1_replace 13 = .ok (.invokestatic 100, 3) := by decide +kernel
theorem dX1_replace_16 : decode cX1_replace 16 = .ok (.ifCond .eq 14, 3) := by decide +kernel
theorem dX1_replace_19 : decode cX1_replace 19 = .ok (.iload_n 3, 1) := by decide +kernel
theorem dX1_replace_20 : decode cX1_replace 20 = .ok (.iconst 0, 1) := by decide +kernel
theorem dX1_replace_21 : decode cX1_replace 21 = .ok (.sipush 200, 3) := by decide +kernel
theorem dX1_replace_24 : decode cX1_replace 24 = .ok (.invokestatic 47, 3) := by decide +kernel
theorem dX1_replace_27 : decode cX1_replace 27 = .ok (.ifCond .ne 7, 3) := by decide +kernel
theorem dX1_replace_30 : decode cX1_replace 30 = .ok (.ldc2_w 51, 3) := by decide +kernel
theorem dX1_replace_33 : decode cX1_replace 33 = .ok (.lreturn, 1) := by decide +kernel
theorem dX1_replace_34 : decode cX1_replace 34 = .ok (.aload_n 0, 1) := by decide +kernel
theorem dX1_replace_35 : decode cX1_replace 35 = .ok (.getfield 22, 3) := by decide +kernel
theorem dX1_replace_38 : decode cX1_replace 38 = .ok (.iload_n 1, 1) := by decide +kernel
theorem dX1_replace_39 : decode cX1_replace 39 = .ok (.baload, 1) := by decide +kernel
theorem dX1_replace_40 : decode cX1_replace 40 = .ok (.ifCond .eq 7, 3) := by decide +kernel
theorem dX1_replace_43 : decode cX1_replace 43 = .ok (.lconst 1, 1) := by decide +kernel
theorem dX1_replace_44 : decode cX1_replace 44 = .ok (.goto 4, 3) := by decide +kernel
theorem dX1_replace_47 : decode cX1_replace 47 = .ok (.lconst 0, 1) := by decide +kernel
theorem dX1_replace_48 : decode cX1_replace 48 = .ok (.lstore 4, 2) := by decide +kernel
theorem dX1_replace_50 : decode cX1_replace 50 = .ok (.aload_n 0, 1) := by decide +kernel
theorem dX1_replace_51 : decode cX1_replace 51 = .ok (.getfield 22, 3) := by decide +kernel
theorem dX1_replace_54 : decode cX1_replace 54 = .ok (.iload_n 1, 1) := by decide +kernel
theorem dX1_replace_55 : decode cX1_replace 55 = .ok (.iconst 0, 1) := by decide +kernel
theorem dX1_replace_56 : decode cX1_replace 56 = .ok (.bastore, 1) := by decide +kernel
theorem dX1_replace_57 : decode cX1_replace 57 = .ok (.aload_n 0, 1) := by decide +kernel
theorem dX1_replace_58 : decode cX1_replace 58 = .ok (.getfield 13, 3) := by decide +kernel
theorem dX1_replace_61 : decode cX1_replace 61 = .ok (.iload_n 1, 1) := by decide +kernel
theorem dX1_replace_62 : decode cX1_replace 62 = .ok (.iload_n 2, 1) := by decide +kernel
theorem dX1_replace_63 : decode cX1_replace 63 = .ok (.iastore, 1) := by decide +kernel
theorem dX1_replace_64 : decode cX1_replace 64 = .ok (.aload_n 0, 1) := by decide +kernel
theorem dX1_replace_65 : decode cX1_replace 65 = .ok (.getfield 16, 3) := by decide +kernel
theorem dX1_replace_68 : decode cX1_replace 68 = .ok (.iload_n 1, 1) := by decide +kernel
theorem dX1_replace_69 : decode cX1_replace 69 = .ok (.iload_n 3, 1) := by decide +kernel
theorem dX1_replace_70 : decode cX1_replace 70 = .ok (.iastore, 1) := by decide +kernel
theorem dX1_replace_71 : decode cX1_replace 71 = .ok (.lload 4, 2) := by decide +kernel
theorem dX1_replace_73 : decode cX1_replace 73 = .ok (.lreturn, 1) := by decide +kernel
theorem dX1_removeLast_0 : decode cX1_removeLast 0 = .ok (.aload_n 0, 1) := by decide +kernel
theorem dX1_removeLast_1 : decode cX1_removeLast 1 = .ok (.getfield 91, 3) := by decide +kernel
theorem dX1_removeLast_4 : decode cX1_removeLast 4 = .ok (.ifCond .ne 7, 3) := by decide +kernel
theorem dX1_removeLast_7 : decode cX1_removeLast 7 = .ok (.ldc2_w 108, 3) := by decide +kernel
theorem dX1_removeLast_10 : decode cX1_removeLast 10 = .ok (.lreturn, 1) := by decide +kernel
theorem dX1_removeLast_11 : decode cX1_removeLast 11 = .ok (.aload_n 0, 1) := by decide +kernel
theorem dX1_removeLast_12 : decode cX1_removeLast 12 = .ok (.getfield 26, 3) := by decide +kernel
theorem dX1_removeLast_15 : decode cX1_removeLast 15 = .ok (.aload_n 0, 1) := by decide +kernel
theorem dX1_removeLast_16 : decode cX1_removeLast 16 = .ok (.getfield 91, 3) := by decide +kernel
theorem dX1_removeLast_19 : decode cX1_removeLast 19 = .ok (.iconst 0, 1) := by decide +kernel
theorem dX1_removeLast_20 : decode cX1_removeLast 20 = .ok (.bastore, 1) := by decide +kernel
theorem dX1_removeLast_21 : decode cX1_removeLast 21 = .ok (.aload_n 0, 1) := by decide +kernel
theorem dX1_removeLast_22 : decode cX1_removeLast 22 = .ok (.dup, 1) := by decide +kernel
theorem dX1_removeLast_23 : decode cX1_removeLast 23 = .ok (.getfield 91, 3) := by decide +kernel
theorem dX1_removeLast_26 : decode cX1_removeLast 26 = .ok (.iconst 1, 1) := by decide +kernel
theorem dX1_removeLast_27 : decode cX1_removeLast 27 = .ok (.isub, 1) := by decide +kernel
theorem dX1_removeLast_28 : decode cX1_removeLast 28 = .ok (.putfield 91, 3) := by decide +kernel
theorem dX1_removeLast_31 : decode cX1_removeLast 31 = .ok (.aload_n 0, 1) := by decide +kernel
theorem dX1_removeLast_32 : decode cX1_removeLast 32 = .ok (.getfield 91, 3) := by decide +kernel
theorem dX1_removeLast_35 : decode cX1_removeLast 35 = .ok (.i2l, 1) := by decide +kernel
theorem dX1_removeLast_36 : decode cX1_removeLast 36 = .ok (.lreturn, 1) := by decide +kernel
theorem dX1_lostMany_0 : decode cX1_lostMany 0 = .ok (.iconst 0, 1) := by decide +kernel
theorem dX1_lostMany_1 : decode cX1_lostMany 1 = .ok (.istore_n 1, 1) := by decide +kernel
theorem dX1_lostMany_2 : decode cX1_lostMany 2 = .ok (.iconst 0, 1) := by decide +kernel
theorem dX1_lostMany_3 : decode cX1_lostMany 3 = .ok (.istore_n 2, 1) := by decide +kernel
theorem dX1_lostMany_4 : decode cX1_lostMany 4 = .ok (.iload_n 2, 1) := by decide +kernel
theorem dX1_lostMany_5 : decode cX1_lostMany 5 = .ok (.aload_n 0, 1) := by decide +kernel
theorem dX1_lostMany_6 : decode cX1_lostMany 6 = .ok (.getfield 91, 3) := by decide +kernel
theorem dX1_lostMany_9 : decode cX1_lostMany 9 = .ok (.if_icmp .ge 26, 3) := by decide +kernel
theorem dX1_lostMany_12 : decode cX1_lostMany 12 = .ok (.iload_n 1, 1) := by decide +kernel
theorem dX1_lostMany_13 : decode cX1_lostMany 13 = .ok (.aload_n 0, 1) := by decide +kernel
theorem dX1_lostMany_14 : decode cX1_lostMany 14 = .ok (.getfield 22, 3) := by decide +kernel
theorem dX1_lostMany_17 : decode cX1_lostMany 17 = .ok (.iload_n 2, 1) := by decide +kernel
theorem dX1_lostMany_18 : decode cX1_lostMany 18 = .ok (.baload, 1) := by decide +kernel
theorem dX1_lostMany_19 : decode cX1_lostMany 19 = .ok (.ifCond .eq 7, 3) := by decide +kernel
theorem dX1_lostMany_22 : decode cX1_lostMany 22 = .ok (.iconst 1, 1) := by decide +kernel
theorem dX1_lostMany_23 : decode cX1_lostMany 23 = .ok (.goto 4, 3) := by decide +kernel
theorem dX1_lostMany_26 : decode cX1_lostMany 26 = .ok (.iconst 0, 1) := by decide +kernel
theorem dX1_lostMany_27 : decode cX1_lostMany 27 = .ok (.iadd, 1) := by decide +kernel
theorem dX1_lostMany_28 : decode cX1_lostMany 28 = .ok (.istore_n 1, 1) := by decide +kernel
theorem dX1_lostMany_29 : decode cX1_lostMany 29 = .ok (.iinc 2 1, 3) := by decide +kernel
theorem dX1_lostMany_32 : decode cX1_lostMany 32 = .ok (.goto (-28), 3) := by decide +kernel
theorem dX1_lostMany_35 : decode cX1_lostMany 35 = .ok (.iload_n 1, 1) := by decide +kernel
theorem dX1_lostMany_36 : decode cX1_lostMany 36 = .ok (.ireturn, 1) := by decide +kernel
set_option maxRecDepth 20000 in
theorem ggX1_lose_X1_isPegNumber : GoodIn wsX1_lose wsX1_isPegNumber := goodIn_r _ [8, 9, 10, 11, 7, 12, 17, 18, 19, 20, 21, 22, 23, 24, 25, 26, 27, 28, 29, 30, 31, 32, 33] (by decide +kernel) (by decide +kernel)
set_option maxRecDepth 20000 in
theorem gX1_lose_X1_isPegNumber : GoodIn wsX1_lose (wsV RX1 103 RX1 yX1_isPegNumber wsX1_isPegNumber) := goodIn_app (goodIn_of _ (by decide +kernel)) ggX1_lose_X1_isPegNumber
set_option maxRecDepth 20000 in
theorem ggX1_lose_X1_lostMany : GoodIn wsX1_lose wsX1_lostMany := goodIn_r _ [16, 9, 2, 17, 18, 19, 20, 21, 22, 23, 24, 25, 26, 27, 28, 29, 30, 31, 32, 33] (by decide +kernel) (by decide +kernel)
set_option maxRecDepth 20000 in
theorem gX1_lose_X1_lostMany : GoodIn wsX1_lose (wsV RX1 112 RX1 yX1_lostMany wsX1_lostMany) := goodIn_app (goodIn_of _ (by decide +kernel)) ggX1_lose_X1_lostMany
theorem dX1_lose_0 : decode cX1_lose 0 = .ok (.aload_n 0, 1) := by decide +kernel
theorem dX1_lose_1 : decode cX1_lose 1 = .ok (.iload_n 1, 1) := by decide +kernel
theorem dX1_lose_2 : decode cX1_lose 2 = .ok (.invokevirtual 103, 3) := by decide +kernel
theorem dX1_lose_5 : decode cX1_lose 5 = .ok (.ifCond .ne 7, 3) := by decide +kernel
theorem dX1_lose_8 : decode cX1_lose 8 = .ok (.ldc2_w 106, 3) := by decide +kernel
theorem dX1_lose_11 : decode cX1_lose 11 = .ok (.lreturn, 1) := by decide +kernel
theorem dX1_lose_12 : decode cX1_lose 12 = .ok (.aload_n 0, 1) := by decide +kernel
theorem dX1_lose_13 : decode cX1_lose 13 = .ok (.getfield 22, 3) := by decide +kernel
theorem dX1_lose_16 : decode cX1_lose 16 = .ok (.iload_n 1, 1) := by decide +kernel
theorem dX1_lose_17 : decode cX1_lose 17 = .ok (.baload, 1) := by decide +kernel
theorem dX1_lose_18 : decode cX1_lose 18 = .ok (.ifCond .eq 7, 3) := by decide +kernel
theorem dX1_lose_21 : decode cX1_lose 21 = .ok (.ldc2_w 110, 3) := by decide +kernel
theorem dX1_lose_24 : decode cX1_lose 24 = .ok (.lreturn, 1) := by decide +kernel
theorem dX1_lose_25 : decode cX1_lose 25 = .ok (.aload_n 0, 1) := by decide +kernel
theorem dX1_lose_26 : decode cX1_lose 26 = .ok (.getfield 22, 3) := by decide +kernel
theorem dX1_lose_29 : decode cX1_lose 29 = .ok (.iload_n 1, 1) := by decide +kernel
theorem dX1_lose_30 : decode cX1_lose 30 = .ok (.iconst 1, 1) := by decide +kernel
theorem dX1_lose_31 : decode cX1_lose 31 = .ok (.bastore, 1) := by decide +kernel
theorem dX1_lose_32 : decode cX1_lose 32 = .ok (.aload_n 0, 1) := by decide +kernel
theorem dX1_lose_33 : decode cX1_lose 33 = .ok (.invokevirtual 112, 3) := by decide +kernel
theorem dX1_lose_36 : decode cX1_lose 36 = .ok (.i2l, 1) := by decide +kernel
theorem dX1_lose_37 : decode cX1_lose 37 = .ok (.lreturn, 1) := by decide +kernel
set_option maxRecDepth 20000 in
theorem ggX1_setLeeway_X1_isPegNumber : GoodIn wsX1_setLeeway wsX1_isPegNumber := goodIn_r _ [8, 9, 10, 11, 7, 12, 13, 14, 15, 16, 17, 18, 19, 20, 21, 22, 23, 24, 25, 26, 27, 28, 29] (by decide +kernel) (by decide +kernel)
set_option maxRecDepth 20000 in
theorem gX1_setLeeway_X1_isPegNumber : GoodIn wsX1_setLeeway (wsV RX1 103 RX1 yX1_isPegNumber wsX1_isPegNumber) := goodIn_app (goodIn_of _ (by decide +kernel)) ggX1_setLeeway_X1_isPegNumber
set_option maxRecDepth 20000 in
theorem ggX1_setLeeway_X1_within : GoodIn wsX1_setLeeway wsX1_within := goodIn_r _ [12] (by decide +kernel) (by decide +kernel)
set_option maxRecDepth 20000 in
theorem gX1_setLeeway_X1_within : GoodIn wsX1_setLeeway (va_wsS RX1 47 yX1_within wsX1_within) := goodIn_app (goodIn_of _ (by decide +kernel)) ggX1_setLeeway_X1_within
theorem dX1_setLeeway_0 : decode cX1_setLeeway 0 = .ok (.aload_n 0, 1) := by decide +kernel
theorem dX1_setLeeway_1 : decode cX1_setLeeway 1 = .ok (.iload_n 1, 1) := by decide +kernel
theorem dX1_setLeeway_2 : decode cX1_setLeeway 2 = .ok (.invokevirtual 103, 3) := by decide +kernel
theorem dX1_setLeeway_5 : decode cX1_setLeeway 5 = .ok (.ifCond .ne 7, 3) := by decide +kernel
theorem dX1_setLeeway_8 : decode cX1_setLeeway 8 = .ok (.ldc2_w 106, 3) := by decide +kernel
theorem dX1_setLeeway_11 : decode cX1_setLeeway 11 = .ok (.lreturn, 1) := by decide +kernel
theorem dX1_setLeeway_12 : decode cX1_setLeeway 12 = .ok (.iload_n 2, 1) := by decide +kernel
theorem dX1_setLeeway_13 : decode cX1_setLeeway 13 = .ok (.bipush (-2), 2) := by decide +kernel
theorem dX1_setLeeway_15 : decode cX1_setLeeway 15 = .ok (.iconst 2, 1) := by decide +kernel
theorem dX1_setLeeway_16 : decode cX1_setLeeway 16 = .ok (.invokestatic 47, 3) := by decide +kernel
theorem dX1_setLeeway_19 : decode cX1_setLeeway 19 = .ok (.ifCond .ne 7, 3) := by decide +kernel
theorem dX1_setLeeway_22 : decode cX1_setLeeway 22 = .ok (.ldc2_w 51, 3) := by decide +kernel
theorem dX1_setLeeway_25 : decode cX1_setLeeway 25 = .ok (.lreturn, 1) := by decide +kernel
theorem dX1_setLeeway_26 : decode cX1_setLeeway 26 = .ok (.aload_n 0, 1) := by decide +kernel
theorem dX1_setLeeway_27 : decode cX1_setLeeway 27 = .ok (.getfield 19, 3) := by decide +kernel
theorem dX1_setLeeway_30 : decode cX1_setLeeway 30 = .ok (.iload_n 1, 1) := by decide +kernel
theorem dX1_setLeeway_31 : decode cX1_setLeeway 31 = .ok (.iaload, 1) := by decide +kernel
theorem dX1_setLeeway_32 : decode cX1_setLeeway 32 = .ok (.i2l, 1) := by decide +kernel
theorem dX1_setLeeway_33 : decode cX1_setLeeway 33 = .ok (.lstore_n 3, 1) := by decide +kernel
theorem dX1_setLeeway_34 : decode cX1_setLeeway 34 = .ok (.aload_n 0, 1) := by decide +kernel
theorem dX1_setLeeway_35 : decode cX1_setLeeway 35 = .ok (.getfield 19, 3) := by decide +kernel
theorem dX1_setLeeway_38 : decode cX1_setLeeway 38 = .ok (.iload_n 1, 1) := by decide +kernel
theorem dX1_setLeeway_39 : decode cX1_setLeeway 39 = .ok (.iload_n 2, 1) := by decide +kernel
theorem dX1_setLeeway_40 : decode cX1_setLeeway 40 = .ok (.iastore, 1) := by decide +kernel
theorem dX1_setLeeway_41 : decode cX1_setLeeway 41 = .ok (.lload_n 3, 1) := by decide +kernel
theorem dX1_setLeeway_42 : decode cX1_setLeeway 42 = .ok (.lreturn, 1) := by decide +kernel
set_option maxRecDepth 20000 in
theorem ggX1_setCurrent_X1_isPoint : GoodIn wsX1_setCurrent wsX1_isPoint := goodIn_r _ [7, 8, 9, 6, 10] (by decide +kernel) (by decide +kernel)
set_option maxRecDepth 20000 in
theorem gX1_setCurrent_X1_isPoint : GoodIn wsX1_setCurrent (va_wsS RX1 100 yX1_isPoint wsX1_isPoint) := goodIn_app (goodIn_of _ (by decide +kernel)) ggX1_setCurrent_X1_isPoint
set_option maxRecDepth 20000 in
theorem ggX1_setCurrent_X1_within : GoodIn wsX1_setCurrent wsX1_within := goodIn_r _ [10] (by decide +kernel) (by decide +kernel)
set_option maxRecDepth 20000 in
theorem gX1_setCurrent_X1_within : GoodIn wsX1_setCurrent (va_wsS RX1 47 yX1_within wsX1_within) := goodIn_app (goodIn_of _ (by decide +kernel)) ggX1_setCurrent_X1_within
theorem dX1_setCurrent_0 : decode cX1_setCurrent 0 = .ok (.iload_n 1, 1) := by decide +kernel
theorem dX1_setCurrent_1 : decode cX1_setCurrent 1 = .ok (.invokestatic 100, 3) := by decide +kernel
theorem dX1_setCurrent_4 : decode cX1_setCurrent 4 = .ok (.ifCond .eq 13, 3) := by decide +kernel
theorem dX1_setCurrent_7 : decode cX1_setCurrent 7 = .ok (.iload_n 2, 1) := by decide +kernel
theorem dX1_setCurrent_8 : decode cX1_setCurrent 8 = .ok (.iconst 0, 1) := by decide +kernel
theorem dX1_setCurrent_9 : decode cX1_setCurrent 9 = .ok (.bipush 50, 2) := by decide +kernel
theorem dX1_setCurrent_11 : decode cX1_setCurrent 11 = .ok (.invokestatic 47, 3) := by decide +kernel
theorem dX1_setCurrent_14 : decode cX1_setCurrent 14 = .ok (.ifCond .ne 7, 3) := by decide +kernel
theorem dX1_setCurrent_17 : decode cX1_setCurrent 17 = .ok (.ldc2_w 51, 3) := by decide +kernel
theorem dX1_setCurrent_20 : decode cX1_setCurrent 20 = .ok (.lreturn, 1) := by decide +kernel
theorem dX1_setCurrent_21 : decode cX1_setCurrent 21 = .ok (.aload_n 0, 1) := by decide +kernel
theorem dX1_setCurrent_22 : decode cX1_setCurrent 22 = .ok (.getfield 116, 3) := by decide +kernel
theorem dX1_setCurrent_25 : decode cX1_setCurrent 25 = .ok (.i2l, 1) := by decide +kernel
theorem dX1_setCurrent_26 : decode cX1_setCurrent 26 = .ok (.lstore_n 3, 1) := by decide +kernel
theorem dX1_setCurrent_27 : decode cX1_setCurrent 27 = .ok (.aload_n 0, 1) := by decide +kernel
theorem dX1_setCurrent_28 : decode cX1_setCurrent 28 = .ok (.iload_n 1, 1) := by decide +kernel
theorem dX1_setCurrent_29 : decode cX1_setCurrent 29 = .ok (.putfield 119, 3) := by decide +kernel
theorem dX1_setCurrent_32 : decode cX1_setCurrent 32 = .ok (.aload_n 0, 1) := by decide +kernel
theorem dX1_setCurrent_33 : decode cX1_setCurrent 33 = .ok (.iload_n 2, 1) := by decide +kernel
theorem dX1_setCurrent_34 : decode cX1_setCurrent 34 = .ok (.putfield 116, 3) := by decide +kernel
theorem dX1_setCurrent_37 : decode cX1_setCurrent 37 = .ok (.lload_n 3, 1) := by decide +kernel
theorem dX1_setCurrent_38 : decode cX1_setCurrent 38 = .ok (.lreturn, 1) := by decide +kernel
theorem dX1_pegCount_0 : decode cX1_pegCount 0 = .ok (.aload_n 0, 1) := by decide +kernel
theorem dX1_pegCount_1 : decode cX1_pegCount 1 = .ok (.getfield 91, 3) := by decide +kernel
theorem dX1_pegCount_4 : decode cX1_pegCount 4 = .ok (.i2l, 1) := by decide +kernel
theorem dX1_pegCount_5 : decode cX1_pegCount 5 = .ok (.lreturn, 1) := by decide +kernel
theorem dX1_pointNow_0 : decode cX1_pointNow 0 = .ok (.aload_n 0, 1) := by decide +kernel
theorem dX1_pointNow_1 : decode cX1_pointNow 1 = .ok (.getfield 22, 3) := by decide +kernel
theorem dX1_pointNow_4 : decode cX1_pointNow 4 = .ok (.iload_n 1, 1) := by decide +kernel
theorem dX1_pointNow_5 : decode cX1_pointNow 5 = .ok (.baload, 1) := by decide +kernel
theorem dX1_pointNow_6 : decode cX1_pointNow 6 = .ok (.ifCond .eq 9, 3) := by decide +kernel
theorem dX1_pointNow_9 : decode cX1_pointNow 9 = .ok (.ldc2_w 110, 3) := by decide +kernel
theorem dX1_pointNow_12 : decode cX1_pointNow 12 = .ok (.goto 10, 3) := by decide +kernel
theorem dX1_pointNow_15 : decode cX1_pointNow 15 = .ok (.aload_n 0, 1) := by decide +kernel
theorem dX1_pointNow_16 : decode cX1_pointNow 16 = .ok (.getfield 13, 3) := by decide +kernel
theorem dX1_pointNow_19 : decode cX1_pointNow 19 = .ok (.iload_n 1, 1) := by decide +kernel
theorem dX1_pointNow_20 : decode cX1_pointNow 20 = .ok (.iaload, 1) := by decide +kernel
theorem dX1_pointNow_21 : decode cX1_pointNow 21 = .ok (.i2l, 1) := by decide +kernel
theorem dX1_pointNow_22 : decode cX1_pointNow 22 = .ok (.lreturn, 1) := by decide +kernel
theorem dX1_speedNow_0 : decode cX1_speedNow 0 = .ok (.aload_n 0, 1) := by decide +kernel
theorem dX1_speedNow_1 : decode cX1_speedNow 1 = .ok (.getfield 22, 3) := by decide +kernel
theorem dX1_speedNow_4 : decode cX1_speedNow 4 = .ok (.iload_n 1, 1) := by decide +kernel
theorem dX1_speedNow_5 : decode cX1_speedNow 5 = .ok (.baload, 1) := by decide +kernel
theorem dX1_speedNow_6 : decode cX1_speedNow 6 = .ok (.ifCond .eq 9, 3) := by decide +kernel
theorem dX1_speedNow_9 : decode cX1_speedNow 9 = .ok (.ldc2_w 110, 3) := by decide +kernel
theorem dX1_speedNow_12 : decode cX1_speedNow 12 = .ok (.goto 10, 3) := by decide +kernel
theorem dX1_speedNow_15 : decode cX1_speedNow 15 = .ok (.aload_n 0, 1) := by decide +kernel
theorem dX1_speedNow_16 : decode cX1_speedNow 16 = .ok (.getfield 16, 3) := by decide +kernel
theorem dX1_speedNow_19 : decode cX1_speedNow 19 = .ok (.iload_n 1, 1) := by decide +kernel
theorem dX1_speedNow_20 : decode cX1_speedNow 20 = .ok (.iaload, 1) := by decide +kernel
theorem dX1_speedNow_21 : decode cX1_speedNow 21 = .ok (.i2l, 1) := by decide +kernel
theorem dX1_speedNow_22 : decode cX1_speedNow 22 = .ok (.lreturn, 1) := by decide +kernel
set_option maxRecDepth 20000 in
theorem ggX1_pointOf_X1_isPegNumber : GoodIn wsX1_pointOf wsX1_isPegNumber := goodIn_r _ [6, 7, 8, 9, 5, 10, 18, 19, 20, 21, 22, 23, 24, 25, 26, 27, 28, 29, 30, 31, 32, 33, 34] (by decide +kernel) (by decide +kernel)
set_option maxRecDepth 20000 in
theorem gX1_pointOf_X1_isPegNumber : GoodIn wsX1_pointOf (wsV RX1 103 RX1 yX1_isPegNumber wsX1_isPegNumber) := goodIn_app (goodIn_of _ (by decide +kernel)) ggX1_pointOf_X1_isPegNumber
set_option maxRecDepth 20000 in
theorem ggX1_pointOf_X1_pointNow : GoodIn wsX1_pointOf wsX1_pointNow := goodIn_r _ [14, 15, 16, 17, 18, 19, 20, 21, 22, 23, 24, 25, 26, 27, 28, 29, 30, 31, 32, 33, 34] (by decide +kernel) (by decide +kernel)
set_option maxRecDepth 20000 in
theorem gX1_pointOf_X1_pointNow : GoodIn wsX1_pointOf (wsV RX1 122 RX1 yX1_pointNow wsX1_pointNow) := goodIn_app (goodIn_of _ (by decide +kernel)) ggX1_pointOf_X1_pointNow
theorem dX1_pointOf_0 : decode cX1_pointOf 0 = .ok (.aload_n 0, 1) := by decide +kernel
theorem dX1_pointOf_1 : decode cX1_pointOf 1 = .ok (.iload_n 1, 1) := by decide +kernel
theorem dX1_pointOf_2 : decode cX1_pointOf 2 = .ok (.invokevirtual 103, 3) := by decide +kernel
theorem dX1_pointOf_5 : decode cX1_pointOf 5 = .ok (.ifCond .eq 11, 3) := by decide +kernel
theorem dX1_pointOf_8 : decode cX1_pointOf 8 = .ok (.aload_n 0, 1) := by decide +kernel
theorem dX1_pointOf_9 : decode cX1_pointOf 9 = .ok (.iload_n 1, 1) := by decide +kernel
theorem dX1_pointOf_10 : decode cX1_pointOf 10 = .ok (.invokevirtual 122, 3) := by decide +kernel
theorem dX1_pointOf_13 : decode cX1_pointOf 13 = .ok (.goto 6, 3) := by decide +kernel
theorem dX1_pointOf_16 : decode cX1_pointOf 16 = .ok (.ldc2_w 106, 3) := by decide +kernel
theorem dX1_pointOf_19 : decode cX1_pointOf 19 = .ok (.lreturn, 1) := by decide +kernel
set_option maxRecDepth 20000 in
theorem ggX1_speedOf_X1_isPegNumber : GoodIn wsX1_speedOf wsX1_isPegNumber := goodIn_r _ [6, 7, 8, 9, 5, 10, 18, 19, 20, 21, 22, 23, 24, 25, 26, 27, 28, 29, 30, 31, 32, 33, 34] (by decide +kernel) (by decide +kernel)
set_option maxRecDepth 20000 in
theorem gX1_speedOf_X1_isPegNumber : GoodIn wsX1_speedOf (wsV RX1 103 RX1 yX1_isPegNumber wsX1_isPegNumber) := goodIn_app (goodIn_of _ (by decide +kernel)) ggX1_speedOf_X1_isPegNumber
set_option maxRecDepth 20000 in
theorem ggX1_speedOf_X1_speedNow : GoodIn wsX1_speedOf wsX1_speedNow := goodIn_r _ [14, 15, 16, 17, 18, 19, 20, 21, 22, 23, 24, 25, 26, 27, 28, 29, 30, 31, 32, 33, 34] (by decide +kernel) (by decide +kernel)
set_option maxRecDepth 20000 in
theorem gX1_speedOf_X1_speedNow : GoodIn wsX1_speedOf (wsV RX1 126 RX1 yX1_speedNow wsX1_speedNow) := goodIn_app (goodIn_of _ (by decide +kernel)) ggX1_speedOf_X1_speedNow
theorem dX1_speedOf_0 : decode cX1_speedOf 0 = .ok (.aload_n 0, 1) := by decide +kernel
theorem dX1_speedOf_1 : decode cX1_speedOf 1 = .ok (.iload_n 1, 1) := by decide +kernel
theorem dX1_speedOf_2 : decode cX1_speedOf 2 = .ok (.invokevirtual 103, 3) := by decide +kernel
theorem dX1_speedOf_5 : decode cX1_speedOf 5 = .ok (.ifCond .eq 11, 3) := by decide +kernel
theorem dX1_speedOf_8 : decode cX1_speedOf 8 = .ok (.aload_n 0, 1) := by decide +kernel
theorem dX1_speedOf_9 : decode cX1_speedOf 9 = .ok (.iload_n 1, 1) := by decide +kernel
theorem dX1_speedOf_10 : decode cX1_speedOf 10 = .ok (.invokevirtual 126, 3) := by decide +kernel
theorem dX1_speedOf_13 : decode cX1_speedOf 13 = .ok (.goto 6, 3) := by decide +kernel
theorem dX1_speedOf_16 : decode cX1_speedOf 16 = .ok (.ldc2_w 106, 3) := by decide +kernel
theorem dX1_speedOf_19 : decode cX1_speedOf 19 = .ok (.lreturn, 1) := by decide +kernel
set_option maxRecDepth 20000 in
theorem ggX1_speedTowards_X1_isPoint : GoodIn wsX1_speedTowards wsX1_isPoint := goodIn_r _ [9, 10, 11, 8, 12] (by decide +kernel) (by decide +kernel)
set_option maxRecDepth 20000 in
theorem gX1_speedTowards_X1_isPoint : GoodIn wsX1_speedTowards (va_wsS RX1 100 yX1_isPoint wsX1_isPoint) := goodIn_app (goodIn_of _ (by decide +kernel)) ggX1_speedTowards_X1_isPoint
theorem dX1_speedTowards_0 : decode cX1_speedTowards 0 = .ok (.iload_n 1, 1) := by decide +kernel
theorem dX1_speedTowards_1 : decode cX1_speedTowards 1 = .ok (.invokestatic 100, 3) := by decide +kernel
theorem dX1_speedTowards_4 : decode cX1_speedTowards 4 = .ok (.ifCond .ne 7, 3) := by decide +kernel
theorem dX1_speedTowards_7 : decode cX1_speedTowards 7 = .ok (.ldc2_w 51, 3) := by decide +kernel
theorem dX1_speedTowards_10 : decode cX1_speedTowards 10 = .ok (.lreturn, 1) := by decide +kernel
theorem dX1_speedTowards_11 : decode cX1_speedTowards 11 = .ok (.lconst 0, 1) := by decide +kernel
theorem dX1_speedTowards_12 : decode cX1_speedTowards 12 = .ok (.lstore_n 2, 1) := by decide +kernel
theorem dX1_speedTowards_13 : decode cX1_speedTowards 13 = .ok (.iconst 0, 1) := by decide +kernel
theorem dX1_speedTowards_14 : decode cX1_speedTowards 14 = .ok (.istore 4, 2) := by decide +kernel
theorem dX1_speedTowards_16 : decode cX1_speedTowards 16 = .ok (.iload 4, 2) := by decide +kernel
theorem dX1_speedTowards_18 : decode cX1_speedTowards 18 = .ok (.aload_n 0, 1) := by decide +kernel
theorem dX1_speedTowards_19 : decode cX1_speedTowards 19 = .ok (.getfield 91, 3) := by decide +kernel
theorem dX1_speedTowards_22 : decode cX1_speedTowards 22 = .ok (.if_icmp .ge 45, 3) := by decide +kernel
theorem dX1_speedTowards_25 : decode cX1_speedTowards 25 = .ok (.lload_n 2, 1) := by decide +kernel
theorem dX1_speedTowards_26 : decode cX1_speedTowards 26 = .ok (.aload_n 0, 1) := by decide +kernel
theorem dX1_speedTowards_27 : decode cX1_speedTowards 27 = .ok (.getfield 22, 3) := by decide +kernel
theorem dX1_speedTowards_30 : decode cX1_speedTowards 30 = .ok (.iload 4, 2) := by decide +kernel
theorem dX1_speedTowards_32 : decode cX1_speedTowards 32 = .ok (.baload, 1) := by decide +kernel
theorem dX1_speedTowards_33 : decode cX1_speedTowards 33 = .ok (.ifCond .ne 25, 3) := by decide +kernel
theorem dX1_speedTowards_36 : decode cX1_speedTowards 36 = .ok (.aload_n 0, 1) := by decide +kernel
theorem dX1_speedTowards_37 : decode cX1_speedTowards 37 = .ok (.getfield 13, 3) := by decide +kernel
theorem dX1_speedTowards_40 : decode cX1_speedTowards 40 = .ok (.iload 4, 2) := by decide +kernel
theorem dX1_speedTowards_42 : decode cX1_speedTowards 42 = .ok (.iaload, 1) := by decide +kernel
theorem dX1_speedTowards_43 : decode cX1_speedTowards 43 = .ok (.iload_n 1, 1) := by decide +kernel
theorem dX1_speedTowards_44 : decode cX1_speedTowards 44 = .ok (.if_icmp .ne 14, 3) := by decide +kernel
theorem dX1_speedTowards_47 : decode cX1_speedTowards 47 = .ok (.aload_n 0, 1) := by decide +kernel
theorem dX1_speedTowards_48 : decode cX1_speedTowards 48 = .ok (.getfield 16, 3) := by decide +kernel
theorem dX1_speedTowards_51 : decode cX1_speedTowards 51 = .ok (.iload 4, 2) := by decide +kernel
theorem dX1_speedTowards_53 : decode cX1_speedTowards 53 = .ok (.iaload, 1) := by decide +kernel
theorem dX1_speedTowards_54 : decode cX1_speedTowards 54 = .ok (.i2l, 1) := by decide +kernel
theorem dX1_speedTowards_55 : decode cX1_speedTowards 55 = .ok (.goto 4, 3) := by decide +kernel
theorem dX1_speedTowards_58 : decode cX1_speedTowards 58 = .ok (.lconst 0, 1) := by decide +kernel
theorem dX1_speedTowards_59 : decode cX1_speedTowards 59 = .ok (.ladd, 1) := by decide +kernel
theorem dX1_speedTowards_60 : decode cX1_speedTowards 60 = .ok (.lstore_n 2, 1) := by decide +kernel
theorem dX1_speedTowards_61 : decode cX1_speedTowards 61 = .ok (.iinc 4 1, 3) := by decide +kernel
theorem dX1_speedTowards_64 : decode cX1_speedTowards 64 = .ok (.goto (-48), 3) := by decide +kernel
theorem dX1_speedTowards_67 : decode cX1_speedTowards 67 = .ok (.lload_n 2, 1) := by decide +kernel
theorem dX1_speedTowards_68 : decode cX1_speedTowards 68 = .ok (.lreturn, 1) := by decide +kernel
theorem dX1_fixMany_0 : decode cX1_fixMany 0 = .ok (.iconst 0, 1) := by decide +kernel
theorem dX1_fixMany_1 : decode cX1_fixMany 1 = .ok (.istore_n 1, 1) := by decide +kernel
theorem dX1_fixMany_2 : decode cX1_fixMany 2 = .ok (.iconst 0, 1) := by decide +kernel
theorem dX1_fixMany_3 : decode cX1_fixMany 3 = .ok (.istore_n 2, 1) := by decide +kernel
theorem dX1_fixMany_4 : decode cX1_fixMany 4 = .ok (.iload_n 2, 1) := by decide +kernel
theorem dX1_fixMany_5 : decode cX1_fixMany 5 = .ok (.aload_n 0, 1) := by decide +kernel
theorem dX1_fixMany_6 : decode cX1_fixMany 6 = .ok (.getfield 91, 3) := by decide +kernel
theorem dX1_fixMany_9 : decode cX1_fixMany 9 = .ok (.if_icmp .gt 26, 3) := by decide +kernel
theorem dX1_fixMany_12 : decode cX1_fixMany 12 = .ok (.iload_n 1, 1) := by decide +kernel
theorem dX1_fixMany_13 : decode cX1_fixMany 13 = .ok (.aload_n 0, 1) := by decide +kernel
theorem dX1_fixMany_14 : decode cX1_fixMany 14 = .ok (.getfield 26, 3) := by decide +kernel
theorem dX1_fixMany_17 : decode cX1_fixMany 17 = .ok (.iload_n 2, 1) := by decide +kernel
theorem dX1_fixMany_18 : decode cX1_fixMany 18 = .ok (.baload, 1) := by decide +kernel
theorem dX1_fixMany_19 : decode cX1_fixMany 19 = .ok (.ifCond .eq 7, 3) := by decide +kernel
theorem dX1_fixMany_22 : decode cX1_fixMany 22 = .ok (.iconst 1, 1) := by decide +kernel
theorem dX1_fixMany_23 : decode cX1_fixMany 23 = .ok (.goto 4, 3) := by decide +kernel
theorem dX1_fixMany_26 : decode cX1_fixMany 26 = .ok (.iconst 0, 1) := by decide +kernel
theorem dX1_fixMany_27 : decode cX1_fixMany 27 = .ok (.iadd, 1) := by decide +kernel
theorem dX1_fixMany_28 : decode cX1_fixMany 28 = .ok (.istore_n 1, 1) := by decide +kernel
theorem dX1_fixMany_29 : decode cX1_fixMany 29 = .ok (.iinc 2 1, 3) := by decide +kernel
theorem dX1_fixMany_32 : decode cX1_fixMany 32 = .ok (.goto (-28), 3) := by decide +kernel
theorem dX1_fixMany_35 : decode cX1_fixMany 35 = .ok (.iload_n 1, 1) := by decide +kernel
theorem dX1_fixMany_36 : decode cX1_fixMany 36 = .ok (.ireturn, 1) := by decide +kernel
set_option maxRecDepth 20000 in
theorem ggX1_setFix_X1_within : GoodIn wsX1_setFix wsX1_within := goodIn_r _ [12] (by decide +kernel) (by decide +kernel)
set_option maxRecDepth 20000 in
theorem gX1_setFix_X1_within : GoodIn wsX1_setFix (va_wsS RX1 47 yX1_within wsX1_within) := goodIn_app (goodIn_of _ (by decide +kernel)) ggX1_setFix_X1_within
set_option maxRecDepth 20000 in
theorem ggX1_setFix_X1_fixMany : GoodIn wsX1_setFix wsX1_fixMany := goodIn_r _ [16, 1, 6, 17, 18, 19, 20, 21, 22, 23, 24, 25, 26, 27, 28, 29, 30, 31, 32, 33] (by decide +kernel) (by decide +kernel)
set_option maxRecDepth 20000 in
theorem gX1_setFix_X1_fixMany : GoodIn wsX1_setFix (wsV RX1 133 RX1 yX1_fixMany wsX1_fixMany) := goodIn_app (goodIn_of _ (by decide +kernel)) ggX1_setFix_X1_fixMany
theorem dX1_setFix_0 : decode cX1_setFix 0 = .ok (.iload_n 1, 1) := by decide +kernel
theorem dX1_setFix_1 : decode cX1_setFix 1 = .ok (.iconst 1, 1) := by decide +kernel
theorem dX1_setFix_2 : decode cX1_setFix 2 = .ok (.aload_n 0, 1) := by decide +kernel
theorem dX1_setFix_3 : decode cX1_setFix 3 = .ok (.getfield 91, 3) := by decide +kernel
theorem dX1_setFix_6 : decode cX1_setFix 6 = .ok (.invokestatic 47, 3) := by decide +kernel
theorem dX1_setFix_9 : decode cX1_setFix 9 = .ok (.ifCond .ne 7, 3) := by decide +kernel
theorem dX1_setFix_12 : decode cX1_setFix 12 = .ok (.ldc2_w 129, 3) := by decide +kernel
theorem dX1_setFix_15 : decode cX1_setFix 15 = .ok (.lreturn, 1) := by decide +kernel
theorem dX1_setFix_16 : decode cX1_setFix 16 = .ok (.iload_n 2, 1) := by decide +kernel
theorem dX1_setFix_17 : decode cX1_setFix 17 = .ok (.ldc 131, 2) := by decide +kernel
theorem dX1_setFix_19 : decode cX1_setFix 19 = .ok (.ldc 132, 2) := by decide +kernel
theorem dX1_setFix_21 : decode cX1_setFix 21 = .ok (.invokestatic 47, 3) := by decide +kernel
theorem dX1_setFix_24 : decode cX1_setFix 24 = .ok (.ifCond .eq 14, 3) := by decide +kernel
theorem dX1_setFix_27 : decode cX1_setFix 27 = .ok (.iload_n 3, 1) := by decide +kernel
theorem dX1_setFix_28 : decode cX1_setFix 28 = .ok (.ldc 131, 2) := by decide +kernel
theorem dX1_setFix_30 : decode cX1_setFix 30 = .ok (.ldc 132, 2) := by decide +kernel
theorem dX1_setFix_32 : decode cX1_setFix 32 = .ok (.invokestatic 47, 3) := by decide +kernel
theorem dX1_setFix_35 : decode cX1_setFix 35 = .ok (.ifCond .ne 7, 3) := by decide +kernel
theorem dX1_setFix_38 : decode cX1_setFix 38 = .ok (.ldc2_w 51, 3) := by decide +kernel
theorem dX1_setFix_41 : decode cX1_setFix 41 = .ok (.lreturn, 1) := by decide +kernel
theorem dX1_setFix_42 : decode cX1_setFix 42 = .ok (.aload_n 0, 1) := by decide +kernel
theorem dX1_setFix_43 : decode cX1_setFix 43 = .ok (.getfield 26, 3) := by decide +kernel
theorem dX1_setFix_46 : decode cX1_setFix 46 = .ok (.iload_n 1, 1) := by decide +kernel
theorem dX1_setFix_47 : decode cX1_setFix 47 = .ok (.iconst 1, 1) := by decide +kernel
theorem dX1_setFix_48 : decode cX1_setFix 48 = .ok (.bastore, 1) := by decide +kernel
theorem dX1_setFix_49 : decode cX1_setFix 49 = .ok (.aload_n 0, 1) := by decide +kernel
theorem dX1_setFix_50 : decode cX1_setFix 50 = .ok (.getfield 29, 3) := by decide +kernel
theorem dX1_setFix_53 : decode cX1_setFix 53 = .ok (.iload_n 1, 1) := by decide +kernel
theorem dX1_setFix_54 : decode cX1_setFix 54 = .ok (.iload_n 2, 1) := by decide +kernel
theorem dX1_setFix_55 : decode cX1_setFix 55 = .ok (.i2l, 1) := by decide +kernel
theorem dX1_setFix_56 : decode cX1_setFix 56 = .ok (.lastore, 1) := by decide +kernel
theorem dX1_setFix_57 : decode cX1_setFix 57 = .ok (.aload_n 0, 1) := by decide +kernel
theorem dX1_setFix_58 : decode cX1_setFix 58 = .ok (.getfield 33, 3) := by decide +kernel
theorem dX1_setFix_61 : decode cX1_setFix 61 = .ok (.iload_n 1, 1) := by decide +kernel
theorem dX1_setFix_62 : decode cX1_setFix 62 = .ok (.iload_n 3, 1) := by decide +kernel
theorem dX1_setFix_63 : decode cX1_setFix 63 = .ok (.i2l, 1) := by decide +kernel
theorem dX1_setFix_64 : decode cX1_setFix 64 = .ok (.lastore, 1) := by decide +kernel
theorem dX1_setFix_65 : decode cX1_setFix 65 = .ok (.aload_n 0, 1) := by decide +kernel
theorem dX1_setFix_66 : decode cX1_setFix 66 = .ok (.invokevirtual 133, 3) := by decide +kernel
theorem dX1_setFix_69 : decode cX1_setFix 69 = .ok (.i2l, 1) := by decide +kernel
theorem dX1_setFix_70 : decode cX1_setFix 70 = .ok (.lreturn, 1) := by decide +kernel
set_option maxRecDepth 20000 in
theorem ggX1_removeFix_X1_within : GoodIn wsX1_removeFix wsX1_within := goodIn_r _ [8] (by decide +kernel) (by decide +kernel)
set_option maxRecDepth 20000 in
theorem gX1_removeFix_X1_within : GoodIn wsX1_removeFix (va_wsS RX1 47 yX1_within wsX1_within) := goodIn_app (goodIn_of _ (by decide +kernel)) ggX1_removeFix_X1_within
set_option maxRecDepth 20000 in
theorem ggX1_removeFix_X1_fixMany : GoodIn wsX1_removeFix wsX1_fixMany := goodIn_r _ [12, 1, 3, 13, 14, 15, 16, 17, 18, 19, 20, 21, 22, 23, 24, 25, 26, 27, 28, 29] (by decide +kernel) (by decide +kernel)
set_option maxRecDepth 20000 in
theorem gX1_removeFix_X1_fixMany : GoodIn wsX1_removeFix (wsV RX1 133 RX1 yX1_fixMany wsX1_fixMany) := goodIn_app (goodIn_of _ (by decide +kernel)) ggX1_removeFix_X1_fixMany
theorem dX1_removeFix_0 : decode cX1_removeFix 0 = .ok (.iload_n 1, 1) := by decide +kernel
theorem dX1_removeFix_1 : decode cX1_removeFix 1 = .ok (.iconst 1, 1) := by decide +kernel
theorem dX1_removeFix_2 : decode cX1_removeFix 2 = .ok (.aload_n 0, 1) := by decide +kernel
theorem dX1_removeFix_3 : decode cX1_removeFix 3 = .ok (.getfield 91, 3) := by decide +kernel
theorem dX1_removeFix_6 : decode cX1_removeFix 6 = .ok (.invokestatic 47, 3) := by decide +kernel
theorem dX1_removeFix_9 : decode cX1_removeFix 9 = .ok (.ifCond .ne 7, 3) := by decide +kernel
theorem dX1_removeFix_12 : decode cX1_removeFix 12 = .ok (.ldc2_w 129, 3) := by decide +kernel
theorem dX1_removeFix_15 : decode cX1_removeFix 15 = .ok (.lreturn, 1) := by decide +kernel
theorem dX1_removeFix_16 : decode cX1_removeFix 16 = .ok (.aload_n 0, 1) := by decide +kernel
theorem dX1_removeFix_17 : decode cX1_removeFix 17 = .ok (.getfield 26, 3) := by decide +kernel
theorem dX1_removeFix_20 : decode cX1_removeFix 20 = .ok (.iload_n 1, 1) := by decide +kernel
theorem dX1_removeFix_21 : decode cX1_removeFix 21 = .ok (.baload, 1) := by decide +kernel
theorem dX1_removeFix_22 : decode cX1_removeFix 22 = .ok (.ifCond .ne 7, 3) := by decide +kernel
theorem dX1_removeFix_25 : decode cX1_removeFix 25 = .ok (.ldc2_w 108, 3) := by decide +kernel
theorem dX1_removeFix_28 : decode cX1_removeFix 28 = .ok (.lreturn, 1) := by decide +kernel
theorem dX1_removeFix_29 : decode cX1_removeFix 29 = .ok (.aload_n 0, 1) := by decide +kernel
theorem dX1_removeFix_30 : decode cX1_removeFix 30 = .ok (.getfield 26, 3) := by decide +kernel
theorem dX1_removeFix_33 : decode cX1_removeFix 33 = .ok (.iload_n 1, 1) := by decide +kernel
theorem dX1_removeFix_34 : decode cX1_removeFix 34 = .ok (.iconst 0, 1) := by decide +kernel
theorem dX1_removeFix_35 : decode cX1_removeFix 35 = .ok (.bastore, 1) := by decide +kernel
theorem dX1_removeFix_36 : decode cX1_removeFix 36 = .ok (.aload_n 0, 1) := by decide +kernel
theorem dX1_removeFix_37 : decode cX1_removeFix 37 = .ok (.invokevirtual 133, 3) := by decide +kernel
theorem dX1_removeFix_40 : decode cX1_removeFix 40 = .ok (.i2l, 1) := by decide +kernel
theorem dX1_removeFix_41 : decode cX1_removeFix 41 = .ok (.lreturn, 1) := by decide +kernel
set_option maxRecDepth 20000 in
theorem ggX1_isMoment_X1_within : GoodIn wsX1_isMoment wsX1_within := goodIn_r _ [5] (by decide +kernel) (by decide +kernel)
set_option maxRecDepth 20000 in
theorem gX1_isMoment_X1_within : GoodIn wsX1_isMoment (va_wsS RX1 47 yX1_within wsX1_within) := goodIn_app (goodIn_of _ (by decide +kernel)) ggX1_isMoment_X1_within
theorem dX1_isMoment_0 : decode cX1_isMoment 0 = .ok (.iload_n 1, 1) := by decide +kernel
theorem dX1_isMoment_1 : decode cX1_isMoment 1 = .ok (.iconst 0, 1) := by decide +kernel
theorem dX1_isMoment_2 : decode cX1_isMoment 2 = .ok (.aload_n 0, 1) := by decide +kernel
theorem dX1_isMoment_3 : decode cX1_isMoment 3 = .ok (.getfield 91, 3) := by decide +kernel
theorem dX1_isMoment_6 : decode cX1_isMoment 6 = .ok (.invokestatic 47, 3) := by decide +kernel
theorem dX1_isMoment_9 : decode cX1_isMoment 9 = .ok (.ireturn, 1) := by decide +kernel
theorem dX1_fixAt_0 : decode cX1_fixAt 0 = .ok (.iload_n 1, 1) := by decide +kernel
theorem dX1_fixAt_1 : decode cX1_fixAt 1 = .ok (.istore_n 2, 1) := by decide +kernel
theorem dX1_fixAt_2 : decode cX1_fixAt 2 = .ok (.aload_n 0, 1) := by decide +kernel
theorem dX1_fixAt_3 : decode cX1_fixAt 3 = .ok (.getfield 26, 3) := by decide +kernel
theorem dX1_fixAt_6 : decode cX1_fixAt 6 = .ok (.iload_n 2, 1) := by decide +kernel
theorem dX1_fixAt_7 : decode cX1_fixAt 7 = .ok (.baload, 1) := by decide +kernel
theorem dX1_fixAt_8 : decode cX1_fixAt 8 = .ok (.ifCond .ne 9, 3) := by decide +kernel
theorem dX1_fixAt_11 : decode cX1_fixAt 11 = .ok (.iinc 2 (-1), 3) := by decide +kernel
theorem dX1_fixAt_14 : decode cX1_fixAt 14 = .ok (.goto (-12), 3) := by decide +kernel
theorem dX1_fixAt_17 : decode cX1_fixAt 17 = .ok (.iload_n 2, 1) := by decide +kernel
theorem dX1_fixAt_18 : decode cX1_fixAt 18 = .ok (.ireturn, 1) := by decide +kernel
theorem dX1_fixBehind_0 : decode cX1_fixBehind 0 = .ok (.iconst (-1), 1) := by decide +kernel
theorem dX1_fixBehind_1 : decode cX1_fixBehind 1 = .ok (.istore_n 2, 1) := by decide +kernel
theorem dX1_fixBehind_2 : decode cX1_fixBehind 2 = .ok (.aload_n 0, 1) := by decide +kernel
theorem dX1_fixBehind_3 : decode cX1_fixBehind 3 = .ok (.getfield 91, 3) := by decide +kernel
theorem dX1_fixBehind_6 : decode cX1_fixBehind 6 = .ok (.istore_n 3, 1) := by decide +kernel
theorem dX1_fixBehind_7 : decode cX1_fixBehind 7 = .ok (.iload_n 3, 1) := by decide +kernel
theorem dX1_fixBehind_8 : decode cX1_fixBehind 8 = .ok (.iload_n 1, 1) := by decide +kernel
theorem dX1_fixBehind_9 : decode cX1_fixBehind 9 = .ok (.if_icmp .le 24, 3) := by decide +kernel
theorem dX1_fixBehind_12 : decode cX1_fixBehind 12 = .ok (.aload_n 0, 1) := by decide +kernel
theorem dX1_fixBehind_13 : decode cX1_fixBehind 13 = .ok (.getfield 26, 3) := by decide +kernel
theorem dX1_fixBehind_16 : decode cX1_fixBehind 16 = .ok (.iload_n 3, 1) := by decide +kernel
theorem dX1_fixBehind_17 : decode cX1_fixBehind 17 = .ok (.baload, 1) := by decide +kernel
theorem dX1_fixBehind_18 : decode cX1_fixBehind 18 = .ok (.ifCond .eq 7, 3) := by decide +kernel
theorem dX1_fixBehind_21 : decode cX1_fixBehind 21 = .ok (.iload_n 3, 1) := by decide +kernel
theorem dX1_fixBehind_22 : decode cX1_fixBehind 22 = .ok (.goto 4, 3) := by decide +kernel
theorem dX1_fixBehind_25 : decode cX1_fixBehind 25 = .ok (.iload_n 2, 1) := by decide +kernel
theorem dX1_fixBehind_26 : decode cX1_fixBehind 26 = .ok (.istore_n 2, 1) := by decide +kernel
theorem dX1_fixBehind_27 : decode cX1_fixBehind 27 = .ok (.iinc 3 (-1), 3) := by decide +kernel
theorem dX1_fixBehind_30 : decode cX1_fixBehind 30 = .ok (.goto (-23), 3) := by decide +kernel
theorem dX1_fixBehind_33 : decode cX1_fixBehind 33 = .ok (.iload_n 2, 1) := by decide +kernel
theorem dX1_fixBehind_34 : decode cX1_fixBehind 34 = .ok (.ireturn, 1) := by decide +kernel
set_option maxRecDepth 20000 in
theorem ggX1_leg_X1_cosine : GoodIn wsX1_leg wsX1_cosine := goodIn_r _ [10, 11, 12, 9, 13, 14, 15, 16] (by decide +kernel) (by decide +kernel)
set_option maxRecDepth 20000 in
theorem gX1_leg_X1_cosine : GoodIn wsX1_leg (va_wsS RX1 136 yX1_cosine wsX1_cosine) := goodIn_app (goodIn_of _ (by decide +kernel)) ggX1_leg_X1_cosine
set_option maxRecDepth 20000 in
theorem ggX1_leg_X1_sine : GoodIn wsX1_leg wsX1_sine := goodIn_r _ [13, 14, 15, 9, 16] (by decide +kernel) (by decide +kernel)
set_option maxRecDepth 20000 in
theorem gX1_leg_X1_sine : GoodIn wsX1_leg (va_wsS RX1 44 yX1_sine wsX1_sine) := goodIn_app (goodIn_of _ (by decide +kernel)) ggX1_leg_X1_sine
theorem dX1_leg_0 : decode cX1_leg 0 = .ok (.aload_n 0, 1) := by decide +kernel
theorem dX1_leg_1 : decode cX1_leg 1 = .ok (.getfield 13, 3) := by decide +kernel
theorem dX1_leg_4 : decode cX1_leg 4 = .ok (.iload_n 1, 1) := by decide +kernel
theorem dX1_leg_5 : decode cX1_leg 5 = .ok (.iaload, 1) := by decide +kernel
theorem dX1_leg_6 : decode cX1_leg 6 = .ok (.aload_n 0, 1) := by decide +kernel
theorem dX1_leg_7 : decode cX1_leg 7 = .ok (.getfield 19, 3) := by decide +kernel
theorem dX1_leg_10 : decode cX1_leg 10 = .ok (.iload_n 1, 1) := by decide +kernel
theorem dX1_leg_11 : decode cX1_leg 11 = .ok (.iaload, 1) := by decide +kernel
theorem dX1_leg_12 : decode cX1_leg 12 = .ok (.iadd, 1) := by decide +kernel
theorem dX1_leg_13 : decode cX1_leg 13 = .ok (.bipush 32, 2) := by decide +kernel
theorem dX1_leg_15 : decode cX1_leg 15 = .ok (.iadd, 1) := by decide +kernel
theorem dX1_leg_16 : decode cX1_leg 16 = .ok (.bipush 32, 2) := by decide +kernel
theorem dX1_leg_18 : decode cX1_leg 18 = .ok (.irem, 1) := by decide +kernel
theorem dX1_leg_19 : decode cX1_leg 19 = .ok (.istore_n 3, 1) := by decide +kernel
theorem dX1_leg_20 : decode cX1_leg 20 = .ok (.aload_n 0, 1) := by decide +kernel
theorem dX1_leg_21 : decode cX1_leg 21 = .ok (.getfield 22, 3) := by decide +kernel
theorem dX1_leg_24 : decode cX1_leg 24 = .ok (.iload_n 1, 1) := by decide +kernel
theorem dX1_leg_25 : decode cX1_leg 25 = .ok (.baload, 1) := by decide +kernel
theorem dX1_leg_26 : decode cX1_leg 26 = .ok (.ifCond .eq 7, 3) := by decide +kernel
theorem dX1_leg_29 : decode cX1_leg 29 = .ok (.lconst 0, 1) := by decide +kernel
theorem dX1_leg_30 : decode cX1_leg 30 = .ok (.goto 27, 3) := by decide +kernel
theorem dX1_leg_33 : decode cX1_leg 33 = .ok (.aload_n 0, 1) := by decide +kernel
theorem dX1_leg_34 : decode cX1_leg 34 = .ok (.getfield 16, 3) := by decide +kernel
theorem dX1_leg_37 : decode cX1_leg 37 = .ok (.iload_n 1, 1) := by decide +kernel
theorem dX1_leg_38 : decode cX1_leg 38 = .ok (.iaload, 1) := by decide +kernel
theorem dX1_leg_39 : decode cX1_leg 39 = .ok (.i2l, 1) := by decide +kernel
theorem dX1_leg_40 : decode cX1_leg 40 = .ok (.iload_n 2, 1) := by decide +kernel
theorem dX1_leg_41 : decode cX1_leg 41 = .ok (.ifCond .ne 10, 3) := by decide +kernel
theorem dX1_leg_44 : decode cX1_leg 44 = .ok (.iload_n 3, 1) := by decide +kernel
theorem dX1_leg_45 : decode cX1_leg 45 = .ok (.invokestatic 136, 3) := by decide +kernel
theorem dX1_leg_48 : decode cX1_leg 48 = .ok (.goto 7, 3) := by decide +kernel
theorem dX1_leg_51 : decode cX1_leg 51 = .ok (.iload_n 3, 1) := by decide +kernel
theorem dX1_leg_52 : decode cX1_leg 52 = .ok (.invokestatic 44, 3) := by decide +kernel
theorem dX1_leg_55 : decode cX1_leg 55 = .ok (.i2l, 1) := by decide +kernel
theorem dX1_leg_56 : decode cX1_leg 56 = .ok (.lmul, 1) := by decide +kernel
theorem dX1_leg_57 : decode cX1_leg 57 = .ok (.lstore 4, 2) := by decide +kernel
theorem dX1_leg_59 : decode cX1_leg 59 = .ok (.lload 4, 2) := by decide +kernel
theorem dX1_leg_61 : decode cX1_leg 61 = .ok (.aload_n 0, 1) := by decide +kernel
theorem dX1_leg_62 : decode cX1_leg 62 = .ok (.getfield 116, 3) := by decide +kernel
theorem dX1_leg_65 : decode cX1_leg 65 = .ok (.i2l, 1) := by decide +kernel
theorem dX1_leg_66 : decode cX1_leg 66 = .ok (.iload_n 2, 1) := by decide +kernel
theorem dX1_leg_67 : decode cX1_leg 67 = .ok (.ifCond .ne 13, 3) := by decide +kernel
theorem dX1_leg_70 : decode cX1_leg 70 = .ok (.aload_n 0, 1) := by decide +kernel
theorem dX1_leg_71 : decode cX1_leg 71 = .ok (.getfield 119, 3) := by decide +kernel
theorem dX1_leg_74 : decode cX1_leg 74 = .ok (.invokestatic 136, 3) := by decide +kernel
theorem dX1_leg_77 : decode cX1_leg 77 = .ok (.goto 10, 3) := by decide +kernel
theorem dX1_leg_80 : decode cX1_leg 80 = .ok (.aload_n 0, 1) := by decide +kernel
theorem dX1_leg_81 : decode cX1_leg 81 = .ok (.getfield 119, 3) := by decide +kernel
theorem dX1_leg_84 : decode cX1_leg 84 = .ok (.invokestatic 44, 3) := by decide +kernel
theorem dX1_leg_87 : decode cX1_leg 87 = .ok (.i2l, 1) := by decide +kernel
theorem dX1_leg_88 : decode cX1_leg 88 = .ok (.lmul, 1) := by decide +kernel
theorem dX1_leg_89 : decode cX1_leg 89 = .ok (.ladd, 1) := by decide +kernel
theorem dX1_leg_90 : decode cX1_leg 90 = .ok (.lreturn, 1) := by decide +kernel
theorem dX1_fixed_0 : decode cX1_fixed 0 = .ok (.iload_n 2, 1) := by decide +kernel
theorem dX1_fixed_1 : decode cX1_fixed 1 = .ok (.ifCond .ne 12, 3) := by decide +kernel
theorem dX1_fixed_4 : decode cX1_fixed 4 = .ok (.aload_n 0, 1) := by decide +kernel
theorem dX1_fixed_5 : decode cX1_fixed 5 = .ok (.getfield 29, 3) := by decide +kernel
theorem dX1_fixed_8 : decode cX1_fixed 8 = .ok (.iload_n 1, 1) := by decide +kernel
theorem dX1_fixed_9 : decode cX1_fixed 9 = .ok (.laload, 1) := by decide +kernel
theorem dX1_fixed_10 : decode cX1_fixed 10 = .ok (.goto 9, 3) := by decide +kernel
theorem dX1_fixed_13 : decode cX1_fixed 13 = .ok (.aload_n 0, 1) := by decide +kernel
theorem dX1_fixed_14 : decode cX1_fixed 14 = .ok (.getfield 33, 3) := by decide +kernel
theorem dX1_fixed_17 : decode cX1_fixed 17 = .ok (.iload_n 1, 1) := by decide +kernel
theorem dX1_fixed_18 : decode cX1_fixed 18 = .ok (.laload, 1) := by decide +kernel
theorem dX1_fixed_19 : decode cX1_fixed 19 = .ok (.lreturn, 1) := by decide +kernel
set_option maxRecDepth 20000 in
theorem ggX1_gone_X1_fixed : GoodIn wsX1_gone wsX1_fixed := goodIn_r _ [5, 6, 7, 27, 28, 29, 30, 31, 32, 33, 34, 35, 36, 37, 38, 39, 40, 41, 42, 43] (by decide +kernel) (by decide +kernel)
set_option maxRecDepth 20000 in
theorem gX1_gone_X1_fixed : GoodIn wsX1_gone (wsV RX1 139 RX1 yX1_fixed wsX1_fixed) := goodIn_app (goodIn_of _ (by decide +kernel)) ggX1_gone_X1_fixed
set_option maxRecDepth 20000 in
theorem ggX1_gone_X1_leg : GoodIn wsX1_gone wsX1_leg := goodIn_r _ [11, 12, 13, 14, 15, 16, 17, 18, 19, 4, 20, 21, 22, 23, 24, 25, 26, 27, 28, 29, 30, 31, 32, 33, 34, 35, 36, 37, 38, 39, 40, 41, 42, 43] (by decide +kernel) (by decide +kernel)
set_option maxRecDepth 20000 in
theorem gX1_gone_X1_leg : GoodIn wsX1_gone (wsV RX1 143 RX1 yX1_leg wsX1_leg) := goodIn_app (goodIn_of _ (by decide +kernel)) ggX1_gone_X1_leg
theorem dX1_gone_0 : decode cX1_gone 0 = .ok (.aload_n 0, 1) := by decide +kernel
theorem dX1_gone_1 : decode cX1_gone 1 = .ok (.iload_n 1, 1) := by decide +kernel
theorem dX1_gone_2 : decode cX1_gone 2 = .ok (.iload_n 3, 1) := by decide +kernel
theorem dX1_gone_3 : decode cX1_gone 3 = .ok (.invokevirtual 139, 3) := by decide +kernel
theorem dX1_gone_6 : decode cX1_gone 6 = .ok (.lstore 4, 2) := by decide +kernel
theorem dX1_gone_8 : decode cX1_gone 8 = .ok (.iload_n 1, 1) := by decide +kernel
theorem dX1_gone_9 : decode cX1_gone 9 = .ok (.istore 6, 2) := by decide +kernel
theorem dX1_gone_11 : decode cX1_gone 11 = .ok (.iload 6, 2) := by decide +kernel
theorem dX1_gone_13 : decode cX1_gone 13 = .ok (.iload_n 2, 1) := by decide +kernel
theorem dX1_gone_14 : decode cX1_gone 14 = .ok (.if_icmp .ge 21, 3) := by decide +kernel
theorem dX1_gone_17 : decode cX1_gone 17 = .ok (.lload 4, 2) := by decide +kernel
theorem dX1_gone_19 : decode cX1_gone 19 = .ok (.aload_n 0, 1) := by decide +kernel
theorem dX1_gone_20 : decode cX1_gone 20 = .ok (.iload 6, 2) := by decide +kernel
theorem dX1_gone_22 : decode cX1_gone 22 = .ok (.iload_n 3, 1) := by decide +kernel
theorem dX1_gone_23 : decode cX1_gone 23 = .ok (.invokevirtual 143, 3) := by decide +kernel
theorem dX1_gone_26 : decode cX1_gone 26 = .ok (.ladd, 1) := by decide +kernel
theorem dX1_gone_27 : decode cX1_gone 27 = .ok (.lstore 4, 2) := by decide +kernel
theorem dX1_gone_29 : decode cX1_gone 29 = .ok (.iinc 6 1, 3) := by decide +kernel
theorem dX1_gone_32 : decode cX1_gone 32 = .ok (.goto (-21), 3) := by decide +kernel
theorem dX1_gone_35 : decode cX1_gone 35 = .ok (.lload 4, 2) := by decide +kernel
theorem dX1_gone_37 : decode cX1_gone 37 = .ok (.lreturn, 1) := by decide +kernel
theorem dX1_floor_0 : decode cX1_floor 0 = .ok (.lload_n 0, 1) := by decide +kernel
theorem dX1_floor_1 : decode cX1_floor 1 = .ok (.lload_n 2, 1) := by decide +kernel
theorem dX1_floor_2 : decode cX1_floor 2 = .ok (.ldiv, 1) := by decide +kernel
theorem dX1_floor_3 : decode cX1_floor 3 = .ok (.lstore 4, 2) := by decide +kernel
theorem dX1_floor_5 : decode cX1_floor 5 = .ok (.lload 4, 2) := by decide +kernel
theorem dX1_floor_7 : decode cX1_floor 7 = .ok (.lload_n 2, 1) := by decide +kernel
theorem dX1_floor_8 : decode cX1_floor 8 = .ok (.lmul, 1) := by decide +kernel
theorem dX1_floor_9 : decode cX1_floor 9 = .ok (.lload_n 0, 1) := by decide +kernel
theorem dX1_floor_10 : decode cX1_floor 10 = .ok (.lcmp, 1) := by decide +kernel
theorem dX1_floor_11 : decode cX1_floor 11 = .ok (.ifCond .le 10, 3) := by decide +kernel
theorem dX1_floor_14 : decode cX1_floor 14 = .ok (.lload 4, 2) := by decide +kernel
theorem dX1_floor_16 : decode cX1_floor 16 = .ok (.lconst 1, 1) := by decide +kernel
theorem dX1_floor_17 : decode cX1_floor 17 = .ok (.lsub, 1) := by decide +kernel
theorem dX1_floor_18 : decode cX1_floor 18 = .ok (.goto 5, 3) := by decide +kernel
theorem dX1_floor_21 : decode cX1_floor 21 = .ok (.lload 4, 2) := by decide +kernel
theorem dX1_floor_23 : decode cX1_floor 23 = .ok (.lreturn, 1) := by decide +kernel
set_option maxRecDepth 20000 in
theorem ggX1_reckoned_X1_fixAt : GoodIn wsX1_reckoned wsX1_fixAt := goodIn_r _ [5, 6, 36, 37, 38, 39, 40, 41, 42, 43, 44, 45, 46, 47, 48, 49, 50, 51, 52] (by decide +kernel) (by decide +kernel)
set_option maxRecDepth 20000 in
theorem gX1_reckoned_X1_fixAt : GoodIn wsX1_reckoned (wsV RX1 146 RX1 yX1_fixAt wsX1_fixAt) := goodIn_app (goodIn_of _ (by decide +kernel)) ggX1_reckoned_X1_fixAt
set_option maxRecDepth 20000 in
theorem ggX1_reckoned_X1_gone : GoodIn wsX1_reckoned wsX1_gone := goodIn_r _ [10, 11, 12, 13, 4, 14, 15, 16, 17, 18, 19, 20, 21, 22, 23, 24, 25, 26, 27, 28, 29, 30, 31, 32, 33, 34, 35, 36, 37, 38, 39, 40, 41, 42, 43, 44, 45, 46, 47, 48, 49, 50, 51, 52] (by decide +kernel) (by decide +kernel)
set_option maxRecDepth 20000 in
theorem gX1_reckoned_X1_gone : GoodIn wsX1_reckoned (wsV RX1 149 RX1 yX1_gone wsX1_gone) := goodIn_app (goodIn_of _ (by decide +kernel)) ggX1_reckoned_X1_gone
theorem dX1_reckoned_0 : decode cX1_reckoned 0 = .ok (.aload_n 0, 1) := by decide +kernel
theorem dX1_reckoned_1 : decode cX1_reckoned 1 = .ok (.aload_n 0, 1) := by decide +kernel
theorem dX1_reckoned_2 : decode cX1_reckoned 2 = .ok (.iload_n 1, 1) := by decide +kernel
theorem dX1_reckoned_3 : decode cX1_reckoned 3 = .ok (.invokevirtual 146, 3) := by decide +kernel
theorem dX1_reckoned_6 : decode cX1_reckoned 6 = .ok (.iload_n 1, 1) := by decide +kernel
theorem dX1_reckoned_7 : decode cX1_reckoned 7 = .ok (.iload_n 2, 1) := by decide +kernel
theorem dX1_reckoned_8 : decode cX1_reckoned 8 = .ok (.invokevirtual 149, 3) := by decide +kernel
theorem dX1_reckoned_11 : decode cX1_reckoned 11 = .ok (.lreturn, 1) := by decide +kernel
set_option maxRecDepth 20000 in
theorem ggX1_corrected_X1_fixAt : GoodIn wsX1_corrected wsX1_fixAt := goodIn_r _ [5, 6, 44, 45, 46, 47, 48, 49, 50, 51, 52, 53, 54, 55, 56, 57, 58, 59, 60] (by decide +kernel) (by decide +kernel)
set_option maxRecDepth 20000 in
theorem gX1_corrected_X1_fixAt : GoodIn wsX1_corrected (wsV RX1 146 RX1 yX1_fixAt wsX1_fixAt) := goodIn_app (goodIn_of _ (by decide +kernel)) ggX1_corrected_X1_fixAt
set_option maxRecDepth 20000 in
theorem ggX1_corrected_X1_fixBehind : GoodIn wsX1_corrected wsX1_fixBehind := goodIn_r _ [10, 11, 6, 44, 45, 46, 47, 48, 49, 50, 51, 52, 53, 54, 55, 56, 57, 58, 59, 60] (by decide +kernel) (by decide +kernel)
set_option maxRecDepth 20000 in
theorem gX1_corrected_X1_fixBehind : GoodIn wsX1_corrected (wsV RX1 153 RX1 yX1_fixBehind wsX1_fixBehind) := goodIn_app (goodIn_of _ (by decide +kernel)) ggX1_corrected_X1_fixBehind
set_option maxRecDepth 20000 in
theorem ggX1_corrected_X1_gone : GoodIn wsX1_corrected wsX1_gone := goodIn_r _ [15, 16, 17, 18, 4, 19, 20, 21, 22, 23, 24, 25, 26, 27, 28, 29, 30, 31, 32, 33, 34, 35, 36, 37, 38, 39, 40, 44, 45, 46, 47, 48, 49, 50, 51, 52, 53, 54, 55, 56, 57, 58, 59, 60] (by decide +kernel) (by decide +kernel)
set_option maxRecDepth 20000 in
theorem gX1_corrected_X1_gone : GoodIn wsX1_corrected (wsV RX1 149 RX1 yX1_gone wsX1_gone) := goodIn_app (goodIn_of _ (by decide +kernel)) ggX1_corrected_X1_gone
set_option maxRecDepth 20000 in
theorem ggX1_corrected_X1_fixed : GoodIn wsX1_corrected wsX1_fixed := goodIn_r _ [19, 20, 21, 44, 45, 46, 47, 48, 49, 50, 51, 52, 53, 54, 55, 56, 57, 58, 59, 60] (by decide +kernel) (by decide +kernel)
set_option maxRecDepth 20000 in
theorem gX1_corrected_X1_fixed : GoodIn wsX1_corrected (wsV RX1 139 RX1 yX1_fixed wsX1_fixed) := goodIn_app (goodIn_of _ (by decide +kernel)) ggX1_corrected_X1_fixed
end
section
set_option maxRecDepth 20000 in
theorem ggX1_corrected_X1_floor : GoodIn wsX1_corrected wsX1_floor := goodIn_r _ [43] (by decide +kernel) (by decide +kernel)
set_option maxRecDepth 20000 in
theorem gX1_corrected_X1_floor : GoodIn wsX1_corrected (va_wsS RX1 156 yX1_floor wsX1_floor) := goodIn_app (goodIn_of _ (by decide +kernel)) ggX1_corrected_X1_floor
theorem dX1_corrected_0 : decode cX1_corrected 0 = .ok (.aload_n 0, 1) := by decide +kernel
theorem dX1_corrected_1 : decode cX1_corrected 1 = .ok (.iload_n 1, 1) := by decide +kernel
theorem dX1_corrected_2 : decode cX1_corrected 2 = .ok (.invokevirtual 146, 3) := by decide +kernel
theorem dX1_corrected_5 : decode cX1_corrected 5 = .ok (.istore_n 3, 1) := by decide +kernel
theorem dX1_corrected_6 : decode cX1_corrected 6 = .ok (.aload_n 0, 1) := by decide +kernel
theorem dX1_corrected_7 : decode cX1_corrected 7 = .ok (.iload_n 1, 1) := by decide +kernel
theorem dX1_corrected_8 : decode cX1_corrected 8 = .ok (.invokevirtual 153, 3) := by decide +kernel
theorem dX1_corrected_11 : decode cX1_corrected 11 = .ok (.istore 4, 2) := by decide +kernel
theorem dX1_corrected_13 : decode cX1_corrected 13 = .ok (.aload_n 0, 1) := by decide +kernel
theorem dX1_corrected_14 : decode cX1_corrected 14 = .ok (.iload_n 3, 1) := by decide +kernel
theorem dX1_corrected_15 : decode cX1_corrected 15 = .ok (.iload_n 1, 1) := by decide +kernel
theorem dX1_corrected_16 : decode cX1_corrected 16 = .ok (.iload_n 2, 1) := by decide +kernel
theorem dX1_corrected_17 : decode cX1_corrected 17 = .ok (.invokevirtual 149, 3) := by decide +kernel
theorem dX1_corrected_20 : decode cX1_corrected 20 = .ok (.lstore 5, 2) := by decide +kernel
theorem dX1_corrected_22 : decode cX1_corrected 22 = .ok (.iload_n 3, 1) := by decide +kernel
theorem dX1_corrected_23 : decode cX1_corrected 23 = .ok (.iload_n 1, 1) := by decide +kernel
theorem dX1_corrected_24 : decode cX1_corrected 24 = .ok (.if_icmp .eq 8, 3) := by decide +kernel
theorem dX1_corrected_27 : decode cX1_corrected 27 = .ok (.iload 4, 2) := by decide +kernel
theorem dX1_corrected_29 : decode cX1_corrected 29 = .ok (.ifCond .ge 6, 3) := by decide +kernel
theorem dX1_corrected_32 : decode cX1_corrected 32 = .ok (.lload 5, 2) := by decide +kernel
theorem dX1_corrected_34 : decode cX1_corrected 34 = .ok (.lreturn, 1) := by decide +kernel
theorem dX1_corrected_35 : decode cX1_corrected 35 = .ok (.aload_n 0, 1) := by decide +kernel
theorem dX1_corrected_36 : decode cX1_corrected 36 = .ok (.iload 4, 2) := by decide +kernel
theorem dX1_corrected_38 : decode cX1_corrected 38 = .ok (.iload_n 2, 1) := by decide +kernel
theorem dX1_corrected_39 : decode cX1_corrected 39 = .ok (.invokevirtual 139, 3) := by decide +kernel
theorem dX1_corrected_42 : decode cX1_corrected 42 = .ok (.aload_n 0, 1) := by decide +kernel
theorem dX1_corrected_43 : decode cX1_corrected 43 = .ok (.iload_n 3, 1) := by decide +kernel
theorem dX1_corrected_44 : decode cX1_corrected 44 = .ok (.iload 4, 2) := by decide +kernel
theorem dX1_corrected_46 : decode cX1_corrected 46 = .ok (.iload_n 2, 1) := by decide +kernel
theorem dX1_corrected_47 : decode cX1_corrected 47 = .ok (.invokevirtual 149, 3) := by decide +kernel
theorem dX1_corrected_50 : decode cX1_corrected 50 = .ok (.lsub, 1) := by decide +kernel
theorem dX1_corrected_51 : decode cX1_corrected 51 = .ok (.lstore 7, 2) := by decide +kernel
theorem dX1_corrected_53 : decode cX1_corrected 53 = .ok (.lload 5, 2) := by decide +kernel
theorem dX1_corrected_55 : decode cX1_corrected 55 = .ok (.lload 7, 2) := by decide +kernel
theorem dX1_corrected_57 : decode cX1_corrected 57 = .ok (.iload_n 1, 1) := by decide +kernel
theorem dX1_corrected_58 : decode cX1_corrected 58 = .ok (.iload_n 3, 1) := by decide +kernel
theorem dX1_corrected_59 : decode cX1_corrected 59 = .ok (.isub, 1) := by decide +kernel
theorem dX1_corrected_60 : decode cX1_corrected 60 = .ok (.i2l, 1) := by decide +kernel
theorem dX1_corrected_61 : decode cX1_corrected 61 = .ok (.lmul, 1) := by decide +kernel
theorem dX1_corrected_62 : decode cX1_corrected 62 = .ok (.iload 4, 2) := by decide +kernel
theorem dX1_corrected_64 : decode cX1_corrected 64 = .ok (.iload_n 3, 1) := by decide +kernel
theorem dX1_corrected_65 : decode cX1_corrected 65 = .ok (.isub, 1) := by decide +kernel
theorem dX1_corrected_66 : decode cX1_corrected 66 = .ok (.i2l, 1) := by decide +kernel
theorem dX1_corrected_67 : decode cX1_corrected 67 = .ok (.invokestatic 156, 3) := by decide +kernel
theorem dX1_corrected_70 : decode cX1_corrected 70 = .ok (.ladd, 1) := by decide +kernel
theorem dX1_corrected_71 : decode cX1_corrected 71 = .ok (.lreturn, 1) := by decide +kernel
set_option maxRecDepth 20000 in
theorem ggX1_reckonedNorth_X1_isMoment : GoodIn wsX1_reckonedNorth wsX1_isMoment := goodIn_r _ [6, 7, 8, 9, 5, 10, 49, 50, 51, 52, 53, 54, 55, 56, 57, 58, 59, 60, 61, 62, 63, 64, 65] (by decide +kernel) (by decide +kernel)
set_option maxRecDepth 20000 in
theorem gX1_reckonedNorth_X1_isMoment : GoodIn wsX1_reckonedNorth (wsV RX1 160 RX1 yX1_isMoment wsX1_isMoment) := goodIn_app (goodIn_of _ (by decide +kernel)) ggX1_reckonedNorth_X1_isMoment
set_option maxRecDepth 20000 in
theorem ggX1_reckonedNorth_X1_reckoned : GoodIn wsX1_reckonedNorth wsX1_reckoned := goodIn_r _ [14, 15, 16, 17, 5, 18, 19, 20, 21, 22, 23, 24, 25, 26, 27, 28, 29, 30, 31, 32, 33, 34, 35, 36, 37, 38, 39, 40, 41, 42, 43, 44, 45, 46, 47, 48, 49, 50, 51, 52, 53, 54, 55, 56, 57, 58, 59, 60, 61, 62, 63, 64, 65] (by decide +kernel) (by decide +kernel)
set_option maxRecDepth 20000 in
theorem gX1_reckonedNorth_X1_reckoned : GoodIn wsX1_reckonedNorth (wsV RX1 163 RX1 yX1_reckoned wsX1_reckoned) := goodIn_app (goodIn_of _ (by decide +kernel)) ggX1_reckonedNorth_X1_reckoned
theorem dX1_reckonedNorth_0 : decode cX1_reckonedNorth 0 = .ok (.aload_n 0, 1) := by decide +kernel
theorem dX1_reckonedNorth_1 : decode cX1_reckonedNorth 1 = .ok (.iload_n 1, 1) := by decide +kernel
theorem dX1_reckonedNorth_2 : decode cX1_reckonedNorth 2 = .ok (.invokevirtual 160, 3) := by decide +kernel
theorem dX1_reckonedNorth_5 : decode cX1_reckonedNorth 5 = .ok (.ifCond .eq 12, 3) := by decide +kernel
theorem dX1_reckonedNorth_8 : decode cX1_reckonedNorth 8 = .ok (.aload_n 0, 1) := by decide +kernel
theorem dX1_reckonedNorth_9 : decode cX1_reckonedNorth 9 = .ok (.iload_n 1, 1) := by decide +kernel
theorem dX1_reckonedNorth_10 : decode cX1_reckonedNorth 10 = .ok (.iconst 0, 1) := by decide +kernel
theorem dX1_reckonedNorth_11 : decode cX1_reckonedNorth 11 = .ok (.invokevirtual 163, 3) := by decide +kernel
theorem dX1_reckonedNorth_14 : decode cX1_reckonedNorth 14 = .ok (.goto 6, 3) := by decide +kernel
theorem dX1_reckonedNorth_17 : decode cX1_reckonedNorth 17 = .ok (.ldc2_w 129, 3) := by decide +kernel
theorem dX1_reckonedNorth_20 : decode cX1_reckonedNorth 20 = .ok (.lreturn, 1) := by decide +kernel
set_option maxRecDepth 20000 in
theorem ggX1_reckonedEast_X1_isMoment : GoodIn wsX1_reckonedEast wsX1_isMoment := goodIn_r _ [6, 7, 8, 9, 5, 10, 49, 50, 51, 52, 53, 54, 55, 56, 57, 58, 59, 60, 61, 62, 63, 64, 65] (by decide +kernel) (by decide +kernel)
set_option maxRecDepth 20000 in
theorem gX1_reckonedEast_X1_isMoment : GoodIn wsX1_reckonedEast (wsV RX1 160 RX1 yX1_isMoment wsX1_isMoment) := goodIn_app (goodIn_of _ (by decide +kernel)) ggX1_reckonedEast_X1_isMoment
set_option maxRecDepth 20000 in
theorem ggX1_reckonedEast_X1_reckoned : GoodIn wsX1_reckonedEast wsX1_reckoned := goodIn_r _ [14, 15, 16, 17, 5, 18, 19, 20, 21, 22, 23, 24, 25, 26, 27, 28, 29, 30, 31, 32, 33, 34, 35, 36, 37, 38, 39, 40, 41, 42, 43, 44, 45, 46, 47, 48, 49, 50, 51, 52, 53, 54, 55, 56, 57, 58, 59, 60, 61, 62, 63, 64, 65] (by decide +kernel) (by decide +kernel)
set_option maxRecDepth 20000 in
theorem gX1_reckonedEast_X1_reckoned : GoodIn wsX1_reckonedEast (wsV RX1 163 RX1 yX1_reckoned wsX1_reckoned) := goodIn_app (goodIn_of _ (by decide +kernel)) ggX1_reckonedEast_X1_reckoned
theorem dX1_reckonedEast_0 : decode cX1_reckonedEast 0 = .ok (.aload_n 0, 1) := by decide +kernel
theorem dX1_reckonedEast_1 : decode cX1_reckonedEast 1 = .ok (.iload_n 1, 1) := by decide +kernel
theorem dX1_reckonedEast_2 : decode cX1_reckonedEast 2 = .ok (.invokevirtual 160, 3) := by decide +kernel
theorem dX1_reckonedEast_5 : decode cX1_reckonedEast 5 = .ok (.ifCond .eq 12, 3) := by decide +kernel
theorem dX1_reckonedEast_8 : decode cX1_reckonedEast 8 = .ok (.aload_n 0, 1) := by decide +kernel
theorem dX1_reckonedEast_9 : decode cX1_reckonedEast 9 = .ok (.iload_n 1, 1) := by decide +kernel
theorem dX1_reckonedEast_10 : decode cX1_reckonedEast 10 = .ok (.iconst 1, 1) := by decide +kernel
theorem dX1_reckonedEast_11 : decode cX1_reckonedEast 11 = .ok (.invokevirtual 163, 3) := by decide +kernel
theorem dX1_reckonedEast_14 : decode cX1_reckonedEast 14 = .ok (.goto 6, 3) := by decide +kernel
theorem dX1_reckonedEast_17 : decode cX1_reckonedEast 17 = .ok (.ldc2_w 129, 3) := by decide +kernel
theorem dX1_reckonedEast_20 : decode cX1_reckonedEast 20 = .ok (.lreturn, 1) := by decide +kernel
set_option maxRecDepth 20000 in
theorem ggX1_correctedNorth_X1_isMoment : GoodIn wsX1_correctedNorth wsX1_isMoment := goodIn_r _ [6, 7, 8, 9, 5, 10, 56, 57, 58, 59, 60, 61, 62, 63, 64, 65, 66, 67, 68, 69, 70, 71, 72] (by decide +kernel) (by decide +kernel)
set_option maxRecDepth 20000 in
theorem gX1_correctedNorth_X1_isMoment : GoodIn wsX1_correctedNorth (wsV RX1 160 RX1 yX1_isMoment wsX1_isMoment) := goodIn_app (goodIn_of _ (by decide +kernel)) ggX1_correctedNorth_X1_isMoment
set_option maxRecDepth 20000 in
theorem ggX1_correctedNorth_X1_corrected : GoodIn wsX1_correctedNorth wsX1_corrected := goodIn_r _ [14, 15, 16, 17, 5, 18, 19, 20, 21, 22, 23, 7, 24, 25, 26, 27, 28, 29, 30, 31, 32, 33, 34, 35, 36, 37, 38, 39, 40, 41, 42, 43, 44, 45, 46, 47, 48, 49, 50, 51, 52, 53, 54, 55, 56, 57, 58, 59, 60, 61, 62, 63, 64, 65, 66, 67, 68, 69, 70, 71, 72] (by decide +kernel) (by decide +kernel)
set_option maxRecDepth 20000 in
theorem gX1_correctedNorth_X1_corrected : GoodIn wsX1_correctedNorth (wsV RX1 166 RX1 yX1_corrected wsX1_corrected) := goodIn_app (goodIn_of _ (by decide +kernel)) ggX1_correctedNorth_X1_corrected
theorem dX1_correctedNorth_0 : decode cX1_correctedNorth 0 = .ok (.aload_n 0, 1) := by decide +kernel
theorem dX1_correctedNorth_1 : decode cX1_correctedNorth 1 = .ok (.iload_n 1, 1) := by decide +kernel
theorem dX1_correctedNorth_2 : decode cX1_correctedNorth 2 = .ok (.invokevirtual 160, 3) := by decide +kernel
theorem dX1_correctedNorth_5 : decode cX1_correctedNorth 5 = .ok (.ifCond .eq 12, 3) := by decide +kernel
theorem dX1_correctedNorth_8 : decode cX1_correctedNorth 8 = .ok (.aload_n 0, 1) := by decide +kernel
theorem dX1_correctedNorth_9 : decode cX1_correctedNorth 9 = .ok (.iload_n 1, 1) := by decide +kernel
theorem dX1_correctedNorth_10 : decode cX1_correctedNorth 10 = .ok (.iconst 0, 1) := by decide +kernel
theorem dX1_correctedNorth_11 : decode cX1_correctedNorth 11 = .ok (.invokevirtual 166, 3) := by decide +kernel
theorem dX1_correctedNorth_14 : decode cX1_correctedNorth 14 = .ok (.goto 6, 3) := by decide +kernel
theorem dX1_correctedNorth_17 : decode cX1_correctedNorth 17 = .ok (.ldc2_w 129, 3) := by decide +kernel
theorem dX1_correctedNorth_20 : decode cX1_correctedNorth 20 = .ok (.lreturn, 1) := by decide +kernel
set_option maxRecDepth 20000 in
theorem ggX1_correctedEast_X1_isMoment : GoodIn wsX1_correctedEast wsX1_isMoment := goodIn_r _ [6, 7, 8, 9, 5, 10, 56, 57, 58, 59, 60, 61, 62, 63, 64, 65, 66, 67, 68, 69, 70, 71, 72] (by decide +kernel) (by decide +kernel)
set_option maxRecDepth 20000 in
theorem gX1_correctedEast_X1_isMoment : GoodIn wsX1_correctedEast (wsV RX1 160 RX1 yX1_isMoment wsX1_isMoment) := goodIn_app (goodIn_of _ (by decide +kernel)) ggX1_correctedEast_X1_isMoment
set_option maxRecDepth 20000 in
theorem ggX1_correctedEast_X1_corrected : GoodIn wsX1_correctedEast wsX1_corrected := goodIn_r _ [14, 15, 16, 17, 5, 18, 19, 20, 21, 22, 23, 7, 24, 25, 26, 27, 28, 29, 30, 31, 32, 33, 34, 35, 36, 37, 38, 39, 40, 41, 42, 43, 44, 45, 46, 47, 48, 49, 50, 51, 52, 53, 54, 55, 56, 57, 58, 59, 60, 61, 62, 63, 64, 65, 66, 67, 68, 69, 70, 71, 72] (by decide +kernel) (by decide +kernel)
set_option maxRecDepth 20000 in
theorem gX1_correctedEast_X1_corrected : GoodIn wsX1_correctedEast (wsV RX1 166 RX1 yX1_corrected wsX1_corrected) := goodIn_app (goodIn_of _ (by decide +kernel)) ggX1_correctedEast_X1_corrected
theorem dX1_correctedEast_0 : decode cX1_correctedEast 0 = .ok (.aload_n 0, 1) := by decide +kernel
theorem dX1_correctedEast_1 : decode cX1_correctedEast 1 = .ok (.iload_n 1, 1) := by decide +kernel
theorem dX1_correctedEast_2 : decode cX1_correctedEast 2 = .ok (.invokevirtual 160, 3) := by decide +kernel
theorem dX1_correctedEast_5 : decode cX1_correctedEast 5 = .ok (.ifCond .eq 12, 3) := by decide +kernel
theorem dX1_correctedEast_8 : decode cX1_correctedEast 8 = .ok (.aload_n 0, 1) := by decide +kernel
theorem dX1_correctedEast_9 : decode cX1_correctedEast 9 = .ok (.iload_n 1, 1) := by decide +kernel
theorem dX1_correctedEast_10 : decode cX1_correctedEast 10 = .ok (.iconst 1, 1) := by decide +kernel
theorem dX1_correctedEast_11 : decode cX1_correctedEast 11 = .ok (.invokevirtual 166, 3) := by decide +kernel
theorem dX1_correctedEast_14 : decode cX1_correctedEast 14 = .ok (.goto 6, 3) := by decide +kernel
theorem dX1_correctedEast_17 : decode cX1_correctedEast 17 = .ok (.ldc2_w 129, 3) := by decide +kernel
theorem dX1_correctedEast_20 : decode cX1_correctedEast 20 = .ok (.lreturn, 1) := by decide +kernel
set_option maxRecDepth 20000 in
theorem ggX1_distanceNow_X1_corrected : GoodIn wsX1_distanceNow wsX1_corrected := goodIn_r _ [7, 8, 9, 10, 6, 11, 12, 13, 14, 15, 16, 17, 18, 19, 20, 21, 22, 23, 24, 25, 26, 27, 28, 29, 30, 31, 32, 33, 34, 35, 36, 37, 38, 39, 40, 41, 42, 43, 44, 45, 46, 47, 48, 49, 50, 51, 52, 53, 54, 55, 56, 57, 58, 59, 60, 61, 62, 63, 64, 65, 66] (by decide +kernel) (by decide +kernel)
set_option maxRecDepth 20000 in
theorem gX1_distanceNow_X1_corrected : GoodIn wsX1_distanceNow (wsV RX1 166 RX1 yX1_corrected wsX1_corrected) := goodIn_app (goodIn_of _ (by decide +kernel)) ggX1_distanceNow_X1_corrected
theorem dX1_distanceNow_0 : decode cX1_distanceNow 0 = .ok (.aload_n 0, 1) := by decide +kernel
theorem dX1_distanceNow_1 : decode cX1_distanceNow 1 = .ok (.iload_n 2, 1) := by decide +kernel
theorem dX1_distanceNow_2 : decode cX1_distanceNow 2 = .ok (.iconst 0, 1) := by decide +kernel
theorem dX1_distanceNow_3 : decode cX1_distanceNow 3 = .ok (.invokevirtual 166, 3) := by decide +kernel
theorem dX1_distanceNow_6 : decode cX1_distanceNow 6 = .ok (.aload_n 0, 1) := by decide +kernel
theorem dX1_distanceNow_7 : decode cX1_distanceNow 7 = .ok (.iload_n 1, 1) := by decide +kernel
theorem dX1_distanceNow_8 : decode cX1_distanceNow 8 = .ok (.iconst 0, 1) := by decide +kernel
theorem dX1_distanceNow_9 : decode cX1_distanceNow 9 = .ok (.invokevirtual 166, 3) := by decide +kernel
theorem dX1_distanceNow_12 : decode cX1_distanceNow 12 = .ok (.lsub, 1) := by decide +kernel
theorem dX1_distanceNow_13 : decode cX1_distanceNow 13 = .ok (.lstore_n 3, 1) := by decide +kernel
theorem dX1_distanceNow_14 : decode cX1_distanceNow 14 = .ok (.aload_n 0, 1) := by decide +kernel
theorem dX1_distanceNow_15 : decode cX1_distanceNow 15 = .ok (.iload_n 2, 1) := by decide +kernel
theorem dX1_distanceNow_16 : decode cX1_distanceNow 16 = .ok (.iconst 1, 1) := by decide +kernel
theorem dX1_distanceNow_17 : decode cX1_distanceNow 17 = .ok (.invokevirtual 166, 3) := by decide +kernel
theorem dX1_distanceNow_20 : decode cX1_distanceNow 20 = .ok (.aload_n 0, 1) := by decide +kernel
theorem dX1_distanceNow_21 : decode cX1_distanceNow 21 = .ok (.iload_n 1, 1) := by decide +kernel
theorem dX1_distanceNow_22 : decode cX1_distanceNow 22 = .ok (.iconst 1, 1) := by decide +kernel
theorem dX1_distanceNow_23 : decode cX1_distanceNow 23 = .ok (.invokevirtual 166, 3) := by decide +kernel
theorem dX1_distanceNow_26 : decode cX1_distanceNow 26 = .ok (.lsub, 1) := by decide +kernel
theorem dX1_distanceNow_27 : decode cX1_distanceNow 27 = .ok (.lstore 5, 2) := by decide +kernel
theorem dX1_distanceNow_29 : decode cX1_distanceNow 29 = .ok (.lload_n 3, 1) := by decide +kernel
theorem dX1_distanceNow_30 : decode cX1_distanceNow 30 = .ok (.lload_n 3, 1) := by decide +kernel
theorem dX1_distanceNow_31 : decode cX1_distanceNow 31 = .ok (.lmul, 1) := by decide +kernel
theorem dX1_distanceNow_32 : decode cX1_distanceNow 32 = .ok (.lload 5, 2) := by decide +kernel
theorem dX1_distanceNow_34 : decode cX1_distanceNow 34 = .ok (.lload 5, 2) := by decide +kernel
theorem dX1_distanceNow_36 : decode cX1_distanceNow 36 = .ok (.lmul, 1) := by decide +kernel
theorem dX1_distanceNow_37 : decode cX1_distanceNow 37 = .ok (.ladd, 1) := by decide +kernel
theorem dX1_distanceNow_38 : decode cX1_distanceNow 38 = .ok (.lstore 7, 2) := by decide +kernel
theorem dX1_distanceNow_40 : decode cX1_distanceNow 40 = .ok (.lconst 0, 1) := by decide +kernel
theorem dX1_distanceNow_41 : decode cX1_distanceNow 41 = .ok (.lstore 9, 2) := by decide +kernel
theorem dX1_distanceNow_43 : decode cX1_distanceNow 43 = .ok (.ldc2_w 169, 3) := by decide +kernel
theorem dX1_distanceNow_46 : decode cX1_distanceNow 46 = .ok (.lstore 11, 2) := by decide +kernel
theorem dX1_distanceNow_48 : decode cX1_distanceNow 48 = .ok (.lload 9, 2) := by decide +kernel
theorem dX1_distanceNow_50 : decode cX1_distanceNow 50 = .ok (.lload 11, 2) := by decide +kernel
theorem dX1_distanceNow_52 : decode cX1_distanceNow 52 = .ok (.lcmp, 1) := by decide +kernel
theorem dX1_distanceNow_53 : decode cX1_distanceNow 53 = .ok (.ifCond .ge 43, 3) := by decide +kernel
theorem dX1_distanceNow_56 : decode cX1_distanceNow 56 = .ok (.lload 9, 2) := by decide +kernel
theorem dX1_distanceNow_58 : decode cX1_distanceNow 58 = .ok (.lload 11, 2) := by decide +kernel
theorem dX1_distanceNow_60 : decode cX1_distanceNow 60 = .ok (.ladd, 1) := by decide +kernel
theorem dX1_distanceNow_61 : decode cX1_distanceNow 61 = .ok (.lconst 1, 1) := by decide +kernel
theorem dX1_distanceNow_62 : decode cX1_distanceNow 62 = .ok (.ladd, 1) := by decide +kernel
theorem dX1_distanceNow_63 : decode cX1_distanceNow 63 = .ok (.ldc2_w 171, 3) := by decide +kernel
theorem dX1_distanceNow_66 : decode cX1_distanceNow 66 = .ok (.ldiv, 1) := by decide +kernel
theorem dX1_distanceNow_67 : decode cX1_distanceNow 67 = .ok (.lstore 13, 2) := by decide +kernel
theorem dX1_distanceNow_69 : decode cX1_distanceNow 69 = .ok (.lload 13, 2) := by decide +kernel
theorem dX1_distanceNow_71 : decode cX1_distanceNow 71 = .ok (.lload 13, 2) := by decide +kernel
theorem dX1_distanceNow_73 : decode cX1_distanceNow 73 = .ok (.lmul, 1) := by decide +kernel
theorem dX1_distanceNow_74 : decode cX1_distanceNow 74 = .ok (.lload 7, 2) := by decide +kernel
theorem dX1_distanceNow_76 : decode cX1_distanceNow 76 = .ok (.lcmp, 1) := by decide +kernel
theorem dX1_distanceNow_77 : decode cX1_distanceNow 77 = .ok (.ifCond .gt 10, 3) := by decide +kernel
theorem dX1_distanceNow_80 : decode cX1_distanceNow 80 = .ok (.lload 13, 2) := by decide +kernel
theorem dX1_distanceNow_82 : decode cX1_distanceNow 82 = .ok (.lstore 9, 2) := by decide +kernel
theorem dX1_distanceNow_84 : decode cX1_distanceNow 84 = .ok (.goto 9, 3) := by decide +kernel
theorem dX1_distanceNow_87 : decode cX1_distanceNow 87 = .ok (.lload 13, 2) := by decide +kernel
theorem dX1_distanceNow_89 : decode cX1_distanceNow 89 = .ok (.lconst 1, 1) := by decide +kernel
theorem dX1_distanceNow_90 : decode cX1_distanceNow 90 = .ok (.lsub, 1) := by decide +kernel
theorem dX1_distanceNow_91 : decode cX1_distanceNow 91 = .ok (.lstore 11, 2) := by decide +kernel
theorem dX1_distanceNow_93 : decode cX1_distanceNow 93 = .ok (.goto (-45), 3) := by decide +kernel
theorem dX1_distanceNow_96 : decode cX1_distanceNow 96 = .ok (.lload 9, 2) := by decide +kernel
theorem dX1_distanceNow_98 : decode cX1_distanceNow 98 = .ok (.lreturn, 1) := by decide +kernel
set_option maxRecDepth 20000 in
theorem ggX1_distance_X1_isMoment : GoodIn wsX1_distance wsX1_isMoment := goodIn_r _ [6, 7, 8, 9, 5, 10, 62, 63, 64, 65, 66, 67, 68, 69, 70, 71, 72, 73, 74, 75, 76, 77, 78] (by decide +kernel) (by decide +kernel)
set_option maxRecDepth 20000 in
theorem gX1_distance_X1_isMoment : GoodIn wsX1_distance (wsV RX1 160 RX1 yX1_isMoment wsX1_isMoment) := goodIn_app (goodIn_of _ (by decide +kernel)) ggX1_distance_X1_isMoment
set_option maxRecDepth 20000 in
theorem ggX1_distance_X1_distanceNow : GoodIn wsX1_distance wsX1_distanceNow := goodIn_r _ [14, 15, 16, 17, 18, 19, 5, 20, 21, 22, 23, 24, 25, 26, 27, 28, 29, 7, 30, 31, 32, 33, 34, 35, 36, 37, 38, 39, 40, 41, 42, 43, 44, 45, 46, 47, 48, 49, 50, 51, 52, 53, 54, 55, 56, 57, 58, 59, 60, 61, 62, 63, 64, 65, 66, 67, 68, 69, 70, 71, 72, 73, 74, 75, 76, 77, 78] (by decide +kernel) (by decide +kernel)
set_option maxRecDepth 20000 in
theorem gX1_distance_X1_distanceNow : GoodIn wsX1_distance (wsV RX1 173 RX1 yX1_distanceNow wsX1_distanceNow) := goodIn_app (goodIn_of _ (by decide +kernel)) ggX1_distance_X1_distanceNow
theorem dX1_distance_0 : decode cX1_distance 0 = .ok (.aload_n 0, 1) := by decide +kernel
theorem dX1_distance_1 : decode cX1_distance 1 = .ok (.iload_n 1, 1) := by decide +kernel
theorem dX1_distance_2 : decode cX1_distance 2 = .ok (.invokevirtual 160, 3) := by decide +kernel
theorem dX1_distance_5 : decode cX1_distance 5 = .ok (.ifCond .eq 20, 3) := by decide +kernel
theorem dX1_distance_8 : decode cX1_distance 8 = .ok (.aload_n 0, 1) := by decide +kernel
theorem dX1_distance_9 : decode cX1_distance 9 = .ok (.iload_n 2, 1) := by decide +kernel
theorem dX1_distance_10 : decode cX1_distance 10 = .ok (.invokevirtual 160, 3) := by decide +kernel
theorem dX1_distance_13 : decode cX1_distance 13 = .ok (.ifCond .eq 12, 3) := by decide +kernel
theorem dX1_distance_16 : decode cX1_distance 16 = .ok (.aload_n 0, 1) := by decide +kernel
theorem dX1_distance_17 : decode cX1_distance 17 = .ok (.iload_n 1, 1) := by decide +kernel
theorem dX1_distance_18 : decode cX1_distance 18 = .ok (.iload_n 2, 1) := by decide +kernel
theorem dX1_distance_19 : decode cX1_distance 19 = .ok (.invokevirtual 173, 3) := by decide +kernel
theorem dX1_distance_22 : decode cX1_distance 22 = .ok (.goto 6, 3) := by decide +kernel
theorem dX1_distance_25 : decode cX1_distance 25 = .ok (.ldc2_w 129, 3) := by decide +kernel
theorem dX1_distance_28 : decode cX1_distance 28 = .ok (.lreturn, 1) := by decide +kernel
set_option maxRecDepth 20000 in
theorem ggX1_bearingNow_X1_corrected : GoodIn wsX1_bearingNow wsX1_corrected := goodIn_r _ [6, 7, 8, 9, 5, 10, 11, 12, 13, 14, 15, 16, 17, 18, 19, 20, 21, 22, 23, 24, 25, 26, 27, 28, 29, 30, 31, 32, 33, 34, 35, 36, 37, 38, 39, 40, 41, 42, 43, 44, 45, 46, 47, 48, 49, 50, 51, 52, 53, 54, 55, 56, 57, 58, 59, 60, 61, 62, 63, 64, 65] (by decide +kernel) (by decide +kernel)
set_option maxRecDepth 20000 in
theorem gX1_bearingNow_X1_corrected : GoodIn wsX1_bearingNow (wsV RX1 166 RX1 yX1_corrected wsX1_corrected) := goodIn_app (goodIn_of _ (by decide +kernel)) ggX1_bearingNow_X1_corrected
set_option maxRecDepth 20000 in
theorem ggX1_bearingNow_X1_cosine : GoodIn wsX1_bearingNow wsX1_cosine := goodIn_r _ [39, 40, 41, 5, 42, 43, 44, 45] (by decide +kernel) (by decide +kernel)
set_option maxRecDepth 20000 in
theorem gX1_bearingNow_X1_cosine : GoodIn wsX1_bearingNow (va_wsS RX1 136 yX1_cosine wsX1_cosine) := goodIn_app (goodIn_of _ (by decide +kernel)) ggX1_bearingNow_X1_cosine
set_option maxRecDepth 20000 in
theorem ggX1_bearingNow_X1_sine : GoodIn wsX1_bearingNow wsX1_sine := goodIn_r _ [42, 43, 44, 5, 45] (by decide +kernel) (by decide +kernel)
set_option maxRecDepth 20000 in
theorem gX1_bearingNow_X1_sine : GoodIn wsX1_bearingNow (va_wsS RX1 44 yX1_sine wsX1_sine) := goodIn_app (goodIn_of _ (by decide +kernel)) ggX1_bearingNow_X1_sine
theorem dX1_bearingNow_0 : decode cX1_bearingNow 0 = .ok (.aload_n 0, 1) := by decide +kernel
theorem dX1_bearingNow_1 : decode cX1_bearingNow 1 = .ok (.iload_n 2, 1) := by decide +kernel
theorem dX1_bearingNow_2 : decode cX1_bearingNow 2 = .ok (.iconst 0, 1) := by decide +kernel
theorem dX1_bearingNow_3 : decode cX1_bearingNow 3 = .ok (.invokevirtual 166, 3) := by decide +kernel
theorem dX1_bearingNow_6 : decode cX1_bearingNow 6 = .ok (.aload_n 0, 1) := by decide +kernel
theorem dX1_bearingNow_7 : decode cX1_bearingNow 7 = .ok (.iload_n 1, 1) := by decide +kernel
theorem dX1_bearingNow_8 : decode cX1_bearingNow 8 = .ok (.iconst 0, 1) := by decide +kernel
theorem dX1_bearingNow_9 : decode cX1_bearingNow 9 = .ok (.invokevirtual 166, 3) := by decide +kernel
theorem dX1_bearingNow_12 : decode cX1_bearingNow 12 = .ok (.lsub, 1) := by decide +kernel
theorem dX1_bearingNow_13 : decode cX1_bearingNow 13 = .ok (.lstore_n 3, 1) := by decide +kernel
theorem dX1_bearingNow_14 : decode cX1_bearingNow 14 = .ok (.aload_n 0, 1) := by decide +kernel
theorem dX1_bearingNow_15 : decode cX1_bearingNow 15 = .ok (.iload_n 2, 1) := by decide +kernel
theorem dX1_bearingNow_16 : decode cX1_bearingNow 16 = .ok (.iconst 1, 1) := by decide +kernel
theorem dX1_bearingNow_17 : decode cX1_bearingNow 17 = .ok (.invokevirtual 166, 3) := by decide +kernel
theorem dX1_bearingNow_20 : decode cX1_bearingNow 20 = .ok (.aload_n 0, 1) := by decide +kernel
theorem dX1_bearingNow_21 : decode cX1_bearingNow 21 = .ok (.iload_n 1, 1) := by decide +kernel
theorem dX1_bearingNow_22 : decode cX1_bearingNow 22 = .ok (.iconst 1, 1) := by decide +kernel
theorem dX1_bearingNow_23 : decode cX1_bearingNow 23 = .ok (.invokevirtual 166, 3) := by decide +kernel
theorem dX1_bearingNow_26 : decode cX1_bearingNow 26 = .ok (.lsub, 1) := by decide +kernel
theorem dX1_bearingNow_27 : decode cX1_bearingNow 27 = .ok (.lstore 5, 2) := by decide +kernel
theorem dX1_bearingNow_29 : decode cX1_bearingNow 29 = .ok (.lload_n 3, 1) := by decide +kernel
theorem dX1_bearingNow_30 : decode cX1_bearingNow 30 = .ok (.lconst 0, 1) := by decide +kernel
theorem dX1_bearingNow_31 : decode cX1_bearingNow 31 = .ok (.lcmp, 1) := by decide +kernel
theorem dX1_bearingNow_32 : decode cX1_bearingNow 32 = .ok (.ifCond .ne 14, 3) := by decide +kernel
theorem dX1_bearingNow_35 : decode cX1_bearingNow 35 = .ok (.lload 5, 2) := by decide +kernel
theorem dX1_bearingNow_37 : decode cX1_bearingNow 37 = .ok (.lconst 0, 1) := by decide +kernel
theorem dX1_bearingNow_38 : decode cX1_bearingNow 38 = .ok (.lcmp, 1) := by decide +kernel
theorem dX1_bearingNow_39 : decode cX1_bearingNow 39 = .ok (.ifCond .ne 7, 3) := by decide +kernel
theorem dX1_bearingNow_42 : decode cX1_bearingNow 42 = .ok (.ldc2_w 108, 3) := by decide +kernel
theorem dX1_bearingNow_45 : decode cX1_bearingNow 45 = .ok (.lreturn, 1) := by decide +kernel
theorem dX1_bearingNow_46 : decode cX1_bearingNow 46 = .ok (.iconst 0, 1) := by decide +kernel
theorem dX1_bearingNow_47 : decode cX1_bearingNow 47 = .ok (.istore 7, 2) := by decide +kernel
theorem dX1_bearingNow_49 : decode cX1_bearingNow 49 = .ok (.iconst 1, 1) := by decide +kernel
theorem dX1_bearingNow_50 : decode cX1_bearingNow 50 = .ok (.istore 8, 2) := by decide +kernel
theorem dX1_bearingNow_52 : decode cX1_bearingNow 52 = .ok (.iload 8, 2) := by decide +kernel
theorem dX1_bearingNow_54 : decode cX1_bearingNow 54 = .ok (.bipush 32, 2) := by decide +kernel
theorem dX1_bearingNow_56 : decode cX1_bearingNow 56 = .ok (.if_icmp .ge 58, 3) := by decide +kernel
theorem dX1_bearingNow_59 : decode cX1_bearingNow 59 = .ok (.lload_n 3, 1) := by decide +kernel
theorem dX1_bearingNow_60 : decode cX1_bearingNow 60 = .ok (.iload 8, 2) := by decide +kernel
theorem dX1_bearingNow_62 : decode cX1_bearingNow 62 = .ok (.invokestatic 136, 3) := by decide +kernel
theorem dX1_bearingNow_65 : decode cX1_bearingNow 65 = .ok (.i2l, 1) := by decide +kernel
theorem dX1_bearingNow_66 : decode cX1_bearingNow 66 = .ok (.lmul, 1) := by decide +kernel
theorem dX1_bearingNow_67 : decode cX1_bearingNow 67 = .ok (.lload 5, 2) := by decide +kernel
theorem dX1_bearingNow_69 : decode cX1_bearingNow 69 = .ok (.iload 8, 2) := by decide +kernel
theorem dX1_bearingNow_71 : decode cX1_bearingNow 71 = .ok (.invokestatic 44, 3) := by decide +kernel
theorem dX1_bearingNow_74 : decode cX1_bearingNow 74 = .ok (.i2l, 1) := by decide +kernel
theorem dX1_bearingNow_75 : decode cX1_bearingNow 75 = .ok (.lmul, 1) := by decide +kernel
theorem dX1_bearingNow_76 : decode cX1_bearingNow 76 = .ok (.ladd, 1) := by decide +kernel
theorem dX1_bearingNow_77 : decode cX1_bearingNow 77 = .ok (.lload_n 3, 1) := by decide +kernel
theorem dX1_bearingNow_78 : decode cX1_bearingNow 78 = .ok (.iload 7, 2) := by decide +kernel
theorem dX1_bearingNow_80 : decode cX1_bearingNow 80 = .ok (.invokestatic 136, 3) := by decide +kernel
theorem dX1_bearingNow_83 : decode cX1_bearingNow 83 = .ok (.i2l, 1) := by decide +kernel
theorem dX1_bearingNow_84 : decode cX1_bearingNow 84 = .ok (.lmul, 1) := by decide +kernel
theorem dX1_bearingNow_85 : decode cX1_bearingNow 85 = .ok (.lload 5, 2) := by decide +kernel
theorem dX1_bearingNow_87 : decode cX1_bearingNow 87 = .ok (.iload 7, 2) := by decide +kernel
theorem dX1_bearingNow_89 : decode cX1_bearingNow 89 = .ok (.invokestatic 44, 3) := by decide +kernel
theorem dX1_bearingNow_92 : decode cX1_bearingNow 92 = .ok (.i2l, 1) := by decide +kernel
theorem dX1_bearingNow_93 : decode cX1_bearingNow 93 = .ok (.lmul, 1) := by decide +kernel
theorem dX1_bearingNow_94 : decode cX1_bearingNow 94 = .ok (.ladd, 1) := by decide +kernel
theorem dX1_bearingNow_95 : decode cX1_bearingNow 95 = .ok (.lcmp, 1) := by decide +kernel
theorem dX1_bearingNow_96 : decode cX1_bearingNow 96 = .ok (.ifCond .le 8, 3) := by decide +kernel
theorem dX1_bearingNow_99 : decode cX1_bearingNow 99 = .ok (.iload 8, 2) := by decide +kernel
theorem dX1_bearingNow_101 : decode cX1_bearingNow 101 = .ok (.goto 5, 3) := by decide +kernel
theorem dX1_bearingNow_104 : decode cX1_bearingNow 104 = .ok (.iload 7, 2) := by decide +kernel
theorem dX1_bearingNow_106 : decode cX1_bearingNow 106 = .ok (.istore 7, 2) := by decide +kernel
theorem dX1_bearingNow_108 : decode cX1_bearingNow 108 = .ok (.iinc 8 1, 3) := by decide +kernel
theorem dX1_bearingNow_111 : decode cX1_bearingNow 111 = .ok (.goto (-59), 3) := by decide +kernel
theorem dX1_bearingNow_114 : decode cX1_bearingNow 114 = .ok (.iload 7, 2) := by decide +kernel
theorem dX1_bearingNow_116 : decode cX1_bearingNow 116 = .ok (.i2l, 1) := by decide +kernel
theorem dX1_bearingNow_117 : decode cX1_bearingNow 117 = .ok (.lreturn, 1) := by decide +kernel
set_option maxRecDepth 20000 in
theorem ggX1_bearing_X1_isMoment : GoodIn wsX1_bearing wsX1_isMoment := goodIn_r _ [6, 7, 8, 9, 5, 10, 61, 62, 63, 64, 65, 66, 67, 68, 69, 70, 71, 72, 73, 74, 75, 76, 77] (by decide +kernel) (by decide +kernel)
set_option maxRecDepth 20000 in
theorem gX1_bearing_X1_isMoment : GoodIn wsX1_bearing (wsV RX1 160 RX1 yX1_isMoment wsX1_isMoment) := goodIn_app (goodIn_of _ (by decide +kernel)) ggX1_bearing_X1_isMoment
set_option maxRecDepth 20000 in
theorem ggX1_bearing_X1_bearingNow : GoodIn wsX1_bearing wsX1_bearingNow := goodIn_r _ [14, 15, 16, 17, 18, 5, 19, 20, 21, 22, 23, 24, 25, 26, 27, 28, 7, 29, 30, 31, 32, 33, 34, 35, 36, 37, 38, 39, 40, 41, 42, 43, 44, 45, 46, 47, 48, 49, 50, 51, 52, 53, 54, 55, 56, 57, 58, 59, 60, 61, 62, 63, 64, 65, 66, 67, 68, 69, 70, 71, 72, 73, 74, 75, 76, 77] (by decide +kernel) (by decide +kernel)
set_option maxRecDepth 20000 in
theorem gX1_bearing_X1_bearingNow : GoodIn wsX1_bearing (wsV RX1 176 RX1 yX1_bearingNow wsX1_bearingNow) := goodIn_app (goodIn_of _ (by decide +kernel)) ggX1_bearing_X1_bearingNow
theorem dX1_bearing_0 : decode cX1_bearing 0 = .ok (.aload_n 0, 1) := by decide +kernel
theorem dX1_bearing_1 : decode cX1_bearing 1 = .ok (.iload_n 1, 1) := by decide +kernel
theorem dX1_bearing_2 : decode cX1_bearing 2 = .ok (.invokevirtual 160, 3) := by decide +kernel
theorem dX1_bearing_5 : decode cX1_bearing 5 = .ok (.ifCond .eq 20, 3) := by decide +kernel
theorem dX1_bearing_8 : decode cX1_bearing 8 = .ok (.aload_n 0, 1) := by decide +kernel
theorem dX1_bearing_9 : decode cX1_bearing 9 = .ok (.iload_n 2, 1) := by decide +kernel
theorem dX1_bearing_10 : decode cX1_bearing 10 = .ok (.invokevirtual 160, 3) := by decide +kernel
theorem dX1_bearing_13 : decode cX1_bearing 13 = .ok (.ifCond .eq 12, 3) := by decide +kernel
theorem dX1_bearing_16 : decode cX1_bearing 16 = .ok (.aload_n 0, 1) := by decide +kernel
theorem dX1_bearing_17 : decode cX1_bearing 17 = .ok (.iload_n 1, 1) := by decide +kernel
theorem dX1_bearing_18 : decode cX1_bearing 18 = .ok (.iload_n 2, 1) := by decide +kernel
theorem dX1_bearing_19 : decode cX1_bearing 19 = .ok (.invokevirtual 176, 3) := by decide +kernel
theorem dX1_bearing_22 : decode cX1_bearing 22 = .ok (.goto 6, 3) := by decide +kernel
theorem dX1_bearing_25 : decode cX1_bearing 25 = .ok (.ldc2_w 129, 3) := by decide +kernel
theorem dX1_bearing_28 : decode cX1_bearing 28 = .ok (.lreturn, 1) := by decide +kernel
theorem dX1_isOtherLost_0 : decode cX1_isOtherLost 0 = .ok (.iconst 0, 1) := by decide +kernel
theorem dX1_isOtherLost_1 : decode cX1_isOtherLost 1 = .ok (.istore 4, 2) := by decide +kernel
theorem dX1_isOtherLost_3 : decode cX1_isOtherLost 3 = .ok (.iload_n 2, 1) := by decide +kernel
theorem dX1_isOtherLost_4 : decode cX1_isOtherLost 4 = .ok (.istore 5, 2) := by decide +kernel
theorem dX1_isOtherLost_6 : decode cX1_isOtherLost 6 = .ok (.iload 5, 2) := by decide +kernel
theorem dX1_isOtherLost_8 : decode cX1_isOtherLost 8 = .ok (.iload_n 3, 1) := by decide +kernel
theorem dX1_isOtherLost_9 : decode cX1_isOtherLost 9 = .ok (.if_icmp .ge 37, 3) := by decide +kernel
theorem dX1_isOtherLost_12 : decode cX1_isOtherLost 12 = .ok (.iload 4, 2) := by decide +kernel
theorem dX1_isOtherLost_14 : decode cX1_isOtherLost 14 = .ok (.ifCond .ne 19, 3) := by decide +kernel
theorem dX1_isOtherLost_17 : decode cX1_isOtherLost 17 = .ok (.iload 5, 2) := by decide +kernel
theorem dX1_isOtherLost_19 : decode cX1_isOtherLost 19 = .ok (.iload_n 1, 1) := by decide +kernel
theorem dX1_isOtherLost_20 : decode cX1_isOtherLost 20 = .ok (.if_icmp .eq 17, 3) := by decide +kernel
theorem dX1_isOtherLost_23 : decode cX1_isOtherLost 23 = .ok (.aload_n 0, 1) := by decide +kernel
theorem dX1_isOtherLost_24 : decode cX1_isOtherLost 24 = .ok (.getfield 22, 3) := by decide +kernel
theorem dX1_isOtherLost_27 : decode cX1_isOtherLost 27 = .ok (.iload 5, 2) := by decide +kernel
theorem dX1_isOtherLost_29 : decode cX1_isOtherLost 29 = .ok (.baload, 1) := by decide +kernel
theorem dX1_isOtherLost_30 : decode cX1_isOtherLost 30 = .ok (.ifCond .eq 7, 3) := by decide +kernel
theorem dX1_isOtherLost_33 : decode cX1_isOtherLost 33 = .ok (.iconst 1, 1) := by decide +kernel
theorem dX1_isOtherLost_34 : decode cX1_isOtherLost 34 = .ok (.goto 4, 3) := by decide +kernel
theorem dX1_isOtherLost_37 : decode cX1_isOtherLost 37 = .ok (.iconst 0, 1) := by decide +kernel
theorem dX1_isOtherLost_38 : decode cX1_isOtherLost 38 = .ok (.istore 4, 2) := by decide +kernel
theorem dX1_isOtherLost_40 : decode cX1_isOtherLost 40 = .ok (.iinc 5 1, 3) := by decide +kernel
theorem dX1_isOtherLost_43 : decode cX1_isOtherLost 43 = .ok (.goto (-37), 3) := by decide +kernel
theorem dX1_isOtherLost_46 : decode cX1_isOtherLost 46 = .ok (.iload 4, 2) := by decide +kernel
theorem dX1_isOtherLost_48 : decode cX1_isOtherLost 48 = .ok (.ireturn, 1) := by decide +kernel
set_option maxRecDepth 20000 in
theorem ggX1_search_X1_fixed : GoodIn wsX1_search wsX1_fixed := goodIn_r _ [8, 9, 10, 33, 34, 35, 36, 37, 38, 39, 40, 41, 42, 43, 44, 45, 46, 47, 48, 49] (by decide +kernel) (by decide +kernel)
set_option maxRecDepth 20000 in
theorem gX1_search_X1_fixed : GoodIn wsX1_search (wsV RX1 139 RX1 yX1_fixed wsX1_fixed) := goodIn_app (goodIn_of _ (by decide +kernel)) ggX1_search_X1_fixed
set_option maxRecDepth 20000 in
theorem ggX1_search_X1_gone : GoodIn wsX1_search wsX1_gone := goodIn_r _ [14, 4, 5, 6, 7, 8, 9, 10, 15, 16, 17, 18, 19, 2, 20, 21, 22, 23, 24, 25, 26, 27, 28, 29, 30, 31, 32, 33, 34, 35, 36, 37, 38, 39, 40, 41, 42, 43, 44, 45, 46, 47, 48, 49] (by decide +kernel) (by decide +kernel)
set_option maxRecDepth 20000 in
theorem gX1_search_X1_gone : GoodIn wsX1_search (wsV RX1 149 RX1 yX1_gone wsX1_gone) := goodIn_app (goodIn_of _ (by decide +kernel)) ggX1_search_X1_gone
set_option maxRecDepth 20000 in
theorem ggX1_search_X1_cosine : GoodIn wsX1_search wsX1_cosine := goodIn_r _ [26, 27, 28, 7, 29, 30, 31, 32] (by decide +kernel) (by decide +kernel)
set_option maxRecDepth 20000 in
theorem gX1_search_X1_cosine : GoodIn wsX1_search (va_wsS RX1 136 yX1_cosine wsX1_cosine) := goodIn_app (goodIn_of _ (by decide +kernel)) ggX1_search_X1_cosine
set_option maxRecDepth 20000 in
theorem ggX1_search_X1_sine : GoodIn wsX1_search wsX1_sine := goodIn_r _ [29, 30, 31, 7, 32] (by decide +kernel) (by decide +kernel)
set_option maxRecDepth 20000 in
theorem gX1_search_X1_sine : GoodIn wsX1_search (va_wsS RX1 44 yX1_sine wsX1_sine) := goodIn_app (goodIn_of _ (by decide +kernel)) ggX1_search_X1_sine
theorem dX1_search_0 : decode cX1_search 0 = .ok (.aload_n 0, 1) := by decide +kernel
theorem dX1_search_1 : decode cX1_search 1 = .ok (.iload_n 3, 1) := by decide +kernel
theorem dX1_search_2 : decode cX1_search 2 = .ok (.iconst 0, 1) := by decide +kernel
theorem dX1_search_3 : decode cX1_search 3 = .ok (.invokevirtual 139, 3) := by decide +kernel
theorem dX1_search_6 : decode cX1_search 6 = .ok (.aload_n 0, 1) := by decide +kernel
theorem dX1_search_7 : decode cX1_search 7 = .ok (.iload_n 2, 1) := by decide +kernel
theorem dX1_search_8 : decode cX1_search 8 = .ok (.iload_n 3, 1) := by decide +kernel
theorem dX1_search_9 : decode cX1_search 9 = .ok (.iconst 0, 1) := by decide +kernel
theorem dX1_search_10 : decode cX1_search 10 = .ok (.invokevirtual 149, 3) := by decide +kernel
theorem dX1_search_13 : decode cX1_search 13 = .ok (.lsub, 1) := by decide +kernel
theorem dX1_search_14 : decode cX1_search 14 = .ok (.lstore 4, 2) := by decide +kernel
theorem dX1_search_16 : decode cX1_search 16 = .ok (.aload_n 0, 1) := by decide +kernel
theorem dX1_search_17 : decode cX1_search 17 = .ok (.iload_n 3, 1) := by decide +kernel
theorem dX1_search_18 : decode cX1_search 18 = .ok (.iconst 1, 1) := by decide +kernel
theorem dX1_search_19 : decode cX1_search 19 = .ok (.invokevirtual 139, 3) := by decide +kernel
theorem dX1_search_22 : decode cX1_search 22 = .ok (.aload_n 0, 1) := by decide +kernel
theorem dX1_search_23 : decode cX1_search 23 = .ok (.iload_n 2, 1) := by decide +kernel
theorem dX1_search_24 : decode cX1_search 24 = .ok (.iload_n 3, 1) := by decide +kernel
theorem dX1_search_25 : decode cX1_search 25 = .ok (.iconst 1, 1) := by decide +kernel
theorem dX1_search_26 : decode cX1_search 26 = .ok (.invokevirtual 149, 3) := by decide +kernel
theorem dX1_search_29 : decode cX1_search 29 = .ok (.lsub, 1) := by decide +kernel
theorem dX1_search_30 : decode cX1_search 30 = .ok (.lstore 6, 2) := by decide +kernel
theorem dX1_search_32 : decode cX1_search 32 = .ok (.ldc2_w 179, 3) := by decide +kernel
theorem dX1_search_35 : decode cX1_search 35 = .ok (.lstore 8, 2) := by decide +kernel
theorem dX1_search_37 : decode cX1_search 37 = .ok (.lconst 0, 1) := by decide +kernel
theorem dX1_search_38 : decode cX1_search 38 = .ok (.lstore 10, 2) := by decide +kernel
theorem dX1_search_40 : decode cX1_search 40 = .ok (.iconst 0, 1) := by decide +kernel
theorem dX1_search_41 : decode cX1_search 41 = .ok (.istore 12, 2) := by decide +kernel
theorem dX1_search_43 : decode cX1_search 43 = .ok (.iload 12, 2) := by decide +kernel
theorem dX1_search_45 : decode cX1_search 45 = .ok (.sipush 200, 3) := by decide +kernel
theorem dX1_search_48 : decode cX1_search 48 = .ok (.if_icmp .gt 117, 3) := by decide +kernel
theorem dX1_search_51 : decode cX1_search 51 = .ok (.iconst 0, 1) := by decide +kernel
theorem dX1_search_52 : decode cX1_search 52 = .ok (.istore 13, 2) := by decide +kernel
theorem dX1_search_54 : decode cX1_search 54 = .ok (.iload 13, 2) := by decide +kernel
theorem dX1_search_56 : decode cX1_search 56 = .ok (.bipush 32, 2) := by decide +kernel
theorem dX1_search_58 : decode cX1_search 58 = .ok (.if_icmp .ge 101, 3) := by decide +kernel
theorem dX1_search_61 : decode cX1_search 61 = .ok (.iload 13, 2) := by decide +kernel
theorem dX1_search_63 : decode cX1_search 63 = .ok (.aload_n 0, 1) := by decide +kernel
theorem dX1_search_64 : decode cX1_search 64 = .ok (.getfield 19, 3) := by decide +kernel
theorem dX1_search_67 : decode cX1_search 67 = .ok (.iload_n 1, 1) := by decide +kernel
theorem dX1_search_68 : decode cX1_search 68 = .ok (.iaload, 1) := by decide +kernel
theorem dX1_search_69 : decode cX1_search 69 = .ok (.iadd, 1) := by decide +kernel
theorem dX1_search_70 : decode cX1_search 70 = .ok (.bipush 32, 2) := by decide +kernel
theorem dX1_search_72 : decode cX1_search 72 = .ok (.iadd, 1) := by decide +kernel
theorem dX1_search_73 : decode cX1_search 73 = .ok (.bipush 32, 2) := by decide +kernel
theorem dX1_search_75 : decode cX1_search 75 = .ok (.irem, 1) := by decide +kernel
theorem dX1_search_76 : decode cX1_search 76 = .ok (.istore 14, 2) := by decide +kernel
theorem dX1_search_78 : decode cX1_search 78 = .ok (.lload 4, 2) := by decide +kernel
theorem dX1_search_80 : decode cX1_search 80 = .ok (.iload 12, 2) := by decide +kernel
theorem dX1_search_82 : decode cX1_search 82 = .ok (.i2l, 1) := by decide +kernel
theorem dX1_search_83 : decode cX1_search 83 = .ok (.iload 14, 2) := by decide +kernel
theorem dX1_search_85 : decode cX1_search 85 = .ok (.invokestatic 136, 3) := by decide +kernel
theorem dX1_search_88 : decode cX1_search 88 = .ok (.i2l, 1) := by decide +kernel
theorem dX1_search_89 : decode cX1_search 89 = .ok (.lmul, 1) := by decide +kernel
theorem dX1_search_90 : decode cX1_search 90 = .ok (.lsub, 1) := by decide +kernel
theorem dX1_search_91 : decode cX1_search 91 = .ok (.lstore 15, 2) := by decide +kernel
theorem dX1_search_93 : decode cX1_search 93 = .ok (.lload 6, 2) := by decide +kernel
theorem dX1_search_95 : decode cX1_search 95 = .ok (.iload 12, 2) := by decide +kernel
theorem dX1_search_97 : decode cX1_search 97 = .ok (.i2l, 1) := by decide +kernel
theorem dX1_search_98 : decode cX1_search 98 = .ok (.iload 14, 2) := by decide +kernel
theorem dX1_search_100 : decode cX1_search 100 = .ok (.invokestatic 44, 3) := by decide +kernel
theorem dX1_search_103 : decode cX1_search 103 = .ok (.i2l, 1) := by decide +kernel
theorem dX1_search_104 : decode cX1_search 104 = .ok (.lmul, 1) := by decide +kernel
theorem dX1_search_105 : decode cX1_search 105 = .ok (.lsub, 1) := by decide +kernel
theorem dX1_search_106 : decode cX1_search 106 = .ok (.lstore 17, 2) := by decide +kernel
theorem dX1_search_108 : decode cX1_search 108 = .ok (.lload 15, 2) := by decide +kernel
theorem dX1_search_110 : decode cX1_search 110 = .ok (.lload 15, 2) := by decide +kernel
theorem dX1_search_112 : decode cX1_search 112 = .ok (.lmul, 1) := by decide +kernel
theorem dX1_search_113 : decode cX1_search 113 = .ok (.lload 17, 2) := by decide +kernel
theorem dX1_search_115 : decode cX1_search 115 = .ok (.lload 17, 2) := by decide +kernel
theorem dX1_search_117 : decode cX1_search 117 = .ok (.lmul, 1) := by decide +kernel
theorem dX1_search_118 : decode cX1_search 118 = .ok (.ladd, 1) := by decide +kernel
theorem dX1_search_119 : decode cX1_search 119 = .ok (.lstore 19, 2) := by decide +kernel
theorem dX1_search_121 : decode cX1_search 121 = .ok (.lload 8, 2) := by decide +kernel
theorem dX1_search_123 : decode cX1_search 123 = .ok (.lconst 0, 1) := by decide +kernel
theorem dX1_search_124 : decode cX1_search 124 = .ok (.lcmp, 1) := by decide +kernel
theorem dX1_search_125 : decode cX1_search 125 = .ok (.ifCond .lt 11, 3) := by decide +kernel
theorem dX1_search_128 : decode cX1_search 128 = .ok (.lload 19, 2) := by decide +kernel
theorem dX1_search_130 : decode cX1_search 130 = .ok (.lload 8, 2) := by decide +kernel
theorem dX1_search_132 : decode cX1_search 132 = .ok (.lcmp, 1) := by decide +kernel
theorem dX1_search_133 : decode cX1_search 133 = .ok (.ifCond .ge 20, 3) := by decide +kernel
theorem dX1_search_136 : decode cX1_search 136 = .ok (.lload 19, 2) := by decide +kernel
theorem dX1_search_138 : decode cX1_search 138 = .ok (.lstore 8, 2) := by decide +kernel
theorem dX1_search_140 : decode cX1_search 140 = .ok (.ldc2_w 181, 3) := by decide +kernel
theorem dX1_search_143 : decode cX1_search 143 = .ok (.iload 13, 2) := by decide +kernel
theorem dX1_search_145 : decode cX1_search 145 = .ok (.i2l, 1) := by decide +kernel
theorem dX1_search_146 : decode cX1_search 146 = .ok (.lmul, 1) := by decide +kernel
theorem dX1_search_147 : decode cX1_search 147 = .ok (.iload 12, 2) := by decide +kernel
theorem dX1_search_149 : decode cX1_search 149 = .ok (.i2l, 1) := by decide +kernel
theorem dX1_search_150 : decode cX1_search 150 = .ok (.ladd, 1) := by decide +kernel
theorem dX1_search_151 : decode cX1_search 151 = .ok (.lstore 10, 2) := by decide +kernel
theorem dX1_search_153 : decode cX1_search 153 = .ok (.iinc 13 1, 3) := by decide +kernel
theorem dX1_search_156 : decode cX1_search 156 = .ok (.goto (-102), 3) := by decide +kernel
theorem dX1_search_159 : decode cX1_search 159 = .ok (.iinc 12 1, 3) := by decide +kernel
theorem dX1_search_162 : decode cX1_search 162 = .ok (.goto (-119), 3) := by decide +kernel
theorem dX1_search_165 : decode cX1_search 165 = .ok (.lload 10, 2) := by decide +kernel
theorem dX1_search_167 : decode cX1_search 167 = .ok (.lreturn, 1) := by decide +kernel
set_option maxRecDepth 20000 in
theorem ggX1_lostNow_X1_fixAt : GoodIn wsX1_lostNow wsX1_fixAt := goodIn_r _ [8, 9, 53, 54, 55, 56, 57, 58, 59, 60, 61, 62, 63, 64, 65, 66, 67, 68, 69] (by decide +kernel) (by decide +kernel)
set_option maxRecDepth 20000 in
theorem gX1_lostNow_X1_fixAt : GoodIn wsX1_lostNow (wsV RX1 146 RX1 yX1_fixAt wsX1_fixAt) := goodIn_app (goodIn_of _ (by decide +kernel)) ggX1_lostNow_X1_fixAt
set_option maxRecDepth 20000 in
theorem ggX1_lostNow_X1_fixBehind : GoodIn wsX1_lostNow wsX1_fixBehind := goodIn_r _ [13, 14, 9, 53, 54, 55, 56, 57, 58, 59, 60, 61, 62, 63, 64, 65, 66, 67, 68, 69] (by decide +kernel) (by decide +kernel)
set_option maxRecDepth 20000 in
theorem gX1_lostNow_X1_fixBehind : GoodIn wsX1_lostNow (wsV RX1 153 RX1 yX1_fixBehind wsX1_fixBehind) := goodIn_app (goodIn_of _ (by decide +kernel)) ggX1_lostNow_X1_fixBehind
set_option maxRecDepth 20000 in
theorem ggX1_lostNow_X1_isOtherLost : GoodIn wsX1_lostNow wsX1_isOtherLost := goodIn_r _ [18, 1, 53, 54, 55, 56, 57, 58, 59, 60, 61, 62, 63, 64, 65, 66, 67, 68, 69] (by decide +kernel) (by decide +kernel)
set_option maxRecDepth 20000 in
theorem gX1_lostNow_X1_isOtherLost : GoodIn wsX1_lostNow (wsV RX1 183 RX1 yX1_isOtherLost wsX1_isOtherLost) := goodIn_app (goodIn_of _ (by decide +kernel)) ggX1_lostNow_X1_isOtherLost
set_option maxRecDepth 20000 in
theorem ggX1_lostNow_X1_search : GoodIn wsX1_lostNow wsX1_search := goodIn_r _ [22, 23, 24, 25, 26, 27, 28, 7, 29, 30, 31, 32, 33, 34, 35, 36, 37, 38, 39, 40, 1, 41, 42, 43, 44, 45, 46, 47, 48, 49, 50, 51, 52, 53, 54, 55, 56, 57, 58, 59, 60, 61, 62, 63, 64, 65, 66, 67, 68, 69] (by decide +kernel) (by decide +kernel)
set_option maxRecDepth 20000 in
theorem gX1_lostNow_X1_search : GoodIn wsX1_lostNow (wsV RX1 186 RX1 yX1_search wsX1_search) := goodIn_app (goodIn_of _ (by decide +kernel)) ggX1_lostNow_X1_search
theorem dX1_lostNow_0 : decode cX1_lostNow 0 = .ok (.aload_n 0, 1) := by decide +kernel
theorem dX1_lostNow_1 : decode cX1_lostNow 1 = .ok (.getfield 22, 3) := by decide +kernel
theorem dX1_lostNow_4 : decode cX1_lostNow 4 = .ok (.iload_n 1, 1) := by decide +kernel
theorem dX1_lostNow_5 : decode cX1_lostNow 5 = .ok (.baload, 1) := by decide +kernel
theorem dX1_lostNow_6 : decode cX1_lostNow 6 = .ok (.ifCond .ne 7, 3) := by decide +kernel
theorem dX1_lostNow_9 : decode cX1_lostNow 9 = .ok (.ldc2_w 110, 3) := by decide +kernel
theorem dX1_lostNow_12 : decode cX1_lostNow 12 = .ok (.lreturn, 1) := by decide +kernel
theorem dX1_lostNow_13 : decode cX1_lostNow 13 = .ok (.aload_n 0, 1) := by decide +kernel
theorem dX1_lostNow_14 : decode cX1_lostNow 14 = .ok (.iload_n 1, 1) := by decide +kernel
theorem dX1_lostNow_15 : decode cX1_lostNow 15 = .ok (.invokevirtual 146, 3) := by decide +kernel
theorem dX1_lostNow_18 : decode cX1_lostNow 18 = .ok (.istore_n 2, 1) := by decide +kernel
theorem dX1_lostNow_19 : decode cX1_lostNow 19 = .ok (.aload_n 0, 1) := by decide +kernel
theorem dX1_lostNow_20 : decode cX1_lostNow 20 = .ok (.iload_n 1, 1) := by decide +kernel
theorem dX1_lostNow_21 : decode cX1_lostNow 21 = .ok (.invokevirtual 153, 3) := by decide +kernel
theorem dX1_lostNow_24 : decode cX1_lostNow 24 = .ok (.istore_n 3, 1) := by decide +kernel
theorem dX1_lostNow_25 : decode cX1_lostNow 25 = .ok (.iload_n 3, 1) := by decide +kernel
theorem dX1_lostNow_26 : decode cX1_lostNow 26 = .ok (.ifCond .ge 7, 3) := by decide +kernel
theorem dX1_lostNow_29 : decode cX1_lostNow 29 = .ok (.ldc2_w 108, 3) := by decide +kernel
theorem dX1_lostNow_32 : decode cX1_lostNow 32 = .ok (.lreturn, 1) := by decide +kernel
theorem dX1_lostNow_33 : decode cX1_lostNow 33 = .ok (.aload_n 0, 1) := by decide +kernel
theorem dX1_lostNow_34 : decode cX1_lostNow 34 = .ok (.iload_n 1, 1) := by decide +kernel
theorem dX1_lostNow_35 : decode cX1_lostNow 35 = .ok (.iload_n 2, 1) := by decide +kernel
theorem dX1_lostNow_36 : decode cX1_lostNow 36 = .ok (.iload_n 3, 1) := by decide +kernel
theorem dX1_lostNow_37 : decode cX1_lostNow 37 = .ok (.invokevirtual 183, 3) := by decide +kernel
theorem dX1_lostNow_40 : decode cX1_lostNow 40 = .ok (.ifCond .eq 9, 3) := by decide +kernel
theorem dX1_lostNow_43 : decode cX1_lostNow 43 = .ok (.ldc2_w 110, 3) := by decide +kernel
theorem dX1_lostNow_46 : decode cX1_lostNow 46 = .ok (.goto 10, 3) := by decide +kernel
theorem dX1_lostNow_49 : decode cX1_lostNow 49 = .ok (.aload_n 0, 1) := by decide +kernel
theorem dX1_lostNow_50 : decode cX1_lostNow 50 = .ok (.iload_n 1, 1) := by decide +kernel
theorem dX1_lostNow_51 : decode cX1_lostNow 51 = .ok (.iload_n 2, 1) := by decide +kernel
theorem dX1_lostNow_52 : decode cX1_lostNow 52 = .ok (.iload_n 3, 1) := by decide +kernel
theorem dX1_lostNow_53 : decode cX1_lostNow 53 = .ok (.invokevirtual 186, 3) := by decide +kernel
theorem dX1_lostNow_56 : decode cX1_lostNow 56 = .ok (.lreturn, 1) := by decide +kernel
set_option maxRecDepth 20000 in
theorem ggX1_findLost_X1_isPegNumber : GoodIn wsX1_findLost wsX1_isPegNumber := goodIn_r _ [6, 7, 8, 9, 5, 10, 65, 66, 67, 68, 69, 70, 71, 72, 73, 74, 75, 76, 77, 78, 79, 80, 81] (by decide +kernel) (by decide +kernel)
set_option maxRecDepth 20000 in
theorem gX1_findLost_X1_isPegNumber : GoodIn wsX1_findLost (wsV RX1 103 RX1 yX1_isPegNumber wsX1_isPegNumber) := goodIn_app (goodIn_of _ (by decide +kernel)) ggX1_findLost_X1_isPegNumber
set_option maxRecDepth 20000 in
theorem ggX1_findLost_X1_lostNow : GoodIn wsX1_findLost wsX1_lostNow := goodIn_r _ [14, 15, 16, 17, 18, 19, 20, 5, 21, 22, 23, 24, 25, 26, 7, 27, 28, 29, 30, 31, 32, 33, 34, 35, 36, 37, 38, 39, 40, 41, 42, 43, 44, 45, 46, 47, 48, 49, 50, 51, 52, 53, 54, 55, 56, 57, 58, 59, 60, 61, 62, 63, 64, 65, 66, 67, 68, 69, 70, 71, 72, 73, 74, 75, 76, 77, 78, 79, 80, 81] (by decide +kernel) (by decide +kernel)
set_option maxRecDepth 20000 in
theorem gX1_findLost_X1_lostNow : GoodIn wsX1_findLost (wsV RX1 189 RX1 yX1_lostNow wsX1_lostNow) := goodIn_app (goodIn_of _ (by decide +kernel)) ggX1_findLost_X1_lostNow
theorem dX1_findLost_0 : decode cX1_findLost 0 = .ok (.aload_n 0, 1) := by decide +kernel
theorem dX1_findLost_1 : decode cX1_findLost 1 = .ok (.iload_n 1, 1) := by decide +kernel
theorem dX1_findLost_2 : decode cX1_findLost 2 = .ok (.invokevirtual 103, 3) := by decide +kernel
theorem dX1_findLost_5 : decode cX1_findLost 5 = .ok (.ifCond .eq 11, 3) := by decide +kernel
theorem dX1_findLost_8 : decode cX1_findLost 8 = .ok (.aload_n 0, 1) := by decide +kernel
theorem dX1_findLost_9 : decode cX1_findLost 9 = .ok (.iload_n 1, 1) := by decide +kernel
theorem dX1_findLost_10 : decode cX1_findLost 10 = .ok (.invokevirtual 189, 3) := by decide +kernel
theorem dX1_findLost_13 : decode cX1_findLost 13 = .ok (.goto 6, 3) := by decide +kernel
theorem dX1_findLost_16 : decode cX1_findLost 16 = .ok (.ldc2_w 106, 3) := by decide +kernel
theorem dX1_findLost_19 : decode cX1_findLost 19 = .ok (.lreturn, 1) := by decide +kernel
theorem dX1_mix_0 : decode cX1_mix 0 = .ok (.aload_n 0, 1) := by decide +kernel
theorem dX1_mix_1 : decode cX1_mix 1 = .ok (.ldc2_w 192, 3) := by decide +kernel
theorem dX1_mix_4 : decode cX1_mix 4 = .ok (.aload_n 0, 1) := by decide +kernel
theorem dX1_mix_5 : decode cX1_mix 5 = .ok (.getfield 194, 3) := by decide +kernel
theorem dX1_mix_8 : decode cX1_mix 8 = .ok (.lmul, 1) := by decide +kernel
theorem dX1_mix_9 : decode cX1_mix 9 = .ok (.lload_n 1, 1) := by decide +kernel
theorem dX1_mix_10 : decode cX1_mix 10 = .ok (.ladd, 1) := by decide +kernel
theorem dX1_mix_11 : decode cX1_mix 11 = .ok (.putfield 194, 3) := by decide +kernel
theorem dX1_mix_14 : decode cX1_mix 14 = .ok (.return_, 1) := by decide +kernel
set_option maxRecDepth 20000 in
theorem ggX1_digest_X1_mix : GoodIn wsX1_digest wsX1_mix := goodIn_r _ [15, 16, 2, 95, 96, 97, 98, 99, 100, 101, 102, 103, 104, 105, 106, 107, 108, 109, 110, 111] (by decide +kernel) (by decide +kernel)
set_option maxRecDepth 20000 in
theorem gX1_digest_X1_mix : GoodIn wsX1_digest (wsV RX1 200 RX1 yX1_mix wsX1_mix) := goodIn_app (goodIn_of _ (by decide +kernel)) ggX1_digest_X1_mix
set_option maxRecDepth 20000 in
theorem ggX1_digest_X1_pointNow : GoodIn wsX1_digest wsX1_pointNow := goodIn_r _ [20, 5, 21, 22, 95, 96, 97, 98, 99, 100, 101, 102, 103, 104, 105, 106, 107, 108, 109, 110, 111] (by decide +kernel) (by decide +kernel)
set_option maxRecDepth 20000 in
theorem gX1_digest_X1_pointNow : GoodIn wsX1_digest (wsV RX1 122 RX1 yX1_pointNow wsX1_pointNow) := goodIn_app (goodIn_of _ (by decide +kernel)) ggX1_digest_X1_pointNow
set_option maxRecDepth 20000 in
theorem ggX1_digest_X1_speedNow : GoodIn wsX1_digest wsX1_speedNow := goodIn_r _ [26, 5, 21, 27, 95, 96, 97, 98, 99, 100, 101, 102, 103, 104, 105, 106, 107, 108, 109, 110, 111] (by decide +kernel) (by decide +kernel)
set_option maxRecDepth 20000 in
theorem gX1_digest_X1_speedNow : GoodIn wsX1_digest (wsV RX1 126 RX1 yX1_speedNow wsX1_speedNow) := goodIn_app (goodIn_of _ (by decide +kernel)) ggX1_digest_X1_speedNow
set_option maxRecDepth 20000 in
theorem ggX1_digest_X1_reckoned : GoodIn wsX1_digest wsX1_reckoned := goodIn_r _ [31, 32, 33, 34, 14, 35, 8, 36, 37, 38, 39, 40, 41, 42, 43, 44, 45, 46, 47, 48, 49, 22, 4, 5, 27, 7, 6, 50, 51, 52, 53, 54, 55, 56, 57, 58, 95, 96, 97, 98, 99, 100, 101, 102, 103, 104, 105, 106, 107, 108, 109, 110, 111] (by decide +kernel) (by decide +kernel)
set_option maxRecDepth 20000 in
theorem gX1_digest_X1_reckoned : GoodIn wsX1_digest (wsV RX1 163 RX1 yX1_reckoned wsX1_reckoned) := goodIn_app (goodIn_of _ (by decide +kernel)) ggX1_digest_X1_reckoned
set_option maxRecDepth 20000 in
theorem ggX1_digest_X1_corrected : GoodIn wsX1_digest wsX1_corrected := goodIn_r _ [62, 32, 33, 34, 14, 35, 8, 63, 64, 65, 66, 3, 36, 37, 38, 39, 40, 41, 42, 43, 44, 45, 46, 47, 48, 49, 22, 4, 5, 27, 7, 6, 50, 51, 52, 53, 54, 55, 56, 57, 58, 67, 68, 69, 95, 96, 97, 98, 99, 100, 101, 102, 103, 104, 105, 106, 107, 108, 109, 110, 111] (by decide +kernel) (by decide +kernel)
set_option maxRecDepth 20000 in
theorem gX1_digest_X1_corrected : GoodIn wsX1_digest (wsV RX1 166 RX1 yX1_corrected wsX1_corrected) := goodIn_app (goodIn_of _ (by decide +kernel)) ggX1_digest_X1_corrected
set_option maxRecDepth 20000 in
theorem ggX1_digest_X1_distanceNow : GoodIn wsX1_digest wsX1_distanceNow := goodIn_r _ [73, 74, 75, 59, 60, 61, 14, 62, 32, 33, 34, 35, 8, 63, 64, 65, 66, 3, 36, 37, 38, 39, 40, 41, 42, 43, 44, 45, 46, 47, 48, 49, 22, 4, 5, 27, 7, 6, 50, 51, 52, 53, 54, 55, 56, 57, 58, 67, 68, 69, 95, 96, 97, 98, 99, 100, 101, 102, 103, 104, 105, 106, 107, 108, 109, 110, 111] (by decide +kernel) (by decide +kernel)
set_option maxRecDepth 20000 in
theorem gX1_digest_X1_distanceNow : GoodIn wsX1_digest (wsV RX1 173 RX1 yX1_distanceNow wsX1_distanceNow) := goodIn_app (goodIn_of _ (by decide +kernel)) ggX1_digest_X1_distanceNow
set_option maxRecDepth 20000 in
theorem ggX1_digest_X1_bearingNow : GoodIn wsX1_digest wsX1_bearingNow := goodIn_r _ [79, 80, 59, 60, 61, 14, 62, 32, 33, 34, 35, 8, 63, 64, 65, 66, 3, 36, 37, 38, 39, 40, 41, 42, 43, 44, 45, 46, 47, 48, 49, 22, 4, 5, 27, 7, 6, 50, 51, 52, 53, 54, 55, 56, 57, 58, 67, 68, 69, 95, 96, 97, 98, 99, 100, 101, 102, 103, 104, 105, 106, 107, 108, 109, 110, 111] (by decide +kernel) (by decide +kernel)
set_option maxRecDepth 20000 in
theorem gX1_digest_X1_bearingNow : GoodIn wsX1_digest (wsV RX1 176 RX1 yX1_bearingNow wsX1_bearingNow) := goodIn_app (goodIn_of _ (by decide +kernel)) ggX1_digest_X1_bearingNow
set_option maxRecDepth 20000 in
theorem ggX1_digest_X1_lostNow : GoodIn wsX1_digest wsX1_lostNow := goodIn_r _ [84, 5, 21, 80, 32, 33, 34, 14, 35, 8, 63, 64, 65, 66, 3, 85, 86, 87, 88, 89, 90, 91, 92, 93, 4, 94, 40, 41, 42, 43, 44, 45, 36, 37, 38, 39, 46, 47, 48, 49, 22, 27, 7, 6, 50, 51, 52, 53, 54, 55, 56, 57, 58, 95, 96, 97, 98, 99, 100, 101, 102, 103, 104, 105, 106, 107, 108, 109, 110, 111] (by decide +kernel) (by decide +kernel)
set_option maxRecDepth 20000 in
theorem gX1_digest_X1_lostNow : GoodIn wsX1_digest (wsV RX1 189 RX1 yX1_lostNow wsX1_lostNow) := goodIn_app (goodIn_of _ (by decide +kernel)) ggX1_digest_X1_lostNow
theorem dX1_digest_0 : decode cX1_digest 0 = .ok (.aload_n 0, 1) := by decide +kernel
theorem dX1_digest_1 : decode cX1_digest 1 = .ok (.ldc2_w 198, 3) := by decide +kernel
theorem dX1_digest_4 : decode cX1_digest 4 = .ok (.putfield 194, 3) := by decide +kernel
theorem dX1_digest_7 : decode cX1_digest 7 = .ok (.aload_n 0, 1) := by decide +kernel
theorem dX1_digest_8 : decode cX1_digest 8 = .ok (.aload_n 0, 1) := by decide +kernel
theorem dX1_digest_9 : decode cX1_digest 9 = .ok (.getfield 91, 3) := by decide +kernel
theorem dX1_digest_12 : decode cX1_digest 12 = .ok (.i2l, 1) := by decide +kernel
theorem dX1_digest_13 : decode cX1_digest 13 = .ok (.invokevirtual 200, 3) := by decide +kernel
theorem dX1_digest_16 : decode cX1_digest 16 = .ok (.iconst (-1), 1) := by decide +kernel
theorem dX1_digest_17 : decode cX1_digest 17 = .ok (.istore_n 1, 1) := by decide +kernel
theorem dX1_digest_18 : decode cX1_digest 18 = .ok (.iconst 0, 1) := by decide +kernel
theorem dX1_digest_19 : decode cX1_digest 19 = .ok (.istore_n 2, 1) := by decide +kernel
theorem dX1_digest_20 : decode cX1_digest 20 = .ok (.iload_n 2, 1) := by decide +kernel
theorem dX1_digest_21 : decode cX1_digest 21 = .ok (.aload_n 0, 1) := by decide +kernel
theorem dX1_digest_22 : decode cX1_digest 22 = .ok (.getfield 91, 3) := by decide +kernel
theorem dX1_digest_25 : decode cX1_digest 25 = .ok (.if_icmp .ge 57, 3) := by decide +kernel
theorem dX1_digest_28 : decode cX1_digest 28 = .ok (.aload_n 0, 1) := by decide +kernel
theorem dX1_digest_29 : decode cX1_digest 29 = .ok (.aload_n 0, 1) := by decide +kernel
theorem dX1_digest_30 : decode cX1_digest 30 = .ok (.iload_n 2, 1) := by decide +kernel
theorem dX1_digest_31 : decode cX1_digest 31 = .ok (.invokevirtual 122, 3) := by decide +kernel
theorem dX1_digest_34 : decode cX1_digest 34 = .ok (.invokevirtual 200, 3) := by decide +kernel
theorem dX1_digest_37 : decode cX1_digest 37 = .ok (.aload_n 0, 1) := by decide +kernel
theorem dX1_digest_38 : decode cX1_digest 38 = .ok (.aload_n 0, 1) := by decide +kernel
theorem dX1_digest_39 : decode cX1_digest 39 = .ok (.iload_n 2, 1) := by decide +kernel
theorem dX1_digest_40 : decode cX1_digest 40 = .ok (.invokevirtual 126, 3) := by decide +kernel
theorem dX1_digest_43 : decode cX1_digest 43 = .ok (.invokevirtual 200, 3) := by decide +kernel
theorem dX1_digest_46 : decode cX1_digest 46 = .ok (.aload_n 0, 1) := by decide +kernel
theorem dX1_digest_47 : decode cX1_digest 47 = .ok (.aload_n 0, 1) := by decide +kernel
theorem dX1_digest_48 : decode cX1_digest 48 = .ok (.getfield 19, 3) := by decide +kernel
theorem dX1_digest_51 : decode cX1_digest 51 = .ok (.iload_n 2, 1) := by decide +kernel
theorem dX1_digest_52 : decode cX1_digest 52 = .ok (.iaload, 1) := by decide +kernel
theorem dX1_digest_53 : decode cX1_digest 53 = .ok (.i2l, 1) := by decide +kernel
theorem dX1_digest_54 : decode cX1_digest 54 = .ok (.invokevirtual 200, 3) := by decide +kernel
theorem dX1_digest_57 : decode cX1_digest 57 = .ok (.iload_n 1, 1) := by decide +kernel
theorem dX1_digest_58 : decode cX1_digest 58 = .ok (.ifCond .ge 16, 3) := by decide +kernel
theorem dX1_digest_61 : decode cX1_digest 61 = .ok (.aload_n 0, 1) := by decide +kernel
theorem dX1_digest_62 : decode cX1_digest 62 = .ok (.getfield 22, 3) := by decide +kernel
theorem dX1_digest_65 : decode cX1_digest 65 = .ok (.iload_n 2, 1) := by decide +kernel
theorem dX1_digest_66 : decode cX1_digest 66 = .ok (.baload, 1) := by decide +kernel
theorem dX1_digest_67 : decode cX1_digest 67 = .ok (.ifCond .eq 7, 3) := by decide +kernel
theorem dX1_digest_70 : decode cX1_digest 70 = .ok (.iload_n 2, 1) := by decide +kernel
theorem dX1_digest_71 : decode cX1_digest 71 = .ok (.goto 4, 3) := by decide +kernel
theorem dX1_digest_74 : decode cX1_digest 74 = .ok (.iload_n 1, 1) := by decide +kernel
theorem dX1_digest_75 : decode cX1_digest 75 = .ok (.istore_n 1, 1) := by decide +kernel
theorem dX1_digest_76 : decode cX1_digest 76 = .ok (.iinc 2 1, 3) := by decide +kernel
theorem dX1_digest_79 : decode cX1_digest 79 = .ok (.goto (-59), 3) := by decide +kernel
theorem dX1_digest_82 : decode cX1_digest 82 = .ok (.aload_n 0, 1) := by decide +kernel
theorem dX1_digest_83 : decode cX1_digest 83 = .ok (.aload_n 0, 1) := by decide +kernel
theorem dX1_digest_84 : decode cX1_digest 84 = .ok (.getfield 119, 3) := by decide +kernel
theorem dX1_digest_87 : decode cX1_digest 87 = .ok (.i2l, 1) := by decide +kernel
theorem dX1_digest_88 : decode cX1_digest 88 = .ok (.invokevirtual 200, 3) := by decide +kernel
theorem dX1_digest_91 : decode cX1_digest 91 = .ok (.aload_n 0, 1) := by decide +kernel
theorem dX1_digest_92 : decode cX1_digest 92 = .ok (.aload_n 0, 1) := by decide +kernel
theorem dX1_digest_93 : decode cX1_digest 93 = .ok (.getfield 116, 3) := by decide +kernel
theorem dX1_digest_96 : decode cX1_digest 96 = .ok (.i2l, 1) := by decide +kernel
theorem dX1_digest_97 : decode cX1_digest 97 = .ok (.invokevirtual 200, 3) := by decide +kernel
theorem dX1_digest_100 : decode cX1_digest 100 = .ok (.iconst 0, 1) := by decide +kernel
theorem dX1_digest_101 : decode cX1_digest 101 = .ok (.istore_n 2, 1) := by decide +kernel
theorem dX1_digest_102 : decode cX1_digest 102 = .ok (.iload_n 2, 1) := by decide +kernel
theorem dX1_digest_103 : decode cX1_digest 103 = .ok (.aload_n 0, 1) := by decide +kernel
theorem dX1_digest_104 : decode cX1_digest 104 = .ok (.getfield 91, 3) := by decide +kernel
theorem dX1_digest_107 : decode cX1_digest 107 = .ok (.if_icmp .gt 67, 3) := by decide +kernel
theorem dX1_digest_110 : decode cX1_digest 110 = .ok (.aload_n 0, 1) := by decide +kernel
theorem dX1_digest_111 : decode cX1_digest 111 = .ok (.aload_n 0, 1) := by decide +kernel
theorem dX1_digest_112 : decode cX1_digest 112 = .ok (.getfield 26, 3) := by decide +kernel
theorem dX1_digest_115 : decode cX1_digest 115 = .ok (.iload_n 2, 1) := by decide +kernel
theorem dX1_digest_116 : decode cX1_digest 116 = .ok (.baload, 1) := by decide +kernel
theorem dX1_digest_117 : decode cX1_digest 117 = .ok (.ifCond .eq 7, 3) := by decide +kernel
theorem dX1_digest_120 : decode cX1_digest 120 = .ok (.lconst 1, 1) := by decide +kernel
theorem dX1_digest_121 : decode cX1_digest 121 = .ok (.goto 4, 3) := by decide +kernel
theorem dX1_digest_124 : decode cX1_digest 124 = .ok (.lconst 0, 1) := by decide +kernel
theorem dX1_digest_125 : decode cX1_digest 125 = .ok (.invokevirtual 200, 3) := by decide +kernel
theorem dX1_digest_128 : decode cX1_digest 128 = .ok (.aload_n 0, 1) := by decide +kernel
theorem dX1_digest_129 : decode cX1_digest 129 = .ok (.aload_n 0, 1) := by decide +kernel
theorem dX1_digest_130 : decode cX1_digest 130 = .ok (.iload_n 2, 1) := by decide +kernel
theorem dX1_digest_131 : decode cX1_digest 131 = .ok (.iconst 0, 1) := by decide +kernel
theorem dX1_digest_132 : decode cX1_digest 132 = .ok (.invokevirtual 163, 3) := by decide +kernel
theorem dX1_digest_135 : decode cX1_digest 135 = .ok (.invokevirtual 200, 3) := by decide +kernel
theorem dX1_digest_138 : decode cX1_digest 138 = .ok (.aload_n 0, 1) := by decide +kernel
theorem dX1_digest_139 : decode cX1_digest 139 = .ok (.aload_n 0, 1) := by decide +kernel
theorem dX1_digest_140 : decode cX1_digest 140 = .ok (.iload_n 2, 1) := by decide +kernel
theorem dX1_digest_141 : decode cX1_digest 141 = .ok (.iconst 1, 1) := by decide +kernel
theorem dX1_digest_142 : decode cX1_digest 142 = .ok (.invokevirtual 163, 3) := by decide +kernel
theorem dX1_digest_145 : decode cX1_digest 145 = .ok (.invokevirtual 200, 3) := by decide +kernel
theorem dX1_digest_148 : decode cX1_digest 148 = .ok (.aload_n 0, 1) := by decide +kernel
theorem dX1_digest_149 : decode cX1_digest 149 = .ok (.aload_n 0, 1) := by decide +kernel
theorem dX1_digest_150 : decode cX1_digest 150 = .ok (.iload_n 2, 1) := by decide +kernel
theorem dX1_digest_151 : decode cX1_digest 151 = .ok (.iconst 0, 1) := by decide +kernel
theorem dX1_digest_152 : decode cX1_digest 152 = .ok (.invokevirtual 166, 3) := by decide +kernel
theorem dX1_digest_155 : decode cX1_digest 155 = .ok (.invokevirtual 200, 3) := by decide +kernel
theorem dX1_digest_158 : decode cX1_digest 158 = .ok (.aload_n 0, 1) := by decide +kernel
theorem dX1_digest_159 : decode cX1_digest 159 = .ok (.aload_n 0, 1) := by decide +kernel
theorem dX1_digest_160 : decode cX1_digest 160 = .ok (.iload_n 2, 1) := by decide +kernel
theorem dX1_digest_161 : decode cX1_digest 161 = .ok (.iconst 1, 1) := by decide +kernel
theorem dX1_digest_162 : decode cX1_digest 162 = .ok (.invokevirtual 166, 3) := by decide +kernel
theorem dX1_digest_165 : decode cX1_digest 165 = .ok (.invokevirtual 200, 3) := by decide +kernel
theorem dX1_digest_168 : decode cX1_digest 168 = .ok (.iinc 2 1, 3) := by decide +kernel
theorem dX1_digest_171 : decode cX1_digest 171 = .ok (.goto (-69), 3) := by decide +kernel
theorem dX1_digest_174 : decode cX1_digest 174 = .ok (.aload_n 0, 1) := by decide +kernel
theorem dX1_digest_175 : decode cX1_digest 175 = .ok (.aload_n 0, 1) := by decide +kernel
theorem dX1_digest_176 : decode cX1_digest 176 = .ok (.iconst 0, 1) := by decide +kernel
theorem dX1_digest_177 : decode cX1_digest 177 = .ok (.aload_n 0, 1) := by decide +kernel
theorem dX1_digest_178 : decode cX1_digest 178 = .ok (.getfield 91, 3) := by decide +kernel
theorem dX1_digest_181 : decode cX1_digest 181 = .ok (.invokevirtual 173, 3) := by decide +kernel
theorem dX1_digest_184 : decode cX1_digest 184 = .ok (.invokevirtual 200, 3) := by decide +kernel
theorem dX1_digest_187 : decode cX1_digest 187 = .ok (.aload_n 0, 1) := by decide +kernel
theorem dX1_digest_188 : decode cX1_digest 188 = .ok (.aload_n 0, 1) := by decide +kernel
theorem dX1_digest_189 : decode cX1_digest 189 = .ok (.iconst 0, 1) := by decide +kernel
theorem dX1_digest_190 : decode cX1_digest 190 = .ok (.aload_n 0, 1) := by decide +kernel
theorem dX1_digest_191 : decode cX1_digest 191 = .ok (.getfield 91, 3) := by decide +kernel
theorem dX1_digest_194 : decode cX1_digest 194 = .ok (.invokevirtual 176, 3) := by decide +kernel
theorem dX1_digest_197 : decode cX1_digest 197 = .ok (.invokevirtual 200, 3) := by decide +kernel
theorem dX1_digest_200 : decode cX1_digest 200 = .ok (.iload_n 1, 1) := by decide +kernel
theorem dX1_digest_201 : decode cX1_digest 201 = .ok (.ifCond .lt 12, 3) := by decide +kernel
theorem dX1_digest_204 : decode cX1_digest 204 = .ok (.aload_n 0, 1) := by decide +kernel
theorem dX1_digest_205 : decode cX1_digest 205 = .ok (.aload_n 0, 1) := by decide +kernel
theorem dX1_digest_206 : decode cX1_digest 206 = .ok (.iload_n 1, 1) := by decide +kernel
theorem dX1_digest_207 : decode cX1_digest 207 = .ok (.invokevirtual 189, 3) := by decide +kernel
theorem dX1_digest_210 : decode cX1_digest 210 = .ok (.invokevirtual 200, 3) := by decide +kernel
theorem dX1_digest_213 : decode cX1_digest 213 = .ok (.aload_n 0, 1) := by decide +kernel
theorem dX1_digest_214 : decode cX1_digest 214 = .ok (.aload_n 0, 1) := by decide +kernel
theorem dX1_digest_215 : decode cX1_digest 215 = .ok (.getfield 53, 3) := by decide +kernel
theorem dX1_digest_218 : decode cX1_digest 218 = .ok (.i2l, 1) := by decide +kernel
theorem dX1_digest_219 : decode cX1_digest 219 = .ok (.invokevirtual 200, 3) := by decide +kernel
theorem dX1_digest_222 : decode cX1_digest 222 = .ok (.iconst 0, 1) := by decide +kernel
theorem dX1_digest_223 : decode cX1_digest 223 = .ok (.istore_n 2, 1) := by decide +kernel
theorem dX1_digest_224 : decode cX1_digest 224 = .ok (.iload_n 2, 1) := by decide +kernel
theorem dX1_digest_225 : decode cX1_digest 225 = .ok (.aload_n 0, 1) := by decide +kernel
theorem dX1_digest_226 : decode cX1_digest 226 = .ok (.getfield 53, 3) := by decide +kernel
theorem dX1_digest_229 : decode cX1_digest 229 = .ok (.if_icmp .ge 20, 3) := by decide +kernel
theorem dX1_digest_232 : decode cX1_digest 232 = .ok (.aload_n 0, 1) := by decide +kernel
theorem dX1_digest_233 : decode cX1_digest 233 = .ok (.aload_n 0, 1) := by decide +kernel
theorem dX1_digest_234 : decode cX1_digest 234 = .ok (.getfield 7, 3) := by decide +kernel
theorem dX1_digest_237 : decode cX1_digest 237 = .ok (.iload_n 2, 1) := by decide +kernel
theorem dX1_digest_238 : decode cX1_digest 238 = .ok (.iaload, 1) := by decide +kernel
theorem dX1_digest_239 : decode cX1_digest 239 = .ok (.i2l, 1) := by decide +kernel
theorem dX1_digest_240 : decode cX1_digest 240 = .ok (.invokevirtual 200, 3) := by decide +kernel
theorem dX1_digest_243 : decode cX1_digest 243 = .ok (.iinc 2 1, 3) := by decide +kernel
theorem dX1_digest_246 : decode cX1_digest 246 = .ok (.goto (-22), 3) := by decide +kernel
theorem dX1_digest_249 : decode cX1_digest 249 = .ok (.aload_n 0, 1) := by decide +kernel
theorem dX1_digest_250 : decode cX1_digest 250 = .ok (.getfield 194, 3) := by decide +kernel
theorem dX1_digest_253 : decode cX1_digest 253 = .ok (.lreturn, 1) := by decide +kernel
end
section
theorem dJ9_floorDiv_f86c9_0 : decode cJ9_floorDiv_f86c9 0 = .ok (.lload_n 0, 1) := by decide +kernel
theorem dJ9_floorDiv_f86c9_1 : decode cJ9_floorDiv_f86c9 1 = .ok (.lload_n 2, 1) := by decide +kernel
theorem dJ9_floorDiv_f86c9_2 : decode cJ9_floorDiv_f86c9 2 = .ok (.ldiv, 1) := by decide +kernel
theorem dJ9_floorDiv_f86c9_3 : decode cJ9_floorDiv_f86c9 3 = .ok (.lstore 4, 2) := by decide +kernel
theorem dJ9_floorDiv_f86c9_5 : decode cJ9_floorDiv_f86c9 5 = .ok (.lload_n 0, 1) := by decide +kernel
theorem dJ9_floorDiv_f86c9_6 : decode cJ9_floorDiv_f86c9 6 = .ok (.lload_n 2, 1) := by decide +kernel
theorem dJ9_floorDiv_f86c9_7 : decode cJ9_floorDiv_f86c9 7 = .ok (.lxor, 1) := by decide +kernel
theorem dJ9_floorDiv_f86c9_8 : decode cJ9_floorDiv_f86c9 8 = .ok (.lconst 0, 1) := by decide +kernel
theorem dJ9_floorDiv_f86c9_9 : decode cJ9_floorDiv_f86c9 9 = .ok (.lcmp, 1) := by decide +kernel
theorem dJ9_floorDiv_f86c9_10 : decode cJ9_floorDiv_f86c9 10 = .ok (.ifCond .ge 17, 3) := by decide +kernel
theorem dJ9_floorDiv_f86c9_13 : decode cJ9_floorDiv_f86c9 13 = .ok (.lload 4, 2) := by decide +kernel
theorem dJ9_floorDiv_f86c9_15 : decode cJ9_floorDiv_f86c9 15 = .ok (.lload_n 2, 1) := by decide +kernel
theorem dJ9_floorDiv_f86c9_16 : decode cJ9_floorDiv_f86c9 16 = .ok (.lmul, 1) := by decide +kernel
theorem dJ9_floorDiv_f86c9_17 : decode cJ9_floorDiv_f86c9 17 = .ok (.lload_n 0, 1) := by decide +kernel
theorem dJ9_floorDiv_f86c9_18 : decode cJ9_floorDiv_f86c9 18 = .ok (.lcmp, 1) := by decide +kernel
theorem dJ9_floorDiv_f86c9_19 : decode cJ9_floorDiv_f86c9 19 = .ok (.ifCond .eq 8, 3) := by decide +kernel
theorem dJ9_floorDiv_f86c9_22 : decode cJ9_floorDiv_f86c9 22 = .ok (.lload 4, 2) := by decide +kernel
theorem dJ9_floorDiv_f86c9_24 : decode cJ9_floorDiv_f86c9 24 = .ok (.lconst 1, 1) := by decide +kernel
theorem dJ9_floorDiv_f86c9_25 : decode cJ9_floorDiv_f86c9 25 = .ok (.lsub, 1) := by decide +kernel
theorem dJ9_floorDiv_f86c9_26 : decode cJ9_floorDiv_f86c9 26 = .ok (.lreturn, 1) := by decide +kernel
theorem dJ9_floorDiv_f86c9_27 : decode cJ9_floorDiv_f86c9 27 = .ok (.lload 4, 2) := by decide +kernel
theorem dJ9_floorDiv_f86c9_29 : decode cJ9_floorDiv_f86c9 29 = .ok (.lreturn, 1) := by decide +kernel
theorem dJ9_floorMod_7cf53_0 : decode cJ9_floorMod_7cf53 0 = .ok (.iload_n 0, 1) := by decide +kernel
theorem dJ9_floorMod_7cf53_1 : decode cJ9_floorMod_7cf53 1 = .ok (.iload_n 1, 1) := by decide +kernel
theorem dJ9_floorMod_7cf53_2 : decode cJ9_floorMod_7cf53 2 = .ok (.irem, 1) := by decide +kernel
theorem dJ9_floorMod_7cf53_3 : decode cJ9_floorMod_7cf53 3 = .ok (.istore_n 2, 1) := by decide +kernel
theorem dJ9_floorMod_7cf53_4 : decode cJ9_floorMod_7cf53 4 = .ok (.iload_n 0, 1) := by decide +kernel
theorem dJ9_floorMod_7cf53_5 : decode cJ9_floorMod_7cf53 5 = .ok (.iload_n 1, 1) := by decide +kernel
theorem dJ9_floorMod_7cf53_6 : decode cJ9_floorMod_7cf53 6 = .ok (.ixor, 1) := by decide +kernel
theorem dJ9_floorMod_7cf53_7 : decode cJ9_floorMod_7cf53 7 = .ok (.ifCond .ge 11, 3) := by decide +kernel
theorem dJ9_floorMod_7cf53_10 : decode cJ9_floorMod_7cf53 10 = .ok (.iload_n 2, 1) := by decide +kernel
theorem dJ9_floorMod_7cf53_11 : decode cJ9_floorMod_7cf53 11 = .ok (.ifCond .eq 7, 3) := by decide +kernel
theorem dJ9_floorMod_7cf53_14 : decode cJ9_floorMod_7cf53 14 = .ok (.iload_n 2, 1) := by decide +kernel
theorem dJ9_floorMod_7cf53_15 : decode cJ9_floorMod_7cf53 15 = .ok (.iload_n 1, 1) := by decide +kernel
theorem dJ9_floorMod_7cf53_16 : decode cJ9_floorMod_7cf53 16 = .ok (.iadd, 1) := by decide +kernel
theorem dJ9_floorMod_7cf53_17 : decode cJ9_floorMod_7cf53 17 = .ok (.ireturn, 1) := by decide +kernel
theorem dJ9_floorMod_7cf53_18 : decode cJ9_floorMod_7cf53 18 = .ok (.iload_n 2, 1) := by decide +kernel
theorem dJ9_floorMod_7cf53_19 : decode cJ9_floorMod_7cf53 19 = .ok (.ireturn, 1) := by decide +kernel
set_option maxRecDepth 20000 in
theorem ggJ0_charAt_5068e_J0_isLatin1_aae02 : GoodIn wsJ0_charAt_5068e wsJ0_isLatin1_aae02 := goodIn_r _ [6, 7, 8] (by decide +kernel) (by decide +kernel)
set_option maxRecDepth 20000 in
theorem gJ0_charAt_5068e_J0_isLatin1_aae02 : GoodIn wsJ0_charAt_5068e (wsV RJ0 492 RJ0 yJ0_isLatin1_aae02 wsJ0_isLatin1_aae02) := goodIn_app (goodIn_of _ (by decide +kernel)) ggJ0_charAt_5068e_J0_isLatin1_aae02
set_option maxRecDepth 20000 in
theorem ggJ0_charAt_5068e_J1_charAt_3b067 : GoodIn wsJ0_charAt_5068e wsJ1_charAt_3b067 := goodIn_r _ [12, 13, 14, 5, 15, 16, 17, 18, 19, 20] (by decide +kernel) (by decide +kernel)
set_option maxRecDepth 20000 in
theorem gJ0_charAt_5068e_J1_charAt_3b067 : GoodIn wsJ0_charAt_5068e (va_wsS RJ0 495 yJ1_charAt_3b067 wsJ1_charAt_3b067) := goodIn_app (goodIn_of _ (by decide +kernel)) ggJ0_charAt_5068e_J1_charAt_3b067
set_option maxRecDepth 20000 in
theorem ggJ0_charAt_5068e_J2_charAt_3b067 : GoodIn wsJ0_charAt_5068e wsJ2_charAt_3b067 := goodIn_r _ [24, 25, 26, 23, 27, 28, 29, 30, 31, 14, 5, 15, 16, 17, 18, 19, 20, 32, 33, 34, 35, 36, 37] (by decide +kernel) (by decide +kernel)
set_option maxRecDepth 20000 in
theorem gJ0_charAt_5068e_J2_charAt_3b067 : GoodIn wsJ0_charAt_5068e (va_wsS RJ0 498 yJ2_charAt_3b067 wsJ2_charAt_3b067) := goodIn_app (goodIn_of _ (by decide +kernel)) ggJ0_charAt_5068e_J2_charAt_3b067
theorem dJ0_charAt_5068e_0 : decode cJ0_charAt_5068e 0 = .ok (.aload_n 0, 1) := by decide +kernel
theorem dJ0_charAt_5068e_1 : decode cJ0_charAt_5068e 1 = .ok (.invokevirtual 492, 3) := by decide +kernel
theorem dJ0_charAt_5068e_4 : decode cJ0_charAt_5068e 4 = .ok (.ifCond .eq 12, 3) := by decide +kernel
theorem dJ0_charAt_5068e_7 : decode cJ0_charAt_5068e 7 = .ok (.aload_n 0, 1) := by decide +kernel
theorem dJ0_charAt_5068e_8 : decode cJ0_charAt_5068e 8 = .ok (.getfield 9, 3) := by decide +kernel
theorem dJ0_charAt_5068e_11 : decode cJ0_charAt_5068e 11 = .ok (.iload_n 1, 1) := by decide +kernel
theorem dJ0_charAt_5068e_12 : decode cJ0_charAt_5068e 12 = .ok (.invokestatic 495, 3) := by decide +kernel
theorem dJ0_charAt_5068e_15 : decode cJ0_charAt_5068e 15 = .ok (.ireturn, 1) := by decide +kernel
theorem dJ0_charAt_5068e_16 : decode cJ0_charAt_5068e 16 = .ok (.aload_n 0, 1) := by decide +kernel
theorem dJ0_charAt_5068e_17 : decode cJ0_charAt_5068e 17 = .ok (.getfield 9, 3) := by decide +kernel
theorem dJ0_charAt_5068e_20 : decode cJ0_charAt_5068e 20 = .ok (.iload_n 1, 1) := by decide +kernel
theorem dJ0_charAt_5068e_21 : decode cJ0_charAt_5068e 21 = .ok (.invokestatic 498, 3) := by decide +kernel
theorem dJ0_charAt_5068e_24 : decode cJ0_charAt_5068e 24 = .ok (.ireturn, 1) := by decide +kernel
theorem dJ0_isLatin1_aae02_0 : decode cJ0_isLatin1_aae02 0 = .ok (.getstatic 38, 3) := by decide +kernel
theorem dJ0_isLatin1_aae02_3 : decode cJ0_isLatin1_aae02 3 = .ok (.ifCond .eq 14, 3) := by decide +kernel
theorem dJ0_isLatin1_aae02_6 : decode cJ0_isLatin1_aae02 6 = .ok (.aload_n 0, 1) := by decide +kernel
theorem dJ0_isLatin1_aae02_7 : decode cJ0_isLatin1_aae02 7 = .ok (.getfield 15, 3) := by decide +kernel
theorem dJ0_isLatin1_aae02_10 : decode cJ0_isLatin1_aae02 10 = .ok (.ifCond .ne 7, 3) := by decide +kernel
theorem dJ0_isLatin1_aae02_13 : decode cJ0_isLatin1_aae02 13 = .ok (.iconst 1, 1) := by decide +kernel
theorem dJ0_isLatin1_aae02_14 : decode cJ0_isLatin1_aae02 14 = .ok (.goto 4, 3) := by decide +kernel
theorem dJ0_isLatin1_aae02_17 : decode cJ0_isLatin1_aae02 17 = .ok (.iconst 0, 1) := by decide +kernel
theorem dJ0_isLatin1_aae02_18 : decode cJ0_isLatin1_aae02 18 = .ok (.ireturn, 1) := by decide +kernel
set_option maxRecDepth 20000 in
theorem ggJ0_checkIndex_df160_J3_checkIndex_8e157 : GoodIn wsJ0_checkIndex_df160 wsJ3_checkIndex_8e157 := goodIn_r _ [5] (by decide +kernel) (by decide +kernel)
set_option maxRecDepth 20000 in
theorem gJ0_checkIndex_df160_J3_checkIndex_8e157 : GoodIn wsJ0_checkIndex_df160 (va_wsS RJ0 1059 yJ3_checkIndex_8e157 wsJ3_checkIndex_8e157) := goodIn_app (goodIn_of _ (by decide +kernel)) ggJ0_checkIndex_df160_J3_checkIndex_8e157
theorem dJ0_checkIndex_df160_0 : decode cJ0_checkIndex_df160 0 = .ok (.iload_n 0, 1) := by decide +kernel
theorem dJ0_checkIndex_df160_1 : decode cJ0_checkIndex_df160 1 = .ok (.iload_n 1, 1) := by decide +kernel
theorem dJ0_checkIndex_df160_2 : decode cJ0_checkIndex_df160 2 = .ok (.getstatic 1053, 3) := by decide +kernel
theorem dJ0_checkIndex_df160_5 : decode cJ0_checkIndex_df160 5 = .ok (.invokestatic 1059, 3) := by decide +kernel
theorem dJ0_checkIndex_df160_8 : decode cJ0_checkIndex_df160 8 = .ok (.pop, 1) := by decide +kernel
theorem dJ0_checkIndex_df160_9 : decode cJ0_checkIndex_df160 9 = .ok (.return_, 1) := by decide +kernel
set_option maxRecDepth 20000 in
theorem ggJ1_charAt_3b067_J0_checkIndex_df160 : GoodIn wsJ1_charAt_3b067 wsJ0_checkIndex_df160 := goodIn_r _ [4, 5, 6, 7, 8, 9] (by decide +kernel) (by decide +kernel)
set_option maxRecDepth 20000 in
theorem gJ1_charAt_3b067_J0_checkIndex_df160 : GoodIn wsJ1_charAt_3b067 (va_wsS RJ1 9 yJ0_checkIndex_df160 wsJ0_checkIndex_df160) := goodIn_app (goodIn_of _ (by decide +kernel)) ggJ1_charAt_3b067_J0_checkIndex_df160
theorem dJ1_charAt_3b067_0 : decode cJ1_charAt_3b067 0 = .ok (.iload_n 1, 1) := by decide +kernel
theorem dJ1_charAt_3b067_1 : decode cJ1_charAt_3b067 1 = .ok (.aload_n 0, 1) := by decide +kernel
theorem dJ1_charAt_3b067_2 : decode cJ1_charAt_3b067 2 = .ok (.arraylength, 1) := by decide +kernel
theorem dJ1_charAt_3b067_3 : decode cJ1_charAt_3b067 3 = .ok (.invokestatic 9, 3) := by decide +kernel
theorem dJ1_charAt_3b067_6 : decode cJ1_charAt_3b067 6 = .ok (.aload_n 0, 1) := by decide +kernel
theorem dJ1_charAt_3b067_7 : decode cJ1_charAt_3b067 7 = .ok (.iload_n 1, 1) := by decide +kernel
theorem dJ1_charAt_3b067_8 : decode cJ1_charAt_3b067 8 = .ok (.baload, 1) := by decide +kernel
theorem dJ1_charAt_3b067_9 : decode cJ1_charAt_3b067 9 = .ok (.sipush 255, 3) := by decide +kernel
theorem dJ1_charAt_3b067_12 : decode cJ1_charAt_3b067 12 = .ok (.iand, 1) := by decide +kernel
theorem dJ1_charAt_3b067_13 : decode cJ1_charAt_3b067 13 = .ok (.i2c, 1) := by decide +kernel
theorem dJ1_charAt_3b067_14 : decode cJ1_charAt_3b067 14 = .ok (.ireturn, 1) := by decide +kernel
set_option maxRecDepth 20000 in
theorem ggJ2_getChar_3b067_J2_length_9d52b : GoodIn wsJ2_getChar_3b067 wsJ2_length_9d52b := goodIn_r _ [7] (by decide +kernel) (by decide +kernel)
set_option maxRecDepth 20000 in
theorem gJ2_getChar_3b067_J2_length_9d52b : GoodIn wsJ2_getChar_3b067 (va_wsS RJ2 48 yJ2_length_9d52b wsJ2_length_9d52b) := goodIn_app (goodIn_of _ (by decide +kernel)) ggJ2_getChar_3b067_J2_length_9d52b
theorem dJ2_getChar_3b067_0 : decode cJ2_getChar_3b067 0 = .ok (.getstatic 44, 3) := by decide +kernel
theorem dJ2_getChar_3b067_3 : decode cJ2_getChar_3b067 3 = .ok (.ifCond .ne 25, 3) := by decide +kernel
theorem dJ2_getChar_3b067_6 : decode cJ2_getChar_3b067 6 = .ok (.iload_n 1, 1) := by decide +kernel
theorem dJ2_getChar_3b067_7 : decode cJ2_getChar_3b067 7 = .ok (.ifCond .lt 11, 3) := by decide +kernel
theorem dJ2_getChar_3b067_10 : decode cJ2_getChar_3b067 10 = .ok (.iload_n 1, 1) := by decide +kernel
theorem dJ2_getChar_3b067_11 : decode cJ2_getChar_3b067 11 = .ok (.aload_n 0, 1) := by decide +kernel
theorem dJ2_getChar_3b067_12 : decode cJ2_getChar_3b067 12 = .ok (.invokestatic 48, 3) := by decide +kernel
theorem dJ2_getChar_3b067_15 : decode cJ2_getChar_3b067 15 = .ok (.if_icmp .lt 13, 3) := by decide +kernel
theorem dJ2_getChar_3b067_18 : decode cJ2_getChar_3b067 18 = .ok (.new 52, 3) := by decide +kernel
theorem dJ2_getChar_3b067_21 : decode cJ2_getChar_3b067 21 = .ok (.dup, 1) := by decide +kernel
theorem dJ2_getChar_3b067_22 : decode cJ2_getChar_3b067 22 = .ok (.ldc 54, 2) := by decide +kernel
theorem dJ2_getChar_3b067_24 : decode cJ2_getChar_3b067 24 = .ok (.invokespecial 56, 3) := by decide +kernel
theorem dJ2_getChar_3b067_27 : decode cJ2_getChar_3b067 27 = .ok (.athrow, 1) := by decide +kernel
theorem dJ2_getChar_3b067_28 : decode cJ2_getChar_3b067 28 = .ok (.iload_n 1, 1) := by decide +kernel
theorem dJ2_getChar_3b067_29 : decode cJ2_getChar_3b067 29 = .ok (.iconst 1, 1) := by decide +kernel
theorem dJ2_getChar_3b067_30 : decode cJ2_getChar_3b067 30 = .ok (.ishl, 1) := by decide +kernel
theorem dJ2_getChar_3b067_31 : decode cJ2_getChar_3b067 31 = .ok (.istore_n 1, 1) := by decide +kernel
theorem dJ2_getChar_3b067_32 : decode cJ2_getChar_3b067 32 = .ok (.aload_n 0, 1) := by decide +kernel
theorem dJ2_getChar_3b067_33 : decode cJ2_getChar_3b067 33 = .ok (.iload_n 1, 1) := by decide +kernel
theorem dJ2_getChar_3b067_34 : decode cJ2_getChar_3b067 34 = .ok (.iinc 1 1, 3) := by decide +kernel
theorem dJ2_getChar_3b067_37 : decode cJ2_getChar_3b067 37 = .ok (.baload, 1) := by decide +kernel
theorem dJ2_getChar_3b067_38 : decode cJ2_getChar_3b067 38 = .ok (.sipush 255, 3) := by decide +kernel
theorem dJ2_getChar_3b067_41 : decode cJ2_getChar_3b067 41 = .ok (.iand, 1) := by decide +kernel
theorem dJ2_getChar_3b067_42 : decode cJ2_getChar_3b067 42 = .ok (.getstatic 59, 3) := by decide +kernel
theorem dJ2_getChar_3b067_45 : decode cJ2_getChar_3b067 45 = .ok (.ishl, 1) := by decide +kernel
theorem dJ2_getChar_3b067_46 : decode cJ2_getChar_3b067 46 = .ok (.aload_n 0, 1) := by decide +kernel
theorem dJ2_getChar_3b067_47 : decode cJ2_getChar_3b067 47 = .ok (.iload_n 1, 1) := by decide +kernel
theorem dJ2_getChar_3b067_48 : decode cJ2_getChar_3b067 48 = .ok (.baload, 1) := by decide +kernel
theorem dJ2_getChar_3b067_49 : decode cJ2_getChar_3b067 49 = .ok (.sipush 255, 3) := by decide +kernel
theorem dJ2_getChar_3b067_52 : decode cJ2_getChar_3b067 52 = .ok (.iand, 1) := by decide +kernel
theorem dJ2_getChar_3b067_53 : decode cJ2_getChar_3b067 53 = .ok (.getstatic 63, 3) := by decide +kernel
theorem dJ2_getChar_3b067_56 : decode cJ2_getChar_3b067 56 = .ok (.ishl, 1) := by decide +kernel
theorem dJ2_getChar_3b067_57 : decode cJ2_getChar_3b067 57 = .ok (.ior, 1) := by decide +kernel
theorem dJ2_getChar_3b067_58 : decode cJ2_getChar_3b067 58 = .ok (.i2c, 1) := by decide +kernel
theorem dJ2_getChar_3b067_59 : decode cJ2_getChar_3b067 59 = .ok (.ireturn, 1) := by decide +kernel
theorem dJ2_length_9d52b_0 : decode cJ2_length_9d52b 0 = .ok (.aload_n 0, 1) := by decide +kernel
theorem dJ2_length_9d52b_1 : decode cJ2_length_9d52b 1 = .ok (.arraylength, 1) := by decide +kernel
theorem dJ2_length_9d52b_2 : decode cJ2_length_9d52b 2 = .ok (.iconst 1, 1) := by decide +kernel
theorem dJ2_length_9d52b_3 : decode cJ2_length_9d52b 3 = .ok (.ishr, 1) := by decide +kernel
theorem dJ2_length_9d52b_4 : decode cJ2_length_9d52b 4 = .ok (.ireturn, 1) := by decide +kernel
set_option maxRecDepth 20000 in
theorem ggJ2_charAt_3b067_J2_checkIndex_2214a : GoodIn wsJ2_charAt_3b067 wsJ2_checkIndex_2214a := goodIn_r _ [4, 5, 6, 3, 7, 8, 9, 10, 11, 12, 13, 14, 15, 16] (by decide +kernel) (by decide +kernel)
set_option maxRecDepth 20000 in
theorem gJ2_charAt_3b067_J2_checkIndex_2214a : GoodIn wsJ2_charAt_3b067 (va_wsS RJ2 67 yJ2_checkIndex_2214a wsJ2_checkIndex_2214a) := goodIn_app (goodIn_of _ (by decide +kernel)) ggJ2_charAt_3b067_J2_checkIndex_2214a
set_option maxRecDepth 20000 in
theorem ggJ2_charAt_3b067_J2_getChar_3b067 : GoodIn wsJ2_charAt_3b067 wsJ2_getChar_3b067 := goodIn_r _ [19, 20, 21, 22, 5, 6, 3, 7] (by decide +kernel) (by decide +kernel)
set_option maxRecDepth 20000 in
theorem gJ2_charAt_3b067_J2_getChar_3b067 : GoodIn wsJ2_charAt_3b067 (va_wsS RJ2 71 yJ2_getChar_3b067 wsJ2_getChar_3b067) := goodIn_app (goodIn_of _ (by decide +kernel)) ggJ2_charAt_3b067_J2_getChar_3b067
theorem dJ2_charAt_3b067_0 : decode cJ2_charAt_3b067 0 = .ok (.iload_n 1, 1) := by decide +kernel
theorem dJ2_charAt_3b067_1 : decode cJ2_charAt_3b067 1 = .ok (.aload_n 0, 1) := by decide +kernel
theorem dJ2_charAt_3b067_2 : decode cJ2_charAt_3b067 2 = .ok (.invokestatic 67, 3) := by decide +kernel
theorem dJ2_charAt_3b067_5 : decode cJ2_charAt_3b067 5 = .ok (.aload_n 0, 1) := by decide +kernel
theorem dJ2_charAt_3b067_6 : decode cJ2_charAt_3b067 6 = .ok (.iload_n 1, 1) := by decide +kernel
theorem dJ2_charAt_3b067_7 : decode cJ2_charAt_3b067 7 = .ok (.invokestatic 71, 3) := by decide +kernel
theorem dJ2_charAt_3b067_10 : decode cJ2_charAt_3b067 10 = .ok (.ireturn, 1) := by decide +kernel
set_option maxRecDepth 20000 in
theorem ggJ2_checkIndex_2214a_J2_length_9d52b : GoodIn wsJ2_checkIndex_2214a wsJ2_length_9d52b := goodIn_r _ [4] (by decide +kernel) (by decide +kernel)
set_option maxRecDepth 20000 in
theorem gJ2_checkIndex_2214a_J2_length_9d52b : GoodIn wsJ2_checkIndex_2214a (va_wsS RJ2 48 yJ2_length_9d52b wsJ2_length_9d52b) := goodIn_app (goodIn_of _ (by decide +kernel)) ggJ2_checkIndex_2214a_J2_length_9d52b
set_option maxRecDepth 20000 in
theorem ggJ2_checkIndex_2214a_J0_checkIndex_df160 : GoodIn wsJ2_checkIndex_2214a wsJ0_checkIndex_df160 := goodIn_r _ [8, 9, 10, 11, 12, 13] (by decide +kernel) (by decide +kernel)
set_option maxRecDepth 20000 in
theorem gJ2_checkIndex_2214a_J0_checkIndex_df160 : GoodIn wsJ2_checkIndex_2214a (va_wsS RJ2 414 yJ0_checkIndex_df160 wsJ0_checkIndex_df160) := goodIn_app (goodIn_of _ (by decide +kernel)) ggJ2_checkIndex_2214a_J0_checkIndex_df160
theorem dJ2_checkIndex_2214a_0 : decode cJ2_checkIndex_2214a 0 = .ok (.iload_n 0, 1) := by decide +kernel
theorem dJ2_checkIndex_2214a_1 : decode cJ2_checkIndex_2214a 1 = .ok (.aload_n 1, 1) := by decide +kernel
theorem dJ2_checkIndex_2214a_2 : decode cJ2_checkIndex_2214a 2 = .ok (.invokestatic 48, 3) := by decide +kernel
theorem dJ2_checkIndex_2214a_5 : decode cJ2_checkIndex_2214a 5 = .ok (.invokestatic 414, 3) := by decide +kernel
theorem dJ2_checkIndex_2214a_8 : decode cJ2_checkIndex_2214a 8 = .ok (.return_, 1) := by decide +kernel
theorem dJ3_checkIndex_8e157_0 : decode cJ3_checkIndex_8e157 0 = .ok (.iload_n 0, 1) := by decide +kernel
theorem dJ3_checkIndex_8e157_1 : decode cJ3_checkIndex_8e157 1 = .ok (.ifCond .lt 8, 3) := by decide +kernel
theorem dJ3_checkIndex_8e157_4 : decode cJ3_checkIndex_8e157 4 = .ok (.iload_n 0, 1) := by decide +kernel
theorem dJ3_checkIndex_8e157_5 : decode cJ3_checkIndex_8e157 5 = .ok (.iload_n 1, 1) := by decide +kernel
theorem dJ3_checkIndex_8e157_6 : decode cJ3_checkIndex_8e157 6 = .ok (.if_icmp .lt 10, 3) := by decide +kernel
theorem dJ3_checkIndex_8e157_9 : decode cJ3_checkIndex_8e157 9 = .ok (.aload_n 2, 1) := by decide +kernel
theorem dJ3_checkIndex_8e157_10 : decode cJ3_checkIndex_8e157 10 = .ok (.iload_n 0, 1) := by decide +kernel
theorem dJ3_checkIndex_8e157_11 : decode cJ3_checkIndex_8e157 11 = .ok (.iload_n 1, 1) := by decide +kernel
theorem dJ3_checkIndex_8e157_12 : decode cJ3_checkIndex_8e157 12 = .ok (.invokestatic 95, 3) := by decide +kernel
theorem dJ3_checkIndex_8e157_15 : decode cJ3_checkIndex_8e157 15 = .ok (.athrow, 1) := by decide +kernel
theorem dJ3_checkIndex_8e157_16 : decode cJ3_checkIndex_8e157 16 = .ok (.iload_n 0, 1) := by decide +kernel
theorem dJ3_checkIndex_8e157_17 : decode cJ3_checkIndex_8e157 17 = .ok (.ireturn, 1) := by decide +kernel
end
section
set_option maxRecDepth 20000 in
theorem ggL_law_X0_init : GoodIn wsL_law wsX0_init := goodIn_r _ [8, 9, 10, 11, 12, 13, 14, 15, 16, 17, 18, 19, 20, 21, 585, 586, 587, 588, 589, 590, 591, 592, 593, 594, 595, 596] (by decide +kernel) (by decide +kernel)
set_option maxRecDepth 20000 in
theorem gL_law_X0_init : GoodIn wsL_law (wsX0_init) := ggL_law_X0_init
set_option maxRecDepth 20000 in
theorem ggL_law_X1_init : GoodIn wsL_law wsX1_init := goodIn_r _ [24, 25, 10, 11, 12, 26, 27, 28, 29, 17, 30, 31, 32, 33, 34, 597, 598, 599, 600, 601, 602, 603, 604, 605, 606, 607, 608, 609, 610, 611, 612, 613] (by decide +kernel) (by decide +kernel)
set_option maxRecDepth 20000 in
theorem gL_law_X1_init : GoodIn wsL_law (wsX1_init) := ggL_law_X1_init
set_option maxRecDepth 20000 in
theorem ggL_law_X0_append : GoodIn wsL_law wsX0_append := goodIn_r _ [38, 39, 40, 41, 13, 42, 43, 2, 44, 585, 586, 587, 588, 589, 590, 591, 592, 593, 594, 595, 596] (by decide +kernel) (by decide +kernel)
set_option maxRecDepth 20000 in
theorem gL_law_X0_append : GoodIn wsL_law (wsV RL 13 RX0 yX0_append wsX0_append) := goodIn_app (goodIn_of _ (by decide +kernel)) ggL_law_X0_append
set_option maxRecDepth 20000 in
theorem ggL_law_X1_append : GoodIn wsL_law wsX1_append := goodIn_r _ [48, 49, 50, 51, 26, 52, 53, 5, 54, 597, 598, 599, 600, 601, 602, 603, 604, 605, 606, 607, 608, 609, 610, 611, 612, 613] (by decide +kernel) (by decide +kernel)
set_option maxRecDepth 20000 in
theorem gL_law_X1_append : GoodIn wsL_law (wsV RL 17 RX1 yX1_append wsX1_append) := goodIn_app (goodIn_of _ (by decide +kernel)) ggL_law_X1_append
set_option maxRecDepth 20000 in
theorem ggL_law_X0_clearBuffer : GoodIn wsL_law wsX0_clearBuffer := goodIn_r _ [58, 40, 585, 586, 587, 588, 589, 590, 591, 592, 593, 594, 595, 596] (by decide +kernel) (by decide +kernel)
set_option maxRecDepth 20000 in
theorem gL_law_X0_clearBuffer : GoodIn wsL_law (wsV RL 18 RX0 yX0_clearBuffer wsX0_clearBuffer) := goodIn_app (goodIn_of _ (by decide +kernel)) ggL_law_X0_clearBuffer
set_option maxRecDepth 20000 in
theorem ggL_law_X1_clearBuffer : GoodIn wsL_law wsX1_clearBuffer := goodIn_r _ [62, 50, 597, 598, 599, 600, 601, 602, 603, 604, 605, 606, 607, 608, 609, 610, 611, 612, 613] (by decide +kernel) (by decide +kernel)
set_option maxRecDepth 20000 in
theorem gL_law_X1_clearBuffer : GoodIn wsL_law (wsV RL 22 RX1 yX1_clearBuffer wsX1_clearBuffer) := goodIn_app (goodIn_of _ (by decide +kernel)) ggL_law_X1_clearBuffer
set_option maxRecDepth 20000 in
theorem ggL_law_X0_errorPosition : GoodIn wsL_law wsX0_errorPosition := goodIn_r _ [66, 67, 68, 69, 2, 70, 71, 72, 73, 74, 40, 13, 75, 76, 77, 78, 79, 80, 81, 82, 83, 84, 85, 86, 87, 88, 89, 90, 91, 92, 93, 94, 95, 96, 97, 98, 99, 100, 101, 102, 103, 104, 105, 106, 107, 108, 109, 110, 111, 112, 113, 114, 115, 116, 117, 118, 119, 120, 121, 122, 123, 124, 125, 126, 127, 128, 129, 130, 131, 42, 43, 44, 132, 133, 134, 135, 585, 586, 587, 588, 589, 590, 591, 592, 593, 594, 595, 596] (by decide +kernel) (by decide +kernel)
set_option maxRecDepth 20000 in
theorem gL_law_X0_errorPosition : GoodIn wsL_law (wsV RL 23 RX0 yX0_errorPosition wsX0_errorPosition) := goodIn_app (goodIn_of _ (by decide +kernel)) ggL_law_X0_errorPosition
set_option maxRecDepth 20000 in
theorem ggL_law_X1_errorPosition : GoodIn wsL_law wsX1_errorPosition := goodIn_r _ [139, 140, 141, 142, 143, 5, 144, 50, 26, 145, 146, 147, 148, 149, 150, 151, 152, 153, 154, 155, 156, 157, 158, 159, 160, 161, 162, 163, 164, 165, 166, 167, 168, 52, 53, 54, 597, 598, 599, 600, 601, 602, 603, 604, 605, 606, 607, 608, 609, 610, 611, 612, 613] (by decide +kernel) (by decide +kernel)
set_option maxRecDepth 20000 in
theorem gL_law_X1_errorPosition : GoodIn wsL_law (wsV RL 26 RX1 yX1_errorPosition wsX1_errorPosition) := goodIn_app (goodIn_of _ (by decide +kernel)) ggL_law_X1_errorPosition
set_option maxRecDepth 20000 in
theorem ggL_law_X0_addFromBuffer : GoodIn wsL_law wsX0_addFromBuffer := goodIn_r _ [172, 40, 173, 174, 41, 175, 64, 65, 2, 66, 67, 68, 69, 70, 71, 72, 73, 74, 13, 75, 76, 77, 78, 79, 80, 81, 82, 83, 84, 85, 86, 87, 88, 89, 90, 91, 92, 93, 94, 95, 96, 97, 98, 99, 100, 101, 102, 103, 104, 105, 106, 107, 108, 109, 110, 111, 112, 113, 114, 115, 116, 117, 118, 119, 120, 121, 122, 123, 124, 125, 126, 127, 128, 129, 130, 131, 42, 43, 44, 132, 133, 134, 135, 176, 177, 178, 179, 16, 180, 181, 182, 183, 14, 15, 18, 585, 586, 587, 588, 589, 590, 591, 592, 593, 594, 595, 596] (by decide +kernel) (by decide +kernel)
set_option maxRecDepth 20000 in
theorem gL_law_X0_addFromBuffer : GoodIn wsL_law (wsV RL 27 RX0 yX0_addFromBuffer wsX0_addFromBuffer) := goodIn_app (goodIn_of _ (by decide +kernel)) ggL_law_X0_addFromBuffer
set_option maxRecDepth 20000 in
theorem ggL_law_X1_addFromBuffer : GoodIn wsL_law wsX1_addFromBuffer := goodIn_r _ [187, 145, 188, 189, 51, 50, 146, 147, 141, 142, 143, 5, 144, 26, 140, 148, 149, 150, 151, 152, 153, 154, 155, 156, 157, 158, 159, 160, 161, 162, 163, 164, 165, 166, 167, 168, 52, 53, 54, 190, 191, 192, 193, 27, 28, 29, 30, 31, 597, 598, 599, 600, 601, 602, 603, 604, 605, 606, 607, 608, 609, 610, 611, 612, 613] (by decide +kernel) (by decide +kernel)
set_option maxRecDepth 20000 in
theorem gL_law_X1_addFromBuffer : GoodIn wsL_law (wsV RL 30 RX1 yX1_addFromBuffer wsX1_addFromBuffer) := goodIn_app (goodIn_of _ (by decide +kernel)) ggL_law_X1_addFromBuffer
set_option maxRecDepth 20000 in
theorem ggL_law_X0_add : GoodIn wsL_law wsX0_add := goodIn_r _ [197, 39, 174, 41, 198, 199, 2, 200, 42, 43, 44, 201, 202, 203, 176, 177, 178, 179, 16, 180, 181, 182, 183, 14, 15, 18, 585, 586, 587, 588, 589, 590, 591, 592, 593, 594, 595, 596] (by decide +kernel) (by decide +kernel)
set_option maxRecDepth 20000 in
theorem gL_law_X0_add : GoodIn wsL_law (wsV RL 31 RX0 yX0_add wsX0_add) := goodIn_app (goodIn_of _ (by decide +kernel)) ggL_law_X0_add
set_option maxRecDepth 20000 in
theorem ggL_law_X1_add : GoodIn wsL_law wsX1_add := goodIn_r _ [207, 49, 189, 51, 208, 209, 5, 210, 52, 53, 54, 190, 191, 192, 193, 27, 28, 29, 30, 31, 597, 598, 599, 600, 601, 602, 603, 604, 605, 606, 607, 608, 609, 610, 611, 612, 613] (by decide +kernel) (by decide +kernel)
set_option maxRecDepth 20000 in
theorem gL_law_X1_add : GoodIn wsL_law (wsV RL 35 RX1 yX1_add wsX1_add) := goodIn_app (goodIn_of _ (by decide +kernel)) ggL_law_X1_add
set_option maxRecDepth 20000 in
theorem ggL_law_X0_replace : GoodIn wsL_law wsX0_replace := goodIn_r _ [214, 215, 39, 18, 216, 217, 218, 2, 219, 174, 42, 43, 44, 198, 199, 200, 201, 202, 203, 180, 181, 182, 183, 14, 15, 585, 586, 587, 588, 589, 590, 591, 592, 593, 594, 595, 596] (by decide +kernel) (by decide +kernel)
set_option maxRecDepth 20000 in
theorem gL_law_X0_replace : GoodIn wsL_law (wsV RL 36 RX0 yX0_replace wsX0_replace) := goodIn_app (goodIn_of _ (by decide +kernel)) ggL_law_X0_replace
set_option maxRecDepth 20000 in
theorem ggL_law_X1_replace : GoodIn wsL_law wsX1_replace := goodIn_r _ [223, 224, 49, 30, 27, 28, 225, 226, 227, 5, 228, 189, 52, 53, 54, 208, 209, 210, 597, 598, 599, 600, 601, 602, 603, 604, 605, 606, 607, 608, 609, 610, 611, 612, 613] (by decide +kernel) (by decide +kernel)
set_option maxRecDepth 20000 in
theorem gL_law_X1_replace : GoodIn wsL_law (wsV RL 40 RX1 yX1_replace wsX1_replace) := goodIn_app (goodIn_of _ (by decide +kernel)) ggL_law_X1_replace
set_option maxRecDepth 20000 in
theorem ggL_law_X0_removeLast : GoodIn wsL_law wsX0_removeLast := goodIn_r _ [232, 174, 233, 19, 585, 586, 587, 588, 589, 590, 591, 592, 593, 594, 595, 596] (by decide +kernel) (by decide +kernel)
set_option maxRecDepth 20000 in
theorem gL_law_X0_removeLast : GoodIn wsL_law (wsV RL 41 RX0 yX0_removeLast wsX0_removeLast) := goodIn_app (goodIn_of _ (by decide +kernel)) ggL_law_X0_removeLast
set_option maxRecDepth 20000 in
theorem ggL_law_X1_removeLast : GoodIn wsL_law wsX1_removeLast := goodIn_r _ [237, 189, 238, 31, 597, 598, 599, 600, 601, 602, 603, 604, 605, 606, 607, 608, 609, 610, 611, 612, 613] (by decide +kernel) (by decide +kernel)
set_option maxRecDepth 20000 in
theorem gL_law_X1_removeLast : GoodIn wsL_law (wsV RL 44 RX1 yX1_removeLast wsX1_removeLast) := goodIn_app (goodIn_of _ (by decide +kernel)) ggL_law_X1_removeLast
set_option maxRecDepth 20000 in
theorem ggL_law_X0_lose : GoodIn wsL_law wsX0_lose := goodIn_r _ [242, 215, 18, 243, 174, 216, 217, 218, 2, 219, 42, 43, 44, 244, 245, 246, 247, 585, 586, 587, 588, 589, 590, 591, 592, 593, 594, 595, 596] (by decide +kernel) (by decide +kernel)
set_option maxRecDepth 20000 in
theorem gL_law_X0_lose : GoodIn wsL_law (wsV RL 45 RX0 yX0_lose wsX0_lose) := goodIn_app (goodIn_of _ (by decide +kernel)) ggL_law_X0_lose
set_option maxRecDepth 20000 in
theorem ggL_law_X1_lose : GoodIn wsL_law wsX1_lose := goodIn_r _ [251, 224, 30, 252, 225, 226, 227, 5, 228, 189, 52, 53, 54, 253, 254, 255, 256, 597, 598, 599, 600, 601, 602, 603, 604, 605, 606, 607, 608, 609, 610, 611, 612, 613] (by decide +kernel) (by decide +kernel)
set_option maxRecDepth 20000 in
theorem gL_law_X1_lose : GoodIn wsL_law (wsV RL 48 RX1 yX1_lose wsX1_lose) := goodIn_app (goodIn_of _ (by decide +kernel)) ggL_law_X1_lose
set_option maxRecDepth 20000 in
theorem ggL_law_X0_setLeeway : GoodIn wsL_law wsX0_setLeeway := goodIn_r _ [260, 215, 39, 16, 216, 217, 218, 2, 219, 174, 42, 43, 44, 585, 586, 587, 588, 589, 590, 591, 592, 593, 594, 595, 596] (by decide +kernel) (by decide +kernel)
set_option maxRecDepth 20000 in
theorem gL_law_X0_setLeeway : GoodIn wsL_law (wsV RL 49 RX0 yX0_setLeeway wsX0_setLeeway) := goodIn_app (goodIn_of _ (by decide +kernel)) ggL_law_X0_setLeeway
set_option maxRecDepth 20000 in
theorem ggL_law_X1_setLeeway : GoodIn wsL_law wsX1_setLeeway := goodIn_r _ [264, 224, 49, 29, 225, 226, 227, 5, 228, 189, 52, 53, 54, 597, 598, 599, 600, 601, 602, 603, 604, 605, 606, 607, 608, 609, 610, 611, 612, 613] (by decide +kernel) (by decide +kernel)
set_option maxRecDepth 20000 in
theorem gL_law_X1_setLeeway : GoodIn wsL_law (wsV RL 52 RX1 yX1_setLeeway wsX1_setLeeway) := goodIn_app (goodIn_of _ (by decide +kernel)) ggL_law_X1_setLeeway
set_option maxRecDepth 20000 in
theorem ggL_law_X0_setCurrent : GoodIn wsL_law wsX0_setCurrent := goodIn_r _ [268, 39, 269, 270, 198, 199, 2, 200, 42, 43, 44, 585, 586, 587, 588, 589, 590, 591, 592, 593, 594, 595, 596] (by decide +kernel) (by decide +kernel)
set_option maxRecDepth 20000 in
theorem gL_law_X0_setCurrent : GoodIn wsL_law (wsV RL 53 RX0 yX0_setCurrent wsX0_setCurrent) := goodIn_app (goodIn_of _ (by decide +kernel)) ggL_law_X0_setCurrent
set_option maxRecDepth 20000 in
theorem ggL_law_X1_setCurrent : GoodIn wsL_law wsX1_setCurrent := goodIn_r _ [274, 49, 275, 276, 208, 209, 5, 210, 52, 53, 54, 597, 598, 599, 600, 601, 602, 603, 604, 605, 606, 607, 608, 609, 610, 611, 612, 613] (by decide +kernel) (by decide +kernel)
set_option maxRecDepth 20000 in
theorem gL_law_X1_setCurrent : GoodIn wsL_law (wsV RL 56 RX1 yX1_setCurrent wsX1_setCurrent) := goodIn_app (goodIn_of _ (by decide +kernel)) ggL_law_X1_setCurrent
set_option maxRecDepth 20000 in
theorem ggL_law_X0_pegCount : GoodIn wsL_law wsX0_pegCount := goodIn_r _ [280, 174, 585, 586, 587, 588, 589, 590, 591, 592, 593, 594, 595, 596] (by decide +kernel) (by decide +kernel)
set_option maxRecDepth 20000 in
theorem gL_law_X0_pegCount : GoodIn wsL_law (wsV RL 57 RX0 yX0_pegCount wsX0_pegCount) := goodIn_app (goodIn_of _ (by decide +kernel)) ggL_law_X0_pegCount
set_option maxRecDepth 20000 in
theorem ggL_law_X1_pegCount : GoodIn wsL_law wsX1_pegCount := goodIn_r _ [284, 189, 597, 598, 599, 600, 601, 602, 603, 604, 605, 606, 607, 608, 609, 610, 611, 612, 613] (by decide +kernel) (by decide +kernel)
set_option maxRecDepth 20000 in
theorem gL_law_X1_pegCount : GoodIn wsL_law (wsV RL 60 RX1 yX1_pegCount wsX1_pegCount) := goodIn_app (goodIn_of _ (by decide +kernel)) ggL_law_X1_pegCount
set_option maxRecDepth 20000 in
theorem ggL_law_X0_pointOf : GoodIn wsL_law wsX0_pointOf := goodIn_r _ [288, 215, 18, 243, 14, 216, 217, 218, 2, 219, 174, 42, 43, 44, 585, 586, 587, 588, 589, 590, 591, 592, 593, 594, 595, 596] (by decide +kernel) (by decide +kernel)
set_option maxRecDepth 20000 in
theorem gL_law_X0_pointOf : GoodIn wsL_law (wsV RL 61 RX0 yX0_pointOf wsX0_pointOf) := goodIn_app (goodIn_of _ (by decide +kernel)) ggL_law_X0_pointOf
set_option maxRecDepth 20000 in
theorem ggL_law_X1_pointOf : GoodIn wsL_law wsX1_pointOf := goodIn_r _ [292, 224, 225, 226, 227, 5, 228, 189, 52, 53, 54, 293, 294, 295, 296, 30, 252, 27, 597, 598, 599, 600, 601, 602, 603, 604, 605, 606, 607, 608, 609, 610, 611, 612, 613] (by decide +kernel) (by decide +kernel)
set_option maxRecDepth 20000 in
theorem gL_law_X1_pointOf : GoodIn wsL_law (wsV RL 64 RX1 yX1_pointOf wsX1_pointOf) := goodIn_app (goodIn_of _ (by decide +kernel)) ggL_law_X1_pointOf
set_option maxRecDepth 20000 in
theorem ggL_law_X0_speedOf : GoodIn wsL_law wsX0_speedOf := goodIn_r _ [300, 215, 18, 243, 15, 216, 217, 218, 2, 219, 174, 42, 43, 44, 585, 586, 587, 588, 589, 590, 591, 592, 593, 594, 595, 596] (by decide +kernel) (by decide +kernel)
set_option maxRecDepth 20000 in
theorem gL_law_X0_speedOf : GoodIn wsL_law (wsV RL 65 RX0 yX0_speedOf wsX0_speedOf) := goodIn_app (goodIn_of _ (by decide +kernel)) ggL_law_X0_speedOf
set_option maxRecDepth 20000 in
theorem ggL_law_X1_speedOf : GoodIn wsL_law wsX1_speedOf := goodIn_r _ [304, 224, 225, 226, 227, 5, 228, 189, 52, 53, 54, 305, 306, 307, 308, 30, 252, 28, 597, 598, 599, 600, 601, 602, 603, 604, 605, 606, 607, 608, 609, 610, 611, 612, 613] (by decide +kernel) (by decide +kernel)
set_option maxRecDepth 20000 in
theorem gL_law_X1_speedOf : GoodIn wsL_law (wsV RL 68 RX1 yX1_speedOf wsX1_speedOf) := goodIn_app (goodIn_of _ (by decide +kernel)) ggL_law_X1_speedOf
set_option maxRecDepth 20000 in
theorem ggL_law_X0_speedTowards : GoodIn wsL_law wsX0_speedTowards := goodIn_r _ [312, 39, 174, 18, 14, 15, 198, 199, 2, 200, 42, 43, 44, 585, 586, 587, 588, 589, 590, 591, 592, 593, 594, 595, 596] (by decide +kernel) (by decide +kernel)
set_option maxRecDepth 20000 in
theorem gL_law_X0_speedTowards : GoodIn wsL_law (wsV RL 69 RX0 yX0_speedTowards wsX0_speedTowards) := goodIn_app (goodIn_of _ (by decide +kernel)) ggL_law_X0_speedTowards
set_option maxRecDepth 20000 in
theorem ggL_law_X1_speedTowards : GoodIn wsL_law wsX1_speedTowards := goodIn_r _ [316, 49, 189, 30, 27, 28, 208, 209, 5, 210, 52, 53, 54, 597, 598, 599, 600, 601, 602, 603, 604, 605, 606, 607, 608, 609, 610, 611, 612, 613] (by decide +kernel) (by decide +kernel)
set_option maxRecDepth 20000 in
theorem gL_law_X1_speedTowards : GoodIn wsL_law (wsV RL 72 RX1 yX1_speedTowards wsX1_speedTowards) := goodIn_app (goodIn_of _ (by decide +kernel)) ggL_law_X1_speedTowards
set_option maxRecDepth 20000 in
theorem ggL_law_X0_setFix : GoodIn wsL_law wsX0_setFix := goodIn_r _ [320, 321, 39, 19, 20, 21, 322, 323, 324, 2, 325, 174, 42, 43, 44, 326, 327, 328, 329, 330, 331, 332, 333, 334, 585, 586, 587, 588, 589, 590, 591, 592, 593, 594, 595, 596] (by decide +kernel) (by decide +kernel)
set_option maxRecDepth 20000 in
theorem gL_law_X0_setFix : GoodIn wsL_law (wsV RL 73 RX0 yX0_setFix wsX0_setFix) := goodIn_app (goodIn_of _ (by decide +kernel)) ggL_law_X0_setFix
set_option maxRecDepth 20000 in
theorem ggL_law_X1_setFix : GoodIn wsL_law wsX1_setFix := goodIn_r _ [338, 189, 339, 340, 341, 49, 31, 33, 34, 52, 53, 5, 54, 342, 343, 344, 345, 597, 598, 599, 600, 601, 602, 603, 604, 605, 606, 607, 608, 609, 610, 611, 612, 613] (by decide +kernel) (by decide +kernel)
set_option maxRecDepth 20000 in
theorem gL_law_X1_setFix : GoodIn wsL_law (wsV RL 76 RX1 yX1_setFix wsX1_setFix) := goodIn_app (goodIn_of _ (by decide +kernel)) ggL_law_X1_setFix
set_option maxRecDepth 20000 in
theorem ggL_law_X0_removeFix : GoodIn wsL_law wsX0_removeFix := goodIn_r _ [349, 321, 19, 233, 322, 323, 324, 2, 325, 174, 42, 43, 44, 331, 332, 333, 334, 585, 586, 587, 588, 589, 590, 591, 592, 593, 594, 595, 596] (by decide +kernel) (by decide +kernel)
set_option maxRecDepth 20000 in
theorem gL_law_X0_removeFix : GoodIn wsL_law (wsV RL 77 RX0 yX0_removeFix wsX0_removeFix) := goodIn_app (goodIn_of _ (by decide +kernel)) ggL_law_X0_removeFix
set_option maxRecDepth 20000 in
theorem ggL_law_X1_removeFix : GoodIn wsL_law wsX1_removeFix := goodIn_r _ [353, 189, 339, 31, 238, 52, 53, 5, 54, 342, 343, 344, 345, 597, 598, 599, 600, 601, 602, 603, 604, 605, 606, 607, 608, 609, 610, 611, 612, 613] (by decide +kernel) (by decide +kernel)
set_option maxRecDepth 20000 in
theorem gL_law_X1_removeFix : GoodIn wsL_law (wsV RL 80 RX1 yX1_removeFix wsX1_removeFix) := goodIn_app (goodIn_of _ (by decide +kernel)) ggL_law_X1_removeFix
set_option maxRecDepth 20000 in
theorem ggL_law_X0_reckonedNorth : GoodIn wsL_law wsX0_reckonedNorth := goodIn_r _ [357, 321, 358, 359, 360, 2, 361, 174, 42, 43, 44, 362, 363, 364, 365, 366, 367, 368, 369, 19, 370, 371, 372, 373, 20, 21, 374, 375, 376, 377, 270, 269, 18, 14, 16, 15, 378, 379, 380, 381, 382, 383, 384, 385, 585, 586, 587, 588, 589, 590, 591, 592, 593, 594, 595, 596] (by decide +kernel) (by decide +kernel)
set_option maxRecDepth 20000 in
theorem gL_law_X0_reckonedNorth : GoodIn wsL_law (wsV RL 81 RX0 yX0_reckonedNorth wsX0_reckonedNorth) := goodIn_app (goodIn_of _ (by decide +kernel)) ggL_law_X0_reckonedNorth
set_option maxRecDepth 20000 in
theorem ggL_law_X1_reckonedNorth : GoodIn wsL_law wsX1_reckonedNorth := goodIn_r _ [389, 339, 390, 391, 392, 5, 393, 189, 52, 53, 54, 394, 395, 396, 397, 398, 399, 400, 401, 31, 402, 403, 404, 405, 406, 407, 408, 409, 33, 34, 410, 411, 412, 413, 27, 29, 30, 28, 275, 276, 414, 415, 416, 417, 418, 419, 420, 421, 422, 597, 598, 599, 600, 601, 602, 603, 604, 605, 606, 607, 608, 609, 610, 611, 612, 613] (by decide +kernel) (by decide +kernel)
set_option maxRecDepth 20000 in
theorem gL_law_X1_reckonedNorth : GoodIn wsL_law (wsV RL 84 RX1 yX1_reckonedNorth wsX1_reckonedNorth) := goodIn_app (goodIn_of _ (by decide +kernel)) ggL_law_X1_reckonedNorth
set_option maxRecDepth 20000 in
theorem ggL_law_X0_reckonedEast : GoodIn wsL_law wsX0_reckonedEast := goodIn_r _ [426, 321, 358, 359, 360, 2, 361, 174, 42, 43, 44, 362, 363, 364, 365, 366, 367, 368, 369, 19, 370, 371, 372, 373, 20, 21, 374, 375, 376, 377, 270, 269, 18, 14, 16, 15, 378, 379, 380, 381, 382, 383, 384, 385, 585, 586, 587, 588, 589, 590, 591, 592, 593, 594, 595, 596] (by decide +kernel) (by decide +kernel)
set_option maxRecDepth 20000 in
theorem gL_law_X0_reckonedEast : GoodIn wsL_law (wsV RL 85 RX0 yX0_reckonedEast wsX0_reckonedEast) := goodIn_app (goodIn_of _ (by decide +kernel)) ggL_law_X0_reckonedEast
set_option maxRecDepth 20000 in
theorem ggL_law_X1_reckonedEast : GoodIn wsL_law wsX1_reckonedEast := goodIn_r _ [430, 339, 390, 391, 392, 5, 393, 189, 52, 53, 54, 394, 395, 396, 397, 398, 399, 400, 401, 31, 402, 403, 404, 405, 406, 407, 408, 409, 33, 34, 410, 411, 412, 413, 27, 29, 30, 28, 275, 276, 414, 415, 416, 417, 418, 419, 420, 421, 422, 597, 598, 599, 600, 601, 602, 603, 604, 605, 606, 607, 608, 609, 610, 611, 612, 613] (by decide +kernel) (by decide +kernel)
set_option maxRecDepth 20000 in
theorem gL_law_X1_reckonedEast : GoodIn wsL_law (wsV RL 88 RX1 yX1_reckonedEast wsX1_reckonedEast) := goodIn_app (goodIn_of _ (by decide +kernel)) ggL_law_X1_reckonedEast
set_option maxRecDepth 20000 in
theorem ggL_law_X0_correctedNorth : GoodIn wsL_law wsX0_correctedNorth := goodIn_r _ [434, 321, 358, 359, 360, 2, 361, 174, 42, 43, 44, 435, 436, 437, 438, 366, 367, 368, 369, 19, 439, 440, 441, 442, 362, 363, 364, 365, 370, 371, 372, 373, 20, 21, 374, 375, 376, 377, 270, 269, 18, 14, 16, 15, 378, 379, 380, 381, 382, 383, 384, 385, 443, 444, 445, 446, 447, 448, 449, 585, 586, 587, 588, 589, 590, 591, 592, 593, 594, 595, 596] (by decide +kernel) (by decide +kernel)
set_option maxRecDepth 20000 in
theorem gL_law_X0_correctedNorth : GoodIn wsL_law (wsV RL 89 RX0 yX0_correctedNorth wsX0_correctedNorth) := goodIn_app (goodIn_of _ (by decide +kernel)) ggL_law_X0_correctedNorth
set_option maxRecDepth 20000 in
theorem ggL_law_X1_correctedNorth : GoodIn wsL_law wsX1_correctedNorth := goodIn_r _ [453, 339, 390, 391, 392, 5, 393, 189, 52, 53, 54, 454, 455, 456, 457, 398, 399, 400, 401, 31, 458, 459, 460, 461, 402, 403, 404, 405, 406, 407, 408, 409, 33, 34, 410, 411, 412, 413, 27, 29, 30, 28, 275, 276, 414, 415, 416, 417, 418, 419, 420, 421, 422, 462, 463, 464, 597, 598, 599, 600, 601, 602, 603, 604, 605, 606, 607, 608, 609, 610, 611, 612, 613] (by decide +kernel) (by decide +kernel)
set_option maxRecDepth 20000 in
theorem gL_law_X1_correctedNorth : GoodIn wsL_law (wsV RL 92 RX1 yX1_correctedNorth wsX1_correctedNorth) := goodIn_app (goodIn_of _ (by decide +kernel)) ggL_law_X1_correctedNorth
set_option maxRecDepth 20000 in
theorem ggL_law_X0_correctedEast : GoodIn wsL_law wsX0_correctedEast := goodIn_r _ [468, 321, 358, 359, 360, 2, 361, 174, 42, 43, 44, 435, 436, 437, 438, 366, 367, 368, 369, 19, 439, 440, 441, 442, 362, 363, 364, 365, 370, 371, 372, 373, 20, 21, 374, 375, 376, 377, 270, 269, 18, 14, 16, 15, 378, 379, 380, 381, 382, 383, 384, 385, 443, 444, 445, 446, 447, 448, 449, 585, 586, 587, 588, 589, 590, 591, 592, 593, 594, 595, 596] (by decide +kernel) (by decide +kernel)
set_option maxRecDepth 20000 in
theorem gL_law_X0_correctedEast : GoodIn wsL_law (wsV RL 93 RX0 yX0_correctedEast wsX0_correctedEast) := goodIn_app (goodIn_of _ (by decide +kernel)) ggL_law_X0_correctedEast
set_option maxRecDepth 20000 in
theorem ggL_law_X1_correctedEast : GoodIn wsL_law wsX1_correctedEast := goodIn_r _ [472, 339, 390, 391, 392, 5, 393, 189, 52, 53, 54, 454, 455, 456, 457, 398, 399, 400, 401, 31, 458, 459, 460, 461, 402, 403, 404, 405, 406, 407, 408, 409, 33, 34, 410, 411, 412, 413, 27, 29, 30, 28, 275, 276, 414, 415, 416, 417, 418, 419, 420, 421, 422, 462, 463, 464, 597, 598, 599, 600, 601, 602, 603, 604, 605, 606, 607, 608, 609, 610, 611, 612, 613] (by decide +kernel) (by decide +kernel)
set_option maxRecDepth 20000 in
theorem gL_law_X1_correctedEast : GoodIn wsL_law (wsV RL 96 RX1 yX1_correctedEast wsX1_correctedEast) := goodIn_app (goodIn_of _ (by decide +kernel)) ggL_law_X1_correctedEast
set_option maxRecDepth 20000 in
theorem ggL_law_X0_distance : GoodIn wsL_law wsX0_distance := goodIn_r _ [476, 321, 358, 359, 360, 2, 361, 174, 42, 43, 44, 477, 478, 479, 480, 435, 436, 437, 438, 366, 367, 368, 369, 19, 439, 440, 441, 442, 362, 363, 364, 365, 370, 371, 372, 373, 20, 21, 374, 375, 376, 377, 270, 269, 18, 14, 16, 15, 378, 379, 380, 381, 382, 383, 384, 385, 443, 444, 445, 446, 447, 448, 449, 481, 482, 483, 484, 485, 486, 585, 586, 587, 588, 589, 590, 591, 592, 593, 594, 595, 596] (by decide +kernel) (by decide +kernel)
set_option maxRecDepth 20000 in
theorem gL_law_X0_distance : GoodIn wsL_law (wsV RL 97 RX0 yX0_distance wsX0_distance) := goodIn_app (goodIn_of _ (by decide +kernel)) ggL_law_X0_distance
set_option maxRecDepth 20000 in
theorem ggL_law_X1_distance : GoodIn wsL_law wsX1_distance := goodIn_r _ [490, 339, 390, 391, 392, 5, 393, 189, 52, 53, 54, 491, 492, 493, 494, 495, 496, 454, 455, 456, 457, 398, 399, 400, 401, 31, 458, 459, 460, 461, 402, 403, 404, 405, 406, 407, 408, 409, 33, 34, 410, 411, 412, 413, 27, 29, 30, 28, 275, 276, 414, 415, 416, 417, 418, 419, 420, 421, 422, 462, 463, 464, 597, 598, 599, 600, 601, 602, 603, 604, 605, 606, 607, 608, 609, 610, 611, 612, 613] (by decide +kernel) (by decide +kernel)
set_option maxRecDepth 20000 in
theorem gL_law_X1_distance : GoodIn wsL_law (wsV RL 100 RX1 yX1_distance wsX1_distance) := goodIn_app (goodIn_of _ (by decide +kernel)) ggL_law_X1_distance
set_option maxRecDepth 20000 in
theorem ggL_law_X0_bearing : GoodIn wsL_law wsX0_bearing := goodIn_r _ [500, 321, 233, 358, 359, 360, 2, 361, 174, 42, 43, 44, 477, 478, 479, 480, 435, 436, 437, 438, 366, 367, 368, 369, 19, 439, 440, 441, 442, 362, 363, 364, 365, 370, 371, 372, 373, 20, 21, 374, 375, 376, 377, 270, 269, 18, 14, 16, 15, 378, 379, 380, 381, 382, 383, 384, 385, 443, 444, 445, 446, 447, 448, 449, 501, 502, 503, 504, 505, 506, 585, 586, 587, 588, 589, 590, 591, 592, 593, 594, 595, 596] (by decide +kernel) (by decide +kernel)
set_option maxRecDepth 20000 in
theorem gL_law_X0_bearing : GoodIn wsL_law (wsV RL 101 RX0 yX0_bearing wsX0_bearing) := goodIn_app (goodIn_of _ (by decide +kernel)) ggL_law_X0_bearing
set_option maxRecDepth 20000 in
theorem ggL_law_X1_bearing : GoodIn wsL_law wsX1_bearing := goodIn_r _ [510, 339, 390, 391, 392, 5, 393, 189, 52, 53, 54, 511, 512, 513, 514, 238, 454, 455, 456, 457, 398, 399, 400, 401, 31, 458, 459, 460, 461, 402, 403, 404, 405, 406, 407, 408, 409, 33, 34, 410, 411, 412, 413, 27, 29, 30, 28, 275, 276, 414, 415, 416, 417, 418, 419, 420, 421, 422, 462, 463, 464, 597, 598, 599, 600, 601, 602, 603, 604, 605, 606, 607, 608, 609, 610, 611, 612, 613] (by decide +kernel) (by decide +kernel)
set_option maxRecDepth 20000 in
theorem gL_law_X1_bearing : GoodIn wsL_law (wsV RL 104 RX1 yX1_bearing wsX1_bearing) := goodIn_app (goodIn_of _ (by decide +kernel)) ggL_law_X1_bearing
set_option maxRecDepth 20000 in
theorem ggL_law_X0_findLost : GoodIn wsL_law wsX0_findLost := goodIn_r _ [518, 215, 18, 243, 233, 16, 216, 217, 218, 2, 219, 174, 42, 43, 44, 366, 367, 368, 369, 19, 439, 440, 441, 442, 244, 245, 246, 247, 443, 444, 445, 446, 370, 371, 372, 373, 20, 21, 374, 375, 376, 377, 270, 269, 14, 15, 378, 379, 380, 381, 382, 383, 384, 385, 519, 520, 521, 522, 481, 482, 483, 523, 524, 525, 585, 586, 587, 588, 589, 590, 591, 592, 593, 594, 595, 596] (by decide +kernel) (by decide +kernel)
set_option maxRecDepth 20000 in
theorem gL_law_X0_findLost : GoodIn wsL_law (wsV RL 105 RX0 yX0_findLost wsX0_findLost) := goodIn_app (goodIn_of _ (by decide +kernel)) ggL_law_X0_findLost
set_option maxRecDepth 20000 in
theorem ggL_law_X1_findLost : GoodIn wsL_law wsX1_findLost := goodIn_r _ [529, 224, 225, 226, 227, 5, 228, 189, 52, 53, 54, 530, 531, 532, 533, 30, 252, 238, 398, 399, 400, 401, 31, 458, 459, 460, 461, 534, 535, 536, 537, 538, 539, 540, 541, 542, 29, 543, 406, 407, 408, 409, 33, 34, 402, 403, 404, 405, 410, 411, 412, 413, 27, 28, 275, 276, 414, 415, 416, 417, 418, 419, 420, 421, 422, 597, 598, 599, 600, 601, 602, 603, 604, 605, 606, 607, 608, 609, 610, 611, 612, 613] (by decide +kernel) (by decide +kernel)
set_option maxRecDepth 20000 in
theorem gL_law_X1_findLost : GoodIn wsL_law (wsV RL 108 RX1 yX1_findLost wsX1_findLost) := goodIn_app (goodIn_of _ (by decide +kernel)) ggL_law_X1_findLost
set_option maxRecDepth 20000 in
theorem ggL_law_X0_digest : GoodIn wsL_law wsX0_digest := goodIn_r _ [547, 548, 174, 270, 269, 549, 550, 2, 551, 552, 553, 554, 555, 556, 16, 557, 286, 287, 288, 215, 18, 243, 14, 216, 217, 218, 219, 42, 43, 44, 558, 298, 299, 300, 15, 559, 560, 561, 562, 19, 362, 363, 364, 365, 366, 367, 368, 369, 370, 371, 372, 373, 20, 21, 374, 375, 376, 377, 378, 379, 380, 381, 382, 383, 384, 385, 435, 436, 437, 438, 439, 440, 441, 442, 443, 444, 445, 446, 447, 448, 449, 563, 474, 475, 476, 321, 358, 359, 360, 361, 477, 478, 479, 480, 481, 482, 483, 484, 485, 486, 564, 498, 499, 500, 233, 501, 502, 503, 504, 505, 506, 565, 566, 567, 568, 569, 516, 517, 518, 244, 245, 246, 247, 519, 520, 521, 522, 523, 524, 525, 570, 571, 572, 573, 40, 13, 585, 586, 587, 588, 589, 590, 591, 592, 593, 594, 595, 596] (by decide +kernel) (by decide +kernel)
set_option maxRecDepth 20000 in
theorem gL_law_X0_digest : GoodIn wsL_law (wsV RL 109 RX0 yX0_digest wsX0_digest) := goodIn_app (goodIn_of _ (by decide +kernel)) ggL_law_X0_digest
set_option maxRecDepth 20000 in
theorem ggL_law_X1_digest : GoodIn wsL_law wsX1_digest := goodIn_r _ [577, 578, 579, 189, 29, 30, 276, 275, 31, 50, 26, 580, 581, 582, 5, 583, 584, 293, 294, 295, 296, 252, 27, 305, 306, 307, 308, 28, 394, 395, 396, 397, 398, 399, 400, 401, 402, 403, 404, 405, 406, 407, 408, 409, 33, 34, 410, 411, 412, 413, 414, 415, 416, 417, 418, 419, 420, 421, 422, 454, 455, 456, 457, 458, 459, 460, 461, 462, 463, 464, 491, 492, 493, 494, 495, 496, 511, 512, 513, 514, 238, 530, 531, 532, 533, 534, 535, 536, 537, 538, 539, 540, 541, 542, 543, 597, 598, 599, 600, 601, 602, 603, 604, 605, 606, 607, 608, 609, 610, 611, 612, 613] (by decide +kernel) (by decide +kernel)
set_option maxRecDepth 20000 in
theorem gL_law_X1_digest : GoodIn wsL_law (wsV RL 112 RX1 yX1_digest wsX1_digest) := goodIn_app (goodIn_of _ (by decide +kernel)) ggL_law_X1_digest
theorem dL_law_0 : decode cL_law 0 = .ok (.new 7, 3) := by decide +kernel
theorem dL_law_3 : decode cL_law 3 = .ok (.dup, 1) := by decide +kernel
theorem dL_law_4 : decode cL_law 4 = .ok (.invokespecial 9, 3) := by decide +kernel
theorem dL_law_7 : decode cL_law 7 = .ok (.astore_n 1, 1) := by decide +kernel
theorem dL_law_8 : decode cL_law 8 = .ok (.new 10, 3) := by decide +kernel
theorem dL_law_11 : decode cL_law 11 = .ok (.dup, 1) := by decide +kernel
theorem dL_law_12 : decode cL_law 12 = .ok (.invokespecial 12, 3) := by decide +kernel
theorem dL_law_15 : decode cL_law 15 = .ok (.astore_n 2, 1) := by decide +kernel
theorem dL_law_16 : decode cL_law 16 = .ok (.iconst 0, 1) := by decide +kernel
theorem dL_law_17 : decode cL_law 17 = .ok (.istore_n 3, 1) := by decide +kernel
theorem dL_law_18 : decode cL_law 18 = .ok (.iload_n 3, 1) := by decide +kernel
theorem dL_law_19 : decode cL_law 19 = .ok (.aload_n 0, 1) := by decide +kernel
theorem dL_law_20 : decode cL_law 20 = .ok (.arraylength, 1) := by decide +kernel
theorem dL_law_21 : decode cL_law 21 = .ok (.iconst 4, 1) := by decide +kernel
theorem dL_law_22 : decode cL_law 22 = .ok (.isub, 1) := by decide +kernel
theorem dL_law_23 : decode cL_law 23 = .ok (.if_icmp .gt 733, 3) := by decide +kernel
theorem dL_law_26 : decode cL_law 26 = .ok (.aload_n 0, 1) := by decide +kernel
theorem dL_law_27 : decode cL_law 27 = .ok (.iload_n 3, 1) := by decide +kernel
theorem dL_law_28 : decode cL_law 28 = .ok (.iaload, 1) := by decide +kernel
theorem dL_law_29 : decode cL_law 29 = .ok (.bipush 31, 2) := by decide +kernel
theorem dL_law_31 : decode cL_law 31 = .ok (.iand, 1) := by decide +kernel
theorem dL_law_32 : decode cL_law 32 = .ok (.tableswitch 718 0 23 #[112, 136, 150, 164, 178, 212, 256, 270, 294, 328, 362, 376, 400, 424, 448, 492, 516, 540, 564, 588, 612, 646, 680, 704], 112) := by decide +kernel
theorem dL_law_144 : decode cL_law 144 = .ok (.aload_n 1, 1) := by decide +kernel
theorem dL_law_145 : decode cL_law 145 = .ok (.aload_n 0, 1) := by decide +kernel
theorem dL_law_146 : decode cL_law 146 = .ok (.iload_n 3, 1) := by decide +kernel
theorem dL_law_147 : decode cL_law 147 = .ok (.iconst 1, 1) := by decide +kernel
theorem dL_law_148 : decode cL_law 148 = .ok (.iadd, 1) := by decide +kernel
theorem dL_law_149 : decode cL_law 149 = .ok (.iaload, 1) := by decide +kernel
theorem dL_law_150 : decode cL_law 150 = .ok (.invokevirtual 13, 3) := by decide +kernel
theorem dL_law_153 : decode cL_law 153 = .ok (.aload_n 2, 1) := by decide +kernel
theorem dL_law_154 : decode cL_law 154 = .ok (.aload_n 0, 1) := by decide +kernel
theorem dL_law_155 : decode cL_law 155 = .ok (.iload_n 3, 1) := by decide +kernel
theorem dL_law_156 : decode cL_law 156 = .ok (.iconst 1, 1) := by decide +kernel
theorem dL_law_157 : decode cL_law 157 = .ok (.iadd, 1) := by decide +kernel
theorem dL_law_158 : decode cL_law 158 = .ok (.iaload, 1) := by decide +kernel
theorem dL_law_159 : decode cL_law 159 = .ok (.invokevirtual 17, 3) := by decide +kernel
theorem dL_law_162 : decode cL_law 162 = .ok (.lcmp, 1) := by decide +kernel
theorem dL_law_163 : decode cL_law 163 = .ok (.ifCond .eq 587, 3) := by decide +kernel
theorem dL_law_166 : decode cL_law 166 = .ok (.iconst 0, 1) := by decide +kernel
theorem dL_law_167 : decode cL_law 167 = .ok (.ireturn, 1) := by decide +kernel
theorem dL_law_168 : decode cL_law 168 = .ok (.aload_n 1, 1) := by decide +kernel
theorem dL_law_169 : decode cL_law 169 = .ok (.invokevirtual 18, 3) := by decide +kernel
theorem dL_law_172 : decode cL_law 172 = .ok (.aload_n 2, 1) := by decide +kernel
theorem dL_law_173 : decode cL_law 173 = .ok (.invokevirtual 22, 3) := by decide +kernel
theorem dL_law_176 : decode cL_law 176 = .ok (.lcmp, 1) := by decide +kernel
theorem dL_law_177 : decode cL_law 177 = .ok (.ifCond .eq 573, 3) := by decide +kernel
theorem dL_law_180 : decode cL_law 180 = .ok (.iconst 0, 1) := by decide +kernel
theorem dL_law_181 : decode cL_law 181 = .ok (.ireturn, 1) := by decide +kernel
theorem dL_law_182 : decode cL_law 182 = .ok (.aload_n 1, 1) := by decide +kernel
theorem dL_law_183 : decode cL_law 183 = .ok (.invokevirtual 23, 3) := by decide +kernel
theorem dL_law_186 : decode cL_law 186 = .ok (.aload_n 2, 1) := by decide +kernel
theorem dL_law_187 : decode cL_law 187 = .ok (.invokevirtual 26, 3) := by decide +kernel
theorem dL_law_190 : decode cL_law 190 = .ok (.lcmp, 1) := by decide +kernel
theorem dL_law_191 : decode cL_law 191 = .ok (.ifCond .eq 559, 3) := by decide +kernel
theorem dL_law_194 : decode cL_law 194 = .ok (.iconst 0, 1) := by decide +kernel
theorem dL_law_195 : decode cL_law 195 = .ok (.ireturn, 1) := by decide +kernel
theorem dL_law_196 : decode cL_law 196 = .ok (.aload_n 1, 1) := by decide +kernel
theorem dL_law_197 : decode cL_law 197 = .ok (.invokevirtual 27, 3) := by decide +kernel
theorem dL_law_200 : decode cL_law 200 = .ok (.aload_n 2, 1) := by decide +kernel
theorem dL_law_201 : decode cL_law 201 = .ok (.invokevirtual 30, 3) := by decide +kernel
theorem dL_law_204 : decode cL_law 204 = .ok (.lcmp, 1) := by decide +kernel
theorem dL_law_205 : decode cL_law 205 = .ok (.ifCond .eq 545, 3) := by decide +kernel
theorem dL_law_208 : decode cL_law 208 = .ok (.iconst 0, 1) := by decide +kernel
theorem dL_law_209 : decode cL_law 209 = .ok (.ireturn, 1) := by decide +kernel
theorem dL_law_210 : decode cL_law 210 = .ok (.aload_n 1, 1) := by decide +kernel
theorem dL_law_211 : decode cL_law 211 = .ok (.aload_n 0, 1) := by decide +kernel
theorem dL_law_212 : decode cL_law 212 = .ok (.iload_n 3, 1) := by decide +kernel
theorem dL_law_213 : decode cL_law 213 = .ok (.iconst 1, 1) := by decide +kernel
theorem dL_law_214 : decode cL_law 214 = .ok (.iadd, 1) := by decide +kernel
theorem dL_law_215 : decode cL_law 215 = .ok (.iaload, 1) := by decide +kernel
theorem dL_law_216 : decode cL_law 216 = .ok (.aload_n 0, 1) := by decide +kernel
theorem dL_law_217 : decode cL_law 217 = .ok (.iload_n 3, 1) := by decide +kernel
theorem dL_law_218 : decode cL_law 218 = .ok (.iconst 2, 1) := by decide +kernel
theorem dL_law_219 : decode cL_law 219 = .ok (.iadd, 1) := by decide +kernel
theorem dL_law_220 : decode cL_law 220 = .ok (.iaload, 1) := by decide +kernel
theorem dL_law_221 : decode cL_law 221 = .ok (.invokevirtual 31, 3) := by decide +kernel
theorem dL_law_224 : decode cL_law 224 = .ok (.aload_n 2, 1) := by decide +kernel
theorem dL_law_225 : decode cL_law 225 = .ok (.aload_n 0, 1) := by decide +kernel
theorem dL_law_226 : decode cL_law 226 = .ok (.iload_n 3, 1) := by decide +kernel
theorem dL_law_227 : decode cL_law 227 = .ok (.iconst 1, 1) := by decide +kernel
theorem dL_law_228 : decode cL_law 228 = .ok (.iadd, 1) := by decide +kernel
theorem dL_law_229 : decode cL_law 229 = .ok (.iaload, 1) := by decide +kernel
theorem dL_law_230 : decode cL_law 230 = .ok (.aload_n 0, 1) := by decide +kernel
theorem dL_law_231 : decode cL_law 231 = .ok (.iload_n 3, 1) := by decide +kernel
theorem dL_law_232 : decode cL_law 232 = .ok (.iconst 2, 1) := by decide +kernel
theorem dL_law_233 : decode cL_law 233 = .ok (.iadd, 1) := by decide +kernel
theorem dL_law_234 : decode cL_law 234 = .ok (.iaload, 1) := by decide +kernel
theorem dL_law_235 : decode cL_law 235 = .ok (.invokevirtual 35, 3) := by decide +kernel
theorem dL_law_238 : decode cL_law 238 = .ok (.lcmp, 1) := by decide +kernel
theorem dL_law_239 : decode cL_law 239 = .ok (.ifCond .eq 511, 3) := by decide +kernel
theorem dL_law_242 : decode cL_law 242 = .ok (.iconst 0, 1) := by decide +kernel
theorem dL_law_243 : decode cL_law 243 = .ok (.ireturn, 1) := by decide +kernel
theorem dL_law_244 : decode cL_law 244 = .ok (.aload_n 1, 1) := by decide +kernel
theorem dL_law_245 : decode cL_law 245 = .ok (.aload_n 0, 1) := by decide +kernel
theorem dL_law_246 : decode cL_law 246 = .ok (.iload_n 3, 1) := by decide +kernel
theorem dL_law_247 : decode cL_law 247 = .ok (.iconst 1, 1) := by decide +kernel
theorem dL_law_248 : decode cL_law 248 = .ok (.iadd, 1) := by decide +kernel
theorem dL_law_249 : decode cL_law 249 = .ok (.iaload, 1) := by decide +kernel
theorem dL_law_250 : decode cL_law 250 = .ok (.aload_n 0, 1) := by decide +kernel
theorem dL_law_251 : decode cL_law 251 = .ok (.iload_n 3, 1) := by decide +kernel
theorem dL_law_252 : decode cL_law 252 = .ok (.iconst 2, 1) := by decide +kernel
theorem dL_law_253 : decode cL_law 253 = .ok (.iadd, 1) := by decide +kernel
theorem dL_law_254 : decode cL_law 254 = .ok (.iaload, 1) := by decide +kernel
theorem dL_law_255 : decode cL_law 255 = .ok (.aload_n 0, 1) := by decide +kernel
theorem dL_law_256 : decode cL_law 256 = .ok (.iload_n 3, 1) := by decide +kernel
theorem dL_law_257 : decode cL_law 257 = .ok (.iconst 3, 1) := by decide +kernel
theorem dL_law_258 : decode cL_law 258 = .ok (.iadd, 1) := by decide +kernel
theorem dL_law_259 : decode cL_law 259 = .ok (.iaload, 1) := by decide +kernel
theorem dL_law_260 : decode cL_law 260 = .ok (.invokevirtual 36, 3) := by decide +kernel
theorem dL_law_263 : decode cL_law 263 = .ok (.aload_n 2, 1) := by decide +kernel
theorem dL_law_264 : decode cL_law 264 = .ok (.aload_n 0, 1) := by decide +kernel
theorem dL_law_265 : decode cL_law 265 = .ok (.iload_n 3, 1) := by decide +kernel
theorem dL_law_266 : decode cL_law 266 = .ok (.iconst 1, 1) := by decide +kernel
theorem dL_law_267 : decode cL_law 267 = .ok (.iadd, 1) := by decide +kernel
theorem dL_law_268 : decode cL_law 268 = .ok (.iaload, 1) := by decide +kernel
theorem dL_law_269 : decode cL_law 269 = .ok (.aload_n 0, 1) := by decide +kernel
theorem dL_law_270 : decode cL_law 270 = .ok (.iload_n 3, 1) := by decide +kernel
theorem dL_law_271 : decode cL_law 271 = .ok (.iconst 2, 1) := by decide +kernel
theorem dL_law_272 : decode cL_law 272 = .ok (.iadd, 1) := by decide +kernel
theorem dL_law_273 : decode cL_law 273 = .ok (.iaload, 1) := by decide +kernel
theorem dL_law_274 : decode cL_law 274 = .ok (.aload_n 0, 1) := by decide +kernel
theorem dL_law_275 : decode cL_law 275 = .ok (.iload_n 3, 1) := by decide +kernel
theorem dL_law_276 : decode cL_law 276 = .ok (.iconst 3, 1) := by decide +kernel
theorem dL_law_277 : decode cL_law 277 = .ok (.iadd, 1) := by decide +kernel
theorem dL_law_278 : decode cL_law 278 = .ok (.iaload, 1) := by decide +kernel
theorem dL_law_279 : decode cL_law 279 = .ok (.invokevirtual 40, 3) := by decide +kernel
theorem dL_law_282 : decode cL_law 282 = .ok (.lcmp, 1) := by decide +kernel
theorem dL_law_283 : decode cL_law 283 = .ok (.ifCond .eq 467, 3) := by decide +kernel
theorem dL_law_286 : decode cL_law 286 = .ok (.iconst 0, 1) := by decide +kernel
theorem dL_law_287 : decode cL_law 287 = .ok (.ireturn, 1) := by decide +kernel
theorem dL_law_288 : decode cL_law 288 = .ok (.aload_n 1, 1) := by decide +kernel
theorem dL_law_289 : decode cL_law 289 = .ok (.invokevirtual 41, 3) := by decide +kernel
theorem dL_law_292 : decode cL_law 292 = .ok (.aload_n 2, 1) := by decide +kernel
theorem dL_law_293 : decode cL_law 293 = .ok (.invokevirtual 44, 3) := by decide +kernel
theorem dL_law_296 : decode cL_law 296 = .ok (.lcmp, 1) := by decide +kernel
theorem dL_law_297 : decode cL_law 297 = .ok (.ifCond .eq 453, 3) := by decide +kernel
theorem dL_law_300 : decode cL_law 300 = .ok (.iconst 0, 1) := by decide +kernel
theorem dL_law_301 : decode cL_law 301 = .ok (.ireturn, 1) := by decide +kernel
theorem dL_law_302 : decode cL_law 302 = .ok (.aload_n 1, 1) := by decide +kernel
theorem dL_law_303 : decode cL_law 303 = .ok (.aload_n 0, 1) := by decide +kernel
theorem dL_law_304 : decode cL_law 304 = .ok (.iload_n 3, 1) := by decide +kernel
theorem dL_law_305 : decode cL_law 305 = .ok (.iconst 1, 1) := by decide +kernel
theorem dL_law_306 : decode cL_law 306 = .ok (.iadd, 1) := by decide +kernel
theorem dL_law_307 : decode cL_law 307 = .ok (.iaload, 1) := by decide +kernel
theorem dL_law_308 : decode cL_law 308 = .ok (.invokevirtual 45, 3) := by decide +kernel
theorem dL_law_311 : decode cL_law 311 = .ok (.aload_n 2, 1) := by decide +kernel
theorem dL_law_312 : decode cL_law 312 = .ok (.aload_n 0, 1) := by decide +kernel
theorem dL_law_313 : decode cL_law 313 = .ok (.iload_n 3, 1) := by decide +kernel
theorem dL_law_314 : decode cL_law 314 = .ok (.iconst 1, 1) := by decide +kernel
theorem dL_law_315 : decode cL_law 315 = .ok (.iadd, 1) := by decide +kernel
theorem dL_law_316 : decode cL_law 316 = .ok (.iaload, 1) := by decide +kernel
theorem dL_law_317 : decode cL_law 317 = .ok (.invokevirtual 48, 3) := by decide +kernel
theorem dL_law_320 : decode cL_law 320 = .ok (.lcmp, 1) := by decide +kernel
theorem dL_law_321 : decode cL_law 321 = .ok (.ifCond .eq 429, 3) := by decide +kernel
theorem dL_law_324 : decode cL_law 324 = .ok (.iconst 0, 1) := by decide +kernel
theorem dL_law_325 : decode cL_law 325 = .ok (.ireturn, 1) := by decide +kernel
theorem dL_law_326 : decode cL_law 326 = .ok (.aload_n 1, 1) := by decide +kernel
theorem dL_law_327 : decode cL_law 327 = .ok (.aload_n 0, 1) := by decide +kernel
theorem dL_law_328 : decode cL_law 328 = .ok (.iload_n 3, 1) := by decide +kernel
theorem dL_law_329 : decode cL_law 329 = .ok (.iconst 1, 1) := by decide +kernel
theorem dL_law_330 : decode cL_law 330 = .ok (.iadd, 1) := by decide +kernel
theorem dL_law_331 : decode cL_law 331 = .ok (.iaload, 1) := by decide +kernel
theorem dL_law_332 : decode cL_law 332 = .ok (.aload_n 0, 1) := by decide +kernel
theorem dL_law_333 : decode cL_law 333 = .ok (.iload_n 3, 1) := by decide +kernel
theorem dL_law_334 : decode cL_law 334 = .ok (.iconst 2, 1) := by decide +kernel
theorem dL_law_335 : decode cL_law 335 = .ok (.iadd, 1) := by decide +kernel
theorem dL_law_336 : decode cL_law 336 = .ok (.iaload, 1) := by decide +kernel
theorem dL_law_337 : decode cL_law 337 = .ok (.invokevirtual 49, 3) := by decide +kernel
theorem dL_law_340 : decode cL_law 340 = .ok (.aload_n 2, 1) := by decide +kernel
theorem dL_law_341 : decode cL_law 341 = .ok (.aload_n 0, 1) := by decide +kernel
theorem dL_law_342 : decode cL_law 342 = .ok (.iload_n 3, 1) := by decide +kernel
theorem dL_law_343 : decode cL_law 343 = .ok (.iconst 1, 1) := by decide +kernel
theorem dL_law_344 : decode cL_law 344 = .ok (.iadd, 1) := by decide +kernel
theorem dL_law_345 : decode cL_law 345 = .ok (.iaload, 1) := by decide +kernel
theorem dL_law_346 : decode cL_law 346 = .ok (.aload_n 0, 1) := by decide +kernel
theorem dL_law_347 : decode cL_law 347 = .ok (.iload_n 3, 1) := by decide +kernel
theorem dL_law_348 : decode cL_law 348 = .ok (.iconst 2, 1) := by decide +kernel
theorem dL_law_349 : decode cL_law 349 = .ok (.iadd, 1) := by decide +kernel
theorem dL_law_350 : decode cL_law 350 = .ok (.iaload, 1) := by decide +kernel
theorem dL_law_351 : decode cL_law 351 = .ok (.invokevirtual 52, 3) := by decide +kernel
theorem dL_law_354 : decode cL_law 354 = .ok (.lcmp, 1) := by decide +kernel
theorem dL_law_355 : decode cL_law 355 = .ok (.ifCond .eq 395, 3) := by decide +kernel
theorem dL_law_358 : decode cL_law 358 = .ok (.iconst 0, 1) := by decide +kernel
theorem dL_law_359 : decode cL_law 359 = .ok (.ireturn, 1) := by decide +kernel
theorem dL_law_360 : decode cL_law 360 = .ok (.aload_n 1, 1) := by decide +kernel
theorem dL_law_361 : decode cL_law 361 = .ok (.aload_n 0, 1) := by decide +kernel
theorem dL_law_362 : decode cL_law 362 = .ok (.iload_n 3, 1) := by decide +kernel
theorem dL_law_363 : decode cL_law 363 = .ok (.iconst 1, 1) := by decide +kernel
theorem dL_law_364 : decode cL_law 364 = .ok (.iadd, 1) := by decide +kernel
theorem dL_law_365 : decode cL_law 365 = .ok (.iaload, 1) := by decide +kernel
theorem dL_law_366 : decode cL_law 366 = .ok (.aload_n 0, 1) := by decide +kernel
theorem dL_law_367 : decode cL_law 367 = .ok (.iload_n 3, 1) := by decide +kernel
theorem dL_law_368 : decode cL_law 368 = .ok (.iconst 2, 1) := by decide +kernel
theorem dL_law_369 : decode cL_law 369 = .ok (.iadd, 1) := by decide +kernel
end
section
theorem dL_law_370 : decode cL_law 370 = .ok (.iaload, 1) := by decide +kernel
theorem dL_law_371 : decode cL_law 371 = .ok (.invokevirtual 53, 3) := by decide +kernel
theorem dL_law_374 : decode cL_law 374 = .ok (.aload_n 2, 1) := by decide +kernel
theorem dL_law_375 : decode cL_law 375 = .ok (.aload_n 0, 1) := by decide +kernel
theorem dL_law_376 : decode cL_law 376 = .ok (.iload_n 3, 1) := by decide +kernel
theorem dL_law_377 : decode cL_law 377 = .ok (.iconst 1, 1) := by decide +kernel
theorem dL_law_378 : decode cL_law 378 = .ok (.iadd, 1) := by decide +kernel
theorem dL_law_379 : decode cL_law 379 = .ok (.iaload, 1) := by decide +kernel
theorem dL_law_380 : decode cL_law 380 = .ok (.aload_n 0, 1) := by decide +kernel
theorem dL_law_381 : decode cL_law 381 = .ok (.iload_n 3, 1) := by decide +kernel
theorem dL_law_382 : decode cL_law 382 = .ok (.iconst 2, 1) := by decide +kernel
theorem dL_law_383 : decode cL_law 383 = .ok (.iadd, 1) := by decide +kernel
theorem dL_law_384 : decode cL_law 384 = .ok (.iaload, 1) := by decide +kernel
theorem dL_law_385 : decode cL_law 385 = .ok (.invokevirtual 56, 3) := by decide +kernel
theorem dL_law_388 : decode cL_law 388 = .ok (.lcmp, 1) := by decide +kernel
theorem dL_law_389 : decode cL_law 389 = .ok (.ifCond .eq 361, 3) := by decide +kernel
theorem dL_law_392 : decode cL_law 392 = .ok (.iconst 0, 1) := by decide +kernel
theorem dL_law_393 : decode cL_law 393 = .ok (.ireturn, 1) := by decide +kernel
theorem dL_law_394 : decode cL_law 394 = .ok (.aload_n 1, 1) := by decide +kernel
theorem dL_law_395 : decode cL_law 395 = .ok (.invokevirtual 57, 3) := by decide +kernel
theorem dL_law_398 : decode cL_law 398 = .ok (.aload_n 2, 1) := by decide +kernel
theorem dL_law_399 : decode cL_law 399 = .ok (.invokevirtual 60, 3) := by decide +kernel
theorem dL_law_402 : decode cL_law 402 = .ok (.lcmp, 1) := by decide +kernel
theorem dL_law_403 : decode cL_law 403 = .ok (.ifCond .eq 347, 3) := by decide +kernel
theorem dL_law_406 : decode cL_law 406 = .ok (.iconst 0, 1) := by decide +kernel
theorem dL_law_407 : decode cL_law 407 = .ok (.ireturn, 1) := by decide +kernel
theorem dL_law_408 : decode cL_law 408 = .ok (.aload_n 1, 1) := by decide +kernel
theorem dL_law_409 : decode cL_law 409 = .ok (.aload_n 0, 1) := by decide +kernel
theorem dL_law_410 : decode cL_law 410 = .ok (.iload_n 3, 1) := by decide +kernel
theorem dL_law_411 : decode cL_law 411 = .ok (.iconst 1, 1) := by decide +kernel
theorem dL_law_412 : decode cL_law 412 = .ok (.iadd, 1) := by decide +kernel
theorem dL_law_413 : decode cL_law 413 = .ok (.iaload, 1) := by decide +kernel
theorem dL_law_414 : decode cL_law 414 = .ok (.invokevirtual 61, 3) := by decide +kernel
theorem dL_law_417 : decode cL_law 417 = .ok (.aload_n 2, 1) := by decide +kernel
theorem dL_law_418 : decode cL_law 418 = .ok (.aload_n 0, 1) := by decide +kernel
theorem dL_law_419 : decode cL_law 419 = .ok (.iload_n 3, 1) := by decide +kernel
theorem dL_law_420 : decode cL_law 420 = .ok (.iconst 1, 1) := by decide +kernel
theorem dL_law_421 : decode cL_law 421 = .ok (.iadd, 1) := by decide +kernel
theorem dL_law_422 : decode cL_law 422 = .ok (.iaload, 1) := by decide +kernel
theorem dL_law_423 : decode cL_law 423 = .ok (.invokevirtual 64, 3) := by decide +kernel
theorem dL_law_426 : decode cL_law 426 = .ok (.lcmp, 1) := by decide +kernel
theorem dL_law_427 : decode cL_law 427 = .ok (.ifCond .eq 323, 3) := by decide +kernel
theorem dL_law_430 : decode cL_law 430 = .ok (.iconst 0, 1) := by decide +kernel
theorem dL_law_431 : decode cL_law 431 = .ok (.ireturn, 1) := by decide +kernel
theorem dL_law_432 : decode cL_law 432 = .ok (.aload_n 1, 1) := by decide +kernel
theorem dL_law_433 : decode cL_law 433 = .ok (.aload_n 0, 1) := by decide +kernel
theorem dL_law_434 : decode cL_law 434 = .ok (.iload_n 3, 1) := by decide +kernel
theorem dL_law_435 : decode cL_law 435 = .ok (.iconst 1, 1) := by decide +kernel
theorem dL_law_436 : decode cL_law 436 = .ok (.iadd, 1) := by decide +kernel
theorem dL_law_437 : decode cL_law 437 = .ok (.iaload, 1) := by decide +kernel
theorem dL_law_438 : decode cL_law 438 = .ok (.invokevirtual 65, 3) := by decide +kernel
theorem dL_law_441 : decode cL_law 441 = .ok (.aload_n 2, 1) := by decide +kernel
theorem dL_law_442 : decode cL_law 442 = .ok (.aload_n 0, 1) := by decide +kernel
theorem dL_law_443 : decode cL_law 443 = .ok (.iload_n 3, 1) := by decide +kernel
theorem dL_law_444 : decode cL_law 444 = .ok (.iconst 1, 1) := by decide +kernel
theorem dL_law_445 : decode cL_law 445 = .ok (.iadd, 1) := by decide +kernel
theorem dL_law_446 : decode cL_law 446 = .ok (.iaload, 1) := by decide +kernel
theorem dL_law_447 : decode cL_law 447 = .ok (.invokevirtual 68, 3) := by decide +kernel
theorem dL_law_450 : decode cL_law 450 = .ok (.lcmp, 1) := by decide +kernel
theorem dL_law_451 : decode cL_law 451 = .ok (.ifCond .eq 299, 3) := by decide +kernel
theorem dL_law_454 : decode cL_law 454 = .ok (.iconst 0, 1) := by decide +kernel
theorem dL_law_455 : decode cL_law 455 = .ok (.ireturn, 1) := by decide +kernel
theorem dL_law_456 : decode cL_law 456 = .ok (.aload_n 1, 1) := by decide +kernel
theorem dL_law_457 : decode cL_law 457 = .ok (.aload_n 0, 1) := by decide +kernel
theorem dL_law_458 : decode cL_law 458 = .ok (.iload_n 3, 1) := by decide +kernel
theorem dL_law_459 : decode cL_law 459 = .ok (.iconst 1, 1) := by decide +kernel
theorem dL_law_460 : decode cL_law 460 = .ok (.iadd, 1) := by decide +kernel
theorem dL_law_461 : decode cL_law 461 = .ok (.iaload, 1) := by decide +kernel
theorem dL_law_462 : decode cL_law 462 = .ok (.invokevirtual 69, 3) := by decide +kernel
theorem dL_law_465 : decode cL_law 465 = .ok (.aload_n 2, 1) := by decide +kernel
theorem dL_law_466 : decode cL_law 466 = .ok (.aload_n 0, 1) := by decide +kernel
theorem dL_law_467 : decode cL_law 467 = .ok (.iload_n 3, 1) := by decide +kernel
theorem dL_law_468 : decode cL_law 468 = .ok (.iconst 1, 1) := by decide +kernel
theorem dL_law_469 : decode cL_law 469 = .ok (.iadd, 1) := by decide +kernel
theorem dL_law_470 : decode cL_law 470 = .ok (.iaload, 1) := by decide +kernel
theorem dL_law_471 : decode cL_law 471 = .ok (.invokevirtual 72, 3) := by decide +kernel
theorem dL_law_474 : decode cL_law 474 = .ok (.lcmp, 1) := by decide +kernel
theorem dL_law_475 : decode cL_law 475 = .ok (.ifCond .eq 275, 3) := by decide +kernel
theorem dL_law_478 : decode cL_law 478 = .ok (.iconst 0, 1) := by decide +kernel
theorem dL_law_479 : decode cL_law 479 = .ok (.ireturn, 1) := by decide +kernel
theorem dL_law_480 : decode cL_law 480 = .ok (.aload_n 1, 1) := by decide +kernel
theorem dL_law_481 : decode cL_law 481 = .ok (.aload_n 0, 1) := by decide +kernel
theorem dL_law_482 : decode cL_law 482 = .ok (.iload_n 3, 1) := by decide +kernel
theorem dL_law_483 : decode cL_law 483 = .ok (.iconst 1, 1) := by decide +kernel
theorem dL_law_484 : decode cL_law 484 = .ok (.iadd, 1) := by decide +kernel
theorem dL_law_485 : decode cL_law 485 = .ok (.iaload, 1) := by decide +kernel
theorem dL_law_486 : decode cL_law 486 = .ok (.aload_n 0, 1) := by decide +kernel
theorem dL_law_487 : decode cL_law 487 = .ok (.iload_n 3, 1) := by decide +kernel
theorem dL_law_488 : decode cL_law 488 = .ok (.iconst 2, 1) := by decide +kernel
theorem dL_law_489 : decode cL_law 489 = .ok (.iadd, 1) := by decide +kernel
theorem dL_law_490 : decode cL_law 490 = .ok (.iaload, 1) := by decide +kernel
theorem dL_law_491 : decode cL_law 491 = .ok (.aload_n 0, 1) := by decide +kernel
theorem dL_law_492 : decode cL_law 492 = .ok (.iload_n 3, 1) := by decide +kernel
theorem dL_law_493 : decode cL_law 493 = .ok (.iconst 3, 1) := by decide +kernel
theorem dL_law_494 : decode cL_law 494 = .ok (.iadd, 1) := by decide +kernel
theorem dL_law_495 : decode cL_law 495 = .ok (.iaload, 1) := by decide +kernel
theorem dL_law_496 : decode cL_law 496 = .ok (.invokevirtual 73, 3) := by decide +kernel
theorem dL_law_499 : decode cL_law 499 = .ok (.aload_n 2, 1) := by decide +kernel
theorem dL_law_500 : decode cL_law 500 = .ok (.aload_n 0, 1) := by decide +kernel
theorem dL_law_501 : decode cL_law 501 = .ok (.iload_n 3, 1) := by decide +kernel
theorem dL_law_502 : decode cL_law 502 = .ok (.iconst 1, 1) := by decide +kernel
theorem dL_law_503 : decode cL_law 503 = .ok (.iadd, 1) := by decide +kernel
theorem dL_law_504 : decode cL_law 504 = .ok (.iaload, 1) := by decide +kernel
theorem dL_law_505 : decode cL_law 505 = .ok (.aload_n 0, 1) := by decide +kernel
theorem dL_law_506 : decode cL_law 506 = .ok (.iload_n 3, 1) := by decide +kernel
theorem dL_law_507 : decode cL_law 507 = .ok (.iconst 2, 1) := by decide +kernel
theorem dL_law_508 : decode cL_law 508 = .ok (.iadd, 1) := by decide +kernel
theorem dL_law_509 : decode cL_law 509 = .ok (.iaload, 1) := by decide +kernel
theorem dL_law_510 : decode cL_law 510 = .ok (.aload_n 0, 1) := by decide +kernel
theorem dL_law_511 : decode cL_law 511 = .ok (.iload_n 3, 1) := by decide +kernel
theorem dL_law_512 : decode cL_law 512 = .ok (.iconst 3, 1) := by decide +kernel
theorem dL_law_513 : decode cL_law 513 = .ok (.iadd, 1) := by decide +kernel
theorem dL_law_514 : decode cL_law 514 = .ok (.iaload, 1) := by decide +kernel
theorem dL_law_515 : decode cL_law 515 = .ok (.invokevirtual 76, 3) := by decide +kernel
theorem dL_law_518 : decode cL_law 518 = .ok (.lcmp, 1) := by decide +kernel
theorem dL_law_519 : decode cL_law 519 = .ok (.ifCond .eq 231, 3) := by decide +kernel
theorem dL_law_522 : decode cL_law 522 = .ok (.iconst 0, 1) := by decide +kernel
theorem dL_law_523 : decode cL_law 523 = .ok (.ireturn, 1) := by decide +kernel
theorem dL_law_524 : decode cL_law 524 = .ok (.aload_n 1, 1) := by decide +kernel
theorem dL_law_525 : decode cL_law 525 = .ok (.aload_n 0, 1) := by decide +kernel
theorem dL_law_526 : decode cL_law 526 = .ok (.iload_n 3, 1) := by decide +kernel
theorem dL_law_527 : decode cL_law 527 = .ok (.iconst 1, 1) := by decide +kernel
theorem dL_law_528 : decode cL_law 528 = .ok (.iadd, 1) := by decide +kernel
theorem dL_law_529 : decode cL_law 529 = .ok (.iaload, 1) := by decide +kernel
theorem dL_law_530 : decode cL_law 530 = .ok (.invokevirtual 77, 3) := by decide +kernel
theorem dL_law_533 : decode cL_law 533 = .ok (.aload_n 2, 1) := by decide +kernel
theorem dL_law_534 : decode cL_law 534 = .ok (.aload_n 0, 1) := by decide +kernel
theorem dL_law_535 : decode cL_law 535 = .ok (.iload_n 3, 1) := by decide +kernel
theorem dL_law_536 : decode cL_law 536 = .ok (.iconst 1, 1) := by decide +kernel
theorem dL_law_537 : decode cL_law 537 = .ok (.iadd, 1) := by decide +kernel
theorem dL_law_538 : decode cL_law 538 = .ok (.iaload, 1) := by decide +kernel
theorem dL_law_539 : decode cL_law 539 = .ok (.invokevirtual 80, 3) := by decide +kernel
theorem dL_law_542 : decode cL_law 542 = .ok (.lcmp, 1) := by decide +kernel
theorem dL_law_543 : decode cL_law 543 = .ok (.ifCond .eq 207, 3) := by decide +kernel
theorem dL_law_546 : decode cL_law 546 = .ok (.iconst 0, 1) := by decide +kernel
theorem dL_law_547 : decode cL_law 547 = .ok (.ireturn, 1) := by decide +kernel
theorem dL_law_548 : decode cL_law 548 = .ok (.aload_n 1, 1) := by decide +kernel
theorem dL_law_549 : decode cL_law 549 = .ok (.aload_n 0, 1) := by decide +kernel
theorem dL_law_550 : decode cL_law 550 = .ok (.iload_n 3, 1) := by decide +kernel
theorem dL_law_551 : decode cL_law 551 = .ok (.iconst 1, 1) := by decide +kernel
theorem dL_law_552 : decode cL_law 552 = .ok (.iadd, 1) := by decide +kernel
theorem dL_law_553 : decode cL_law 553 = .ok (.iaload, 1) := by decide +kernel
theorem dL_law_554 : decode cL_law 554 = .ok (.invokevirtual 81, 3) := by decide +kernel
theorem dL_law_557 : decode cL_law 557 = .ok (.aload_n 2, 1) := by decide +kernel
theorem dL_law_558 : decode cL_law 558 = .ok (.aload_n 0, 1) := by decide +kernel
theorem dL_law_559 : decode cL_law 559 = .ok (.iload_n 3, 1) := by decide +kernel
theorem dL_law_560 : decode cL_law 560 = .ok (.iconst 1, 1) := by decide +kernel
theorem dL_law_561 : decode cL_law 561 = .ok (.iadd, 1) := by decide +kernel
theorem dL_law_562 : decode cL_law 562 = .ok (.iaload, 1) := by decide +kernel
theorem dL_law_563 : decode cL_law 563 = .ok (.invokevirtual 84, 3) := by decide +kernel
theorem dL_law_566 : decode cL_law 566 = .ok (.lcmp, 1) := by decide +kernel
theorem dL_law_567 : decode cL_law 567 = .ok (.ifCond .eq 183, 3) := by decide +kernel
theorem dL_law_570 : decode cL_law 570 = .ok (.iconst 0, 1) := by decide +kernel
theorem dL_law_571 : decode cL_law 571 = .ok (.ireturn, 1) := by decide +kernel
theorem dL_law_572 : decode cL_law 572 = .ok (.aload_n 1, 1) := by decide +kernel
theorem dL_law_573 : decode cL_law 573 = .ok (.aload_n 0, 1) := by decide +kernel
theorem dL_law_574 : decode cL_law 574 = .ok (.iload_n 3, 1) := by decide +kernel
theorem dL_law_575 : decode cL_law 575 = .ok (.iconst 1, 1) := by decide +kernel
theorem dL_law_576 : decode cL_law 576 = .ok (.iadd, 1) := by decide +kernel
theorem dL_law_577 : decode cL_law 577 = .ok (.iaload, 1) := by decide +kernel
theorem dL_law_578 : decode cL_law 578 = .ok (.invokevirtual 85, 3) := by decide +kernel
theorem dL_law_581 : decode cL_law 581 = .ok (.aload_n 2, 1) := by decide +kernel
theorem dL_law_582 : decode cL_law 582 = .ok (.aload_n 0, 1) := by decide +kernel
theorem dL_law_583 : decode cL_law 583 = .ok (.iload_n 3, 1) := by decide +kernel
theorem dL_law_584 : decode cL_law 584 = .ok (.iconst 1, 1) := by decide +kernel
theorem dL_law_585 : decode cL_law 585 = .ok (.iadd, 1) := by decide +kernel
theorem dL_law_586 : decode cL_law 586 = .ok (.iaload, 1) := by decide +kernel
theorem dL_law_587 : decode cL_law 587 = .ok (.invokevirtual 88, 3) := by decide +kernel
theorem dL_law_590 : decode cL_law 590 = .ok (.lcmp, 1) := by decide +kernel
theorem dL_law_591 : decode cL_law 591 = .ok (.ifCond .eq 159, 3) := by decide +kernel
theorem dL_law_594 : decode cL_law 594 = .ok (.iconst 0, 1) := by decide +kernel
theorem dL_law_595 : decode cL_law 595 = .ok (.ireturn, 1) := by decide +kernel
theorem dL_law_596 : decode cL_law 596 = .ok (.aload_n 1, 1) := by decide +kernel
theorem dL_law_597 : decode cL_law 597 = .ok (.aload_n 0, 1) := by decide +kernel
theorem dL_law_598 : decode cL_law 598 = .ok (.iload_n 3, 1) := by decide +kernel
theorem dL_law_599 : decode cL_law 599 = .ok (.iconst 1, 1) := by decide +kernel
theorem dL_law_600 : decode cL_law 600 = .ok (.iadd, 1) := by decide +kernel
theorem dL_law_601 : decode cL_law 601 = .ok (.iaload, 1) := by decide +kernel
theorem dL_law_602 : decode cL_law 602 = .ok (.invokevirtual 89, 3) := by decide +kernel
theorem dL_law_605 : decode cL_law 605 = .ok (.aload_n 2, 1) := by decide +kernel
theorem dL_law_606 : decode cL_law 606 = .ok (.aload_n 0, 1) := by decide +kernel
theorem dL_law_607 : decode cL_law 607 = .ok (.iload_n 3, 1) := by decide +kernel
theorem dL_law_608 : decode cL_law 608 = .ok (.iconst 1, 1) := by decide +kernel
theorem dL_law_609 : decode cL_law 609 = .ok (.iadd, 1) := by decide +kernel
theorem dL_law_610 : decode cL_law 610 = .ok (.iaload, 1) := by decide +kernel
theorem dL_law_611 : decode cL_law 611 = .ok (.invokevirtual 92, 3) := by decide +kernel
theorem dL_law_614 : decode cL_law 614 = .ok (.lcmp, 1) := by decide +kernel
theorem dL_law_615 : decode cL_law 615 = .ok (.ifCond .eq 135, 3) := by decide +kernel
theorem dL_law_618 : decode cL_law 618 = .ok (.iconst 0, 1) := by decide +kernel
theorem dL_law_619 : decode cL_law 619 = .ok (.ireturn, 1) := by decide +kernel
theorem dL_law_620 : decode cL_law 620 = .ok (.aload_n 1, 1) := by decide +kernel
theorem dL_law_621 : decode cL_law 621 = .ok (.aload_n 0, 1) := by decide +kernel
theorem dL_law_622 : decode cL_law 622 = .ok (.iload_n 3, 1) := by decide +kernel
theorem dL_law_623 : decode cL_law 623 = .ok (.iconst 1, 1) := by decide +kernel
theorem dL_law_624 : decode cL_law 624 = .ok (.iadd, 1) := by decide +kernel
theorem dL_law_625 : decode cL_law 625 = .ok (.iaload, 1) := by decide +kernel
theorem dL_law_626 : decode cL_law 626 = .ok (.invokevirtual 93, 3) := by decide +kernel
theorem dL_law_629 : decode cL_law 629 = .ok (.aload_n 2, 1) := by decide +kernel
theorem dL_law_630 : decode cL_law 630 = .ok (.aload_n 0, 1) := by decide +kernel
theorem dL_law_631 : decode cL_law 631 = .ok (.iload_n 3, 1) := by decide +kernel
theorem dL_law_632 : decode cL_law 632 = .ok (.iconst 1, 1) := by decide +kernel
theorem dL_law_633 : decode cL_law 633 = .ok (.iadd, 1) := by decide +kernel
theorem dL_law_634 : decode cL_law 634 = .ok (.iaload, 1) := by decide +kernel
theorem dL_law_635 : decode cL_law 635 = .ok (.invokevirtual 96, 3) := by decide +kernel
theorem dL_law_638 : decode cL_law 638 = .ok (.lcmp, 1) := by decide +kernel
theorem dL_law_639 : decode cL_law 639 = .ok (.ifCond .eq 111, 3) := by decide +kernel
theorem dL_law_642 : decode cL_law 642 = .ok (.iconst 0, 1) := by decide +kernel
theorem dL_law_643 : decode cL_law 643 = .ok (.ireturn, 1) := by decide +kernel
theorem dL_law_644 : decode cL_law 644 = .ok (.aload_n 1, 1) := by decide +kernel
theorem dL_law_645 : decode cL_law 645 = .ok (.aload_n 0, 1) := by decide +kernel
theorem dL_law_646 : decode cL_law 646 = .ok (.iload_n 3, 1) := by decide +kernel
theorem dL_law_647 : decode cL_law 647 = .ok (.iconst 1, 1) := by decide +kernel
theorem dL_law_648 : decode cL_law 648 = .ok (.iadd, 1) := by decide +kernel
theorem dL_law_649 : decode cL_law 649 = .ok (.iaload, 1) := by decide +kernel
theorem dL_law_650 : decode cL_law 650 = .ok (.aload_n 0, 1) := by decide +kernel
theorem dL_law_651 : decode cL_law 651 = .ok (.iload_n 3, 1) := by decide +kernel
theorem dL_law_652 : decode cL_law 652 = .ok (.iconst 2, 1) := by decide +kernel
theorem dL_law_653 : decode cL_law 653 = .ok (.iadd, 1) := by decide +kernel
theorem dL_law_654 : decode cL_law 654 = .ok (.iaload, 1) := by decide +kernel
theorem dL_law_655 : decode cL_law 655 = .ok (.invokevirtual 97, 3) := by decide +kernel
theorem dL_law_658 : decode cL_law 658 = .ok (.aload_n 2, 1) := by decide +kernel
theorem dL_law_659 : decode cL_law 659 = .ok (.aload_n 0, 1) := by decide +kernel
theorem dL_law_660 : decode cL_law 660 = .ok (.iload_n 3, 1) := by decide +kernel
theorem dL_law_661 : decode cL_law 661 = .ok (.iconst 1, 1) := by decide +kernel
theorem dL_law_662 : decode cL_law 662 = .ok (.iadd, 1) := by decide +kernel
theorem dL_law_663 : decode cL_law 663 = .ok (.iaload, 1) := by decide +kernel
theorem dL_law_664 : decode cL_law 664 = .ok (.aload_n 0, 1) := by decide +kernel
theorem dL_law_665 : decode cL_law 665 = .ok (.iload_n 3, 1) := by decide +kernel
theorem dL_law_666 : decode cL_law 666 = .ok (.iconst 2, 1) := by decide +kernel
theorem dL_law_667 : decode cL_law 667 = .ok (.iadd, 1) := by decide +kernel
theorem dL_law_668 : decode cL_law 668 = .ok (.iaload, 1) := by decide +kernel
theorem dL_law_669 : decode cL_law 669 = .ok (.invokevirtual 100, 3) := by decide +kernel
theorem dL_law_672 : decode cL_law 672 = .ok (.lcmp, 1) := by decide +kernel
theorem dL_law_673 : decode cL_law 673 = .ok (.ifCond .eq 77, 3) := by decide +kernel
theorem dL_law_676 : decode cL_law 676 = .ok (.iconst 0, 1) := by decide +kernel
theorem dL_law_677 : decode cL_law 677 = .ok (.ireturn, 1) := by decide +kernel
theorem dL_law_678 : decode cL_law 678 = .ok (.aload_n 1, 1) := by decide +kernel
theorem dL_law_679 : decode cL_law 679 = .ok (.aload_n 0, 1) := by decide +kernel
theorem dL_law_680 : decode cL_law 680 = .ok (.iload_n 3, 1) := by decide +kernel
theorem dL_law_681 : decode cL_law 681 = .ok (.iconst 1, 1) := by decide +kernel
theorem dL_law_682 : decode cL_law 682 = .ok (.iadd, 1) := by decide +kernel
theorem dL_law_683 : decode cL_law 683 = .ok (.iaload, 1) := by decide +kernel
theorem dL_law_684 : decode cL_law 684 = .ok (.aload_n 0, 1) := by decide +kernel
theorem dL_law_685 : decode cL_law 685 = .ok (.iload_n 3, 1) := by decide +kernel
theorem dL_law_686 : decode cL_law 686 = .ok (.iconst 2, 1) := by decide +kernel
theorem dL_law_687 : decode cL_law 687 = .ok (.iadd, 1) := by decide +kernel
theorem dL_law_688 : decode cL_law 688 = .ok (.iaload, 1) := by decide +kernel
theorem dL_law_689 : decode cL_law 689 = .ok (.invokevirtual 101, 3) := by decide +kernel
theorem dL_law_692 : decode cL_law 692 = .ok (.aload_n 2, 1) := by decide +kernel
theorem dL_law_693 : decode cL_law 693 = .ok (.aload_n 0, 1) := by decide +kernel
theorem dL_law_694 : decode cL_law 694 = .ok (.iload_n 3, 1) := by decide +kernel
theorem dL_law_695 : decode cL_law 695 = .ok (.iconst 1, 1) := by decide +kernel
theorem dL_law_696 : decode cL_law 696 = .ok (.iadd, 1) := by decide +kernel
theorem dL_law_697 : decode cL_law 697 = .ok (.iaload, 1) := by decide +kernel
theorem dL_law_698 : decode cL_law 698 = .ok (.aload_n 0, 1) := by decide +kernel
theorem dL_law_699 : decode cL_law 699 = .ok (.iload_n 3, 1) := by decide +kernel
theorem dL_law_700 : decode cL_law 700 = .ok (.iconst 2, 1) := by decide +kernel
theorem dL_law_701 : decode cL_law 701 = .ok (.iadd, 1) := by decide +kernel
theorem dL_law_702 : decode cL_law 702 = .ok (.iaload, 1) := by decide +kernel
theorem dL_law_703 : decode cL_law 703 = .ok (.invokevirtual 104, 3) := by decide +kernel
theorem dL_law_706 : decode cL_law 706 = .ok (.lcmp, 1) := by decide +kernel
theorem dL_law_707 : decode cL_law 707 = .ok (.ifCond .eq 43, 3) := by decide +kernel
theorem dL_law_710 : decode cL_law 710 = .ok (.iconst 0, 1) := by decide +kernel
theorem dL_law_711 : decode cL_law 711 = .ok (.ireturn, 1) := by decide +kernel
theorem dL_law_712 : decode cL_law 712 = .ok (.aload_n 1, 1) := by decide +kernel
theorem dL_law_713 : decode cL_law 713 = .ok (.aload_n 0, 1) := by decide +kernel
theorem dL_law_714 : decode cL_law 714 = .ok (.iload_n 3, 1) := by decide +kernel
theorem dL_law_715 : decode cL_law 715 = .ok (.iconst 1, 1) := by decide +kernel
theorem dL_law_716 : decode cL_law 716 = .ok (.iadd, 1) := by decide +kernel
theorem dL_law_717 : decode cL_law 717 = .ok (.iaload, 1) := by decide +kernel
theorem dL_law_718 : decode cL_law 718 = .ok (.invokevirtual 105, 3) := by decide +kernel
theorem dL_law_721 : decode cL_law 721 = .ok (.aload_n 2, 1) := by decide +kernel
theorem dL_law_722 : decode cL_law 722 = .ok (.aload_n 0, 1) := by decide +kernel
theorem dL_law_723 : decode cL_law 723 = .ok (.iload_n 3, 1) := by decide +kernel
theorem dL_law_724 : decode cL_law 724 = .ok (.iconst 1, 1) := by decide +kernel
theorem dL_law_725 : decode cL_law 725 = .ok (.iadd, 1) := by decide +kernel
theorem dL_law_726 : decode cL_law 726 = .ok (.iaload, 1) := by decide +kernel
theorem dL_law_727 : decode cL_law 727 = .ok (.invokevirtual 108, 3) := by decide +kernel
theorem dL_law_730 : decode cL_law 730 = .ok (.lcmp, 1) := by decide +kernel
theorem dL_law_731 : decode cL_law 731 = .ok (.ifCond .eq 19, 3) := by decide +kernel
theorem dL_law_734 : decode cL_law 734 = .ok (.iconst 0, 1) := by decide +kernel
theorem dL_law_735 : decode cL_law 735 = .ok (.ireturn, 1) := by decide +kernel
theorem dL_law_736 : decode cL_law 736 = .ok (.aload_n 1, 1) := by decide +kernel
theorem dL_law_737 : decode cL_law 737 = .ok (.invokevirtual 109, 3) := by decide +kernel
theorem dL_law_740 : decode cL_law 740 = .ok (.aload_n 2, 1) := by decide +kernel
theorem dL_law_741 : decode cL_law 741 = .ok (.invokevirtual 112, 3) := by decide +kernel
theorem dL_law_744 : decode cL_law 744 = .ok (.lcmp, 1) := by decide +kernel
theorem dL_law_745 : decode cL_law 745 = .ok (.ifCond .eq 5, 3) := by decide +kernel
theorem dL_law_748 : decode cL_law 748 = .ok (.iconst 0, 1) := by decide +kernel
theorem dL_law_749 : decode cL_law 749 = .ok (.ireturn, 1) := by decide +kernel
theorem dL_law_750 : decode cL_law 750 = .ok (.iinc 3 4, 3) := by decide +kernel
theorem dL_law_753 : decode cL_law 753 = .ok (.goto (-735), 3) := by decide +kernel
theorem dL_law_756 : decode cL_law 756 = .ok (.iconst 1, 1) := by decide +kernel
theorem dL_law_757 : decode cL_law 757 = .ok (.ireturn, 1) := by decide +kernel
end
section
/-! ===== ROWS OF MY OWN: ints and longs as whole numbers (iI z, jI z); every arithmetic row is a ring row, no bound is asked; branches ask bounds ===== -/
def iI (z : Int) : Int32 := Int32.ofInt z
def jI (z : Int) : Int64 := Int64.ofInt z
abbrev B32 (z : Int) : Prop := -2147483648 ≤ z ∧ z < 2147483648
abbrev B64 (z : Int) : Prop := -9223372036854775808 ≤ z ∧ z < 9223372036854775808
theorem iI_toInt {z : Int} (h : B32 z) : (iI z).toInt = z := Int32.toInt_ofInt_of_le (by simpa using h.1) (by simpa using h.2)
theorem jI_toInt {z : Int} (h : B64 z) : (jI z).toInt = z := Int64.toInt_ofInt_of_le (by simpa using h.1) (by simpa using h.2)
theorem iI_self (x : Int32) : iI x.toInt = x := Int32.ofInt_toInt x
theorem iI_rng (x : Int32) : B32 x.toInt := ⟨by simpa using x.le_toInt, by simpa using x.toInt_lt⟩
theorem iI_ex (x : Int32) : ∃ z : Int, B32 z ∧ x = iI z := ⟨x.toInt, iI_rng x, (iI_self x).symm⟩
theorem iI_add (a b : Int) : iI a + iI b = iI (a + b) := (Int32.ofInt_add a b).symm
theorem iI_sub (a b : Int) : iI a - iI b = iI (a - b) := (Int32.ofInt_sub a b).symm
theorem iI_mul (a b : Int) : iI a * iI b = iI (a * b) := (Int32.ofInt_mul a b).symm
theorem iI_neg (a : Int) : -iI a = iI (-a) := (Int32.ofInt_neg a).symm
theorem jI_add (a b : Int) : jI a + jI b = jI (a + b) := (Int64.ofInt_add a b).symm
theorem jI_sub (a b : Int) : jI a - jI b = jI (a - b) := (Int64.ofInt_sub a b).symm
theorem jI_mul (a b : Int) : jI a * jI b = jI (a * b) := (Int64.ofInt_mul a b).symm
theorem iI_le {a b : Int} (ha : B32 a) (hb : B32 b) : iI a ≤ iI b ↔ a ≤ b := by rw [Int32.le_iff_toInt_le, iI_toInt ha, iI_toInt hb]
theorem iI_lt {a b : Int} (ha : B32 a) (hb : B32 b) : iI a < iI b ↔ a < b := by rw [Int32.lt_iff_toInt_lt, iI_toInt ha, iI_toInt hb]
theorem iI_eq {a b : Int} (ha : B32 a) (hb : B32 b) : iI a = iI b ↔ a = b := by rw [← Int32.toInt_inj, iI_toInt ha, iI_toInt hb]
theorem jI_le {a b : Int} (ha : B64 a) (hb : B64 b) : jI a ≤ jI b ↔ a ≤ b := by rw [Int64.le_iff_toInt_le, jI_toInt ha, jI_toInt hb]
theorem jI_lt {a b : Int} (ha : B64 a) (hb : B64 b) : jI a < jI b ↔ a < b := by rw [Int64.lt_iff_toInt_lt, jI_toInt ha, jI_toInt hb]
theorem jI_eq {a b : Int} (ha : B64 a) (hb : B64 b) : jI a = jI b ↔ a = b := by rw [← Int64.toInt_inj, jI_toInt ha, jI_toInt hb]
theorem iI_l {z : Int} (h : B32 z) : (iI z).toInt64 = jI z := by
  rw [← Int64.ofInt_int32ToInt, iI_toInt h]; rfl
theorem iI_0 : (0 : Int32) = iI 0 := rfl
theorem iI_clamp {z : Int} (h : B32 z) : (iI z).toNatClampNeg = z.toNat := by
  show (iI z).toInt.toNat = z.toNat
  rw [iI_toInt h]
theorem iI_in {z : Int} {n : Nat} (h0 : 0 ≤ z) (h1 : z < n) (hn : n < 2147483648) : vp_in (iI z) n := by
  rw [vp_in_iff, iI_toInt ⟨by omega, by omega⟩]
  exact ⟨h0, h1⟩
theorem iI_tdiv {a b : Int} (ha : B32 a) (hb : B32 b) (h : ¬ (a = -2147483648 ∧ b = -1)) : iI a / iI b = iI (a.tdiv b) := by
  refine (Int32.ofInt_tdiv (a := a) (b := b) ?_ ?_ ?_ ?_).symm
  all_goals first | (simpa using ha.1) | (simpa using hb.1) | (have := ha.2; show a ≤ (2147483647 : Int); omega) | (have := hb.2; show b ≤ (2147483647 : Int); omega)
theorem jI_tdiv {a b : Int} (ha : B64 a) (hb : B64 b) (h : ¬ (a = -9223372036854775808 ∧ b = -1)) : jI a / jI b = jI (a.tdiv b) := by
  refine (Int64.ofInt_tdiv (a := a) (b := b) ?_ ?_ ?_ ?_).symm
  all_goals first | (simpa using ha.1) | (simpa using hb.1) | (have := ha.2; show a ≤ (9223372036854775807 : Int); omega) | (have := hb.2; show b ≤ (9223372036854775807 : Int); omega)
theorem iI_trem {a b : Int} (ha : B32 a) (hb : B32 b) (h : ¬ (a = -2147483648 ∧ b = -1)) : iI a - iI a / iI b * iI b = iI (a.tmod b) := by
  rw [iI_tdiv ha hb h, iI_mul, iI_sub, Int.tmod_def, Int.mul_comm]
theorem jI_shl : ∀ k : Fin 31, jI 1 <<< ((iI (k.val : Int)).toInt64 &&& 63) = jI (2 ^ k.val) := by decide +kernel
theorem iI_xor32 {a : Int} (ha : B32 a) : (iI a ^^^ iI 32) < 0 ↔ a < 0 := by
  have h0 : ∀ x : Int32, x < 0 ↔ x.toBitVec.msb = true := fun x => by
    show x.toBitVec.slt (0 : Int32).toBitVec = true ↔ _
    rw [show (0 : Int32).toBitVec = 0#32 from rfl, BitVec.slt_zero_iff_msb_cond]
  rw [h0, Int32.toBitVec_xor, BitVec.msb_xor, show (iI 32).toBitVec.msb = false from by decide +kernel, Bool.xor_false, ← h0, iI_0, iI_lt ha ⟨by decide, by decide⟩]
theorem jI_xorpos {a b : Int} (ha : B64 a) (hb : 0 ≤ b ∧ b < 9223372036854775808) : (jI a ^^^ jI b) < 0 ↔ a < 0 := by
  have h0 : ∀ x : Int64, x < 0 ↔ x.toBitVec.msb = true := fun x => by
    show x.toBitVec.slt (0 : Int64).toBitVec = true ↔ _
    rw [show (0 : Int64).toBitVec = 0#64 from rfl, BitVec.slt_zero_iff_msb_cond]
  have hb0 : (jI b).toBitVec.msb = false := by
    rw [Bool.eq_false_iff]
    intro q
    have := (h0 _).mpr q
    rw [show (0 : Int64) = jI 0 from rfl, jI_lt ⟨by omega, by omega⟩ ⟨by decide, by decide⟩] at this
    omega
  rw [h0, Int64.toBitVec_xor, BitVec.msb_xor, hb0, Bool.xor_false, ← h0, show (0 : Int64) = jI 0 from rfl, jI_lt ha ⟨by decide, by decide⟩]
theorem z_nB0 : B32 0 := ⟨by decide, by decide⟩
section ZR
variable {p : Program} {l : Launch} {e : Env} {R : Room} {s : State} {m : MethodId} {args : Array Value} {below : List Frame} {meth : Method} {c : Code} {H : Heap} {locs : List Loc} {cells slots : Nat} {Q : State → Prop}
variable {cc : ByteArray} {pc : Nat} {ls : Array Slot} {rest : List Value}
theorem z_iconst (hx : p.tables.exec = Jvm.exec) (hb : c.code = cc) {n : Int} (hdg : decode cc pc = .ok (.iconst n, 1)) (k : W p l e R s m args below meth c H locs cells slots Q (F0 m (pc + 1) ls (.int (iI n) :: rest))) : W p l e R s m args below meth c H locs cells slots Q (F0 m pc ls rest) := lv_iconst (v := iI n) hx hb hdg rfl k
theorem z_bipush (hx : p.tables.exec = Jvm.exec) (hb : c.code = cc) {n : Int} (hdg : decode cc pc = .ok (.bipush n, 2)) (hv : (Int8.ofInt n).toInt32 = iI n) (k : W p l e R s m args below meth c H locs cells slots Q (F0 m (pc + 2) ls (.int (iI n) :: rest))) : W p l e R s m args below meth c H locs cells slots Q (F0 m pc ls rest) := lv_bipush (v := iI n) hx hb hdg hv k
theorem z_sipush (hx : p.tables.exec = Jvm.exec) (hb : c.code = cc) {n : Int} (hdg : decode cc pc = .ok (.sipush n, 3)) (hv : (Int16.ofInt n).toInt32 = iI n) (k : W p l e R s m args below meth c H locs cells slots Q (F0 m (pc + 3) ls (.int (iI n) :: rest))) : W p l e R s m args below meth c H locs cells slots Q (F0 m pc ls rest) := lv_sipush (v := iI n) hx hb hdg hv k
theorem z_lconst (hx : p.tables.exec = Jvm.exec) (hb : c.code = cc) {n : Fin 2} {z : Int} (hdg : decode cc pc = .ok (.lconst n, 1)) (hz : Int64.ofNat (n : Nat) = jI z) (k : W p l e R s m args below meth c H locs cells slots Q (F0 m (pc + 1) ls (.long (jI z) :: rest))) : W p l e R s m args below meth c H locs cells slots Q (F0 m pc ls rest) := lv_lconst (v := jI z) hx hb hdg hz k
theorem z_iadd (hx : p.tables.exec = Jvm.exec) (hb : c.code = cc) {a b : Int} (hdg : decode cc pc = .ok (.iadd, 1)) (k : W p l e R s m args below meth c H locs cells slots Q (F0 m (pc + 1) ls (.int (iI (a + b)) :: rest))) : W p l e R s m args below meth c H locs cells slots Q (F0 m pc ls (.int (iI b) :: .int (iI a) :: rest)) := lv_iadd hx hb hdg (by rw [iI_add]; exact k)
theorem z_isub (hx : p.tables.exec = Jvm.exec) (hb : c.code = cc) {a b : Int} (hdg : decode cc pc = .ok (.isub, 1)) (k : W p l e R s m args below meth c H locs cells slots Q (F0 m (pc + 1) ls (.int (iI (a - b)) :: rest))) : W p l e R s m args below meth c H locs cells slots Q (F0 m pc ls (.int (iI b) :: .int (iI a) :: rest)) := lv_isub hx hb hdg (by rw [iI_sub]; exact k)
theorem z_imul (hx : p.tables.exec = Jvm.exec) (hb : c.code = cc) {a b : Int} (hdg : decode cc pc = .ok (.imul, 1)) (k : W p l e R s m args below meth c H locs cells slots Q (F0 m (pc + 1) ls (.int (iI (a * b)) :: rest))) : W p l e R s m args below meth c H locs cells slots Q (F0 m pc ls (.int (iI b) :: .int (iI a) :: rest)) := lv_imul hx hb hdg (by rw [iI_mul]; exact k)
theorem z_ineg (hx : p.tables.exec = Jvm.exec) (hb : c.code = cc) {a : Int} (hdg : decode cc pc = .ok (.ineg, 1)) (k : W p l e R s m args below meth c H locs cells slots Q (F0 m (pc + 1) ls (.int (iI (-a)) :: rest))) : W p l e R s m args below meth c H locs cells slots Q (F0 m pc ls (.int (iI a) :: rest)) := lv_ineg hx hb hdg (by rw [iI_neg]; exact k)
theorem z_idiv (hx : p.tables.exec = Jvm.exec) (hb : c.code = cc) {a b : Int} (ha : B32 a) (hb2 : 0 < b ∧ b < 2147483648) (hdg : decode cc pc = .ok (.idiv, 1)) (k : W p l e R s m args below meth c H locs cells slots Q (F0 m (pc + 1) ls (.int (iI (a.tdiv b)) :: rest))) : W p l e R s m args below meth c H locs cells slots Q (F0 m pc ls (.int (iI b) :: .int (iI a) :: rest)) :=
  lv_idiv hx hb hdg (by rw [iI_0, iI_eq ⟨by omega, by omega⟩ z_nB0]; omega) (by rw [iI_tdiv ha ⟨by omega, by omega⟩ (by omega)]; exact k)
theorem z_irem (hx : p.tables.exec = Jvm.exec) (hb : c.code = cc) {a b : Int} (ha : B32 a) (hb2 : 0 < b ∧ b < 2147483648) (hdg : decode cc pc = .ok (.irem, 1)) (k : W p l e R s m args below meth c H locs cells slots Q (F0 m (pc + 1) ls (.int (iI (a.tmod b)) :: rest))) : W p l e R s m args below meth c H locs cells slots Q (F0 m pc ls (.int (iI b) :: .int (iI a) :: rest)) :=
  lv_irem hx hb hdg (by rw [iI_0, iI_eq ⟨by omega, by omega⟩ z_nB0]; omega) (by rw [iI_trem ha ⟨by omega, by omega⟩ (by omega)]; exact k)
theorem z_ladd (hx : p.tables.exec = Jvm.exec) (hb : c.code = cc) {a b : Int} (hdg : decode cc pc = .ok (.ladd, 1)) (k : W p l e R s m args below meth c H locs cells slots Q (F0 m (pc + 1) ls (.long (jI (a + b)) :: rest))) : W p l e R s m args below meth c H locs cells slots Q (F0 m pc ls (.long (jI b) :: .long (jI a) :: rest)) := lv_ladd hx hb hdg (by rw [jI_add]; exact k)
theorem z_lsub (hx : p.tables.exec = Jvm.exec) (hb : c.code = cc) {a b : Int} (hdg : decode cc pc = .ok (.lsub, 1)) (k : W p l e R s m args below meth c H locs cells slots Q (F0 m (pc + 1) ls (.long (jI (a - b)) :: rest))) : W p l e R s m args below meth c H locs cells slots Q (F0 m pc ls (.long (jI b) :: .long (jI a) :: rest)) := lv_lsub hx hb hdg (by rw [jI_sub]; exact k)
theorem z_lmul (hx : p.tables.exec = Jvm.exec) (hb : c.code = cc) {a b : Int} (hdg : decode cc pc = .ok (.lmul, 1)) (k : W p l e R s m args below meth c H locs cells slots Q (F0 m (pc + 1) ls (.long (jI (a * b)) :: rest))) : W p l e R s m args below meth c H locs cells slots Q (F0 m pc ls (.long (jI b) :: .long (jI a) :: rest)) := lv_lmul hx hb hdg (by rw [jI_mul]; exact k)
theorem z_ldiv (hx : p.tables.exec = Jvm.exec) (hb : c.code = cc) {a b : Int} (ha : B64 a) (hb2 : 0 < b ∧ b < 9223372036854775808) (hdg : decode cc pc = .ok (.ldiv, 1)) (k : W p l e R s m args below meth c H locs cells slots Q (F0 m (pc + 1) ls (.long (jI (a.tdiv b)) :: rest))) : W p l e R s m args below meth c H locs cells slots Q (F0 m pc ls (.long (jI b) :: .long (jI a) :: rest)) :=
  lv_ldiv hx hb hdg (by rw [show (0 : Int64) = jI 0 from rfl, jI_eq ⟨by omega, by omega⟩ ⟨by decide, by decide⟩]; omega) (by rw [jI_tdiv ha ⟨by omega, by omega⟩ (by omega)]; exact k)
theorem z_i2l (hx : p.tables.exec = Jvm.exec) (hb : c.code = cc) {a : Int} (ha : B32 a) (hdg : decode cc pc = .ok (.i2l, 1)) (k : W p l e R s m args below meth c H locs cells slots Q (F0 m (pc + 1) ls (.long (jI a) :: rest))) : W p l e R s m args below meth c H locs cells slots Q (F0 m pc ls (.int (iI a) :: rest)) := lv_i2l (v := jI a) hx hb hdg (iI_l ha) k
theorem z_lshl1 (hx : p.tables.exec = Jvm.exec) (hb : c.code = cc) {a : Int} (ha : 0 ≤ a ∧ a < 31) (hdg : decode cc pc = .ok (.lshl, 1)) (kk : W p l e R s m args below meth c H locs cells slots Q (F0 m (pc + 1) ls (.long (jI (2 ^ Int.toNat a)) :: rest))) : W p l e R s m args below meth c H locs cells slots Q (F0 m pc ls (.int (iI a) :: .long (jI 1) :: rest)) := lv_lshl (v := jI (2 ^ Int.toNat a)) hx hb hdg (by
  have h := jI_shl ⟨a.toNat, by omega⟩
  rw [show ((⟨a.toNat, by omega⟩ : Fin 31).val : Int) = a from Int.toNat_of_nonneg ha.1] at h
  exact h) kk
theorem z_iinc (hx : p.tables.exec = Jvm.exec) (hb : c.code = cc) {i nL k : Nat} {n a : Int} {lv lv' : List (Nat × Value)} (hdg : decode cc pc = .ok (.iinc i n, 3)) (h : lv_has ls nL lv) (hk : lv[k]? = some (i, .int (iI a))) (hn : i < nL) (hl : (i, Value.int (iI (a + n))) :: lv.filter (fun q => !(q.1 == i) && !(q.1 + 1 == i && q.2.category == 2)) = lv')
    (kk : ∀ ls' : Array Slot, lv_has ls' nL lv' → W p l e R s m args below meth c H locs cells slots Q (F0 m (pc + 3) ls' rest)) : W p l e R s m args below meth c H locs cells slots Q (F0 m pc ls rest) := lv_iinc (v := iI (a + n)) hx hb hdg h hk (iI_add a n) hn hl kk
-- ===== generated rows =====

theorem z_icmp_eq (hx : p.tables.exec = Jvm.exec) (hb : c.code = cc) {a b : Int} {off : Int} {tgt : Nat} (hdg : decode cc pc = .ok (.if_icmp .eq off, 3)) (ht : (pc : Int) + off = (tgt : Int)) (ha : B32 a) (hb2 : B32 b) (kt : a = b → W p l e R s m args below meth c H locs cells slots Q (F0 m tgt ls rest)) (kf : ¬ a = b → W p l e R s m args below meth c H locs cells slots Q (F0 m (pc + 3) ls rest)) : W p l e R s m args below meth c H locs cells slots Q (F0 m pc ls (.int (iI b) :: .int (iI a) :: rest)) := lv_icmp_eq hx hb hdg ht (fun h => kt ((iI_eq ha hb2).mp h)) (fun h => kf (fun q => h ((iI_eq ha hb2).mpr q)))
theorem z_if_eq (hx : p.tables.exec = Jvm.exec) (hb : c.code = cc) {a : Int} {off : Int} {tgt : Nat} (hdg : decode cc pc = .ok (.ifCond .eq off, 3)) (ht : (pc : Int) + off = (tgt : Int)) (ha : B32 a) (kt : a = 0 → W p l e R s m args below meth c H locs cells slots Q (F0 m tgt ls rest)) (kf : ¬ a = 0 → W p l e R s m args below meth c H locs cells slots Q (F0 m (pc + 3) ls rest)) : W p l e R s m args below meth c H locs cells slots Q (F0 m pc ls (.int (iI a) :: rest)) := lv_if_eq hx hb hdg ht (fun h => kt ((iI_eq ha z_nB0).mp h)) (fun h => kf (fun q => h ((iI_eq ha z_nB0).mpr q)))
theorem z_lcmp_eq (hx : p.tables.exec = Jvm.exec) (hb : c.code = cc) {a b : Int} {off : Int} {tgt : Nat} (hd1 : decode cc pc = .ok (.lcmp, 1)) (hdg : decode cc (pc + 1) = .ok (.ifCond .eq off, 3)) (ht : ((pc + 1 : Nat) : Int) + off = (tgt : Int)) (ha : B64 a) (hb2 : B64 b) (kt : a = b → W p l e R s m args below meth c H locs cells slots Q (F0 m tgt ls rest)) (kf : ¬ a = b → W p l e R s m args below meth c H locs cells slots Q (F0 m (pc + 1 + 3) ls rest)) : W p l e R s m args below meth c H locs cells slots Q (F0 m pc ls (.long (jI b) :: .long (jI a) :: rest)) := W.lcmp hx hb hd1 (lv_if_eq hx hb hdg ht (fun h => kt (((lg_cmp_eq (jI a) (jI b)).trans (jI_eq ha hb2)).mp h)) (fun h => kf (fun q => h (((lg_cmp_eq (jI a) (jI b)).trans (jI_eq ha hb2)).mpr q))))
theorem z_icmp_ne (hx : p.tables.exec = Jvm.exec) (hb : c.code = cc) {a b : Int} {off : Int} {tgt : Nat} (hdg : decode cc pc = .ok (.if_icmp .ne off, 3)) (ht : (pc : Int) + off = (tgt : Int)) (ha : B32 a) (hb2 : B32 b) (kt : ¬ a = b → W p l e R s m args below meth c H locs cells slots Q (F0 m tgt ls rest)) (kf : a = b → W p l e R s m args below meth c H locs cells slots Q (F0 m (pc + 3) ls rest)) : W p l e R s m args below meth c H locs cells slots Q (F0 m pc ls (.int (iI b) :: .int (iI a) :: rest)) := lv_icmp_ne hx hb hdg ht (fun h => kt (fun q => h ((iI_eq ha hb2).mpr q))) (fun h => kf ((iI_eq ha hb2).mp h))
theorem z_if_ne (hx : p.tables.exec = Jvm.exec) (hb : c.code = cc) {a : Int} {off : Int} {tgt : Nat} (hdg : decode cc pc = .ok (.ifCond .ne off, 3)) (ht : (pc : Int) + off = (tgt : Int)) (ha : B32 a) (kt : ¬ a = 0 → W p l e R s m args below meth c H locs cells slots Q (F0 m tgt ls rest)) (kf : a = 0 → W p l e R s m args below meth c H locs cells slots Q (F0 m (pc + 3) ls rest)) : W p l e R s m args below meth c H locs cells slots Q (F0 m pc ls (.int (iI a) :: rest)) := lv_if_ne hx hb hdg ht (fun h => kt (fun q => h ((iI_eq ha z_nB0).mpr q))) (fun h => kf ((iI_eq ha z_nB0).mp h))
theorem z_lcmp_ne (hx : p.tables.exec = Jvm.exec) (hb : c.code = cc) {a b : Int} {off : Int} {tgt : Nat} (hd1 : decode cc pc = .ok (.lcmp, 1)) (hdg : decode cc (pc + 1) = .ok (.ifCond .ne off, 3)) (ht : ((pc + 1 : Nat) : Int) + off = (tgt : Int)) (ha : B64 a) (hb2 : B64 b) (kt : ¬ a = b → W p l e R s m args below meth c H locs cells slots Q (F0 m tgt ls rest)) (kf : a = b → W p l e R s m args below meth c H locs cells slots Q (F0 m (pc + 1 + 3) ls rest)) : W p l e R s m args below meth c H locs cells slots Q (F0 m pc ls (.long (jI b) :: .long (jI a) :: rest)) := W.lcmp hx hb hd1 (lv_if_ne hx hb hdg ht (fun h => kt (fun q => h (((lg_cmp_eq (jI a) (jI b)).trans (jI_eq ha hb2)).mpr q))) (fun h => kf (((lg_cmp_eq (jI a) (jI b)).trans (jI_eq ha hb2)).mp h)))
theorem z_icmp_lt (hx : p.tables.exec = Jvm.exec) (hb : c.code = cc) {a b : Int} {off : Int} {tgt : Nat} (hdg : decode cc pc = .ok (.if_icmp .lt off, 3)) (ht : (pc : Int) + off = (tgt : Int)) (ha : B32 a) (hb2 : B32 b) (kt : a < b → W p l e R s m args below meth c H locs cells slots Q (F0 m tgt ls rest)) (kf : ¬ a < b → W p l e R s m args below meth c H locs cells slots Q (F0 m (pc + 3) ls rest)) : W p l e R s m args below meth c H locs cells slots Q (F0 m pc ls (.int (iI b) :: .int (iI a) :: rest)) := lv_icmp_lt hx hb hdg ht (fun h => kt ((iI_lt ha hb2).mp h)) (fun h => kf (fun q => h ((iI_lt ha hb2).mpr q)))
theorem z_if_lt (hx : p.tables.exec = Jvm.exec) (hb : c.code = cc) {a : Int} {off : Int} {tgt : Nat} (hdg : decode cc pc = .ok (.ifCond .lt off, 3)) (ht : (pc : Int) + off = (tgt : Int)) (ha : B32 a) (kt : a < 0 → W p l e R s m args below meth c H locs cells slots Q (F0 m tgt ls rest)) (kf : ¬ a < 0 → W p l e R s m args below meth c H locs cells slots Q (F0 m (pc + 3) ls rest)) : W p l e R s m args below meth c H locs cells slots Q (F0 m pc ls (.int (iI a) :: rest)) := lv_if_lt hx hb hdg ht (fun h => kt ((iI_lt ha z_nB0).mp h)) (fun h => kf (fun q => h ((iI_lt ha z_nB0).mpr q)))
theorem z_lcmp_lt (hx : p.tables.exec = Jvm.exec) (hb : c.code = cc) {a b : Int} {off : Int} {tgt : Nat} (hd1 : decode cc pc = .ok (.lcmp, 1)) (hdg : decode cc (pc + 1) = .ok (.ifCond .lt off, 3)) (ht : ((pc + 1 : Nat) : Int) + off = (tgt : Int)) (ha : B64 a) (hb2 : B64 b) (kt : a < b → W p l e R s m args below meth c H locs cells slots Q (F0 m tgt ls rest)) (kf : ¬ a < b → W p l e R s m args below meth c H locs cells slots Q (F0 m (pc + 1 + 3) ls rest)) : W p l e R s m args below meth c H locs cells slots Q (F0 m pc ls (.long (jI b) :: .long (jI a) :: rest)) := W.lcmp hx hb hd1 (lv_if_lt hx hb hdg ht (fun h => kt (((lg_cmp_lt (jI a) (jI b)).trans (jI_lt ha hb2)).mp h)) (fun h => kf (fun q => h (((lg_cmp_lt (jI a) (jI b)).trans (jI_lt ha hb2)).mpr q))))
theorem z_icmp_ge (hx : p.tables.exec = Jvm.exec) (hb : c.code = cc) {a b : Int} {off : Int} {tgt : Nat} (hdg : decode cc pc = .ok (.if_icmp .ge off, 3)) (ht : (pc : Int) + off = (tgt : Int)) (ha : B32 a) (hb2 : B32 b) (kt : b ≤ a → W p l e R s m args below meth c H locs cells slots Q (F0 m tgt ls rest)) (kf : ¬ b ≤ a → W p l e R s m args below meth c H locs cells slots Q (F0 m (pc + 3) ls rest)) : W p l e R s m args below meth c H locs cells slots Q (F0 m pc ls (.int (iI b) :: .int (iI a) :: rest)) := lv_icmp_ge hx hb hdg ht (fun h => kt ((iI_le hb2 ha).mp h)) (fun h => kf (fun q => h ((iI_le hb2 ha).mpr q)))
theorem z_if_ge (hx : p.tables.exec = Jvm.exec) (hb : c.code = cc) {a : Int} {off : Int} {tgt : Nat} (hdg : decode cc pc = .ok (.ifCond .ge off, 3)) (ht : (pc : Int) + off = (tgt : Int)) (ha : B32 a) (kt : 0 ≤ a → W p l e R s m args below meth c H locs cells slots Q (F0 m tgt ls rest)) (kf : ¬ 0 ≤ a → W p l e R s m args below meth c H locs cells slots Q (F0 m (pc + 3) ls rest)) : W p l e R s m args below meth c H locs cells slots Q (F0 m pc ls (.int (iI a) :: rest)) := lv_if_ge hx hb hdg ht (fun h => kt ((iI_le z_nB0 ha).mp h)) (fun h => kf (fun q => h ((iI_le z_nB0 ha).mpr q)))
theorem z_lcmp_ge (hx : p.tables.exec = Jvm.exec) (hb : c.code = cc) {a b : Int} {off : Int} {tgt : Nat} (hd1 : decode cc pc = .ok (.lcmp, 1)) (hdg : decode cc (pc + 1) = .ok (.ifCond .ge off, 3)) (ht : ((pc + 1 : Nat) : Int) + off = (tgt : Int)) (ha : B64 a) (hb2 : B64 b) (kt : b ≤ a → W p l e R s m args below meth c H locs cells slots Q (F0 m tgt ls rest)) (kf : ¬ b ≤ a → W p l e R s m args below meth c H locs cells slots Q (F0 m (pc + 1 + 3) ls rest)) : W p l e R s m args below meth c H locs cells slots Q (F0 m pc ls (.long (jI b) :: .long (jI a) :: rest)) := W.lcmp hx hb hd1 (lv_if_ge hx hb hdg ht (fun h => kt (((lg_cmp_ge (jI a) (jI b)).trans (jI_le hb2 ha)).mp h)) (fun h => kf (fun q => h (((lg_cmp_ge (jI a) (jI b)).trans (jI_le hb2 ha)).mpr q))))
theorem z_icmp_gt (hx : p.tables.exec = Jvm.exec) (hb : c.code = cc) {a b : Int} {off : Int} {tgt : Nat} (hdg : decode cc pc = .ok (.if_icmp .gt off, 3)) (ht : (pc : Int) + off = (tgt : Int)) (ha : B32 a) (hb2 : B32 b) (kt : b < a → W p l e R s m args below meth c H locs cells slots Q (F0 m tgt ls rest)) (kf : ¬ b < a → W p l e R s m args below meth c H locs cells slots Q (F0 m (pc + 3) ls rest)) : W p l e R s m args below meth c H locs cells slots Q (F0 m pc ls (.int (iI b) :: .int (iI a) :: rest)) := lv_icmp_gt hx hb hdg ht (fun h => kt ((iI_lt hb2 ha).mp h)) (fun h => kf (fun q => h ((iI_lt hb2 ha).mpr q)))
theorem z_if_gt (hx : p.tables.exec = Jvm.exec) (hb : c.code = cc) {a : Int} {off : Int} {tgt : Nat} (hdg : decode cc pc = .ok (.ifCond .gt off, 3)) (ht : (pc : Int) + off = (tgt : Int)) (ha : B32 a) (kt : 0 < a → W p l e R s m args below meth c H locs cells slots Q (F0 m tgt ls rest)) (kf : ¬ 0 < a → W p l e R s m args below meth c H locs cells slots Q (F0 m (pc + 3) ls rest)) : W p l e R s m args below meth c H locs cells slots Q (F0 m pc ls (.int (iI a) :: rest)) := lv_if_gt hx hb hdg ht (fun h => kt ((iI_lt z_nB0 ha).mp h)) (fun h => kf (fun q => h ((iI_lt z_nB0 ha).mpr q)))
theorem z_lcmp_gt (hx : p.tables.exec = Jvm.exec) (hb : c.code = cc) {a b : Int} {off : Int} {tgt : Nat} (hd1 : decode cc pc = .ok (.lcmp, 1)) (hdg : decode cc (pc + 1) = .ok (.ifCond .gt off, 3)) (ht : ((pc + 1 : Nat) : Int) + off = (tgt : Int)) (ha : B64 a) (hb2 : B64 b) (kt : b < a → W p l e R s m args below meth c H locs cells slots Q (F0 m tgt ls rest)) (kf : ¬ b < a → W p l e R s m args below meth c H locs cells slots Q (F0 m (pc + 1 + 3) ls rest)) : W p l e R s m args below meth c H locs cells slots Q (F0 m pc ls (.long (jI b) :: .long (jI a) :: rest)) := W.lcmp hx hb hd1 (lv_if_gt hx hb hdg ht (fun h => kt (((lg_cmp_gt (jI a) (jI b)).trans (jI_lt hb2 ha)).mp h)) (fun h => kf (fun q => h (((lg_cmp_gt (jI a) (jI b)).trans (jI_lt hb2 ha)).mpr q))))
theorem z_icmp_le (hx : p.tables.exec = Jvm.exec) (hb : c.code = cc) {a b : Int} {off : Int} {tgt : Nat} (hdg : decode cc pc = .ok (.if_icmp .le off, 3)) (ht : (pc : Int) + off = (tgt : Int)) (ha : B32 a) (hb2 : B32 b) (kt : a ≤ b → W p l e R s m args below meth c H locs cells slots Q (F0 m tgt ls rest)) (kf : ¬ a ≤ b → W p l e R s m args below meth c H locs cells slots Q (F0 m (pc + 3) ls rest)) : W p l e R s m args below meth c H locs cells slots Q (F0 m pc ls (.int (iI b) :: .int (iI a) :: rest)) := lv_icmp_le hx hb hdg ht (fun h => kt ((iI_le ha hb2).mp h)) (fun h => kf (fun q => h ((iI_le ha hb2).mpr q)))
theorem z_if_le (hx : p.tables.exec = Jvm.exec) (hb : c.code = cc) {a : Int} {off : Int} {tgt : Nat} (hdg : decode cc pc = .ok (.ifCond .le off, 3)) (ht : (pc : Int) + off = (tgt : Int)) (ha : B32 a) (kt : a ≤ 0 → W p l e R s m args below meth c H locs cells slots Q (F0 m tgt ls rest)) (kf : ¬ a ≤ 0 → W p l e R s m args below meth c H locs cells slots Q (F0 m (pc + 3) ls rest)) : W p l e R s m args below meth c H locs cells slots Q (F0 m pc ls (.int (iI a) :: rest)) := lv_if_le hx hb hdg ht (fun h => kt ((iI_le ha z_nB0).mp h)) (fun h => kf (fun q => h ((iI_le ha z_nB0).mpr q)))
theorem z_lcmp_le (hx : p.tables.exec = Jvm.exec) (hb : c.code = cc) {a b : Int} {off : Int} {tgt : Nat} (hd1 : decode cc pc = .ok (.lcmp, 1)) (hdg : decode cc (pc + 1) = .ok (.ifCond .le off, 3)) (ht : ((pc + 1 : Nat) : Int) + off = (tgt : Int)) (ha : B64 a) (hb2 : B64 b) (kt : a ≤ b → W p l e R s m args below meth c H locs cells slots Q (F0 m tgt ls rest)) (kf : ¬ a ≤ b → W p l e R s m args below meth c H locs cells slots Q (F0 m (pc + 1 + 3) ls rest)) : W p l e R s m args below meth c H locs cells slots Q (F0 m pc ls (.long (jI b) :: .long (jI a) :: rest)) := W.lcmp hx hb hd1 (lv_if_le hx hb hdg ht (fun h => kt (((lg_cmp_le (jI a) (jI b)).trans (jI_le ha hb2)).mp h)) (fun h => kf (fun q => h (((lg_cmp_le (jI a) (jI b)).trans (jI_le ha hb2)).mpr q))))
end ZR
/-- arrays of ints by a function on whole numbers -/
def fA (f : Int → Int) : Nat → Int32 := fun k => iI (f (k : Int))
def fJ (f : Int → Int) : Nat → Int64 := fun k => jI (f (k : Int))
def zup (f : Int → Int) (i x : Int) : Int → Int := fun j => if j = i then x else f j
theorem zup_s (f : Int → Int) (i x : Int) : zup f i x i = x := by simp [zup]
theorem zup_n (f : Int → Int) {i j : Int} (x : Int) (h : j ≠ i) : zup f i x j = f j := by simp [zup, h]
theorem fA_at (f : Int → Int) {i : Int} (h0 : 0 ≤ i) (h1 : i < 2147483648) : fA f (iI i).toNatClampNeg = iI (f i) := by
  show iI (f ((iI i).toNatClampNeg : Int)) = _
  rw [iI_clamp ⟨by omega, by omega⟩, Int.toNat_of_nonneg h0]
theorem fJ_at (f : Int → Int) {i : Int} (h0 : 0 ≤ i) (h1 : i < 2147483648) : fJ f (iI i).toNatClampNeg = jI (f i) := by
  show jI (f ((iI i).toNatClampNeg : Int)) = _
  rw [iI_clamp ⟨by omega, by omega⟩, Int.toNat_of_nonneg h0]
theorem fA_up (f : Int → Int) {i : Int} (x : Int) (h0 : 0 ≤ i) (h1 : i < 2147483648) : upd (fA f) (iI i).toNatClampNeg (iI x) = fA (zup f i x) := by
  funext k
  rw [iI_clamp ⟨by omega, by omega⟩]
  show (if k = i.toNat then iI x else iI (f (k : Int))) = iI (if (k : Int) = i then x else f (k : Int))
  by_cases hk : k = i.toNat
  · rw [if_pos hk, if_pos (by omega)]
  · rw [if_neg hk, if_neg (by omega)]
theorem fJ_up (f : Int → Int) {i : Int} (x : Int) (h0 : 0 ≤ i) (h1 : i < 2147483648) : vp_updL (fJ f) (iI i).toNatClampNeg (jI x) = fJ (zup f i x) := by
  funext k
  rw [iI_clamp ⟨by omega, by omega⟩]
  show (if k = i.toNat then jI x else jI (f (k : Int))) = jI (if (k : Int) = i then x else f (k : Int))
  by_cases hk : k = i.toNat
  · rw [if_pos hk, if_pos (by omega)]
  · rw [if_neg hk, if_neg (by omega)]
section ZA
variable {p : Program} {l : Launch} {e : Env} {R : Room} {s : State} {m : MethodId} {args : Array Value} {below : List Frame} {meth : Method} {c : Code} {H H0 : Heap} {locs : List Loc} {cells slots : Nat} {Q : State → Prop}
variable {cc : ByteArray} {pc : Nat} {ls : Array Slot} {rest : List Value} {D : va_G} {cl : List vw_C} {tys : List (ClassId × FieldType)} {ws : va_W} {A : Nat → Prop} {a : Nat}
theorem z_iald (hx : p.tables.exec = Jvm.exec) (hb : c.code = cc) (hK : va_K D cl tys s) (hP : va_P D cl ws H) (q0 t0 : Nat) {cA : ClassId} {n : Nat} {g : Int → Int} (ha : ws[q0]? = some (a, .inl (cA, n, .inl (fA g)))) (ht : tys[t0]? = some (cA, .int)) (hn : n < 2147483648) {i : Int} (h0 : 0 ≤ i ∧ i < n) (hdg : decode cc pc = .ok (.iaload, 1))
    (kk : W p l e R s m args below meth c H locs cells slots Q (F0 m (pc + 1) ls (.int (iI (g i)) :: rest))) : W p l e R s m args below meth c H locs cells slots Q (F0 m pc ls (.int (iI i) :: .ref a :: rest)) :=
  va_iald hx hb hK hP q0 t0 ha ht (iI_in h0.1 h0.2 hn) hdg (by rw [fA_at g h0.1 (by omega)]; exact kk)
theorem z_zald (hx : p.tables.exec = Jvm.exec) (hb : c.code = cc) (hK : va_K D cl tys s) (hP : va_P D cl ws H) (q0 t0 : Nat) {cA : ClassId} {n : Nat} {g : Int → Int} (ha : ws[q0]? = some (a, .inl (cA, n, .inl (fA g)))) (ht : tys[t0]? = some (cA, .boolean)) (hn : n < 2147483648) {i : Int} (h0 : 0 ≤ i ∧ i < n) (hdg : decode cc pc = .ok (.baload, 1))
    (kk : W p l e R s m args below meth c H locs cells slots Q (F0 m (pc + 1) ls (.int (iI (g i)) :: rest))) : W p l e R s m args below meth c H locs cells slots Q (F0 m pc ls (.int (iI i) :: .ref a :: rest)) :=
  va_zald hx hb hK hP q0 t0 ha ht (iI_in h0.1 h0.2 hn) hdg (by rw [fA_at g h0.1 (by omega)]; exact kk)
theorem z_lald (hx : p.tables.exec = Jvm.exec) (hb : c.code = cc) (hK : va_K D cl tys s) (hP : va_P D cl ws H) (q0 t0 : Nat) {cA : ClassId} {n : Nat} {g : Int → Int} (ha : ws[q0]? = some (a, .inl (cA, n, .inr (.inl (fJ g))))) (ht : tys[t0]? = some (cA, .long)) (hn : n < 2147483648) {i : Int} (h0 : 0 ≤ i ∧ i < n) (hdg : decode cc pc = .ok (.laload, 1))
    (kk : W p l e R s m args below meth c H locs cells slots Q (F0 m (pc + 1) ls (.long (jI (g i)) :: rest))) : W p l e R s m args below meth c H locs cells slots Q (F0 m pc ls (.int (iI i) :: .ref a :: rest)) :=
  va_lald hx hb hK hP q0 t0 ha ht (iI_in h0.1 h0.2 hn) hdg (by rw [fJ_at g h0.1 (by omega)]; exact kk)
theorem z_iast (hx : p.tables.exec = Jvm.exec) (hb : c.code = cc) (hK : va_K D cl tys s) (hP : va_P D cl ws H) (hD : va_D A ws) (hS : va_S A H0 H locs) (q0 t0 : Nat) {cA : ClassId} {n : Nat} {g : Int → Int} (ha : ws[q0]? = some (a, .inl (cA, n, .inl (fA g)))) (ht : tys[t0]? = some (cA, .int)) (hn : n < 2147483648) {i x : Int} (h0 : 0 ≤ i ∧ i < n) (hdg : decode cc pc = .ok (.iastore, 1))
    (kk : ∀ (H1 : Heap) (locs1 : List Loc), va_P D cl (ws.set q0 (a, .inl (cA, n, .inl (fA (zup g i x))))) H1 → va_S A H0 H1 locs1 → W p l e R s m args below meth c H1 locs1 cells slots Q (F0 m (pc + 1) ls rest)) : W p l e R s m args below meth c H locs cells slots Q (F0 m pc ls (.int (iI x) :: .int (iI i) :: .ref a :: rest)) :=
  va_iast hx hb hK hP hD hS q0 t0 ha ht (iI_in h0.1 h0.2 hn) hdg (fun H1 locs1 h1 _ h3 => kk H1 locs1 (by rw [fA_up g x h0.1 (by omega)] at h1; exact h1) h3)
theorem z_zast (hx : p.tables.exec = Jvm.exec) (hb : c.code = cc) (hK : va_K D cl tys s) (hP : va_P D cl ws H) (hD : va_D A ws) (hS : va_S A H0 H locs) (q0 t0 : Nat) {cA : ClassId} {n : Nat} {g : Int → Int} (ha : ws[q0]? = some (a, .inl (cA, n, .inl (fA g)))) (ht : tys[t0]? = some (cA, .boolean)) (hn : n < 2147483648) {i x : Int} (h0 : 0 ≤ i ∧ i < n) (hx2 : vp_nar .boolean (iI x) = iI x) (hdg : decode cc pc = .ok (.bastore, 1))
    (kk : ∀ (H1 : Heap) (locs1 : List Loc), va_P D cl (ws.set q0 (a, .inl (cA, n, .inl (fA (zup g i x))))) H1 → va_S A H0 H1 locs1 → W p l e R s m args below meth c H1 locs1 cells slots Q (F0 m (pc + 1) ls rest)) : W p l e R s m args below meth c H locs cells slots Q (F0 m pc ls (.int (iI x) :: .int (iI i) :: .ref a :: rest)) :=
  va_zast hx hb hK hP hD hS q0 t0 ha ht (iI_in h0.1 h0.2 hn) hdg (fun H1 locs1 h1 _ h3 => kk H1 locs1 (by rw [hx2, fA_up g x h0.1 (by omega)] at h1; exact h1) h3)
theorem z_last (hx : p.tables.exec = Jvm.exec) (hb : c.code = cc) (hK : va_K D cl tys s) (hP : va_P D cl ws H) (hD : va_D A ws) (hS : va_S A H0 H locs) (q0 t0 : Nat) {cA : ClassId} {n : Nat} {g : Int → Int} (ha : ws[q0]? = some (a, .inl (cA, n, .inr (.inl (fJ g))))) (ht : tys[t0]? = some (cA, .long)) (hn : n < 2147483648) {i x : Int} (h0 : 0 ≤ i ∧ i < n) (hdg : decode cc pc = .ok (.lastore, 1))
    (kk : ∀ (H1 : Heap) (locs1 : List Loc), va_P D cl (ws.set q0 (a, .inl (cA, n, .inr (.inl (fJ (zup g i x)))))) H1 → va_S A H0 H1 locs1 → W p l e R s m args below meth c H1 locs1 cells slots Q (F0 m (pc + 1) ls rest)) : W p l e R s m args below meth c H locs cells slots Q (F0 m pc ls (.long (jI x) :: .int (iI i) :: .ref a :: rest)) :=
  va_last hx hb hK hP hD hS q0 t0 ha ht (iI_in h0.1 h0.2 hn) hdg (fun H1 locs1 h1 _ h3 => kk H1 locs1 (by rw [fJ_up g x h0.1 (by omega)] at h1; exact h1) h3)
end ZA
/-! calls: a callee that only reads (its answer an equation, or a truth value), and one that writes cells of its own world alone (A1) -/
section ZC
variable {p : Program} {l : Launch} {e : Env} {R : Room} {s : State} {m : MethodId} {args : Array Value} {below : List Frame} {meth : Method} {c : Code} {H H0 : Heap} {locs : List Loc} {cells slots : Nat} {Q : State → Prop}
variable {cc bytes : ByteArray} {pc maxL nL n index : Nat} {ls : Array Slot} {y : MethodName} {ret : Option FieldType} {ws : List Cond} {rm : Room} {Ts : List Cond} {own C : String} {b : Addr} {As rest st0 : List Value} {A0 A1 : Nat → Prop} {z : Int} {P : Prop} {Post : Heap → Prop}
def z_blind (Pic : State → Heap → Prop) : Prop := ∀ (U : State) (gf : JFrame) (mk : MethodId) (a : Array Value), Pic U U.heap → Pic (U.calling gf mk a) (U.calling gf mk a).heap
theorem zV_l (S : CallFix p m c cc nL s args Ts own) (Pic : State → Heap → Prop) (hbl : z_blind Pic) (hmv : ∀ U : State, U.heap = H → s.WarmedH U.vm → Pic U U.heap) (hrecv : ∃ cellB : Cell, H[b]? = some cellB ∧ cellB.vm.isStatics = false ∧ s.vm.findClass C = some cellB.cls) (hM : Met l y ws rm (va_Pc (.ref b :: As) (fun U => Pic U U.heap)) (vp_Sl (fun r => r = jI z)) 0 0 (fun _ => False)) (cw : CallW R s args own C index y bytes maxL ret ws rm 0 0 n) (hn : As.length = n) (hsize : ls.size = nL) (hst : st0 = As.reverse ++ .ref b :: rest) (hW : (rest.map fun v => v.category).sum ≤ 8) (hdg : decode cc pc = .ok (.invokevirtual index, 3)) (hf : cells + 0 ≤ R.cells ∧ slots + 0 ≤ R.slots)
    (kk : W p l e R s m args below meth c H locs cells slots Q (F0 m (pc + 3) ls (.long (jI z) :: rest))) : W p l e R s m args below meth c H locs cells slots Q (F0 m pc ls st0) :=
  vp_callSl (W.runV S hM cw ⟨fun a U gf mk h => ⟨h.1, hbl U gf mk a h.2⟩, hrecv, fun U h1 h2 => ⟨rfl, hmv U h1 h2⟩⟩ rfl hn hsize hst (lv_room hW) hdg hf) (fun r hr => by obtain rfl := hr; exact kk)
theorem zV_i (S : CallFix p m c cc nL s args Ts own) (Pic : State → Heap → Prop) (hbl : z_blind Pic) (hmv : ∀ U : State, U.heap = H → s.WarmedH U.vm → Pic U U.heap) (hrecv : ∃ cellB : Cell, H[b]? = some cellB ∧ cellB.vm.isStatics = false ∧ s.vm.findClass C = some cellB.cls) (hM : Met l y ws rm (va_Pc (.ref b :: As) (fun U => Pic U U.heap)) (vp_Si (fun r => r = iI z)) 0 0 (fun _ => False)) (cw : CallW R s args own C index y bytes maxL ret ws rm 0 0 n) (hn : As.length = n) (hsize : ls.size = nL) (hst : st0 = As.reverse ++ .ref b :: rest) (hW : (rest.map fun v => v.category).sum ≤ 8) (hdg : decode cc pc = .ok (.invokevirtual index, 3)) (hf : cells + 0 ≤ R.cells ∧ slots + 0 ≤ R.slots)
    (kk : W p l e R s m args below meth c H locs cells slots Q (F0 m (pc + 3) ls (.int (iI z) :: rest))) : W p l e R s m args below meth c H locs cells slots Q (F0 m pc ls st0) :=
  vp_callSi (W.runV S hM cw ⟨fun a U gf mk h => ⟨h.1, hbl U gf mk a h.2⟩, hrecv, fun U h1 h2 => ⟨rfl, hmv U h1 h2⟩⟩ rfl hn hsize hst (lv_room hW) hdg hf) (fun r hr => by obtain rfl := hr; exact kk)
theorem zV_z (S : CallFix p m c cc nL s args Ts own) (Pic : State → Heap → Prop) (hbl : z_blind Pic) (hmv : ∀ U : State, U.heap = H → s.WarmedH U.vm → Pic U U.heap) (hrecv : ∃ cellB : Cell, H[b]? = some cellB ∧ cellB.vm.isStatics = false ∧ s.vm.findClass C = some cellB.cls) (hM : Met l y ws rm (va_Pc (.ref b :: As) (fun U => Pic U U.heap)) (vp_Si (fun r => (r = iI 1 ∧ P) ∨ (r = iI 0 ∧ ¬ P))) 0 0 (fun _ => False)) (cw : CallW R s args own C index y bytes maxL ret ws rm 0 0 n) (hn : As.length = n) (hsize : ls.size = nL) (hst : st0 = As.reverse ++ .ref b :: rest) (hW : (rest.map fun v => v.category).sum ≤ 8) (hdg : decode cc pc = .ok (.invokevirtual index, 3)) (hf : cells + 0 ≤ R.cells ∧ slots + 0 ≤ R.slots)
    (k1 : P → W p l e R s m args below meth c H locs cells slots Q (F0 m (pc + 3) ls (.int (iI 1) :: rest))) (k0 : ¬ P → W p l e R s m args below meth c H locs cells slots Q (F0 m (pc + 3) ls (.int (iI 0) :: rest))) : W p l e R s m args below meth c H locs cells slots Q (F0 m pc ls st0) :=
  vp_callSi (W.runV S hM cw ⟨fun a U gf mk h => ⟨h.1, hbl U gf mk a h.2⟩, hrecv, fun U h1 h2 => ⟨rfl, hmv U h1 h2⟩⟩ rfl hn hsize hst (lv_room hW) hdg hf) (fun r hr => by
    rcases hr with ⟨rfl, h⟩ | ⟨rfl, h⟩
    · exact k1 h
    · exact k0 h)
theorem zV_v (S : CallFix p m c cc nL s args Ts own) (Pic : State → Heap → Prop) (hbl : z_blind Pic) (hmv : ∀ U : State, U.heap = H → s.WarmedH U.vm → Pic U U.heap) (hrecv : ∃ cellB : Cell, H[b]? = some cellB ∧ cellB.vm.isStatics = false ∧ s.vm.findClass C = some cellB.cls) (hM : Met l y ws rm (va_Pc (.ref b :: As) (fun U => Pic U U.heap)) (va_Sv (fun _ => True)) 0 0 (fun _ => False)) (cw : CallW R s args own C index y bytes maxL ret ws rm 0 0 n) (hn : As.length = n) (hsize : ls.size = nL) (hst : st0 = As.reverse ++ .ref b :: rest) (hW : (rest.map fun v => v.category).sum ≤ 8) (hdg : decode cc pc = .ok (.invokevirtual index, 3)) (hf : cells + 0 ≤ R.cells ∧ slots + 0 ≤ R.slots)
    (kk : W p l e R s m args below meth c H locs cells slots Q (F0 m (pc + 3) ls rest)) : W p l e R s m args below meth c H locs cells slots Q (F0 m pc ls st0) :=
  va_csv (W.runV S hM cw ⟨fun a U gf mk h => ⟨h.1, hbl U gf mk a h.2⟩, hrecv, fun U h1 h2 => ⟨rfl, hmv U h1 h2⟩⟩ rfl hn hsize hst (lv_room hW) hdg hf) (fun _ => kk)
theorem zVw_l (S : CallFix p m c cc nL s args Ts own) (Pic : State → Heap → Prop) (hbl : z_blind Pic) (hmv : ∀ U : State, U.heap = H → s.WarmedH U.vm → Pic U U.heap) (hrecv : ∃ cellB : Cell, H[b]? = some cellB ∧ cellB.vm.isStatics = false ∧ s.vm.findClass C = some cellB.cls) (hM : Met l y ws rm (va_Pc (.ref b :: As) (fun U => Pic U U.heap)) (va_Ql (fun r (_ : Unit) => r = jI z) (fun _ t => Post t.heap) A1) 0 0 A1) (cw : CallW R s args own C index y bytes maxL ret ws rm 0 0 n) (hn : As.length = n) (hsize : ls.size = nL) (hst : st0 = As.reverse ++ .ref b :: rest) (hW : (rest.map fun v => v.category).sum ≤ 8) (hdg : decode cc pc = .ok (.invokevirtual index, 3)) (hf : cells + 0 ≤ R.cells ∧ slots + 0 ≤ R.slots) (hS : va_S A0 H0 H locs) (hA : ∀ q, A1 q → A0 q)
    (kk : ∀ (H1 : Heap) (locs1 : List Loc), Post H1 → H.size ≤ H1.size → (∀ q : Nat, q < H.size → ¬ A1 q → H1[q]? = H[q]?) → va_S A0 H0 H1 locs1 → W p l e R s m args below meth c H1 locs1 cells slots Q (F0 m (pc + 3) ls (.long (jI z) :: rest))) : W p l e R s m args below meth c H locs cells slots Q (F0 m pc ls st0) :=
  va_calll (va_runV S hM cw ⟨fun a U gf mk h => ⟨h.1, hbl U gf mk a h.2⟩, hrecv, fun U h1 h2 => ⟨rfl, hmv U h1 h2⟩⟩ rfl hn hsize hst (lv_room hW) hdg hf) hS (fun q _ h => hA q h) hA (fun r u t H1 locs1 ht hvm hr hB h1 h2 hS1 => by obtain rfl := hr; subst ht; exact kk _ locs1 hB h1 h2 hS1)
theorem zVw_i (S : CallFix p m c cc nL s args Ts own) (Pic : State → Heap → Prop) (hbl : z_blind Pic) (hmv : ∀ U : State, U.heap = H → s.WarmedH U.vm → Pic U U.heap) (hrecv : ∃ cellB : Cell, H[b]? = some cellB ∧ cellB.vm.isStatics = false ∧ s.vm.findClass C = some cellB.cls) (hM : Met l y ws rm (va_Pc (.ref b :: As) (fun U => Pic U U.heap)) (va_Qi (fun r (_ : Unit) => r = iI z) (fun _ t => Post t.heap) A1) 0 0 A1) (cw : CallW R s args own C index y bytes maxL ret ws rm 0 0 n) (hn : As.length = n) (hsize : ls.size = nL) (hst : st0 = As.reverse ++ .ref b :: rest) (hW : (rest.map fun v => v.category).sum ≤ 8) (hdg : decode cc pc = .ok (.invokevirtual index, 3)) (hf : cells + 0 ≤ R.cells ∧ slots + 0 ≤ R.slots) (hS : va_S A0 H0 H locs) (hA : ∀ q, A1 q → A0 q)
    (kk : ∀ (H1 : Heap) (locs1 : List Loc), Post H1 → H.size ≤ H1.size → (∀ q : Nat, q < H.size → ¬ A1 q → H1[q]? = H[q]?) → va_S A0 H0 H1 locs1 → W p l e R s m args below meth c H1 locs1 cells slots Q (F0 m (pc + 3) ls (.int (iI z) :: rest))) : W p l e R s m args below meth c H locs cells slots Q (F0 m pc ls st0) :=
  va_calli (va_runV S hM cw ⟨fun a U gf mk h => ⟨h.1, hbl U gf mk a h.2⟩, hrecv, fun U h1 h2 => ⟨rfl, hmv U h1 h2⟩⟩ rfl hn hsize hst (lv_room hW) hdg hf) hS (fun q _ h => hA q h) hA (fun r u t H1 locs1 ht hvm hr hB h1 h2 hS1 => by obtain rfl := hr; subst ht; exact kk _ locs1 hB h1 h2 hS1)
theorem zVw_v (S : CallFix p m c cc nL s args Ts own) (Pic : State → Heap → Prop) (hbl : z_blind Pic) (hmv : ∀ U : State, U.heap = H → s.WarmedH U.vm → Pic U U.heap) (hrecv : ∃ cellB : Cell, H[b]? = some cellB ∧ cellB.vm.isStatics = false ∧ s.vm.findClass C = some cellB.cls) (hM : Met l y ws rm (va_Pc (.ref b :: As) (fun U => Pic U U.heap)) (va_Qv (fun (_ : Unit) => True) (fun _ t => Post t.heap) A1) 0 0 A1) (cw : CallW R s args own C index y bytes maxL ret ws rm 0 0 n) (hn : As.length = n) (hsize : ls.size = nL) (hst : st0 = As.reverse ++ .ref b :: rest) (hW : (rest.map fun v => v.category).sum ≤ 8) (hdg : decode cc pc = .ok (.invokevirtual index, 3)) (hf : cells + 0 ≤ R.cells ∧ slots + 0 ≤ R.slots) (hS : va_S A0 H0 H locs) (hA : ∀ q, A1 q → A0 q)
    (kk : ∀ (H1 : Heap) (locs1 : List Loc), Post H1 → H.size ≤ H1.size → (∀ q : Nat, q < H.size → ¬ A1 q → H1[q]? = H[q]?) → va_S A0 H0 H1 locs1 → W p l e R s m args below meth c H1 locs1 cells slots Q (F0 m (pc + 3) ls rest)) : W p l e R s m args below meth c H locs cells slots Q (F0 m pc ls st0) :=
  va_callv (va_runV S hM cw ⟨fun a U gf mk h => ⟨h.1, hbl U gf mk a h.2⟩, hrecv, fun U h1 h2 => ⟨rfl, hmv U h1 h2⟩⟩ rfl hn hsize hst (lv_room hW) hdg hf) hS (fun q _ h => hA q h) hA (fun u t H1 locs1 ht hvm hr hB h1 h2 hS1 => by subst ht; exact kk _ locs1 hB h1 h2 hS1)
theorem zS_l (S : CallFix p m c cc nL s args Ts own) (Pic : State → Heap → Prop) (hbl : z_blind Pic) (hmv : ∀ U : State, U.heap = H → s.WarmedH U.vm → Pic U U.heap) (hM : Met l y ws rm (va_Pc As (fun U => Pic U U.heap)) (vp_Sl (fun r => r = jI z)) 0 0 (fun _ => False)) (cw : CallB R s args own index y bytes maxL ret ws rm 0 0 n ∧ (Cond.static y).before args s = true) (hn : As.length = n) (hsize : ls.size = nL) (hst : st0 = As.reverse ++ rest) (hW : (rest.map fun v => v.category).sum ≤ 8) (hdg : decode cc pc = .ok (.invokestatic index, 3)) (hf : cells + 0 ≤ R.cells ∧ slots + 0 ≤ R.slots)
    (kk : W p l e R s m args below meth c H locs cells slots Q (F0 m (pc + 3) ls (.long (jI z) :: rest))) : W p l e R s m args below meth c H locs cells slots Q (F0 m pc ls st0) :=
  vp_callSl (W.runS S hM cw ⟨fun a U gf mk h => ⟨h.1, hbl U gf mk a h.2⟩, fun U h1 h2 => ⟨rfl, hmv U h1 h2⟩⟩ rfl hn hsize hst (lv_room hW) hdg hf) (fun r hr => by obtain rfl := hr; exact kk)
theorem zS_i (S : CallFix p m c cc nL s args Ts own) (Pic : State → Heap → Prop) (hbl : z_blind Pic) (hmv : ∀ U : State, U.heap = H → s.WarmedH U.vm → Pic U U.heap) (hM : Met l y ws rm (va_Pc As (fun U => Pic U U.heap)) (vp_Si (fun r => r = iI z)) 0 0 (fun _ => False)) (cw : CallB R s args own index y bytes maxL ret ws rm 0 0 n ∧ (Cond.static y).before args s = true) (hn : As.length = n) (hsize : ls.size = nL) (hst : st0 = As.reverse ++ rest) (hW : (rest.map fun v => v.category).sum ≤ 8) (hdg : decode cc pc = .ok (.invokestatic index, 3)) (hf : cells + 0 ≤ R.cells ∧ slots + 0 ≤ R.slots)
    (kk : W p l e R s m args below meth c H locs cells slots Q (F0 m (pc + 3) ls (.int (iI z) :: rest))) : W p l e R s m args below meth c H locs cells slots Q (F0 m pc ls st0) :=
  vp_callSi (W.runS S hM cw ⟨fun a U gf mk h => ⟨h.1, hbl U gf mk a h.2⟩, fun U h1 h2 => ⟨rfl, hmv U h1 h2⟩⟩ rfl hn hsize hst (lv_room hW) hdg hf) (fun r hr => by obtain rfl := hr; exact kk)
theorem zS_z (S : CallFix p m c cc nL s args Ts own) (Pic : State → Heap → Prop) (hbl : z_blind Pic) (hmv : ∀ U : State, U.heap = H → s.WarmedH U.vm → Pic U U.heap) (hM : Met l y ws rm (va_Pc As (fun U => Pic U U.heap)) (vp_Si (fun r => (r = iI 1 ∧ P) ∨ (r = iI 0 ∧ ¬ P))) 0 0 (fun _ => False)) (cw : CallB R s args own index y bytes maxL ret ws rm 0 0 n ∧ (Cond.static y).before args s = true) (hn : As.length = n) (hsize : ls.size = nL) (hst : st0 = As.reverse ++ rest) (hW : (rest.map fun v => v.category).sum ≤ 8) (hdg : decode cc pc = .ok (.invokestatic index, 3)) (hf : cells + 0 ≤ R.cells ∧ slots + 0 ≤ R.slots)
    (k1 : P → W p l e R s m args below meth c H locs cells slots Q (F0 m (pc + 3) ls (.int (iI 1) :: rest))) (k0 : ¬ P → W p l e R s m args below meth c H locs cells slots Q (F0 m (pc + 3) ls (.int (iI 0) :: rest))) : W p l e R s m args below meth c H locs cells slots Q (F0 m pc ls st0) :=
  vp_callSi (W.runS S hM cw ⟨fun a U gf mk h => ⟨h.1, hbl U gf mk a h.2⟩, fun U h1 h2 => ⟨rfl, hmv U h1 h2⟩⟩ rfl hn hsize hst (lv_room hW) hdg hf) (fun r hr => by
    rcases hr with ⟨rfl, h⟩ | ⟨rfl, h⟩
    · exact k1 h
    · exact k0 h)
theorem zS_v (S : CallFix p m c cc nL s args Ts own) (Pic : State → Heap → Prop) (hbl : z_blind Pic) (hmv : ∀ U : State, U.heap = H → s.WarmedH U.vm → Pic U U.heap) (hM : Met l y ws rm (va_Pc As (fun U => Pic U U.heap)) (va_Sv (fun _ => True)) 0 0 (fun _ => False)) (cw : CallB R s args own index y bytes maxL ret ws rm 0 0 n ∧ (Cond.static y).before args s = true) (hn : As.length = n) (hsize : ls.size = nL) (hst : st0 = As.reverse ++ rest) (hW : (rest.map fun v => v.category).sum ≤ 8) (hdg : decode cc pc = .ok (.invokestatic index, 3)) (hf : cells + 0 ≤ R.cells ∧ slots + 0 ≤ R.slots)
    (kk : W p l e R s m args below meth c H locs cells slots Q (F0 m (pc + 3) ls rest)) : W p l e R s m args below meth c H locs cells slots Q (F0 m pc ls st0) :=
  va_csv (W.runS S hM cw ⟨fun a U gf mk h => ⟨h.1, hbl U gf mk a h.2⟩, fun U h1 h2 => ⟨rfl, hmv U h1 h2⟩⟩ rfl hn hsize hst (lv_room hW) hdg hf) (fun _ => kk)
end ZC
/-! ends -/
section ZE
variable {p : Program} {l : Launch} {e : Env} {R : Room} {s : State} {m : MethodId} {args : Array Value} {below : List Frame} {meth : Method} {c : Code} {H : Heap} {locs : List Loc}
variable {cc : ByteArray} {pc : Nat} {ls : Array Slot} {z z2 : Int} {P : Prop} {A : Nat → Prop} {Post : Heap → Prop}
theorem zr_l (hx : p.tables.exec = Jvm.exec) (hb : c.code = cc) (hr : meth.sig.returnType = some .long) (hlocks : meth.locks = false) (hdg : decode cc pc = .ok (.lreturn, 1)) (h : z2 = z) : W p l e R s m args below meth c s.heap [] 0 0 (MQ below (vp_Sl (fun r => r = jI z)) args s 0 0 (fun _ => False)) (F0 m pc ls [.long (jI z2)]) := by
  subst h
  exact W.lret hx hb hr (fun t ht _ => ⟨_, rfl, rfl, ht⟩) (fun q h => by cases h) hdg hlocks
theorem zr_i (hx : p.tables.exec = Jvm.exec) (hb : c.code = cc) (hr : meth.sig.returnType = some .int) (hlocks : meth.locks = false) (hdg : decode cc pc = .ok (.ireturn, 1)) (h : z2 = z) : W p l e R s m args below meth c s.heap [] 0 0 (MQ below (vp_Si (fun r => r = iI z)) args s 0 0 (fun _ => False)) (F0 m pc ls [.int (iI z2)]) := by
  subst h
  exact W.iret hx hb hr (fun t ht _ => ⟨_, rfl, rfl, ht⟩) (fun q h => by cases h) hdg hlocks
theorem zr_c (hx : p.tables.exec = Jvm.exec) (hb : c.code = cc) (hr : meth.sig.returnType = some .char) (hlocks : meth.locks = false) (hdg : decode cc pc = .ok (.ireturn, 1)) (hn : narrow .char (.int (iI z2)) = .int (iI z2)) (h : z2 = z) : W p l e R s m args below meth c s.heap [] 0 0 (MQ below (vp_Si (fun r => r = iI z)) args s 0 0 (fun _ => False)) (F0 m pc ls [.int (iI z2)]) := by
  subst h
  exact W.zret hx hb hr hn (fun t ht _ => ⟨_, rfl, rfl, ht⟩) (fun q h => by cases h) hdg hlocks
theorem zr_1 (hx : p.tables.exec = Jvm.exec) (hb : c.code = cc) (hr : meth.sig.returnType = some .boolean) (hlocks : meth.locks = false) (hdg : decode cc pc = .ok (.ireturn, 1)) (h : P) : W p l e R s m args below meth c s.heap [] 0 0 (MQ below (vp_Si (fun r => (r = iI 1 ∧ P) ∨ (r = iI 0 ∧ ¬ P))) args s 0 0 (fun _ => False)) (F0 m pc ls [.int (iI 1)]) :=
  W.zret hx hb hr (by decide +kernel) (fun t ht _ => ⟨_, rfl, Or.inl ⟨rfl, h⟩, ht⟩) (fun q h => by cases h) hdg hlocks
theorem zr_0 (hx : p.tables.exec = Jvm.exec) (hb : c.code = cc) (hr : meth.sig.returnType = some .boolean) (hlocks : meth.locks = false) (hdg : decode cc pc = .ok (.ireturn, 1)) (h : ¬ P) : W p l e R s m args below meth c s.heap [] 0 0 (MQ below (vp_Si (fun r => (r = iI 1 ∧ P) ∨ (r = iI 0 ∧ ¬ P))) args s 0 0 (fun _ => False)) (F0 m pc ls [.int (iI 0)]) :=
  W.zret hx hb hr (by decide +kernel) (fun t ht _ => ⟨_, rfl, Or.inr ⟨rfl, h⟩, ht⟩) (fun q h => by cases h) hdg hlocks
theorem zr_v (hx : p.tables.exec = Jvm.exec) (hb : c.code = cc) (hr : meth.sig.returnType = none) (hlocks : meth.locks = false) (hdg : decode cc pc = .ok (.return_, 1)) : W p l e R s m args below meth c s.heap [] 0 0 (MQ below (va_Sv (fun _ => True)) args s 0 0 (fun _ => False)) (F0 m pc ls []) :=
  W.vret hx hb hr (fun t ht _ => ⟨rfl, trivial, ht⟩) (fun q h => by cases h) hdg hlocks
theorem zw_l (hx : p.tables.exec = Jvm.exec) (hb : c.code = cc) (hr : meth.sig.returnType = some .long) (hlocks : meth.locks = false) (hdg : decode cc pc = .ok (.lreturn, 1)) (hS : va_S A s.heap H locs) (h : z2 = z) (hP : Post H) : W p l e R s m args below meth c H locs 0 0 (MQ below (va_Ql (fun r (_ : Unit) => r = jI z) (fun _ t => Post t.heap) A) args s 0 0 A) (F0 m pc ls [.long (jI z2)]) := by
  subst h
  exact W.lret hx hb hr (fun t ht _ => ⟨⟨_, (), rfl, rfl, by show Post t.heap; rw [ht]; exact hP⟩, hS.F ht⟩) hS.2.2 hdg hlocks
theorem zw_i (hx : p.tables.exec = Jvm.exec) (hb : c.code = cc) (hr : meth.sig.returnType = some .int) (hlocks : meth.locks = false) (hdg : decode cc pc = .ok (.ireturn, 1)) (hS : va_S A s.heap H locs) (h : z2 = z) (hP : Post H) : W p l e R s m args below meth c H locs 0 0 (MQ below (va_Qi (fun r (_ : Unit) => r = iI z) (fun _ t => Post t.heap) A) args s 0 0 A) (F0 m pc ls [.int (iI z2)]) := by
  subst h
  exact W.iret hx hb hr (fun t ht _ => ⟨⟨_, (), rfl, rfl, by show Post t.heap; rw [ht]; exact hP⟩, hS.F ht⟩) hS.2.2 hdg hlocks
theorem zw_v (hx : p.tables.exec = Jvm.exec) (hb : c.code = cc) (hr : meth.sig.returnType = none) (hlocks : meth.locks = false) (hdg : decode cc pc = .ok (.return_, 1)) (hS : va_S A s.heap H locs) (hP : Post H) : W p l e R s m args below meth c H locs 0 0 (MQ below (va_Qv (fun (_ : Unit) => True) (fun _ t => Post t.heap) A) args s 0 0 A) (F0 m pc ls []) :=
  W.vret hx hb hr (fun t ht _ => ⟨⟨(), rfl, trivial, by show Post t.heap; rw [ht]; exact hP⟩, hS.F ht⟩) hS.2.2 hdg hlocks
end ZE
end
section
/-! ===== THE STATE of a board, in whole numbers: the class and the reference share it ===== -/
abbrev ST : Type := Int × Int × Int × Int × (Int → Int) × (Int → Int) × (Int → Int) × (Int → Int) × (Int → Int) × (Int → Int) × (Int → Int) × (Int → Int)
def zbl (u : ST) : Int := u.1
def zpg (u : ST) : Int := u.2.1
def zse (u : ST) : Int := u.2.2.1
def zdr (u : ST) : Int := u.2.2.2.1
def zbu (u : ST) : Int → Int := u.2.2.2.2.1
def zpo (u : ST) : Int → Int := u.2.2.2.2.2.1
def zsp (u : ST) : Int → Int := u.2.2.2.2.2.2.1
def zle (u : ST) : Int → Int := u.2.2.2.2.2.2.2.1
def zlo (u : ST) : Int → Int := u.2.2.2.2.2.2.2.2.1
def zfx (u : ST) : Int → Int := u.2.2.2.2.2.2.2.2.2.1
def zfn (u : ST) : Int → Int := u.2.2.2.2.2.2.2.2.2.2.1
def zfe (u : ST) : Int → Int := u.2.2.2.2.2.2.2.2.2.2.2
def ubl (u : ST) (x : Int) : ST := (x, u.2)
def upg (u : ST) (x : Int) : ST := (u.1, x, u.2.2)
def use (u : ST) (x : Int) : ST := (u.1, u.2.1, x, u.2.2.2)
def udr (u : ST) (x : Int) : ST := (u.1, u.2.1, u.2.2.1, x, u.2.2.2.2)
def ubu (u : ST) (f : Int → Int) : ST := (u.1, u.2.1, u.2.2.1, u.2.2.2.1, f, u.2.2.2.2.2)
def upo (u : ST) (f : Int → Int) : ST := (u.1, u.2.1, u.2.2.1, u.2.2.2.1, u.2.2.2.2.1, f, u.2.2.2.2.2.2)
def usp (u : ST) (f : Int → Int) : ST := (u.1, u.2.1, u.2.2.1, u.2.2.2.1, u.2.2.2.2.1, u.2.2.2.2.2.1, f, u.2.2.2.2.2.2.2)
def ule (u : ST) (f : Int → Int) : ST := (u.1, u.2.1, u.2.2.1, u.2.2.2.1, u.2.2.2.2.1, u.2.2.2.2.2.1, u.2.2.2.2.2.2.1, f, u.2.2.2.2.2.2.2.2)
def ulo (u : ST) (f : Int → Int) : ST := (u.1, u.2.1, u.2.2.1, u.2.2.2.1, u.2.2.2.2.1, u.2.2.2.2.2.1, u.2.2.2.2.2.2.1, u.2.2.2.2.2.2.2.1, f, u.2.2.2.2.2.2.2.2.2)
def ufx (u : ST) (f : Int → Int) : ST := (u.1, u.2.1, u.2.2.1, u.2.2.2.1, u.2.2.2.2.1, u.2.2.2.2.2.1, u.2.2.2.2.2.2.1, u.2.2.2.2.2.2.2.1, u.2.2.2.2.2.2.2.2.1, f, u.2.2.2.2.2.2.2.2.2.2)
def ufn (u : ST) (f : Int → Int) : ST := (u.1, u.2.1, u.2.2.1, u.2.2.2.1, u.2.2.2.2.1, u.2.2.2.2.2.1, u.2.2.2.2.2.2.1, u.2.2.2.2.2.2.2.1, u.2.2.2.2.2.2.2.2.1, u.2.2.2.2.2.2.2.2.2.1, f, u.2.2.2.2.2.2.2.2.2.2.2)
def ufe (u : ST) (f : Int → Int) : ST := (u.1, u.2.1, u.2.2.1, u.2.2.2.1, u.2.2.2.2.1, u.2.2.2.2.2.1, u.2.2.2.2.2.2.1, u.2.2.2.2.2.2.2.1, u.2.2.2.2.2.2.2.2.1, u.2.2.2.2.2.2.2.2.2.1, u.2.2.2.2.2.2.2.2.2.2.1, f)
/-- what the reference holds besides: readPoint, readSpeed, errorAt, isPeg, h -/
abbrev VT : Type := Int × Int × Int × Int × Int
def vrp (v : VT) : Int := v.1
def vrs (v : VT) : Int := v.2.1
def vea (v : VT) : Int := v.2.2.1
def vip (v : VT) : Int := v.2.2.2.1
def vh (v : VT) : Int := v.2.2.2.2
def wrp (v : VT) (x : Int) : VT := (x, v.2)
def wrs (v : VT) (x : Int) : VT := (v.1, x, v.2.2)
def wea (v : VT) (x : Int) : VT := (v.1, v.2.1, x, v.2.2.2)
def wip (v : VT) (x : Int) : VT := (v.1, v.2.1, v.2.2.1, x, v.2.2.2.2)
def wh (v : VT) (x : Int) : VT := (v.1, v.2.1, v.2.2.1, v.2.2.2.1, x)
/-- where things lie: the classes' slots, the cells of the class's object, those of the reference's, the array classes, SIN, the text and its bytes -/
abbrev GG : Type := va_G × (Nat → Nat) × (Nat → Nat) × (ClassId × ClassId × ClassId) × (Nat × Nat × Nat)
def gD (g : GG) : va_G := g.1
def gX (g : GG) : Nat → Nat := g.2.1
def gM (g : GG) : Nat → Nat := g.2.2.1
def gI (g : GG) : ClassId := g.2.2.2.1.1
def gZ (g : GG) : ClassId := g.2.2.2.1.2.1
def gJ (g : GG) : ClassId := g.2.2.2.1.2.2
def gS (g : GG) : Nat := g.2.2.2.2.1
def gA (g : GG) : Nat := g.2.2.2.2.2.1
def gB (g : GG) : Nat := g.2.2.2.2.2.2
def gT (g : GG) : List (ClassId × FieldType) := [(gI g, .int), (gZ g, .boolean), (gJ g, .long)]
def wX (g : GG) (u : ST) : va_W := [
  (gX g 0, .inr (0, [.ref (gX g 1), .int (iI (zbl u)), .int (iI (zpg u)), .ref (gX g 2), .ref (gX g 3), .ref (gX g 4), .ref (gX g 5), .int (iI (zse u)), .int (iI (zdr u)), .ref (gX g 6), .ref (gX g 7), .ref (gX g 8)])),
  (gX g 1, .inl (gI g, 12, .inl (fA (zbu u)))), (gX g 2, .inl (gI g, 48, .inl (fA (zpo u)))), (gX g 3, .inl (gI g, 48, .inl (fA (zsp u)))), (gX g 4, .inl (gI g, 48, .inl (fA (zle u)))),
  (gX g 5, .inl (gZ g, 48, .inl (fA (zlo u)))), (gX g 6, .inl (gZ g, 49, .inl (fA (zfx u)))), (gX g 7, .inl (gI g, 49, .inl (fA (zfn u)))), (gX g 8, .inl (gI g, 49, .inl (fA (zfe u))))]
def wM (g : GG) (u : ST) (v : VT) : va_W := [
  (gM g 0, .inr (1, [.int (iI (zbl u)), .ref (gM g 1), .int (iI (zpg u)), .ref (gM g 2), .ref (gM g 3), .ref (gM g 4), .ref (gM g 5), .int (iI (zse u)), .int (iI (zdr u)), .ref (gM g 6), .ref (gM g 7), .ref (gM g 8), .int (iI (vrp v)), .int (iI (vrs v)), .int (iI (vea v)), .int (iI (vip v)), .long (jI (vh v))])),
  (gM g 1, .inl (gI g, 12, .inl (fA (zbu u)))), (gM g 2, .inl (gI g, 48, .inl (fA (zpo u)))), (gM g 3, .inl (gI g, 48, .inl (fA (zsp u)))), (gM g 4, .inl (gI g, 48, .inl (fA (zle u)))),
  (gM g 5, .inl (gZ g, 48, .inl (fA (zlo u)))), (gM g 6, .inl (gZ g, 49, .inl (fA (zfx u)))), (gM g 7, .inl (gJ g, 49, .inr (.inl (fJ (zfn u))))), (gM g 8, .inl (gJ g, 49, .inr (.inl (fJ (zfe u)))))]
/-- the table of sines -/
def snL : List Int := [0, 1951, 3827, 5556, 7071, 8315, 9239, 9808, 10000, 9808, 9239, 8315, 7071, 5556, 3827, 1951, 0, -1951, -3827, -5556, -7071, -8315, -9239, -9808, -10000, -9808, -9239, -8315, -7071, -5556, -3827, -1951]
def sn (i : Int) : Int := snL.getD i.toNat 0
/-- the characters of the names' text -/
def nmL : List Int := [78, 32, 32, 32, 32, 78, 98, 69, 32, 32, 78, 78, 69, 32, 32, 78, 69, 98, 78, 32, 78, 69, 32, 32, 32, 78, 69, 98, 69, 32, 69, 78, 69, 32, 32, 69, 98, 78, 32, 32, 69, 32, 32, 32, 32, 69, 98, 83, 32, 32, 69, 83, 69, 32, 32, 83, 69, 98, 69, 32, 83, 69, 32, 32, 32, 83, 69, 98, 83, 32, 83, 83, 69, 32, 32, 83, 98, 69, 32, 32, 83, 32, 32, 32, 32, 83, 98, 87, 32, 32, 83, 83, 87, 32, 32, 83, 87, 98, 83, 32, 83, 87, 32, 32, 32, 83, 87, 98, 87, 32, 87, 83, 87, 32, 32, 87, 98, 83, 32, 32, 87, 32, 32, 32, 32, 87, 98, 78, 32, 32, 87, 78, 87, 32, 32, 78, 87, 98, 87, 32, 78, 87, 32, 32, 32, 78, 87, 98, 78, 32, 78, 78, 87, 32, 32, 78, 98, 87, 32, 32]
def nm (i : Int) : Int := nmL.getD i.toNat 0
def nmT : String := "N    NbE  NNE  NEbN NE   NEbE ENE  EbN  E    EbS  ESE  SEbE SE   SEbS SSE  SbE  S    SbW  SSW  SWbS SW   SWbW WSW  WbS  W    WbN  WNW  NWbW NW   NWbN NNW  NbW  "
def nmB : List Int32 := nmL.map iI
/-- the static parts of the class: SIN, the text, String.COMPACT_STRINGS, the formatter that nobody asks -/
def ZS (A : Nat → Prop) (g : GG) (U : State) (H : Heap) : Prop :=
  va_Z "TraverseBoard" "SIN" "[I" (.ref (gS g)) A U H ∧ va_T .int (gS g) 32 (fun k => .int (iI (sn (k : Int)))) A U H ∧ vk_R RX0 81 nmT (gA g) U ∧
  vk_S 1 [160] [nmB] (fun _ => gA g) (fun _ => gB g) A U H ∧ va_Z "java/lang/String" "COMPACT_STRINGS" "Z" (.int 1) A U H ∧ va_Zq "jdk/internal/util/Preconditions" "SIOOBE_FORMATTER" "Ljava/util/function/BiFunction;" A U H
def nA : Nat → Prop := fun _ => False
theorem ZS.kept {A : Nat → Prop} {g : GG} {U : State} {H H1 : Heap} (h : ZS A g U H) (hq : ∀ a : Nat, a < H.size → ¬ A a → H1[a]? = H[a]?) : ZS A g U H1 :=
  ⟨h.1.kept hq, h.2.1.kept hq, h.2.2.1, h.2.2.2.1.kept hq, h.2.2.2.2.1.kept hq, h.2.2.2.2.2.kept hq⟩
theorem ZS.narrow {A B : Nat → Prop} {g : GG} {U : State} {H : Heap} (h : ZS A g U H) (hq : ∀ q, B q → A q) : ZS B g U H :=
  ⟨h.1.narrow hq, h.2.1.narrow hq, h.2.2.1, h.2.2.2.1.narrow hq, h.2.2.2.2.1.narrow hq, h.2.2.2.2.2.narrow hq⟩
theorem ZS.warm {A : Nat → Prop} {g : GG} {s U : State} {H : Heap} (h : ZS A g s H) (hW : s.WarmedH U.vm) : ZS A g U H :=
  ⟨h.1.moved hW.alike, h.2.1.moved hW.alike, h.2.2.1.warm hW, h.2.2.2.1.moved hW.alike, h.2.2.2.2.1.moved hW.alike, h.2.2.2.2.2.moved hW.alike⟩
theorem ZS.same {A : Nat → Prop} {g : GG} {u U : State} {H : Heap} (h : ZS A g u H) (hv : U.vm = u.vm) : ZS A g U H := by
  have hA : u.vm.Alike U.vm := by rw [hv]; exact Vm.Alike.refl _
  exact ⟨h.1.moved hA, h.2.1.moved hA, vk_R.same hv h.2.2.1, h.2.2.2.1.moved hA, h.2.2.2.2.1.moved hA, h.2.2.2.2.2.moved hA⟩
/-- the pictures: the class's object with its statics; the same without (for methods that write); the reference's -/
def PX (g : GG) (u : ST) (U : State) (H : Heap) : Prop := va_P (gD g) vwCl (wX g u) H ∧ va_K (gD g) vwCl (gT g) U ∧ ZS nA g U H
def PY (g : GG) (u : ST) (U : State) (H : Heap) : Prop := va_P (gD g) vwCl (wX g u) H ∧ va_K (gD g) vwCl (gT g) U
def PM (g : GG) (u : ST) (v : VT) (U : State) (H : Heap) : Prop := va_P (gD g) vwCl (wM g u v) H ∧ va_K (gD g) vwCl (gT g) U
def PT (U : State) (H : Heap) : Prop := True
def PZ (g : GG) (U : State) (H : Heap) : Prop := ZS nA g U H
theorem PX_blind (g : GG) (u : ST) : z_blind (PX g u) := fun U gf mk a h => ⟨h.1, va_K.moved (u := U) (U := U.calling gf mk a) (Vm.Alike.refl U.vm) h.2.1, ZS.same (u := U) (U := U.calling gf mk a) h.2.2 rfl⟩
theorem PY_blind (g : GG) (u : ST) : z_blind (PY g u) := fun U gf mk a h => ⟨h.1, va_K.moved (u := U) (U := U.calling gf mk a) (Vm.Alike.refl U.vm) h.2⟩
theorem PM_blind (g : GG) (u : ST) (v : VT) : z_blind (PM g u v) := fun U gf mk a h => ⟨h.1, va_K.moved (u := U) (U := U.calling gf mk a) (Vm.Alike.refl U.vm) h.2⟩
theorem PT_blind : z_blind PT := fun _ _ _ _ _ => trivial
theorem PZ_blind (g : GG) : z_blind (PZ g) := fun U gf mk a h => ZS.same (u := U) (U := U.calling gf mk a) h rfl
theorem PX_mv {g : GG} {u : ST} {s : State} {H : Heap} (h : PX g u s H) : ∀ U : State, U.heap = H → s.WarmedH U.vm → PX g u U U.heap := fun U hU hW => by
  subst hU
  exact ⟨h.1, va_K.moved hW.alike h.2.1, h.2.2.warm hW⟩
theorem PY_mv {g : GG} {u : ST} {s : State} {H : Heap} (hP : va_P (gD g) vwCl (wX g u) H) (hK : va_K (gD g) vwCl (gT g) s) : ∀ U : State, U.heap = H → s.WarmedH U.vm → PY g u U U.heap := fun U hU hW => by
  subst hU
  exact ⟨hP, va_K.moved hW.alike hK⟩
theorem PM_mv {g : GG} {u : ST} {v : VT} {s : State} {H : Heap} (hP : va_P (gD g) vwCl (wM g u v) H) (hK : va_K (gD g) vwCl (gT g) s) : ∀ U : State, U.heap = H → s.WarmedH U.vm → PM g u v U U.heap := fun U hU hW => by
  subst hU
  exact ⟨hP, va_K.moved hW.alike hK⟩
theorem PT_mv {s : State} {H : Heap} : ∀ U : State, U.heap = H → s.WarmedH U.vm → PT U U.heap := fun _ _ _ => trivial
theorem PZ_mv {g : GG} {s : State} {H : Heap} (h : ZS nA g s H) : ∀ U : State, U.heap = H → s.WarmedH U.vm → PZ g U U.heap := fun U hU hW => by
  subst hU
  exact h.warm hW
theorem rcX {g : GG} {u : ST} {s : State} {H : Heap} (hK : va_K (gD g) vwCl (gT g) s) (hP : va_P (gD g) vwCl (wX g u) H) : ∃ cellB : Cell, H[gX g 0]? = some cellB ∧ cellB.vm.isStatics = false ∧ s.vm.findClass RX0 = some cellB.cls := va_recv hK hP (ci := 0) (q0 := 0) rfl rfl
theorem rcM {g : GG} {u : ST} {v : VT} {s : State} {H : Heap} (hK : va_K (gD g) vwCl (gT g) s) (hP : va_P (gD g) vwCl (wM g u v) H) : ∃ cellB : Cell, H[gM g 0]? = some cellB ∧ cellB.vm.isStatics = false ∧ s.vm.findClass RX1 = some cellB.cls := va_recv hK hP (ci := 1) (q0 := 0) rfl rfl
/-- the cells of the class's object, of the reference's -/
def aX (g : GG) : Nat → Prop := fun q => ∃ k : Nat, k < 9 ∧ q = gX g k
def aM (g : GG) : Nat → Prop := fun q => ∃ k : Nat, k < 9 ∧ q = gM g k
def gOk (g : GG) : Prop := (∀ i j : Nat, i < 9 → j < 9 → gX g i = gX g j → i = j) ∧ ∀ i j : Nat, i < 9 → j < 9 → gM g i = gM g j → i = j
theorem wX_k {g : GG} {u : ST} {k : Nat} {q : Nat × va_E} (h : (wX g u)[k]? = some q) : k < 9 ∧ q.1 = gX g k := by
  match k, h with
  | 0, h | 1, h | 2, h | 3, h | 4, h | 5, h | 6, h | 7, h | 8, h => exact ⟨by decide, by cases h; rfl⟩
  | k + 9, h => exact absurd h (by simp [wX])
theorem wM_k {g : GG} {u : ST} {v : VT} {k : Nat} {q : Nat × va_E} (h : (wM g u v)[k]? = some q) : k < 9 ∧ q.1 = gM g k := by
  match k, h with
  | 0, h | 1, h | 2, h | 3, h | 4, h | 5, h | 6, h | 7, h | 8, h => exact ⟨by decide, by cases h; rfl⟩
  | k + 9, h => exact absurd h (by simp [wM])
theorem wX_D {g : GG} (hg : gOk g) (u : ST) : va_D (aX g) (wX g u) := ⟨fun i j p q hi hj hpq => by
  obtain ⟨h1, h2⟩ := wX_k hi
  obtain ⟨h3, h4⟩ := wX_k hj
  exact hg.1 i j h1 h3 (by rw [← h2, ← h4]; exact hpq), fun k q hk => ⟨k, wX_k hk⟩⟩
theorem wM_D {g : GG} (hg : gOk g) (u : ST) (v : VT) : va_D (aM g) (wM g u v) := ⟨fun i j p q hi hj hpq => by
  obtain ⟨h1, h2⟩ := wM_k hi
  obtain ⟨h3, h4⟩ := wM_k hj
  exact hg.2 i j h1 h3 (by rw [← h2, ← h4]; exact hpq), fun k q hk => ⟨k, wM_k hk⟩⟩
/-- what holds of a board all the time -/
def Inv (u : ST) : Prop := (0 ≤ zbl u ∧ zbl u ≤ 12) ∧ (0 ≤ zpg u ∧ zpg u ≤ 48) ∧ (0 ≤ zse u ∧ zse u ≤ 31) ∧ (0 ≤ zdr u ∧ zdr u ≤ 50) ∧ (∀ k, 0 ≤ k → k < zbl u → 32 ≤ zbu u k ∧ zbu u k ≤ 126) ∧ (∀ k, 0 ≤ zbu u k ∧ zbu u k ≤ 126) ∧
  (∀ k, 0 ≤ zpo u k ∧ zpo u k ≤ 31) ∧ (∀ k, 0 ≤ zsp u k ∧ zsp u k ≤ 200) ∧ (∀ k, -2 ≤ zle u k ∧ zle u k ≤ 2) ∧ (∀ k, zlo u k = 0 ∨ zlo u k = 1) ∧ (∀ k, zfx u k = 0 ∨ zfx u k = 1) ∧ zfx u 0 = 1 ∧ (∀ k, zpg u < k → zfx u k = 0) ∧
  (∀ k, -200000000 ≤ zfn u k ∧ zfn u k ≤ 200000000) ∧ ∀ k, -200000000 ≤ zfe u k ∧ zfe u k ≤ 200000000
theorem iv_bl {u : ST} (h : Inv u) : 0 ≤ zbl u ∧ zbl u ≤ 12 := h.1
theorem iv_pg {u : ST} (h : Inv u) : 0 ≤ zpg u ∧ zpg u ≤ 48 := h.2.1
theorem iv_se {u : ST} (h : Inv u) : 0 ≤ zse u ∧ zse u ≤ 31 := h.2.2.1
theorem iv_dr {u : ST} (h : Inv u) : 0 ≤ zdr u ∧ zdr u ≤ 50 := h.2.2.2.1
theorem iv_ch {u : ST} (h : Inv u) {k : Int} (h0 : 0 ≤ k) (h1 : k < zbl u) : 32 ≤ zbu u k ∧ zbu u k ≤ 126 := h.2.2.2.2.1 k h0 h1
theorem iv_bu {u : ST} (h : Inv u) (k : Int) : 0 ≤ zbu u k ∧ zbu u k ≤ 126 := h.2.2.2.2.2.1 k
theorem iv_po {u : ST} (h : Inv u) (k : Int) : 0 ≤ zpo u k ∧ zpo u k ≤ 31 := h.2.2.2.2.2.2.1 k
theorem iv_sp {u : ST} (h : Inv u) (k : Int) : 0 ≤ zsp u k ∧ zsp u k ≤ 200 := h.2.2.2.2.2.2.2.1 k
theorem iv_le {u : ST} (h : Inv u) (k : Int) : -2 ≤ zle u k ∧ zle u k ≤ 2 := h.2.2.2.2.2.2.2.2.1 k
theorem iv_lo {u : ST} (h : Inv u) (k : Int) : zlo u k = 0 ∨ zlo u k = 1 := h.2.2.2.2.2.2.2.2.2.1 k
theorem iv_fx {u : ST} (h : Inv u) (k : Int) : zfx u k = 0 ∨ zfx u k = 1 := h.2.2.2.2.2.2.2.2.2.2.1 k
theorem iv_f0 {u : ST} (h : Inv u) : zfx u 0 = 1 := h.2.2.2.2.2.2.2.2.2.2.2.1
theorem iv_fo {u : ST} (h : Inv u) {k : Int} (hk : zpg u < k) : zfx u k = 0 := h.2.2.2.2.2.2.2.2.2.2.2.2.1 k hk
theorem iv_fn {u : ST} (h : Inv u) (k : Int) : -200000000 ≤ zfn u k ∧ zfn u k ≤ 200000000 := h.2.2.2.2.2.2.2.2.2.2.2.2.2.1 k
theorem iv_fe {u : ST} (h : Inv u) (k : Int) : -200000000 ≤ zfe u k ∧ zfe u k ≤ 200000000 := h.2.2.2.2.2.2.2.2.2.2.2.2.2.2 k
theorem sn_rng (i : Int) : -10000 ≤ sn i ∧ sn i ≤ 10000 := by
  have h : ∀ k, k < 32 → -10000 ≤ snL.getD k 0 ∧ snL.getD k 0 ≤ 10000 := by decide +kernel
  unfold sn
  by_cases hk : i.toNat < 32
  · exact h _ hk
  · rw [show snL.getD i.toNat 0 = 0 from by rw [List.getD_eq_getElem?_getD, List.getElem?_eq_none (Nat.not_lt.mp hk)]; rfl]; exact ⟨by decide, by decide⟩
theorem nm_rng (i : Int) : 0 ≤ nm i ∧ nm i ≤ 126 := by
  have h : ∀ k, k < 160 → 0 ≤ nmL.getD k 0 ∧ nmL.getD k 0 ≤ 126 := by decide +kernel
  unfold nm
  by_cases hk : i.toNat < 160
  · exact h _ hk
  · rw [show nmL.getD i.toNat 0 = 0 from by rw [List.getD_eq_getElem?_getD, List.getElem?_eq_none (Nat.not_lt.mp hk)]; rfl]; exact ⟨by decide, by decide⟩
end
section
/-! ROWS for the fields and the arrays of the two objects, for the table of sines, and for loops (by program) -/
section ZF
variable {p : Program} {l : Launch} {e : Env} {R : Room} {s : State} {m : MethodId} {args : Array Value} {below : List Frame} {meth : Method} {c : Code} {H H0 : Heap} {locs : List Loc} {cells slots : Nat} {Q : State → Prop}
variable {cc : ByteArray} {pc nL : Nat} {ls : Array Slot} {rest : List Value} {Ts : List Cond} {g : GG} {u : ST} {v : VT} {A : Nat → Prop} {z i x : Int}
theorem gf_X0_41 (hx : p.tables.exec = Jvm.exec) (hb : c.code = cc) (hts : ∀ w ∈ Ts, w.before args s = true) (hin : ∀ w ∈ wsX00, w ∈ Ts) (hm : Cond.fieldLink RX0 41 "TraverseBoard" "bufferLength" "I" ∈ Ts) (hown : s.vm.findClass RX0 = some m.cls) (hK : va_K (gD g) vwCl (gT g) s) (hP : va_P (gD g) vwCl (wX g u) H) (hz : zbl u = z) (hdg : decode cc pc = .ok (.getfield 41, 3)) (kk : W p l e R s m args below meth c H locs cells slots Q (F0 m (pc + 3) ls (.int (iI z) :: rest))) : W p l e R s m args below meth c H locs cells slots Q (F0 m pc ls (.ref (gX g 0) :: rest)) := by
  subst hz
  exact va_get (D := gD g) (ci := 0) (v := .int (iI (zbl u))) (C := RX0) (T := TX0) (N := 12) hx hb hts hin hown hK hP 0 rfl rfl 1 (by decide) (hts _ hm) (fun _ h9 => h9) rfl hdg kk
theorem pf_X0_41 (hx : p.tables.exec = Jvm.exec) (hb : c.code = cc) (hts : ∀ w ∈ Ts, w.before args s = true) (hin : ∀ w ∈ wsX00, w ∈ Ts) (hm : Cond.fieldLink RX0 41 "TraverseBoard" "bufferLength" "I" ∈ Ts) (hown : s.vm.findClass RX0 = some m.cls) (hK : va_K (gD g) vwCl (gT g) s) (hP : va_P (gD g) vwCl (wX g u) H) (hD : va_D A (wX g u)) (hS : va_S A H0 H locs) (hdg : decode cc pc = .ok (.putfield 41, 3)) (kk : ∀ (H1 : Heap) (locs1 : List Loc), va_P (gD g) vwCl (wX g (ubl u x)) H1 → va_S A H0 H1 locs1 → W p l e R s m args below meth c H1 locs1 cells slots Q (F0 m (pc + 3) ls rest)) : W p l e R s m args below meth c H locs cells slots Q (F0 m pc ls (.int (iI x) :: .ref (gX g 0) :: rest)) :=
  va_put (D := gD g) (ci := 0) (v := .int (iI x)) (ty := .int) (C := RX0) (T := TX0) (N := 12) hx hb hts hin tyX0 tyX0_ok nmX0 hown hK hP hD hS 0 rfl rfl 1 (by decide) (hts _ hm) (fun _ h9 => h9) rfl (by decide +kernel) rfl rfl (Nat.le_of_ble_eq_true rfl) hdg (fun H1 locs1 h1 _ h3 => kk H1 locs1 h1 h3)
theorem gf_X0_71 (hx : p.tables.exec = Jvm.exec) (hb : c.code = cc) (hts : ∀ w ∈ Ts, w.before args s = true) (hin : ∀ w ∈ wsX00, w ∈ Ts) (hm : Cond.fieldLink RX0 71 "TraverseBoard" "pegs" "I" ∈ Ts) (hown : s.vm.findClass RX0 = some m.cls) (hK : va_K (gD g) vwCl (gT g) s) (hP : va_P (gD g) vwCl (wX g u) H) (hz : zpg u = z) (hdg : decode cc pc = .ok (.getfield 71, 3)) (kk : W p l e R s m args below meth c H locs cells slots Q (F0 m (pc + 3) ls (.int (iI z) :: rest))) : W p l e R s m args below meth c H locs cells slots Q (F0 m pc ls (.ref (gX g 0) :: rest)) := by
  subst hz
  exact va_get (D := gD g) (ci := 0) (v := .int (iI (zpg u))) (C := RX0) (T := TX0) (N := 12) hx hb hts hin hown hK hP 0 rfl rfl 2 (by decide) (hts _ hm) (fun _ h9 => h9) rfl hdg kk
theorem pf_X0_71 (hx : p.tables.exec = Jvm.exec) (hb : c.code = cc) (hts : ∀ w ∈ Ts, w.before args s = true) (hin : ∀ w ∈ wsX00, w ∈ Ts) (hm : Cond.fieldLink RX0 71 "TraverseBoard" "pegs" "I" ∈ Ts) (hown : s.vm.findClass RX0 = some m.cls) (hK : va_K (gD g) vwCl (gT g) s) (hP : va_P (gD g) vwCl (wX g u) H) (hD : va_D A (wX g u)) (hS : va_S A H0 H locs) (hdg : decode cc pc = .ok (.putfield 71, 3)) (kk : ∀ (H1 : Heap) (locs1 : List Loc), va_P (gD g) vwCl (wX g (upg u x)) H1 → va_S A H0 H1 locs1 → W p l e R s m args below meth c H1 locs1 cells slots Q (F0 m (pc + 3) ls rest)) : W p l e R s m args below meth c H locs cells slots Q (F0 m pc ls (.int (iI x) :: .ref (gX g 0) :: rest)) :=
  va_put (D := gD g) (ci := 0) (v := .int (iI x)) (ty := .int) (C := RX0) (T := TX0) (N := 12) hx hb hts hin tyX0 tyX0_ok nmX0 hown hK hP hD hS 0 rfl rfl 2 (by decide) (hts _ hm) (fun _ h9 => h9) rfl (by decide +kernel) rfl rfl (Nat.le_of_ble_eq_true rfl) hdg (fun H1 locs1 h1 _ h3 => kk H1 locs1 h1 h3)
theorem gf_X0_118 (hx : p.tables.exec = Jvm.exec) (hb : c.code = cc) (hts : ∀ w ∈ Ts, w.before args s = true) (hin : ∀ w ∈ wsX00, w ∈ Ts) (hm : Cond.fieldLink RX0 118 "TraverseBoard" "set" "I" ∈ Ts) (hown : s.vm.findClass RX0 = some m.cls) (hK : va_K (gD g) vwCl (gT g) s) (hP : va_P (gD g) vwCl (wX g u) H) (hz : zse u = z) (hdg : decode cc pc = .ok (.getfield 118, 3)) (kk : W p l e R s m args below meth c H locs cells slots Q (F0 m (pc + 3) ls (.int (iI z) :: rest))) : W p l e R s m args below meth c H locs cells slots Q (F0 m pc ls (.ref (gX g 0) :: rest)) := by
  subst hz
  exact va_get (D := gD g) (ci := 0) (v := .int (iI (zse u))) (C := RX0) (T := TX0) (N := 12) hx hb hts hin hown hK hP 0 rfl rfl 7 (by decide) (hts _ hm) (fun _ h9 => h9) rfl hdg kk
theorem pf_X0_118 (hx : p.tables.exec = Jvm.exec) (hb : c.code = cc) (hts : ∀ w ∈ Ts, w.before args s = true) (hin : ∀ w ∈ wsX00, w ∈ Ts) (hm : Cond.fieldLink RX0 118 "TraverseBoard" "set" "I" ∈ Ts) (hown : s.vm.findClass RX0 = some m.cls) (hK : va_K (gD g) vwCl (gT g) s) (hP : va_P (gD g) vwCl (wX g u) H) (hD : va_D A (wX g u)) (hS : va_S A H0 H locs) (hdg : decode cc pc = .ok (.putfield 118, 3)) (kk : ∀ (H1 : Heap) (locs1 : List Loc), va_P (gD g) vwCl (wX g (use u x)) H1 → va_S A H0 H1 locs1 → W p l e R s m args below meth c H1 locs1 cells slots Q (F0 m (pc + 3) ls rest)) : W p l e R s m args below meth c H locs cells slots Q (F0 m pc ls (.int (iI x) :: .ref (gX g 0) :: rest)) :=
  va_put (D := gD g) (ci := 0) (v := .int (iI x)) (ty := .int) (C := RX0) (T := TX0) (N := 12) hx hb hts hin tyX0 tyX0_ok nmX0 hown hK hP hD hS 0 rfl rfl 7 (by decide) (hts _ hm) (fun _ h9 => h9) rfl (by decide +kernel) rfl rfl (Nat.le_of_ble_eq_true rfl) hdg (fun H1 locs1 h1 _ h3 => kk H1 locs1 h1 h3)
theorem gf_X0_115 (hx : p.tables.exec = Jvm.exec) (hb : c.code = cc) (hts : ∀ w ∈ Ts, w.before args s = true) (hin : ∀ w ∈ wsX00, w ∈ Ts) (hm : Cond.fieldLink RX0 115 "TraverseBoard" "drift" "I" ∈ Ts) (hown : s.vm.findClass RX0 = some m.cls) (hK : va_K (gD g) vwCl (gT g) s) (hP : va_P (gD g) vwCl (wX g u) H) (hz : zdr u = z) (hdg : decode cc pc = .ok (.getfield 115, 3)) (kk : W p l e R s m args below meth c H locs cells slots Q (F0 m (pc + 3) ls (.int (iI z) :: rest))) : W p l e R s m args below meth c H locs cells slots Q (F0 m pc ls (.ref (gX g 0) :: rest)) := by
  subst hz
  exact va_get (D := gD g) (ci := 0) (v := .int (iI (zdr u))) (C := RX0) (T := TX0) (N := 12) hx hb hts hin hown hK hP 0 rfl rfl 8 (by decide) (hts _ hm) (fun _ h9 => h9) rfl hdg kk
theorem pf_X0_115 (hx : p.tables.exec = Jvm.exec) (hb : c.code = cc) (hts : ∀ w ∈ Ts, w.before args s = true) (hin : ∀ w ∈ wsX00, w ∈ Ts) (hm : Cond.fieldLink RX0 115 "TraverseBoard" "drift" "I" ∈ Ts) (hown : s.vm.findClass RX0 = some m.cls) (hK : va_K (gD g) vwCl (gT g) s) (hP : va_P (gD g) vwCl (wX g u) H) (hD : va_D A (wX g u)) (hS : va_S A H0 H locs) (hdg : decode cc pc = .ok (.putfield 115, 3)) (kk : ∀ (H1 : Heap) (locs1 : List Loc), va_P (gD g) vwCl (wX g (udr u x)) H1 → va_S A H0 H1 locs1 → W p l e R s m args below meth c H1 locs1 cells slots Q (F0 m (pc + 3) ls rest)) : W p l e R s m args below meth c H locs cells slots Q (F0 m pc ls (.int (iI x) :: .ref (gX g 0) :: rest)) :=
  va_put (D := gD g) (ci := 0) (v := .int (iI x)) (ty := .int) (C := RX0) (T := TX0) (N := 12) hx hb hts hin tyX0 tyX0_ok nmX0 hown hK hP hD hS 0 rfl rfl 8 (by decide) (hts _ hm) (fun _ h9 => h9) rfl (by decide +kernel) rfl rfl (Nat.le_of_ble_eq_true rfl) hdg (fun H1 locs1 h1 _ h3 => kk H1 locs1 h1 h3)
theorem gf_X0_9 (hx : p.tables.exec = Jvm.exec) (hb : c.code = cc) (hts : ∀ w ∈ Ts, w.before args s = true) (hin : ∀ w ∈ wsX00, w ∈ Ts) (hm : Cond.fieldLink RX0 9 "TraverseBoard" "buffer" "[I" ∈ Ts) (hown : s.vm.findClass RX0 = some m.cls) (hK : va_K (gD g) vwCl (gT g) s) (hP : va_P (gD g) vwCl (wX g u) H) (hdg : decode cc pc = .ok (.getfield 9, 3)) (kk : W p l e R s m args below meth c H locs cells slots Q (F0 m (pc + 3) ls (.ref (gX g 1) :: rest))) : W p l e R s m args below meth c H locs cells slots Q (F0 m pc ls (.ref (gX g 0) :: rest)) :=
  va_get (D := gD g) (ci := 0) (v := .ref (gX g 1)) (C := RX0) (T := TX0) (N := 12) hx hb hts hin hown hK hP 0 rfl rfl 0 (by decide) (hts _ hm) (fun _ h9 => h9) rfl hdg kk
theorem gf_X0_13 (hx : p.tables.exec = Jvm.exec) (hb : c.code = cc) (hts : ∀ w ∈ Ts, w.before args s = true) (hin : ∀ w ∈ wsX00, w ∈ Ts) (hm : Cond.fieldLink RX0 13 "TraverseBoard" "points" "[I" ∈ Ts) (hown : s.vm.findClass RX0 = some m.cls) (hK : va_K (gD g) vwCl (gT g) s) (hP : va_P (gD g) vwCl (wX g u) H) (hdg : decode cc pc = .ok (.getfield 13, 3)) (kk : W p l e R s m args below meth c H locs cells slots Q (F0 m (pc + 3) ls (.ref (gX g 2) :: rest))) : W p l e R s m args below meth c H locs cells slots Q (F0 m pc ls (.ref (gX g 0) :: rest)) :=
  va_get (D := gD g) (ci := 0) (v := .ref (gX g 2)) (C := RX0) (T := TX0) (N := 12) hx hb hts hin hown hK hP 0 rfl rfl 3 (by decide) (hts _ hm) (fun _ h9 => h9) rfl hdg kk
theorem gf_X0_16 (hx : p.tables.exec = Jvm.exec) (hb : c.code = cc) (hts : ∀ w ∈ Ts, w.before args s = true) (hin : ∀ w ∈ wsX00, w ∈ Ts) (hm : Cond.fieldLink RX0 16 "TraverseBoard" "speeds" "[I" ∈ Ts) (hown : s.vm.findClass RX0 = some m.cls) (hK : va_K (gD g) vwCl (gT g) s) (hP : va_P (gD g) vwCl (wX g u) H) (hdg : decode cc pc = .ok (.getfield 16, 3)) (kk : W p l e R s m args below meth c H locs cells slots Q (F0 m (pc + 3) ls (.ref (gX g 3) :: rest))) : W p l e R s m args below meth c H locs cells slots Q (F0 m pc ls (.ref (gX g 0) :: rest)) :=
  va_get (D := gD g) (ci := 0) (v := .ref (gX g 3)) (C := RX0) (T := TX0) (N := 12) hx hb hts hin hown hK hP 0 rfl rfl 4 (by decide) (hts _ hm) (fun _ h9 => h9) rfl hdg kk
theorem gf_X0_19 (hx : p.tables.exec = Jvm.exec) (hb : c.code = cc) (hts : ∀ w ∈ Ts, w.before args s = true) (hin : ∀ w ∈ wsX00, w ∈ Ts) (hm : Cond.fieldLink RX0 19 "TraverseBoard" "leeways" "[I" ∈ Ts) (hown : s.vm.findClass RX0 = some m.cls) (hK : va_K (gD g) vwCl (gT g) s) (hP : va_P (gD g) vwCl (wX g u) H) (hdg : decode cc pc = .ok (.getfield 19, 3)) (kk : W p l e R s m args below meth c H locs cells slots Q (F0 m (pc + 3) ls (.ref (gX g 4) :: rest))) : W p l e R s m args below meth c H locs cells slots Q (F0 m pc ls (.ref (gX g 0) :: rest)) :=
  va_get (D := gD g) (ci := 0) (v := .ref (gX g 4)) (C := RX0) (T := TX0) (N := 12) hx hb hts hin hown hK hP 0 rfl rfl 5 (by decide) (hts _ hm) (fun _ h9 => h9) rfl hdg kk
theorem gf_X0_22 (hx : p.tables.exec = Jvm.exec) (hb : c.code = cc) (hts : ∀ w ∈ Ts, w.before args s = true) (hin : ∀ w ∈ wsX00, w ∈ Ts) (hm : Cond.fieldLink RX0 22 "TraverseBoard" "lost" "[Z" ∈ Ts) (hown : s.vm.findClass RX0 = some m.cls) (hK : va_K (gD g) vwCl (gT g) s) (hP : va_P (gD g) vwCl (wX g u) H) (hdg : decode cc pc = .ok (.getfield 22, 3)) (kk : W p l e R s m args below meth c H locs cells slots Q (F0 m (pc + 3) ls (.ref (gX g 5) :: rest))) : W p l e R s m args below meth c H locs cells slots Q (F0 m pc ls (.ref (gX g 0) :: rest)) :=
  va_get (D := gD g) (ci := 0) (v := .ref (gX g 5)) (C := RX0) (T := TX0) (N := 12) hx hb hts hin hown hK hP 0 rfl rfl 6 (by decide) (hts _ hm) (fun _ h9 => h9) rfl hdg kk
theorem gf_X0_26 (hx : p.tables.exec = Jvm.exec) (hb : c.code = cc) (hts : ∀ w ∈ Ts, w.before args s = true) (hin : ∀ w ∈ wsX00, w ∈ Ts) (hm : Cond.fieldLink RX0 26 "TraverseBoard" "fixed" "[Z" ∈ Ts) (hown : s.vm.findClass RX0 = some m.cls) (hK : va_K (gD g) vwCl (gT g) s) (hP : va_P (gD g) vwCl (wX g u) H) (hdg : decode cc pc = .ok (.getfield 26, 3)) (kk : W p l e R s m args below meth c H locs cells slots Q (F0 m (pc + 3) ls (.ref (gX g 6) :: rest))) : W p l e R s m args below meth c H locs cells slots Q (F0 m pc ls (.ref (gX g 0) :: rest)) :=
  va_get (D := gD g) (ci := 0) (v := .ref (gX g 6)) (C := RX0) (T := TX0) (N := 12) hx hb hts hin hown hK hP 0 rfl rfl 9 (by decide) (hts _ hm) (fun _ h9 => h9) rfl hdg kk
theorem gf_X0_29 (hx : p.tables.exec = Jvm.exec) (hb : c.code = cc) (hts : ∀ w ∈ Ts, w.before args s = true) (hin : ∀ w ∈ wsX00, w ∈ Ts) (hm : Cond.fieldLink RX0 29 "TraverseBoard" "fixNorths" "[I" ∈ Ts) (hown : s.vm.findClass RX0 = some m.cls) (hK : va_K (gD g) vwCl (gT g) s) (hP : va_P (gD g) vwCl (wX g u) H) (hdg : decode cc pc = .ok (.getfield 29, 3)) (kk : W p l e R s m args below meth c H locs cells slots Q (F0 m (pc + 3) ls (.ref (gX g 7) :: rest))) : W p l e R s m args below meth c H locs cells slots Q (F0 m pc ls (.ref (gX g 0) :: rest)) :=
  va_get (D := gD g) (ci := 0) (v := .ref (gX g 7)) (C := RX0) (T := TX0) (N := 12) hx hb hts hin hown hK hP 0 rfl rfl 10 (by decide) (hts _ hm) (fun _ h9 => h9) rfl hdg kk
theorem gf_X0_32 (hx : p.tables.exec = Jvm.exec) (hb : c.code = cc) (hts : ∀ w ∈ Ts, w.before args s = true) (hin : ∀ w ∈ wsX00, w ∈ Ts) (hm : Cond.fieldLink RX0 32 "TraverseBoard" "fixEasts" "[I" ∈ Ts) (hown : s.vm.findClass RX0 = some m.cls) (hK : va_K (gD g) vwCl (gT g) s) (hP : va_P (gD g) vwCl (wX g u) H) (hdg : decode cc pc = .ok (.getfield 32, 3)) (kk : W p l e R s m args below meth c H locs cells slots Q (F0 m (pc + 3) ls (.ref (gX g 8) :: rest))) : W p l e R s m args below meth c H locs cells slots Q (F0 m pc ls (.ref (gX g 0) :: rest)) :=
  va_get (D := gD g) (ci := 0) (v := .ref (gX g 8)) (C := RX0) (T := TX0) (N := 12) hx hb hts hin hown hK hP 0 rfl rfl 11 (by decide) (hts _ hm) (fun _ h9 => h9) rfl hdg kk
theorem al_X0_1 (hx : p.tables.exec = Jvm.exec) (hb : c.code = cc) (hK : va_K (gD g) vwCl (gT g) s) (hP : va_P (gD g) vwCl (wX g u) H) (h : 0 ≤ i ∧ i < 12) (hdg : decode cc pc = .ok (.iaload, 1)) (kk : W p l e R s m args below meth c H locs cells slots Q (F0 m (pc + 1) ls (.int (iI (zbu u i)) :: rest))) : W p l e R s m args below meth c H locs cells slots Q (F0 m pc ls (.int (iI i) :: .ref (gX g 1) :: rest)) :=
  z_iald hx hb hK hP 1 0 rfl rfl (by decide) h hdg kk
theorem as_X0_1 (hx : p.tables.exec = Jvm.exec) (hb : c.code = cc) (hK : va_K (gD g) vwCl (gT g) s) (hP : va_P (gD g) vwCl (wX g u) H) (hD : va_D A (wX g u)) (hS : va_S A H0 H locs) (h : 0 ≤ i ∧ i < 12) (hdg : decode cc pc = .ok (.iastore, 1)) (kk : ∀ (H1 : Heap) (locs1 : List Loc), va_P (gD g) vwCl (wX g (ubu u (zup (zbu u) i x))) H1 → va_S A H0 H1 locs1 → W p l e R s m args below meth c H1 locs1 cells slots Q (F0 m (pc + 1) ls rest)) : W p l e R s m args below meth c H locs cells slots Q (F0 m pc ls (.int (iI x) :: .int (iI i) :: .ref (gX g 1) :: rest)) :=
  z_iast hx hb hK hP hD hS 1 0 rfl rfl (by decide) h hdg (fun H1 locs1 h1 h3 => kk H1 locs1 h1 h3)
theorem al_X0_2 (hx : p.tables.exec = Jvm.exec) (hb : c.code = cc) (hK : va_K (gD g) vwCl (gT g) s) (hP : va_P (gD g) vwCl (wX g u) H) (h : 0 ≤ i ∧ i < 48) (hdg : decode cc pc = .ok (.iaload, 1)) (kk : W p l e R s m args below meth c H locs cells slots Q (F0 m (pc + 1) ls (.int (iI (zpo u i)) :: rest))) : W p l e R s m args below meth c H locs cells slots Q (F0 m pc ls (.int (iI i) :: .ref (gX g 2) :: rest)) :=
  z_iald hx hb hK hP 2 0 rfl rfl (by decide) h hdg kk
theorem as_X0_2 (hx : p.tables.exec = Jvm.exec) (hb : c.code = cc) (hK : va_K (gD g) vwCl (gT g) s) (hP : va_P (gD g) vwCl (wX g u) H) (hD : va_D A (wX g u)) (hS : va_S A H0 H locs) (h : 0 ≤ i ∧ i < 48) (hdg : decode cc pc = .ok (.iastore, 1)) (kk : ∀ (H1 : Heap) (locs1 : List Loc), va_P (gD g) vwCl (wX g (upo u (zup (zpo u) i x))) H1 → va_S A H0 H1 locs1 → W p l e R s m args below meth c H1 locs1 cells slots Q (F0 m (pc + 1) ls rest)) : W p l e R s m args below meth c H locs cells slots Q (F0 m pc ls (.int (iI x) :: .int (iI i) :: .ref (gX g 2) :: rest)) :=
  z_iast hx hb hK hP hD hS 2 0 rfl rfl (by decide) h hdg (fun H1 locs1 h1 h3 => kk H1 locs1 h1 h3)
theorem al_X0_3 (hx : p.tables.exec = Jvm.exec) (hb : c.code = cc) (hK : va_K (gD g) vwCl (gT g) s) (hP : va_P (gD g) vwCl (wX g u) H) (h : 0 ≤ i ∧ i < 48) (hdg : decode cc pc = .ok (.iaload, 1)) (kk : W p l e R s m args below meth c H locs cells slots Q (F0 m (pc + 1) ls (.int (iI (zsp u i)) :: rest))) : W p l e R s m args below meth c H locs cells slots Q (F0 m pc ls (.int (iI i) :: .ref (gX g 3) :: rest)) :=
  z_iald hx hb hK hP 3 0 rfl rfl (by decide) h hdg kk
theorem as_X0_3 (hx : p.tables.exec = Jvm.exec) (hb : c.code = cc) (hK : va_K (gD g) vwCl (gT g) s) (hP : va_P (gD g) vwCl (wX g u) H) (hD : va_D A (wX g u)) (hS : va_S A H0 H locs) (h : 0 ≤ i ∧ i < 48) (hdg : decode cc pc = .ok (.iastore, 1)) (kk : ∀ (H1 : Heap) (locs1 : List Loc), va_P (gD g) vwCl (wX g (usp u (zup (zsp u) i x))) H1 → va_S A H0 H1 locs1 → W p l e R s m args below meth c H1 locs1 cells slots Q (F0 m (pc + 1) ls rest)) : W p l e R s m args below meth c H locs cells slots Q (F0 m pc ls (.int (iI x) :: .int (iI i) :: .ref (gX g 3) :: rest)) :=
  z_iast hx hb hK hP hD hS 3 0 rfl rfl (by decide) h hdg (fun H1 locs1 h1 h3 => kk H1 locs1 h1 h3)
theorem al_X0_4 (hx : p.tables.exec = Jvm.exec) (hb : c.code = cc) (hK : va_K (gD g) vwCl (gT g) s) (hP : va_P (gD g) vwCl (wX g u) H) (h : 0 ≤ i ∧ i < 48) (hdg : decode cc pc = .ok (.iaload, 1)) (kk : W p l e R s m args below meth c H locs cells slots Q (F0 m (pc + 1) ls (.int (iI (zle u i)) :: rest))) : W p l e R s m args below meth c H locs cells slots Q (F0 m pc ls (.int (iI i) :: .ref (gX g 4) :: rest)) :=
  z_iald hx hb hK hP 4 0 rfl rfl (by decide) h hdg kk
theorem as_X0_4 (hx : p.tables.exec = Jvm.exec) (hb : c.code = cc) (hK : va_K (gD g) vwCl (gT g) s) (hP : va_P (gD g) vwCl (wX g u) H) (hD : va_D A (wX g u)) (hS : va_S A H0 H locs) (h : 0 ≤ i ∧ i < 48) (hdg : decode cc pc = .ok (.iastore, 1)) (kk : ∀ (H1 : Heap) (locs1 : List Loc), va_P (gD g) vwCl (wX g (ule u (zup (zle u) i x))) H1 → va_S A H0 H1 locs1 → W p l e R s m args below meth c H1 locs1 cells slots Q (F0 m (pc + 1) ls rest)) : W p l e R s m args below meth c H locs cells slots Q (F0 m pc ls (.int (iI x) :: .int (iI i) :: .ref (gX g 4) :: rest)) :=
  z_iast hx hb hK hP hD hS 4 0 rfl rfl (by decide) h hdg (fun H1 locs1 h1 h3 => kk H1 locs1 h1 h3)
theorem al_X0_5 (hx : p.tables.exec = Jvm.exec) (hb : c.code = cc) (hK : va_K (gD g) vwCl (gT g) s) (hP : va_P (gD g) vwCl (wX g u) H) (h : 0 ≤ i ∧ i < 48) (hdg : decode cc pc = .ok (.baload, 1)) (kk : W p l e R s m args below meth c H locs cells slots Q (F0 m (pc + 1) ls (.int (iI (zlo u i)) :: rest))) : W p l e R s m args below meth c H locs cells slots Q (F0 m pc ls (.int (iI i) :: .ref (gX g 5) :: rest)) :=
  z_zald hx hb hK hP 5 1 rfl rfl (by decide) h hdg kk
theorem as_X0_5 (hx : p.tables.exec = Jvm.exec) (hb : c.code = cc) (hK : va_K (gD g) vwCl (gT g) s) (hP : va_P (gD g) vwCl (wX g u) H) (hD : va_D A (wX g u)) (hS : va_S A H0 H locs) (h : 0 ≤ i ∧ i < 48) (hn : vp_nar .boolean (iI x) = iI x) (hdg : decode cc pc = .ok (.bastore, 1)) (kk : ∀ (H1 : Heap) (locs1 : List Loc), va_P (gD g) vwCl (wX g (ulo u (zup (zlo u) i x))) H1 → va_S A H0 H1 locs1 → W p l e R s m args below meth c H1 locs1 cells slots Q (F0 m (pc + 1) ls rest)) : W p l e R s m args below meth c H locs cells slots Q (F0 m pc ls (.int (iI x) :: .int (iI i) :: .ref (gX g 5) :: rest)) :=
  z_zast hx hb hK hP hD hS 5 1 rfl rfl (by decide) h hn hdg (fun H1 locs1 h1 h3 => kk H1 locs1 h1 h3)
theorem al_X0_6 (hx : p.tables.exec = Jvm.exec) (hb : c.code = cc) (hK : va_K (gD g) vwCl (gT g) s) (hP : va_P (gD g) vwCl (wX g u) H) (h : 0 ≤ i ∧ i < 49) (hdg : decode cc pc = .ok (.baload, 1)) (kk : W p l e R s m args below meth c H locs cells slots Q (F0 m (pc + 1) ls (.int (iI (zfx u i)) :: rest))) : W p l e R s m args below meth c H locs cells slots Q (F0 m pc ls (.int (iI i) :: .ref (gX g 6) :: rest)) :=
  z_zald hx hb hK hP 6 1 rfl rfl (by decide) h hdg kk
theorem as_X0_6 (hx : p.tables.exec = Jvm.exec) (hb : c.code = cc) (hK : va_K (gD g) vwCl (gT g) s) (hP : va_P (gD g) vwCl (wX g u) H) (hD : va_D A (wX g u)) (hS : va_S A H0 H locs) (h : 0 ≤ i ∧ i < 49) (hn : vp_nar .boolean (iI x) = iI x) (hdg : decode cc pc = .ok (.bastore, 1)) (kk : ∀ (H1 : Heap) (locs1 : List Loc), va_P (gD g) vwCl (wX g (ufx u (zup (zfx u) i x))) H1 → va_S A H0 H1 locs1 → W p l e R s m args below meth c H1 locs1 cells slots Q (F0 m (pc + 1) ls rest)) : W p l e R s m args below meth c H locs cells slots Q (F0 m pc ls (.int (iI x) :: .int (iI i) :: .ref (gX g 6) :: rest)) :=
  z_zast hx hb hK hP hD hS 6 1 rfl rfl (by decide) h hn hdg (fun H1 locs1 h1 h3 => kk H1 locs1 h1 h3)
theorem al_X0_7 (hx : p.tables.exec = Jvm.exec) (hb : c.code = cc) (hK : va_K (gD g) vwCl (gT g) s) (hP : va_P (gD g) vwCl (wX g u) H) (h : 0 ≤ i ∧ i < 49) (hdg : decode cc pc = .ok (.iaload, 1)) (kk : W p l e R s m args below meth c H locs cells slots Q (F0 m (pc + 1) ls (.int (iI (zfn u i)) :: rest))) : W p l e R s m args below meth c H locs cells slots Q (F0 m pc ls (.int (iI i) :: .ref (gX g 7) :: rest)) :=
  z_iald hx hb hK hP 7 0 rfl rfl (by decide) h hdg kk
theorem as_X0_7 (hx : p.tables.exec = Jvm.exec) (hb : c.code = cc) (hK : va_K (gD g) vwCl (gT g) s) (hP : va_P (gD g) vwCl (wX g u) H) (hD : va_D A (wX g u)) (hS : va_S A H0 H locs) (h : 0 ≤ i ∧ i < 49) (hdg : decode cc pc = .ok (.iastore, 1)) (kk : ∀ (H1 : Heap) (locs1 : List Loc), va_P (gD g) vwCl (wX g (ufn u (zup (zfn u) i x))) H1 → va_S A H0 H1 locs1 → W p l e R s m args below meth c H1 locs1 cells slots Q (F0 m (pc + 1) ls rest)) : W p l e R s m args below meth c H locs cells slots Q (F0 m pc ls (.int (iI x) :: .int (iI i) :: .ref (gX g 7) :: rest)) :=
  z_iast hx hb hK hP hD hS 7 0 rfl rfl (by decide) h hdg (fun H1 locs1 h1 h3 => kk H1 locs1 h1 h3)
theorem al_X0_8 (hx : p.tables.exec = Jvm.exec) (hb : c.code = cc) (hK : va_K (gD g) vwCl (gT g) s) (hP : va_P (gD g) vwCl (wX g u) H) (h : 0 ≤ i ∧ i < 49) (hdg : decode cc pc = .ok (.iaload, 1)) (kk : W p l e R s m args below meth c H locs cells slots Q (F0 m (pc + 1) ls (.int (iI (zfe u i)) :: rest))) : W p l e R s m args below meth c H locs cells slots Q (F0 m pc ls (.int (iI i) :: .ref (gX g 8) :: rest)) :=
  z_iald hx hb hK hP 8 0 rfl rfl (by decide) h hdg kk
theorem as_X0_8 (hx : p.tables.exec = Jvm.exec) (hb : c.code = cc) (hK : va_K (gD g) vwCl (gT g) s) (hP : va_P (gD g) vwCl (wX g u) H) (hD : va_D A (wX g u)) (hS : va_S A H0 H locs) (h : 0 ≤ i ∧ i < 49) (hdg : decode cc pc = .ok (.iastore, 1)) (kk : ∀ (H1 : Heap) (locs1 : List Loc), va_P (gD g) vwCl (wX g (ufe u (zup (zfe u) i x))) H1 → va_S A H0 H1 locs1 → W p l e R s m args below meth c H1 locs1 cells slots Q (F0 m (pc + 1) ls rest)) : W p l e R s m args below meth c H locs cells slots Q (F0 m pc ls (.int (iI x) :: .int (iI i) :: .ref (gX g 8) :: rest)) :=
  z_iast hx hb hK hP hD hS 8 0 rfl rfl (by decide) h hdg (fun H1 locs1 h1 h3 => kk H1 locs1 h1 h3)
theorem gf_X1_53 (hx : p.tables.exec = Jvm.exec) (hb : c.code = cc) (hts : ∀ w ∈ Ts, w.before args s = true) (hin : ∀ w ∈ wsX10, w ∈ Ts) (hm : Cond.fieldLink RX1 53 "TraverseBoardModel" "bufferLength" "I" ∈ Ts) (hown : s.vm.findClass RX1 = some m.cls) (hK : va_K (gD g) vwCl (gT g) s) (hP : va_P (gD g) vwCl (wM g u v) H) (hz : zbl u = z) (hdg : decode cc pc = .ok (.getfield 53, 3)) (kk : W p l e R s m args below meth c H locs cells slots Q (F0 m (pc + 3) ls (.int (iI z) :: rest))) : W p l e R s m args below meth c H locs cells slots Q (F0 m pc ls (.ref (gM g 0) :: rest)) := by
  subst hz
  exact va_get (D := gD g) (ci := 1) (v := .int (iI (zbl u))) (C := RX1) (T := TX1) (N := 17) hx hb hts hin hown hK hP 0 rfl rfl 0 (by decide) (hts _ hm) (fun _ h9 => h9) rfl hdg kk
theorem pf_X1_53 (hx : p.tables.exec = Jvm.exec) (hb : c.code = cc) (hts : ∀ w ∈ Ts, w.before args s = true) (hin : ∀ w ∈ wsX10, w ∈ Ts) (hm : Cond.fieldLink RX1 53 "TraverseBoardModel" "bufferLength" "I" ∈ Ts) (hown : s.vm.findClass RX1 = some m.cls) (hK : va_K (gD g) vwCl (gT g) s) (hP : va_P (gD g) vwCl (wM g u v) H) (hD : va_D A (wM g u v)) (hS : va_S A H0 H locs) (hdg : decode cc pc = .ok (.putfield 53, 3)) (kk : ∀ (H1 : Heap) (locs1 : List Loc), va_P (gD g) vwCl (wM g (ubl u x) v) H1 → va_S A H0 H1 locs1 → W p l e R s m args below meth c H1 locs1 cells slots Q (F0 m (pc + 3) ls rest)) : W p l e R s m args below meth c H locs cells slots Q (F0 m pc ls (.int (iI x) :: .ref (gM g 0) :: rest)) :=
  va_put (D := gD g) (ci := 1) (v := .int (iI x)) (ty := .int) (C := RX1) (T := TX1) (N := 17) hx hb hts hin tyX1 tyX1_ok nmX1 hown hK hP hD hS 0 rfl rfl 0 (by decide) (hts _ hm) (fun _ h9 => h9) rfl (by decide +kernel) rfl rfl (Nat.le_of_ble_eq_true rfl) hdg (fun H1 locs1 h1 _ h3 => kk H1 locs1 h1 h3)
theorem gf_X1_91 (hx : p.tables.exec = Jvm.exec) (hb : c.code = cc) (hts : ∀ w ∈ Ts, w.before args s = true) (hin : ∀ w ∈ wsX10, w ∈ Ts) (hm : Cond.fieldLink RX1 91 "TraverseBoardModel" "pegs" "I" ∈ Ts) (hown : s.vm.findClass RX1 = some m.cls) (hK : va_K (gD g) vwCl (gT g) s) (hP : va_P (gD g) vwCl (wM g u v) H) (hz : zpg u = z) (hdg : decode cc pc = .ok (.getfield 91, 3)) (kk : W p l e R s m args below meth c H locs cells slots Q (F0 m (pc + 3) ls (.int (iI z) :: rest))) : W p l e R s m args below meth c H locs cells slots Q (F0 m pc ls (.ref (gM g 0) :: rest)) := by
  subst hz
  exact va_get (D := gD g) (ci := 1) (v := .int (iI (zpg u))) (C := RX1) (T := TX1) (N := 17) hx hb hts hin hown hK hP 0 rfl rfl 2 (by decide) (hts _ hm) (fun _ h9 => h9) rfl hdg kk
theorem pf_X1_91 (hx : p.tables.exec = Jvm.exec) (hb : c.code = cc) (hts : ∀ w ∈ Ts, w.before args s = true) (hin : ∀ w ∈ wsX10, w ∈ Ts) (hm : Cond.fieldLink RX1 91 "TraverseBoardModel" "pegs" "I" ∈ Ts) (hown : s.vm.findClass RX1 = some m.cls) (hK : va_K (gD g) vwCl (gT g) s) (hP : va_P (gD g) vwCl (wM g u v) H) (hD : va_D A (wM g u v)) (hS : va_S A H0 H locs) (hdg : decode cc pc = .ok (.putfield 91, 3)) (kk : ∀ (H1 : Heap) (locs1 : List Loc), va_P (gD g) vwCl (wM g (upg u x) v) H1 → va_S A H0 H1 locs1 → W p l e R s m args below meth c H1 locs1 cells slots Q (F0 m (pc + 3) ls rest)) : W p l e R s m args below meth c H locs cells slots Q (F0 m pc ls (.int (iI x) :: .ref (gM g 0) :: rest)) :=
  va_put (D := gD g) (ci := 1) (v := .int (iI x)) (ty := .int) (C := RX1) (T := TX1) (N := 17) hx hb hts hin tyX1 tyX1_ok nmX1 hown hK hP hD hS 0 rfl rfl 2 (by decide) (hts _ hm) (fun _ h9 => h9) rfl (by decide +kernel) rfl rfl (Nat.le_of_ble_eq_true rfl) hdg (fun H1 locs1 h1 _ h3 => kk H1 locs1 h1 h3)
theorem gf_X1_119 (hx : p.tables.exec = Jvm.exec) (hb : c.code = cc) (hts : ∀ w ∈ Ts, w.before args s = true) (hin : ∀ w ∈ wsX10, w ∈ Ts) (hm : Cond.fieldLink RX1 119 "TraverseBoardModel" "set" "I" ∈ Ts) (hown : s.vm.findClass RX1 = some m.cls) (hK : va_K (gD g) vwCl (gT g) s) (hP : va_P (gD g) vwCl (wM g u v) H) (hz : zse u = z) (hdg : decode cc pc = .ok (.getfield 119, 3)) (kk : W p l e R s m args below meth c H locs cells slots Q (F0 m (pc + 3) ls (.int (iI z) :: rest))) : W p l e R s m args below meth c H locs cells slots Q (F0 m pc ls (.ref (gM g 0) :: rest)) := by
  subst hz
  exact va_get (D := gD g) (ci := 1) (v := .int (iI (zse u))) (C := RX1) (T := TX1) (N := 17) hx hb hts hin hown hK hP 0 rfl rfl 7 (by decide) (hts _ hm) (fun _ h9 => h9) rfl hdg kk
theorem pf_X1_119 (hx : p.tables.exec = Jvm.exec) (hb : c.code = cc) (hts : ∀ w ∈ Ts, w.before args s = true) (hin : ∀ w ∈ wsX10, w ∈ Ts) (hm : Cond.fieldLink RX1 119 "TraverseBoardModel" "set" "I" ∈ Ts) (hown : s.vm.findClass RX1 = some m.cls) (hK : va_K (gD g) vwCl (gT g) s) (hP : va_P (gD g) vwCl (wM g u v) H) (hD : va_D A (wM g u v)) (hS : va_S A H0 H locs) (hdg : decode cc pc = .ok (.putfield 119, 3)) (kk : ∀ (H1 : Heap) (locs1 : List Loc), va_P (gD g) vwCl (wM g (use u x) v) H1 → va_S A H0 H1 locs1 → W p l e R s m args below meth c H1 locs1 cells slots Q (F0 m (pc + 3) ls rest)) : W p l e R s m args below meth c H locs cells slots Q (F0 m pc ls (.int (iI x) :: .ref (gM g 0) :: rest)) :=
  va_put (D := gD g) (ci := 1) (v := .int (iI x)) (ty := .int) (C := RX1) (T := TX1) (N := 17) hx hb hts hin tyX1 tyX1_ok nmX1 hown hK hP hD hS 0 rfl rfl 7 (by decide) (hts _ hm) (fun _ h9 => h9) rfl (by decide +kernel) rfl rfl (Nat.le_of_ble_eq_true rfl) hdg (fun H1 locs1 h1 _ h3 => kk H1 locs1 h1 h3)
theorem gf_X1_116 (hx : p.tables.exec = Jvm.exec) (hb : c.code = cc) (hts : ∀ w ∈ Ts, w.before args s = true) (hin : ∀ w ∈ wsX10, w ∈ Ts) (hm : Cond.fieldLink RX1 116 "TraverseBoardModel" "drift" "I" ∈ Ts) (hown : s.vm.findClass RX1 = some m.cls) (hK : va_K (gD g) vwCl (gT g) s) (hP : va_P (gD g) vwCl (wM g u v) H) (hz : zdr u = z) (hdg : decode cc pc = .ok (.getfield 116, 3)) (kk : W p l e R s m args below meth c H locs cells slots Q (F0 m (pc + 3) ls (.int (iI z) :: rest))) : W p l e R s m args below meth c H locs cells slots Q (F0 m pc ls (.ref (gM g 0) :: rest)) := by
  subst hz
  exact va_get (D := gD g) (ci := 1) (v := .int (iI (zdr u))) (C := RX1) (T := TX1) (N := 17) hx hb hts hin hown hK hP 0 rfl rfl 8 (by decide) (hts _ hm) (fun _ h9 => h9) rfl hdg kk
theorem pf_X1_116 (hx : p.tables.exec = Jvm.exec) (hb : c.code = cc) (hts : ∀ w ∈ Ts, w.before args s = true) (hin : ∀ w ∈ wsX10, w ∈ Ts) (hm : Cond.fieldLink RX1 116 "TraverseBoardModel" "drift" "I" ∈ Ts) (hown : s.vm.findClass RX1 = some m.cls) (hK : va_K (gD g) vwCl (gT g) s) (hP : va_P (gD g) vwCl (wM g u v) H) (hD : va_D A (wM g u v)) (hS : va_S A H0 H locs) (hdg : decode cc pc = .ok (.putfield 116, 3)) (kk : ∀ (H1 : Heap) (locs1 : List Loc), va_P (gD g) vwCl (wM g (udr u x) v) H1 → va_S A H0 H1 locs1 → W p l e R s m args below meth c H1 locs1 cells slots Q (F0 m (pc + 3) ls rest)) : W p l e R s m args below meth c H locs cells slots Q (F0 m pc ls (.int (iI x) :: .ref (gM g 0) :: rest)) :=
  va_put (D := gD g) (ci := 1) (v := .int (iI x)) (ty := .int) (C := RX1) (T := TX1) (N := 17) hx hb hts hin tyX1 tyX1_ok nmX1 hown hK hP hD hS 0 rfl rfl 8 (by decide) (hts _ hm) (fun _ h9 => h9) rfl (by decide +kernel) rfl rfl (Nat.le_of_ble_eq_true rfl) hdg (fun H1 locs1 h1 _ h3 => kk H1 locs1 h1 h3)
theorem gf_X1_7 (hx : p.tables.exec = Jvm.exec) (hb : c.code = cc) (hts : ∀ w ∈ Ts, w.before args s = true) (hin : ∀ w ∈ wsX10, w ∈ Ts) (hm : Cond.fieldLink RX1 7 "TraverseBoardModel" "buffer" "[I" ∈ Ts) (hown : s.vm.findClass RX1 = some m.cls) (hK : va_K (gD g) vwCl (gT g) s) (hP : va_P (gD g) vwCl (wM g u v) H) (hdg : decode cc pc = .ok (.getfield 7, 3)) (kk : W p l e R s m args below meth c H locs cells slots Q (F0 m (pc + 3) ls (.ref (gM g 1) :: rest))) : W p l e R s m args below meth c H locs cells slots Q (F0 m pc ls (.ref (gM g 0) :: rest)) :=
  va_get (D := gD g) (ci := 1) (v := .ref (gM g 1)) (C := RX1) (T := TX1) (N := 17) hx hb hts hin hown hK hP 0 rfl rfl 1 (by decide) (hts _ hm) (fun _ h9 => h9) rfl hdg kk
theorem gf_X1_13 (hx : p.tables.exec = Jvm.exec) (hb : c.code = cc) (hts : ∀ w ∈ Ts, w.before args s = true) (hin : ∀ w ∈ wsX10, w ∈ Ts) (hm : Cond.fieldLink RX1 13 "TraverseBoardModel" "point" "[I" ∈ Ts) (hown : s.vm.findClass RX1 = some m.cls) (hK : va_K (gD g) vwCl (gT g) s) (hP : va_P (gD g) vwCl (wM g u v) H) (hdg : decode cc pc = .ok (.getfield 13, 3)) (kk : W p l e R s m args below meth c H locs cells slots Q (F0 m (pc + 3) ls (.ref (gM g 2) :: rest))) : W p l e R s m args below meth c H locs cells slots Q (F0 m pc ls (.ref (gM g 0) :: rest)) :=
  va_get (D := gD g) (ci := 1) (v := .ref (gM g 2)) (C := RX1) (T := TX1) (N := 17) hx hb hts hin hown hK hP 0 rfl rfl 3 (by decide) (hts _ hm) (fun _ h9 => h9) rfl hdg kk
theorem gf_X1_16 (hx : p.tables.exec = Jvm.exec) (hb : c.code = cc) (hts : ∀ w ∈ Ts, w.before args s = true) (hin : ∀ w ∈ wsX10, w ∈ Ts) (hm : Cond.fieldLink RX1 16 "TraverseBoardModel" "speed" "[I" ∈ Ts) (hown : s.vm.findClass RX1 = some m.cls) (hK : va_K (gD g) vwCl (gT g) s) (hP : va_P (gD g) vwCl (wM g u v) H) (hdg : decode cc pc = .ok (.getfield 16, 3)) (kk : W p l e R s m args below meth c H locs cells slots Q (F0 m (pc + 3) ls (.ref (gM g 3) :: rest))) : W p l e R s m args below meth c H locs cells slots Q (F0 m pc ls (.ref (gM g 0) :: rest)) :=
  va_get (D := gD g) (ci := 1) (v := .ref (gM g 3)) (C := RX1) (T := TX1) (N := 17) hx hb hts hin hown hK hP 0 rfl rfl 4 (by decide) (hts _ hm) (fun _ h9 => h9) rfl hdg kk
theorem gf_X1_19 (hx : p.tables.exec = Jvm.exec) (hb : c.code = cc) (hts : ∀ w ∈ Ts, w.before args s = true) (hin : ∀ w ∈ wsX10, w ∈ Ts) (hm : Cond.fieldLink RX1 19 "TraverseBoardModel" "leeway" "[I" ∈ Ts) (hown : s.vm.findClass RX1 = some m.cls) (hK : va_K (gD g) vwCl (gT g) s) (hP : va_P (gD g) vwCl (wM g u v) H) (hdg : decode cc pc = .ok (.getfield 19, 3)) (kk : W p l e R s m args below meth c H locs cells slots Q (F0 m (pc + 3) ls (.ref (gM g 4) :: rest))) : W p l e R s m args below meth c H locs cells slots Q (F0 m pc ls (.ref (gM g 0) :: rest)) :=
  va_get (D := gD g) (ci := 1) (v := .ref (gM g 4)) (C := RX1) (T := TX1) (N := 17) hx hb hts hin hown hK hP 0 rfl rfl 5 (by decide) (hts _ hm) (fun _ h9 => h9) rfl hdg kk
theorem gf_X1_22 (hx : p.tables.exec = Jvm.exec) (hb : c.code = cc) (hts : ∀ w ∈ Ts, w.before args s = true) (hin : ∀ w ∈ wsX10, w ∈ Ts) (hm : Cond.fieldLink RX1 22 "TraverseBoardModel" "isLost" "[Z" ∈ Ts) (hown : s.vm.findClass RX1 = some m.cls) (hK : va_K (gD g) vwCl (gT g) s) (hP : va_P (gD g) vwCl (wM g u v) H) (hdg : decode cc pc = .ok (.getfield 22, 3)) (kk : W p l e R s m args below meth c H locs cells slots Q (F0 m (pc + 3) ls (.ref (gM g 5) :: rest))) : W p l e R s m args below meth c H locs cells slots Q (F0 m pc ls (.ref (gM g 0) :: rest)) :=
  va_get (D := gD g) (ci := 1) (v := .ref (gM g 5)) (C := RX1) (T := TX1) (N := 17) hx hb hts hin hown hK hP 0 rfl rfl 6 (by decide) (hts _ hm) (fun _ h9 => h9) rfl hdg kk
theorem gf_X1_26 (hx : p.tables.exec = Jvm.exec) (hb : c.code = cc) (hts : ∀ w ∈ Ts, w.before args s = true) (hin : ∀ w ∈ wsX10, w ∈ Ts) (hm : Cond.fieldLink RX1 26 "TraverseBoardModel" "hasFix" "[Z" ∈ Ts) (hown : s.vm.findClass RX1 = some m.cls) (hK : va_K (gD g) vwCl (gT g) s) (hP : va_P (gD g) vwCl (wM g u v) H) (hdg : decode cc pc = .ok (.getfield 26, 3)) (kk : W p l e R s m args below meth c H locs cells slots Q (F0 m (pc + 3) ls (.ref (gM g 6) :: rest))) : W p l e R s m args below meth c H locs cells slots Q (F0 m pc ls (.ref (gM g 0) :: rest)) :=
  va_get (D := gD g) (ci := 1) (v := .ref (gM g 6)) (C := RX1) (T := TX1) (N := 17) hx hb hts hin hown hK hP 0 rfl rfl 9 (by decide) (hts _ hm) (fun _ h9 => h9) rfl hdg kk
theorem gf_X1_29 (hx : p.tables.exec = Jvm.exec) (hb : c.code = cc) (hts : ∀ w ∈ Ts, w.before args s = true) (hin : ∀ w ∈ wsX10, w ∈ Ts) (hm : Cond.fieldLink RX1 29 "TraverseBoardModel" "fixNorth" "[J" ∈ Ts) (hown : s.vm.findClass RX1 = some m.cls) (hK : va_K (gD g) vwCl (gT g) s) (hP : va_P (gD g) vwCl (wM g u v) H) (hdg : decode cc pc = .ok (.getfield 29, 3)) (kk : W p l e R s m args below meth c H locs cells slots Q (F0 m (pc + 3) ls (.ref (gM g 7) :: rest))) : W p l e R s m args below meth c H locs cells slots Q (F0 m pc ls (.ref (gM g 0) :: rest)) :=
  va_get (D := gD g) (ci := 1) (v := .ref (gM g 7)) (C := RX1) (T := TX1) (N := 17) hx hb hts hin hown hK hP 0 rfl rfl 10 (by decide) (hts _ hm) (fun _ h9 => h9) rfl hdg kk
theorem gf_X1_33 (hx : p.tables.exec = Jvm.exec) (hb : c.code = cc) (hts : ∀ w ∈ Ts, w.before args s = true) (hin : ∀ w ∈ wsX10, w ∈ Ts) (hm : Cond.fieldLink RX1 33 "TraverseBoardModel" "fixEast" "[J" ∈ Ts) (hown : s.vm.findClass RX1 = some m.cls) (hK : va_K (gD g) vwCl (gT g) s) (hP : va_P (gD g) vwCl (wM g u v) H) (hdg : decode cc pc = .ok (.getfield 33, 3)) (kk : W p l e R s m args below meth c H locs cells slots Q (F0 m (pc + 3) ls (.ref (gM g 8) :: rest))) : W p l e R s m args below meth c H locs cells slots Q (F0 m pc ls (.ref (gM g 0) :: rest)) :=
  va_get (D := gD g) (ci := 1) (v := .ref (gM g 8)) (C := RX1) (T := TX1) (N := 17) hx hb hts hin hown hK hP 0 rfl rfl 11 (by decide) (hts _ hm) (fun _ h9 => h9) rfl hdg kk
theorem gf_X1_82 (hx : p.tables.exec = Jvm.exec) (hb : c.code = cc) (hts : ∀ w ∈ Ts, w.before args s = true) (hin : ∀ w ∈ wsX10, w ∈ Ts) (hm : Cond.fieldLink RX1 82 "TraverseBoardModel" "readPoint" "I" ∈ Ts) (hown : s.vm.findClass RX1 = some m.cls) (hK : va_K (gD g) vwCl (gT g) s) (hP : va_P (gD g) vwCl (wM g u v) H) (hz : vrp v = z) (hdg : decode cc pc = .ok (.getfield 82, 3)) (kk : W p l e R s m args below meth c H locs cells slots Q (F0 m (pc + 3) ls (.int (iI z) :: rest))) : W p l e R s m args below meth c H locs cells slots Q (F0 m pc ls (.ref (gM g 0) :: rest)) := by
  subst hz
  exact va_get (D := gD g) (ci := 1) (v := .int (iI (vrp v))) (C := RX1) (T := TX1) (N := 17) hx hb hts hin hown hK hP 0 rfl rfl 12 (by decide) (hts _ hm) (fun _ h9 => h9) rfl hdg kk
theorem pf_X1_82 (hx : p.tables.exec = Jvm.exec) (hb : c.code = cc) (hts : ∀ w ∈ Ts, w.before args s = true) (hin : ∀ w ∈ wsX10, w ∈ Ts) (hm : Cond.fieldLink RX1 82 "TraverseBoardModel" "readPoint" "I" ∈ Ts) (hown : s.vm.findClass RX1 = some m.cls) (hK : va_K (gD g) vwCl (gT g) s) (hP : va_P (gD g) vwCl (wM g u v) H) (hD : va_D A (wM g u v)) (hS : va_S A H0 H locs) (hdg : decode cc pc = .ok (.putfield 82, 3)) (kk : ∀ (H1 : Heap) (locs1 : List Loc), va_P (gD g) vwCl (wM g u (wrp v x)) H1 → va_S A H0 H1 locs1 → W p l e R s m args below meth c H1 locs1 cells slots Q (F0 m (pc + 3) ls rest)) : W p l e R s m args below meth c H locs cells slots Q (F0 m pc ls (.int (iI x) :: .ref (gM g 0) :: rest)) :=
  va_put (D := gD g) (ci := 1) (v := .int (iI x)) (ty := .int) (C := RX1) (T := TX1) (N := 17) hx hb hts hin tyX1 tyX1_ok nmX1 hown hK hP hD hS 0 rfl rfl 12 (by decide) (hts _ hm) (fun _ h9 => h9) rfl (by decide +kernel) rfl rfl (Nat.le_of_ble_eq_true rfl) hdg (fun H1 locs1 h1 _ h3 => kk H1 locs1 h1 h3)
theorem gf_X1_85 (hx : p.tables.exec = Jvm.exec) (hb : c.code = cc) (hts : ∀ w ∈ Ts, w.before args s = true) (hin : ∀ w ∈ wsX10, w ∈ Ts) (hm : Cond.fieldLink RX1 85 "TraverseBoardModel" "readSpeed" "I" ∈ Ts) (hown : s.vm.findClass RX1 = some m.cls) (hK : va_K (gD g) vwCl (gT g) s) (hP : va_P (gD g) vwCl (wM g u v) H) (hz : vrs v = z) (hdg : decode cc pc = .ok (.getfield 85, 3)) (kk : W p l e R s m args below meth c H locs cells slots Q (F0 m (pc + 3) ls (.int (iI z) :: rest))) : W p l e R s m args below meth c H locs cells slots Q (F0 m pc ls (.ref (gM g 0) :: rest)) := by
  subst hz
  exact va_get (D := gD g) (ci := 1) (v := .int (iI (vrs v))) (C := RX1) (T := TX1) (N := 17) hx hb hts hin hown hK hP 0 rfl rfl 13 (by decide) (hts _ hm) (fun _ h9 => h9) rfl hdg kk
theorem pf_X1_85 (hx : p.tables.exec = Jvm.exec) (hb : c.code = cc) (hts : ∀ w ∈ Ts, w.before args s = true) (hin : ∀ w ∈ wsX10, w ∈ Ts) (hm : Cond.fieldLink RX1 85 "TraverseBoardModel" "readSpeed" "I" ∈ Ts) (hown : s.vm.findClass RX1 = some m.cls) (hK : va_K (gD g) vwCl (gT g) s) (hP : va_P (gD g) vwCl (wM g u v) H) (hD : va_D A (wM g u v)) (hS : va_S A H0 H locs) (hdg : decode cc pc = .ok (.putfield 85, 3)) (kk : ∀ (H1 : Heap) (locs1 : List Loc), va_P (gD g) vwCl (wM g u (wrs v x)) H1 → va_S A H0 H1 locs1 → W p l e R s m args below meth c H1 locs1 cells slots Q (F0 m (pc + 3) ls rest)) : W p l e R s m args below meth c H locs cells slots Q (F0 m pc ls (.int (iI x) :: .ref (gM g 0) :: rest)) :=
  va_put (D := gD g) (ci := 1) (v := .int (iI x)) (ty := .int) (C := RX1) (T := TX1) (N := 17) hx hb hts hin tyX1 tyX1_ok nmX1 hown hK hP hD hS 0 rfl rfl 13 (by decide) (hts _ hm) (fun _ h9 => h9) rfl (by decide +kernel) rfl rfl (Nat.le_of_ble_eq_true rfl) hdg (fun H1 locs1 h1 _ h3 => kk H1 locs1 h1 h3)
theorem gf_X1_72 (hx : p.tables.exec = Jvm.exec) (hb : c.code = cc) (hts : ∀ w ∈ Ts, w.before args s = true) (hin : ∀ w ∈ wsX10, w ∈ Ts) (hm : Cond.fieldLink RX1 72 "TraverseBoardModel" "errorAt" "I" ∈ Ts) (hown : s.vm.findClass RX1 = some m.cls) (hK : va_K (gD g) vwCl (gT g) s) (hP : va_P (gD g) vwCl (wM g u v) H) (hz : vea v = z) (hdg : decode cc pc = .ok (.getfield 72, 3)) (kk : W p l e R s m args below meth c H locs cells slots Q (F0 m (pc + 3) ls (.int (iI z) :: rest))) : W p l e R s m args below meth c H locs cells slots Q (F0 m pc ls (.ref (gM g 0) :: rest)) := by
  subst hz
  exact va_get (D := gD g) (ci := 1) (v := .int (iI (vea v))) (C := RX1) (T := TX1) (N := 17) hx hb hts hin hown hK hP 0 rfl rfl 14 (by decide) (hts _ hm) (fun _ h9 => h9) rfl hdg kk
theorem pf_X1_72 (hx : p.tables.exec = Jvm.exec) (hb : c.code = cc) (hts : ∀ w ∈ Ts, w.before args s = true) (hin : ∀ w ∈ wsX10, w ∈ Ts) (hm : Cond.fieldLink RX1 72 "TraverseBoardModel" "errorAt" "I" ∈ Ts) (hown : s.vm.findClass RX1 = some m.cls) (hK : va_K (gD g) vwCl (gT g) s) (hP : va_P (gD g) vwCl (wM g u v) H) (hD : va_D A (wM g u v)) (hS : va_S A H0 H locs) (hdg : decode cc pc = .ok (.putfield 72, 3)) (kk : ∀ (H1 : Heap) (locs1 : List Loc), va_P (gD g) vwCl (wM g u (wea v x)) H1 → va_S A H0 H1 locs1 → W p l e R s m args below meth c H1 locs1 cells slots Q (F0 m (pc + 3) ls rest)) : W p l e R s m args below meth c H locs cells slots Q (F0 m pc ls (.int (iI x) :: .ref (gM g 0) :: rest)) :=
  va_put (D := gD g) (ci := 1) (v := .int (iI x)) (ty := .int) (C := RX1) (T := TX1) (N := 17) hx hb hts hin tyX1 tyX1_ok nmX1 hown hK hP hD hS 0 rfl rfl 14 (by decide) (hts _ hm) (fun _ h9 => h9) rfl (by decide +kernel) rfl rfl (Nat.le_of_ble_eq_true rfl) hdg (fun H1 locs1 h1 _ h3 => kk H1 locs1 h1 h3)
theorem gf_X1_75 (hx : p.tables.exec = Jvm.exec) (hb : c.code = cc) (hts : ∀ w ∈ Ts, w.before args s = true) (hin : ∀ w ∈ wsX10, w ∈ Ts) (hm : Cond.fieldLink RX1 75 "TraverseBoardModel" "isPeg" "Z" ∈ Ts) (hown : s.vm.findClass RX1 = some m.cls) (hK : va_K (gD g) vwCl (gT g) s) (hP : va_P (gD g) vwCl (wM g u v) H) (hz : vip v = z) (hdg : decode cc pc = .ok (.getfield 75, 3)) (kk : W p l e R s m args below meth c H locs cells slots Q (F0 m (pc + 3) ls (.int (iI z) :: rest))) : W p l e R s m args below meth c H locs cells slots Q (F0 m pc ls (.ref (gM g 0) :: rest)) := by
  subst hz
  exact va_get (D := gD g) (ci := 1) (v := .int (iI (vip v))) (C := RX1) (T := TX1) (N := 17) hx hb hts hin hown hK hP 0 rfl rfl 15 (by decide) (hts _ hm) (fun _ h9 => h9) rfl hdg kk
theorem pf_X1_75 (hx : p.tables.exec = Jvm.exec) (hb : c.code = cc) (hts : ∀ w ∈ Ts, w.before args s = true) (hin : ∀ w ∈ wsX10, w ∈ Ts) (hm : Cond.fieldLink RX1 75 "TraverseBoardModel" "isPeg" "Z" ∈ Ts) (hown : s.vm.findClass RX1 = some m.cls) (hK : va_K (gD g) vwCl (gT g) s) (hP : va_P (gD g) vwCl (wM g u v) H) (hD : va_D A (wM g u v)) (hS : va_S A H0 H locs) (hn : narrow .boolean (.int (iI x)) = .int (iI x) ∧ fits .boolean (.int (iI x)) = true) (hdg : decode cc pc = .ok (.putfield 75, 3)) (kk : ∀ (H1 : Heap) (locs1 : List Loc), va_P (gD g) vwCl (wM g u (wip v x)) H1 → va_S A H0 H1 locs1 → W p l e R s m args below meth c H1 locs1 cells slots Q (F0 m (pc + 3) ls rest)) : W p l e R s m args below meth c H locs cells slots Q (F0 m pc ls (.int (iI x) :: .ref (gM g 0) :: rest)) :=
  va_put (D := gD g) (ci := 1) (v := .int (iI x)) (ty := .boolean) (C := RX1) (T := TX1) (N := 17) hx hb hts hin tyX1 tyX1_ok nmX1 hown hK hP hD hS 0 rfl rfl 15 (by decide) (hts _ hm) (fun _ h9 => h9) rfl (by decide +kernel) hn.1 hn.2 (Nat.le_of_ble_eq_true rfl) hdg (fun H1 locs1 h1 _ h3 => kk H1 locs1 h1 h3)
theorem gf_X1_194 (hx : p.tables.exec = Jvm.exec) (hb : c.code = cc) (hts : ∀ w ∈ Ts, w.before args s = true) (hin : ∀ w ∈ wsX10, w ∈ Ts) (hm : Cond.fieldLink RX1 194 "TraverseBoardModel" "h" "J" ∈ Ts) (hown : s.vm.findClass RX1 = some m.cls) (hK : va_K (gD g) vwCl (gT g) s) (hP : va_P (gD g) vwCl (wM g u v) H) (hz : vh v = z) (hdg : decode cc pc = .ok (.getfield 194, 3)) (kk : W p l e R s m args below meth c H locs cells slots Q (F0 m (pc + 3) ls (.long (jI z) :: rest))) : W p l e R s m args below meth c H locs cells slots Q (F0 m pc ls (.ref (gM g 0) :: rest)) := by
  subst hz
  exact va_get (D := gD g) (ci := 1) (v := .long (jI (vh v))) (C := RX1) (T := TX1) (N := 17) hx hb hts hin hown hK hP 0 rfl rfl 16 (by decide) (hts _ hm) (fun _ h9 => h9) rfl hdg kk
theorem pf_X1_194 (hx : p.tables.exec = Jvm.exec) (hb : c.code = cc) (hts : ∀ w ∈ Ts, w.before args s = true) (hin : ∀ w ∈ wsX10, w ∈ Ts) (hm : Cond.fieldLink RX1 194 "TraverseBoardModel" "h" "J" ∈ Ts) (hown : s.vm.findClass RX1 = some m.cls) (hK : va_K (gD g) vwCl (gT g) s) (hP : va_P (gD g) vwCl (wM g u v) H) (hD : va_D A (wM g u v)) (hS : va_S A H0 H locs) (hdg : decode cc pc = .ok (.putfield 194, 3)) (kk : ∀ (H1 : Heap) (locs1 : List Loc), va_P (gD g) vwCl (wM g u (wh v x)) H1 → va_S A H0 H1 locs1 → W p l e R s m args below meth c H1 locs1 cells slots Q (F0 m (pc + 3) ls rest)) : W p l e R s m args below meth c H locs cells slots Q (F0 m pc ls (.long (jI x) :: .ref (gM g 0) :: rest)) :=
  va_put (D := gD g) (ci := 1) (v := .long (jI x)) (ty := .long) (C := RX1) (T := TX1) (N := 17) hx hb hts hin tyX1 tyX1_ok nmX1 hown hK hP hD hS 0 rfl rfl 16 (by decide) (hts _ hm) (fun _ h9 => h9) rfl (by decide +kernel) rfl rfl (Nat.le_of_ble_eq_true rfl) hdg (fun H1 locs1 h1 _ h3 => kk H1 locs1 h1 h3)
theorem al_X1_1 (hx : p.tables.exec = Jvm.exec) (hb : c.code = cc) (hK : va_K (gD g) vwCl (gT g) s) (hP : va_P (gD g) vwCl (wM g u v) H) (h : 0 ≤ i ∧ i < 12) (hdg : decode cc pc = .ok (.iaload, 1)) (kk : W p l e R s m args below meth c H locs cells slots Q (F0 m (pc + 1) ls (.int (iI (zbu u i)) :: rest))) : W p l e R s m args below meth c H locs cells slots Q (F0 m pc ls (.int (iI i) :: .ref (gM g 1) :: rest)) :=
  z_iald hx hb hK hP 1 0 rfl rfl (by decide) h hdg kk
theorem as_X1_1 (hx : p.tables.exec = Jvm.exec) (hb : c.code = cc) (hK : va_K (gD g) vwCl (gT g) s) (hP : va_P (gD g) vwCl (wM g u v) H) (hD : va_D A (wM g u v)) (hS : va_S A H0 H locs) (h : 0 ≤ i ∧ i < 12) (hdg : decode cc pc = .ok (.iastore, 1)) (kk : ∀ (H1 : Heap) (locs1 : List Loc), va_P (gD g) vwCl (wM g (ubu u (zup (zbu u) i x)) v) H1 → va_S A H0 H1 locs1 → W p l e R s m args below meth c H1 locs1 cells slots Q (F0 m (pc + 1) ls rest)) : W p l e R s m args below meth c H locs cells slots Q (F0 m pc ls (.int (iI x) :: .int (iI i) :: .ref (gM g 1) :: rest)) :=
  z_iast hx hb hK hP hD hS 1 0 rfl rfl (by decide) h hdg (fun H1 locs1 h1 h3 => kk H1 locs1 h1 h3)
theorem al_X1_2 (hx : p.tables.exec = Jvm.exec) (hb : c.code = cc) (hK : va_K (gD g) vwCl (gT g) s) (hP : va_P (gD g) vwCl (wM g u v) H) (h : 0 ≤ i ∧ i < 48) (hdg : decode cc pc = .ok (.iaload, 1)) (kk : W p l e R s m args below meth c H locs cells slots Q (F0 m (pc + 1) ls (.int (iI (zpo u i)) :: rest))) : W p l e R s m args below meth c H locs cells slots Q (F0 m pc ls (.int (iI i) :: .ref (gM g 2) :: rest)) :=
  z_iald hx hb hK hP 2 0 rfl rfl (by decide) h hdg kk
theorem as_X1_2 (hx : p.tables.exec = Jvm.exec) (hb : c.code = cc) (hK : va_K (gD g) vwCl (gT g) s) (hP : va_P (gD g) vwCl (wM g u v) H) (hD : va_D A (wM g u v)) (hS : va_S A H0 H locs) (h : 0 ≤ i ∧ i < 48) (hdg : decode cc pc = .ok (.iastore, 1)) (kk : ∀ (H1 : Heap) (locs1 : List Loc), va_P (gD g) vwCl (wM g (upo u (zup (zpo u) i x)) v) H1 → va_S A H0 H1 locs1 → W p l e R s m args below meth c H1 locs1 cells slots Q (F0 m (pc + 1) ls rest)) : W p l e R s m args below meth c H locs cells slots Q (F0 m pc ls (.int (iI x) :: .int (iI i) :: .ref (gM g 2) :: rest)) :=
  z_iast hx hb hK hP hD hS 2 0 rfl rfl (by decide) h hdg (fun H1 locs1 h1 h3 => kk H1 locs1 h1 h3)
theorem al_X1_3 (hx : p.tables.exec = Jvm.exec) (hb : c.code = cc) (hK : va_K (gD g) vwCl (gT g) s) (hP : va_P (gD g) vwCl (wM g u v) H) (h : 0 ≤ i ∧ i < 48) (hdg : decode cc pc = .ok (.iaload, 1)) (kk : W p l e R s m args below meth c H locs cells slots Q (F0 m (pc + 1) ls (.int (iI (zsp u i)) :: rest))) : W p l e R s m args below meth c H locs cells slots Q (F0 m pc ls (.int (iI i) :: .ref (gM g 3) :: rest)) :=
  z_iald hx hb hK hP 3 0 rfl rfl (by decide) h hdg kk
theorem as_X1_3 (hx : p.tables.exec = Jvm.exec) (hb : c.code = cc) (hK : va_K (gD g) vwCl (gT g) s) (hP : va_P (gD g) vwCl (wM g u v) H) (hD : va_D A (wM g u v)) (hS : va_S A H0 H locs) (h : 0 ≤ i ∧ i < 48) (hdg : decode cc pc = .ok (.iastore, 1)) (kk : ∀ (H1 : Heap) (locs1 : List Loc), va_P (gD g) vwCl (wM g (usp u (zup (zsp u) i x)) v) H1 → va_S A H0 H1 locs1 → W p l e R s m args below meth c H1 locs1 cells slots Q (F0 m (pc + 1) ls rest)) : W p l e R s m args below meth c H locs cells slots Q (F0 m pc ls (.int (iI x) :: .int (iI i) :: .ref (gM g 3) :: rest)) :=
  z_iast hx hb hK hP hD hS 3 0 rfl rfl (by decide) h hdg (fun H1 locs1 h1 h3 => kk H1 locs1 h1 h3)
theorem al_X1_4 (hx : p.tables.exec = Jvm.exec) (hb : c.code = cc) (hK : va_K (gD g) vwCl (gT g) s) (hP : va_P (gD g) vwCl (wM g u v) H) (h : 0 ≤ i ∧ i < 48) (hdg : decode cc pc = .ok (.iaload, 1)) (kk : W p l e R s m args below meth c H locs cells slots Q (F0 m (pc + 1) ls (.int (iI (zle u i)) :: rest))) : W p l e R s m args below meth c H locs cells slots Q (F0 m pc ls (.int (iI i) :: .ref (gM g 4) :: rest)) :=
  z_iald hx hb hK hP 4 0 rfl rfl (by decide) h hdg kk
theorem as_X1_4 (hx : p.tables.exec = Jvm.exec) (hb : c.code = cc) (hK : va_K (gD g) vwCl (gT g) s) (hP : va_P (gD g) vwCl (wM g u v) H) (hD : va_D A (wM g u v)) (hS : va_S A H0 H locs) (h : 0 ≤ i ∧ i < 48) (hdg : decode cc pc = .ok (.iastore, 1)) (kk : ∀ (H1 : Heap) (locs1 : List Loc), va_P (gD g) vwCl (wM g (ule u (zup (zle u) i x)) v) H1 → va_S A H0 H1 locs1 → W p l e R s m args below meth c H1 locs1 cells slots Q (F0 m (pc + 1) ls rest)) : W p l e R s m args below meth c H locs cells slots Q (F0 m pc ls (.int (iI x) :: .int (iI i) :: .ref (gM g 4) :: rest)) :=
  z_iast hx hb hK hP hD hS 4 0 rfl rfl (by decide) h hdg (fun H1 locs1 h1 h3 => kk H1 locs1 h1 h3)
theorem al_X1_5 (hx : p.tables.exec = Jvm.exec) (hb : c.code = cc) (hK : va_K (gD g) vwCl (gT g) s) (hP : va_P (gD g) vwCl (wM g u v) H) (h : 0 ≤ i ∧ i < 48) (hdg : decode cc pc = .ok (.baload, 1)) (kk : W p l e R s m args below meth c H locs cells slots Q (F0 m (pc + 1) ls (.int (iI (zlo u i)) :: rest))) : W p l e R s m args below meth c H locs cells slots Q (F0 m pc ls (.int (iI i) :: .ref (gM g 5) :: rest)) :=
  z_zald hx hb hK hP 5 1 rfl rfl (by decide) h hdg kk
theorem as_X1_5 (hx : p.tables.exec = Jvm.exec) (hb : c.code = cc) (hK : va_K (gD g) vwCl (gT g) s) (hP : va_P (gD g) vwCl (wM g u v) H) (hD : va_D A (wM g u v)) (hS : va_S A H0 H locs) (h : 0 ≤ i ∧ i < 48) (hn : vp_nar .boolean (iI x) = iI x) (hdg : decode cc pc = .ok (.bastore, 1)) (kk : ∀ (H1 : Heap) (locs1 : List Loc), va_P (gD g) vwCl (wM g (ulo u (zup (zlo u) i x)) v) H1 → va_S A H0 H1 locs1 → W p l e R s m args below meth c H1 locs1 cells slots Q (F0 m (pc + 1) ls rest)) : W p l e R s m args below meth c H locs cells slots Q (F0 m pc ls (.int (iI x) :: .int (iI i) :: .ref (gM g 5) :: rest)) :=
  z_zast hx hb hK hP hD hS 5 1 rfl rfl (by decide) h hn hdg (fun H1 locs1 h1 h3 => kk H1 locs1 h1 h3)
theorem al_X1_6 (hx : p.tables.exec = Jvm.exec) (hb : c.code = cc) (hK : va_K (gD g) vwCl (gT g) s) (hP : va_P (gD g) vwCl (wM g u v) H) (h : 0 ≤ i ∧ i < 49) (hdg : decode cc pc = .ok (.baload, 1)) (kk : W p l e R s m args below meth c H locs cells slots Q (F0 m (pc + 1) ls (.int (iI (zfx u i)) :: rest))) : W p l e R s m args below meth c H locs cells slots Q (F0 m pc ls (.int (iI i) :: .ref (gM g 6) :: rest)) :=
  z_zald hx hb hK hP 6 1 rfl rfl (by decide) h hdg kk
theorem as_X1_6 (hx : p.tables.exec = Jvm.exec) (hb : c.code = cc) (hK : va_K (gD g) vwCl (gT g) s) (hP : va_P (gD g) vwCl (wM g u v) H) (hD : va_D A (wM g u v)) (hS : va_S A H0 H locs) (h : 0 ≤ i ∧ i < 49) (hn : vp_nar .boolean (iI x) = iI x) (hdg : decode cc pc = .ok (.bastore, 1)) (kk : ∀ (H1 : Heap) (locs1 : List Loc), va_P (gD g) vwCl (wM g (ufx u (zup (zfx u) i x)) v) H1 → va_S A H0 H1 locs1 → W p l e R s m args below meth c H1 locs1 cells slots Q (F0 m (pc + 1) ls rest)) : W p l e R s m args below meth c H locs cells slots Q (F0 m pc ls (.int (iI x) :: .int (iI i) :: .ref (gM g 6) :: rest)) :=
  z_zast hx hb hK hP hD hS 6 1 rfl rfl (by decide) h hn hdg (fun H1 locs1 h1 h3 => kk H1 locs1 h1 h3)
theorem al_X1_7 (hx : p.tables.exec = Jvm.exec) (hb : c.code = cc) (hK : va_K (gD g) vwCl (gT g) s) (hP : va_P (gD g) vwCl (wM g u v) H) (h : 0 ≤ i ∧ i < 49) (hdg : decode cc pc = .ok (.laload, 1)) (kk : W p l e R s m args below meth c H locs cells slots Q (F0 m (pc + 1) ls (.long (jI (zfn u i)) :: rest))) : W p l e R s m args below meth c H locs cells slots Q (F0 m pc ls (.int (iI i) :: .ref (gM g 7) :: rest)) :=
  z_lald hx hb hK hP 7 2 rfl rfl (by decide) h hdg kk
theorem as_X1_7 (hx : p.tables.exec = Jvm.exec) (hb : c.code = cc) (hK : va_K (gD g) vwCl (gT g) s) (hP : va_P (gD g) vwCl (wM g u v) H) (hD : va_D A (wM g u v)) (hS : va_S A H0 H locs) (h : 0 ≤ i ∧ i < 49) (hdg : decode cc pc = .ok (.lastore, 1)) (kk : ∀ (H1 : Heap) (locs1 : List Loc), va_P (gD g) vwCl (wM g (ufn u (zup (zfn u) i x)) v) H1 → va_S A H0 H1 locs1 → W p l e R s m args below meth c H1 locs1 cells slots Q (F0 m (pc + 1) ls rest)) : W p l e R s m args below meth c H locs cells slots Q (F0 m pc ls (.long (jI x) :: .int (iI i) :: .ref (gM g 7) :: rest)) :=
  z_last hx hb hK hP hD hS 7 2 rfl rfl (by decide) h hdg (fun H1 locs1 h1 h3 => kk H1 locs1 h1 h3)
theorem al_X1_8 (hx : p.tables.exec = Jvm.exec) (hb : c.code = cc) (hK : va_K (gD g) vwCl (gT g) s) (hP : va_P (gD g) vwCl (wM g u v) H) (h : 0 ≤ i ∧ i < 49) (hdg : decode cc pc = .ok (.laload, 1)) (kk : W p l e R s m args below meth c H locs cells slots Q (F0 m (pc + 1) ls (.long (jI (zfe u i)) :: rest))) : W p l e R s m args below meth c H locs cells slots Q (F0 m pc ls (.int (iI i) :: .ref (gM g 8) :: rest)) :=
  z_lald hx hb hK hP 8 2 rfl rfl (by decide) h hdg kk
theorem as_X1_8 (hx : p.tables.exec = Jvm.exec) (hb : c.code = cc) (hK : va_K (gD g) vwCl (gT g) s) (hP : va_P (gD g) vwCl (wM g u v) H) (hD : va_D A (wM g u v)) (hS : va_S A H0 H locs) (h : 0 ≤ i ∧ i < 49) (hdg : decode cc pc = .ok (.lastore, 1)) (kk : ∀ (H1 : Heap) (locs1 : List Loc), va_P (gD g) vwCl (wM g (ufe u (zup (zfe u) i x)) v) H1 → va_S A H0 H1 locs1 → W p l e R s m args below meth c H1 locs1 cells slots Q (F0 m (pc + 1) ls rest)) : W p l e R s m args below meth c H locs cells slots Q (F0 m pc ls (.long (jI x) :: .int (iI i) :: .ref (gM g 8) :: rest)) :=
  z_last hx hb hK hP hD hS 8 2 rfl rfl (by decide) h hdg (fun H1 locs1 h1 h3 => kk H1 locs1 h1 h3)
theorem z_sin (hx : p.tables.exec = Jvm.exec) (hb : c.code = cc) (hZ : ZS A g s s.heap) (hS : va_S A s.heap H locs) (h : 0 ≤ i ∧ i < 32) (hdg : decode cc pc = .ok (.iaload, 1)) (kk : W p l e R s m args below meth c H locs cells slots Q (F0 m (pc + 1) ls (.int (iI (sn i)) :: rest))) : W p l e R s m args below meth c H locs cells slots Q (F0 m pc ls (.int (iI i) :: .ref (gS g) :: rest)) :=
  va_ti hx hb hZ.2.1 hS (iI_in h.1 h.2 (by decide)) (v := .int (iI (sn i))) (by
    show Value.int (iI (sn ((iI i).toNatClampNeg : Int))) = _
    rw [iI_clamp ⟨by omega, by omega⟩, Int.toNat_of_nonneg h.1]) hdg kk
theorem rcS (hZ : ZS A g s s.heap) (hS : va_S A s.heap H locs) : ∃ cellB : Cell, H[gA g]? = some cellB ∧ cellB.vm.isStatics = false ∧ s.vm.findClass RJ0 = some cellB.cls := vk_recv hZ.2.2.2.1 (i := 0) (by decide) hS
theorem z_loop1 (I : Int → Prop) (μ : Int → Nat) (L : Int → List (Nat × Value)) (step : ∀ (x1 : Int) (ls : Array Slot), I x1 → lv_has ls nL (L x1) → (∀ (y1 : Int) (ls' : Array Slot), I y1 → μ y1 < μ x1 → lv_has ls' nL (L y1) → W p l e R s m args below meth c H locs cells slots Q (F0 m pc ls' rest)) → W p l e R s m args below meth c H locs cells slots Q (F0 m pc ls rest)) : ∀ (x1 : Int) (ls : Array Slot), I x1 → lv_has ls nL (L x1) → W p l e R s m args below meth c H locs cells slots Q (F0 m pc ls rest) := by
  have key : ∀ (n : Nat) (x1 : Int) (ls : Array Slot), μ x1 < n → I x1 → lv_has ls nL (L x1) → W p l e R s m args below meth c H locs cells slots Q (F0 m pc ls rest) := by
    intro n
    induction n with
    | zero => intro x1 ls h; exact absurd h (Nat.not_lt_zero _)
    | succ n ih =>
      intro x1 ls h hI hl
      exact step x1 ls hI hl (fun y1 ls' hI' hm hl' => ih y1 ls' (Nat.lt_of_lt_of_le hm (Nat.le_of_lt_succ h)) hI' hl')
  intro x1 ls hI hl
  exact key (μ x1 + 1) x1 ls (Nat.lt_succ_self _) hI hl
theorem z_loopW1 (I : Int → Prop) (μ : Int → Nat) (L : Int → List (Nat × Value)) (J : Int → Heap → Prop) (step : ∀ (x1 : Int) (H : Heap) (locs : List Loc) (ls : Array Slot), I x1 → J x1 H → va_S A H0 H locs → lv_has ls nL (L x1) → (∀ (y1 : Int) (H' : Heap) (locs' : List Loc) (ls' : Array Slot), I y1 → J y1 H' → va_S A H0 H' locs' → μ y1 < μ x1 → lv_has ls' nL (L y1) → W p l e R s m args below meth c H' locs' cells slots Q (F0 m pc ls' rest)) → W p l e R s m args below meth c H locs cells slots Q (F0 m pc ls rest)) : ∀ (x1 : Int) (H : Heap) (locs : List Loc) (ls : Array Slot), I x1 → J x1 H → va_S A H0 H locs → lv_has ls nL (L x1) → W p l e R s m args below meth c H locs cells slots Q (F0 m pc ls rest) := by
  have key : ∀ (n : Nat) (x1 : Int) (H : Heap) (locs : List Loc) (ls : Array Slot), μ x1 < n → I x1 → J x1 H → va_S A H0 H locs → lv_has ls nL (L x1) → W p l e R s m args below meth c H locs cells slots Q (F0 m pc ls rest) := by
    intro n
    induction n with
    | zero => intro x1 H locs ls h; exact absurd h (Nat.not_lt_zero _)
    | succ n ih =>
      intro x1 H locs ls h hI hJ hS hl
      exact step x1 H locs ls hI hJ hS hl (fun y1 H' locs' ls' hI' hJ' hS' hm hl' => ih y1 H' locs' ls' (Nat.lt_of_lt_of_le hm (Nat.le_of_lt_succ h)) hI' hJ' hS' hl')
  intro x1 H locs ls hI hJ hS hl
  exact key (μ x1 + 1) x1 H locs ls (Nat.lt_succ_self _) hI hJ hS hl
theorem z_loop2 (I : Int → Int → Prop) (μ : Int → Int → Nat) (L : Int → Int → List (Nat × Value)) (step : ∀ (x1 x2 : Int) (ls : Array Slot), I x1 x2 → lv_has ls nL (L x1 x2) → (∀ (y1 y2 : Int) (ls' : Array Slot), I y1 y2 → μ y1 y2 < μ x1 x2 → lv_has ls' nL (L y1 y2) → W p l e R s m args below meth c H locs cells slots Q (F0 m pc ls' rest)) → W p l e R s m args below meth c H locs cells slots Q (F0 m pc ls rest)) : ∀ (x1 x2 : Int) (ls : Array Slot), I x1 x2 → lv_has ls nL (L x1 x2) → W p l e R s m args below meth c H locs cells slots Q (F0 m pc ls rest) := by
  have key : ∀ (n : Nat) (x1 x2 : Int) (ls : Array Slot), μ x1 x2 < n → I x1 x2 → lv_has ls nL (L x1 x2) → W p l e R s m args below meth c H locs cells slots Q (F0 m pc ls rest) := by
    intro n
    induction n with
    | zero => intro x1 x2 ls h; exact absurd h (Nat.not_lt_zero _)
    | succ n ih =>
      intro x1 x2 ls h hI hl
      exact step x1 x2 ls hI hl (fun y1 y2 ls' hI' hm hl' => ih y1 y2 ls' (Nat.lt_of_lt_of_le hm (Nat.le_of_lt_succ h)) hI' hl')
  intro x1 x2 ls hI hl
  exact key (μ x1 x2 + 1) x1 x2 ls (Nat.lt_succ_self _) hI hl
theorem z_loopW2 (I : Int → Int → Prop) (μ : Int → Int → Nat) (L : Int → Int → List (Nat × Value)) (J : Int → Int → Heap → Prop) (step : ∀ (x1 x2 : Int) (H : Heap) (locs : List Loc) (ls : Array Slot), I x1 x2 → J x1 x2 H → va_S A H0 H locs → lv_has ls nL (L x1 x2) → (∀ (y1 y2 : Int) (H' : Heap) (locs' : List Loc) (ls' : Array Slot), I y1 y2 → J y1 y2 H' → va_S A H0 H' locs' → μ y1 y2 < μ x1 x2 → lv_has ls' nL (L y1 y2) → W p l e R s m args below meth c H' locs' cells slots Q (F0 m pc ls' rest)) → W p l e R s m args below meth c H locs cells slots Q (F0 m pc ls rest)) : ∀ (x1 x2 : Int) (H : Heap) (locs : List Loc) (ls : Array Slot), I x1 x2 → J x1 x2 H → va_S A H0 H locs → lv_has ls nL (L x1 x2) → W p l e R s m args below meth c H locs cells slots Q (F0 m pc ls rest) := by
  have key : ∀ (n : Nat) (x1 x2 : Int) (H : Heap) (locs : List Loc) (ls : Array Slot), μ x1 x2 < n → I x1 x2 → J x1 x2 H → va_S A H0 H locs → lv_has ls nL (L x1 x2) → W p l e R s m args below meth c H locs cells slots Q (F0 m pc ls rest) := by
    intro n
    induction n with
    | zero => intro x1 x2 H locs ls h; exact absurd h (Nat.not_lt_zero _)
    | succ n ih =>
      intro x1 x2 H locs ls h hI hJ hS hl
      exact step x1 x2 H locs ls hI hJ hS hl (fun y1 y2 H' locs' ls' hI' hJ' hS' hm hl' => ih y1 y2 H' locs' ls' (Nat.lt_of_lt_of_le hm (Nat.le_of_lt_succ h)) hI' hJ' hS' hl')
  intro x1 x2 H locs ls hI hJ hS hl
  exact key (μ x1 x2 + 1) x1 x2 H locs ls (Nat.lt_succ_self _) hI hJ hS hl
theorem z_loop3 (I : Int → Int → Int → Prop) (μ : Int → Int → Int → Nat) (L : Int → Int → Int → List (Nat × Value)) (step : ∀ (x1 x2 x3 : Int) (ls : Array Slot), I x1 x2 x3 → lv_has ls nL (L x1 x2 x3) → (∀ (y1 y2 y3 : Int) (ls' : Array Slot), I y1 y2 y3 → μ y1 y2 y3 < μ x1 x2 x3 → lv_has ls' nL (L y1 y2 y3) → W p l e R s m args below meth c H locs cells slots Q (F0 m pc ls' rest)) → W p l e R s m args below meth c H locs cells slots Q (F0 m pc ls rest)) : ∀ (x1 x2 x3 : Int) (ls : Array Slot), I x1 x2 x3 → lv_has ls nL (L x1 x2 x3) → W p l e R s m args below meth c H locs cells slots Q (F0 m pc ls rest) := by
  have key : ∀ (n : Nat) (x1 x2 x3 : Int) (ls : Array Slot), μ x1 x2 x3 < n → I x1 x2 x3 → lv_has ls nL (L x1 x2 x3) → W p l e R s m args below meth c H locs cells slots Q (F0 m pc ls rest) := by
    intro n
    induction n with
    | zero => intro x1 x2 x3 ls h; exact absurd h (Nat.not_lt_zero _)
    | succ n ih =>
      intro x1 x2 x3 ls h hI hl
      exact step x1 x2 x3 ls hI hl (fun y1 y2 y3 ls' hI' hm hl' => ih y1 y2 y3 ls' (Nat.lt_of_lt_of_le hm (Nat.le_of_lt_succ h)) hI' hl')
  intro x1 x2 x3 ls hI hl
  exact key (μ x1 x2 x3 + 1) x1 x2 x3 ls (Nat.lt_succ_self _) hI hl
theorem z_loopW3 (I : Int → Int → Int → Prop) (μ : Int → Int → Int → Nat) (L : Int → Int → Int → List (Nat × Value)) (J : Int → Int → Int → Heap → Prop) (step : ∀ (x1 x2 x3 : Int) (H : Heap) (locs : List Loc) (ls : Array Slot), I x1 x2 x3 → J x1 x2 x3 H → va_S A H0 H locs → lv_has ls nL (L x1 x2 x3) → (∀ (y1 y2 y3 : Int) (H' : Heap) (locs' : List Loc) (ls' : Array Slot), I y1 y2 y3 → J y1 y2 y3 H' → va_S A H0 H' locs' → μ y1 y2 y3 < μ x1 x2 x3 → lv_has ls' nL (L y1 y2 y3) → W p l e R s m args below meth c H' locs' cells slots Q (F0 m pc ls' rest)) → W p l e R s m args below meth c H locs cells slots Q (F0 m pc ls rest)) : ∀ (x1 x2 x3 : Int) (H : Heap) (locs : List Loc) (ls : Array Slot), I x1 x2 x3 → J x1 x2 x3 H → va_S A H0 H locs → lv_has ls nL (L x1 x2 x3) → W p l e R s m args below meth c H locs cells slots Q (F0 m pc ls rest) := by
  have key : ∀ (n : Nat) (x1 x2 x3 : Int) (H : Heap) (locs : List Loc) (ls : Array Slot), μ x1 x2 x3 < n → I x1 x2 x3 → J x1 x2 x3 H → va_S A H0 H locs → lv_has ls nL (L x1 x2 x3) → W p l e R s m args below meth c H locs cells slots Q (F0 m pc ls rest) := by
    intro n
    induction n with
    | zero => intro x1 x2 x3 H locs ls h; exact absurd h (Nat.not_lt_zero _)
    | succ n ih =>
      intro x1 x2 x3 H locs ls h hI hJ hS hl
      exact step x1 x2 x3 H locs ls hI hJ hS hl (fun y1 y2 y3 H' locs' ls' hI' hJ' hS' hm hl' => ih y1 y2 y3 H' locs' ls' (Nat.lt_of_lt_of_le hm (Nat.le_of_lt_succ h)) hI' hJ' hS' hl')
  intro x1 x2 x3 H locs ls hI hJ hS hl
  exact key (μ x1 x2 x3 + 1) x1 x2 x3 H locs ls (Nat.lt_succ_self _) hI hJ hS hl
theorem z_loop4 (I : Int → Int → Int → Int → Prop) (μ : Int → Int → Int → Int → Nat) (L : Int → Int → Int → Int → List (Nat × Value)) (step : ∀ (x1 x2 x3 x4 : Int) (ls : Array Slot), I x1 x2 x3 x4 → lv_has ls nL (L x1 x2 x3 x4) → (∀ (y1 y2 y3 y4 : Int) (ls' : Array Slot), I y1 y2 y3 y4 → μ y1 y2 y3 y4 < μ x1 x2 x3 x4 → lv_has ls' nL (L y1 y2 y3 y4) → W p l e R s m args below meth c H locs cells slots Q (F0 m pc ls' rest)) → W p l e R s m args below meth c H locs cells slots Q (F0 m pc ls rest)) : ∀ (x1 x2 x3 x4 : Int) (ls : Array Slot), I x1 x2 x3 x4 → lv_has ls nL (L x1 x2 x3 x4) → W p l e R s m args below meth c H locs cells slots Q (F0 m pc ls rest) := by
  have key : ∀ (n : Nat) (x1 x2 x3 x4 : Int) (ls : Array Slot), μ x1 x2 x3 x4 < n → I x1 x2 x3 x4 → lv_has ls nL (L x1 x2 x3 x4) → W p l e R s m args below meth c H locs cells slots Q (F0 m pc ls rest) := by
    intro n
    induction n with
    | zero => intro x1 x2 x3 x4 ls h; exact absurd h (Nat.not_lt_zero _)
    | succ n ih =>
      intro x1 x2 x3 x4 ls h hI hl
      exact step x1 x2 x3 x4 ls hI hl (fun y1 y2 y3 y4 ls' hI' hm hl' => ih y1 y2 y3 y4 ls' (Nat.lt_of_lt_of_le hm (Nat.le_of_lt_succ h)) hI' hl')
  intro x1 x2 x3 x4 ls hI hl
  exact key (μ x1 x2 x3 x4 + 1) x1 x2 x3 x4 ls (Nat.lt_succ_self _) hI hl
theorem z_loopW4 (I : Int → Int → Int → Int → Prop) (μ : Int → Int → Int → Int → Nat) (L : Int → Int → Int → Int → List (Nat × Value)) (J : Int → Int → Int → Int → Heap → Prop) (step : ∀ (x1 x2 x3 x4 : Int) (H : Heap) (locs : List Loc) (ls : Array Slot), I x1 x2 x3 x4 → J x1 x2 x3 x4 H → va_S A H0 H locs → lv_has ls nL (L x1 x2 x3 x4) → (∀ (y1 y2 y3 y4 : Int) (H' : Heap) (locs' : List Loc) (ls' : Array Slot), I y1 y2 y3 y4 → J y1 y2 y3 y4 H' → va_S A H0 H' locs' → μ y1 y2 y3 y4 < μ x1 x2 x3 x4 → lv_has ls' nL (L y1 y2 y3 y4) → W p l e R s m args below meth c H' locs' cells slots Q (F0 m pc ls' rest)) → W p l e R s m args below meth c H locs cells slots Q (F0 m pc ls rest)) : ∀ (x1 x2 x3 x4 : Int) (H : Heap) (locs : List Loc) (ls : Array Slot), I x1 x2 x3 x4 → J x1 x2 x3 x4 H → va_S A H0 H locs → lv_has ls nL (L x1 x2 x3 x4) → W p l e R s m args below meth c H locs cells slots Q (F0 m pc ls rest) := by
  have key : ∀ (n : Nat) (x1 x2 x3 x4 : Int) (H : Heap) (locs : List Loc) (ls : Array Slot), μ x1 x2 x3 x4 < n → I x1 x2 x3 x4 → J x1 x2 x3 x4 H → va_S A H0 H locs → lv_has ls nL (L x1 x2 x3 x4) → W p l e R s m args below meth c H locs cells slots Q (F0 m pc ls rest) := by
    intro n
    induction n with
    | zero => intro x1 x2 x3 x4 H locs ls h; exact absurd h (Nat.not_lt_zero _)
    | succ n ih =>
      intro x1 x2 x3 x4 H locs ls h hI hJ hS hl
      exact step x1 x2 x3 x4 H locs ls hI hJ hS hl (fun y1 y2 y3 y4 H' locs' ls' hI' hJ' hS' hm hl' => ih y1 y2 y3 y4 H' locs' ls' (Nat.lt_of_lt_of_le hm (Nat.le_of_lt_succ h)) hI' hJ' hS' hl')
  intro x1 x2 x3 x4 H locs ls hI hJ hS hl
  exact key (μ x1 x2 x3 x4 + 1) x1 x2 x3 x4 H locs ls (Nat.lt_succ_self _) hI hJ hS hl
theorem z_loop5 (I : Int → Int → Int → Int → Int → Prop) (μ : Int → Int → Int → Int → Int → Nat) (L : Int → Int → Int → Int → Int → List (Nat × Value)) (step : ∀ (x1 x2 x3 x4 x5 : Int) (ls : Array Slot), I x1 x2 x3 x4 x5 → lv_has ls nL (L x1 x2 x3 x4 x5) → (∀ (y1 y2 y3 y4 y5 : Int) (ls' : Array Slot), I y1 y2 y3 y4 y5 → μ y1 y2 y3 y4 y5 < μ x1 x2 x3 x4 x5 → lv_has ls' nL (L y1 y2 y3 y4 y5) → W p l e R s m args below meth c H locs cells slots Q (F0 m pc ls' rest)) → W p l e R s m args below meth c H locs cells slots Q (F0 m pc ls rest)) : ∀ (x1 x2 x3 x4 x5 : Int) (ls : Array Slot), I x1 x2 x3 x4 x5 → lv_has ls nL (L x1 x2 x3 x4 x5) → W p l e R s m args below meth c H locs cells slots Q (F0 m pc ls rest) := by
  have key : ∀ (n : Nat) (x1 x2 x3 x4 x5 : Int) (ls : Array Slot), μ x1 x2 x3 x4 x5 < n → I x1 x2 x3 x4 x5 → lv_has ls nL (L x1 x2 x3 x4 x5) → W p l e R s m args below meth c H locs cells slots Q (F0 m pc ls rest) := by
    intro n
    induction n with
    | zero => intro x1 x2 x3 x4 x5 ls h; exact absurd h (Nat.not_lt_zero _)
    | succ n ih =>
      intro x1 x2 x3 x4 x5 ls h hI hl
      exact step x1 x2 x3 x4 x5 ls hI hl (fun y1 y2 y3 y4 y5 ls' hI' hm hl' => ih y1 y2 y3 y4 y5 ls' (Nat.lt_of_lt_of_le hm (Nat.le_of_lt_succ h)) hI' hl')
  intro x1 x2 x3 x4 x5 ls hI hl
  exact key (μ x1 x2 x3 x4 x5 + 1) x1 x2 x3 x4 x5 ls (Nat.lt_succ_self _) hI hl
theorem z_loop6 (I : Int → Int → Int → Int → Int → Int → Prop) (μ : Int → Int → Int → Int → Int → Int → Nat) (L : Int → Int → Int → Int → Int → Int → List (Nat × Value)) (step : ∀ (x1 x2 x3 x4 x5 x6 : Int) (ls : Array Slot), I x1 x2 x3 x4 x5 x6 → lv_has ls nL (L x1 x2 x3 x4 x5 x6) → (∀ (y1 y2 y3 y4 y5 y6 : Int) (ls' : Array Slot), I y1 y2 y3 y4 y5 y6 → μ y1 y2 y3 y4 y5 y6 < μ x1 x2 x3 x4 x5 x6 → lv_has ls' nL (L y1 y2 y3 y4 y5 y6) → W p l e R s m args below meth c H locs cells slots Q (F0 m pc ls' rest)) → W p l e R s m args below meth c H locs cells slots Q (F0 m pc ls rest)) : ∀ (x1 x2 x3 x4 x5 x6 : Int) (ls : Array Slot), I x1 x2 x3 x4 x5 x6 → lv_has ls nL (L x1 x2 x3 x4 x5 x6) → W p l e R s m args below meth c H locs cells slots Q (F0 m pc ls rest) := by
  have key : ∀ (n : Nat) (x1 x2 x3 x4 x5 x6 : Int) (ls : Array Slot), μ x1 x2 x3 x4 x5 x6 < n → I x1 x2 x3 x4 x5 x6 → lv_has ls nL (L x1 x2 x3 x4 x5 x6) → W p l e R s m args below meth c H locs cells slots Q (F0 m pc ls rest) := by
    intro n
    induction n with
    | zero => intro x1 x2 x3 x4 x5 x6 ls h; exact absurd h (Nat.not_lt_zero _)
    | succ n ih =>
      intro x1 x2 x3 x4 x5 x6 ls h hI hl
      exact step x1 x2 x3 x4 x5 x6 ls hI hl (fun y1 y2 y3 y4 y5 y6 ls' hI' hm hl' => ih y1 y2 y3 y4 y5 y6 ls' (Nat.lt_of_lt_of_le hm (Nat.le_of_lt_succ h)) hI' hl')
  intro x1 x2 x3 x4 x5 x6 ls hI hl
  exact key (μ x1 x2 x3 x4 x5 x6 + 1) x1 x2 x3 x4 x5 x6 ls (Nat.lt_succ_self _) hI hl
end ZF
end
section
/-! ===== WHAT EVERY CALL ANSWERS, in whole numbers: one value for the class and for the reference ===== -/
/-- the sum over [a, b) -/
def szn (f : Int → Int) (a : Int) : Nat → Int
  | 0 => 0
  | n + 1 => szn f a n + f (a + n)
def sz (f : Int → Int) (a b : Int) : Int := szn f a (b - a).toNat
theorem sz_0 {f : Int → Int} {a b : Int} (h : b ≤ a) : sz f a b = 0 := by
  unfold sz; rw [show (b - a).toNat = 0 by omega]; rfl
theorem sz_s {f : Int → Int} {a b : Int} (h : a ≤ b) : sz f a (b + 1) = sz f a b + f b := by
  unfold sz
  rw [show (b + 1 - a).toNat = (b - a).toNat + 1 by omega, szn, show a + ((b - a).toNat : Int) = b by omega]
theorem sz_ind {P : Int → Prop} {a : Int} (h0 : P a) (hs : ∀ b, a ≤ b → P b → P (b + 1)) {b : Int} (h : a ≤ b) : P b := by
  obtain ⟨n, hn⟩ := Int.eq_ofNat_of_zero_le (show 0 ≤ b - a by omega)
  have key : ∀ n : Nat, P (a + n) := by
    intro n
    induction n with
    | zero => simpa using h0
    | succ n ih => have := hs (a + n) (by omega) ih; rw [show a + ((n + 1 : Nat) : Int) = a + n + 1 by omega]; exact this
  rw [show b = a + n by omega]
  exact key n
theorem sz_rng {f : Int → Int} {a b lo hi : Int} (h : a ≤ b) (hf : ∀ k, lo ≤ f k ∧ f k ≤ hi) : (b - a) * lo ≤ sz f a b ∧ sz f a b ≤ (b - a) * hi := by
  refine sz_ind (P := fun b => (b - a) * lo ≤ sz f a b ∧ sz f a b ≤ (b - a) * hi) ?_ ?_ h
  · rw [sz_0 (Int.le_refl a), Int.sub_self, Int.zero_mul, Int.zero_mul]; exact ⟨Int.le_refl 0, Int.le_refl 0⟩
  · intro b hb ih
    rw [sz_s hb, show b + 1 - a = (b - a) + 1 by omega, Int.add_mul, Int.add_mul, Int.one_mul, Int.one_mul]
    have := hf b
    omega
theorem sz_add_c {f : Int → Int} {a b c : Int} (h : a ≤ b) : sz (fun k => f k + c) a b = sz f a b + (b - a) * c := by
  refine sz_ind (P := fun b => sz (fun k => f k + c) a b = sz f a b + (b - a) * c) ?_ ?_ h
  · rw [sz_0 (Int.le_refl a), sz_0 (Int.le_refl a), Int.sub_self, Int.zero_mul]; rfl
  · intro b hb ih
    rw [sz_s hb, sz_s hb, ih, show b + 1 - a = (b - a) + 1 by omega, Int.add_mul, Int.one_mul]
    omega
/-- the first place of [a, b) where f isn't 0; -1: none -/
def ffn (f : Int → Int) : Nat → Int → Int
  | 0, _ => -1
  | n + 1, a => if f a = 0 then ffn f n (a + 1) else a
def ff (f : Int → Int) (a b : Int) : Int := ffn f (b - a).toNat a
theorem ff_0 {f : Int → Int} {a b : Int} (h : b ≤ a) : ff f a b = -1 := by
  unfold ff; rw [show (b - a).toNat = 0 by omega]; rfl
theorem ff_stop {f : Int → Int} {a b : Int} (h : a < b) (hf : ¬ f a = 0) : ff f a b = a := by
  unfold ff; rw [show (b - a).toNat = (b - (a + 1)).toNat + 1 by omega, ffn, if_neg hf]
theorem ff_go {f : Int → Int} {a b : Int} (h : a < b) (hf : f a = 0) : ff f a b = ff f (a + 1) b := by
  unfold ff; rw [show (b - a).toNat = (b - (a + 1)).toNat + 1 by omega, ffn, if_pos hf]
theorem ff_rng {f : Int → Int} {a b : Int} : ff f a b = -1 ∨ (a ≤ ff f a b ∧ ff f a b < b ∧ ¬ f (ff f a b) = 0) := by
  have key : ∀ (n : Nat) (a : Int), (b - a).toNat ≤ n → ff f a b = -1 ∨ (a ≤ ff f a b ∧ ff f a b < b ∧ ¬ f (ff f a b) = 0) := by
    intro n
    induction n with
    | zero => intro a h; exact Or.inl (ff_0 (by omega))
    | succ n ih =>
      intro a h
      by_cases hb : b ≤ a
      · exact Or.inl (ff_0 hb)
      · by_cases hf : f a = 0
        · rw [ff_go (by omega) hf]
          rcases ih (a + 1) (by omega) with q | ⟨q1, q2, q3⟩
          · exact Or.inl q
          · exact Or.inr ⟨by omega, q2, q3⟩
        · rw [ff_stop (by omega) hf]
          exact Or.inr ⟨Int.le_refl a, by omega, hf⟩
  exact key _ a (Nat.le_refl _)
theorem ff_snoc {f : Int → Int} {a b : Int} (h : a ≤ b) (h0 : 0 ≤ a) : ff f a (b + 1) = if ff f a b < 0 then (if f b = 0 then -1 else b) else ff f a b := by
  have key : ∀ (n : Nat) (a : Int), 0 ≤ a → a ≤ b → (b - a).toNat ≤ n → ff f a (b + 1) = if ff f a b < 0 then (if f b = 0 then -1 else b) else ff f a b := by
    intro n
    induction n with
    | zero =>
      intro a h0 h hn
      have e : a = b := by omega
      subst e
      rw [ff_0 (Int.le_refl a), if_pos (by decide)]
      by_cases hf : f a = 0
      · rw [ff_go (by omega) hf, if_pos hf, ff_0 (Int.le_refl _)]
      · rw [ff_stop (by omega) hf, if_neg hf]
    | succ n ih =>
      intro a h0 h hn
      by_cases e : a = b
      · subst e
        rw [ff_0 (Int.le_refl a), if_pos (by decide)]
        by_cases hf : f a = 0
        · rw [ff_go (by omega) hf, if_pos hf, ff_0 (Int.le_refl _)]
        · rw [ff_stop (by omega) hf, if_neg hf]
      · by_cases hf : f a = 0
        · rw [ff_go (by omega) hf, ff_go (by omega) hf]
          exact ih (a + 1) (by omega) (by omega) (by omega)
        · rw [ff_stop (by omega) hf, ff_stop (by omega) hf, if_neg (by omega)]
  exact key _ a h0 h (Nat.le_refl _)
/-- the last place of [0, m] where f isn't 0, or 0 -/
def lfn (f : Int → Int) : Nat → Int
  | 0 => 0
  | n + 1 => if f ((n : Int) + 1) = 0 then lfn f n else (n : Int) + 1
def lf (f : Int → Int) (m : Int) : Int := lfn f m.toNat
theorem lf_0 {f : Int → Int} {m : Int} (h : m ≤ 0) : lf f m = 0 := by
  unfold lf; rw [show m.toNat = 0 by omega]; rfl
theorem lf_stop {f : Int → Int} {m : Int} (h : 0 ≤ m) (hf : ¬ f m = 0) : lf f m = m := by
  by_cases h0 : m = 0
  · rw [lf_0 (by omega), h0]
  · unfold lf
    rw [show m.toNat = (m - 1).toNat + 1 by omega, lfn, show ((m - 1).toNat : Int) + 1 = m by omega, if_neg hf]
theorem lf_go {f : Int → Int} {m : Int} (h : 0 < m) (hf : f m = 0) : lf f m = lf f (m - 1) := by
  unfold lf
  rw [show m.toNat = (m - 1).toNat + 1 by omega, lfn, show ((m - 1).toNat : Int) + 1 = m by omega, if_pos hf]
theorem lf_rng {f : Int → Int} {m : Int} (h : 0 ≤ m) : 0 ≤ lf f m ∧ lf f m ≤ m := by
  have key : ∀ n : Nat, 0 ≤ lfn f n ∧ lfn f n ≤ n := by
    intro n
    induction n with
    | zero => exact ⟨Int.le_refl 0, Int.le_refl 0⟩
    | succ n ih =>
      unfold lfn
      by_cases hf : f ((n : Int) + 1) = 0
      · rw [if_pos hf]; omega
      · rw [if_neg hf]; omega
  have := key m.toNat
  unfold lf
  omega
/-- fixes, movements, legs, errors, positions; an axis is 8 (north) or 0 (east) -/
def fxc (u : ST) (ax m : Int) : Int := if ax = 8 then zfn u m else zfe u m
def mv (ax p units : Int) : Int := units * sn ((p + ax) % 32)
def legc (u : ST) (ax k : Int) : Int := if zlo u k = 0 then mv ax (zpo u k + zle u k) (zsp u k) else 0
def lg (u : ST) (ax a b : Int) : Int := (b - a) * mv ax (zse u) (zdr u) + sz (legc u ax) a b
def er (u : ST) (ax a b : Int) : Int := fxc u ax b - fxc u ax a - lg u ax a b
def la (u : ST) (m : Int) : Int := lf (zfx u) m
def nf (u : ST) (m : Int) : Int := ff (zfx u) (m + 1) (zpg u + 1)
def rk (u : ST) (ax m : Int) : Int := fxc u ax (la u m) + lg u ax (la u m) m
def co (u : ST) (ax m : Int) : Int := if la u m = m ∨ nf u m ≤ la u m then rk u ax m else rk u ax m + (er u ax (la u m) (nf u m) * (m - la u m)) / (nf u m - la u m)
def df (u : ST) (ax a b : Int) : Int := co u ax b - co u ax a
/-- the root, bit by bit -/
def isn (s : Int) : Nat → Int
  | 0 => 0
  | n + 1 => if (isn s n + 2 ^ (30 - n)) * (isn s n + 2 ^ (30 - n)) ≤ s then isn s n + 2 ^ (30 - n) else isn s n
def isq (s : Int) : Int := isn s 31
def dist (u : ST) (a b : Int) : Int := isq (df u 8 a b * df u 8 a b + df u 0 a b * df u 0 a b)
/-- the nearest point -/
def adv (n e p : Int) : Int := n * mv 8 p 1 + e * mv 0 p 1
def npn (n e : Int) : Nat → Int
  | 0 => 0
  | k + 1 => if adv n e (npn n e k) < adv n e ((k : Int) + 1) then (k : Int) + 1 else npn n e k
def np (n e : Int) : Int := npn n e 31
def eOR : Int := -9000000000000000001
def eNP : Int := -9000000000000000002
def eNM : Int := -9000000000000000003
def eFU : Int := -9000000000000000004
def eIP : Int := -9000000000000000005
def eWS : Int := -9000000000000000006
def eNO : Int := -9000000000000000007
def br (u : ST) (a b : Int) : Int := if df u 8 a b = 0 ∧ df u 0 a b = 0 then eNO else np (df u 8 a b) (df u 0 a b)
/-- the likeliest peg -/
def ms (n e p v : Int) : Int := (n - mv 8 p v) * (n - mv 8 p v) + (e - mv 0 p v) * (e - mv 0 p v)
def lkp (n e le v : Int) : Nat → Int × Int → Int × Int
  | 0, s => s
  | p + 1, s => if ms n e ((p : Int) + le) v < (lkp n e le v p s).1 then (ms n e ((p : Int) + le) v, 1000 * (p : Int) + v) else lkp n e le v p s
def lkv (n e le : Int) : Nat → Int × Int
  | 0 => (n * n + e * e, 0)
  | v + 1 => lkp n e le ((v : Int) + 1) 32 (lkv n e le v)
def lk (n e le : Int) : Int := (lkv n e le 200).2
def fdl (u : ST) (k : Int) : Int := if zlo u k = 0 then eWS else if nf u k = -1 then eNO else if 1 < sz (zlo u) (la u k) (nf u k) then eWS else lk (er u 8 (la u k) (nf u k)) (er u 0 (la u k) (nf u k)) (zle u k)
/-- the digest -/
def mx (h x : Int) : Int := 31 * h + x
def ptc (u : ST) (k : Int) : Int := if zlo u k = 0 then zpo u k else eWS
def spc (u : ST) (k : Int) : Int := if zlo u k = 0 then zsp u k else eWS
def dgpn (u : ST) (h : Int) : Nat → Int
  | 0 => h
  | k + 1 => mx (mx (mx (dgpn u h k) (ptc u k)) (spc u k)) (zle u k)
def dgp (u : ST) (h k : Int) : Int := dgpn u h k.toNat
def dgmn (u : ST) (h : Int) : Nat → Int
  | 0 => h
  | k + 1 => mx (mx (mx (mx (mx (dgmn u h k) (zfx u k)) (rk u 8 k)) (rk u 0 k)) (co u 8 k)) (co u 0 k)
def dgm (u : ST) (h k : Int) : Int := dgmn u h k.toNat
def dgbn (u : ST) (h : Int) : Nat → Int
  | 0 => h
  | k + 1 => mx (dgbn u h k) (zbu u k)
def dgb (u : ST) (h k : Int) : Int := dgbn u h k.toNat
theorem dgp_0 {u : ST} {h k : Int} (hk : k ≤ 0) : dgp u h k = h := by unfold dgp; rw [show k.toNat = 0 by omega]; rfl
theorem dgm_0 {u : ST} {h k : Int} (hk : k ≤ 0) : dgm u h k = h := by unfold dgm; rw [show k.toNat = 0 by omega]; rfl
theorem dgb_0 {u : ST} {h k : Int} (hk : k ≤ 0) : dgb u h k = h := by unfold dgb; rw [show k.toNat = 0 by omega]; rfl
theorem dgp_s {u : ST} {h k : Int} (hk : 0 ≤ k) : dgp u h (k + 1) = mx (mx (mx (dgp u h k) (ptc u k)) (spc u k)) (zle u k) := by
  unfold dgp; rw [show (k + 1).toNat = k.toNat + 1 by omega, dgpn, Int.toNat_of_nonneg hk]
theorem dgm_s {u : ST} {h k : Int} (hk : 0 ≤ k) : dgm u h (k + 1) = mx (mx (mx (mx (mx (dgm u h k) (zfx u k)) (rk u 8 k)) (rk u 0 k)) (co u 8 k)) (co u 0 k) := by
  unfold dgm; rw [show (k + 1).toNat = k.toNat + 1 by omega, dgmn, Int.toNat_of_nonneg hk]
theorem dgb_s {u : ST} {h k : Int} (hk : 0 ≤ k) : dgb u h (k + 1) = mx (dgb u h k) (zbu u k) := by
  unfold dgb; rw [show (k + 1).toNat = k.toNat + 1 by omega, dgbn, Int.toNat_of_nonneg hk]
def fl (u : ST) : Int := ff (zlo u) 0 (zpg u)
def dig4 (u : ST) : Int := mx (mx (dgm u (mx (mx (dgp u (mx 1811 (zpg u)) (zpg u)) (zse u)) (zdr u)) (zpg u + 1)) (dist u 0 (zpg u))) (br u 0 (zpg u))
def dig5 (u : ST) : Int := if fl u = -1 then dig4 u else mx (dig4 u) (fdl u (fl u))
def dig (u : ST) : Int := dgb u (mx (dig5 u) (zbl u)) (zbl u)
/-- the peg that is written in the buffer -/
def agn (u : ST) (p : Int) : Nat → Int → Int
  | 0, j => j
  | n + 1, j => if j < zbl u ∧ j < 5 ∧ ¬ (0 < j ∧ zbu u (j - 1) = 32) ∧ zbu u j = nm (5 * p + j) then agn u p n (j + 1) else j
def ag (u : ST) (p : Int) : Int := agn u p 5 0
def pbn (u : ST) : Nat → Int
  | 0 => 0
  | k + 1 => if ag u (pbn u k) < ag u ((k : Int) + 1) then (k : Int) + 1 else pbn u k
def pb (u : ST) : Int := pbn u 31
def numn (f : Int → Int) (a : Int) : Nat → Int
  | 0 => 0
  | n + 1 => 10 * numn f a n + f (a + n) - 48
def num (f : Int → Int) (a b : Int) : Int := numn f a (b - a).toNat
theorem num_0 {f : Int → Int} {a b : Int} (h : b ≤ a) : num f a b = 0 := by unfold num; rw [show (b - a).toNat = 0 by omega]; rfl
theorem num_s {f : Int → Int} {a b : Int} (h : a ≤ b) : num f a (b + 1) = 10 * num f a b + f b - 48 := by
  unfold num
  rw [show (b + 1 - a).toNat = (b - a).toNat + 1 by omega, numn, show a + ((b - a).toNat : Int) = b by omega]
/-- a digit may stand at t, behind the blank at a - 1, where the digits so far make x -/
abbrev dok (u : ST) (a t x : Int) : Prop := (48 ≤ zbu u t ∧ zbu u t ≤ 57) ∧ (t = a ∨ (¬ x = 0 ∧ 10 * x + zbu u t - 48 ≤ 200))
def dsn (u : ST) (a : Int) : Nat → Int → Int
  | 0, t => t
  | n + 1, t => if t < zbl u ∧ dok u a t (num (zbu u) a t) then dsn u a n (t + 1) else t
def ds (u : ST) (a : Int) : Int := dsn u a 12 a
abbrev bk (u : ST) (n : Int) : Prop := 0 < n ∧ zbu u (n - 1) = 32
abbrev dg (u : ST) (n : Int) : Prop := 0 < n ∧ 48 ≤ zbu u (n - 1) ∧ zbu u (n - 1) ≤ 57
def ep (u : ST) : Int := if bk u (ag u (pb u)) then ds u (ag u (pb u)) else ag u (pb u)
/-- the calls: what they answer (..R), what the board is behind them (..U) -/
def apR (u : ST) (c : Int) : Int := if 32 ≤ c ∧ c ≤ 126 then (if zbl u < 12 then zbl u + 1 else eFU) else eOR
def apU (u : ST) (c : Int) : ST := if (32 ≤ c ∧ c ≤ 126) ∧ zbl u < 12 then ubl (ubu u (zup (zbu u) (zbl u) c)) (zbl u + 1) else u
def pgU (u : ST) (p v : Int) : ST := ule (ulo (usp (upo (upg u (zpg u + 1)) (zup (zpo u) (zpg u) p)) (zup (zsp u) (zpg u) v)) (zup (zlo u) (zpg u) 0)) (zup (zle u) (zpg u) 0)
def afR (u : ST) : Int := if ep u = zbl u ∧ dg u (zbl u) then (if zpg u < 48 then zpg u else eFU) else eIP
def afU (u : ST) : ST := if (ep u = zbl u ∧ dg u (zbl u)) ∧ zpg u < 48 then pgU (ubl u 0) (pb u) (num (zbu u) (ag u (pb u)) (zbl u)) else u
abbrev okP (p v : Int) : Prop := (0 ≤ p ∧ p ≤ 31) ∧ 0 ≤ v ∧ v ≤ 200
def adR (u : ST) (p v : Int) : Int := if okP p v then (if zpg u < 48 then zpg u else eFU) else eOR
def adU (u : ST) (p v : Int) : ST := if okP p v ∧ zpg u < 48 then pgU u p v else u
abbrev isP (u : ST) (k : Int) : Prop := 0 ≤ k ∧ k ≤ zpg u - 1
def reR (u : ST) (k p v : Int) : Int := if isP u k then (if okP p v then zlo u k else eOR) else eNP
def reU (u : ST) (k p v : Int) : ST := if isP u k ∧ okP p v then ulo (usp (upo u (zup (zpo u) k p)) (zup (zsp u) k v)) (zup (zlo u) k 0) else u
def rlR (u : ST) : Int := if zpg u ≤ 0 then eNO else zpg u - 1
def rlU (u : ST) : ST := if zpg u ≤ 0 then u else upg (ufx u (zup (zfx u) (zpg u) 0)) (zpg u - 1)
def loR (u : ST) (k : Int) : Int := if isP u k then (if zlo u k = 0 then sz (zup (zlo u) k 1) 0 (zpg u) else eWS) else eNP
def loU (u : ST) (k : Int) : ST := if isP u k ∧ zlo u k = 0 then ulo u (zup (zlo u) k 1) else u
def slR (u : ST) (k w : Int) : Int := if isP u k then (if -2 ≤ w ∧ w ≤ 2 then zle u k else eOR) else eNP
def slU (u : ST) (k w : Int) : ST := if isP u k ∧ -2 ≤ w ∧ w ≤ 2 then ule u (zup (zle u) k w) else u
abbrev okC (a b : Int) : Prop := (0 ≤ a ∧ a ≤ 31) ∧ 0 ≤ b ∧ b ≤ 50
def scR (u : ST) (a b : Int) : Int := if okC a b then zdr u else eOR
def scU (u : ST) (a b : Int) : ST := if okC a b then udr (use u a) b else u
def poR (u : ST) (k : Int) : Int := if isP u k then ptc u k else eNP
def spR (u : ST) (k : Int) : Int := if isP u k then spc u k else eNP
def stR (u : ST) (p : Int) : Int := if 0 ≤ p ∧ p ≤ 31 then sz (fun k => if zlo u k = 0 ∧ zpo u k = p then zsp u k else 0) 0 (zpg u) else eOR
abbrev okF (n e : Int) : Prop := (-200000000 ≤ n ∧ n ≤ 200000000) ∧ -200000000 ≤ e ∧ e ≤ 200000000
abbrev isF (u : ST) (m : Int) : Prop := 1 ≤ m ∧ m ≤ zpg u
abbrev isM (u : ST) (m : Int) : Prop := 0 ≤ m ∧ m ≤ zpg u
def sfR (u : ST) (m n e : Int) : Int := if isF u m then (if okF n e then sz (zup (zfx u) m 1) 0 (zpg u + 1) else eOR) else eNM
def sfU (u : ST) (m n e : Int) : ST := if isF u m ∧ okF n e then ufe (ufn (ufx u (zup (zfx u) m 1)) (zup (zfn u) m n)) (zup (zfe u) m e) else u
def rfR (u : ST) (m : Int) : Int := if isF u m then (if zfx u m = 0 then eNO else sz (zup (zfx u) m 0) 0 (zpg u + 1)) else eNM
def rfU (u : ST) (m : Int) : ST := if isF u m ∧ ¬ zfx u m = 0 then ufx u (zup (zfx u) m 0) else u
def rkR (u : ST) (ax m : Int) : Int := if isM u m then rk u ax m else eNM
def coR (u : ST) (ax m : Int) : Int := if isM u m then co u ax m else eNM
def diR (u : ST) (a b : Int) : Int := if isM u a ∧ isM u b then dist u a b else eNM
def brR (u : ST) (a b : Int) : Int := if isM u a ∧ isM u b then br u a b else eNM
def fdR (u : ST) (k : Int) : Int := if isP u k then fdl u k else eNP
end
section
/-! ===== PURE ROWS: bounds, the root, the folds ===== -/
theorem mul_rng {a b A B : Int} (ha : 0 ≤ a ∧ a ≤ A) (hb : -B ≤ b ∧ b ≤ B) : -(A * B) ≤ a * b ∧ a * b ≤ A * B := by
  have hB : 0 ≤ B := by omega
  have h1 : a * b ≤ a * B := Int.mul_le_mul_of_nonneg_left hb.2 ha.1
  have h2 : a * (-B) ≤ a * b := Int.mul_le_mul_of_nonneg_left hb.1 ha.1
  have h3 : a * B ≤ A * B := Int.mul_le_mul_of_nonneg_right ha.2 hB
  rw [Int.mul_neg] at h2
  omega
theorem sq_rng {a A : Int} (ha : -A ≤ a ∧ a ≤ A) : 0 ≤ a * a ∧ a * a ≤ A * A := by
  rcases Int.le_total 0 a with h | h
  · have := mul_rng (a := a) (b := a) (A := A) (B := A) ⟨h, ha.2⟩ ha
    exact ⟨Int.mul_nonneg h h, this.2⟩
  · have := mul_rng (a := -a) (b := -a) (A := A) (B := A) ⟨by omega, by omega⟩ ⟨by omega, by omega⟩
    rw [Int.neg_mul_neg] at this
    exact ⟨Int.mul_nonneg_of_nonpos_of_nonpos h h, this.2⟩
theorem mv_rng {ax p v V : Int} (hv : 0 ≤ v ∧ v ≤ V) : -(V * 10000) ≤ mv ax p v ∧ mv ax p v ≤ V * 10000 := mul_rng hv (sn_rng _)
theorem legc_rng {u : ST} (hI : Inv u) (ax k : Int) : -2000000 ≤ legc u ax k ∧ legc u ax k ≤ 2000000 := by
  unfold legc
  have h := mv_rng (ax := ax) (p := zpo u k + zle u k) (iv_sp hI k)
  split <;> omega
theorem cur_rng {u : ST} (hI : Inv u) (ax : Int) : -500000 ≤ mv ax (zse u) (zdr u) ∧ mv ax (zse u) (zdr u) ≤ 500000 := by
  have h := mv_rng (ax := ax) (p := zse u) (iv_dr hI)
  omega
theorem lg_rng {u : ST} (hI : Inv u) (ax : Int) {a b : Int} (h : a ≤ b) : -((b - a) * 2500000) ≤ lg u ax a b ∧ lg u ax a b ≤ (b - a) * 2500000 := by
  have h1 := sz_rng (f := legc u ax) h (legc_rng hI ax)
  have h2 := mul_rng (a := b - a) (A := b - a) ⟨by omega, Int.le_refl _⟩ (cur_rng hI ax)
  unfold lg
  omega
theorem fxc_rng {u : ST} (hI : Inv u) (ax m : Int) : -200000000 ≤ fxc u ax m ∧ fxc u ax m ≤ 200000000 := by
  unfold fxc
  have h1 := iv_fn hI m
  have h2 := iv_fe hI m
  split <;> omega
theorem er_rng {u : ST} (hI : Inv u) (ax : Int) {a b : Int} (h : 0 ≤ a ∧ a ≤ b ∧ b ≤ 48) : -520000000 ≤ er u ax a b ∧ er u ax a b ≤ 520000000 := by
  have h1 := lg_rng hI ax h.2.1
  have h2 := fxc_rng hI ax a
  have h3 := fxc_rng hI ax b
  unfold er
  omega
theorem la_rng (u : ST) {m : Int} (h : 0 ≤ m) : 0 ≤ la u m ∧ la u m ≤ m := lf_rng h
theorem nf_rng (u : ST) (m : Int) : nf u m = -1 ∨ (m < nf u m ∧ nf u m ≤ zpg u) := by
  rcases ff_rng (f := zfx u) (a := m + 1) (b := zpg u + 1) with h | ⟨h1, h2, -⟩
  · exact Or.inl h
  · exact Or.inr ⟨by unfold nf; omega, by unfold nf; omega⟩
theorem rk_rng {u : ST} (hI : Inv u) (ax : Int) {m : Int} (h : 0 ≤ m ∧ m ≤ 48) : -320000000 ≤ rk u ax m ∧ rk u ax m ≤ 320000000 := by
  have h0 := la_rng u h.1
  have h1 := lg_rng hI ax h0.2
  have h2 := fxc_rng hI ax (la u m)
  unfold rk
  omega
/-- the correction lies between what the fixes ask and what the legs do -/
theorem co_rng {u : ST} (hI : Inv u) (ax : Int) {m : Int} (h : 0 ≤ m ∧ m ≤ zpg u) : -440000000 ≤ co u ax m ∧ co u ax m ≤ 440000000 := by
  have hpg := iv_pg hI
  have h0 := la_rng u h.1
  have hr := rk_rng hI ax (m := m) ⟨h.1, by omega⟩
  unfold co
  split
  · omega
  · rename_i hc
    have hn := nf_rng u m
    have hn2 : m < nf u m ∧ nf u m ≤ zpg u := by omega
    generalize hA : la u m = a at *
    generalize hB : nf u m = b at *
    have hla := lg_rng hI ax (a := a) (b := m) h0.2
    have hlb := lg_rng hI ax (a := a) (b := b) (by omega)
    have hfa := fxc_rng hI ax a
    have hfb := fxc_rng hI ax b
    have hrk : rk u ax m = fxc u ax a + lg u ax a m := by unfold rk; rw [hA]
    have her : er u ax a b = fxc u ax b - fxc u ax a - lg u ax a b := rfl
    rw [hrk]
    generalize fxc u ax a = fa at *
    generalize fxc u ax b = fb at *
    generalize lg u ax a m = l1 at *
    generalize lg u ax a b = l2 at *
    generalize er u ax a b = ee at *
    have hd : 0 < b - a := by omega
    have hk : 0 ≤ m - a := by omega
    have hk2 : m - a ≤ b - a := by omega
    -- ee * (m - a) between bounds that are whole multiples of (b - a)
    have hle : ee * (m - a) ≤ (b - a) * (200000000 - fa + (m - a) * 2500000) := by
      have e1 : (fb - fa) * (m - a) ≤ (200000000 - fa) * (b - a) := by
        have q1 : (fb - fa) * (m - a) ≤ (200000000 - fa) * (m - a) := Int.mul_le_mul_of_nonneg_right (by omega) hk
        have q2 : (200000000 - fa) * (m - a) ≤ (200000000 - fa) * (b - a) := Int.mul_le_mul_of_nonneg_left hk2 (by omega)
        omega
      have e2 : -l2 * (m - a) ≤ ((b - a) * 2500000) * (m - a) := Int.mul_le_mul_of_nonneg_right (by omega) hk
      have e3 : ee * (m - a) = (fb - fa) * (m - a) + -l2 * (m - a) := by rw [her, ← Int.add_mul]; congr 1
      have e4 : (b - a) * (200000000 - fa + (m - a) * 2500000) = (200000000 - fa) * (b - a) + ((b - a) * 2500000) * (m - a) := by
        rw [Int.mul_add, Int.mul_comm (b - a) (200000000 - fa), Int.mul_assoc, Int.mul_comm 2500000 (m - a)]
      omega
    have hge : (b - a) * (-200000000 - fa - (m - a) * 2500000) ≤ ee * (m - a) := by
      have e1 : (-200000000 - fa) * (b - a) ≤ (fb - fa) * (m - a) := by
        have q1 : (-200000000 - fa) * (m - a) ≤ (fb - fa) * (m - a) := Int.mul_le_mul_of_nonneg_right (by omega) hk
        have q2 : (200000000 + fa) * (m - a) ≤ (200000000 + fa) * (b - a) := Int.mul_le_mul_of_nonneg_left hk2 (by omega)
        have q3 : (-200000000 - fa) = -(200000000 + fa) := by omega
        rw [q3, Int.neg_mul] at q1 ⊢
        omega
      have e2 : -((b - a) * 2500000) * (m - a) ≤ -l2 * (m - a) := Int.mul_le_mul_of_nonneg_right (by omega) hk
      have e3 : ee * (m - a) = (fb - fa) * (m - a) + -l2 * (m - a) := by rw [her, ← Int.add_mul]; congr 1
      have e4 : (b - a) * (-200000000 - fa - (m - a) * 2500000) = (-200000000 - fa) * (b - a) + -((b - a) * 2500000) * (m - a) := by
        rw [Int.mul_sub, Int.mul_comm (b - a) (-200000000 - fa), Int.neg_mul, Int.mul_assoc (b - a) 2500000 (m - a), Int.mul_comm 2500000 (m - a)]
        omega
      omega
    have d1 : ee * (m - a) / (b - a) ≤ 200000000 - fa + (m - a) * 2500000 := Int.le_trans (Int.ediv_le_ediv hd hle) (by rw [Int.mul_ediv_cancel_left _ (by omega)]; exact Int.le_refl _)
    have d2 : -200000000 - fa - (m - a) * 2500000 ≤ ee * (m - a) / (b - a) := Int.le_trans (by rw [Int.mul_ediv_cancel_left _ (by omega)]; exact Int.le_refl _) (Int.ediv_le_ediv hd hge)
    omega
theorem df_rng {u : ST} (hI : Inv u) (ax : Int) {a b : Int} (h : 0 ≤ a ∧ a ≤ zpg u) (h2 : 0 ≤ b ∧ b ≤ zpg u) : -880000000 ≤ df u ax a b ∧ df u ax a b ≤ 880000000 := by
  have h1 := co_rng hI ax h
  have h2 := co_rng hI ax h2
  unfold df
  omega
theorem dq_rng {u : ST} (hI : Inv u) {a b : Int} (h : 0 ≤ a ∧ a ≤ zpg u) (h2 : 0 ≤ b ∧ b ≤ zpg u) : 0 ≤ df u 8 a b * df u 8 a b + df u 0 a b * df u 0 a b ∧ df u 8 a b * df u 8 a b + df u 0 a b * df u 0 a b ≤ 1548800000000000000 := by
  have h3 := sq_rng (df_rng hI 8 h h2)
  have h4 := sq_rng (df_rng hI 0 h h2)
  omega
theorem isn_ok {s : Int} (h : 0 ≤ s ∧ s < 4611686018427387904) : ∀ n : Nat, n ≤ 31 → 0 ≤ isn s n ∧ isn s n * isn s n ≤ s ∧ s < (isn s n + 2 ^ (31 - n)) * (isn s n + 2 ^ (31 - n)) ∧ isn s n + 2 ^ (31 - n) ≤ 2147483648 := by
  intro n
  induction n with
  | zero => intro _; refine ⟨Int.le_refl 0, by simpa [isn] using h.1, ?_, by show (0 : Int) + 2 ^ 31 ≤ 2147483648; decide⟩; have := h.2; show s < (0 + 2 ^ 31) * (0 + 2 ^ 31); omega
  | succ n ih =>
    intro hn
    obtain ⟨h1, h2, h3, h4⟩ := ih (by omega)
    have e : (2 : Int) ^ (31 - n) = 2 ^ (30 - n) + 2 ^ (30 - n) := by
      rw [show 31 - n = (30 - n) + 1 by omega, Int.pow_succ]; omega
    have e0 : (0 : Int) < 2 ^ (30 - n) := Int.pow_pos (by decide)
    rw [show 31 - (n + 1) = 30 - n by omega]
    unfold isn
    rw [e] at h3 h4
    generalize (2 : Int) ^ (30 - n) = w at *
    generalize isn s n = r at *
    split
    · refine ⟨by omega, by assumption, ?_, by omega⟩
      rw [show r + w + w = r + (w + w) by omega]; exact h3
    · exact ⟨h1, h2, by omega, by omega⟩
theorem isq_ok {s : Int} (h : 0 ≤ s ∧ s < 4611686018427387904) : 0 ≤ isq s ∧ isq s < 2147483648 ∧ isq s * isq s ≤ s ∧ s < (isq s + 1) * (isq s + 1) := by
  obtain ⟨h1, h2, h3, h4⟩ := isn_ok h 31 (Nat.le_refl _)
  unfold isq
  have e : (2 : Int) ^ (31 - 31) = 1 := rfl
  rw [e] at h3 h4
  exact ⟨h1, by omega, h2, h3⟩
theorem sq_le {a b : Int} (h0 : 0 ≤ a) (h : a ≤ b) : a * a ≤ b * b := Int.le_trans (Int.mul_le_mul_of_nonneg_left h h0) (Int.mul_le_mul_of_nonneg_right h (by omega))
theorem isq_one {s r : Int} (h : 0 ≤ s ∧ s < 4611686018427387904) (h0 : 0 ≤ r) (h1 : r * r ≤ s) (h2 : s < (r + 1) * (r + 1)) : isq s = r := by
  obtain ⟨g0, -, g1, g2⟩ := isq_ok h
  rcases Int.lt_trichotomy (isq s) r with q | q | q
  · have := sq_le (a := isq s + 1) (b := r) (by omega) (by omega); omega
  · exact q
  · have := sq_le (a := r + 1) (b := isq s) (by omega) (by omega); omega
theorem np_rng (n e : Int) : 0 ≤ np n e ∧ np n e ≤ 31 := by
  have key : ∀ k : Nat, 0 ≤ npn n e k ∧ npn n e k ≤ k := by
    intro k
    induction k with
    | zero => exact ⟨Int.le_refl 0, Int.le_refl 0⟩
    | succ k ih => unfold npn; split <;> omega
  exact key 31
theorem npn_rng (n e : Int) (k : Nat) : 0 ≤ npn n e k ∧ npn n e k ≤ k := by
  induction k with
  | zero => exact ⟨Int.le_refl 0, Int.le_refl 0⟩
  | succ k ih => unfold npn; split <;> omega
theorem npn_s (n e : Int) {k : Int} (h : 0 ≤ k) : npn n e (k + 1).toNat = if adv n e (npn n e k.toNat) < adv n e (k + 1) then k + 1 else npn n e k.toNat := by
  rw [show (k + 1).toNat = k.toNat + 1 by omega, npn, Int.toNat_of_nonneg h]
theorem mv1 (ax p : Int) : mv ax p 1 = sn ((p + ax) % 32) := Int.one_mul _
theorem sn_mul {n s N : Int} (hn : -N ≤ n ∧ n ≤ N) (hs : -10000 ≤ s ∧ s ≤ 10000) : -(N * 10000) ≤ n * s ∧ n * s ≤ N * 10000 := by
  rcases Int.le_total 0 n with h | h
  · exact mul_rng ⟨h, hn.2⟩ hs
  · have := mul_rng (a := -n) (A := N) ⟨by omega, by omega⟩ hs
    rw [Int.neg_mul] at this
    omega
theorem adv_rng {n e : Int} (hn : -1000000000 ≤ n ∧ n ≤ 1000000000) (he : -1000000000 ≤ e ∧ e ≤ 1000000000) (p : Int) : -20000000000000 ≤ adv n e p ∧ adv n e p ≤ 20000000000000 := by
  have h1 := sn_mul hn (sn_rng ((p + 8) % 32))
  have h2 := sn_mul he (sn_rng ((p + 0) % 32))
  unfold adv
  rw [mv1, mv1]
  omega
theorem ms_rng {n e : Int} (hn : -1000000000 ≤ n ∧ n ≤ 1000000000) (he : -1000000000 ≤ e ∧ e ≤ 1000000000) {p v : Int} (hv : 0 ≤ v ∧ v ≤ 200) : 0 ≤ ms n e p v ∧ ms n e p v ≤ 2008008000000000000 := by
  have h1 := mv_rng (ax := 8) (p := p) hv
  have h2 := mv_rng (ax := 0) (p := p) hv
  have h3 := sq_rng (a := n - mv 8 p v) (A := 1002000000) ⟨by omega, by omega⟩
  have h4 := sq_rng (a := e - mv 0 p v) (A := 1002000000) ⟨by omega, by omega⟩
  unfold ms
  omega
theorem lkp_s (n e le v : Int) (q : Int × Int) {p : Int} (h : 0 ≤ p) : lkp n e le v (p + 1).toNat q = if ms n e (p + le) v < (lkp n e le v p.toNat q).1 then (ms n e (p + le) v, 1000 * p + v) else lkp n e le v p.toNat q := by
  rw [show (p + 1).toNat = p.toNat + 1 by omega, lkp, Int.toNat_of_nonneg h]
theorem lkv_s (n e le : Int) {v : Int} (h : 0 < v) : lkv n e le v.toNat = lkp n e le v 32 (lkv n e le (v - 1).toNat) := by
  rw [show v.toNat = (v - 1).toNat + 1 by omega, lkv, show (((v - 1).toNat : Nat) : Int) + 1 = v by omega]
theorem lkp_rng {n e le v : Int} (hn : -1000000000 ≤ n ∧ n ≤ 1000000000) (he : -1000000000 ≤ e ∧ e ≤ 1000000000) (hv : 0 ≤ v ∧ v ≤ 200) (q : Int × Int) (hq : 0 ≤ q.1 ∧ q.1 ≤ 2008008000000000000) (k : Nat) : 0 ≤ (lkp n e le v k q).1 ∧ (lkp n e le v k q).1 ≤ 2008008000000000000 := by
  induction k with
  | zero => exact hq
  | succ k ih =>
    unfold lkp
    split
    · exact ms_rng hn he hv
    · exact ih
theorem lkv_rng {n e : Int} (le : Int) (hn : -1000000000 ≤ n ∧ n ≤ 1000000000) (he : -1000000000 ≤ e ∧ e ≤ 1000000000) (k : Nat) (hk : k ≤ 200) : 0 ≤ (lkv n e le k).1 ∧ (lkv n e le k).1 ≤ 2008008000000000000 := by
  induction k with
  | zero => have h1 := sq_rng hn; have h2 := sq_rng he; show 0 ≤ n * n + e * e ∧ n * n + e * e ≤ _; omega
  | succ k ih => unfold lkv; exact lkp_rng hn he ⟨by omega, by omega⟩ _ (ih (by omega)) 32
theorem sz01 {f : Int → Int} (hf : ∀ k, f k = 0 ∨ f k = 1) {a b : Int} (h : a ≤ b) : 0 ≤ sz f a b ∧ sz f a b ≤ b - a := by
  have := sz_rng (f := f) (lo := 0) (hi := 1) h (fun k => by have := hf k; omega)
  omega
theorem fl_rng (u : ST) : fl u = -1 ∨ (0 ≤ fl u ∧ fl u < zpg u ∧ ¬ zlo u (fl u) = 0) := ff_rng
/-! the buffer -/
theorem agn_stop {u : ST} {p j : Int} (h : ¬ (j < zbl u ∧ j < 5 ∧ ¬ (0 < j ∧ zbu u (j - 1) = 32) ∧ zbu u j = nm (5 * p + j))) (n : Nat) : agn u p n j = j := by
  cases n with
  | zero => rfl
  | succ n => rw [agn, if_neg h]
theorem agn_go {u : ST} {p j : Int} (h : j < zbl u ∧ j < 5 ∧ ¬ (0 < j ∧ zbu u (j - 1) = 32) ∧ zbu u j = nm (5 * p + j)) (n : Nat) : agn u p (n + 1) j = agn u p n (j + 1) := by
  rw [agn, if_pos h]
theorem agn_rng {u : ST} {p : Int} (n : Nat) : ∀ j : Int, 0 ≤ j → j ≤ 5 → j ≤ zbl u → j ≤ agn u p n j ∧ agn u p n j ≤ 5 ∧ agn u p n j ≤ zbl u := by
  induction n with
  | zero => intro j h0 h1 h2; exact ⟨Int.le_refl j, h1, h2⟩
  | succ n ih =>
    intro j h0 h1 h2
    by_cases h : j < zbl u ∧ j < 5 ∧ ¬ (0 < j ∧ zbu u (j - 1) = 32) ∧ zbu u j = nm (5 * p + j)
    · rw [agn_go h]; have := ih (j + 1) (by omega) (by omega) (by omega); omega
    · rw [agn_stop h]; omega
theorem ag_rng {u : ST} (hI : Inv u) (p : Int) : 0 ≤ ag u p ∧ ag u p ≤ 5 ∧ ag u p ≤ zbl u := agn_rng 5 0 (Int.le_refl 0) (by decide) (iv_bl hI).1
theorem pbn_rng (u : ST) (k : Nat) : 0 ≤ pbn u k ∧ pbn u k ≤ k := by
  induction k with
  | zero => exact ⟨Int.le_refl 0, Int.le_refl 0⟩
  | succ k ih => unfold pbn; split <;> omega
theorem pb_rng (u : ST) : 0 ≤ pb u ∧ pb u ≤ 31 := pbn_rng u 31
theorem pbn_s (u : ST) {k : Int} (h : 0 ≤ k) : pbn u (k + 1).toNat = if ag u (pbn u k.toNat) < ag u (k + 1) then k + 1 else pbn u k.toNat := by
  rw [show (k + 1).toNat = k.toNat + 1 by omega, pbn, Int.toNat_of_nonneg h]
theorem dsn_stop {u : ST} {a t : Int} (h : ¬ (t < zbl u ∧ dok u a t (num (zbu u) a t))) (n : Nat) : dsn u a n t = t := by
  cases n with
  | zero => rfl
  | succ n => rw [dsn, if_neg h]
theorem dsn_go {u : ST} {a t : Int} (h : t < zbl u ∧ dok u a t (num (zbu u) a t)) (n : Nat) : dsn u a (n + 1) t = dsn u a n (t + 1) := by
  rw [dsn, if_pos h]
theorem dsn_rng {u : ST} {a : Int} (n : Nat) : ∀ t : Int, t ≤ zbl u → t ≤ dsn u a n t ∧ dsn u a n t ≤ zbl u := by
  induction n with
  | zero => intro t h; exact ⟨Int.le_refl t, h⟩
  | succ n ih =>
    intro t h
    by_cases hc : t < zbl u ∧ dok u a t (num (zbu u) a t)
    · rw [dsn_go hc]; have := ih (t + 1) (by omega); omega
    · rw [dsn_stop hc]; omega
theorem ds_rng {u : ST} {a : Int} (h : a ≤ zbl u) : a ≤ ds u a ∧ ds u a ≤ zbl u := dsn_rng 12 a h
theorem ep_rng {u : ST} (hI : Inv u) : 0 ≤ ep u ∧ ep u ≤ zbl u := by
  have h := ag_rng hI (pb u)
  have h2 := ds_rng (u := u) (a := ag u (pb u)) h.2.2
  unfold ep
  split <;> omega
end
section
/-! ===== what holds of a board stays so ===== -/
theorem zup_all {P : Int → Prop} {f : Int → Int} {i x : Int} (hf : ∀ k, P (f k)) (hx : P x) : ∀ k, P (zup f i x k) := by
  intro k
  unfold zup
  split
  · exact hx
  · exact hf k
theorem zup_id {f : Int → Int} {i x : Int} (h : f i = x) : zup f i x = f := by
  funext k
  unfold zup
  split
  · rename_i e; rw [e, h]
  · rfl
theorem inv_cl {u : ST} (h : Inv u) : Inv (ubl u 0) := by
  obtain ⟨h1, h2, h3, h4, h5, h6⟩ := h
  exact ⟨⟨Int.le_refl 0, show (0 : Int) ≤ 12 by decide⟩, h2, h3, h4, fun k a b => absurd b (Int.not_lt.mpr a), h6⟩
theorem inv_ap {u : ST} (h : Inv u) (c : Int) : Inv (apU u c) := by
  unfold apU
  split
  · rename_i hc
    obtain ⟨h1, h2, h3, h4, h5, h6, h7⟩ := h
    refine ⟨?_, h2, h3, h4, ?_, ?_, h7⟩
    · show 0 ≤ zbl u + 1 ∧ zbl u + 1 ≤ 12; omega
    · show ∀ k, 0 ≤ k → k < zbl u + 1 → 32 ≤ zup (zbu u) (zbl u) c k ∧ zup (zbu u) (zbl u) c k ≤ 126
      intro k a b
      unfold zup
      split
      · exact hc.1
      · exact h5 k a (by omega)
    · exact zup_all (P := fun y => 0 ≤ y ∧ y ≤ 126) h6 (by omega)
  · exact h
theorem inv_pg {u : ST} (h : Inv u) {p v : Int} (hp : okP p v) (hg : zpg u < 48) : Inv (pgU u p v) := by
  obtain ⟨h1, h2, h3, h4, h5, h6, h7, h8, h9, h10, h11, h12, h13, h14⟩ := h
  refine ⟨h1, ?_, h3, h4, h5, h6, ?_, ?_, ?_, ?_, h11, h12, ?_, h14⟩
  · show 0 ≤ zpg u + 1 ∧ zpg u + 1 ≤ 48; omega
  · exact zup_all (P := fun y => 0 ≤ y ∧ y ≤ 31) h7 hp.1
  · exact zup_all (P := fun y => 0 ≤ y ∧ y ≤ 200) h8 hp.2
  · exact zup_all (P := fun y => -2 ≤ y ∧ y ≤ 2) h9 (by decide)
  · exact zup_all (P := fun y => y = 0 ∨ y = 1) h10 (by decide)
  · intro k hk
    exact h13 k (by have : zpg u + 1 < k := hk; omega)
theorem inv_ad {u : ST} (h : Inv u) (p v : Int) : Inv (adU u p v) := by
  unfold adU
  split
  · rename_i hc; exact inv_pg h hc.1 hc.2
  · exact h
theorem inv_re {u : ST} (h : Inv u) (k p v : Int) : Inv (reU u k p v) := by
  unfold reU
  split
  · rename_i hc
    obtain ⟨h1, h2, h3, h4, h5, h6, h7, h8, h9, h10, h11⟩ := h
    exact ⟨h1, h2, h3, h4, h5, h6, zup_all (P := fun y => 0 ≤ y ∧ y ≤ 31) h7 hc.2.1, zup_all (P := fun y => 0 ≤ y ∧ y ≤ 200) h8 hc.2.2, h9, zup_all (P := fun y => y = 0 ∨ y = 1) h10 (by decide), h11⟩
  · exact h
theorem inv_rl {u : ST} (h : Inv u) : Inv (rlU u) := by
  unfold rlU
  split
  · exact h
  · rename_i hc
    obtain ⟨h1, h2, h3, h4, h5, h6, h7, h8, h9, h10, h11, h12, h13, h14⟩ := h
    refine ⟨h1, ?_, h3, h4, h5, h6, h7, h8, h9, h10, zup_all (P := fun y => y = 0 ∨ y = 1) h11 (by decide), ?_, ?_, h14⟩
    · show 0 ≤ zpg u - 1 ∧ zpg u - 1 ≤ 48; omega
    · show zup (zfx u) (zpg u) 0 0 = 1
      rw [zup_n _ _ (by omega)]; exact h12
    · show ∀ k, zpg u - 1 < k → zup (zfx u) (zpg u) 0 k = 0
      intro k hk
      unfold zup
      split
      · rfl
      · exact h13 k (by omega)
theorem inv_lo {u : ST} (h : Inv u) (k x : Int) (hx : x = 0 ∨ x = 1) : Inv (ulo u (zup (zlo u) k x)) := by
  obtain ⟨h1, h2, h3, h4, h5, h6, h7, h8, h9, h10, h11⟩ := h
  exact ⟨h1, h2, h3, h4, h5, h6, h7, h8, h9, zup_all (P := fun y => y = 0 ∨ y = 1) h10 hx, h11⟩
theorem inv_loU {u : ST} (h : Inv u) (k : Int) : Inv (loU u k) := by
  unfold loU
  split
  · exact inv_lo h k 1 (by decide)
  · exact h
theorem inv_sl {u : ST} (h : Inv u) (k w : Int) : Inv (slU u k w) := by
  unfold slU
  split
  · rename_i hc
    obtain ⟨h1, h2, h3, h4, h5, h6, h7, h8, h9, h10⟩ := h
    exact ⟨h1, h2, h3, h4, h5, h6, h7, h8, zup_all (P := fun y => -2 ≤ y ∧ y ≤ 2) h9 hc.2, h10⟩
  · exact h
theorem inv_sc {u : ST} (h : Inv u) (a b : Int) : Inv (scU u a b) := by
  unfold scU
  split
  · rename_i hc
    obtain ⟨h1, h2, h3, h4, h5⟩ := h
    exact ⟨h1, h2, hc.1, hc.2, h5⟩
  · exact h
theorem inv_sf {u : ST} (h : Inv u) (m n e : Int) (hm : isF u m) (hf : okF n e) : Inv (ufe (ufn (ufx u (zup (zfx u) m 1)) (zup (zfn u) m n)) (zup (zfe u) m e)) := by
  obtain ⟨h1, h2, h3, h4, h5, h6, h7, h8, h9, h10, h11, h12, h13, h14, h15⟩ := h
  refine ⟨h1, h2, h3, h4, h5, h6, h7, h8, h9, h10, zup_all (P := fun y => y = 0 ∨ y = 1) h11 (by decide), ?_, ?_, zup_all (P := fun y => -200000000 ≤ y ∧ y ≤ 200000000) h14 hf.1, zup_all (P := fun y => -200000000 ≤ y ∧ y ≤ 200000000) h15 hf.2⟩
  · show zup (zfx u) m 1 0 = 1
    rw [zup_n _ _ (by omega)]; exact h12
  · show ∀ k, zpg u < k → zup (zfx u) m 1 k = 0
    intro k hk
    rw [zup_n _ _ (by omega)]
    exact h13 k hk
theorem inv_sfU {u : ST} (h : Inv u) (m n e : Int) : Inv (sfU u m n e) := by
  unfold sfU
  split
  · rename_i hc; exact inv_sf h m n e hc.1 hc.2
  · exact h
theorem inv_rf {u : ST} (h : Inv u) (m : Int) (hm : isF u m) : Inv (ufx u (zup (zfx u) m 0)) := by
  obtain ⟨h1, h2, h3, h4, h5, h6, h7, h8, h9, h10, h11, h12, h13, h14⟩ := h
  refine ⟨h1, h2, h3, h4, h5, h6, h7, h8, h9, h10, zup_all (P := fun y => y = 0 ∨ y = 1) h11 (by decide), ?_, ?_, h14⟩
  · show zup (zfx u) m 0 0 = 1
    rw [zup_n _ _ (by omega)]; exact h12
  · show ∀ k, zpg u < k → zup (zfx u) m 0 k = 0
    intro k hk
    unfold zup
    split
    · rfl
    · exact h13 k hk
theorem inv_rfU {u : ST} (h : Inv u) (m : Int) : Inv (rfU u m) := by
  unfold rfU
  split
  · rename_i hc; exact inv_rf h m hc.1
  · exact h
theorem lo_b {u : ST} (h : Inv u) (k : Int) : B32 (sz (zup (zlo u) k 1) 0 (zpg u)) := by
  have hp := iv_pg h
  have := sz01 (f := zup (zlo u) k 1) (iv_lo (inv_lo h k 1 (by decide))) hp.1
  omega
theorem fx_b {f : Int → Int} (hf : ∀ k, f k = 0 ∨ f k = 1) {n : Int} (hn : 0 ≤ n ∧ n ≤ 49) : B32 (sz f 0 n) := by
  have := sz01 hf hn.1
  omega
theorem sf_b {u : ST} (h : Inv u) (m : Int) : B32 (sz (zup (zfx u) m 1) 0 (zpg u + 1)) := by
  have hp := iv_pg h
  exact fx_b (zup_all (P := fun y => y = 0 ∨ y = 1) (iv_fx h) (by decide)) (by omega)
theorem rf_b {u : ST} (h : Inv u) (m : Int) : B32 (sz (zup (zfx u) m 0) 0 (zpg u + 1)) := by
  have hp := iv_pg h
  exact fx_b (zup_all (P := fun y => y = 0 ∨ y = 1) (iv_fx h) (by decide)) (by omega)
theorem dq_b {u : ST} (hI : Inv u) {a b : Int} (h : isM u a) (h2 : isM u b) : 0 ≤ df u 8 a b * df u 8 a b + df u 0 a b * df u 0 a b ∧ df u 8 a b * df u 8 a b + df u 0 a b * df u 0 a b < 4611686018427387904 := by
  have := dq_rng hI h h2
  omega
theorem cor_b {u : ST} (hI : Inv u) (ax : Int) {k : Int} (h0 : 0 ≤ k) (h1 : k ≤ zpg u) (h : la u k < nf u k) : -4611686018427387904 ≤ er u ax (la u k) (nf u k) * (k - la u k) ∧ er u ax (la u k) (nf u k) * (k - la u k) ≤ 4611686018427387904 := by
  have hp := iv_pg hI
  have ha := la_rng u h0
  have hn := nf_rng u k
  have he := er_rng hI ax (a := la u k) (b := nf u k) (by omega)
  have := mul_rng (a := k - la u k) (A := 48) (b := er u ax (la u k) (nf u k)) (B := 520000000) (by omega) he
  rw [Int.mul_comm]
  omega
/-! the peg in the buffer: a text that is all read, and ends with a digit, is a number up to 200 -/
theorem dsn_num {u : ST} {a : Int} (n : Nat) : ∀ t : Int, a ≤ t → 0 ≤ num (zbu u) a t ∧ num (zbu u) a t ≤ 200 → 0 ≤ num (zbu u) a (dsn u a n t) ∧ num (zbu u) a (dsn u a n t) ≤ 200 := by
  induction n with
  | zero => intro t _ h; exact h
  | succ n ih =>
    intro t hat h
    by_cases hc : t < zbl u ∧ dok u a t (num (zbu u) a t)
    · rw [dsn_go hc]
      refine ih (t + 1) (by omega) ?_
      have e := num_s (f := zbu u) hat
      have hz : t = a → num (zbu u) a t = 0 := fun h => num_0 (by omega)
      omega
    · rw [dsn_stop hc]; exact h
theorem ds_num (u : ST) (a : Int) : 0 ≤ num (zbu u) a (ds u a) ∧ num (zbu u) a (ds u a) ≤ 200 := dsn_num 12 a (Int.le_refl a) (by rw [num_0 (Int.le_refl a)]; decide)
/-- what agreement says of the characters that it has passed -/
theorem agn_at {u : ST} {p : Int} (n : Nat) : ∀ j i : Int, 0 ≤ j → j ≤ i → i < agn u p n j → i < zbl u ∧ i < 5 ∧ ¬ (0 < i ∧ zbu u (i - 1) = 32) ∧ zbu u i = nm (5 * p + i) := by
  induction n with
  | zero => intro j i h0 h1 h2; exact absurd h2 (Int.not_lt.mpr h1)
  | succ n ih =>
    intro j i h0 h1 h2
    by_cases hc : j < zbl u ∧ j < 5 ∧ ¬ (0 < j ∧ zbu u (j - 1) = 32) ∧ zbu u j = nm (5 * p + j)
    · rw [agn_go hc] at h2
      by_cases e : i = j
      · subst e; exact hc
      · exact ih (j + 1) i (by omega) (by omega) h2
    · rw [agn_stop hc] at h2; omega
theorem ag_at {u : ST} {p i : Int} (h0 : 0 ≤ i) (h : i < ag u p) : i < zbl u ∧ i < 5 ∧ ¬ (0 < i ∧ zbu u (i - 1) = 32) ∧ zbu u i = nm (5 * p + i) := agn_at 5 0 i (Int.le_refl 0) h0 h
theorem nm_nodigit (i : Int) : nm i = 0 ∨ nm i = 32 ∨ 58 ≤ nm i := by
  have h : ∀ k, k < 160 → nmL.getD k 0 = 0 ∨ nmL.getD k 0 = 32 ∨ 58 ≤ nmL.getD k 0 := by decide +kernel
  unfold nm
  by_cases hk : i.toNat < 160
  · exact h _ hk
  · exact Or.inl (by rw [List.getD_eq_getElem?_getD, List.getElem?_eq_none (Nat.not_lt.mp hk)]; rfl)
theorem ep_dg {u : ST} (h : ep u = zbl u ∧ dg u (zbl u)) : bk u (ag u (pb u)) ∧ ds u (ag u (pb u)) = zbl u ∧ ag u (pb u) < zbl u := by
  obtain ⟨h1, h2⟩ := h
  unfold ep at h1
  split at h1
  · rename_i hb
    refine ⟨hb, h1, ?_⟩
    have hr : ag u (pb u) ≤ zbl u := by
      by_cases hq : ag u (pb u) ≤ 0
      · omega
      · have := ag_at (u := u) (p := pb u) (i := ag u (pb u) - 1) (by omega) (by omega); omega
    by_cases e : ag u (pb u) = zbl u
    · rw [e] at hb; omega
    · omega
  · rename_i hb
    have := ag_at (u := u) (p := pb u) (i := zbl u - 1) (by omega) (by omega)
    have := nm_nodigit (5 * pb u + (zbl u - 1))
    omega
theorem af_num {u : ST} (hI : Inv u) (h : ep u = zbl u ∧ dg u (zbl u)) : 0 ≤ num (zbu u) (ag u (pb u)) (zbl u) ∧ num (zbu u) (ag u (pb u)) (zbl u) ≤ 200 := by
  have := ds_num u (ag u (pb u))
  rw [(ep_dg h).2.1] at this
  exact this
theorem inv_af {u : ST} (h : Inv u) : Inv (afU u) := by
  unfold afU
  split
  · rename_i hc
    exact inv_pg (inv_cl h) ⟨pb_rng u, af_num h hc.1⟩ hc.2
  · exact h
end
section
/-! ===== THE JDK's own methods: floorMod by 32, floorDiv by a small number, charAt of the names' text ===== -/
theorem pow_rng {t : Int} (h : 0 ≤ t ∧ t ≤ 30) : 0 < (2 : Int) ^ Int.toNat t ∧ (2 : Int) ^ Int.toNat t ≤ 1073741824 := by
  have key : ∀ k : Fin 31, 0 < (2 : Int) ^ k.val ∧ (2 : Int) ^ k.val ≤ 1073741824 := by decide +kernel
  exact key ⟨t.toNat, by omega⟩
theorem tmod32 (a : Int) : a.tmod 32 = if 0 ≤ a then a % 32 else -((-a) % 32) := by
  split
  · rename_i h; exact Int.tmod_eq_emod_of_nonneg h
  · rename_i h
    have e : a.tmod 32 = -((-a).tmod 32) := by rw [Int.neg_tmod, Int.neg_neg]
    rw [e, Int.tmod_eq_emod_of_nonneg (by omega)]
theorem tdiv_pos {a b : Int} (h : 0 ≤ a) : a.tdiv b = a / b := Int.tdiv_eq_ediv_of_nonneg h
theorem tdiv_neg {a b : Int} (h : a < 0) : a.tdiv b = -((-a) / b) := by
  have e : a.tdiv b = -((-a).tdiv b) := by rw [Int.neg_tdiv, Int.neg_neg]
  rw [e, Int.tdiv_eq_ediv_of_nonneg (by omega)]
/-- the quotient towards 0, times the divisor, lies between 0 and the dividend; the quotient downwards from it -/
theorem tdiv_all {a b : Int} (hb : 0 < b) : (0 ≤ a → a.tdiv b = a / b ∧ 0 ≤ a.tdiv b * b ∧ a.tdiv b * b ≤ a) ∧ (a < 0 → a ≤ a.tdiv b * b ∧ a.tdiv b * b ≤ 0 ∧ (a.tdiv b * b = a → a.tdiv b = a / b) ∧ (a < a.tdiv b * b → a.tdiv b - 1 = a / b)) := by
  constructor
  · intro h
    rw [tdiv_pos h]
    have h1 := Int.emod_add_mul_ediv a b
    have h2 := Int.emod_nonneg a (show b ≠ 0 by omega)
    have h4 := Int.ediv_nonneg h (Int.le_of_lt hb)
    have h5 := Int.mul_nonneg h4 (Int.le_of_lt hb)
    rw [Int.mul_comm] at h1
    exact ⟨rfl, h5, by omega⟩
  · intro h
    rw [tdiv_neg h]
    have h1 := Int.emod_add_mul_ediv (-a) b
    have h2 := Int.emod_nonneg (-a) (show b ≠ 0 by omega)
    have h3 := Int.emod_lt_of_pos (-a) hb
    have h4 := Int.ediv_nonneg (show 0 ≤ -a by omega) (Int.le_of_lt hb)
    have h5 := Int.mul_nonneg h4 (Int.le_of_lt hb)
    rw [Int.mul_comm] at h1
    rw [Int.neg_mul]
    generalize (-a) / b = q at *
    refine ⟨by omega, by omega, fun e => ?_, fun e => ?_⟩
    · have : a = -q * b := by rw [Int.neg_mul]; omega
      rw [this, Int.mul_ediv_cancel _ (by omega)]
    · have e2 : a = ((-a) % b * -1 + b) + (-q - 1) * b := by rw [Int.sub_mul, Int.neg_mul]; omega
      rw [e2, Int.add_mul_ediv_right _ _ (by omega), Int.ediv_eq_zero_of_lt (by omega) (by omega), Int.zero_add]
section ZJ
variable {p : Program} {l : Launch} {e : Env} {R : Room} {s : State} {m : MethodId} {args : Array Value} {below : List Frame} {meth : Method} {c : Code} {H : Heap} {locs : List Loc} {cells slots : Nat} {Q : State → Prop}
variable {cc : ByteArray} {pc : Nat} {ls : Array Slot} {rest : List Value}
theorem z_ixor_ge (hx : p.tables.exec = Jvm.exec) (hb : c.code = cc) {a : Int} {off : Int} {tgt : Nat} (hd1 : decode cc pc = .ok (.ixor, 1)) (hdg : decode cc (pc + 1) = .ok (.ifCond .ge off, 3)) (ht : ((pc + 1 : Nat) : Int) + off = (tgt : Int)) (ha : B32 a) (kt : 0 ≤ a → W p l e R s m args below meth c H locs cells slots Q (F0 m tgt ls rest)) (kf : a < 0 → W p l e R s m args below meth c H locs cells slots Q (F0 m (pc + 1 + 3) ls rest)) : W p l e R s m args below meth c H locs cells slots Q (F0 m pc ls (.int (iI 32) :: .int (iI a) :: rest)) :=
  lv_ixor hx hb hd1 (lv_if_ge hx hb hdg ht (fun h => kt (by
    exact Int.not_lt.mp (fun q => Int32.not_lt.mpr h ((iI_xor32 ha).mpr q)))) (fun h => kf ((iI_xor32 ha).mp (Int32.not_le.mp h))))
theorem z_lxor_ge (hx : p.tables.exec = Jvm.exec) (hb : c.code = cc) {a b : Int} {off : Int} {tgt : Nat} (hd1 : decode cc pc = .ok (.lxor, 1)) (hd2 : decode cc (pc + 1) = .ok (.lconst 0, 1)) (hd3 : decode cc (pc + 1 + 1) = .ok (.lcmp, 1)) (hdg : decode cc (pc + 1 + 1 + 1) = .ok (.ifCond .ge off, 3)) (ht : ((pc + 1 + 1 + 1 : Nat) : Int) + off = (tgt : Int)) (ha : B64 a) (hb2 : 0 ≤ b ∧ b < 9223372036854775808) (kt : 0 ≤ a → W p l e R s m args below meth c H locs cells slots Q (F0 m tgt ls rest)) (kf : a < 0 → W p l e R s m args below meth c H locs cells slots Q (F0 m (pc + 1 + 1 + 1 + 3) ls rest)) : W p l e R s m args below meth c H locs cells slots Q (F0 m pc ls (.long (jI b) :: .long (jI a) :: rest)) :=
  lv_lxor hx hb hd1 (lv_lconst (v := 0) hx hb hd2 rfl (W.lcmp hx hb hd3 (lv_if_ge hx hb hdg ht (fun h => kt (by
    exact Int.not_lt.mp (fun q => Int64.not_lt.mpr ((lg_cmp_ge _ _).mp h) ((jI_xorpos ha hb2).mpr q)))) (fun h => kf ((jI_xorpos ha hb2).mp (Int64.not_le.mp (fun q => h ((lg_cmp_ge _ _).mpr q))))))))
end ZJ

set_option maxHeartbeats 4000000 in
set_option maxRecDepth 100000 in
theorem c_J9_floorMod_7cf53 (l : Launch) (g : GG) (a : Int) (hb_a : B32 a) : Met l yJ9_floorMod_7cf53 wsJ9_floorMod_7cf53 (k2_rm 0 0) (va_Pc [.int (iI a), .int (iI 32)] (fun U => PT U U.heap)) (vp_Si (fun r => r = iI (a % 32))) 0 0 (fun _ => False) := by
  refine va_MetF (cc := cJ9_floorMod_7cf53) (maxL := 3) (ret := (some .int)) (by decide +kernel) rfl ?_
  intro p e s m args below meth c s₁ B hml hv
  obtain ⟨rfl, hPX⟩ := hv
  have hx := B.exec
  have hb := B.bytes
  have hr := B.returns
  have hts := atoms_spec (ws := wsJ9_floorMod_7cf53) B.pre
  have hown : s.vm.findClass RJ9 = some m.cls := findClass_of_methodNamed B.named
  have hlocks := B.notSynchronized
  have ht9 : a.tmod 32 = _ := tmod32 a
  have ht8 : (0 ≤ a ∧ a.tmod 32 = a % 32) ∨ (a < 0 ∧ a.tmod 32 = -((-a) % 32)) := by rw [ht9]; split <;> omega
  have hl := lv_entry ([.int (iI a), .int (iI 32)]) (n := 3) (Nat.le_of_ble_eq_true rfl)
  rw [lg_entry_eq]
  generalize (lg_sl ([.int (iI a), .int (iI 32)]) ++ List.replicate (3 - (lg_sl ([.int (iI a), .int (iI 32)])).length) Slot.unset).toArray = ls at hl ⊢
  have hl : lv_has ls 3 [(0, .int (iI a)), (1, .int (iI 32))] := hl
  refine lv_iload_n hx hb dJ9_floorMod_7cf53_0 rfl (lv_at hl 0 rfl) ?_
  refine lv_iload_n hx hb dJ9_floorMod_7cf53_1 rfl (lv_at hl 1 rfl) ?_
  refine z_irem hx hb hb_a ⟨by decide, by decide⟩ dJ9_floorMod_7cf53_2 ?_
  refine lv_istore_n (lv' := [(2, .int (iI (Int.tmod a 32))), (0, .int (iI a)), (1, .int (iI 32))]) hx hb dJ9_floorMod_7cf53_3 rfl hl (by decide) rfl (fun ls hl => ?_)
  refine lv_iload_n hx hb dJ9_floorMod_7cf53_4 rfl (lv_at hl 1 rfl) ?_
  refine lv_iload_n hx hb dJ9_floorMod_7cf53_5 rfl (lv_at hl 2 rfl) ?_
  refine z_ixor_ge (tgt := 18) hx hb dJ9_floorMod_7cf53_6 dJ9_floorMod_7cf53_7 (by decide) hb_a (fun c_a => ?_) (fun c_a => ?_)
  · refine lv_iload_n hx hb dJ9_floorMod_7cf53_18 rfl (lv_at hl 0 rfl) ?_
    exact zr_i hx hb hr hlocks dJ9_floorMod_7cf53_19 (by omega)
  · refine lv_iload_n hx hb dJ9_floorMod_7cf53_10 rfl (lv_at hl 0 rfl) ?_
    refine z_if_eq (tgt := 18) hx hb dJ9_floorMod_7cf53_11 (by decide) (by omega) (fun c_1 => ?_) (fun c_1 => ?_)
    · refine lv_iload_n hx hb dJ9_floorMod_7cf53_18 rfl (lv_at hl 0 rfl) ?_
      exact zr_i hx hb hr hlocks dJ9_floorMod_7cf53_19 (by omega)
    · refine lv_iload_n hx hb dJ9_floorMod_7cf53_14 rfl (lv_at hl 0 rfl) ?_
      refine lv_iload_n hx hb dJ9_floorMod_7cf53_15 rfl (lv_at hl 2 rfl) ?_
      refine z_iadd hx hb dJ9_floorMod_7cf53_16 ?_
      exact zr_i hx hb hr hlocks dJ9_floorMod_7cf53_17 (by omega)

set_option maxHeartbeats 4000000 in
set_option maxRecDepth 100000 in
theorem c_J9_floorDiv_f86c9 (l : Launch) (g : GG) (a : Int) (b : Int) (h1 : -4611686018427387904 ≤ a ∧ a ≤ 4611686018427387904) (h2 : 0 < b ∧ b ≤ 48) : Met l yJ9_floorDiv_f86c9 wsJ9_floorDiv_f86c9 (k2_rm 0 0) (va_Pc [.long (jI a), .long (jI b)] (fun U => PT U U.heap)) (vp_Sl (fun r => r = jI (a / b))) 0 0 (fun _ => False) := by
  refine va_MetF (cc := cJ9_floorDiv_f86c9) (maxL := 6) (ret := (some .long)) (by decide +kernel) rfl ?_
  intro p e s m args below meth c s₁ B hml hv
  obtain ⟨rfl, hPX⟩ := hv
  have hx := B.exec
  have hb := B.bytes
  have hr := B.returns
  have hts := atoms_spec (ws := wsJ9_floorDiv_f86c9) B.pre
  have hown : s.vm.findClass RJ9 = some m.cls := findClass_of_methodNamed B.named
  have hlocks := B.notSynchronized
  have hta := (tdiv_all (a := a) (b := b) h2.1).1
  have htb := (tdiv_all (a := a) (b := b) h2.1).2
  have hl := lv_entry ([.long (jI a), .long (jI b)]) (n := 6) (Nat.le_of_ble_eq_true rfl)
  rw [lg_entry_eq]
  generalize (lg_sl ([.long (jI a), .long (jI b)]) ++ List.replicate (6 - (lg_sl ([.long (jI a), .long (jI b)])).length) Slot.unset).toArray = ls at hl ⊢
  have hl : lv_has ls 6 [(0, .long (jI a)), (2, .long (jI b))] := hl
  refine lv_lload_n hx hb dJ9_floorDiv_f86c9_0 rfl (lv_at hl 0 rfl) ?_
  refine lv_lload_n hx hb dJ9_floorDiv_f86c9_1 rfl (lv_at hl 1 rfl) ?_
  refine z_ldiv hx hb (by omega) (by omega) dJ9_floorDiv_f86c9_2 ?_
  refine lv_lstore (lv' := [(4, .long (jI (Int.tdiv a b))), (0, .long (jI a)), (2, .long (jI b))]) hx hb dJ9_floorDiv_f86c9_3 hl (by decide) rfl (fun ls hl => ?_)
  refine lv_lload_n hx hb dJ9_floorDiv_f86c9_5 rfl (lv_at hl 1 rfl) ?_
  refine lv_lload_n hx hb dJ9_floorDiv_f86c9_6 rfl (lv_at hl 2 rfl) ?_
  refine z_lxor_ge (tgt := 27) hx hb dJ9_floorDiv_f86c9_7 dJ9_floorDiv_f86c9_8 dJ9_floorDiv_f86c9_9 dJ9_floorDiv_f86c9_10 (by decide) (by omega) (by omega) (fun c_a => ?_) (fun c_a => ?_)
  · refine lv_lload hx hb dJ9_floorDiv_f86c9_27 (lv_at hl 0 rfl) ?_
    exact zr_l hx hb hr hlocks dJ9_floorDiv_f86c9_29 (by first | exact (hta c_a).1 | exact htc.2.2.1 (by omega))
  · have htc := htb c_a
    refine lv_lload hx hb dJ9_floorDiv_f86c9_13 (lv_at hl 0 rfl) ?_
    refine lv_lload_n hx hb dJ9_floorDiv_f86c9_15 rfl (lv_at hl 2 rfl) ?_
    refine z_lmul hx hb dJ9_floorDiv_f86c9_16 ?_
    refine lv_lload_n hx hb dJ9_floorDiv_f86c9_17 rfl (lv_at hl 1 rfl) ?_
    refine z_lcmp_eq (tgt := 27) hx hb dJ9_floorDiv_f86c9_18 dJ9_floorDiv_f86c9_19 (by decide) (by omega) (by omega) (fun c_1 => ?_) (fun c_1 => ?_)
    · refine lv_lload hx hb dJ9_floorDiv_f86c9_27 (lv_at hl 0 rfl) ?_
      exact zr_l hx hb hr hlocks dJ9_floorDiv_f86c9_29 (by first | exact (hta c_a).1 | exact htc.2.2.1 (by omega))
    · refine lv_lload hx hb dJ9_floorDiv_f86c9_22 (lv_at hl 0 rfl) ?_
      refine z_lconst (z := 1) hx hb dJ9_floorDiv_f86c9_24 rfl ?_
      refine z_lsub hx hb dJ9_floorDiv_f86c9_25 ?_
      exact zr_l hx hb hr hlocks dJ9_floorDiv_f86c9_26 (htc.2.2.2 (by omega))

set_option maxHeartbeats 4000000 in
set_option maxRecDepth 100000 in
theorem c_J3n (l : Launch) (g : GG) (i : Int) (n : Int) (k0 : 0 ≤ i) (k1 : i < n) (k2 : n < 2147483648) : Met l yJ3_checkIndex_8e157 wsJ3_checkIndex_8e157 (k2_rm 1 20) (va_Pc [.int (iI i), .int (iI n), Value.null] (fun U => PT U U.heap)) (vp_Si (fun r => r = iI i)) 0 0 (fun _ => False) := by
  refine Met.ofW (cc := cJ3_checkIndex_8e157) (maxL := 3) (ret := (some .int)) (by decide) rfl ?_
  intro p e s m args below meth c s₁ B hml hv
  obtain ⟨rfl, hPX⟩ := hv
  have hx := B.exec
  have hb := B.bytes
  have hr := B.returns
  have hts := atoms_spec (ws := wsJ3_checkIndex_8e157) B.pre
  have hown : s.vm.findClass RJ3 = some m.cls := findClass_of_methodNamed B.named
  have hlocks := B.notSynchronized
  have hl := lv_entry ([.int (iI i), .int (iI n), Value.null]) (n := 3) (Nat.le_of_ble_eq_true rfl)
  rw [lg_entry_eq]
  generalize (lg_sl ([.int (iI i), .int (iI n), Value.null]) ++ List.replicate (3 - (lg_sl ([.int (iI i), .int (iI n), Value.null])).length) Slot.unset).toArray = ls at hl ⊢
  have hl : lv_has ls 3 [(0, .int (iI i)), (1, .int (iI n)), (2, Value.null)] := hl
  refine lv_iload_n hx hb dJ3_checkIndex_8e157_0 rfl (lv_at hl 0 rfl) ?_
  refine z_if_lt (tgt := 9) hx hb dJ3_checkIndex_8e157_1 (by decide) (by omega) (fun c_1 => (absurd c_1 (by omega))) (fun c_1 => ?_)
  refine lv_iload_n hx hb dJ3_checkIndex_8e157_4 rfl (lv_at hl 0 rfl) ?_
  refine lv_iload_n hx hb dJ3_checkIndex_8e157_5 rfl (lv_at hl 1 rfl) ?_
  refine z_icmp_lt (tgt := 16) hx hb dJ3_checkIndex_8e157_6 (by decide) (by omega) (by omega) (fun c_2 => ?_) (fun c_2 => (absurd c_2 (by omega)))
  refine lv_iload_n hx hb dJ3_checkIndex_8e157_16 rfl (lv_at hl 0 rfl) ?_
  exact zr_i hx hb hr hlocks dJ3_checkIndex_8e157_17 (by first | rfl | omega)

set_option maxHeartbeats 4000000 in
set_option maxRecDepth 100000 in
theorem c_J3r (l : Launch) (g : GG) (i : Int) (n : Int) (q : Nat) (k0 : 0 ≤ i) (k1 : i < n) (k2 : n < 2147483648) : Met l yJ3_checkIndex_8e157 wsJ3_checkIndex_8e157 (k2_rm 1 20) (va_Pc [.int (iI i), .int (iI n), Value.ref q] (fun U => PT U U.heap)) (vp_Si (fun r => r = iI i)) 0 0 (fun _ => False) := by
  refine Met.ofW (cc := cJ3_checkIndex_8e157) (maxL := 3) (ret := (some .int)) (by decide) rfl ?_
  intro p e s m args below meth c s₁ B hml hv
  obtain ⟨rfl, hPX⟩ := hv
  have hx := B.exec
  have hb := B.bytes
  have hr := B.returns
  have hts := atoms_spec (ws := wsJ3_checkIndex_8e157) B.pre
  have hown : s.vm.findClass RJ3 = some m.cls := findClass_of_methodNamed B.named
  have hlocks := B.notSynchronized
  have hl := lv_entry ([.int (iI i), .int (iI n), Value.ref q]) (n := 3) (Nat.le_of_ble_eq_true rfl)
  rw [lg_entry_eq]
  generalize (lg_sl ([.int (iI i), .int (iI n), Value.ref q]) ++ List.replicate (3 - (lg_sl ([.int (iI i), .int (iI n), Value.ref q])).length) Slot.unset).toArray = ls at hl ⊢
  have hl : lv_has ls 3 [(0, .int (iI i)), (1, .int (iI n)), (2, Value.ref q)] := hl
  refine lv_iload_n hx hb dJ3_checkIndex_8e157_0 rfl (lv_at hl 0 rfl) ?_
  refine z_if_lt (tgt := 9) hx hb dJ3_checkIndex_8e157_1 (by decide) (by omega) (fun c_1 => (absurd c_1 (by omega))) (fun c_1 => ?_)
  refine lv_iload_n hx hb dJ3_checkIndex_8e157_4 rfl (lv_at hl 0 rfl) ?_
  refine lv_iload_n hx hb dJ3_checkIndex_8e157_5 rfl (lv_at hl 1 rfl) ?_
  refine z_icmp_lt (tgt := 16) hx hb dJ3_checkIndex_8e157_6 (by decide) (by omega) (by omega) (fun c_2 => ?_) (fun c_2 => (absurd c_2 (by omega)))
  refine lv_iload_n hx hb dJ3_checkIndex_8e157_16 rfl (lv_at hl 0 rfl) ?_
  exact zr_i hx hb hr hlocks dJ3_checkIndex_8e157_17 (by first | rfl | omega)

set_option maxHeartbeats 4000000 in
set_option maxRecDepth 100000 in
theorem c_J0_checkIndex_df160 (l : Launch) (g : GG) (i : Int) (n : Int) (k0 : 0 ≤ i) (k1 : i < n) (k2 : n < 2147483648) : Met l yJ0_checkIndex_df160 wsJ0_checkIndex_df160 (k2_rm 2 42) (va_Pc [.int (iI i), .int (iI n)] (fun U => PZ g U U.heap)) (va_Sv (fun _ => True)) 0 0 (fun _ => False) := by
  refine Met.ofW (cc := cJ0_checkIndex_df160) (maxL := 2) (ret := none) (by decide) rfl ?_
  intro p e s m args below meth c s₁ B hml hv
  obtain ⟨rfl, hPX⟩ := hv
  have hZS : ZS nA g s s.heap := hPX
  have hx := B.exec
  have hb := B.bytes
  have hr := B.returns
  have hts := atoms_spec (ws := wsJ0_checkIndex_df160) B.pre
  have hown : s.vm.findClass RJ0 = some m.cls := findClass_of_methodNamed B.named
  have hlocks := B.notSynchronized
  have m1053 : Cond.fieldLink RJ0 1053 "jdk/internal/util/Preconditions" "SIOOBE_FORMATTER" "Ljava/util/function/BiFunction;" ∈ wsJ0_checkIndex_df160 := by decide +kernel
  have hS0 : va_S nA s.heap s.heap [] := va_S.rf
  have hl := lv_entry ([.int (iI i), .int (iI n)]) (n := 2) (Nat.le_of_ble_eq_true rfl)
  rw [lg_entry_eq]
  generalize (lg_sl ([.int (iI i), .int (iI n)]) ++ List.replicate (2 - (lg_sl ([.int (iI i), .int (iI n)])).length) Slot.unset).toArray = ls at hl ⊢
  have hl : lv_has ls 2 [(0, .int (iI i)), (1, .int (iI n))] := hl
  refine lv_iload_n hx hb dJ0_checkIndex_df160_0 rfl (lv_at hl 0 rfl) ?_
  refine lv_iload_n hx hb dJ0_checkIndex_df160_1 rfl (lv_at hl 1 rfl) ?_
  rcases hZS.2.2.2.2.2 with hq | ⟨q9, hq⟩
  · refine va_gets hx hb hq hS0 hown (hts _ m1053) (fun _ h9 => h9) dJ0_checkIndex_df160_2 ?_
    refine zS_i (As := [.int (iI i), .int (iI n), .null]) (rest := []) ⟨hx, hb, hml, hown, hts⟩ (PT) PT_blind PT_mv (c_J3n l g i n k0 k1 k2) (va_cwS 3 hts gJ0_checkIndex_df160_J3_checkIndex_8e157 rfl rfl rfl (by decide +kernel) ⟨Nat.le_of_ble_eq_true rfl, Nat.le_of_ble_eq_true rfl⟩) rfl hl.1 rfl (Nat.le_of_ble_eq_true rfl) dJ0_checkIndex_df160_5 ⟨Nat.zero_le _, Nat.zero_le _⟩ ?_
    refine lv_pop hx hb dJ0_checkIndex_df160_8 rfl ?_
    exact zr_v hx hb hr hlocks dJ0_checkIndex_df160_9
  · refine va_gets hx hb hq hS0 hown (hts _ m1053) (fun _ h9 => h9) dJ0_checkIndex_df160_2 ?_
    refine zS_i (As := [.int (iI i), .int (iI n), .ref q9]) (rest := []) ⟨hx, hb, hml, hown, hts⟩ (PT) PT_blind PT_mv (c_J3r l g i n q9 k0 k1 k2) (va_cwS 3 hts gJ0_checkIndex_df160_J3_checkIndex_8e157 rfl rfl rfl (by decide +kernel) ⟨Nat.le_of_ble_eq_true rfl, Nat.le_of_ble_eq_true rfl⟩) rfl hl.1 rfl (Nat.le_of_ble_eq_true rfl) dJ0_checkIndex_df160_5 ⟨Nat.zero_le _, Nat.zero_le _⟩ ?_
    refine lv_pop hx hb dJ0_checkIndex_df160_8 rfl ?_
    exact zr_v hx hb hr hlocks dJ0_checkIndex_df160_9

set_option maxHeartbeats 4000000 in
set_option maxRecDepth 100000 in
theorem c_J0_isLatin1_aae02 (l : Launch) (g : GG) : Met l yJ0_isLatin1_aae02 wsJ0_isLatin1_aae02 (k2_rm 0 0) (va_Pc [.ref (gA g)] (fun U => PZ g U U.heap)) (vp_Si (fun r => (r = iI 1 ∧ (True)) ∨ (r = iI 0 ∧ ¬ (True)))) 0 0 (fun _ => False) := by
  refine Met.ofW (cc := cJ0_isLatin1_aae02) (maxL := 1) (ret := (some .boolean)) (by decide) rfl ?_
  intro p e s m args below meth c s₁ B hml hv
  obtain ⟨rfl, hPX⟩ := hv
  have hZS : ZS nA g s s.heap := hPX
  have hx := B.exec
  have hb := B.bytes
  have hr := B.returns
  have hts := atoms_spec (ws := wsJ0_isLatin1_aae02) B.pre
  have hown : s.vm.findClass RJ0 = some m.cls := findClass_of_methodNamed B.named
  have hlocks := B.notSynchronized
  have m15 : Cond.fieldLink RJ0 15 "java/lang/String" "coder" "B" ∈ wsJ0_isLatin1_aae02 := by decide +kernel
  have m38 : Cond.fieldLink RJ0 38 "java/lang/String" "COMPACT_STRINGS" "Z" ∈ wsJ0_isLatin1_aae02 := by decide +kernel
  have hS0 : va_S nA s.heap s.heap [] := va_S.rf
  have hl := lv_entry ([.ref (gA g)]) (n := 1) (Nat.le_of_ble_eq_true rfl)
  rw [lg_entry_eq]
  generalize (lg_sl ([.ref (gA g)]) ++ List.replicate (1 - (lg_sl ([.ref (gA g)])).length) Slot.unset).toArray = ls at hl ⊢
  have hl : lv_has ls 1 [(0, .ref (gA g))] := hl
  refine va_gets (v := .int (iI 1)) hx hb hZS.2.2.2.2.1 hS0 hown (hts _ m38) (fun _ h9 => h9) dJ0_isLatin1_aae02_0 ?_
  refine z_if_eq (tgt := 17) hx hb dJ0_isLatin1_aae02_3 (by decide) ⟨by decide, by decide⟩ (fun c_1 => (absurd c_1 (by decide))) (fun c_1 => ?_)
  refine lv_aload_n hx hb dJ0_isLatin1_aae02_6 rfl (lv_at hl 0 rfl) ?_
  refine vk_getf (v := .int (iI 0)) hx hb (hZS.2.2.2.1.1 0 (by decide)).2.1 hS0 hown (hts _ m15) (fun _ h9 => h9) dJ0_isLatin1_aae02_7 ?_
  refine z_if_ne (tgt := 17) hx hb dJ0_isLatin1_aae02_10 (by decide) ⟨by decide, by decide⟩ (fun c_2 => (absurd c_2 (by decide))) (fun c_2 => ?_)
  refine z_iconst hx hb dJ0_isLatin1_aae02_13 ?_
  refine lv_goto (tgt := 18) hx hb dJ0_isLatin1_aae02_14 (by decide) ?_
  exact zr_1 hx hb hr hlocks dJ0_isLatin1_aae02_18 trivial

theorem nmB_at {i : Int} (h : 0 ≤ i ∧ i < 160) : ([nmB].getD 0 []).getD (iI i).toNatClampNeg 0 = iI (nm i) := by
  rw [iI_clamp ⟨by omega, by omega⟩]
  have key : ∀ k : Fin 160, (([nmB].getD 0 []).getD k.val 0) = iI (nmL.getD k.val 0) := by decide +kernel
  exact key ⟨i.toNat, by omega⟩
theorem nm_and {i : Int} (h : 0 ≤ i ∧ i < 160) : iI (nm i) &&& iI 255 = iI (nm i) := by
  have key : ∀ k : Fin 160, iI (nmL.getD k.val 0) &&& iI 255 = iI (nmL.getD k.val 0) := by decide +kernel
  exact key ⟨i.toNat, by omega⟩
theorem nm_i2c {i : Int} (h : 0 ≤ i ∧ i < 160) : ((iI (nm i)).toUInt32 % 65536).toInt32 = iI (nm i) := by
  have key : ∀ k : Fin 160, ((iI (nmL.getD k.val 0)).toUInt32 % 65536).toInt32 = iI (nmL.getD k.val 0) := by decide +kernel
  exact key ⟨i.toNat, by omega⟩
theorem nm_nar {i : Int} (h : 0 ≤ i ∧ i < 160) : narrow .char (.int (iI (nm i))) = .int (iI (nm i)) := by
  have key : ∀ k : Fin 160, narrow .char (.int (iI (nmL.getD k.val 0))) = .int (iI (nmL.getD k.val 0)) := by decide +kernel
  exact key ⟨i.toNat, by omega⟩
set_option maxHeartbeats 4000000 in
set_option maxRecDepth 100000 in
theorem c_J1_charAt_3b067 (l : Launch) (g : GG) (i : Int) (k0 : 0 ≤ i) (k1 : i < 160) : Met l yJ1_charAt_3b067 wsJ1_charAt_3b067 (k2_rm 3 63) (va_Pc [.ref (gB g), .int (iI i)] (fun U => PZ g U U.heap)) (vp_Si (fun r => r = iI (nm i))) 0 0 (fun _ => False) := by
  refine Met.ofW (cc := cJ1_charAt_3b067) (maxL := 2) (ret := (some .char)) (by decide) rfl ?_
  intro p e s m args below meth c s₁ B hml hv
  obtain ⟨rfl, hPX⟩ := hv
  have hZS : ZS nA g s s.heap := hPX
  have hx := B.exec
  have hb := B.bytes
  have hr := B.returns
  have hts := atoms_spec (ws := wsJ1_charAt_3b067) B.pre
  have hown : s.vm.findClass RJ1 = some m.cls := findClass_of_methodNamed B.named
  have hlocks := B.notSynchronized
  have hS0 : va_S nA s.heap s.heap [] := va_S.rf
  have hl := lv_entry ([.ref (gB g), .int (iI i)]) (n := 2) (Nat.le_of_ble_eq_true rfl)
  rw [lg_entry_eq]
  generalize (lg_sl ([.ref (gB g), .int (iI i)]) ++ List.replicate (2 - (lg_sl ([.ref (gB g), .int (iI i)])).length) Slot.unset).toArray = ls at hl ⊢
  have hl : lv_has ls 2 [(0, .ref (gB g)), (1, .int (iI i))] := hl
  refine lv_iload_n hx hb dJ1_charAt_3b067_0 rfl (lv_at hl 1 rfl) ?_
  refine lv_aload_n hx hb dJ1_charAt_3b067_1 rfl (lv_at hl 0 rfl) ?_
  refine va_tlen (v := iI 160) hx hb (hZS.2.2.2.1.1 0 (by decide)).2.2.2 hS0 (by decide +kernel) dJ1_charAt_3b067_2 ?_
  refine zS_v (As := [.int (iI i), .int (iI 160)]) (rest := []) ⟨hx, hb, hml, hown, hts⟩ (PZ g) (PZ_blind g) (PZ_mv hZS)  (c_J0_checkIndex_df160 l g i 160 (by omega) (by omega) (by omega)) (va_cwS 2 hts gJ1_charAt_3b067_J0_checkIndex_df160 rfl rfl rfl (by decide +kernel) ⟨Nat.le_of_ble_eq_true rfl, Nat.le_of_ble_eq_true rfl⟩) rfl hl.1 rfl (Nat.le_of_ble_eq_true rfl) dJ1_charAt_3b067_3 ⟨Nat.zero_le _, Nat.zero_le _⟩ ?_
  refine lv_aload_n hx hb dJ1_charAt_3b067_6 rfl (lv_at hl 0 rfl) ?_
  refine lv_iload_n hx hb dJ1_charAt_3b067_7 rfl (lv_at hl 1 rfl) ?_
  refine va_tb (v := .int (iI (nm i))) hx hb (hZS.2.2.2.1.1 0 (by decide)).2.2.2 hS0 (iI_in k0 k1 (by decide)) (by show Value.int _ = _; rw [nmB_at ⟨k0, k1⟩]) dJ1_charAt_3b067_8 ?_
  refine z_sipush hx hb dJ1_charAt_3b067_9 (by decide +kernel) ?_
  refine lv_iand hx hb dJ1_charAt_3b067_12 ?_
  rw [nm_and ⟨k0, k1⟩]
  refine lv_i2c (v := iI (nm i)) hx hb dJ1_charAt_3b067_13 (nm_i2c ⟨k0, k1⟩) ?_
  exact zr_c hx hb hr hlocks dJ1_charAt_3b067_14 (nm_nar ⟨k0, k1⟩) rfl

set_option maxHeartbeats 4000000 in
set_option maxRecDepth 100000 in
theorem c_J0_charAt_5068e (l : Launch) (g : GG) (i : Int) (k0 : 0 ≤ i) (k1 : i < 160) : Met l yJ0_charAt_5068e wsJ0_charAt_5068e (k2_rm 5 105) (va_Pc [.ref (gA g), .int (iI i)] (fun U => PZ g U U.heap)) (vp_Si (fun r => r = iI (nm i))) 0 0 (fun _ => False) := by
  refine Met.ofW (cc := cJ0_charAt_5068e) (maxL := 2) (ret := (some .char)) (by decide) rfl ?_
  intro p e s m args below meth c s₁ B hml hv
  obtain ⟨rfl, hPX⟩ := hv
  have hZS : ZS nA g s s.heap := hPX
  have hx := B.exec
  have hb := B.bytes
  have hr := B.returns
  have hts := atoms_spec (ws := wsJ0_charAt_5068e) B.pre
  have hown : s.vm.findClass RJ0 = some m.cls := findClass_of_methodNamed B.named
  have hlocks := B.notSynchronized
  have m9 : Cond.fieldLink RJ0 9 "java/lang/String" "value" "[B" ∈ wsJ0_charAt_5068e := by decide +kernel
  have hS0 : va_S nA s.heap s.heap [] := va_S.rf
  have hl := lv_entry ([.ref (gA g), .int (iI i)]) (n := 2) (Nat.le_of_ble_eq_true rfl)
  rw [lg_entry_eq]
  generalize (lg_sl ([.ref (gA g), .int (iI i)]) ++ List.replicate (2 - (lg_sl ([.ref (gA g), .int (iI i)])).length) Slot.unset).toArray = ls at hl ⊢
  have hl : lv_has ls 2 [(0, .ref (gA g)), (1, .int (iI i))] := hl
  refine lv_aload_n hx hb dJ0_charAt_5068e_0 rfl (lv_at hl 0 rfl) ?_
  refine zV_z (As := []) (rest := []) ⟨hx, hb, hml, hown, hts⟩ (PZ g) (PZ_blind g) (PZ_mv hZS) (rcS hZS hS0) (c_J0_isLatin1_aae02 l g) (cwV 0 hts gJ0_charAt_5068e_J0_isLatin1_aae02 rfl rfl rfl (by decide +kernel) ⟨Nat.le_of_ble_eq_true rfl, Nat.le_of_ble_eq_true rfl⟩) rfl hl.1 rfl (Nat.le_of_ble_eq_true rfl) dJ0_charAt_5068e_1 ⟨Nat.zero_le _, Nat.zero_le _⟩ (fun c_1 => ?_) (fun c_1 => (absurd trivial c_1))
  refine z_if_eq (tgt := 16) hx hb dJ0_charAt_5068e_4 (by decide) ⟨by decide, by decide⟩ (fun c_2 => (absurd c_2 (by decide))) (fun c_2 => ?_)
  refine lv_aload_n hx hb dJ0_charAt_5068e_7 rfl (lv_at hl 0 rfl) ?_
  refine vk_getf (v := .ref (gB g)) hx hb (hZS.2.2.2.1.1 0 (by decide)).2.2.1 hS0 hown (hts _ m9) (fun _ h9 => h9) dJ0_charAt_5068e_8 ?_
  refine lv_iload_n hx hb dJ0_charAt_5068e_11 rfl (lv_at hl 1 rfl) ?_
  refine zS_i (As := [.ref (gB g), .int (iI i)]) (rest := []) ⟨hx, hb, hml, hown, hts⟩ (PZ g) (PZ_blind g) (PZ_mv hZS)  (c_J1_charAt_3b067 l g i (by omega) (by omega)) (va_cwS 2 hts gJ0_charAt_5068e_J1_charAt_3b067 rfl rfl rfl (by decide +kernel) ⟨Nat.le_of_ble_eq_true rfl, Nat.le_of_ble_eq_true rfl⟩) rfl hl.1 rfl (Nat.le_of_ble_eq_true rfl) dJ0_charAt_5068e_12 ⟨Nat.zero_le _, Nat.zero_le _⟩ ?_
  exact zr_c hx hb hr hlocks dJ0_charAt_5068e_15 (nm_nar ⟨k0, k1⟩) rfl
end
