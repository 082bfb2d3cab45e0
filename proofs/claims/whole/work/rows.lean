section
-- ===== PART A: goes FIRST, ahead of the names: the tables' words, and 'selects' of the private methods out of them =====
/-- a private method of a class that the tables say can be made, by its rows of tables_1 -/
def lw_okq (q : MethodName × Nat) : Prop := (q.1.cls ≠ "java/lang/invoke/MethodHandle" ∧ q.1.cls ≠ "java/lang/invoke/VarHandle") ∧ Cond.instantiable q.1.cls q.2 ∈ tables_1 ∧ Cond.privateMethod q.1 ∈ tables_1 ∧ Cond.instanceMethod q.1 ∈ tables_1
theorem lw_p0 : lw_okq (⟨"ReadingCircles", "refuse", "(I)I"⟩, 10) := ⟨⟨by decide +kernel, by decide +kernel⟩, List.mem_of_getElem? (i := 13) (by decide +kernel), List.mem_of_getElem? (i := 77) (by decide +kernel), List.mem_of_getElem? (i := 78) (by decide +kernel)⟩
theorem lw_p1 : lw_okq (⟨"ReadingCircles", "done", "(I)I"⟩, 10) := ⟨⟨by decide +kernel, by decide +kernel⟩, List.mem_of_getElem? (i := 13) (by decide +kernel), List.mem_of_getElem? (i := 144) (by decide +kernel), List.mem_of_getElem? (i := 145) (by decide +kernel)⟩
theorem lw_p2 : lw_okq (⟨"ReadingCircles", "writeByCall", "(IIII)I"⟩, 10) := ⟨⟨by decide +kernel, by decide +kernel⟩, List.mem_of_getElem? (i := 13) (by decide +kernel), List.mem_of_getElem? (i := 186) (by decide +kernel), List.mem_of_getElem? (i := 187) (by decide +kernel)⟩
theorem lw_p3 : lw_okq (⟨"ReadingCircles", "isMember", "(I)Z"⟩, 10) := ⟨⟨by decide +kernel, by decide +kernel⟩, List.mem_of_getElem? (i := 13) (by decide +kernel), List.mem_of_getElem? (i := 190) (by decide +kernel), List.mem_of_getElem? (i := 191) (by decide +kernel)⟩
theorem lw_p4 : lw_okq (⟨"ReadingCircles", "isCircle", "(I)Z"⟩, 10) := ⟨⟨by decide +kernel, by decide +kernel⟩, List.mem_of_getElem? (i := 13) (by decide +kernel), List.mem_of_getElem? (i := 194) (by decide +kernel), List.mem_of_getElem? (i := 195) (by decide +kernel)⟩
theorem lw_p5 : lw_okq (⟨"ReadingCircles", "mayAnswer", "(II)Z"⟩, 10) := ⟨⟨by decide +kernel, by decide +kernel⟩, List.mem_of_getElem? (i := 13) (by decide +kernel), List.mem_of_getElem? (i := 198) (by decide +kernel), List.mem_of_getElem? (i := 199) (by decide +kernel)⟩
theorem lw_p6 : lw_okq (⟨"ReadingCircles", "isLetter", "(I)Z"⟩, 10) := ⟨⟨by decide +kernel, by decide +kernel⟩, List.mem_of_getElem? (i := 13) (by decide +kernel), List.mem_of_getElem? (i := 202) (by decide +kernel), List.mem_of_getElem? (i := 203) (by decide +kernel)⟩
theorem lw_p7 : lw_okq (⟨"ReadingCircles", "clockNow", "(I)LReadingCircles$Clock;"⟩, 10) := ⟨⟨by decide +kernel, by decide +kernel⟩, List.mem_of_getElem? (i := 13) (by decide +kernel), List.mem_of_getElem? (i := 215) (by decide +kernel), List.mem_of_getElem? (i := 216) (by decide +kernel)⟩
theorem lw_p8 : lw_okq (⟨"ReadingCircles", "send", "(LReadingCircles$Letter;)V"⟩, 10) := ⟨⟨by decide +kernel, by decide +kernel⟩, List.mem_of_getElem? (i := 13) (by decide +kernel), List.mem_of_getElem? (i := 317) (by decide +kernel), List.mem_of_getElem? (i := 318) (by decide +kernel)⟩
theorem lw_p9 : lw_okq (⟨"ReadingCircles$Member", "takeSlot", "(LReadingCircles$Letter;)V"⟩, 10) := ⟨⟨by decide +kernel, by decide +kernel⟩, List.mem_of_getElem? (i := 80) (by decide +kernel), List.mem_of_getElem? (i := 333) (by decide +kernel), List.mem_of_getElem? (i := 334) (by decide +kernel)⟩
theorem lw_p10 : lw_okq (⟨"ReadingCircles", "giveAll", "(I)I"⟩, 10) := ⟨⟨by decide +kernel, by decide +kernel⟩, List.mem_of_getElem? (i := 13) (by decide +kernel), List.mem_of_getElem? (i := 337) (by decide +kernel), List.mem_of_getElem? (i := 338) (by decide +kernel)⟩
theorem lw_p11 : lw_okq (⟨"ReadingCircles", "canGive", "(ILReadingCircles$Letter;)Z"⟩, 10) := ⟨⟨by decide +kernel, by decide +kernel⟩, List.mem_of_getElem? (i := 13) (by decide +kernel), List.mem_of_getElem? (i := 341) (by decide +kernel), List.mem_of_getElem? (i := 342) (by decide +kernel)⟩
theorem lw_p12 : lw_okq (⟨"ReadingCircles", "firstLack", "(ILReadingCircles$Letter;)I"⟩, 10) := ⟨⟨by decide +kernel, by decide +kernel⟩, List.mem_of_getElem? (i := 13) (by decide +kernel), List.mem_of_getElem? (i := 345) (by decide +kernel), List.mem_of_getElem? (i := 346) (by decide +kernel)⟩
theorem lw_p13 : lw_okq (⟨"ReadingCircles", "firstLackIn", "(ILReadingCircles$Letter;I)I"⟩, 10) := ⟨⟨by decide +kernel, by decide +kernel⟩, List.mem_of_getElem? (i := 13) (by decide +kernel), List.mem_of_getElem? (i := 353) (by decide +kernel), List.mem_of_getElem? (i := 354) (by decide +kernel)⟩
theorem lw_p14 : lw_okq (⟨"ReadingCircles", "lacksOrder", "(ILReadingCircles$Letter;)Z"⟩, 10) := ⟨⟨by decide +kernel, by decide +kernel⟩, List.mem_of_getElem? (i := 13) (by decide +kernel), List.mem_of_getElem? (i := 361) (by decide +kernel), List.mem_of_getElem? (i := 362) (by decide +kernel)⟩
theorem lw_p15 : lw_okq (⟨"ReadingCircles", "lacksLowerPlace", "(ILReadingCircles$Letter;)Z"⟩, 10) := ⟨⟨by decide +kernel, by decide +kernel⟩, List.mem_of_getElem? (i := 13) (by decide +kernel), List.mem_of_getElem? (i := 365) (by decide +kernel), List.mem_of_getElem? (i := 366) (by decide +kernel)⟩
def lw_privs_1 : List (MethodName × Nat) := [(⟨"ReadingCircles", "refuse", "(I)I"⟩, 10), (⟨"ReadingCircles", "done", "(I)I"⟩, 10), (⟨"ReadingCircles", "writeByCall", "(IIII)I"⟩, 10), (⟨"ReadingCircles", "isMember", "(I)Z"⟩, 10), (⟨"ReadingCircles", "isCircle", "(I)Z"⟩, 10), (⟨"ReadingCircles", "mayAnswer", "(II)Z"⟩, 10), (⟨"ReadingCircles", "isLetter", "(I)Z"⟩, 10), (⟨"ReadingCircles", "clockNow", "(I)LReadingCircles$Clock;"⟩, 10), (⟨"ReadingCircles", "send", "(LReadingCircles$Letter;)V"⟩, 10), (⟨"ReadingCircles$Member", "takeSlot", "(LReadingCircles$Letter;)V"⟩, 10), (⟨"ReadingCircles", "giveAll", "(I)I"⟩, 10), (⟨"ReadingCircles", "canGive", "(ILReadingCircles$Letter;)Z"⟩, 10), (⟨"ReadingCircles", "firstLack", "(ILReadingCircles$Letter;)I"⟩, 10), (⟨"ReadingCircles", "firstLackIn", "(ILReadingCircles$Letter;I)I"⟩, 10), (⟨"ReadingCircles", "lacksOrder", "(ILReadingCircles$Letter;)Z"⟩, 10), (⟨"ReadingCircles", "lacksLowerPlace", "(ILReadingCircles$Letter;)Z"⟩, 10)]
theorem lw_r1 : ∀ q ∈ lw_privs_1, lw_okq q := List.forall_mem_cons.mpr ⟨lw_p0, List.forall_mem_cons.mpr ⟨lw_p1, List.forall_mem_cons.mpr ⟨lw_p2, List.forall_mem_cons.mpr ⟨lw_p3, List.forall_mem_cons.mpr ⟨lw_p4, List.forall_mem_cons.mpr ⟨lw_p5, List.forall_mem_cons.mpr ⟨lw_p6, List.forall_mem_cons.mpr ⟨lw_p7, List.forall_mem_cons.mpr ⟨lw_p8, List.forall_mem_cons.mpr ⟨lw_p9, List.forall_mem_cons.mpr ⟨lw_p10, List.forall_mem_cons.mpr ⟨lw_p11, List.forall_mem_cons.mpr ⟨lw_p12, List.forall_mem_cons.mpr ⟨lw_p13, List.forall_mem_cons.mpr ⟨lw_p14, List.forall_mem_cons.mpr ⟨lw_p15, fun _ h => absurd h List.not_mem_nil⟩⟩⟩⟩⟩⟩⟩⟩⟩⟩⟩⟩⟩⟩⟩⟩
theorem lw_p16 : lw_okq (⟨"ReadingCircles$Member", "dropHeld", "(LReadingCircles$Letter;)V"⟩, 10) := ⟨⟨by decide +kernel, by decide +kernel⟩, List.mem_of_getElem? (i := 80) (by decide +kernel), List.mem_of_getElem? (i := 373) (by decide +kernel), List.mem_of_getElem? (i := 374) (by decide +kernel)⟩
theorem lw_p17 : lw_okq (⟨"ReadingCircles$Member", "leaveSlot", "(LReadingCircles$Letter;)V"⟩, 10) := ⟨⟨by decide +kernel, by decide +kernel⟩, List.mem_of_getElem? (i := 80) (by decide +kernel), List.mem_of_getElem? (i := 377) (by decide +kernel), List.mem_of_getElem? (i := 378) (by decide +kernel)⟩
theorem lw_p18 : lw_okq (⟨"ReadingCircles", "writeOrderIfDue", "(ILReadingCircles$Letter;)V"⟩, 10) := ⟨⟨by decide +kernel, by decide +kernel⟩, List.mem_of_getElem? (i := 13) (by decide +kernel), List.mem_of_getElem? (i := 383) (by decide +kernel), List.mem_of_getElem? (i := 384) (by decide +kernel)⟩
theorem lw_p19 : lw_okq (⟨"ReadingCircles", "bring", "(LReadingCircles$Letter;I)I"⟩, 10) := ⟨⟨by decide +kernel, by decide +kernel⟩, List.mem_of_getElem? (i := 13) (by decide +kernel), List.mem_of_getElem? (i := 403) (by decide +kernel), List.mem_of_getElem? (i := 404) (by decide +kernel)⟩
theorem lw_p20 : lw_okq (⟨"ReadingCircles", "nextOnLine", "(II)LReadingCircles$Letter;"⟩, 10) := ⟨⟨by decide +kernel, by decide +kernel⟩, List.mem_of_getElem? (i := 13) (by decide +kernel), List.mem_of_getElem? (i := 411) (by decide +kernel), List.mem_of_getElem? (i := 412) (by decide +kernel)⟩
theorem lw_p21 : lw_okq (⟨"ReadingCircles", "isCalm", "(I)Z"⟩, 10) := ⟨⟨by decide +kernel, by decide +kernel⟩, List.mem_of_getElem? (i := 13) (by decide +kernel), List.mem_of_getElem? (i := 427) (by decide +kernel), List.mem_of_getElem? (i := 428) (by decide +kernel)⟩
theorem lw_p22 : lw_okq (⟨"ReadingCircles", "standing", "(ILReadingCircles$Letter;)I"⟩, 10) := ⟨⟨by decide +kernel, by decide +kernel⟩, List.mem_of_getElem? (i := 13) (by decide +kernel), List.mem_of_getElem? (i := 435) (by decide +kernel), List.mem_of_getElem? (i := 436) (by decide +kernel)⟩
theorem lw_p23 : lw_okq (⟨"ReadingCircles", "whySealed", "(ILReadingCircles$Letter;I)I"⟩, 10) := ⟨⟨by decide +kernel, by decide +kernel⟩, List.mem_of_getElem? (i := 13) (by decide +kernel), List.mem_of_getElem? (i := 451) (by decide +kernel), List.mem_of_getElem? (i := 452) (by decide +kernel)⟩
theorem lw_p24 : lw_okq (⟨"ReadingCircles", "longestRowTo", "(II)I"⟩, 10) := ⟨⟨by decide +kernel, by decide +kernel⟩, List.mem_of_getElem? (i := 13) (by decide +kernel), List.mem_of_getElem? (i := 485) (by decide +kernel), List.mem_of_getElem? (i := 486) (by decide +kernel)⟩
theorem lw_p25 : lw_okq (⟨"ReadingCircles", "forgeSerial", "(LReadingCircles$Thing;I)I"⟩, 10) := ⟨⟨by decide +kernel, by decide +kernel⟩, List.mem_of_getElem? (i := 13) (by decide +kernel), List.mem_of_getElem? (i := 530) (by decide +kernel), List.mem_of_getElem? (i := 531) (by decide +kernel)⟩
theorem lw_p26 : lw_okq (⟨"ReadingCircles", "forgeCount", "(LReadingCircles$Thing;I)I"⟩, 10) := ⟨⟨by decide +kernel, by decide +kernel⟩, List.mem_of_getElem? (i := 13) (by decide +kernel), List.mem_of_getElem? (i := 540) (by decide +kernel), List.mem_of_getElem? (i := 541) (by decide +kernel)⟩
theorem lw_p27 : lw_okq (⟨"ReadingCircles", "refuseAsClock", "(LReadingCircles$Thing;)I"⟩, 10) := ⟨⟨by decide +kernel, by decide +kernel⟩, List.mem_of_getElem? (i := 13) (by decide +kernel), List.mem_of_getElem? (i := 551) (by decide +kernel), List.mem_of_getElem? (i := 552) (by decide +kernel)⟩
theorem lw_p28 : lw_okq (⟨"ReadingCircles", "forgeRowSum", "(LReadingCircles$Thing;I)I"⟩, 10) := ⟨⟨by decide +kernel, by decide +kernel⟩, List.mem_of_getElem? (i := 13) (by decide +kernel), List.mem_of_getElem? (i := 555) (by decide +kernel), List.mem_of_getElem? (i := 556) (by decide +kernel)⟩
theorem lw_p29 : lw_okq (⟨"ReadingCircles", "forgeCopy", "(LReadingCircles$Thing;I)I"⟩, 10) := ⟨⟨by decide +kernel, by decide +kernel⟩, List.mem_of_getElem? (i := 13) (by decide +kernel), List.mem_of_getElem? (i := 562) (by decide +kernel), List.mem_of_getElem? (i := 563) (by decide +kernel)⟩
theorem lw_p30 : lw_okq (⟨"ReadingCircles", "forgeStore", "(LReadingCircles$Thing;)I"⟩, 10) := ⟨⟨by decide +kernel, by decide +kernel⟩, List.mem_of_getElem? (i := 13) (by decide +kernel), List.mem_of_getElem? (i := 566) (by decide +kernel), List.mem_of_getElem? (i := 567) (by decide +kernel)⟩
theorem lw_p31 : lw_okq (⟨"ReadingCirclesModel", "refused", "(I)I"⟩, 28) := ⟨⟨by decide +kernel, by decide +kernel⟩, List.mem_of_getElem? (i := 574) (by decide +kernel), List.mem_of_getElem? (i := 671) (by decide +kernel), List.mem_of_getElem? (i := 672) (by decide +kernel)⟩
def lw_privs_2 : List (MethodName × Nat) := [(⟨"ReadingCircles$Member", "dropHeld", "(LReadingCircles$Letter;)V"⟩, 10), (⟨"ReadingCircles$Member", "leaveSlot", "(LReadingCircles$Letter;)V"⟩, 10), (⟨"ReadingCircles", "writeOrderIfDue", "(ILReadingCircles$Letter;)V"⟩, 10), (⟨"ReadingCircles", "bring", "(LReadingCircles$Letter;I)I"⟩, 10), (⟨"ReadingCircles", "nextOnLine", "(II)LReadingCircles$Letter;"⟩, 10), (⟨"ReadingCircles", "isCalm", "(I)Z"⟩, 10), (⟨"ReadingCircles", "standing", "(ILReadingCircles$Letter;)I"⟩, 10), (⟨"ReadingCircles", "whySealed", "(ILReadingCircles$Letter;I)I"⟩, 10), (⟨"ReadingCircles", "longestRowTo", "(II)I"⟩, 10), (⟨"ReadingCircles", "forgeSerial", "(LReadingCircles$Thing;I)I"⟩, 10), (⟨"ReadingCircles", "forgeCount", "(LReadingCircles$Thing;I)I"⟩, 10), (⟨"ReadingCircles", "refuseAsClock", "(LReadingCircles$Thing;)I"⟩, 10), (⟨"ReadingCircles", "forgeRowSum", "(LReadingCircles$Thing;I)I"⟩, 10), (⟨"ReadingCircles", "forgeCopy", "(LReadingCircles$Thing;I)I"⟩, 10), (⟨"ReadingCircles", "forgeStore", "(LReadingCircles$Thing;)I"⟩, 10), (⟨"ReadingCirclesModel", "refused", "(I)I"⟩, 28)]
theorem lw_r2 : ∀ q ∈ lw_privs_2, lw_okq q := List.forall_mem_cons.mpr ⟨lw_p16, List.forall_mem_cons.mpr ⟨lw_p17, List.forall_mem_cons.mpr ⟨lw_p18, List.forall_mem_cons.mpr ⟨lw_p19, List.forall_mem_cons.mpr ⟨lw_p20, List.forall_mem_cons.mpr ⟨lw_p21, List.forall_mem_cons.mpr ⟨lw_p22, List.forall_mem_cons.mpr ⟨lw_p23, List.forall_mem_cons.mpr ⟨lw_p24, List.forall_mem_cons.mpr ⟨lw_p25, List.forall_mem_cons.mpr ⟨lw_p26, List.forall_mem_cons.mpr ⟨lw_p27, List.forall_mem_cons.mpr ⟨lw_p28, List.forall_mem_cons.mpr ⟨lw_p29, List.forall_mem_cons.mpr ⟨lw_p30, List.forall_mem_cons.mpr ⟨lw_p31, fun _ h => absurd h List.not_mem_nil⟩⟩⟩⟩⟩⟩⟩⟩⟩⟩⟩⟩⟩⟩⟩⟩
theorem lw_p32 : lw_okq (⟨"ReadingCirclesModel", "done", "(I)I"⟩, 28) := ⟨⟨by decide +kernel, by decide +kernel⟩, List.mem_of_getElem? (i := 574) (by decide +kernel), List.mem_of_getElem? (i := 675) (by decide +kernel), List.mem_of_getElem? (i := 676) (by decide +kernel)⟩
theorem lw_p33 : lw_okq (⟨"ReadingCirclesModel", "call", "(IIIIZ)I"⟩, 28) := ⟨⟨by decide +kernel, by decide +kernel⟩, List.mem_of_getElem? (i := 574) (by decide +kernel), List.mem_of_getElem? (i := 687) (by decide +kernel), List.mem_of_getElem? (i := 688) (by decide +kernel)⟩
theorem lw_p34 : lw_okq (⟨"ReadingCirclesModel", "isMember", "(I)Z"⟩, 28) := ⟨⟨by decide +kernel, by decide +kernel⟩, List.mem_of_getElem? (i := 574) (by decide +kernel), List.mem_of_getElem? (i := 691) (by decide +kernel), List.mem_of_getElem? (i := 692) (by decide +kernel)⟩
theorem lw_p35 : lw_okq (⟨"ReadingCirclesModel", "isCircle", "(I)Z"⟩, 28) := ⟨⟨by decide +kernel, by decide +kernel⟩, List.mem_of_getElem? (i := 574) (by decide +kernel), List.mem_of_getElem? (i := 698) (by decide +kernel), List.mem_of_getElem? (i := 699) (by decide +kernel)⟩
theorem lw_p36 : lw_okq (⟨"ReadingCirclesModel", "isIn", "(II)Z"⟩, 28) := ⟨⟨by decide +kernel, by decide +kernel⟩, List.mem_of_getElem? (i := 574) (by decide +kernel), List.mem_of_getElem? (i := 702) (by decide +kernel), List.mem_of_getElem? (i := 703) (by decide +kernel)⟩
theorem lw_p37 : lw_okq (⟨"ReadingCirclesModel", "made", "(IIII)I"⟩, 28) := ⟨⟨by decide +kernel, by decide +kernel⟩, List.mem_of_getElem? (i := 574) (by decide +kernel), List.mem_of_getElem? (i := 706) (by decide +kernel), List.mem_of_getElem? (i := 707) (by decide +kernel)⟩
theorem lw_p38 : lw_okq (⟨"ReadingCirclesModel", "counts", "(III)V"⟩, 28) := ⟨⟨by decide +kernel, by decide +kernel⟩, List.mem_of_getElem? (i := 574) (by decide +kernel), List.mem_of_getElem? (i := 710) (by decide +kernel), List.mem_of_getElem? (i := 711) (by decide +kernel)⟩
theorem lw_p39 : lw_okq (⟨"ReadingCirclesModel", "goes", "(I)V"⟩, 28) := ⟨⟨by decide +kernel, by decide +kernel⟩, List.mem_of_getElem? (i := 574) (by decide +kernel), List.mem_of_getElem? (i := 714) (by decide +kernel), List.mem_of_getElem? (i := 715) (by decide +kernel)⟩
theorem lw_p40 : lw_okq (⟨"ReadingCirclesModel", "holds", "(II)V"⟩, 28) := ⟨⟨by decide +kernel, by decide +kernel⟩, List.mem_of_getElem? (i := 574) (by decide +kernel), List.mem_of_getElem? (i := 718) (by decide +kernel), List.mem_of_getElem? (i := 719) (by decide +kernel)⟩
theorem lw_p41 : lw_okq (⟨"ReadingCirclesModel", "gives", "(I)I"⟩, 28) := ⟨⟨by decide +kernel, by decide +kernel⟩, List.mem_of_getElem? (i := 574) (by decide +kernel), List.mem_of_getElem? (i := 722) (by decide +kernel), List.mem_of_getElem? (i := 723) (by decide +kernel)⟩
theorem lw_p42 : lw_okq (⟨"ReadingCirclesModel", "next", "(I)I"⟩, 28) := ⟨⟨by decide +kernel, by decide +kernel⟩, List.mem_of_getElem? (i := 574) (by decide +kernel), List.mem_of_getElem? (i := 726) (by decide +kernel), List.mem_of_getElem? (i := 727) (by decide +kernel)⟩
theorem lw_p43 : lw_okq (⟨"ReadingCirclesModel", "canGive", "(II)Z"⟩, 28) := ⟨⟨by decide +kernel, by decide +kernel⟩, List.mem_of_getElem? (i := 574) (by decide +kernel), List.mem_of_getElem? (i := 730) (by decide +kernel), List.mem_of_getElem? (i := 731) (by decide +kernel)⟩
theorem lw_p44 : lw_okq (⟨"ReadingCirclesModel", "lacking", "(II)I"⟩, 28) := ⟨⟨by decide +kernel, by decide +kernel⟩, List.mem_of_getElem? (i := 574) (by decide +kernel), List.mem_of_getElem? (i := 734) (by decide +kernel), List.mem_of_getElem? (i := 735) (by decide +kernel)⟩
theorem lw_p45 : lw_okq (⟨"ReadingCirclesModel", "lacks", "(IIII)I"⟩, 28) := ⟨⟨by decide +kernel, by decide +kernel⟩, List.mem_of_getElem? (i := 574) (by decide +kernel), List.mem_of_getElem? (i := 738) (by decide +kernel), List.mem_of_getElem? (i := 739) (by decide +kernel)⟩
theorem lw_p46 : lw_okq (⟨"ReadingCirclesModel", "eldest", "(I)I"⟩, 28) := ⟨⟨by decide +kernel, by decide +kernel⟩, List.mem_of_getElem? (i := 574) (by decide +kernel), List.mem_of_getElem? (i := 742) (by decide +kernel), List.mem_of_getElem? (i := 743) (by decide +kernel)⟩
theorem lw_p47 : lw_okq (⟨"ReadingCirclesModel", "hasOrder", "(II)Z"⟩, 28) := ⟨⟨by decide +kernel, by decide +kernel⟩, List.mem_of_getElem? (i := 574) (by decide +kernel), List.mem_of_getElem? (i := 746) (by decide +kernel), List.mem_of_getElem? (i := 747) (by decide +kernel)⟩
def lw_privs_3 : List (MethodName × Nat) := [(⟨"ReadingCirclesModel", "done", "(I)I"⟩, 28), (⟨"ReadingCirclesModel", "call", "(IIIIZ)I"⟩, 28), (⟨"ReadingCirclesModel", "isMember", "(I)Z"⟩, 28), (⟨"ReadingCirclesModel", "isCircle", "(I)Z"⟩, 28), (⟨"ReadingCirclesModel", "isIn", "(II)Z"⟩, 28), (⟨"ReadingCirclesModel", "made", "(IIII)I"⟩, 28), (⟨"ReadingCirclesModel", "counts", "(III)V"⟩, 28), (⟨"ReadingCirclesModel", "goes", "(I)V"⟩, 28), (⟨"ReadingCirclesModel", "holds", "(II)V"⟩, 28), (⟨"ReadingCirclesModel", "gives", "(I)I"⟩, 28), (⟨"ReadingCirclesModel", "next", "(I)I"⟩, 28), (⟨"ReadingCirclesModel", "canGive", "(II)Z"⟩, 28), (⟨"ReadingCirclesModel", "lacking", "(II)I"⟩, 28), (⟨"ReadingCirclesModel", "lacks", "(IIII)I"⟩, 28), (⟨"ReadingCirclesModel", "eldest", "(I)I"⟩, 28), (⟨"ReadingCirclesModel", "hasOrder", "(II)Z"⟩, 28)]
theorem lw_r3 : ∀ q ∈ lw_privs_3, lw_okq q := List.forall_mem_cons.mpr ⟨lw_p32, List.forall_mem_cons.mpr ⟨lw_p33, List.forall_mem_cons.mpr ⟨lw_p34, List.forall_mem_cons.mpr ⟨lw_p35, List.forall_mem_cons.mpr ⟨lw_p36, List.forall_mem_cons.mpr ⟨lw_p37, List.forall_mem_cons.mpr ⟨lw_p38, List.forall_mem_cons.mpr ⟨lw_p39, List.forall_mem_cons.mpr ⟨lw_p40, List.forall_mem_cons.mpr ⟨lw_p41, List.forall_mem_cons.mpr ⟨lw_p42, List.forall_mem_cons.mpr ⟨lw_p43, List.forall_mem_cons.mpr ⟨lw_p44, List.forall_mem_cons.mpr ⟨lw_p45, List.forall_mem_cons.mpr ⟨lw_p46, List.forall_mem_cons.mpr ⟨lw_p47, fun _ h => absurd h List.not_mem_nil⟩⟩⟩⟩⟩⟩⟩⟩⟩⟩⟩⟩⟩⟩⟩⟩
theorem lw_p48 : lw_okq (⟨"ReadingCirclesModel", "hasLower", "(II)Z"⟩, 28) := ⟨⟨by decide +kernel, by decide +kernel⟩, List.mem_of_getElem? (i := 574) (by decide +kernel), List.mem_of_getElem? (i := 750) (by decide +kernel), List.mem_of_getElem? (i := 751) (by decide +kernel)⟩
theorem lw_p49 : lw_okq (⟨"ReadingCirclesModel", "give", "(II)V"⟩, 28) := ⟨⟨by decide +kernel, by decide +kernel⟩, List.mem_of_getElem? (i := 574) (by decide +kernel), List.mem_of_getElem? (i := 754) (by decide +kernel), List.mem_of_getElem? (i := 755) (by decide +kernel)⟩
theorem lw_p50 : lw_okq (⟨"ReadingCirclesModel", "isLetter", "(I)Z"⟩, 28) := ⟨⟨by decide +kernel, by decide +kernel⟩, List.mem_of_getElem? (i := 574) (by decide +kernel), List.mem_of_getElem? (i := 762) (by decide +kernel), List.mem_of_getElem? (i := 763) (by decide +kernel)⟩
theorem lw_p51 : lw_okq (⟨"ReadingCirclesModel", "lined", "(II)I"⟩, 28) := ⟨⟨by decide +kernel, by decide +kernel⟩, List.mem_of_getElem? (i := 574) (by decide +kernel), List.mem_of_getElem? (i := 778) (by decide +kernel), List.mem_of_getElem? (i := 779) (by decide +kernel)⟩
theorem lw_p52 : lw_okq (⟨"ReadingCirclesModel", "lineOf", "(I)I"⟩, 28) := ⟨⟨by decide +kernel, by decide +kernel⟩, List.mem_of_getElem? (i := 574) (by decide +kernel), List.mem_of_getElem? (i := 782) (by decide +kernel), List.mem_of_getElem? (i := 783) (by decide +kernel)⟩
theorem lw_p53 : lw_okq (⟨"ReadingCirclesModel", "countsOf", "(I)I"⟩, 28) := ⟨⟨by decide +kernel, by decide +kernel⟩, List.mem_of_getElem? (i := 574) (by decide +kernel), List.mem_of_getElem? (i := 794) (by decide +kernel), List.mem_of_getElem? (i := 795) (by decide +kernel)⟩
theorem lw_p54 : lw_okq (⟨"ReadingCirclesModel", "isCalm", "(I)Z"⟩, 28) := ⟨⟨by decide +kernel, by decide +kernel⟩, List.mem_of_getElem? (i := 574) (by decide +kernel), List.mem_of_getElem? (i := 802) (by decide +kernel), List.mem_of_getElem? (i := 803) (by decide +kernel)⟩
theorem lw_p55 : lw_okq (⟨"ReadingCirclesModel", "age", "(II)I"⟩, 28) := ⟨⟨by decide +kernel, by decide +kernel⟩, List.mem_of_getElem? (i := 574) (by decide +kernel), List.mem_of_getElem? (i := 842) (by decide +kernel), List.mem_of_getElem? (i := 843) (by decide +kernel)⟩
theorem lw_p56 : lw_okq (⟨"ReadingCirclesModel", "noteAge", "(II)I"⟩, 28) := ⟨⟨by decide +kernel, by decide +kernel⟩, List.mem_of_getElem? (i := 574) (by decide +kernel), List.mem_of_getElem? (i := 846) (by decide +kernel), List.mem_of_getElem? (i := 847) (by decide +kernel)⟩
theorem lw_p57 : lw_okq (⟨"ReadingCirclesModel", "ran", "(I)V"⟩, 28) := ⟨⟨by decide +kernel, by decide +kernel⟩, List.mem_of_getElem? (i := 574) (by decide +kernel), List.mem_of_getElem? (i := 850) (by decide +kernel), List.mem_of_getElem? (i := 851) (by decide +kernel)⟩
theorem lw_p58 : lw_okq (⟨"ReadingCirclesModel", "orderAge", "(II)I"⟩, 28) := ⟨⟨by decide +kernel, by decide +kernel⟩, List.mem_of_getElem? (i := 574) (by decide +kernel), List.mem_of_getElem? (i := 854) (by decide +kernel), List.mem_of_getElem? (i := 855) (by decide +kernel)⟩
theorem lw_p59 : lw_okq (⟨"ReadingCirclesModel", "bear", "(II)I"⟩, 28) := ⟨⟨by decide +kernel, by decide +kernel⟩, List.mem_of_getElem? (i := 574) (by decide +kernel), List.mem_of_getElem? (i := 858) (by decide +kernel), List.mem_of_getElem? (i := 859) (by decide +kernel)⟩
theorem lw_p60 : lw_okq (⟨"ReadingCirclesModel", "noteBear", "(II)I"⟩, 28) := ⟨⟨by decide +kernel, by decide +kernel⟩, List.mem_of_getElem? (i := 574) (by decide +kernel), List.mem_of_getElem? (i := 862) (by decide +kernel), List.mem_of_getElem? (i := 863) (by decide +kernel)⟩
theorem lw_p61 : lw_okq (⟨"ReadingCirclesModel", "giveOf", "(II)I"⟩, 28) := ⟨⟨by decide +kernel, by decide +kernel⟩, List.mem_of_getElem? (i := 574) (by decide +kernel), List.mem_of_getElem? (i := 866) (by decide +kernel), List.mem_of_getElem? (i := 867) (by decide +kernel)⟩
theorem lw_p62 : lw_okq (⟨"ReadingCirclesModel", "noteGive", "(II)I"⟩, 28) := ⟨⟨by decide +kernel, by decide +kernel⟩, List.mem_of_getElem? (i := 574) (by decide +kernel), List.mem_of_getElem? (i := 870) (by decide +kernel), List.mem_of_getElem? (i := 871) (by decide +kernel)⟩
theorem lw_p63 : lw_okq (⟨"ReadingCirclesModel", "waitOf", "(II)I"⟩, 28) := ⟨⟨by decide +kernel, by decide +kernel⟩, List.mem_of_getElem? (i := 574) (by decide +kernel), List.mem_of_getElem? (i := 874) (by decide +kernel), List.mem_of_getElem? (i := 875) (by decide +kernel)⟩
def lw_privs_4 : List (MethodName × Nat) := [(⟨"ReadingCirclesModel", "hasLower", "(II)Z"⟩, 28), (⟨"ReadingCirclesModel", "give", "(II)V"⟩, 28), (⟨"ReadingCirclesModel", "isLetter", "(I)Z"⟩, 28), (⟨"ReadingCirclesModel", "lined", "(II)I"⟩, 28), (⟨"ReadingCirclesModel", "lineOf", "(I)I"⟩, 28), (⟨"ReadingCirclesModel", "countsOf", "(I)I"⟩, 28), (⟨"ReadingCirclesModel", "isCalm", "(I)Z"⟩, 28), (⟨"ReadingCirclesModel", "age", "(II)I"⟩, 28), (⟨"ReadingCirclesModel", "noteAge", "(II)I"⟩, 28), (⟨"ReadingCirclesModel", "ran", "(I)V"⟩, 28), (⟨"ReadingCirclesModel", "orderAge", "(II)I"⟩, 28), (⟨"ReadingCirclesModel", "bear", "(II)I"⟩, 28), (⟨"ReadingCirclesModel", "noteBear", "(II)I"⟩, 28), (⟨"ReadingCirclesModel", "giveOf", "(II)I"⟩, 28), (⟨"ReadingCirclesModel", "noteGive", "(II)I"⟩, 28), (⟨"ReadingCirclesModel", "waitOf", "(II)I"⟩, 28)]
theorem lw_r4 : ∀ q ∈ lw_privs_4, lw_okq q := List.forall_mem_cons.mpr ⟨lw_p48, List.forall_mem_cons.mpr ⟨lw_p49, List.forall_mem_cons.mpr ⟨lw_p50, List.forall_mem_cons.mpr ⟨lw_p51, List.forall_mem_cons.mpr ⟨lw_p52, List.forall_mem_cons.mpr ⟨lw_p53, List.forall_mem_cons.mpr ⟨lw_p54, List.forall_mem_cons.mpr ⟨lw_p55, List.forall_mem_cons.mpr ⟨lw_p56, List.forall_mem_cons.mpr ⟨lw_p57, List.forall_mem_cons.mpr ⟨lw_p58, List.forall_mem_cons.mpr ⟨lw_p59, List.forall_mem_cons.mpr ⟨lw_p60, List.forall_mem_cons.mpr ⟨lw_p61, List.forall_mem_cons.mpr ⟨lw_p62, List.forall_mem_cons.mpr ⟨lw_p63, fun _ h => absurd h List.not_mem_nil⟩⟩⟩⟩⟩⟩⟩⟩⟩⟩⟩⟩⟩⟩⟩⟩
theorem lw_p64 : lw_okq (⟨"ReadingCirclesModel", "noteWait", "(II)I"⟩, 28) := ⟨⟨by decide +kernel, by decide +kernel⟩, List.mem_of_getElem? (i := 574) (by decide +kernel), List.mem_of_getElem? (i := 878) (by decide +kernel), List.mem_of_getElem? (i := 879) (by decide +kernel)⟩
theorem lw_p65 : lw_okq (⟨"ReadingCirclesModel", "letterTaken", "(III)I"⟩, 28) := ⟨⟨by decide +kernel, by decide +kernel⟩, List.mem_of_getElem? (i := 574) (by decide +kernel), List.mem_of_getElem? (i := 898) (by decide +kernel), List.mem_of_getElem? (i := 899) (by decide +kernel)⟩
theorem lw_p66 : lw_okq (⟨"ReadingCirclesModel", "clockTaken", "(III)I"⟩, 28) := ⟨⟨by decide +kernel, by decide +kernel⟩, List.mem_of_getElem? (i := 574) (by decide +kernel), List.mem_of_getElem? (i := 908) (by decide +kernel), List.mem_of_getElem? (i := 909) (by decide +kernel)⟩
theorem lw_p67 : lw_okq (⟨"ReadingCirclesModel", "firstRow", "(I)I"⟩, 28) := ⟨⟨by decide +kernel, by decide +kernel⟩, List.mem_of_getElem? (i := 574) (by decide +kernel), List.mem_of_getElem? (i := 912) (by decide +kernel), List.mem_of_getElem? (i := 913) (by decide +kernel)⟩
theorem lw_p68 : lw_okq (⟨"ReadingCirclesModel", "sumOf", "(IIII)I"⟩, 28) := ⟨⟨by decide +kernel, by decide +kernel⟩, List.mem_of_getElem? (i := 574) (by decide +kernel), List.mem_of_getElem? (i := 916) (by decide +kernel), List.mem_of_getElem? (i := 917) (by decide +kernel)⟩
def lw_privs_5 : List (MethodName × Nat) := [(⟨"ReadingCirclesModel", "noteWait", "(II)I"⟩, 28), (⟨"ReadingCirclesModel", "letterTaken", "(III)I"⟩, 28), (⟨"ReadingCirclesModel", "clockTaken", "(III)I"⟩, 28), (⟨"ReadingCirclesModel", "firstRow", "(I)I"⟩, 28), (⟨"ReadingCirclesModel", "sumOf", "(IIII)I"⟩, 28)]
theorem lw_r5 : ∀ q ∈ lw_privs_5, lw_okq q := List.forall_mem_cons.mpr ⟨lw_p64, List.forall_mem_cons.mpr ⟨lw_p65, List.forall_mem_cons.mpr ⟨lw_p66, List.forall_mem_cons.mpr ⟨lw_p67, List.forall_mem_cons.mpr ⟨lw_p68, fun _ h => absurd h List.not_mem_nil⟩⟩⟩⟩⟩
def lw_privs : List (MethodName × Nat) := lw_privs_1 ++ (lw_privs_2 ++ (lw_privs_3 ++ (lw_privs_4 ++ (lw_privs_5))))
def lw_tbl : List Cond := k2_sels lw_privs ++ tables_1
theorem lw_privs_ok : ∀ q ∈ lw_privs, lw_okq q := by
  show ∀ q ∈ lw_privs_1 ++ (lw_privs_2 ++ (lw_privs_3 ++ (lw_privs_4 ++ (lw_privs_5)))), lw_okq q
  exact List.forall_mem_append.mpr ⟨lw_r1, List.forall_mem_append.mpr ⟨lw_r2, List.forall_mem_append.mpr ⟨lw_r3, List.forall_mem_append.mpr ⟨lw_r4, lw_r5⟩⟩⟩⟩
end
section
abbrev zv_M : Type := MethodName × ByteArray × Nat × Option FieldType
def RX0 : String := "ReadingCircles$Circle"
def TX0 : u_T := fun k => match k with
  | 0 => ("ReadingCircles$Circle", "bits", "I", true)
  | 1 => ("ReadingCircles$Circle", "eldest", "I", true)
  | _ => ("ReadingCircles$Circle", "places", "I", false)
def tyX0 : Nat → FieldType := fun k => match k with
  | 0 => .int
  | 1 => .int
  | _ => .int
abbrev wsX00 : List Cond := u_ws RX0 TX0 3
theorem nmX0 : ∀ a, a < 3 → ∀ b, b < 3 → a ≠ b → (TX0 a).2.1 ≠ (TX0 b).2.1 := by decide +kernel
theorem tyX0_ok : ∀ k, k < 3 → parseFieldDescriptor (TX0 k).2.2.1 = some (tyX0 k) := by decide +kernel
abbrev cX0_init : ByteArray := prog_2_method_1_code
def yX0_init : MethodName := ⟨RX0, "<init>", "(II)V"⟩
def RX1 : String := "ReadingCircles$Clock"
def TX1 : u_T := fun k => match k with
  | 0 => ("ReadingCircles$Clock", "rows", "[[I", true)
  | _ => ("ReadingCircles$Clock", "counts", "I", false)
def tyX1 : Nat → FieldType := fun k => match k with
  | 0 => .array (.array .int)
  | _ => .int
abbrev wsX10 : List Cond := u_ws RX1 TX1 2
theorem nmX1 : ∀ a, a < 2 → ∀ b, b < 2 → a ≠ b → (TX1 a).2.1 ≠ (TX1 b).2.1 := by decide +kernel
theorem tyX1_ok : ∀ k, k < 2 → parseFieldDescriptor (TX1 k).2.2.1 = some (tyX1 k) := by decide +kernel
abbrev cX1_init : ByteArray := prog_3_method_1_code
def yX1_init : MethodName := ⟨RX1, "<init>", "()V"⟩
abbrev cX1_addRow : ByteArray := prog_3_method_2_code
def yX1_addRow : MethodName := ⟨RX1, "addRow", "(I[II)V"⟩
abbrev cX1_rowAt : ByteArray := prog_3_method_3_code
def yX1_rowAt : MethodName := ⟨RX1, "rowAt", "(I)[I"⟩
abbrev cX1_firstRow : ByteArray := prog_3_method_4_code
def yX1_firstRow : MethodName := ⟨RX1, "firstRow", "()[I"⟩
abbrev cX1_sameCounts : ByteArray := prog_3_method_5_code
def yX1_sameCounts : MethodName := ⟨RX1, "sameCounts", "(LReadingCircles$Clock;[LReadingCircles$Circle;)I"⟩
abbrev cX1_sameInRow : ByteArray := prog_3_method_6_code
def yX1_sameInRow : MethodName := ⟨RX1, "sameInRow", "([I[II)I"⟩
def RX2 : String := "ReadingCircles$Letter"
def TX2 : u_T := fun k => match k with
  | 0 => ("ReadingCircles$Letter", "number", "I", true)
  | 1 => ("ReadingCircles$Letter", "kind", "I", true)
  | 2 => ("ReadingCircles$Letter", "circle", "I", true)
  | 3 => ("ReadingCircles$Letter", "writer", "I", true)
  | 4 => ("ReadingCircles$Letter", "serial", "I", true)
  | 5 => ("ReadingCircles$Letter", "answered", "I", true)
  | 6 => ("ReadingCircles$Letter", "clock", "LReadingCircles$Clock;", true)
  | 7 => ("ReadingCircles$Letter", "before", "LReadingCircles$NumberSet;", true)
  | 8 => ("ReadingCircles$Letter", "place", "I", false)
  | 9 => ("ReadingCircles$Letter", "order", "I", false)
  | 10 => ("ReadingCircles$Letter", "saved", "I", false)
  | 11 => ("ReadingCircles$Letter", "lineBits", "I", false)
  | _ => ("ReadingCircles$Letter", "givenBits", "I", false)
def tyX2 : Nat → FieldType := fun k => match k with
  | 0 => .int
  | 1 => .int
  | 2 => .int
  | 3 => .int
  | 4 => .int
  | 5 => .int
  | 6 => .object "ReadingCircles$Clock"
  | 7 => .object "ReadingCircles$NumberSet"
  | 8 => .int
  | 9 => .int
  | 10 => .int
  | 11 => .int
  | _ => .int
abbrev wsX20 : List Cond := u_ws RX2 TX2 13
theorem nmX2 : ∀ a, a < 13 → ∀ b, b < 13 → a ≠ b → (TX2 a).2.1 ≠ (TX2 b).2.1 := by decide +kernel
theorem tyX2_ok : ∀ k, k < 13 → parseFieldDescriptor (TX2 k).2.2.1 = some (tyX2 k) := by decide +kernel
abbrev cX2_init : ByteArray := prog_4_method_1_code
def yX2_init : MethodName := ⟨RX2, "<init>", "(IIIIIILReadingCircles$Clock;)V"⟩
abbrev cX2_isOnLineTo : ByteArray := prog_4_method_2_code
def yX2_isOnLineTo : MethodName := ⟨RX2, "isOnLineTo", "(I)Z"⟩
abbrev cX2_isGivenBy : ByteArray := prog_4_method_3_code
def yX2_isGivenBy : MethodName := ⟨RX2, "isGivenBy", "(I)Z"⟩
abbrev cX2_needed : ByteArray := prog_4_method_4_code
def yX2_needed : MethodName := ⟨RX2, "needed", "(II)I"⟩
def RX3 : String := "ReadingCircles$Member"
def TX3 : u_T := fun k => match k with
  | 0 => ("ReadingCircles$Member", "givenCounts", "[[I", true)
  | 1 => ("ReadingCircles$Member", "writtenCounts", "[I", true)
  | 2 => ("ReadingCircles$Member", "sealedGiven", "[I", true)
  | 3 => ("ReadingCircles$Member", "latestClocks", "[LReadingCircles$Clock;", true)
  | 4 => ("ReadingCircles$Member", "readLetters", "[I", true)
  | 5 => ("ReadingCircles$Member", "held", "[LReadingCircles$Letter;", true)
  | 6 => ("ReadingCircles$Member", "slots", "[LReadingCircles$Thing;", true)
  | 7 => ("ReadingCircles$Member", "known", "LReadingCircles$NumberSet;", true)
  | 8 => ("ReadingCircles$Member", "readCount", "I", false)
  | _ => ("ReadingCircles$Member", "heldCount", "I", false)
def tyX3 : Nat → FieldType := fun k => match k with
  | 0 => .array (.array .int)
  | 1 => .array .int
  | 2 => .array .int
  | 3 => .array (.object "ReadingCircles$Clock")
  | 4 => .array .int
  | 5 => .array (.object "ReadingCircles$Letter")
  | 6 => .array (.object "ReadingCircles$Thing")
  | 7 => .object "ReadingCircles$NumberSet"
  | 8 => .int
  | _ => .int
abbrev wsX30 : List Cond := u_ws RX3 TX3 10
theorem nmX3 : ∀ a, a < 10 → ∀ b, b < 10 → a ≠ b → (TX3 a).2.1 ≠ (TX3 b).2.1 := by decide +kernel
theorem tyX3_ok : ∀ k, k < 10 → parseFieldDescriptor (TX3 k).2.2.1 = some (tyX3 k) := by decide +kernel
abbrev cX3_init : ByteArray := prog_5_method_1_code
def yX3_init : MethodName := ⟨RX3, "<init>", "()V"⟩
abbrev cX3_nextSerial : ByteArray := prog_5_method_2_code
def yX3_nextSerial : MethodName := ⟨RX3, "nextSerial", "(I)I"⟩
abbrev cX3_hold : ByteArray := prog_5_method_3_code
def yX3_hold : MethodName := ⟨RX3, "hold", "(LReadingCircles$Letter;)V"⟩
abbrev cX3_takeSlot : ByteArray := prog_5_method_4_code
def yX3_takeSlot : MethodName := ⟨RX3, "takeSlot", "(LReadingCircles$Letter;)V"⟩
abbrev cX3_release : ByteArray := prog_5_method_5_code
def yX3_release : MethodName := ⟨RX3, "release", "(LReadingCircles$Letter;)V"⟩
abbrev cX3_dropHeld : ByteArray := prog_5_method_6_code
def yX3_dropHeld : MethodName := ⟨RX3, "dropHeld", "(LReadingCircles$Letter;)V"⟩
abbrev cX3_leaveSlot : ByteArray := prog_5_method_7_code
def yX3_leaveSlot : MethodName := ⟨RX3, "leaveSlot", "(LReadingCircles$Letter;)V"⟩
def RX4 : String := "ReadingCircles$NumberSet"
def TX4 : u_T := fun k => match k with
  | _ => ("ReadingCircles$NumberSet", "words", "[J", true)
def tyX4 : Nat → FieldType := fun k => match k with
  | _ => .array .long
abbrev wsX40 : List Cond := u_ws RX4 TX4 1
theorem nmX4 : ∀ a, a < 1 → ∀ b, b < 1 → a ≠ b → (TX4 a).2.1 ≠ (TX4 b).2.1 := by decide +kernel
theorem tyX4_ok : ∀ k, k < 1 → parseFieldDescriptor (TX4 k).2.2.1 = some (tyX4 k) := by decide +kernel
abbrev cX4_init : ByteArray := prog_6_method_1_code
def yX4_init : MethodName := ⟨RX4, "<init>", "()V"⟩
abbrev cX4_add : ByteArray := prog_6_method_2_code
def yX4_add : MethodName := ⟨RX4, "add", "(I)V"⟩
abbrev cX4_addAll : ByteArray := prog_6_method_3_code
def yX4_addAll : MethodName := ⟨RX4, "addAll", "(LReadingCircles$NumberSet;)V"⟩
abbrev cX4_has : ByteArray := prog_6_method_4_code
def yX4_has : MethodName := ⟨RX4, "has", "(I)Z"⟩
abbrev cX4_size : ByteArray := prog_6_method_5_code
def yX4_size : MethodName := ⟨RX4, "size", "()I"⟩
def RX5 : String := "ReadingCircles$Thing"
def TX5 : u_T := fun k => match k with
  | _ => ("", "", "", false)
def tyX5 : Nat → FieldType := fun k => match k with
  | _ => .int
abbrev wsX50 : List Cond := u_ws RX5 TX5 0
theorem nmX5 : ∀ a, a < 0 → ∀ b, b < 0 → a ≠ b → (TX5 a).2.1 ≠ (TX5 b).2.1 := by decide +kernel
theorem tyX5_ok : ∀ k, k < 0 → parseFieldDescriptor (TX5 k).2.2.1 = some (tyX5 k) := by decide +kernel
def RX6 : String := "ReadingCircles$Trace"
def TX6 : u_T := fun k => match k with
  | 0 => ("ReadingCircles$Trace", "bodies", "[I", true)
  | _ => ("ReadingCircles$Trace", "begun", "I", false)
def tyX6 : Nat → FieldType := fun k => match k with
  | 0 => .array .int
  | _ => .int
abbrev wsX60 : List Cond := u_ws RX6 TX6 2
theorem nmX6 : ∀ a, a < 2 → ∀ b, b < 2 → a ≠ b → (TX6 a).2.1 ≠ (TX6 b).2.1 := by decide +kernel
theorem tyX6_ok : ∀ k, k < 2 → parseFieldDescriptor (TX6 k).2.2.1 = some (tyX6 k) := by decide +kernel
abbrev cX6_init : ByteArray := prog_8_method_1_code
def yX6_init : MethodName := ⟨RX6, "<init>", "()V"⟩
abbrev cX6_begin : ByteArray := prog_8_method_2_code
def yX6_begin : MethodName := ⟨RX6, "begin", "(I)V"⟩
abbrev cX6_bodyAt : ByteArray := prog_8_method_3_code
def yX6_bodyAt : MethodName := ⟨RX6, "bodyAt", "(I)I"⟩
def RX7 : String := "ReadingCircles"
def TX7 : u_T := fun k => match k with
  | 0 => ("ReadingCircles", "members", "[LReadingCircles$Member;", true)
  | 1 => ("ReadingCircles", "circles", "[LReadingCircles$Circle;", true)
  | 2 => ("ReadingCircles", "letters", "[LReadingCircles$Letter;", true)
  | 3 => ("ReadingCircles", "longestRow", "[I", true)
  | 4 => ("ReadingCircles", "latestTrace", "LReadingCircles$Trace;", true)
  | 5 => ("ReadingCircles", "memberCount", "I", false)
  | 6 => ("ReadingCircles", "circleCount", "I", false)
  | 7 => ("ReadingCircles", "letterCount", "I", false)
  | 8 => ("ReadingCircles", "writtenByCalls", "I", false)
  | _ => ("ReadingCircles", "latestStatus", "I", false)
def tyX7 : Nat → FieldType := fun k => match k with
  | 0 => .array (.object "ReadingCircles$Member")
  | 1 => .array (.object "ReadingCircles$Circle")
  | 2 => .array (.object "ReadingCircles$Letter")
  | 3 => .array .int
  | 4 => .object "ReadingCircles$Trace"
  | 5 => .int
  | 6 => .int
  | 7 => .int
  | 8 => .int
  | _ => .int
abbrev wsX70 : List Cond := u_ws RX7 TX7 10
theorem nmX7 : ∀ a, a < 10 → ∀ b, b < 10 → a ≠ b → (TX7 a).2.1 ≠ (TX7 b).2.1 := by decide +kernel
theorem tyX7_ok : ∀ k, k < 10 → parseFieldDescriptor (TX7 k).2.2.1 = some (tyX7 k) := by decide +kernel
abbrev cX7_init : ByteArray := prog_1_method_1_code
def yX7_init : MethodName := ⟨RX7, "<init>", "()V"⟩
abbrev cX7_member : ByteArray := prog_1_method_2_code
def yX7_member : MethodName := ⟨RX7, "member", "()I"⟩
abbrev cX7_circle : ByteArray := prog_1_method_3_code
def yX7_circle : MethodName := ⟨RX7, "circle", "(I)I"⟩
abbrev cX7_write : ByteArray := prog_1_method_4_code
def yX7_write : MethodName := ⟨RX7, "write", "(III)I"⟩
abbrev cX7_reply : ByteArray := prog_1_method_5_code
def yX7_reply : MethodName := ⟨RX7, "reply", "(III)I"⟩
abbrev cX7_seal : ByteArray := prog_1_method_6_code
def yX7_seal : MethodName := ⟨RX7, "seal", "(III)I"⟩
abbrev cX7_deliver : ByteArray := prog_1_method_7_code
def yX7_deliver : MethodName := ⟨RX7, "deliver", "(II)I"⟩
abbrev cX7_deliverAll : ByteArray := prog_1_method_8_code
def yX7_deliverAll : MethodName := ⟨RX7, "deliverAll", "(II)I"⟩
abbrev cX7_count : ByteArray := prog_1_method_9_code
def yX7_count : MethodName := ⟨RX7, "count", "(I)I"⟩
abbrev cX7_told : ByteArray := prog_1_method_10_code
def yX7_told : MethodName := ⟨RX7, "told", "(II)I"⟩
abbrev cX7_circleTold : ByteArray := prog_1_method_11_code
def yX7_circleTold : MethodName := ⟨RX7, "circleTold", "(II)I"⟩
abbrev cX7_state : ByteArray := prog_1_method_12_code
def yX7_state : MethodName := ⟨RX7, "state", "(II)I"⟩
abbrev cX7_given : ByteArray := prog_1_method_13_code
def yX7_given : MethodName := ⟨RX7, "given", "(III)I"⟩
abbrev cX7_read : ByteArray := prog_1_method_14_code
def yX7_read : MethodName := ⟨RX7, "read", "(II)I"⟩
abbrev cX7_why : ByteArray := prog_1_method_15_code
def yX7_why : MethodName := ⟨RX7, "why", "(III)I"⟩
abbrev cX7_late : ByteArray := prog_1_method_16_code
def yX7_late : MethodName := ⟨RX7, "late", "(I)I"⟩
abbrev cX7_behind : ByteArray := prog_1_method_17_code
def yX7_behind : MethodName := ⟨RX7, "behind", "(II)I"⟩
abbrev cX7_past : ByteArray := prog_1_method_18_code
def yX7_past : MethodName := ⟨RX7, "past", "(I)I"⟩
abbrev cX7_chain : ByteArray := prog_1_method_19_code
def yX7_chain : MethodName := ⟨RX7, "chain", "(II)I"⟩
abbrev cX7_act : ByteArray := prog_1_method_20_code
def yX7_act : MethodName := ⟨RX7, "act", "(III)I"⟩
abbrev cX7_trace : ByteArray := prog_1_method_21_code
def yX7_trace : MethodName := ⟨RX7, "trace", "(I)I"⟩
abbrev cX7_bare : ByteArray := prog_1_method_22_code
def yX7_bare : MethodName := ⟨RX7, "bare", "(III)I"⟩
abbrev cX7_slot : ByteArray := prog_1_method_23_code
def yX7_slot : MethodName := ⟨RX7, "slot", "(II)I"⟩
abbrev cX7_forge : ByteArray := prog_1_method_24_code
def yX7_forge : MethodName := ⟨RX7, "forge", "(IIII)I"⟩
abbrev cX7_status : ByteArray := prog_1_method_25_code
def yX7_status : MethodName := ⟨RX7, "status", "()I"⟩
abbrev cX7_done : ByteArray := prog_1_method_26_code
def yX7_done : MethodName := ⟨RX7, "done", "(I)I"⟩
abbrev cX7_refuse : ByteArray := prog_1_method_27_code
def yX7_refuse : MethodName := ⟨RX7, "refuse", "(I)I"⟩
abbrev cX7_isMember : ByteArray := prog_1_method_28_code
def yX7_isMember : MethodName := ⟨RX7, "isMember", "(I)Z"⟩
abbrev cX7_isCircle : ByteArray := prog_1_method_29_code
def yX7_isCircle : MethodName := ⟨RX7, "isCircle", "(I)Z"⟩
abbrev cX7_isLetter : ByteArray := prog_1_method_30_code
def yX7_isLetter : MethodName := ⟨RX7, "isLetter", "(I)Z"⟩
abbrev cX7_isSlot : ByteArray := prog_1_method_31_code
def yX7_isSlot : MethodName := ⟨RX7, "isSlot", "(I)Z"⟩
abbrev cX7_hasBit : ByteArray := prog_1_method_32_code
def yX7_hasBit : MethodName := ⟨RX7, "hasBit", "(II)Z"⟩
abbrev cX7_lowestMember : ByteArray := prog_1_method_33_code
def yX7_lowestMember : MethodName := ⟨RX7, "lowestMember", "(I)I"⟩
abbrev cX7_writeByCall : ByteArray := prog_1_method_34_code
def yX7_writeByCall : MethodName := ⟨RX7, "writeByCall", "(IIII)I"⟩
abbrev cX7_mayAnswer : ByteArray := prog_1_method_35_code
def yX7_mayAnswer : MethodName := ⟨RX7, "mayAnswer", "(II)Z"⟩
abbrev cX7_clockNow : ByteArray := prog_1_method_36_code
def yX7_clockNow : MethodName := ⟨RX7, "clockNow", "(I)LReadingCircles$Clock;"⟩
abbrev cX7_send : ByteArray := prog_1_method_37_code
def yX7_send : MethodName := ⟨RX7, "send", "(LReadingCircles$Letter;)V"⟩
abbrev cX7_bring : ByteArray := prog_1_method_38_code
def yX7_bring : MethodName := ⟨RX7, "bring", "(LReadingCircles$Letter;I)I"⟩
abbrev cX7_nextOnLine : ByteArray := prog_1_method_39_code
def yX7_nextOnLine : MethodName := ⟨RX7, "nextOnLine", "(II)LReadingCircles$Letter;"⟩
abbrev cX7_giveAll : ByteArray := prog_1_method_40_code
def yX7_giveAll : MethodName := ⟨RX7, "giveAll", "(I)I"⟩
abbrev cX7_canGive : ByteArray := prog_1_method_41_code
def yX7_canGive : MethodName := ⟨RX7, "canGive", "(ILReadingCircles$Letter;)Z"⟩
abbrev cX7_firstLack : ByteArray := prog_1_method_42_code
def yX7_firstLack : MethodName := ⟨RX7, "firstLack", "(ILReadingCircles$Letter;)I"⟩
abbrev cX7_firstLackIn : ByteArray := prog_1_method_43_code
def yX7_firstLackIn : MethodName := ⟨RX7, "firstLackIn", "(ILReadingCircles$Letter;I)I"⟩
abbrev cX7_lacksOrder : ByteArray := prog_1_method_44_code
def yX7_lacksOrder : MethodName := ⟨RX7, "lacksOrder", "(ILReadingCircles$Letter;)Z"⟩
abbrev cX7_lacksLowerPlace : ByteArray := prog_1_method_45_code
def yX7_lacksLowerPlace : MethodName := ⟨RX7, "lacksLowerPlace", "(ILReadingCircles$Letter;)Z"⟩
abbrev cX7_whySealed : ByteArray := prog_1_method_46_code
def yX7_whySealed : MethodName := ⟨RX7, "whySealed", "(ILReadingCircles$Letter;I)I"⟩
abbrev cX7_writeOrderIfDue : ByteArray := prog_1_method_47_code
def yX7_writeOrderIfDue : MethodName := ⟨RX7, "writeOrderIfDue", "(ILReadingCircles$Letter;)V"⟩
abbrev cX7_standing : ByteArray := prog_1_method_48_code
def yX7_standing : MethodName := ⟨RX7, "standing", "(ILReadingCircles$Letter;)I"⟩
abbrev cX7_isCalm : ByteArray := prog_1_method_49_code
def yX7_isCalm : MethodName := ⟨RX7, "isCalm", "(I)Z"⟩
abbrev cX7_longestRowTo : ByteArray := prog_1_method_50_code
def yX7_longestRowTo : MethodName := ⟨RX7, "longestRowTo", "(II)I"⟩
abbrev cX7_perform : ByteArray := prog_1_method_51_code
def yX7_perform : MethodName := ⟨RX7, "perform", "(LReadingCircles$Letter;LReadingCircles$Trace;IIII)I"⟩
abbrev cX7_kindWithBody : ByteArray := prog_1_method_52_code
def yX7_kindWithBody : MethodName := ⟨RX7, "kindWithBody", "(II)I"⟩
abbrev cX7_isKindOrUnder : ByteArray := prog_1_method_53_code
def yX7_isKindOrUnder : MethodName := ⟨RX7, "isKindOrUnder", "(II)Z"⟩
abbrev cX7_forgeSerial : ByteArray := prog_1_method_54_code
def yX7_forgeSerial : MethodName := ⟨RX7, "forgeSerial", "(LReadingCircles$Thing;I)I"⟩
abbrev cX7_forgeCount : ByteArray := prog_1_method_55_code
def yX7_forgeCount : MethodName := ⟨RX7, "forgeCount", "(LReadingCircles$Thing;I)I"⟩
abbrev cX7_forgeRowSum : ByteArray := prog_1_method_56_code
def yX7_forgeRowSum : MethodName := ⟨RX7, "forgeRowSum", "(LReadingCircles$Thing;I)I"⟩
abbrev cX7_forgeCopy : ByteArray := prog_1_method_57_code
def yX7_forgeCopy : MethodName := ⟨RX7, "forgeCopy", "(LReadingCircles$Thing;I)I"⟩
abbrev cX7_forgeStore : ByteArray := prog_1_method_58_code
def yX7_forgeStore : MethodName := ⟨RX7, "forgeStore", "(LReadingCircles$Thing;)I"⟩
abbrev cX7_refuseAsClock : ByteArray := prog_1_method_59_code
def yX7_refuseAsClock : MethodName := ⟨RX7, "refuseAsClock", "(LReadingCircles$Thing;)I"⟩
abbrev cX7_firstRowOf : ByteArray := prog_1_method_60_code
def yX7_firstRowOf : MethodName := ⟨RX7, "firstRowOf", "(LReadingCircles$Thing;)[I"⟩
abbrev cX7_sum : ByteArray := prog_1_method_61_code
def yX7_sum : MethodName := ⟨RX7, "sum", "([III)I"⟩
def RX8 : String := "ReadingCirclesModel"
def TX8 : u_T := fun k => match k with
  | 0 => ("ReadingCirclesModel", "members", "I", false)
  | 1 => ("ReadingCirclesModel", "circles", "I", false)
  | 2 => ("ReadingCirclesModel", "bitsOf", "[I", true)
  | 3 => ("ReadingCirclesModel", "numbered", "[I", true)
  | 4 => ("ReadingCirclesModel", "letters", "I", false)
  | 5 => ("ReadingCirclesModel", "called", "I", false)
  | 6 => ("ReadingCirclesModel", "kind", "[I", true)
  | 7 => ("ReadingCirclesModel", "circleOf", "[I", true)
  | 8 => ("ReadingCirclesModel", "writer", "[I", true)
  | 9 => ("ReadingCirclesModel", "serial", "[I", true)
  | 10 => ("ReadingCirclesModel", "names", "[I", true)
  | 11 => ("ReadingCirclesModel", "number", "[I", true)
  | 12 => ("ReadingCirclesModel", "orderOf", "[I", true)
  | 13 => ("ReadingCirclesModel", "saved", "[I", true)
  | 14 => ("ReadingCirclesModel", "rows", "[I", true)
  | 15 => ("ReadingCirclesModel", "clock", "[I", true)
  | 16 => ("ReadingCirclesModel", "state", "[I", true)
  | 17 => ("ReadingCirclesModel", "given", "[I", true)
  | 18 => ("ReadingCirclesModel", "wrote", "[I", true)
  | 19 => ("ReadingCirclesModel", "latest", "[I", true)
  | 20 => ("ReadingCirclesModel", "readRow", "[I", true)
  | 21 => ("ReadingCirclesModel", "readMany", "[I", true)
  | 22 => ("ReadingCirclesModel", "isBehind", "[Z", true)
  | 23 => ("ReadingCirclesModel", "hold", "[I", true)
  | 24 => ("ReadingCirclesModel", "status", "I", false)
  | 25 => ("ReadingCirclesModel", "traced", "[I", true)
  | 26 => ("ReadingCirclesModel", "traces", "I", false)
  | _ => ("ReadingCirclesModel", "longest", "[I", true)
def tyX8 : Nat → FieldType := fun k => match k with
  | 0 => .int
  | 1 => .int
  | 2 => .array .int
  | 3 => .array .int
  | 4 => .int
  | 5 => .int
  | 6 => .array .int
  | 7 => .array .int
  | 8 => .array .int
  | 9 => .array .int
  | 10 => .array .int
  | 11 => .array .int
  | 12 => .array .int
  | 13 => .array .int
  | 14 => .array .int
  | 15 => .array .int
  | 16 => .array .int
  | 17 => .array .int
  | 18 => .array .int
  | 19 => .array .int
  | 20 => .array .int
  | 21 => .array .int
  | 22 => .array .boolean
  | 23 => .array .int
  | 24 => .int
  | 25 => .array .int
  | 26 => .int
  | _ => .array .int
abbrev wsX80 : List Cond := u_ws RX8 TX8 28
theorem nmX8 : ∀ a, a < 28 → ∀ b, b < 28 → a ≠ b → (TX8 a).2.1 ≠ (TX8 b).2.1 := by decide +kernel
theorem tyX8_ok : ∀ k, k < 28 → parseFieldDescriptor (TX8 k).2.2.1 = some (tyX8 k) := by decide +kernel
abbrev cX8_init : ByteArray := prog_10_method_1_code
def yX8_init : MethodName := ⟨RX8, "<init>", "()V"⟩
abbrev cX8_in : ByteArray := prog_10_method_2_code
def yX8_in : MethodName := ⟨RX8, "in", "(III)Z"⟩
abbrev cX8_isMember : ByteArray := prog_10_method_3_code
def yX8_isMember : MethodName := ⟨RX8, "isMember", "(I)Z"⟩
abbrev cX8_isCircle : ByteArray := prog_10_method_4_code
def yX8_isCircle : MethodName := ⟨RX8, "isCircle", "(I)Z"⟩
abbrev cX8_isLetter : ByteArray := prog_10_method_5_code
def yX8_isLetter : MethodName := ⟨RX8, "isLetter", "(I)Z"⟩
abbrev cX8_isIn : ByteArray := prog_10_method_6_code
def yX8_isIn : MethodName := ⟨RX8, "isIn", "(II)Z"⟩
abbrev cX8_eldest : ByteArray := prog_10_method_7_code
def yX8_eldest : MethodName := ⟨RX8, "eldest", "(I)I"⟩
abbrev cX8_above : ByteArray := prog_10_method_8_code
def yX8_above : MethodName := ⟨RX8, "above", "(I)I"⟩
abbrev cX8_isOf : ByteArray := prog_10_method_9_code
def yX8_isOf : MethodName := ⟨RX8, "isOf", "(II)Z"⟩
abbrev cX8_refused : ByteArray := prog_10_method_10_code
def yX8_refused : MethodName := ⟨RX8, "refused", "(I)I"⟩
abbrev cX8_done : ByteArray := prog_10_method_11_code
def yX8_done : MethodName := ⟨RX8, "done", "(I)I"⟩
abbrev cX8_member : ByteArray := prog_10_method_12_code
def yX8_member : MethodName := ⟨RX8, "member", "()I"⟩
abbrev cX8_circle : ByteArray := prog_10_method_13_code
def yX8_circle : MethodName := ⟨RX8, "circle", "(I)I"⟩
abbrev cX8_made : ByteArray := prog_10_method_14_code
def yX8_made : MethodName := ⟨RX8, "made", "(IIII)I"⟩
abbrev cX8_goes : ByteArray := prog_10_method_15_code
def yX8_goes : MethodName := ⟨RX8, "goes", "(I)V"⟩
abbrev cX8_holds : ByteArray := prog_10_method_16_code
def yX8_holds : MethodName := ⟨RX8, "holds", "(II)V"⟩
abbrev cX8_counts : ByteArray := prog_10_method_17_code
def yX8_counts : MethodName := ⟨RX8, "counts", "(III)V"⟩
abbrev cX8_call : ByteArray := prog_10_method_18_code
def yX8_call : MethodName := ⟨RX8, "call", "(IIIIZ)I"⟩
abbrev cX8_write : ByteArray := prog_10_method_19_code
def yX8_write : MethodName := ⟨RX8, "write", "(III)I"⟩
abbrev cX8_reply : ByteArray := prog_10_method_20_code
def yX8_reply : MethodName := ⟨RX8, "reply", "(III)I"⟩
abbrev cX8_seal : ByteArray := prog_10_method_21_code
def yX8_seal : MethodName := ⟨RX8, "seal", "(III)I"⟩
abbrev cX8_lacks : ByteArray := prog_10_method_22_code
def yX8_lacks : MethodName := ⟨RX8, "lacks", "(IIII)I"⟩
abbrev cX8_lacking : ByteArray := prog_10_method_23_code
def yX8_lacking : MethodName := ⟨RX8, "lacking", "(II)I"⟩
abbrev cX8_hasOrder : ByteArray := prog_10_method_24_code
def yX8_hasOrder : MethodName := ⟨RX8, "hasOrder", "(II)Z"⟩
abbrev cX8_hasLower : ByteArray := prog_10_method_25_code
def yX8_hasLower : MethodName := ⟨RX8, "hasLower", "(II)Z"⟩
abbrev cX8_canGive : ByteArray := prog_10_method_26_code
def yX8_canGive : MethodName := ⟨RX8, "canGive", "(II)Z"⟩
abbrev cX8_next : ByteArray := prog_10_method_27_code
def yX8_next : MethodName := ⟨RX8, "next", "(I)I"⟩
abbrev cX8_gives : ByteArray := prog_10_method_28_code
def yX8_gives : MethodName := ⟨RX8, "gives", "(I)I"⟩
abbrev cX8_give : ByteArray := prog_10_method_29_code
def yX8_give : MethodName := ⟨RX8, "give", "(II)V"⟩
abbrev cX8_deliver : ByteArray := prog_10_method_30_code
def yX8_deliver : MethodName := ⟨RX8, "deliver", "(II)I"⟩
abbrev cX8_lineOf : ByteArray := prog_10_method_31_code
def yX8_lineOf : MethodName := ⟨RX8, "lineOf", "(I)I"⟩
abbrev cX8_lined : ByteArray := prog_10_method_32_code
def yX8_lined : MethodName := ⟨RX8, "lined", "(II)I"⟩
abbrev cX8_deliverAll : ByteArray := prog_10_method_33_code
def yX8_deliverAll : MethodName := ⟨RX8, "deliverAll", "(II)I"⟩
abbrev cX8_count : ByteArray := prog_10_method_34_code
def yX8_count : MethodName := ⟨RX8, "count", "(I)I"⟩
abbrev cX8_countsOf : ByteArray := prog_10_method_35_code
def yX8_countsOf : MethodName := ⟨RX8, "countsOf", "(I)I"⟩
abbrev cX8_told : ByteArray := prog_10_method_36_code
def yX8_told : MethodName := ⟨RX8, "told", "(II)I"⟩
abbrev cX8_circleTold : ByteArray := prog_10_method_37_code
def yX8_circleTold : MethodName := ⟨RX8, "circleTold", "(II)I"⟩
abbrev cX8_isCalm : ByteArray := prog_10_method_38_code
def yX8_isCalm : MethodName := ⟨RX8, "isCalm", "(I)Z"⟩
abbrev cX8_state : ByteArray := prog_10_method_39_code
def yX8_state : MethodName := ⟨RX8, "state", "(II)I"⟩
abbrev cX8_given : ByteArray := prog_10_method_40_code
def yX8_given : MethodName := ⟨RX8, "given", "(III)I"⟩
abbrev cX8_read : ByteArray := prog_10_method_41_code
def yX8_read : MethodName := ⟨RX8, "read", "(II)I"⟩
abbrev cX8_why : ByteArray := prog_10_method_42_code
def yX8_why : MethodName := ⟨RX8, "why", "(III)I"⟩
abbrev cX8_late : ByteArray := prog_10_method_43_code
def yX8_late : MethodName := ⟨RX8, "late", "(I)I"⟩
abbrev cX8_behind : ByteArray := prog_10_method_44_code
def yX8_behind : MethodName := ⟨RX8, "behind", "(II)I"⟩
abbrev cX8_past : ByteArray := prog_10_method_45_code
def yX8_past : MethodName := ⟨RX8, "past", "(I)I"⟩
abbrev cX8_chain : ByteArray := prog_10_method_46_code
def yX8_chain : MethodName := ⟨RX8, "chain", "(II)I"⟩
abbrev cX8_ran : ByteArray := prog_10_method_47_code
def yX8_ran : MethodName := ⟨RX8, "ran", "(I)V"⟩
abbrev cX8_noteAge : ByteArray := prog_10_method_48_code
def yX8_noteAge : MethodName := ⟨RX8, "noteAge", "(II)I"⟩
abbrev cX8_orderAge : ByteArray := prog_10_method_49_code
def yX8_orderAge : MethodName := ⟨RX8, "orderAge", "(II)I"⟩
abbrev cX8_age : ByteArray := prog_10_method_50_code
def yX8_age : MethodName := ⟨RX8, "age", "(II)I"⟩
abbrev cX8_noteBear : ByteArray := prog_10_method_51_code
def yX8_noteBear : MethodName := ⟨RX8, "noteBear", "(II)I"⟩
abbrev cX8_bear : ByteArray := prog_10_method_52_code
def yX8_bear : MethodName := ⟨RX8, "bear", "(II)I"⟩
abbrev cX8_noteGive : ByteArray := prog_10_method_53_code
def yX8_noteGive : MethodName := ⟨RX8, "noteGive", "(II)I"⟩
abbrev cX8_giveOf : ByteArray := prog_10_method_54_code
def yX8_giveOf : MethodName := ⟨RX8, "giveOf", "(II)I"⟩
abbrev cX8_noteWait : ByteArray := prog_10_method_55_code
def yX8_noteWait : MethodName := ⟨RX8, "noteWait", "(II)I"⟩
abbrev cX8_waitOf : ByteArray := prog_10_method_56_code
def yX8_waitOf : MethodName := ⟨RX8, "waitOf", "(II)I"⟩
abbrev cX8_act : ByteArray := prog_10_method_57_code
def yX8_act : MethodName := ⟨RX8, "act", "(III)I"⟩
abbrev cX8_trace : ByteArray := prog_10_method_58_code
def yX8_trace : MethodName := ⟨RX8, "trace", "(I)I"⟩
abbrev cX8_bare : ByteArray := prog_10_method_59_code
def yX8_bare : MethodName := ⟨RX8, "bare", "(III)I"⟩
abbrev cX8_slot : ByteArray := prog_10_method_60_code
def yX8_slot : MethodName := ⟨RX8, "slot", "(II)I"⟩
abbrev cX8_firstRow : ByteArray := prog_10_method_61_code
def yX8_firstRow : MethodName := ⟨RX8, "firstRow", "(I)I"⟩
abbrev cX8_sumOf : ByteArray := prog_10_method_62_code
def yX8_sumOf : MethodName := ⟨RX8, "sumOf", "(IIII)I"⟩
abbrev cX8_forge : ByteArray := prog_10_method_63_code
def yX8_forge : MethodName := ⟨RX8, "forge", "(IIII)I"⟩
abbrev cX8_letterTaken : ByteArray := prog_10_method_64_code
def yX8_letterTaken : MethodName := ⟨RX8, "letterTaken", "(III)I"⟩
abbrev cX8_clockTaken : ByteArray := prog_10_method_65_code
def yX8_clockTaken : MethodName := ⟨RX8, "clockTaken", "(III)I"⟩
abbrev cX8_status : ByteArray := prog_10_method_66_code
def yX8_status : MethodName := ⟨RX8, "status", "()I"⟩
def RJx8e188 : String := "java/lang/Cloneable"

def RJ6 : String := "java/lang/Integer"

abbrev cJ6_bitCount_0f7a4 : ByteArray := prog_12_method_49_code
def yJ6_bitCount_0f7a4 : MethodName := ⟨RJ6, "bitCount", "(I)I"⟩
def RJ13 : String := "java/lang/Long"

abbrev cJ13_bitCount_95d88 : ByteArray := prog_13_method_50_code
def yJ13_bitCount_95d88 : MethodName := ⟨RJ13, "bitCount", "(J)I"⟩
def RJ9 : String := "java/lang/Math"

abbrev cJ9_floorMod_7cf53 : ByteArray := prog_14_method_50_code
def yJ9_floorMod_7cf53 : MethodName := ⟨RJ9, "floorMod", "(II)I"⟩
def RL : String := "ReadingCirclesLaw"
abbrev cL_law : ByteArray := code
def yL_law : MethodName := ⟨RL, "law", "([I)Z"⟩
def mX0_init : zv_M := (yX0_init, cX0_init, 3, none)
def mX1_init : zv_M := (yX1_init, cX1_init, 1, none)
def mX1_addRow : zv_M := (yX1_addRow, cX1_addRow, 4, none)
def mX1_rowAt : zv_M := (yX1_rowAt, cX1_rowAt, 2, (some (.array .int)))
def mX1_firstRow : zv_M := (yX1_firstRow, cX1_firstRow, 2, (some (.array .int)))
def mX7_hasBit : zv_M := (yX7_hasBit, cX7_hasBit, 2, (some .boolean))
def mX1_sameInRow : zv_M := (yX1_sameInRow, cX1_sameInRow, 5, (some .int))
def mX1_sameCounts : zv_M := (yX1_sameCounts, cX1_sameCounts, 5, (some .int))
def mX4_init : zv_M := (yX4_init, cX4_init, 1, none)
def mX2_init : zv_M := (yX2_init, cX2_init, 8, none)
def mX2_isOnLineTo : zv_M := (yX2_isOnLineTo, cX2_isOnLineTo, 2, (some .boolean))
def mX2_isGivenBy : zv_M := (yX2_isGivenBy, cX2_isGivenBy, 2, (some .boolean))
def mX2_needed : zv_M := (yX2_needed, cX2_needed, 4, (some .int))
def mX3_init : zv_M := (yX3_init, cX3_init, 1, none)
def mX3_nextSerial : zv_M := (yX3_nextSerial, cX3_nextSerial, 2, (some .int))
def mX3_takeSlot : zv_M := (yX3_takeSlot, cX3_takeSlot, 3, none)
def mX3_hold : zv_M := (yX3_hold, cX3_hold, 3, none)
def mX3_dropHeld : zv_M := (yX3_dropHeld, cX3_dropHeld, 4, none)
def mX3_leaveSlot : zv_M := (yX3_leaveSlot, cX3_leaveSlot, 3, none)
def mX4_addAll : zv_M := (yX4_addAll, cX4_addAll, 3, none)
def mX4_add : zv_M := (yX4_add, cX4_add, 2, none)
def mX3_release : zv_M := (yX3_release, cX3_release, 2, none)
def mX4_has : zv_M := (yX4_has, cX4_has, 2, (some .boolean))
def mJ13_bitCount_95d88 : zv_M := (yJ13_bitCount_95d88, cJ13_bitCount_95d88, 2, (some .int))
def mX4_size : zv_M := (yX4_size, cX4_size, 3, (some .int))
def mX6_init : zv_M := (yX6_init, cX6_init, 1, none)
def mX6_begin : zv_M := (yX6_begin, cX6_begin, 2, none)
def mX6_bodyAt : zv_M := (yX6_bodyAt, cX6_bodyAt, 2, (some .int))
def mX7_init : zv_M := (yX7_init, cX7_init, 1, none)
def mX7_refuse : zv_M := (yX7_refuse, cX7_refuse, 2, (some .int))
def mX7_done : zv_M := (yX7_done, cX7_done, 2, (some .int))
def mX7_member : zv_M := (yX7_member, cX7_member, 1, (some .int))
def mJ6_bitCount_0f7a4 : zv_M := (yJ6_bitCount_0f7a4, cJ6_bitCount_0f7a4, 1, (some .int))
def mX7_lowestMember : zv_M := (yX7_lowestMember, cX7_lowestMember, 2, (some .int))
def mX7_circle : zv_M := (yX7_circle, cX7_circle, 3, (some .int))
def mX7_isMember : zv_M := (yX7_isMember, cX7_isMember, 2, (some .boolean))
def mX7_isCircle : zv_M := (yX7_isCircle, cX7_isCircle, 2, (some .boolean))
def mX7_isLetter : zv_M := (yX7_isLetter, cX7_isLetter, 2, (some .boolean))
def mX7_mayAnswer : zv_M := (yX7_mayAnswer, cX7_mayAnswer, 3, (some .boolean))
def mX7_clockNow : zv_M := (yX7_clockNow, cX7_clockNow, 4, (some (.object "ReadingCircles$Clock")))
def mX7_send : zv_M := (yX7_send, cX7_send, 3, none)
def mX7_firstLackIn : zv_M := (yX7_firstLackIn, cX7_firstLackIn, 6, (some .int))
def mX7_firstLack : zv_M := (yX7_firstLack, cX7_firstLack, 5, (some .int))
def mX7_lacksOrder : zv_M := (yX7_lacksOrder, cX7_lacksOrder, 4, (some .boolean))
def mX7_lacksLowerPlace : zv_M := (yX7_lacksLowerPlace, cX7_lacksLowerPlace, 3, (some .boolean))
def mX7_canGive : zv_M := (yX7_canGive, cX7_canGive, 3, (some .boolean))
def mX7_writeOrderIfDue : zv_M := (yX7_writeOrderIfDue, cX7_writeOrderIfDue, 5, none)
def mX7_giveAll : zv_M := (yX7_giveAll, cX7_giveAll, 6, (some .int))
def mX7_writeByCall : zv_M := (yX7_writeByCall, cX7_writeByCall, 9, (some .int))
def mX7_write : zv_M := (yX7_write, cX7_write, 4, (some .int))
def mX7_reply : zv_M := (yX7_reply, cX7_reply, 4, (some .int))
def mX7_seal : zv_M := (yX7_seal, cX7_seal, 4, (some .int))
def mX7_bring : zv_M := (yX7_bring, cX7_bring, 3, (some .int))
def mX7_deliver : zv_M := (yX7_deliver, cX7_deliver, 3, (some .int))
def mX7_nextOnLine : zv_M := (yX7_nextOnLine, cX7_nextOnLine, 5, (some (.object "ReadingCircles$Letter")))
def mX7_deliverAll : zv_M := (yX7_deliverAll, cX7_deliverAll, 5, (some .int))
def mX7_count : zv_M := (yX7_count, cX7_count, 2, (some .int))
def mX7_told : zv_M := (yX7_told, cX7_told, 4, (some .int))
def mX7_isCalm : zv_M := (yX7_isCalm, cX7_isCalm, 3, (some .boolean))
def mX7_circleTold : zv_M := (yX7_circleTold, cX7_circleTold, 4, (some .int))
def mX7_standing : zv_M := (yX7_standing, cX7_standing, 3, (some .int))
def mX7_state : zv_M := (yX7_state, cX7_state, 3, (some .int))
def mX7_given : zv_M := (yX7_given, cX7_given, 4, (some .int))
def mX7_read : zv_M := (yX7_read, cX7_read, 3, (some .int))
def mX7_whySealed : zv_M := (yX7_whySealed, cX7_whySealed, 4, (some .int))
def mX7_why : zv_M := (yX7_why, cX7_why, 8, (some .int))
def mX7_late : zv_M := (yX7_late, cX7_late, 4, (some .int))
def mX7_behind : zv_M := (yX7_behind, cX7_behind, 3, (some .int))
def mX7_past : zv_M := (yX7_past, cX7_past, 2, (some .int))
def mX7_longestRowTo : zv_M := (yX7_longestRowTo, cX7_longestRowTo, 6, (some .int))
def mX7_chain : zv_M := (yX7_chain, cX7_chain, 4, (some .int))
def mX7_kindWithBody : zv_M := (yX7_kindWithBody, cX7_kindWithBody, 4, (some .int))
def mX7_perform : zv_M := (yX7_perform, cX7_perform, 11, (some .int))
def mX7_act : zv_M := (yX7_act, cX7_act, 4, (some .int))
def mX7_trace : zv_M := (yX7_trace, cX7_trace, 2, (some .int))
def mX7_isSlot : zv_M := (yX7_isSlot, cX7_isSlot, 1, (some .boolean))
def mX7_bare : zv_M := (yX7_bare, cX7_bare, 4, (some .int))
def mX7_slot : zv_M := (yX7_slot, cX7_slot, 5, (some .int))
def mJ9_floorMod_7cf53 : zv_M := (yJ9_floorMod_7cf53, cJ9_floorMod_7cf53, 3, (some .int))
def mX7_isKindOrUnder : zv_M := (yX7_isKindOrUnder, cX7_isKindOrUnder, 4, (some .boolean))
def mX7_forgeSerial : zv_M := (yX7_forgeSerial, cX7_forgeSerial, 4, (some .int))
def mX7_firstRowOf : zv_M := (yX7_firstRowOf, cX7_firstRowOf, 2, (some (.array .int)))
def mX7_refuseAsClock : zv_M := (yX7_refuseAsClock, cX7_refuseAsClock, 2, (some .int))
def mX7_forgeCount : zv_M := (yX7_forgeCount, cX7_forgeCount, 4, (some .int))
def mX7_sum : zv_M := (yX7_sum, cX7_sum, 5, (some .int))
def mX7_forgeRowSum : zv_M := (yX7_forgeRowSum, cX7_forgeRowSum, 5, (some .int))
def mX7_forgeCopy : zv_M := (yX7_forgeCopy, cX7_forgeCopy, 4, (some .int))
def mX7_forgeStore : zv_M := (yX7_forgeStore, cX7_forgeStore, 3, (some .int))
def mX7_forge : zv_M := (yX7_forge, cX7_forge, 6, (some .int))
def mX7_status : zv_M := (yX7_status, cX7_status, 1, (some .int))
def mX8_init : zv_M := (yX8_init, cX8_init, 2, none)
def mX8_in : zv_M := (yX8_in, cX8_in, 3, (some .boolean))
def mX8_isMember : zv_M := (yX8_isMember, cX8_isMember, 2, (some .boolean))
def mX8_isCircle : zv_M := (yX8_isCircle, cX8_isCircle, 2, (some .boolean))
def mX8_isLetter : zv_M := (yX8_isLetter, cX8_isLetter, 2, (some .boolean))
def mX8_isIn : zv_M := (yX8_isIn, cX8_isIn, 3, (some .boolean))
def mX8_eldest : zv_M := (yX8_eldest, cX8_eldest, 3, (some .int))
def mX8_above : zv_M := (yX8_above, cX8_above, 1, (some .int))
def mX8_isOf : zv_M := (yX8_isOf, cX8_isOf, 3, (some .boolean))
def mX8_refused : zv_M := (yX8_refused, cX8_refused, 2, (some .int))
def mX8_done : zv_M := (yX8_done, cX8_done, 2, (some .int))
def mX8_member : zv_M := (yX8_member, cX8_member, 1, (some .int))
def mX8_circle : zv_M := (yX8_circle, cX8_circle, 4, (some .int))
def mX8_made : zv_M := (yX8_made, cX8_made, 9, (some .int))
def mX8_holds : zv_M := (yX8_holds, cX8_holds, 4, none)
def mX8_goes : zv_M := (yX8_goes, cX8_goes, 4, none)
def mX8_counts : zv_M := (yX8_counts, cX8_counts, 8, none)
def mX8_lacks : zv_M := (yX8_lacks, cX8_lacks, 6, (some .int))
def mX8_lacking : zv_M := (yX8_lacking, cX8_lacking, 6, (some .int))
def mX8_hasOrder : zv_M := (yX8_hasOrder, cX8_hasOrder, 4, (some .boolean))
def mX8_hasLower : zv_M := (yX8_hasLower, cX8_hasLower, 6, (some .boolean))
def mX8_canGive : zv_M := (yX8_canGive, cX8_canGive, 3, (some .boolean))
def mX8_next : zv_M := (yX8_next, cX8_next, 3, (some .int))
def mX8_give : zv_M := (yX8_give, cX8_give, 6, none)
def mX8_gives : zv_M := (yX8_gives, cX8_gives, 4, (some .int))
def mX8_call : zv_M := (yX8_call, cX8_call, 9, (some .int))
def mX8_write : zv_M := (yX8_write, cX8_write, 4, (some .int))
def mX8_reply : zv_M := (yX8_reply, cX8_reply, 4, (some .int))
def mX8_seal : zv_M := (yX8_seal, cX8_seal, 4, (some .int))
def mX8_deliver : zv_M := (yX8_deliver, cX8_deliver, 3, (some .int))
def mX8_lineOf : zv_M := (yX8_lineOf, cX8_lineOf, 3, (some .int))
def mX8_lined : zv_M := (yX8_lined, cX8_lined, 6, (some .int))
def mX8_deliverAll : zv_M := (yX8_deliverAll, cX8_deliverAll, 6, (some .int))
def mX8_count : zv_M := (yX8_count, cX8_count, 2, (some .int))
def mX8_countsOf : zv_M := (yX8_countsOf, cX8_countsOf, 4, (some .int))
def mX8_told : zv_M := (yX8_told, cX8_told, 3, (some .int))
def mX8_isCalm : zv_M := (yX8_isCalm, cX8_isCalm, 5, (some .boolean))
def mX8_circleTold : zv_M := (yX8_circleTold, cX8_circleTold, 3, (some .int))
def mX8_state : zv_M := (yX8_state, cX8_state, 3, (some .int))
def mX8_given : zv_M := (yX8_given, cX8_given, 4, (some .int))
def mX8_read : zv_M := (yX8_read, cX8_read, 3, (some .int))
def mX8_why : zv_M := (yX8_why, cX8_why, 5, (some .int))
def mX8_late : zv_M := (yX8_late, cX8_late, 4, (some .int))
def mX8_behind : zv_M := (yX8_behind, cX8_behind, 3, (some .int))
def mX8_past : zv_M := (yX8_past, cX8_past, 4, (some .int))
def mX8_chain : zv_M := (yX8_chain, cX8_chain, 6, (some .int))
def mX8_ran : zv_M := (yX8_ran, cX8_ran, 2, none)
def mX8_noteAge : zv_M := (yX8_noteAge, cX8_noteAge, 3, (some .int))
def mX8_orderAge : zv_M := (yX8_orderAge, cX8_orderAge, 3, (some .int))
def mX8_age : zv_M := (yX8_age, cX8_age, 3, (some .int))
def mX8_noteBear : zv_M := (yX8_noteBear, cX8_noteBear, 3, (some .int))
def mX8_bear : zv_M := (yX8_bear, cX8_bear, 4, (some .int))
def mX8_noteGive : zv_M := (yX8_noteGive, cX8_noteGive, 4, (some .int))
def mX8_giveOf : zv_M := (yX8_giveOf, cX8_giveOf, 3, (some .int))
def mX8_noteWait : zv_M := (yX8_noteWait, cX8_noteWait, 3, (some .int))
def mX8_waitOf : zv_M := (yX8_waitOf, cX8_waitOf, 4, (some .int))
def mX8_act : zv_M := (yX8_act, cX8_act, 5, (some .int))
def mX8_trace : zv_M := (yX8_trace, cX8_trace, 2, (some .int))
def mX8_bare : zv_M := (yX8_bare, cX8_bare, 4, (some .int))
def mX8_slot : zv_M := (yX8_slot, cX8_slot, 4, (some .int))
def mX8_firstRow : zv_M := (yX8_firstRow, cX8_firstRow, 3, (some .int))
def mX8_sumOf : zv_M := (yX8_sumOf, cX8_sumOf, 7, (some .int))
def mX8_letterTaken : zv_M := (yX8_letterTaken, cX8_letterTaken, 4, (some .int))
def mX8_clockTaken : zv_M := (yX8_clockTaken, cX8_clockTaken, 5, (some .int))
def mX8_forge : zv_M := (yX8_forge, cX8_forge, 7, (some .int))
def mX8_status : zv_M := (yX8_status, cX8_status, 1, (some .int))
end
section
/-! THE ABSTRACT MACHINE: cells are called by TAGS (numbers that the prover chooses); a state is four functions of tags. -/
abbrev zv_S : Type := Nat → Option (Nat × Nat)
abbrev zv_I : Type := Nat → Nat → Int32
abbrev zv_J : Type := Nat → Nat → Int64
abbrev zv_R : Type := Nat → Nat → Option Nat
abbrev zv_Q : Type := Option Value → zv_S → zv_I → zv_J → zv_R → Prop
/-- heap size at the start, classes, array classes, the three read-only rows' addresses (script, BODIES, KIND_ABOVE), the script's length and ints -/
abbrev zv_E : Type := Nat × va_G × (Nat → ClassId) × (Nat → Nat) × Nat × (Nat → Int32)
def zv_A (E : zv_E) : Nat → Prop := fun q => E.1 ≤ q
abbrev zv_cl : List vw_C := [(RX0, TX0, 3), (RX1, TX1, 2), (RX2, TX2, 13), (RX3, TX3, 10), (RX4, TX4, 1), (RX6, TX6, 2), (RX7, TX7, 10), (RX8, TX8, 28)]
def zv_nf (c : Nat) : Nat := match c with
  | 0 => 3
  | 1 => 2
  | 2 => 13
  | 3 => 10
  | 4 => 1
  | 5 => 2
  | 6 => 10
  | _ => 28
def zv_cty (c : Nat) : Nat → FieldType := match c with
  | 0 => tyX0
  | 1 => tyX1
  | 2 => tyX2
  | 3 => tyX3
  | 4 => tyX4
  | 5 => tyX6
  | 6 => tyX7
  | _ => tyX8
def zv_rfld (c j : Nat) : Bool := match zv_cty c j with
  | .int => false
  | _ => true
def zv_ty (k : Nat) : FieldType := match k with
  | 0 => .int
  | 1 => .long
  | 2 => .boolean
  | 3 => .array .int
  | 4 => .object RX3
  | 5 => .object RX0
  | 6 => .object RX2
  | 7 => .object RX1
  | _ => .object RX5
def zv_tys (dA : Nat → ClassId) : List (ClassId × FieldType) := [(dA 0, .int), (dA 1, .long), (dA 2, .boolean), (dA 3, .array .int), (dA 4, .object RX3), (dA 5, .object RX0), (dA 6, .object RX2), (dA 7, .object RX1), (dA 8, .object RX5)]
def zv_fv (adr : Nat → Nat) (c : Nat) (I : Nat → Int32) (R : Nat → Option Nat) (j : Nat) : Value := if zv_rfld c j = true then va_rf ((R j).map adr) else .int (I j)
def zv_fs (adr : Nat → Nat) (c : Nat) (I : Nat → Int32) (R : Nat → Option Nat) : List Value := (List.range (zv_nf c)).map (zv_fv adr c I R)
/-- a cell: kinds 0 int[], 1 long[], 2 boolean[], 3 .. 8 rows of references, 10 + c an object of class c -/
def zv_ent (E : zv_E) (adr : Nat → Nat) (kn : Nat × Nat) (I : Nat → Int32) (J : Nat → Int64) (R : Nat → Option Nat) : va_E :=
  if kn.1 = 0 ∨ kn.1 = 2 then .inl (E.2.2.1 kn.1, kn.2, .inl I)
  else if kn.1 = 1 then .inl (E.2.2.1 1, kn.2, .inr (.inl J))
  else if kn.1 < 10 then .inl (E.2.2.1 kn.1, kn.2, .inr (.inr (.inr (.inr (fun j => (R j).map adr)))))
  else .inr (kn.1 - 10, zv_fs adr (kn.1 - 10) I R)
theorem zv_ent_i (E : zv_E) (adr : Nat → Nat) (n : Nat) (I : Nat → Int32) (J : Nat → Int64) (R : Nat → Option Nat) : zv_ent E adr (0, n) I J R = .inl (E.2.2.1 0, n, .inl I) := by simp [zv_ent]
theorem zv_ent_z (E : zv_E) (adr : Nat → Nat) (n : Nat) (I : Nat → Int32) (J : Nat → Int64) (R : Nat → Option Nat) : zv_ent E adr (2, n) I J R = .inl (E.2.2.1 2, n, .inl I) := by simp [zv_ent]
theorem zv_ent_l (E : zv_E) (adr : Nat → Nat) (n : Nat) (I : Nat → Int32) (J : Nat → Int64) (R : Nat → Option Nat) : zv_ent E adr (1, n) I J R = .inl (E.2.2.1 1, n, .inr (.inl J)) := by simp [zv_ent]
theorem zv_ent_r (E : zv_E) (adr : Nat → Nat) {k : Nat} (h3 : 3 ≤ k) (h9 : k < 10) (n : Nat) (I : Nat → Int32) (J : Nat → Int64) (R : Nat → Option Nat) : zv_ent E adr (k, n) I J R = .inl (E.2.2.1 k, n, .inr (.inr (.inr (.inr (fun j => (R j).map adr))))) := by
  have h0 : ¬ (k = 0 ∨ k = 2) := by omega
  have h1 : ¬ k = 1 := by omega
  simp only [zv_ent, if_neg h0, if_neg h1, if_pos h9]
theorem zv_ent_o (E : zv_E) (adr : Nat → Nat) (c n : Nat) (I : Nat → Int32) (J : Nat → Int64) (R : Nat → Option Nat) : zv_ent E adr (10 + c, n) I J R = .inr (c, zv_fs adr c I R) := by
  have h0 : ¬ (10 + c = 0 ∨ 10 + c = 2) := by omega
  have h1 : ¬ 10 + c = 1 := by omega
  have h2 : ¬ 10 + c < 10 := by omega
  have h3 : 10 + c - 10 = c := by omega
  simp only [zv_ent, if_neg h0, if_neg h1, if_neg h2, h3]
theorem zv_fs_at {adr : Nat → Nat} {c : Nat} {I : Nat → Int32} {R : Nat → Option Nat} {j : Nat} (h : j < zv_nf c) : (zv_fs adr c I R)[j]? = some (zv_fv adr c I R j) := by
  unfold zv_fs
  rw [List.getElem?_map, List.getElem?_range h]
  rfl
theorem zv_fs_len {adr : Nat → Nat} {c : Nat} {I : Nat → Int32} {R : Nat → Option Nat} : (zv_fs adr c I R).length = zv_nf c := by simp [zv_fs]
/-- tags for addresses -/
def zv_v (adr : Nat → Nat) : Value → Value
  | .ref t => .ref (adr t)
  | v => v
def zv_ok (sh : zv_S) : Value → Prop
  | .ref t => t < 3 ∨ (sh t).isSome = true
  | _ => True
def zv_oks (sh : zv_S) : List Value → Prop
  | [] => True
  | v :: vs => zv_ok sh v ∧ zv_oks sh vs
def zv_z : Nat → List Value → List (Nat × Value)
  | _, [] => []
  | n, v :: vs => (n, v) :: zv_z (n + 1) vs
def zv_l (ls : Array Slot) (nL : Nat) (lv : List Value) : Prop := lv_has ls nL (zv_z 0 lv) ∧ ∀ v ∈ lv, v.category = 1
def zv_ag (sh0 : zv_S) (adr0 : Nat → Nat) (sh : zv_S) (adr : Nat → Nat) : Prop := ∀ t, (sh0 t).isSome = true → (sh t).isSome = true ∧ adr t = adr0 t
def zv_W (E : zv_E) (sh : zv_S) (I : zv_I) (J : zv_J) (R : zv_R) (adr : Nat → Nat) (H : Heap) : Prop :=
  ∃ ws : va_W, (∀ (t : Nat) (kn : Nat × Nat), sh t = some kn → ∃ k : Nat, ws[k]? = some (adr t, zv_ent E adr kn (I t) (J t) (R t))) ∧ va_P E.2.1 zv_cl ws H ∧ va_D (zv_A E) ws
def zv_H (E : zv_E) (sh : zv_S) (I : zv_I) (J : zv_J) (R : zv_R) (adr : Nat → Nat) (H : Heap) : Prop :=
  zv_W E sh I J R adr H ∧ (∀ t u : Nat, (sh t).isSome = true → (sh u).isSome = true → adr t = adr u → t = u) ∧ (∀ t j u : Nat, (sh t).isSome = true → R t j = some u → (sh u).isSome = true) ∧ ∀ t, t < 3 → sh t = none ∧ adr t = E.2.2.2.1 t
def zv_bod (j : Nat) : Int32 := ([10, 11, 12, 13, 20, 0, 0, 21, 0, 30, 31, 0, 40, 0, 0, 0, 0, 0, 50, 0, 0, 60, 0, 61] : List Int32).getD j 0
def zv_kab (j : Nat) : Int32 := ([-1, 0, 1, 0, 3, 4] : List Int32).getD j 0
/-- the words that move with every call -/
def zv_gw : List Cond := lw_tbl.filter goodWord
def zv_isN : Cond → Bool
  | .fieldLinkNest _ _ _ _ _ _ => true
  | .methodLinkNest _ _ _ _ => true
  | .castable _ _ => true
  | _ => false
def zv_nw : List Cond := tables_1.filter zv_isN
def zv_nc : List (String × String) := [(RX1, RX2), (RX2, RX1)]
def zv_ao : List String := [RX3, RX0, RX2, RX1, RX5]
def zv_T (E : zv_E) (s : State) : Prop :=
  va_K E.2.1 zv_cl (zv_tys E.2.2.1) s ∧ (∀ w ∈ zv_nw, va_Nw w s) ∧ (∀ C ∈ zv_ao, va_AO C s) ∧ (Cond.arrayOver (.array .int)).before #[] s = true ∧ (∀ q ∈ zv_nc, va_Nc q.1 q.2 s) ∧
  va_Z RX7 "BODIES" "[I" (.ref (E.2.2.2.1 1)) (zv_A E) s s.heap ∧ va_Z RX7 "KIND_ABOVE" "[I" (.ref (E.2.2.2.1 2)) (zv_A E) s s.heap ∧
  va_T .int (E.2.2.2.1 0) E.2.2.2.2.1 (fun j => .int (E.2.2.2.2.2 j)) (zv_A E) s s.heap ∧ va_T .int (E.2.2.2.1 1) 24 (fun j => .int (zv_bod j)) (zv_A E) s s.heap ∧ va_T .int (E.2.2.2.1 2) 6 (fun j => .int (zv_kab j)) (zv_A E) s s.heap ∧ E.1 ≤ s.heap.size
def zv_ri (M : zv_M) (v : Option Value) (pc : Nat) : Prop := match v with
  | none => decode M.2.1 pc = .ok (.return_, 1) ∧ M.2.2.2 = none
  | some (.int x) => decode M.2.1 pc = .ok (.ireturn, 1) ∧ ∃ ty, M.2.2.2 = some ty ∧ narrow ty (.int x) = .int x
  | some (.ref _) => decode M.2.1 pc = .ok (.areturn, 1) ∧ ∃ ty, M.2.2.2 = some ty ∧ ((∃ n, ty = .object n) ∨ ∃ t, ty = .array t)
  | some .null => decode M.2.1 pc = .ok (.areturn, 1) ∧ ∃ ty, M.2.2.2 = some ty ∧ ((∃ n, ty = .object n) ∨ ∃ t, ty = .array t)
  | _ => False
/-- what stands still while a method runs -/
def zv_C (E : zv_E) (M : zv_M) (d mc ms : Nat) (sh0 : zv_S) (adr0 : Nat → Nat) (Q : zv_Q) (p : Program) (l : Launch) (e : Env) (Rm : Room) (s : State) (m : MethodId) (args : Array Value) (below : List Frame) (meth : Method) (c : Code) (Z : State → Prop) : Prop :=
  p.tables.exec = Jvm.exec ∧ c.code = M.2.1 ∧ c.maxLocals = M.2.2.1 ∧ s.vm.findClass M.1.cls = some m.cls ∧ (∀ w ∈ zv_gw, w.before args s = true) ∧ (M.1.name = "<init>" → meth.name = "<init>") ∧ zv_T E s ∧ d ≤ Rm.frames ∧ 40 * d ≤ Rm.locals ∧ mc ≤ Rm.cells ∧ ms ≤ Rm.slots ∧
  ∀ (v : Option Value) (sh : zv_S) (I : zv_I) (J : zv_J) (R : zv_R) (adr : Nat → Nat) (H : Heap) (locs : List Loc) (ls : Array Slot) (cells slots pc : Nat), Q v sh I J R → zv_H E sh I J R adr H → zv_ag sh0 adr0 sh adr → (∀ x, v = some x → zv_ok sh x) → va_S (zv_A E) s.heap H locs → cells ≤ mc → slots ≤ ms → zv_ri M v pc → W p l e Rm s m args below meth c H locs cells slots Z (F0 m pc ls (v.toList.map (zv_v adr)))
/-- what holds at a frame -/
def zv_P (E : zv_E) (M : zv_M) (lv st : List Value) (sh : zv_S) (I : zv_I) (J : zv_J) (R : zv_R) (sh0 : zv_S) (adr0 adr : Nat → Nat) (H H0 : Heap) (locs : List Loc) (ls : Array Slot) : Prop :=
  zv_H E sh I J R adr H ∧ zv_l ls M.2.2.1 (lv.map (zv_v adr)) ∧ zv_oks sh lv ∧ zv_oks sh st ∧ zv_ag sh0 adr0 sh adr ∧ va_S (zv_A E) H0 H locs
/-- THE JUDGEMENT: from pc, with locals lv and stack st, calls d deep at most, kc cells of ks slots at most, the method comes to its end with Q -/
def zv_V (E : zv_E) (M : zv_M) (d kc ks pc : Nat) (lv st : List Value) (sh : zv_S) (I : zv_I) (J : zv_J) (R : zv_R) (Q : zv_Q) : Prop :=
  ∀ (p : Program) (l : Launch) (e : Env) (Rm : Room) (s : State) (m : MethodId) (args : Array Value) (below : List Frame) (meth : Method) (c : Code) (Z : State → Prop) (mc ms : Nat) (sh0 : zv_S) (adr0 : Nat → Nat), zv_C E M d mc ms sh0 adr0 Q p l e Rm s m args below meth c Z →
  ∀ (adr : Nat → Nat) (H : Heap) (locs : List Loc) (ls : Array Slot) (cells slots : Nat), zv_P E M lv st sh I J R sh0 adr0 adr H s.heap locs ls → cells + kc ≤ mc → slots + ks ≤ ms → W p l e Rm s m args below meth c H locs cells slots Z (F0 m pc ls (st.map (zv_v adr)))
/-! stores in the four functions -/
def zv_u {α : Type} (f : Nat → Nat → α) (t j : Nat) (x : α) : Nat → Nat → α := fun a b => if a = t ∧ b = j then x else f a b
theorem zv_u_s {α : Type} (f : Nat → Nat → α) (t j : Nat) (x : α) : zv_u f t j x t j = x := if_pos ⟨rfl, rfl⟩
theorem zv_u_t {α : Type} (f : Nat → Nat → α) {t j a b : Nat} (x : α) (h : a ≠ t) : zv_u f t j x a b = f a b := if_neg fun q => h q.1
theorem zv_u_j {α : Type} (f : Nat → Nat → α) {t j a b : Nat} (x : α) (h : b ≠ j) : zv_u f t j x a b = f a b := if_neg fun q => h q.2
theorem zv_u_row {α : Type} (f : Nat → Nat → α) (t j : Nat) (x : α) {a : Nat} (h : a ≠ t) : zv_u f t j x a = f a := funext fun _ => zv_u_t f x h
/-- a whole row anew -/
def zv_n {α : Type} (f : Nat → Nat → α) (t : Nat) (g : Nat → α) : Nat → Nat → α := fun a => if a = t then g else f a
theorem zv_n_s {α : Type} (f : Nat → Nat → α) (t : Nat) (g : Nat → α) : zv_n f t g t = g := if_pos rfl
theorem zv_n_t {α : Type} (f : Nat → Nat → α) {t a : Nat} (g : Nat → α) (h : a ≠ t) : zv_n f t g a = f a := if_neg h
def zv_sn (sh : zv_S) (t : Nat) (kn : Nat × Nat) : zv_S := fun a => if a = t then some kn else sh a
theorem zv_sn_s (sh : zv_S) (t : Nat) (kn : Nat × Nat) : zv_sn sh t kn t = some kn := if_pos rfl
theorem zv_sn_t (sh : zv_S) {t a : Nat} (kn : Nat × Nat) (h : a ≠ t) : zv_sn sh t kn a = sh a := if_neg h
/-! values and locals -/
theorem zv_v_cat (adr : Nat → Nat) (v : Value) : (zv_v adr v).category = v.category := by cases v <;> rfl
theorem zv_cats (adr : Nat → Nat) (st : List Value) : ((st.map (zv_v adr)).map fun v => v.category) = st.map fun v => v.category := by
  rw [List.map_map]
  exact List.map_congr_left fun v _ => zv_v_cat adr v
theorem zv_z_get : ∀ (lv : List Value) (n i : Nat) (v : Value), lv[i]? = some v → (n + i, v) ∈ zv_z n lv
  | [], n, i, v, h => by simp at h
  | w :: lv, n, 0, v, h => by
    simp at h
    subst h
    simp [zv_z]
  | w :: lv, n, i + 1, v, h => by
    have h1 := zv_z_get lv (n + 1) i v (by simpa using h)
    rw [show n + 1 + i = n + (i + 1) by omega] at h1
    exact List.mem_cons_of_mem _ h1
theorem zv_l_at {ls : Array Slot} {nL : Nat} {lv : List Value} (h : zv_l ls nL lv) {i : Nat} {v : Value} (hv : lv[i]? = some v) : ls[i]? = some (.val v) := by
  have h1 := zv_z_get lv 0 i v hv
  rw [Nat.zero_add] at h1
  exact h.1.2.2 _ h1
theorem zv_oks_at {sh : zv_S} : ∀ {lv : List Value} {i : Nat} {v : Value}, zv_oks sh lv → lv[i]? = some v → zv_ok sh v
  | [], i, v, _, h => by simp at h
  | w :: lv, 0, v, hk, h => by simp at h; subst h; exact hk.1
  | w :: lv, i + 1, v, hk, h => zv_oks_at (lv := lv) (i := i) hk.2 (by simpa using h)
theorem zv_oks_app {sh : zv_S} : ∀ {a b : List Value}, zv_oks sh a → zv_oks sh b → zv_oks sh (a ++ b)
  | [], b, _, h => h
  | v :: a, b, h1, h2 => ⟨h1.1, zv_oks_app (a := a) h1.2 h2⟩
theorem zv_oks_mem {sh : zv_S} : ∀ {a : List Value}, (∀ v ∈ a, zv_ok sh v) → zv_oks sh a
  | [], _ => trivial
  | v :: a, h => ⟨h v List.mem_cons_self, zv_oks_mem fun w hw => h w (List.mem_cons_of_mem _ hw)⟩
theorem zv_oks_all {sh : zv_S} : ∀ {a : List Value}, zv_oks sh a → ∀ v ∈ a, zv_ok sh v
  | [], _, v, h => by cases h
  | w :: a, hk, v, h => (List.mem_cons.mp h).elim (fun e => e ▸ hk.1) (fun h => zv_oks_all hk.2 v h)
/-- a local is set: at its place, or as the next one -/
def zv_ls : List Value → Nat → Value → Option (List Value)
  | [], 0, v => some [v]
  | [], _ + 1, _ => none
  | _ :: lv, 0, v => some (v :: lv)
  | w :: lv, i + 1, v => (zv_ls lv i v).map (w :: ·)
theorem zv_ls_map (f : Value → Value) : ∀ (lv : List Value) (i : Nat) (v : Value) (lv' : List Value), zv_ls lv i v = some lv' → zv_ls (lv.map f) i (f v) = some (lv'.map f)
  | [], 0, v, lv', h => by simp [zv_ls] at h; subst h; rfl
  | [], i + 1, v, lv', h => by simp [zv_ls] at h
  | w :: lv, 0, v, lv', h => by simp [zv_ls] at h; subst h; rfl
  | w :: lv, i + 1, v, lv', h => by
    simp only [zv_ls, Option.map_eq_some_iff] at h
    obtain ⟨l1, h1, h2⟩ := h
    subst h2
    simp only [List.map_cons, zv_ls, zv_ls_map f lv i v l1 h1, Option.map_some]
theorem zv_ls_mem : ∀ (lv : List Value) (i n : Nat) (v : Value) (lv' : List Value), zv_ls lv i v = some lv' → ∀ q ∈ zv_z n lv', q = (n + i, v) ∨ (q ∈ zv_z n lv ∧ q.1 ≠ n + i)
  | [], 0, n, v, lv', h => by simp [zv_ls] at h; subst h; intro q hq; left; simpa [zv_z] using hq
  | [], i + 1, n, v, lv', h => by simp [zv_ls] at h
  | w :: lv, 0, n, v, lv', h => by
    simp [zv_ls] at h
    subst h
    intro q hq
    rcases List.mem_cons.mp hq with e | hq
    · left; exact e
    · right
      refine ⟨List.mem_cons_of_mem _ hq, ?_⟩
      have : ∀ (l : List Value) (k : Nat) (q : Nat × Value), q ∈ zv_z k l → k ≤ q.1 := by
        intro l
        induction l with
        | nil => intro k q h; cases h
        | cons a l ih =>
          intro k q h
          rcases List.mem_cons.mp h with e | h
          · rw [e]; exact Nat.le_refl _
          · exact Nat.le_of_succ_le (ih (k + 1) q h)
      have := this lv (n + 1) q hq
      omega
  | w :: lv, i + 1, n, v, lv', h => by
    simp only [zv_ls, Option.map_eq_some_iff] at h
    obtain ⟨l1, h1, h2⟩ := h
    subst h2
    intro q hq
    rcases List.mem_cons.mp hq with e | hq
    · right
      refine ⟨by rw [e]; exact List.mem_cons_self, by rw [e]; show n ≠ n + (i + 1); omega⟩
    · rcases zv_ls_mem lv i (n + 1) v l1 h1 q hq with e | ⟨e, ne⟩
      · left; rw [e]; congr 1; omega
      · right; exact ⟨List.mem_cons_of_mem _ e, by omega⟩
theorem zv_ls_vals : ∀ (lv : List Value) (i : Nat) (v : Value) (lv' : List Value), zv_ls lv i v = some lv' → ∀ w ∈ lv', w = v ∨ w ∈ lv
  | [], 0, v, lv', h => by simp [zv_ls] at h; subst h; intro w hw; left; simpa using hw
  | [], i + 1, v, lv', h => by simp [zv_ls] at h
  | w :: lv, 0, v, lv', h => by
    simp [zv_ls] at h
    subst h
    intro q hq
    rcases List.mem_cons.mp hq with e | hq
    · left; exact e
    · right; exact List.mem_cons_of_mem _ hq
  | w :: lv, i + 1, v, lv', h => by
    simp only [zv_ls, Option.map_eq_some_iff] at h
    obtain ⟨l1, h1, h2⟩ := h
    subst h2
    intro q hq
    rcases List.mem_cons.mp hq with e | hq
    · right; rw [e]; exact List.mem_cons_self
    · rcases zv_ls_vals lv i v l1 h1 q hq with e | e
      · left; exact e
      · right; exact List.mem_cons_of_mem _ e
theorem zv_ls_oks {sh : zv_S} {lv lv' : List Value} {i : Nat} {v : Value} (h : zv_ls lv i v = some lv') (hl : zv_oks sh lv) (hv : zv_ok sh v) : zv_oks sh lv' :=
  zv_oks_mem fun w hw => (zv_ls_vals lv i v lv' h w hw).elim (fun e => e ▸ hv) (fun e => zv_oks_all hl w e)
theorem zv_z_val : ∀ (lv : List Value) (n : Nat) (q : Nat × Value), q ∈ zv_z n lv → q.2 ∈ lv
  | [], _, _, h => by cases h
  | v :: lv, n, q, h => by
    rcases List.mem_cons.mp h with e | h
    · rw [e]; exact List.mem_cons_self
    · exact List.mem_cons_of_mem _ (zv_z_val lv (n + 1) q h)
/-- from the kit's list behind a store to ours -/
theorem zv_l_set {ls' : Array Slot} {nL i : Nat} {lv lv' : List Value} {v : Value} (hc : ∀ w ∈ lv, w.category = 1) (hv : v.category = 1) (h : zv_ls lv i v = some lv') (hl : lv_has ls' nL ((i, v) :: (zv_z 0 lv).filter (fun q => !(q.1 == i) && !(q.1 + 1 == i && q.2.category == 2)))) : zv_l ls' nL lv' := by
  refine ⟨⟨hl.1, hl.2.1, fun q hq => hl.2.2 q ?_⟩, fun w hw => (zv_ls_vals lv i v lv' h w hw).elim (fun e => e ▸ hv) (hc w)⟩
  rcases zv_ls_mem lv i 0 v lv' h q hq with e | ⟨e, ne⟩
  · rw [e, Nat.zero_add]; exact List.mem_cons_self
  · refine List.mem_cons_of_mem _ (List.mem_filter.mpr ⟨e, ?_⟩)
    have h1 : q.2.category = 1 := hc _ (zv_z_val lv 0 q e)
    have h2 : ¬ q.1 = i := fun z => ne (by omega)
    simp [h1, h2]
theorem zv_z_args : ∀ (lv : List Value) (n : Nat), (∀ w ∈ lv, w.category = 1) → lv_args n lv = zv_z n lv
  | [], _, _ => rfl
  | v :: lv, n, h => by
    have hv : ¬ v.category = 2 := by rw [h v List.mem_cons_self]; decide
    simp only [lv_args, zv_z, if_neg hv]
    rw [zv_z_args lv (n + 1) fun w hw => h w (List.mem_cons_of_mem _ hw)]
end
section
section ZR
variable {E : zv_E} {M : zv_M} {d kc ks pc : Nat} {lv st : List Value} {sh : zv_S} {I : zv_I} {J : zv_J} {R : zv_R} {Q : zv_Q}
theorem zv_iconst {n : Int} {v : Int32} (hd : decode M.2.1 pc = .ok (.iconst n, 1)) (hv : Int32.ofInt n = v) (k : zv_V E M d kc ks (pc + 1) lv (.int v :: st) sh I J R Q) : zv_V E M d kc ks pc lv (st) sh I J R Q := by
  intro p l e Rm s m args below meth c Z mc ms sh0 adr0 C adr H locs ls cells slots P h1 h2
  exact lv_iconst C.1 C.2.1 hd hv (k p l e Rm s m args below meth c Z mc ms sh0 adr0 C adr H locs ls cells slots ⟨P.1, P.2.1, P.2.2.1, ⟨trivial, P.2.2.2.1⟩, P.2.2.2.2⟩ h1 h2)
theorem zv_bipush {n : Int} {v : Int32} (hd : decode M.2.1 pc = .ok (.bipush n, 2)) (hv : (Int8.ofInt n).toInt32 = v) (k : zv_V E M d kc ks (pc + 2) lv (.int v :: st) sh I J R Q) : zv_V E M d kc ks pc lv (st) sh I J R Q := by
  intro p l e Rm s m args below meth c Z mc ms sh0 adr0 C adr H locs ls cells slots P h1 h2
  exact lv_bipush C.1 C.2.1 hd hv (k p l e Rm s m args below meth c Z mc ms sh0 adr0 C adr H locs ls cells slots ⟨P.1, P.2.1, P.2.2.1, ⟨trivial, P.2.2.2.1⟩, P.2.2.2.2⟩ h1 h2)
theorem zv_sipush {n : Int} {v : Int32} (hd : decode M.2.1 pc = .ok (.sipush n, 3)) (hv : (Int16.ofInt n).toInt32 = v) (k : zv_V E M d kc ks (pc + 3) lv (.int v :: st) sh I J R Q) : zv_V E M d kc ks pc lv (st) sh I J R Q := by
  intro p l e Rm s m args below meth c Z mc ms sh0 adr0 C adr H locs ls cells slots P h1 h2
  exact lv_sipush C.1 C.2.1 hd hv (k p l e Rm s m args below meth c Z mc ms sh0 adr0 C adr H locs ls cells slots ⟨P.1, P.2.1, P.2.2.1, ⟨trivial, P.2.2.2.1⟩, P.2.2.2.2⟩ h1 h2)
theorem zv_lconst {n : Fin 2} {v : Int64} (hd : decode M.2.1 pc = .ok (.lconst n, 1)) (hv : Int64.ofNat (n : Nat) = v) (k : zv_V E M d kc ks (pc + 1) lv (.long v :: st) sh I J R Q) : zv_V E M d kc ks pc lv (st) sh I J R Q := by
  intro p l e Rm s m args below meth c Z mc ms sh0 adr0 C adr H locs ls cells slots P h1 h2
  exact lv_lconst C.1 C.2.1 hd hv (k p l e Rm s m args below meth c Z mc ms sh0 adr0 C adr H locs ls cells slots ⟨P.1, P.2.1, P.2.2.1, ⟨trivial, P.2.2.2.1⟩, P.2.2.2.2⟩ h1 h2)
theorem zv_null  (hd : decode M.2.1 pc = .ok (.aconst_null, 1)) (k : zv_V E M d kc ks (pc + 1) lv (.null :: st) sh I J R Q) : zv_V E M d kc ks pc lv (st) sh I J R Q := by
  intro p l e Rm s m args below meth c Z mc ms sh0 adr0 C adr H locs ls cells slots P h1 h2
  exact lv_null C.1 C.2.1 hd (k p l e Rm s m args below meth c Z mc ms sh0 adr0 C adr H locs ls cells slots ⟨P.1, P.2.1, P.2.2.1, ⟨trivial, P.2.2.2.1⟩, P.2.2.2.2⟩ h1 h2)
theorem zv_ldc {idx : Nat} {v : Int32} (hd : decode M.2.1 pc = .ok (.ldc idx, 2)) (hw : Cond.constant M.1.cls idx v ∈ zv_gw) (k : zv_V E M d kc ks (pc + 2) lv (.int v :: st) sh I J R Q) : zv_V E M d kc ks pc lv (st) sh I J R Q := by
  intro p l e Rm s m args below meth c Z mc ms sh0 adr0 C adr H locs ls cells slots P h1 h2
  exact lv_ldc C.1 C.2.1 C.2.2.2.1 (C.2.2.2.2.1 _ hw) hd (k p l e Rm s m args below meth c Z mc ms sh0 adr0 C adr H locs ls cells slots ⟨P.1, P.2.1, P.2.2.1, ⟨trivial, P.2.2.2.1⟩, P.2.2.2.2⟩ h1 h2)
theorem zv_ldcw {idx : Nat} {v : Int32} (hd : decode M.2.1 pc = .ok (.ldc_w idx, 3)) (hw : Cond.constant M.1.cls idx v ∈ zv_gw) (k : zv_V E M d kc ks (pc + 3) lv (.int v :: st) sh I J R Q) : zv_V E M d kc ks pc lv (st) sh I J R Q := by
  intro p l e Rm s m args below meth c Z mc ms sh0 adr0 C adr H locs ls cells slots P h1 h2
  exact lv_ldcw C.1 C.2.1 C.2.2.2.1 (C.2.2.2.2.1 _ hw) hd (k p l e Rm s m args below meth c Z mc ms sh0 adr0 C adr H locs ls cells slots ⟨P.1, P.2.1, P.2.2.1, ⟨trivial, P.2.2.2.1⟩, P.2.2.2.2⟩ h1 h2)
theorem zv_ldc2 {idx : Nat} {v : Int64} (hd : decode M.2.1 pc = .ok (.ldc2_w idx, 3)) (hw : Cond.constantLong M.1.cls idx v ∈ zv_gw) (k : zv_V E M d kc ks (pc + 3) lv (.long v :: st) sh I J R Q) : zv_V E M d kc ks pc lv (st) sh I J R Q := by
  intro p l e Rm s m args below meth c Z mc ms sh0 adr0 C adr H locs ls cells slots P h1 h2
  exact lv_ldc2 C.1 C.2.1 C.2.2.2.1 (C.2.2.2.2.1 _ hw) hd (k p l e Rm s m args below meth c Z mc ms sh0 adr0 C adr H locs ls cells slots ⟨P.1, P.2.1, P.2.2.1, ⟨trivial, P.2.2.2.1⟩, P.2.2.2.2⟩ h1 h2)
theorem zv_iload_n {n : Fin 4} {i : Nat} {x : Int32} (hd : decode M.2.1 pc = .ok (.iload_n n, 1)) (hi : (n : Nat) = i) (hl : lv[i]? = some (.int x)) (k : zv_V E M d kc ks (pc + 1) lv (.int x :: st) sh I J R Q) : zv_V E M d kc ks pc lv (st) sh I J R Q := by
  intro p l e Rm s m args below meth c Z mc ms sh0 adr0 C adr H locs ls cells slots P h1 h2
  exact lv_iload_n C.1 C.2.1 hd hi (zv_l_at P.2.1 (show (lv.map (zv_v adr))[i]? = some (.int x) by rw [List.getElem?_map, hl]; rfl)) (k p l e Rm s m args below meth c Z mc ms sh0 adr0 C adr H locs ls cells slots ⟨P.1, P.2.1, P.2.2.1, ⟨trivial, P.2.2.2.1⟩, P.2.2.2.2⟩ h1 h2)
theorem zv_iload {i : Nat} {x : Int32} (hd : decode M.2.1 pc = .ok (.iload i, 2)) (hl : lv[i]? = some (.int x)) (k : zv_V E M d kc ks (pc + 2) lv (.int x :: st) sh I J R Q) : zv_V E M d kc ks pc lv (st) sh I J R Q := by
  intro p l e Rm s m args below meth c Z mc ms sh0 adr0 C adr H locs ls cells slots P h1 h2
  exact lv_iload C.1 C.2.1 hd (zv_l_at P.2.1 (show (lv.map (zv_v adr))[i]? = some (.int x) by rw [List.getElem?_map, hl]; rfl)) (k p l e Rm s m args below meth c Z mc ms sh0 adr0 C adr H locs ls cells slots ⟨P.1, P.2.1, P.2.2.1, ⟨trivial, P.2.2.2.1⟩, P.2.2.2.2⟩ h1 h2)
theorem zv_aload_n {n : Fin 4} {i t : Nat} (hd : decode M.2.1 pc = .ok (.aload_n n, 1)) (hi : (n : Nat) = i) (hl : lv[i]? = some (.ref t)) (k : zv_V E M d kc ks (pc + 1) lv (.ref t :: st) sh I J R Q) : zv_V E M d kc ks pc lv (st) sh I J R Q := by
  intro p l e Rm s m args below meth c Z mc ms sh0 adr0 C adr H locs ls cells slots P h1 h2
  exact lv_aload_n C.1 C.2.1 hd hi (zv_l_at P.2.1 (show (lv.map (zv_v adr))[i]? = some (.ref (adr t)) by rw [List.getElem?_map, hl]; rfl)) (k p l e Rm s m args below meth c Z mc ms sh0 adr0 C adr H locs ls cells slots ⟨P.1, P.2.1, P.2.2.1, ⟨zv_oks_at P.2.2.1 hl, P.2.2.2.1⟩, P.2.2.2.2⟩ h1 h2)
theorem zv_aload {i t : Nat} (hd : decode M.2.1 pc = .ok (.aload i, 2)) (hl : lv[i]? = some (.ref t)) (k : zv_V E M d kc ks (pc + 2) lv (.ref t :: st) sh I J R Q) : zv_V E M d kc ks pc lv (st) sh I J R Q := by
  intro p l e Rm s m args below meth c Z mc ms sh0 adr0 C adr H locs ls cells slots P h1 h2
  exact lv_aload C.1 C.2.1 hd (zv_l_at P.2.1 (show (lv.map (zv_v adr))[i]? = some (.ref (adr t)) by rw [List.getElem?_map, hl]; rfl)) (k p l e Rm s m args below meth c Z mc ms sh0 adr0 C adr H locs ls cells slots ⟨P.1, P.2.1, P.2.2.1, ⟨zv_oks_at P.2.2.1 hl, P.2.2.2.1⟩, P.2.2.2.2⟩ h1 h2)
theorem zv_aload_nN {n : Fin 4} {i : Nat} (hd : decode M.2.1 pc = .ok (.aload_n n, 1)) (hi : (n : Nat) = i) (hl : lv[i]? = some .null) (k : zv_V E M d kc ks (pc + 1) lv (.null :: st) sh I J R Q) : zv_V E M d kc ks pc lv (st) sh I J R Q := by
  intro p l e Rm s m args below meth c Z mc ms sh0 adr0 C adr H locs ls cells slots P h1 h2
  exact lv_aload_nN C.1 C.2.1 hd hi (zv_l_at P.2.1 (show (lv.map (zv_v adr))[i]? = some (.null) by rw [List.getElem?_map, hl]; rfl)) (k p l e Rm s m args below meth c Z mc ms sh0 adr0 C adr H locs ls cells slots ⟨P.1, P.2.1, P.2.2.1, ⟨trivial, P.2.2.2.1⟩, P.2.2.2.2⟩ h1 h2)
theorem zv_aloadN {i : Nat} (hd : decode M.2.1 pc = .ok (.aload i, 2)) (hl : lv[i]? = some .null) (k : zv_V E M d kc ks (pc + 2) lv (.null :: st) sh I J R Q) : zv_V E M d kc ks pc lv (st) sh I J R Q := by
  intro p l e Rm s m args below meth c Z mc ms sh0 adr0 C adr H locs ls cells slots P h1 h2
  exact lv_aloadN C.1 C.2.1 hd (zv_l_at P.2.1 (show (lv.map (zv_v adr))[i]? = some (.null) by rw [List.getElem?_map, hl]; rfl)) (k p l e Rm s m args below meth c Z mc ms sh0 adr0 C adr H locs ls cells slots ⟨P.1, P.2.1, P.2.2.1, ⟨trivial, P.2.2.2.1⟩, P.2.2.2.2⟩ h1 h2)
theorem zv_istore_n {n : Fin 4} {i : Nat} {x : Int32} {lv' : List Value} (hd : decode M.2.1 pc = .ok (.istore_n n, 1)) (hi : (n : Nat) = i) (hn : i < M.2.2.1) (hl : zv_ls lv i (.int x) = some lv') (k : zv_V E M d kc ks (pc + 1) lv' st sh I J R Q) : zv_V E M d kc ks pc lv (.int x :: st) sh I J R Q := by
  intro p l e Rm s m args below meth c Z mc ms sh0 adr0 C adr H locs ls cells slots P h1 h2
  refine lv_istore_n C.1 C.2.1 hd hi P.2.1.1 hn rfl (fun ls' hl' => ?_)
  exact k p l e Rm s m args below meth c Z mc ms sh0 adr0 C adr H locs ls' cells slots ⟨P.1, zv_l_set P.2.1.2 rfl (zv_ls_map (zv_v adr) lv i (.int x) lv' hl) hl', zv_ls_oks hl P.2.2.1 P.2.2.2.1.1, P.2.2.2.1.2, P.2.2.2.2⟩ h1 h2
theorem zv_istore {i : Nat} {x : Int32} {lv' : List Value} (hd : decode M.2.1 pc = .ok (.istore i, 2)) (hn : i < M.2.2.1) (hl : zv_ls lv i (.int x) = some lv') (k : zv_V E M d kc ks (pc + 2) lv' st sh I J R Q) : zv_V E M d kc ks pc lv (.int x :: st) sh I J R Q := by
  intro p l e Rm s m args below meth c Z mc ms sh0 adr0 C adr H locs ls cells slots P h1 h2
  refine lv_istore C.1 C.2.1 hd P.2.1.1 hn rfl (fun ls' hl' => ?_)
  exact k p l e Rm s m args below meth c Z mc ms sh0 adr0 C adr H locs ls' cells slots ⟨P.1, zv_l_set P.2.1.2 rfl (zv_ls_map (zv_v adr) lv i (.int x) lv' hl) hl', zv_ls_oks hl P.2.2.1 P.2.2.2.1.1, P.2.2.2.1.2, P.2.2.2.2⟩ h1 h2
theorem zv_astore_n {n : Fin 4} {i t : Nat} {lv' : List Value} (hd : decode M.2.1 pc = .ok (.astore_n n, 1)) (hi : (n : Nat) = i) (hn : i < M.2.2.1) (hl : zv_ls lv i (.ref t) = some lv') (k : zv_V E M d kc ks (pc + 1) lv' st sh I J R Q) : zv_V E M d kc ks pc lv (.ref t :: st) sh I J R Q := by
  intro p l e Rm s m args below meth c Z mc ms sh0 adr0 C adr H locs ls cells slots P h1 h2
  refine lv_astore_n C.1 C.2.1 hd hi P.2.1.1 hn rfl (fun ls' hl' => ?_)
  exact k p l e Rm s m args below meth c Z mc ms sh0 adr0 C adr H locs ls' cells slots ⟨P.1, zv_l_set P.2.1.2 rfl (zv_ls_map (zv_v adr) lv i (.ref t) lv' hl) hl', zv_ls_oks hl P.2.2.1 P.2.2.2.1.1, P.2.2.2.1.2, P.2.2.2.2⟩ h1 h2
theorem zv_astore {i t : Nat} {lv' : List Value} (hd : decode M.2.1 pc = .ok (.astore i, 2)) (hn : i < M.2.2.1) (hl : zv_ls lv i (.ref t) = some lv') (k : zv_V E M d kc ks (pc + 2) lv' st sh I J R Q) : zv_V E M d kc ks pc lv (.ref t :: st) sh I J R Q := by
  intro p l e Rm s m args below meth c Z mc ms sh0 adr0 C adr H locs ls cells slots P h1 h2
  refine lv_astore C.1 C.2.1 hd P.2.1.1 hn rfl (fun ls' hl' => ?_)
  exact k p l e Rm s m args below meth c Z mc ms sh0 adr0 C adr H locs ls' cells slots ⟨P.1, zv_l_set P.2.1.2 rfl (zv_ls_map (zv_v adr) lv i (.ref t) lv' hl) hl', zv_ls_oks hl P.2.2.1 P.2.2.2.1.1, P.2.2.2.1.2, P.2.2.2.2⟩ h1 h2
theorem zv_astore_nN {n : Fin 4} {i : Nat} {lv' : List Value} (hd : decode M.2.1 pc = .ok (.astore_n n, 1)) (hi : (n : Nat) = i) (hn : i < M.2.2.1) (hl : zv_ls lv i (.null) = some lv') (k : zv_V E M d kc ks (pc + 1) lv' st sh I J R Q) : zv_V E M d kc ks pc lv (.null :: st) sh I J R Q := by
  intro p l e Rm s m args below meth c Z mc ms sh0 adr0 C adr H locs ls cells slots P h1 h2
  refine lv_astore_nN C.1 C.2.1 hd hi P.2.1.1 hn rfl (fun ls' hl' => ?_)
  exact k p l e Rm s m args below meth c Z mc ms sh0 adr0 C adr H locs ls' cells slots ⟨P.1, zv_l_set P.2.1.2 rfl (zv_ls_map (zv_v adr) lv i (.null) lv' hl) hl', zv_ls_oks hl P.2.2.1 P.2.2.2.1.1, P.2.2.2.1.2, P.2.2.2.2⟩ h1 h2
theorem zv_astoreN {i : Nat} {lv' : List Value} (hd : decode M.2.1 pc = .ok (.astore i, 2)) (hn : i < M.2.2.1) (hl : zv_ls lv i (.null) = some lv') (k : zv_V E M d kc ks (pc + 2) lv' st sh I J R Q) : zv_V E M d kc ks pc lv (.null :: st) sh I J R Q := by
  intro p l e Rm s m args below meth c Z mc ms sh0 adr0 C adr H locs ls cells slots P h1 h2
  refine lv_astoreN C.1 C.2.1 hd P.2.1.1 hn rfl (fun ls' hl' => ?_)
  exact k p l e Rm s m args below meth c Z mc ms sh0 adr0 C adr H locs ls' cells slots ⟨P.1, zv_l_set P.2.1.2 rfl (zv_ls_map (zv_v adr) lv i (.null) lv' hl) hl', zv_ls_oks hl P.2.2.1 P.2.2.2.1.1, P.2.2.2.1.2, P.2.2.2.2⟩ h1 h2
theorem zv_iinc {i : Nat} {n : Int} {x v : Int32} {lv' : List Value} (hd : decode M.2.1 pc = .ok (.iinc i n, 3)) (hx : lv[i]? = some (.int x)) (hv : x + Int32.ofInt n = v) (hn : i < M.2.2.1) (hl : zv_ls lv i (.int v) = some lv') (k : zv_V E M d kc ks (pc + 3) lv' st sh I J R Q) : zv_V E M d kc ks pc lv st sh I J R Q := by
  intro p l e Rm s m args below meth c Z mc ms sh0 adr0 C adr H locs ls cells slots P h1 h2
  have hz := zv_z_get (lv.map (zv_v adr)) 0 i (.int x) (by rw [List.getElem?_map, hx]; rfl)
  rw [Nat.zero_add] at hz
  obtain ⟨q, hq⟩ := List.getElem?_of_mem hz
  refine lv_iinc C.1 C.2.1 hd P.2.1.1 hq hv hn rfl (fun ls' hl' => ?_)
  exact k p l e Rm s m args below meth c Z mc ms sh0 adr0 C adr H locs ls' cells slots ⟨P.1, zv_l_set P.2.1.2 rfl (zv_ls_map (zv_v adr) lv i (.int v) lv' hl) hl', zv_ls_oks hl P.2.2.1 trivial, P.2.2.2.1, P.2.2.2.2⟩ h1 h2
theorem zv_iadd {x y : Int32} (hd : decode M.2.1 pc = .ok (.iadd, 1)) (k : zv_V E M d kc ks (pc + 1) lv (.int (x + y) :: st) sh I J R Q) : zv_V E M d kc ks pc lv (.int y :: .int x :: st) sh I J R Q := by
  intro p l e Rm s m args below meth c Z mc ms sh0 adr0 C adr H locs ls cells slots P h1 h2
  exact lv_iadd C.1 C.2.1 hd (k p l e Rm s m args below meth c Z mc ms sh0 adr0 C adr H locs ls cells slots ⟨P.1, P.2.1, P.2.2.1, ⟨trivial, P.2.2.2.1.2.2⟩, P.2.2.2.2⟩ h1 h2)
theorem zv_isub {x y : Int32} (hd : decode M.2.1 pc = .ok (.isub, 1)) (k : zv_V E M d kc ks (pc + 1) lv (.int (x - y) :: st) sh I J R Q) : zv_V E M d kc ks pc lv (.int y :: .int x :: st) sh I J R Q := by
  intro p l e Rm s m args below meth c Z mc ms sh0 adr0 C adr H locs ls cells slots P h1 h2
  exact lv_isub C.1 C.2.1 hd (k p l e Rm s m args below meth c Z mc ms sh0 adr0 C adr H locs ls cells slots ⟨P.1, P.2.1, P.2.2.1, ⟨trivial, P.2.2.2.1.2.2⟩, P.2.2.2.2⟩ h1 h2)
theorem zv_imul {x y : Int32} (hd : decode M.2.1 pc = .ok (.imul, 1)) (k : zv_V E M d kc ks (pc + 1) lv (.int (x * y) :: st) sh I J R Q) : zv_V E M d kc ks pc lv (.int y :: .int x :: st) sh I J R Q := by
  intro p l e Rm s m args below meth c Z mc ms sh0 adr0 C adr H locs ls cells slots P h1 h2
  exact lv_imul C.1 C.2.1 hd (k p l e Rm s m args below meth c Z mc ms sh0 adr0 C adr H locs ls cells slots ⟨P.1, P.2.1, P.2.2.1, ⟨trivial, P.2.2.2.1.2.2⟩, P.2.2.2.2⟩ h1 h2)
theorem zv_iand {x y : Int32} (hd : decode M.2.1 pc = .ok (.iand, 1)) (k : zv_V E M d kc ks (pc + 1) lv (.int (x &&& y) :: st) sh I J R Q) : zv_V E M d kc ks pc lv (.int y :: .int x :: st) sh I J R Q := by
  intro p l e Rm s m args below meth c Z mc ms sh0 adr0 C adr H locs ls cells slots P h1 h2
  exact lv_iand C.1 C.2.1 hd (k p l e Rm s m args below meth c Z mc ms sh0 adr0 C adr H locs ls cells slots ⟨P.1, P.2.1, P.2.2.1, ⟨trivial, P.2.2.2.1.2.2⟩, P.2.2.2.2⟩ h1 h2)
theorem zv_ior {x y : Int32} (hd : decode M.2.1 pc = .ok (.ior, 1)) (k : zv_V E M d kc ks (pc + 1) lv (.int (x ||| y) :: st) sh I J R Q) : zv_V E M d kc ks pc lv (.int y :: .int x :: st) sh I J R Q := by
  intro p l e Rm s m args below meth c Z mc ms sh0 adr0 C adr H locs ls cells slots P h1 h2
  exact lv_ior C.1 C.2.1 hd (k p l e Rm s m args below meth c Z mc ms sh0 adr0 C adr H locs ls cells slots ⟨P.1, P.2.1, P.2.2.1, ⟨trivial, P.2.2.2.1.2.2⟩, P.2.2.2.2⟩ h1 h2)
theorem zv_ixor {x y : Int32} (hd : decode M.2.1 pc = .ok (.ixor, 1)) (k : zv_V E M d kc ks (pc + 1) lv (.int (x ^^^ y) :: st) sh I J R Q) : zv_V E M d kc ks pc lv (.int y :: .int x :: st) sh I J R Q := by
  intro p l e Rm s m args below meth c Z mc ms sh0 adr0 C adr H locs ls cells slots P h1 h2
  exact lv_ixor C.1 C.2.1 hd (k p l e Rm s m args below meth c Z mc ms sh0 adr0 C adr H locs ls cells slots ⟨P.1, P.2.1, P.2.2.1, ⟨trivial, P.2.2.2.1.2.2⟩, P.2.2.2.2⟩ h1 h2)
theorem zv_ishl {x y : Int32} (hd : decode M.2.1 pc = .ok (.ishl, 1)) (k : zv_V E M d kc ks (pc + 1) lv (.int (x <<< (y &&& 31)) :: st) sh I J R Q) : zv_V E M d kc ks pc lv (.int y :: .int x :: st) sh I J R Q := by
  intro p l e Rm s m args below meth c Z mc ms sh0 adr0 C adr H locs ls cells slots P h1 h2
  exact lv_ishl C.1 C.2.1 hd (k p l e Rm s m args below meth c Z mc ms sh0 adr0 C adr H locs ls cells slots ⟨P.1, P.2.1, P.2.2.1, ⟨trivial, P.2.2.2.1.2.2⟩, P.2.2.2.2⟩ h1 h2)
theorem zv_ishr {x y : Int32} (hd : decode M.2.1 pc = .ok (.ishr, 1)) (k : zv_V E M d kc ks (pc + 1) lv (.int (x >>> (y &&& 31)) :: st) sh I J R Q) : zv_V E M d kc ks pc lv (.int y :: .int x :: st) sh I J R Q := by
  intro p l e Rm s m args below meth c Z mc ms sh0 adr0 C adr H locs ls cells slots P h1 h2
  exact lv_ishr C.1 C.2.1 hd (k p l e Rm s m args below meth c Z mc ms sh0 adr0 C adr H locs ls cells slots ⟨P.1, P.2.1, P.2.2.1, ⟨trivial, P.2.2.2.1.2.2⟩, P.2.2.2.2⟩ h1 h2)
theorem zv_idiv {x y : Int32} (hd : decode M.2.1 pc = .ok (.idiv, 1)) (hne : ¬ y = 0) (k : zv_V E M d kc ks (pc + 1) lv (.int (x / y) :: st) sh I J R Q) : zv_V E M d kc ks pc lv (.int y :: .int x :: st) sh I J R Q := by
  intro p l e Rm s m args below meth c Z mc ms sh0 adr0 C adr H locs ls cells slots P h1 h2
  exact lv_idiv C.1 C.2.1 hd hne (k p l e Rm s m args below meth c Z mc ms sh0 adr0 C adr H locs ls cells slots ⟨P.1, P.2.1, P.2.2.1, ⟨trivial, P.2.2.2.1.2.2⟩, P.2.2.2.2⟩ h1 h2)
theorem zv_irem {x y : Int32} (hd : decode M.2.1 pc = .ok (.irem, 1)) (hne : ¬ y = 0) (k : zv_V E M d kc ks (pc + 1) lv (.int (x - x / y * y) :: st) sh I J R Q) : zv_V E M d kc ks pc lv (.int y :: .int x :: st) sh I J R Q := by
  intro p l e Rm s m args below meth c Z mc ms sh0 adr0 C adr H locs ls cells slots P h1 h2
  exact lv_irem C.1 C.2.1 hd hne (k p l e Rm s m args below meth c Z mc ms sh0 adr0 C adr H locs ls cells slots ⟨P.1, P.2.1, P.2.2.1, ⟨trivial, P.2.2.2.1.2.2⟩, P.2.2.2.2⟩ h1 h2)
theorem zv_iushr {x y v : Int32} (hd : decode M.2.1 pc = .ok (.iushr, 1)) (hv : (x.toUInt32 >>> (y.toUInt32 &&& Int32.toUInt32 31)).toInt32 = v) (k : zv_V E M d kc ks (pc + 1) lv (.int v :: st) sh I J R Q) : zv_V E M d kc ks pc lv (.int y :: .int x :: st) sh I J R Q := by
  intro p l e Rm s m args below meth c Z mc ms sh0 adr0 C adr H locs ls cells slots P h1 h2
  exact lv_iushr C.1 C.2.1 hd hv (k p l e Rm s m args below meth c Z mc ms sh0 adr0 C adr H locs ls cells slots ⟨P.1, P.2.1, P.2.2.1, ⟨trivial, P.2.2.2.1.2.2⟩, P.2.2.2.2⟩ h1 h2)
theorem zv_ladd {x y : Int64} (hd : decode M.2.1 pc = .ok (.ladd, 1)) (k : zv_V E M d kc ks (pc + 1) lv (.long (x + y) :: st) sh I J R Q) : zv_V E M d kc ks pc lv (.long y :: .long x :: st) sh I J R Q := by
  intro p l e Rm s m args below meth c Z mc ms sh0 adr0 C adr H locs ls cells slots P h1 h2
  exact lv_ladd C.1 C.2.1 hd (k p l e Rm s m args below meth c Z mc ms sh0 adr0 C adr H locs ls cells slots ⟨P.1, P.2.1, P.2.2.1, ⟨trivial, P.2.2.2.1.2.2⟩, P.2.2.2.2⟩ h1 h2)
theorem zv_lsub {x y : Int64} (hd : decode M.2.1 pc = .ok (.lsub, 1)) (k : zv_V E M d kc ks (pc + 1) lv (.long (x - y) :: st) sh I J R Q) : zv_V E M d kc ks pc lv (.long y :: .long x :: st) sh I J R Q := by
  intro p l e Rm s m args below meth c Z mc ms sh0 adr0 C adr H locs ls cells slots P h1 h2
  exact lv_lsub C.1 C.2.1 hd (k p l e Rm s m args below meth c Z mc ms sh0 adr0 C adr H locs ls cells slots ⟨P.1, P.2.1, P.2.2.1, ⟨trivial, P.2.2.2.1.2.2⟩, P.2.2.2.2⟩ h1 h2)
theorem zv_land {x y : Int64} (hd : decode M.2.1 pc = .ok (.land, 1)) (k : zv_V E M d kc ks (pc + 1) lv (.long (x &&& y) :: st) sh I J R Q) : zv_V E M d kc ks pc lv (.long y :: .long x :: st) sh I J R Q := by
  intro p l e Rm s m args below meth c Z mc ms sh0 adr0 C adr H locs ls cells slots P h1 h2
  exact lv_land C.1 C.2.1 hd (k p l e Rm s m args below meth c Z mc ms sh0 adr0 C adr H locs ls cells slots ⟨P.1, P.2.1, P.2.2.1, ⟨trivial, P.2.2.2.1.2.2⟩, P.2.2.2.2⟩ h1 h2)
theorem zv_lor {x y : Int64} (hd : decode M.2.1 pc = .ok (.lor, 1)) (k : zv_V E M d kc ks (pc + 1) lv (.long (x ||| y) :: st) sh I J R Q) : zv_V E M d kc ks pc lv (.long y :: .long x :: st) sh I J R Q := by
  intro p l e Rm s m args below meth c Z mc ms sh0 adr0 C adr H locs ls cells slots P h1 h2
  exact lv_lor C.1 C.2.1 hd (k p l e Rm s m args below meth c Z mc ms sh0 adr0 C adr H locs ls cells slots ⟨P.1, P.2.1, P.2.2.1, ⟨trivial, P.2.2.2.1.2.2⟩, P.2.2.2.2⟩ h1 h2)
theorem zv_lushr {x v : Int64} {y : Int32} (hd : decode M.2.1 pc = .ok (.lushr, 1)) (hv : (x.toUInt64 >>> (y.toInt64.toUInt64 &&& Int64.toUInt64 63)).toInt64 = v) (k : zv_V E M d kc ks (pc + 1) lv (.long v :: st) sh I J R Q) : zv_V E M d kc ks pc lv (.int y :: .long x :: st) sh I J R Q := by
  intro p l e Rm s m args below meth c Z mc ms sh0 adr0 C adr H locs ls cells slots P h1 h2
  exact lv_lushr C.1 C.2.1 hd hv (k p l e Rm s m args below meth c Z mc ms sh0 adr0 C adr H locs ls cells slots ⟨P.1, P.2.1, P.2.2.1, ⟨trivial, P.2.2.2.1.2.2⟩, P.2.2.2.2⟩ h1 h2)
theorem zv_lshl {x v : Int64} {y : Int32} (hd : decode M.2.1 pc = .ok (.lshl, 1)) (hv : x <<< (y.toInt64 &&& 63) = v) (k : zv_V E M d kc ks (pc + 1) lv (.long v :: st) sh I J R Q) : zv_V E M d kc ks pc lv (.int y :: .long x :: st) sh I J R Q := by
  intro p l e Rm s m args below meth c Z mc ms sh0 adr0 C adr H locs ls cells slots P h1 h2
  exact lv_lshl C.1 C.2.1 hd hv (k p l e Rm s m args below meth c Z mc ms sh0 adr0 C adr H locs ls cells slots ⟨P.1, P.2.1, P.2.2.1, ⟨trivial, P.2.2.2.1.2.2⟩, P.2.2.2.2⟩ h1 h2)
theorem zv_l2i {x : Int64} {v : Int32} (hd : decode M.2.1 pc = .ok (.l2i, 1)) (hv : x.toInt32 = v) (k : zv_V E M d kc ks (pc + 1) lv (.int v :: st) sh I J R Q) : zv_V E M d kc ks pc lv (.long x :: st) sh I J R Q := by
  intro p l e Rm s m args below meth c Z mc ms sh0 adr0 C adr H locs ls cells slots P h1 h2
  exact lv_l2i C.1 C.2.1 hd hv (k p l e Rm s m args below meth c Z mc ms sh0 adr0 C adr H locs ls cells slots ⟨P.1, P.2.1, P.2.2.1, ⟨trivial, P.2.2.2.1.2⟩, P.2.2.2.2⟩ h1 h2)
theorem zv_dup {v : Value} (hd : decode M.2.1 pc = .ok (.dup, 1)) (hv : v.category = 1) (k : zv_V E M d kc ks (pc + 1) lv (v :: v :: st) sh I J R Q) : zv_V E M d kc ks pc lv (v :: st) sh I J R Q := by
  intro p l e Rm s m args below meth c Z mc ms sh0 adr0 C adr H locs ls cells slots P h1 h2
  exact lv_dup C.1 C.2.1 hd ((zv_v_cat adr v).trans hv) (k p l e Rm s m args below meth c Z mc ms sh0 adr0 C adr H locs ls cells slots ⟨P.1, P.2.1, P.2.2.1, ⟨P.2.2.2.1.1, P.2.2.2.1⟩, P.2.2.2.2⟩ h1 h2)
theorem zv_pop {v : Value} (hd : decode M.2.1 pc = .ok (.pop, 1)) (hv : v.category = 1) (k : zv_V E M d kc ks (pc + 1) lv (st) sh I J R Q) : zv_V E M d kc ks pc lv (v :: st) sh I J R Q := by
  intro p l e Rm s m args below meth c Z mc ms sh0 adr0 C adr H locs ls cells slots P h1 h2
  exact lv_pop C.1 C.2.1 hd ((zv_v_cat adr v).trans hv) (k p l e Rm s m args below meth c Z mc ms sh0 adr0 C adr H locs ls cells slots ⟨P.1, P.2.1, P.2.2.1, P.2.2.2.1.2, P.2.2.2.2⟩ h1 h2)
theorem zv_dup2 {v w : Value} (hd : decode M.2.1 pc = .ok (.dup2, 1)) (hv : v.category = 1) (hw : w.category = 1) (k : zv_V E M d kc ks (pc + 1) lv (v :: w :: v :: w :: st) sh I J R Q) : zv_V E M d kc ks pc lv (v :: w :: st) sh I J R Q := by
  intro p l e Rm s m args below meth c Z mc ms sh0 adr0 C adr H locs ls cells slots P h1 h2
  exact lv_dup2_11 C.1 C.2.1 hd ((zv_v_cat adr v).trans hv) ((zv_v_cat adr w).trans hw) (k p l e Rm s m args below meth c Z mc ms sh0 adr0 C adr H locs ls cells slots ⟨P.1, P.2.1, P.2.2.1, ⟨P.2.2.2.1.1, P.2.2.2.1.2.1, P.2.2.2.1⟩, P.2.2.2.2⟩ h1 h2)
-- BRANCHES
theorem zv_if_eq {x : Int32} {off : Int} {tgt : Nat} (hd : decode M.2.1 pc = .ok (.ifCond .eq off, 3)) (ht : (pc : Int) + off = (tgt : Int)) (kt : x = 0 → zv_V E M d kc ks tgt lv st sh I J R Q) (kf : ¬ x = 0 → zv_V E M d kc ks (pc + 3) lv st sh I J R Q) : zv_V E M d kc ks pc lv (.int x :: st) sh I J R Q := by
  intro p l e Rm s m args below meth c Z mc ms sh0 adr0 C adr H locs ls cells slots P h1 h2
  exact lv_if_eq C.1 C.2.1 hd ht (fun hc => (kt hc p l e Rm s m args below meth c Z mc ms sh0 adr0 C adr H locs ls cells slots ⟨P.1, P.2.1, P.2.2.1, P.2.2.2.1.2, P.2.2.2.2⟩ h1 h2)) (fun hc => (kf hc p l e Rm s m args below meth c Z mc ms sh0 adr0 C adr H locs ls cells slots ⟨P.1, P.2.1, P.2.2.1, P.2.2.2.1.2, P.2.2.2.2⟩ h1 h2))
theorem zv_icmp_eq {x y : Int32} {off : Int} {tgt : Nat} (hd : decode M.2.1 pc = .ok (.if_icmp .eq off, 3)) (ht : (pc : Int) + off = (tgt : Int)) (kt : x = y → zv_V E M d kc ks tgt lv st sh I J R Q) (kf : ¬ x = y → zv_V E M d kc ks (pc + 3) lv st sh I J R Q) : zv_V E M d kc ks pc lv (.int y :: .int x :: st) sh I J R Q := by
  intro p l e Rm s m args below meth c Z mc ms sh0 adr0 C adr H locs ls cells slots P h1 h2
  exact lv_icmp_eq C.1 C.2.1 hd ht (fun hc => (kt hc p l e Rm s m args below meth c Z mc ms sh0 adr0 C adr H locs ls cells slots ⟨P.1, P.2.1, P.2.2.1, P.2.2.2.1.2.2, P.2.2.2.2⟩ h1 h2)) (fun hc => (kf hc p l e Rm s m args below meth c Z mc ms sh0 adr0 C adr H locs ls cells slots ⟨P.1, P.2.1, P.2.2.1, P.2.2.2.1.2.2, P.2.2.2.2⟩ h1 h2))
theorem zv_if_ne {x : Int32} {off : Int} {tgt : Nat} (hd : decode M.2.1 pc = .ok (.ifCond .ne off, 3)) (ht : (pc : Int) + off = (tgt : Int)) (kt : ¬ x = 0 → zv_V E M d kc ks tgt lv st sh I J R Q) (kf : x = 0 → zv_V E M d kc ks (pc + 3) lv st sh I J R Q) : zv_V E M d kc ks pc lv (.int x :: st) sh I J R Q := by
  intro p l e Rm s m args below meth c Z mc ms sh0 adr0 C adr H locs ls cells slots P h1 h2
  exact lv_if_ne C.1 C.2.1 hd ht (fun hc => (kt hc p l e Rm s m args below meth c Z mc ms sh0 adr0 C adr H locs ls cells slots ⟨P.1, P.2.1, P.2.2.1, P.2.2.2.1.2, P.2.2.2.2⟩ h1 h2)) (fun hc => (kf hc p l e Rm s m args below meth c Z mc ms sh0 adr0 C adr H locs ls cells slots ⟨P.1, P.2.1, P.2.2.1, P.2.2.2.1.2, P.2.2.2.2⟩ h1 h2))
theorem zv_icmp_ne {x y : Int32} {off : Int} {tgt : Nat} (hd : decode M.2.1 pc = .ok (.if_icmp .ne off, 3)) (ht : (pc : Int) + off = (tgt : Int)) (kt : ¬ x = y → zv_V E M d kc ks tgt lv st sh I J R Q) (kf : x = y → zv_V E M d kc ks (pc + 3) lv st sh I J R Q) : zv_V E M d kc ks pc lv (.int y :: .int x :: st) sh I J R Q := by
  intro p l e Rm s m args below meth c Z mc ms sh0 adr0 C adr H locs ls cells slots P h1 h2
  exact lv_icmp_ne C.1 C.2.1 hd ht (fun hc => (kt hc p l e Rm s m args below meth c Z mc ms sh0 adr0 C adr H locs ls cells slots ⟨P.1, P.2.1, P.2.2.1, P.2.2.2.1.2.2, P.2.2.2.2⟩ h1 h2)) (fun hc => (kf hc p l e Rm s m args below meth c Z mc ms sh0 adr0 C adr H locs ls cells slots ⟨P.1, P.2.1, P.2.2.1, P.2.2.2.1.2.2, P.2.2.2.2⟩ h1 h2))
theorem zv_if_lt {x : Int32} {off : Int} {tgt : Nat} (hd : decode M.2.1 pc = .ok (.ifCond .lt off, 3)) (ht : (pc : Int) + off = (tgt : Int)) (kt : x < 0 → zv_V E M d kc ks tgt lv st sh I J R Q) (kf : ¬ x < 0 → zv_V E M d kc ks (pc + 3) lv st sh I J R Q) : zv_V E M d kc ks pc lv (.int x :: st) sh I J R Q := by
  intro p l e Rm s m args below meth c Z mc ms sh0 adr0 C adr H locs ls cells slots P h1 h2
  exact lv_if_lt C.1 C.2.1 hd ht (fun hc => (kt hc p l e Rm s m args below meth c Z mc ms sh0 adr0 C adr H locs ls cells slots ⟨P.1, P.2.1, P.2.2.1, P.2.2.2.1.2, P.2.2.2.2⟩ h1 h2)) (fun hc => (kf hc p l e Rm s m args below meth c Z mc ms sh0 adr0 C adr H locs ls cells slots ⟨P.1, P.2.1, P.2.2.1, P.2.2.2.1.2, P.2.2.2.2⟩ h1 h2))
theorem zv_icmp_lt {x y : Int32} {off : Int} {tgt : Nat} (hd : decode M.2.1 pc = .ok (.if_icmp .lt off, 3)) (ht : (pc : Int) + off = (tgt : Int)) (kt : x < y → zv_V E M d kc ks tgt lv st sh I J R Q) (kf : ¬ x < y → zv_V E M d kc ks (pc + 3) lv st sh I J R Q) : zv_V E M d kc ks pc lv (.int y :: .int x :: st) sh I J R Q := by
  intro p l e Rm s m args below meth c Z mc ms sh0 adr0 C adr H locs ls cells slots P h1 h2
  exact lv_icmp_lt C.1 C.2.1 hd ht (fun hc => (kt hc p l e Rm s m args below meth c Z mc ms sh0 adr0 C adr H locs ls cells slots ⟨P.1, P.2.1, P.2.2.1, P.2.2.2.1.2.2, P.2.2.2.2⟩ h1 h2)) (fun hc => (kf hc p l e Rm s m args below meth c Z mc ms sh0 adr0 C adr H locs ls cells slots ⟨P.1, P.2.1, P.2.2.1, P.2.2.2.1.2.2, P.2.2.2.2⟩ h1 h2))
theorem zv_if_ge {x : Int32} {off : Int} {tgt : Nat} (hd : decode M.2.1 pc = .ok (.ifCond .ge off, 3)) (ht : (pc : Int) + off = (tgt : Int)) (kt : 0 ≤ x → zv_V E M d kc ks tgt lv st sh I J R Q) (kf : ¬ 0 ≤ x → zv_V E M d kc ks (pc + 3) lv st sh I J R Q) : zv_V E M d kc ks pc lv (.int x :: st) sh I J R Q := by
  intro p l e Rm s m args below meth c Z mc ms sh0 adr0 C adr H locs ls cells slots P h1 h2
  exact lv_if_ge C.1 C.2.1 hd ht (fun hc => (kt hc p l e Rm s m args below meth c Z mc ms sh0 adr0 C adr H locs ls cells slots ⟨P.1, P.2.1, P.2.2.1, P.2.2.2.1.2, P.2.2.2.2⟩ h1 h2)) (fun hc => (kf hc p l e Rm s m args below meth c Z mc ms sh0 adr0 C adr H locs ls cells slots ⟨P.1, P.2.1, P.2.2.1, P.2.2.2.1.2, P.2.2.2.2⟩ h1 h2))
theorem zv_icmp_ge {x y : Int32} {off : Int} {tgt : Nat} (hd : decode M.2.1 pc = .ok (.if_icmp .ge off, 3)) (ht : (pc : Int) + off = (tgt : Int)) (kt : y ≤ x → zv_V E M d kc ks tgt lv st sh I J R Q) (kf : ¬ y ≤ x → zv_V E M d kc ks (pc + 3) lv st sh I J R Q) : zv_V E M d kc ks pc lv (.int y :: .int x :: st) sh I J R Q := by
  intro p l e Rm s m args below meth c Z mc ms sh0 adr0 C adr H locs ls cells slots P h1 h2
  exact lv_icmp_ge C.1 C.2.1 hd ht (fun hc => (kt hc p l e Rm s m args below meth c Z mc ms sh0 adr0 C adr H locs ls cells slots ⟨P.1, P.2.1, P.2.2.1, P.2.2.2.1.2.2, P.2.2.2.2⟩ h1 h2)) (fun hc => (kf hc p l e Rm s m args below meth c Z mc ms sh0 adr0 C adr H locs ls cells slots ⟨P.1, P.2.1, P.2.2.1, P.2.2.2.1.2.2, P.2.2.2.2⟩ h1 h2))
theorem zv_if_gt {x : Int32} {off : Int} {tgt : Nat} (hd : decode M.2.1 pc = .ok (.ifCond .gt off, 3)) (ht : (pc : Int) + off = (tgt : Int)) (kt : 0 < x → zv_V E M d kc ks tgt lv st sh I J R Q) (kf : ¬ 0 < x → zv_V E M d kc ks (pc + 3) lv st sh I J R Q) : zv_V E M d kc ks pc lv (.int x :: st) sh I J R Q := by
  intro p l e Rm s m args below meth c Z mc ms sh0 adr0 C adr H locs ls cells slots P h1 h2
  exact lv_if_gt C.1 C.2.1 hd ht (fun hc => (kt hc p l e Rm s m args below meth c Z mc ms sh0 adr0 C adr H locs ls cells slots ⟨P.1, P.2.1, P.2.2.1, P.2.2.2.1.2, P.2.2.2.2⟩ h1 h2)) (fun hc => (kf hc p l e Rm s m args below meth c Z mc ms sh0 adr0 C adr H locs ls cells slots ⟨P.1, P.2.1, P.2.2.1, P.2.2.2.1.2, P.2.2.2.2⟩ h1 h2))
theorem zv_icmp_gt {x y : Int32} {off : Int} {tgt : Nat} (hd : decode M.2.1 pc = .ok (.if_icmp .gt off, 3)) (ht : (pc : Int) + off = (tgt : Int)) (kt : y < x → zv_V E M d kc ks tgt lv st sh I J R Q) (kf : ¬ y < x → zv_V E M d kc ks (pc + 3) lv st sh I J R Q) : zv_V E M d kc ks pc lv (.int y :: .int x :: st) sh I J R Q := by
  intro p l e Rm s m args below meth c Z mc ms sh0 adr0 C adr H locs ls cells slots P h1 h2
  exact lv_icmp_gt C.1 C.2.1 hd ht (fun hc => (kt hc p l e Rm s m args below meth c Z mc ms sh0 adr0 C adr H locs ls cells slots ⟨P.1, P.2.1, P.2.2.1, P.2.2.2.1.2.2, P.2.2.2.2⟩ h1 h2)) (fun hc => (kf hc p l e Rm s m args below meth c Z mc ms sh0 adr0 C adr H locs ls cells slots ⟨P.1, P.2.1, P.2.2.1, P.2.2.2.1.2.2, P.2.2.2.2⟩ h1 h2))
theorem zv_if_le {x : Int32} {off : Int} {tgt : Nat} (hd : decode M.2.1 pc = .ok (.ifCond .le off, 3)) (ht : (pc : Int) + off = (tgt : Int)) (kt : x ≤ 0 → zv_V E M d kc ks tgt lv st sh I J R Q) (kf : ¬ x ≤ 0 → zv_V E M d kc ks (pc + 3) lv st sh I J R Q) : zv_V E M d kc ks pc lv (.int x :: st) sh I J R Q := by
  intro p l e Rm s m args below meth c Z mc ms sh0 adr0 C adr H locs ls cells slots P h1 h2
  exact lv_if_le C.1 C.2.1 hd ht (fun hc => (kt hc p l e Rm s m args below meth c Z mc ms sh0 adr0 C adr H locs ls cells slots ⟨P.1, P.2.1, P.2.2.1, P.2.2.2.1.2, P.2.2.2.2⟩ h1 h2)) (fun hc => (kf hc p l e Rm s m args below meth c Z mc ms sh0 adr0 C adr H locs ls cells slots ⟨P.1, P.2.1, P.2.2.1, P.2.2.2.1.2, P.2.2.2.2⟩ h1 h2))
theorem zv_icmp_le {x y : Int32} {off : Int} {tgt : Nat} (hd : decode M.2.1 pc = .ok (.if_icmp .le off, 3)) (ht : (pc : Int) + off = (tgt : Int)) (kt : x ≤ y → zv_V E M d kc ks tgt lv st sh I J R Q) (kf : ¬ x ≤ y → zv_V E M d kc ks (pc + 3) lv st sh I J R Q) : zv_V E M d kc ks pc lv (.int y :: .int x :: st) sh I J R Q := by
  intro p l e Rm s m args below meth c Z mc ms sh0 adr0 C adr H locs ls cells slots P h1 h2
  exact lv_icmp_le C.1 C.2.1 hd ht (fun hc => (kt hc p l e Rm s m args below meth c Z mc ms sh0 adr0 C adr H locs ls cells slots ⟨P.1, P.2.1, P.2.2.1, P.2.2.2.1.2.2, P.2.2.2.2⟩ h1 h2)) (fun hc => (kf hc p l e Rm s m args below meth c Z mc ms sh0 adr0 C adr H locs ls cells slots ⟨P.1, P.2.1, P.2.2.1, P.2.2.2.1.2.2, P.2.2.2.2⟩ h1 h2))
theorem zv_goto {off : Int} {tgt : Nat} (hd : decode M.2.1 pc = .ok (.goto off, 3)) (ht : (pc : Int) + off = (tgt : Int)) (k : zv_V E M d kc ks tgt lv st sh I J R Q) : zv_V E M d kc ks pc lv st sh I J R Q := by
  intro p l e Rm s m args below meth c Z mc ms sh0 adr0 C adr H locs ls cells slots P h1 h2
  exact lv_goto C.1 C.2.1 hd ht (k p l e Rm s m args below meth c Z mc ms sh0 adr0 C adr H locs ls cells slots ⟨P.1, P.2.1, P.2.2.1, P.2.2.2.1, P.2.2.2.2⟩ h1 h2)
theorem zv_ifnonnull {t : Nat} {off : Int} {tgt : Nat} (hd : decode M.2.1 pc = .ok (.ifnonnull off, 3)) (ht : (pc : Int) + off = (tgt : Int)) (k : zv_V E M d kc ks tgt lv st sh I J R Q) : zv_V E M d kc ks pc lv (.ref t :: st) sh I J R Q := by
  intro p l e Rm s m args below meth c Z mc ms sh0 adr0 C adr H locs ls cells slots P h1 h2
  exact lv_ifnonnull C.1 C.2.1 hd ht (k p l e Rm s m args below meth c Z mc ms sh0 adr0 C adr H locs ls cells slots ⟨P.1, P.2.1, P.2.2.1, P.2.2.2.1.2, P.2.2.2.2⟩ h1 h2)
theorem zv_ifnull {t : Nat} {off : Int} (hd : decode M.2.1 pc = .ok (.ifnull off, 3)) (k : zv_V E M d kc ks (pc + 3) lv st sh I J R Q) : zv_V E M d kc ks pc lv (.ref t :: st) sh I J R Q := by
  intro p l e Rm s m args below meth c Z mc ms sh0 adr0 C adr H locs ls cells slots P h1 h2
  exact lv_ifnull C.1 C.2.1 hd (k p l e Rm s m args below meth c Z mc ms sh0 adr0 C adr H locs ls cells slots ⟨P.1, P.2.1, P.2.2.1, P.2.2.2.1.2, P.2.2.2.2⟩ h1 h2)
theorem zv_ifnullN {off : Int} {tgt : Nat} (hd : decode M.2.1 pc = .ok (.ifnull off, 3)) (ht : (pc : Int) + off = (tgt : Int)) (k : zv_V E M d kc ks tgt lv st sh I J R Q) : zv_V E M d kc ks pc lv (.null :: st) sh I J R Q := by
  intro p l e Rm s m args below meth c Z mc ms sh0 adr0 C adr H locs ls cells slots P h1 h2
  exact lv_ifnullN C.1 C.2.1 hd ht (k p l e Rm s m args below meth c Z mc ms sh0 adr0 C adr H locs ls cells slots ⟨P.1, P.2.1, P.2.2.1, P.2.2.2.1.2, P.2.2.2.2⟩ h1 h2)
theorem zv_ifnonnullN {off : Int} (hd : decode M.2.1 pc = .ok (.ifnonnull off, 3)) (k : zv_V E M d kc ks (pc + 3) lv st sh I J R Q) : zv_V E M d kc ks pc lv (.null :: st) sh I J R Q := by
  intro p l e Rm s m args below meth c Z mc ms sh0 adr0 C adr H locs ls cells slots P h1 h2
  exact lv_ifnonnullN C.1 C.2.1 hd (k p l e Rm s m args below meth c Z mc ms sh0 adr0 C adr H locs ls cells slots ⟨P.1, P.2.1, P.2.2.1, P.2.2.2.1.2, P.2.2.2.2⟩ h1 h2)
theorem zv_lookup {dflt : Int} {ps : Array (Int × Int)} {len : Nat} {x : Int32} {off : Int} {tgt : Nat} (hd : decode M.2.1 pc = .ok (.lookupswitch dflt ps, len)) (hp : (ps.toList.zip (ps.toList.drop 1)).all (fun (a, next) => a.1 < next.1) = true) (ho : Op.lookupswitch.offset ps.toList dflt x.toInt = off) (ht : (pc : Int) + off = (tgt : Int)) (k : zv_V E M d kc ks tgt lv st sh I J R Q) : zv_V E M d kc ks pc lv (.int x :: st) sh I J R Q := by
  intro p l e Rm s m args below meth c Z mc ms sh0 adr0 C adr H locs ls cells slots P h1 h2
  exact lv_lookup C.1 C.2.1 hd hp ho ht (k p l e Rm s m args below meth c Z mc ms sh0 adr0 C adr H locs ls cells slots ⟨P.1, P.2.1, P.2.2.1, P.2.2.2.1.2, P.2.2.2.2⟩ h1 h2)
theorem zv_tableOut {dflt lo hi : Int} {offs : Array Int} {len : Nat} {x : Int32} {tgt : Nat} (hd : decode M.2.1 pc = .ok (.tableswitch dflt lo hi offs, len)) (h : x.toInt < lo ∨ hi < x.toInt) (ht : (pc : Int) + dflt = (tgt : Int)) (k : zv_V E M d kc ks tgt lv st sh I J R Q) : zv_V E M d kc ks pc lv (.int x :: st) sh I J R Q := by
  intro p l e Rm s m args below meth c Z mc ms sh0 adr0 C adr H locs ls cells slots P h1 h2
  exact lv_tableOut C.1 C.2.1 hd h ht (k p l e Rm s m args below meth c Z mc ms sh0 adr0 C adr H locs ls cells slots ⟨P.1, P.2.1, P.2.2.1, P.2.2.2.1.2, P.2.2.2.2⟩ h1 h2)
theorem zv_tableIn {dflt lo hi : Int} {offs : Array Int} {len : Nat} {x : Int32} {off : Int} {tgt : Nat} (hd : decode M.2.1 pc = .ok (.tableswitch dflt lo hi offs, len)) (hl : ¬ x.toInt < lo) (hh : ¬ hi < x.toInt) (ho : offs[(x.toInt - lo).toNat]? = some off) (ht : (pc : Int) + off = (tgt : Int)) (k : zv_V E M d kc ks tgt lv st sh I J R Q) : zv_V E M d kc ks pc lv (.int x :: st) sh I J R Q := by
  intro p l e Rm s m args below meth c Z mc ms sh0 adr0 C adr H locs ls cells slots P h1 h2
  exact lv_tableIn C.1 C.2.1 hd hl hh ho ht (k p l e Rm s m args below meth c Z mc ms sh0 adr0 C adr H locs ls cells slots ⟨P.1, P.2.1, P.2.2.1, P.2.2.2.1.2, P.2.2.2.2⟩ h1 h2)
theorem zv_lcmp {x y : Int64} {v : Int32} (hd : decode M.2.1 pc = .ok (.lcmp, 1)) (hv : lg_cmp x y = v) (k : zv_V E M d kc ks (pc + 1) lv (.int v :: st) sh I J R Q) : zv_V E M d kc ks pc lv (.long y :: .long x :: st) sh I J R Q := by
  intro p l e Rm s m args below meth c Z mc ms sh0 adr0 C adr H locs ls cells slots P h1 h2
  subst hv
  exact W.lcmp C.1 C.2.1 hd (k p l e Rm s m args below meth c Z mc ms sh0 adr0 C adr H locs ls cells slots ⟨P.1, P.2.1, P.2.2.1, ⟨trivial, P.2.2.2.1.2.2⟩, P.2.2.2.2⟩ h1 h2)
theorem zv_less {lv' : List Value} (h : ∃ r, lv = lv' ++ r) (k : zv_V E M d kc ks pc lv' st sh I J R Q) : zv_V E M d kc ks pc lv st sh I J R Q := by
  intro p l e Rm s m args below meth c Z mc ms sh0 adr0 C adr H locs ls cells slots P h1 h2
  obtain ⟨r, rfl⟩ := h
  have hz : ∀ (a b : List Value) (n : Nat) (q : Nat × Value), q ∈ zv_z n a → q ∈ zv_z n (a ++ b) := by
    intro a
    induction a with
    | nil => intro b n q h; cases h
    | cons v a ih => intro b n q h; exact (List.mem_cons.mp h).elim (fun e => by rw [e]; exact List.mem_cons_self) (fun h => List.mem_cons_of_mem _ (ih b (n + 1) q h))
  have hok : zv_oks sh lv' := zv_oks_mem fun v hv => zv_oks_all P.2.2.1 v (List.mem_append_left _ hv)
  have hl : zv_l ls M.2.2.1 (lv'.map (zv_v adr)) := by
    have h0 := P.2.1
    rw [List.map_append] at h0
    exact ⟨⟨h0.1.1, h0.1.2.1, fun q hq => h0.1.2.2 q (hz _ _ _ q hq)⟩, fun v hv => h0.2 v (List.mem_append_left _ hv)⟩
  exact k p l e Rm s m args below meth c Z mc ms sh0 adr0 C adr H locs ls cells slots ⟨P.1, hl, hok, P.2.2.2⟩ h1 h2
theorem zv_mono {kc' ks' : Nat} (a : kc' ≤ kc) (b : ks' ≤ ks) (k : zv_V E M d kc' ks' pc lv st sh I J R Q) : zv_V E M d kc ks pc lv st sh I J R Q := by
  intro p l e Rm s m args below meth c Z mc ms sh0 adr0 C adr H locs ls cells slots P h1 h2
  exact k p l e Rm s m args below meth c Z mc ms sh0 adr0 C adr H locs ls cells slots P (by omega) (by omega)
theorem zv_deep {d' : Nat} (a : d' ≤ d) (k : zv_V E M d' kc ks pc lv st sh I J R Q) : zv_V E M d kc ks pc lv st sh I J R Q := by
  intro p l e Rm s m args below meth c Z mc ms sh0 adr0 C adr H locs ls cells slots P h1 h2
  obtain ⟨c1, c2, c3, c4, c5, c6, c7, c8, c9, c10⟩ := C
  exact k p l e Rm s m args below meth c Z mc ms sh0 adr0 ⟨c1, c2, c3, c4, c5, c6, c7, by omega, by omega, c10⟩ adr H locs ls cells slots P h1 h2
theorem zv_post {Q' : zv_Q} (a : ∀ v sh I J R, Q' v sh I J R → Q v sh I J R) (k : zv_V E M d kc ks pc lv st sh I J R Q') : zv_V E M d kc ks pc lv st sh I J R Q := by
  intro p l e Rm s m args below meth c Z mc ms sh0 adr0 C adr H locs ls cells slots P h1 h2
  obtain ⟨c1, c2, c3, c4, c5, c6, c7, c8, c9, c10, c11, c12⟩ := C
  exact k p l e Rm s m args below meth c Z mc ms sh0 adr0 ⟨c1, c2, c3, c4, c5, c6, c7, c8, c9, c10, c11, fun v sh I J R adr H locs ls cells slots pc q => c12 v sh I J R adr H locs ls cells slots pc (a _ _ _ _ _ q)⟩ adr H locs ls cells slots P h1 h2
theorem zv_ret {v : Option Value} (hr : zv_ri M v pc) (hq : Q v sh I J R) : zv_V E M d kc ks pc lv v.toList sh I J R Q := by
  intro p l e Rm s m args below meth c Z mc ms sh0 adr0 C adr H locs ls cells slots P h1 h2
  exact C.2.2.2.2.2.2.2.2.2.2.2 v sh I J R adr H locs ls cells slots pc hq P.1 P.2.2.2.2.1 (fun x e => by subst e; exact P.2.2.2.1.1) P.2.2.2.2.2 (by omega) (by omega) hr
theorem zv_iret {x : Int32} {ty : FieldType} (hd : decode M.2.1 pc = .ok (.ireturn, 1)) (ht : M.2.2.2 = some ty) (hn : narrow ty (.int x) = .int x) (hq : Q (some (.int x)) sh I J R) : zv_V E M d kc ks pc lv [.int x] sh I J R Q := zv_ret (v := some (.int x)) ⟨hd, ty, ht, hn⟩ hq
theorem zv_vret (hd : decode M.2.1 pc = .ok (.return_, 1)) (ht : M.2.2.2 = none) (hq : Q none sh I J R) : zv_V E M d kc ks pc lv [] sh I J R Q := zv_ret (v := none) ⟨hd, ht⟩ hq
theorem zv_aret {t : Nat} {ty : FieldType} (hd : decode M.2.1 pc = .ok (.areturn, 1)) (ht : M.2.2.2 = some ty) (hy : (∃ n, ty = .object n) ∨ ∃ t, ty = .array t) (hq : Q (some (.ref t)) sh I J R) : zv_V E M d kc ks pc lv [.ref t] sh I J R Q := zv_ret (v := some (.ref t)) ⟨hd, ty, ht, hy⟩ hq
theorem zv_aretN {ty : FieldType} (hd : decode M.2.1 pc = .ok (.areturn, 1)) (ht : M.2.2.2 = some ty) (hy : (∃ n, ty = .object n) ∨ ∃ t, ty = .array t) (hq : Q (some .null) sh I J R) : zv_V E M d kc ks pc lv [.null] sh I J R Q := zv_ret (v := some .null) ⟨hd, ty, ht, hy⟩ hq
end ZR
end
section
/-! READING AND WRITING CELLS -/
theorem zv_v_rf (adr : Nat → Nat) (o : Option Nat) : zv_v adr (va_rf o) = va_rf (o.map adr) := by cases o <;> rfl
theorem zv_tys_at (dA : Nat → ClassId) {k : Nat} (h : k < 9) : (zv_tys dA)[k]? = some (dA k, zv_ty k) := by
  rcases (show k = 0 ∨ k = 1 ∨ k = 2 ∨ k = 3 ∨ k = 4 ∨ k = 5 ∨ k = 6 ∨ k = 7 ∨ k = 8 by omega) with e | e | e | e | e | e | e | e | e <;> subst e <;> rfl
/-- a link to field j of class c, by its own class or a nest mate -/
def zv_FL (own : String) (idx c j : Nat) : Prop := ∃ (C : String) (T : u_T) (N : Nat), zv_cl[c]? = some (C, T, N) ∧ j < N ∧ N = zv_nf c ∧ (∀ w ∈ u_ws C T N, w ∈ zv_gw) ∧ (∀ k, k < N → parseFieldDescriptor (T k).2.2.1 = some (zv_cty c k)) ∧ (∀ a, a < N → ∀ b, b < N → a ≠ b → (T a).2.1 ≠ (T b).2.1) ∧ (T j).1 = C ∧
  (Cond.fieldLink own idx (T j).1 (T j).2.1 (T j).2.2.1 ∈ zv_gw ∨ ∃ host, Cond.fieldLinkNest own idx (T j).1 (T j).2.1 (T j).2.2.1 host ∈ zv_nw)
/-- .. and the field isn't final, or it is, and we are in a constructor of its class -/
def zv_FW (own nm : String) (idx c j : Nat) : Prop := zv_FL own idx c j ∧ ∀ C T N, zv_cl[c]? = some (C, T, N) → ((T j).2.2.2 = false ∨ ((T j).2.2.2 = true ∧ nm = "<init>" ∧ C = own ∧ Cond.fieldLink own idx (T j).1 (T j).2.1 (T j).2.2.1 ∈ zv_gw))
theorem zv_row_i (I : zv_I) (t j : Nat) (x : Int32) : zv_u I t j x t = upd (I t) j x := by
  funext b
  by_cases h : b = j
  · subst h; rw [zv_u_s]; simp [upd]
  · rw [zv_u_j I x h]; simp [upd, h]
theorem zv_row_l (J : zv_J) (t j : Nat) (x : Int64) : zv_u J t j x t = vp_updL (J t) j x := by
  funext b
  by_cases h : b = j
  · subst h; rw [zv_u_s]; simp [vp_updL]
  · rw [zv_u_j J x h]; simp [vp_updL, h]
theorem zv_fs_i {adr : Nat → Nat} {c j t : Nat} {I : zv_I} {R : Nat → Option Nat} {x : Int32} (hr : zv_rfld c j = false) : (zv_fs adr c (I t) R).set j (.int x) = zv_fs adr c (zv_u I t j x t) R := by
  apply List.ext_getElem?
  intro b
  by_cases hb : b = j
  · subst hb
    by_cases hl : b < zv_nf c
    · rw [List.getElem?_set_self (by rw [zv_fs_len]; exact hl), zv_fs_at hl]
      simp [zv_fv, hr, zv_u_s]
    · rw [List.getElem?_eq_none (by simp [zv_fs_len]; omega), List.getElem?_eq_none (by rw [zv_fs_len]; omega)]
  · rw [List.getElem?_set_ne (Ne.symm hb)]
    by_cases hl : b < zv_nf c
    · rw [zv_fs_at hl, zv_fs_at hl]
      simp only [zv_fv]
      rw [zv_u_j I x hb]
    · rw [List.getElem?_eq_none (by rw [zv_fs_len]; omega), List.getElem?_eq_none (by rw [zv_fs_len]; omega)]
theorem zv_fs_r {adr : Nat → Nat} {c j t : Nat} {I : Nat → Int32} {R : zv_R} {o : Option Nat} (hr : zv_rfld c j = true) : (zv_fs adr c I (R t)).set j (va_rf (o.map adr)) = zv_fs adr c I (zv_u R t j o t) := by
  apply List.ext_getElem?
  intro b
  by_cases hb : b = j
  · subst hb
    by_cases hl : b < zv_nf c
    · rw [List.getElem?_set_self (by rw [zv_fs_len]; exact hl), zv_fs_at hl]
      simp [zv_fv, hr, zv_u_s]
    · rw [List.getElem?_eq_none (by simp [zv_fs_len]; omega), List.getElem?_eq_none (by rw [zv_fs_len]; omega)]
  · rw [List.getElem?_set_ne (Ne.symm hb)]
    by_cases hl : b < zv_nf c
    · rw [zv_fs_at hl, zv_fs_at hl]
      simp only [zv_fv]
      rw [zv_u_j R o hb]
    · rw [List.getElem?_eq_none (by rw [zv_fs_len]; omega), List.getElem?_eq_none (by rw [zv_fs_len]; omega)]
/-- one cell is changed -/
theorem zv_H_set {E : zv_E} {sh : zv_S} {I I' : zv_I} {J J' : zv_J} {R R' : zv_R} {adr : Nat → Nat} {H H1 : Heap} {ws : va_W} {q0 t : Nat} {kn : Nat × Nat} {e0 e1 : va_E} (hH : zv_H E sh I J R adr H)
    (hw : ∀ (t : Nat) (kn : Nat × Nat), sh t = some kn → ∃ k : Nat, ws[k]? = some (adr t, zv_ent E adr kn (I t) (J t) (R t))) (hq : ws[q0]? = some (adr t, e0)) (hs : sh t = some kn) (he : e1 = zv_ent E adr kn (I' t) (J' t) (R' t))
    (hi : ∀ a, a ≠ t → I' a = I a) (hj : ∀ a, a ≠ t → J' a = J a) (hr : ∀ a, a ≠ t → R' a = R a) (hc : ∀ j u, R' t j = some u → (sh u).isSome = true)
    (hP : va_P E.2.1 zv_cl (ws.set q0 (adr t, e1)) H1) (hD : va_D (zv_A E) (ws.set q0 (adr t, e1))) : zv_H E sh I' J' R' adr H1 := by
  obtain ⟨-, hinj, hcl, hro⟩ := hH
  have hl := (List.getElem?_eq_some_iff.mp hq).1
  refine ⟨⟨ws.set q0 (adr t, e1), fun a ka ha => ?_, hP, hD⟩, hinj, fun a j u ha hu => ?_, hro⟩
  · by_cases hat : a = t
    · subst hat
      cases ha.symm.trans hs
      exact ⟨q0, by rw [List.getElem?_set_self hl, he]⟩
    · obtain ⟨k, hk⟩ := hw a ka ha
      have hkq : k ≠ q0 := by
        intro e
        subst e
        rw [hq] at hk
        have e2 : adr t = adr a := congrArg Prod.fst (Option.some.inj hk)
        exact hat (hinj a t (by rw [ha]; rfl) (by rw [hs]; rfl) e2.symm)
      exact ⟨k, by rw [List.getElem?_set_ne (Ne.symm hkq), hk, hi a hat, hj a hat, hr a hat]⟩
  · by_cases hat : a = t
    · subst hat; exact hc j u hu
    · rw [hr a hat] at hu; exact hcl a j u ha hu
section ZH
variable {E : zv_E} {M : zv_M} {d kc ks pc : Nat} {lv st : List Value} {sh : zv_S} {I : zv_I} {J : zv_J} {R : zv_R} {Q : zv_Q}
theorem zv_getv {idx c j t n : Nat} (hd : decode M.2.1 pc = .ok (.getfield idx, 3)) (hf : zv_FL M.1.cls idx c j) (hs : sh t = some (10 + c, n)) {v : Value} (hv : ∀ adr : Nat → Nat, zv_fv adr c (I t) (R t) j = zv_v adr v) (hk : (∀ u, R t j = some u → (sh u).isSome = true) → zv_ok sh v) (k : zv_V E M d kc ks (pc + 3) lv (v :: st) sh I J R Q) : zv_V E M d kc ks pc lv (.ref t :: st) sh I J R Q := by
  intro p l e Rm s m args below meth c' Z mc ms sh0 adr0 C adr H locs ls cells slots P h1 h2
  obtain ⟨⟨ws, hw, hP, hD⟩, hinj, hcl, hro⟩ := P.1
  obtain ⟨q0, hq0⟩ := hw t _ hs
  rw [zv_ent_o] at hq0
  obtain ⟨Cn, T, N, hc, hj, hN, hin, hty, hnm, hT, hl⟩ := hf
  have hfs : (zv_fs adr c (I t) (R t))[j]? = some (zv_v adr v) := by rw [zv_fs_at (hN ▸ hj), hv]
  have kk := k p l e Rm s m args below meth c' Z mc ms sh0 adr0 C adr H locs ls cells slots ⟨P.1, P.2.1, P.2.2.1, ⟨hk (fun u hu => hcl t j u (by rw [hs]; rfl) hu), P.2.2.2.1.2⟩, P.2.2.2.2⟩ h1 h2
  rcases hl with hl | ⟨host, hl⟩
  · exact va_get (ci := c) C.1 C.2.1 C.2.2.2.2.1 hin C.2.2.2.1 C.2.2.2.2.2.2.1.1 hP q0 hq0 hc j hj (C.2.2.2.2.1 _ hl) (fun _ h => h) hfs hd kk
  · exact va_getN (ci := c) C.1 C.2.1 C.2.2.2.2.1 hin C.2.2.2.1 C.2.2.2.2.2.2.1.1 hP q0 hq0 hc j hj (va_Nw.use rfl (C.2.2.2.2.2.2.1.2.1 _ hl)) (fun _ h => h) hfs hd kk
theorem zv_geti {idx t n : Nat} (c j : Nat) (hd : decode M.2.1 pc = .ok (.getfield idx, 3)) (hf : zv_FL M.1.cls idx c j) (hs : sh t = some (10 + c, n)) (hr : zv_rfld c j = false) {x : Int32} (hx : I t j = x) (k : zv_V E M d kc ks (pc + 3) lv (.int x :: st) sh I J R Q) : zv_V E M d kc ks pc lv (.ref t :: st) sh I J R Q :=
  zv_getv hd hf hs (v := .int x) (fun adr => by simp [zv_fv, hr, zv_v, hx]) (fun _ => trivial) k
theorem zv_getr {idx t n u : Nat} (c j : Nat) (hd : decode M.2.1 pc = .ok (.getfield idx, 3)) (hf : zv_FL M.1.cls idx c j) (hs : sh t = some (10 + c, n)) (hr : zv_rfld c j = true) (hx : R t j = some u) (k : zv_V E M d kc ks (pc + 3) lv (.ref u :: st) sh I J R Q) : zv_V E M d kc ks pc lv (.ref t :: st) sh I J R Q :=
  zv_getv hd hf hs (v := .ref u) (fun adr => by simp [zv_fv, hr, zv_v, hx, va_rf]) (fun h => Or.inr (h u hx)) k
theorem zv_getN {idx t n : Nat} (c j : Nat) (hd : decode M.2.1 pc = .ok (.getfield idx, 3)) (hf : zv_FL M.1.cls idx c j) (hs : sh t = some (10 + c, n)) (hr : zv_rfld c j = true) (hx : R t j = none) (k : zv_V E M d kc ks (pc + 3) lv (.null :: st) sh I J R Q) : zv_V E M d kc ks pc lv (.ref t :: st) sh I J R Q :=
  zv_getv hd hf hs (v := .null) (fun adr => by simp [zv_fv, hr, zv_v, hx, va_rf]) (fun _ => trivial) k
theorem zv_put {idx c j t n : Nat} {v : Value} {I' : zv_I} {R' : zv_R} (hd : decode M.2.1 pc = .ok (.putfield idx, 3)) (hf : zv_FW M.1.cls M.1.name idx c j) (hs : sh t = some (10 + c, n)) (hn : ∀ adr, narrow (zv_cty c j) (zv_v adr v) = zv_v adr v) (hfit : ∀ adr, fits (zv_cty c j) (zv_v adr v) = true)
    (hv : ∀ adr : Nat → Nat, (zv_fs adr c (I t) (R t)).set j (zv_v adr v) = zv_fs adr c (I' t) (R' t)) (hi : ∀ a, a ≠ t → I' a = I a) (hr : ∀ a, a ≠ t → R' a = R a) (hcl' : zv_ok sh v → (∀ j u, R t j = some u → (sh u).isSome = true) → ∀ j u, R' t j = some u → (sh u).isSome = true)
    (k : zv_V E M d kc ks (pc + 3) lv st sh I' J R' Q) : zv_V E M d kc ks pc lv (v :: .ref t :: st) sh I J R Q := by
  intro p l e Rm s m args below meth c' Z mc ms sh0 adr0 C adr H locs ls cells slots P h1 h2
  obtain ⟨⟨ws, hw, hP, hD⟩, hinj, hcl, hro⟩ := P.1
  obtain ⟨q0, hq0⟩ := hw t _ hs
  have hq1 := hq0
  rw [zv_ent_o] at hq0
  obtain ⟨⟨Cn, T, N, hc, hj, hN, hin, hty, hnm, hT, hl⟩, hfw⟩ := hf
  have hlen : j < (zv_fs adr c (I t) (R t)).length := by rw [zv_fs_len, ← hN]; exact hj
  have kk : ∀ (H1 : Heap) (locs1 : List Loc), va_P E.2.1 zv_cl (ws.set q0 (adr t, .inr (c, (zv_fs adr c (I t) (R t)).set j (zv_v adr v)))) H1 → va_D (zv_A E) (ws.set q0 (adr t, .inr (c, (zv_fs adr c (I t) (R t)).set j (zv_v adr v)))) → va_S (zv_A E) s.heap H1 locs1 → W p l e Rm s m args below meth c' H1 locs1 cells slots Z (F0 m (pc + 3) ls (st.map (zv_v adr))) := by
    intro H1 locs1 hP1 hD1 hS1
    refine k p l e Rm s m args below meth c' Z mc ms sh0 adr0 C adr H1 locs1 ls cells slots ⟨?_, P.2.1, P.2.2.1, P.2.2.2.1.2.2, P.2.2.2.2.1, hS1⟩ h1 h2
    refine zv_H_set P.1 hw hq1 hs ?_ hi (fun _ _ => rfl) hr (hcl' P.2.2.2.1.1 (fun j u hu => hcl t j u (by rw [hs]; rfl) hu)) hP1 hD1
    rw [zv_ent_o, hv]
  rcases hfw Cn T N hc with hfin | ⟨hfin, hnm2, hown2, hl2⟩
  · rcases hl with hl | ⟨host, hl⟩
    · exact va_put (ci := c) C.1 C.2.1 C.2.2.2.2.1 hin (zv_cty c) hty hnm C.2.2.2.1 C.2.2.2.2.2.2.1.1 hP hD P.2.2.2.2.2 q0 hq0 hc j hj (C.2.2.2.2.1 _ hl) (fun _ h => h) hfin (hty j hj) (hn adr) (hfit adr) hlen hd kk
    · exact va_putN (ci := c) C.1 C.2.1 C.2.2.2.2.1 hin (zv_cty c) hty hnm C.2.2.2.1 C.2.2.2.2.2.2.1.1 hP hD P.2.2.2.2.2 q0 hq0 hc j hj (va_Nw.use rfl (C.2.2.2.2.2.2.1.2.1 _ hl)) (fun _ h => h) hfin (hty j hj) (hn adr) (hfit adr) hlen hd kk
  · exact va_putF (ci := c) C.1 C.2.1 C.2.2.2.2.1 hin (zv_cty c) hty hnm C.2.2.2.1 C.2.2.2.2.2.2.1.1 hP hD P.2.2.2.2.2 q0 hq0 hc j hj (C.2.2.2.2.1 _ hl2) (fun _ h => h) hfin (C.2.2.2.2.2.1 hnm2) (hT.trans hown2) (hty j hj) (hn adr) (hfit adr) hlen hd kk
theorem zv_rfld_int {c j : Nat} (h : zv_rfld c j = false) : zv_cty c j = .int := by
  unfold zv_rfld at h
  split at h
  · assumption
  · cases h
theorem zv_puti {idx t n : Nat} (c j : Nat) {x : Int32} (hd : decode M.2.1 pc = .ok (.putfield idx, 3)) (hf : zv_FW M.1.cls M.1.name idx c j) (hs : sh t = some (10 + c, n)) (hr : zv_rfld c j = false) (k : zv_V E M d kc ks (pc + 3) lv st sh (zv_u I t j x) J R Q) : zv_V E M d kc ks pc lv (.int x :: .ref t :: st) sh I J R Q :=
  zv_put (v := .int x) (R' := R) hd hf hs (fun adr => by rw [zv_rfld_int hr]; rfl) (fun adr => by rw [zv_rfld_int hr]; rfl) (fun adr => zv_fs_i hr) (fun a ha => zv_u_row I t j x ha) (fun _ _ => rfl) (fun _ h => h) k
theorem zv_putr {idx t n u : Nat} (c j : Nat) (hd : decode M.2.1 pc = .ok (.putfield idx, 3)) (hf : zv_FW M.1.cls M.1.name idx c j) (hs : sh t = some (10 + c, n)) (hr : zv_rfld c j = true) (hy : (∃ C, zv_cty c j = .object C) ∨ ∃ y, zv_cty c j = .array y) (hu : 3 ≤ u) (k : zv_V E M d kc ks (pc + 3) lv st sh I J (zv_u R t j (some u)) Q) : zv_V E M d kc ks pc lv (.ref u :: .ref t :: st) sh I J R Q :=
  zv_put (v := .ref u) (I' := I) hd hf hs (fun adr => by rcases hy with ⟨C, e⟩ | ⟨y, e⟩ <;> rw [e] <;> rfl) (fun adr => by rcases hy with ⟨C, e⟩ | ⟨y, e⟩ <;> rw [e] <;> rfl) (fun adr => zv_fs_r (o := some u) hr) (fun _ _ => rfl) (fun a ha => zv_u_row R t j (some u) ha)
    (fun hk hc b w hw => by
      by_cases hb : b = j
      · subst hb
        rw [zv_u_s] at hw
        cases hw
        exact (show u < 3 ∨ (sh u).isSome = true from hk).resolve_left (by omega)
      · rw [zv_u_j R _ hb] at hw
        exact hc b w hw) k
/-! arrays -/
theorem zv_vin {i : Int32} {j n : Nat} (hi : i = nI j) (hj : j < n) (hn : n < 2 ^ 31) : vp_in i n ∧ i.toNatClampNeg = j := by
  subst hi
  exact ⟨vp_in_nI hj hn, nI_clamp (Nat.lt_trans hj hn)⟩
theorem zv_alen {t k' n : Nat} (hd : decode M.2.1 pc = .ok (.arraylength, 1)) (hs : sh t = some (k', n)) (hk : k' < 9) (k : zv_V E M d kc ks (pc + 1) lv (.int (nI n) :: st) sh I J R Q) : zv_V E M d kc ks pc lv (.ref t :: st) sh I J R Q := by
  intro p l e Rm s m args below meth c Z mc ms sh0 adr0 C adr H locs ls cells slots P h1 h2
  obtain ⟨⟨ws, hw, hP, hD⟩, -⟩ := P.1
  obtain ⟨q0, hq0⟩ := hw t _ hs
  have kk := k p l e Rm s m args below meth c Z mc ms sh0 adr0 C adr H locs ls cells slots ⟨P.1, P.2.1, P.2.2.1, ⟨trivial, P.2.2.2.1.2⟩, P.2.2.2.2⟩ h1 h2
  have key : ∃ x : vp_A, zv_ent E adr (k', n) (I t) (J t) (R t) = .inl (E.2.2.1 k', x) ∧ x.1 = n := by
    by_cases a0 : k' = 0
    · subst a0; exact ⟨_, zv_ent_i E adr n _ _ _, rfl⟩
    by_cases a1 : k' = 1
    · subst a1; exact ⟨_, zv_ent_l E adr n _ _ _, rfl⟩
    by_cases a2 : k' = 2
    · subst a2; exact ⟨_, zv_ent_z E adr n _ _ _, rfl⟩
    exact ⟨_, zv_ent_r E adr (by omega) (by omega) n _ _ _, rfl⟩
  obtain ⟨x, hx, hxn⟩ := key
  rw [hx] at hq0
  exact va_alen (v := nI n) C.1 C.2.1 C.2.2.2.2.2.2.1.1 hP q0 k' hq0 (zv_tys_at E.2.2.1 hk) (by rw [hxn]; rfl) hd kk
theorem zv_slen (hd : decode M.2.1 pc = .ok (.arraylength, 1)) (k : zv_V E M d kc ks (pc + 1) lv (.int (nI E.2.2.2.2.1) :: st) sh I J R Q) : zv_V E M d kc ks pc lv (.ref 0 :: st) sh I J R Q := by
  intro p l e Rm s m args below meth c Z mc ms sh0 adr0 C adr H locs ls cells slots P h1 h2
  have kk := k p l e Rm s m args below meth c Z mc ms sh0 adr0 C adr H locs ls cells slots ⟨P.1, P.2.1, P.2.2.1, ⟨trivial, P.2.2.2.1.2⟩, P.2.2.2.2⟩ h1 h2
  have ha := (P.1.2.2.2 0 (by decide)).2
  show W p l e Rm s m args below meth c H locs cells slots Z (F0 m pc ls (.ref (adr 0) :: st.map (zv_v adr)))
  rw [ha]
  exact va_tlen C.1 C.2.1 C.2.2.2.2.2.2.1.2.2.2.2.2.2.2.1 P.2.2.2.2.2 rfl hd kk
theorem zv_iald {t n j : Nat} {i x : Int32} (hd : decode M.2.1 pc = .ok (.iaload, 1)) (hs : sh t = some (0, n)) (hi : i = nI j) (hj : j < n) (hn : n < 2 ^ 31) (hx : I t j = x) (k : zv_V E M d kc ks (pc + 1) lv (.int x :: st) sh I J R Q) : zv_V E M d kc ks pc lv (.int i :: .ref t :: st) sh I J R Q := by
  intro p l e Rm s m args below meth c Z mc ms sh0 adr0 C adr H locs ls cells slots P h1 h2
  obtain ⟨⟨ws, hw, hP, hD⟩, -⟩ := P.1
  obtain ⟨q0, hq0⟩ := hw t _ hs
  rw [zv_ent_i] at hq0
  obtain ⟨v1, v2⟩ := zv_vin hi hj hn
  have kk := k p l e Rm s m args below meth c Z mc ms sh0 adr0 C adr H locs ls cells slots ⟨P.1, P.2.1, P.2.2.1, ⟨trivial, P.2.2.2.1.2.2⟩, P.2.2.2.2⟩ h1 h2
  refine va_iald C.1 C.2.1 C.2.2.2.2.2.2.1.1 hP q0 0 hq0 rfl v1 hd ?_
  rw [v2, hx]
  exact kk
theorem zv_zald {t n j : Nat} {i x : Int32} (hd : decode M.2.1 pc = .ok (.baload, 1)) (hs : sh t = some (2, n)) (hi : i = nI j) (hj : j < n) (hn : n < 2 ^ 31) (hx : I t j = x) (k : zv_V E M d kc ks (pc + 1) lv (.int x :: st) sh I J R Q) : zv_V E M d kc ks pc lv (.int i :: .ref t :: st) sh I J R Q := by
  intro p l e Rm s m args below meth c Z mc ms sh0 adr0 C adr H locs ls cells slots P h1 h2
  obtain ⟨⟨ws, hw, hP, hD⟩, -⟩ := P.1
  obtain ⟨q0, hq0⟩ := hw t _ hs
  rw [zv_ent_z] at hq0
  obtain ⟨v1, v2⟩ := zv_vin hi hj hn
  have kk := k p l e Rm s m args below meth c Z mc ms sh0 adr0 C adr H locs ls cells slots ⟨P.1, P.2.1, P.2.2.1, ⟨trivial, P.2.2.2.1.2.2⟩, P.2.2.2.2⟩ h1 h2
  refine va_zald C.1 C.2.1 C.2.2.2.2.2.2.1.1 hP q0 2 hq0 rfl v1 hd ?_
  rw [v2, hx]
  exact kk
theorem zv_lald {t n j : Nat} {i : Int32} {x : Int64} (hd : decode M.2.1 pc = .ok (.laload, 1)) (hs : sh t = some (1, n)) (hi : i = nI j) (hj : j < n) (hn : n < 2 ^ 31) (hx : J t j = x) (k : zv_V E M d kc ks (pc + 1) lv (.long x :: st) sh I J R Q) : zv_V E M d kc ks pc lv (.int i :: .ref t :: st) sh I J R Q := by
  intro p l e Rm s m args below meth c Z mc ms sh0 adr0 C adr H locs ls cells slots P h1 h2
  obtain ⟨⟨ws, hw, hP, hD⟩, -⟩ := P.1
  obtain ⟨q0, hq0⟩ := hw t _ hs
  rw [zv_ent_l] at hq0
  obtain ⟨v1, v2⟩ := zv_vin hi hj hn
  have kk := k p l e Rm s m args below meth c Z mc ms sh0 adr0 C adr H locs ls cells slots ⟨P.1, P.2.1, P.2.2.1, ⟨trivial, P.2.2.2.1.2.2⟩, P.2.2.2.2⟩ h1 h2
  refine va_lald C.1 C.2.1 C.2.2.2.2.2.2.1.1 hP q0 1 hq0 rfl v1 hd ?_
  rw [v2, hx]
  exact kk
/-- the read-only rows -/
theorem zv_sald {j : Nat} {i x : Int32} (hd : decode M.2.1 pc = .ok (.iaload, 1)) (hi : i = nI j) (hj : j < E.2.2.2.2.1) (hn : E.2.2.2.2.1 < 2 ^ 31) (hx : E.2.2.2.2.2 j = x) (k : zv_V E M d kc ks (pc + 1) lv (.int x :: st) sh I J R Q) : zv_V E M d kc ks pc lv (.int i :: .ref 0 :: st) sh I J R Q := by
  intro p l e Rm s m args below meth c Z mc ms sh0 adr0 C adr H locs ls cells slots P h1 h2
  have kk := k p l e Rm s m args below meth c Z mc ms sh0 adr0 C adr H locs ls cells slots ⟨P.1, P.2.1, P.2.2.1, ⟨trivial, P.2.2.2.1.2.2⟩, P.2.2.2.2⟩ h1 h2
  obtain ⟨v1, v2⟩ := zv_vin hi hj hn
  have ha := (P.1.2.2.2 0 (by decide)).2
  show W p l e Rm s m args below meth c H locs cells slots Z (F0 m pc ls (.int i :: .ref (adr 0) :: st.map (zv_v adr)))
  rw [ha]
  exact va_ti C.1 C.2.1 C.2.2.2.2.2.2.1.2.2.2.2.2.2.2.1 P.2.2.2.2.2 v1 (v := .int x) (by rw [v2, hx]) hd kk
theorem zv_bald {j : Nat} {i x : Int32} (hd : decode M.2.1 pc = .ok (.iaload, 1)) (hi : i = nI j) (hj : j < 24) (hx : zv_bod j = x) (k : zv_V E M d kc ks (pc + 1) lv (.int x :: st) sh I J R Q) : zv_V E M d kc ks pc lv (.int i :: .ref 1 :: st) sh I J R Q := by
  intro p l e Rm s m args below meth c Z mc ms sh0 adr0 C adr H locs ls cells slots P h1 h2
  have kk := k p l e Rm s m args below meth c Z mc ms sh0 adr0 C adr H locs ls cells slots ⟨P.1, P.2.1, P.2.2.1, ⟨trivial, P.2.2.2.1.2.2⟩, P.2.2.2.2⟩ h1 h2
  obtain ⟨v1, v2⟩ := zv_vin hi hj (by decide)
  have ha := (P.1.2.2.2 1 (by decide)).2
  show W p l e Rm s m args below meth c H locs cells slots Z (F0 m pc ls (.int i :: .ref (adr 1) :: st.map (zv_v adr)))
  rw [ha]
  exact va_ti C.1 C.2.1 C.2.2.2.2.2.2.1.2.2.2.2.2.2.2.2.1 P.2.2.2.2.2 v1 (v := .int x) (by rw [v2, hx]) hd kk
theorem zv_kald {j : Nat} {i x : Int32} (hd : decode M.2.1 pc = .ok (.iaload, 1)) (hi : i = nI j) (hj : j < 6) (hx : zv_kab j = x) (k : zv_V E M d kc ks (pc + 1) lv (.int x :: st) sh I J R Q) : zv_V E M d kc ks pc lv (.int i :: .ref 2 :: st) sh I J R Q := by
  intro p l e Rm s m args below meth c Z mc ms sh0 adr0 C adr H locs ls cells slots P h1 h2
  have kk := k p l e Rm s m args below meth c Z mc ms sh0 adr0 C adr H locs ls cells slots ⟨P.1, P.2.1, P.2.2.1, ⟨trivial, P.2.2.2.1.2.2⟩, P.2.2.2.2⟩ h1 h2
  obtain ⟨v1, v2⟩ := zv_vin hi hj (by decide)
  have ha := (P.1.2.2.2 2 (by decide)).2
  show W p l e Rm s m args below meth c H locs cells slots Z (F0 m pc ls (.int i :: .ref (adr 2) :: st.map (zv_v adr)))
  rw [ha]
  exact va_ti C.1 C.2.1 C.2.2.2.2.2.2.1.2.2.2.2.2.2.2.2.2.1 P.2.2.2.2.2 v1 (v := .int x) (by rw [v2, hx]) hd kk
theorem zv_gets {idx b : Nat} (hd : decode M.2.1 pc = .ok (.getstatic idx, 3)) (hb : (b = 1 ∧ Cond.fieldLink M.1.cls idx RX7 "BODIES" "[I" ∈ zv_gw) ∨ (b = 2 ∧ Cond.fieldLink M.1.cls idx RX7 "KIND_ABOVE" "[I" ∈ zv_gw)) (k : zv_V E M d kc ks (pc + 3) lv (.ref b :: st) sh I J R Q) : zv_V E M d kc ks pc lv st sh I J R Q := by
  intro p l e Rm s m args below meth c Z mc ms sh0 adr0 C adr H locs ls cells slots P h1 h2
  have hb3 : b < 3 := by rcases hb with ⟨e, -⟩ | ⟨e, -⟩ <;> omega
  have kk := k p l e Rm s m args below meth c Z mc ms sh0 adr0 C adr H locs ls cells slots ⟨P.1, P.2.1, P.2.2.1, ⟨Or.inl hb3, P.2.2.2.1⟩, P.2.2.2.2⟩ h1 h2
  have ha := (P.1.2.2.2 b hb3).2
  have kk : W p l e Rm s m args below meth c H locs cells slots Z (F0 m (pc + 3) ls (.ref (adr b) :: st.map (zv_v adr))) := kk
  rw [ha] at kk
  rcases hb with ⟨e, hl⟩ | ⟨e, hl⟩
  · subst e
    exact va_gets C.1 C.2.1 C.2.2.2.2.2.2.1.2.2.2.2.2.1 P.2.2.2.2.2 C.2.2.2.1 (C.2.2.2.2.1 _ hl) (fun _ h => h) hd kk
  · subst e
    exact va_gets C.1 C.2.1 C.2.2.2.2.2.2.1.2.2.2.2.2.2.1 P.2.2.2.2.2 C.2.2.2.1 (C.2.2.2.2.1 _ hl) (fun _ h => h) hd kk
theorem zv_aald {t n j k' : Nat} {i : Int32} {o : Option Nat} (hd : decode M.2.1 pc = .ok (.aaload, 1)) (hs : sh t = some (k', n)) (h3 : 3 ≤ k') (h9 : k' < 9) (hi : i = nI j) (hj : j < n) (hn : n < 2 ^ 31) (hx : R t j = o) (k : zv_V E M d kc ks (pc + 1) lv (va_rf o :: st) sh I J R Q) : zv_V E M d kc ks pc lv (.int i :: .ref t :: st) sh I J R Q := by
  intro p l e Rm s m args below meth c Z mc ms sh0 adr0 C adr H locs ls cells slots P h1 h2
  obtain ⟨⟨ws, hw, hP, hD⟩, hinj, hcl, hro⟩ := P.1
  obtain ⟨q0, hq0⟩ := hw t _ hs
  rw [zv_ent_r E adr h3 (by omega)] at hq0
  obtain ⟨v1, v2⟩ := zv_vin hi hj hn
  have hok : zv_ok sh (va_rf o) := by
    cases o with
    | none => trivial
    | some u => exact Or.inr (hcl t j u (by rw [hs]; rfl) hx)
  have kk := k p l e Rm s m args below meth c Z mc ms sh0 adr0 C adr H locs ls cells slots ⟨P.1, P.2.1, P.2.2.1, ⟨hok, P.2.2.2.1.2.2⟩, P.2.2.2.2⟩ h1 h2
  have kk : W p l e Rm s m args below meth c H locs cells slots Z (F0 m (pc + 1) ls (zv_v adr (va_rf o) :: st.map (zv_v adr))) := kk
  rw [zv_v_rf] at kk
  have hlt : i.toNatClampNeg < n := by rw [v2]; exact hj
  have hty := zv_tys_at E.2.2.1 h9
  refine W.aald (v := va_rf (o.map adr)) (ty := zv_ty k') C.1 C.2.1 (hP q0 _ hq0) ((C.2.2.2.2.2.2.1.1.2 k' _ hty).1 n (fun j => va_rf ((R t j).map adr))) ?_ (fun q => by cases q) (by show ¬ (i < 0 ∨ (arrV _ _ _).slots.size ≤ _); rw [arrV_size]; exact v1) (by show (arrV _ _ _).slots[_]? = _; rw [arrV_read _ _ hlt, v2]; show some (va_rf ((R t j).map adr)) = _; rw [hx]) rfl rfl hd kk
  rcases (show k' = 3 ∨ k' = 4 ∨ k' = 5 ∨ k' = 6 ∨ k' = 7 ∨ k' = 8 by omega) with e | e | e | e | e | e <;> subst e <;> rfl
/-! stores into arrays -/
theorem zv_iast {t n j : Nat} {i x : Int32} (hd : decode M.2.1 pc = .ok (.iastore, 1)) (hs : sh t = some (0, n)) (hi : i = nI j) (hj : j < n) (hn : n < 2 ^ 31) (k : zv_V E M d kc ks (pc + 1) lv st sh (zv_u I t j x) J R Q) : zv_V E M d kc ks pc lv (.int x :: .int i :: .ref t :: st) sh I J R Q := by
  intro p l e Rm s m args below meth c Z mc ms sh0 adr0 C adr H locs ls cells slots P h1 h2
  obtain ⟨⟨ws, hw, hP, hD⟩, hinj, hcl, hro⟩ := P.1
  obtain ⟨q0, hq0⟩ := hw t _ hs
  have hq1 := hq0
  rw [zv_ent_i] at hq0
  obtain ⟨v1, v2⟩ := zv_vin hi hj hn
  refine va_iast C.1 C.2.1 C.2.2.2.2.2.2.1.1 hP hD P.2.2.2.2.2 q0 0 hq0 rfl v1 hd (fun H1 locs1 hP1 hD1 hS1 => ?_)
  refine k p l e Rm s m args below meth c Z mc ms sh0 adr0 C adr H1 locs1 ls cells slots ⟨?_, P.2.1, P.2.2.1, P.2.2.2.1.2.2.2, P.2.2.2.2.1, hS1⟩ h1 h2
  refine zv_H_set P.1 hw hq1 hs ?_ (fun a ha => zv_u_row I t j x ha) (fun _ _ => rfl) (fun _ _ => rfl) (fun j u hu => hcl t j u (by rw [hs]; rfl) hu) hP1 hD1
  rw [zv_ent_i, zv_row_i, v2]
theorem zv_zast {t n j : Nat} {i x : Int32} (hd : decode M.2.1 pc = .ok (.bastore, 1)) (hs : sh t = some (2, n)) (hi : i = nI j) (hj : j < n) (hn : n < 2 ^ 31) (hx : vp_nar .boolean x = x) (k : zv_V E M d kc ks (pc + 1) lv st sh (zv_u I t j x) J R Q) : zv_V E M d kc ks pc lv (.int x :: .int i :: .ref t :: st) sh I J R Q := by
  intro p l e Rm s m args below meth c Z mc ms sh0 adr0 C adr H locs ls cells slots P h1 h2
  obtain ⟨⟨ws, hw, hP, hD⟩, hinj, hcl, hro⟩ := P.1
  obtain ⟨q0, hq0⟩ := hw t _ hs
  have hq1 := hq0
  rw [zv_ent_z] at hq0
  obtain ⟨v1, v2⟩ := zv_vin hi hj hn
  refine va_zast C.1 C.2.1 C.2.2.2.2.2.2.1.1 hP hD P.2.2.2.2.2 q0 2 hq0 rfl v1 hd (fun H1 locs1 hP1 hD1 hS1 => ?_)
  rw [hx] at hP1 hD1
  refine k p l e Rm s m args below meth c Z mc ms sh0 adr0 C adr H1 locs1 ls cells slots ⟨?_, P.2.1, P.2.2.1, P.2.2.2.1.2.2.2, P.2.2.2.2.1, hS1⟩ h1 h2
  refine zv_H_set P.1 hw hq1 hs ?_ (fun a ha => zv_u_row I t j x ha) (fun _ _ => rfl) (fun _ _ => rfl) (fun j u hu => hcl t j u (by rw [hs]; rfl) hu) hP1 hD1
  rw [zv_ent_z, zv_row_i, v2]
theorem zv_last {t n j : Nat} {i : Int32} {x : Int64} (hd : decode M.2.1 pc = .ok (.lastore, 1)) (hs : sh t = some (1, n)) (hi : i = nI j) (hj : j < n) (hn : n < 2 ^ 31) (k : zv_V E M d kc ks (pc + 1) lv st sh I (zv_u J t j x) R Q) : zv_V E M d kc ks pc lv (.long x :: .int i :: .ref t :: st) sh I J R Q := by
  intro p l e Rm s m args below meth c Z mc ms sh0 adr0 C adr H locs ls cells slots P h1 h2
  obtain ⟨⟨ws, hw, hP, hD⟩, hinj, hcl, hro⟩ := P.1
  obtain ⟨q0, hq0⟩ := hw t _ hs
  have hq1 := hq0
  rw [zv_ent_l] at hq0
  obtain ⟨v1, v2⟩ := zv_vin hi hj hn
  refine va_last C.1 C.2.1 C.2.2.2.2.2.2.1.1 hP hD P.2.2.2.2.2 q0 1 hq0 rfl v1 hd (fun H1 locs1 hP1 hD1 hS1 => ?_)
  refine k p l e Rm s m args below meth c Z mc ms sh0 adr0 C adr H1 locs1 ls cells slots ⟨?_, P.2.1, P.2.2.1, P.2.2.2.1.2.2.2, P.2.2.2.2.1, hS1⟩ h1 h2
  refine zv_H_set P.1 hw hq1 hs ?_ (fun _ _ => rfl) (fun a ha => zv_u_row J t j x ha) (fun _ _ => rfl) (fun j u hu => hcl t j u (by rw [hs]; rfl) hu) hP1 hD1
  rw [zv_ent_l, zv_row_l, v2]
/-- a reference (or null) into a row of references: which class of value fits which row -/
def zv_fitR (sh : zv_S) (k' : Nat) (o : Option Nat) : Prop := match o with
  | none => 4 ≤ k'
  | some u => (k' = 3 ∧ ∃ n, sh u = some (0, n)) ∨ ∃ n, (k' = 4 ∧ sh u = some (13, n)) ∨ (k' = 5 ∧ sh u = some (10, n)) ∨ (k' = 6 ∧ sh u = some (12, n)) ∨ (k' = 7 ∧ sh u = some (11, n)) ∨ (k' = 8 ∧ (sh u = some (12, n) ∨ sh u = some (11, n)))
end ZH
end
section
/-! STORES OF REFERENCES, NEW CELLS, CASTS -/
theorem zv_row_r (adr : Nat → Nat) (R : zv_R) (t j : Nat) (o : Option Nat) : (fun b => (zv_u R t j o t b).map adr) = va_up (fun b => (R t b).map adr) j (o.map adr) := by
  funext b
  by_cases h : b = j
  · subst h; rw [zv_u_s]; simp [va_up]
  · rw [zv_u_j R o h]; simp [va_up, h]
theorem zv_ent_ext {E : zv_E} {adr adr' : Nat → Nat} {kn : Nat × Nat} {I : Nat → Int32} {J : Nat → Int64} {R : Nat → Option Nat} (h : ∀ j u, R j = some u → adr' u = adr u) : zv_ent E adr' kn I J R = zv_ent E adr kn I J R := by
  have e : (fun j => (R j).map adr') = fun j => (R j).map adr := by
    funext j
    cases hj : R j with
    | none => rfl
    | some u => simp [h j u hj]
  have e2 : zv_fs adr' (kn.1 - 10) I R = zv_fs adr (kn.1 - 10) I R := by
    unfold zv_fs
    apply List.map_congr_left
    intro j _
    have := congrFun e j
    simp only [zv_fv]
    rw [this]
  unfold zv_ent
  rw [e, e2]
theorem zv_v_ext {sh : zv_S} {adr adr' : Nat → Nat} (h : ∀ a, (a < 3 ∨ (sh a).isSome = true) → adr' a = adr a) : ∀ {lv : List Value}, zv_oks sh lv → lv.map (zv_v adr') = lv.map (zv_v adr)
  | [], _ => rfl
  | v :: lv, hk => by
    rw [List.map_cons, List.map_cons, zv_v_ext h hk.2]
    congr 1
    cases v with
    | ref t => exact congrArg Value.ref (h t hk.1)
    | _ => rfl
theorem zv_oks_mono {sh sh' : zv_S} (h : ∀ a, (sh a).isSome = true → (sh' a).isSome = true) : ∀ {lv : List Value}, zv_oks sh lv → zv_oks sh' lv
  | [], _ => trivial
  | v :: lv, hk => ⟨by cases v with
      | ref t => exact (show t < 3 ∨ (sh t).isSome = true from hk.1).elim Or.inl (fun q => Or.inr (h t q))
      | _ => trivial, zv_oks_mono h hk.2⟩
theorem zv_sn_some {sh : zv_S} {t : Nat} {kn : Nat × Nat} (a : Nat) (h : (sh a).isSome = true) : (zv_sn sh t kn a).isSome = true := by
  by_cases e : a = t
  · subst e; rw [zv_sn_s]; rfl
  · rw [zv_sn_t sh kn e]; exact h
def zv_ad (adr : Nat → Nat) (t q : Nat) : Nat → Nat := fun a => if a = t then q else adr a
theorem zv_ad_s (adr : Nat → Nat) (t q : Nat) : zv_ad adr t q t = q := if_pos rfl
theorem zv_ad_t (adr : Nat → Nat) {t q a : Nat} (h : a ≠ t) : zv_ad adr t q a = adr a := if_neg h
theorem zv_H_push {E : zv_E} {sh : zv_S} {I : zv_I} {J : zv_J} {R : zv_R} {adr : Nat → Nat} {H H1 : Heap} {ws : va_W} {t q : Nat} {kn : Nat × Nat} {e : va_E} {gi : Nat → Int32} {gj : Nat → Int64} (hH : zv_H E sh I J R adr H)
    (hw : ∀ (t : Nat) (kn : Nat × Nat), sh t = some kn → ∃ k : Nat, ws[k]? = some (adr t, zv_ent E adr kn (I t) (J t) (R t))) (ht : sh t = none) (h3 : 3 ≤ t) (he : ∀ adr', e = zv_ent E adr' kn gi gj (fun _ => none))
    (hP : va_P E.2.1 zv_cl (ws ++ [(q, e)]) H1) (hD : va_D (zv_A E) (ws ++ [(q, e)])) : zv_H E (zv_sn sh t kn) (zv_n I t gi) (zv_n J t gj) (zv_n R t (fun _ => none)) (zv_ad adr t q) H1 := by
  obtain ⟨-, hinj, hcl, hro⟩ := hH
  have hlast : (ws ++ [(q, e)])[ws.length]? = some (q, e) := by simp
  have hne : ∀ a, (sh a).isSome = true → a ≠ t := fun a ha e => by rw [e, ht] at ha; cases ha
  have hold : ∀ a, (sh a).isSome = true → zv_ad adr t q a = adr a := fun a ha => zv_ad_t adr (hne a ha)
  have hq : ∀ a, (sh a).isSome = true → adr a ≠ q := by
    intro a ha e1
    obtain ⟨ka, hka⟩ := Option.isSome_iff_exists.mp ha
    obtain ⟨k, hk⟩ := hw a ka hka
    have hl := (List.getElem?_eq_some_iff.mp hk).1
    have h1 : (ws ++ [(q, e)])[k]? = some (adr a, zv_ent E adr ka (I a) (J a) (R a)) := by rw [List.getElem?_append_left hl]; exact hk
    have := hD.1 k ws.length _ _ h1 hlast e1
    omega
  have hsn : ∀ a, (zv_sn sh t kn a).isSome = true → a = t ∨ (sh a).isSome = true := by
    intro a ha
    by_cases e : a = t
    · exact Or.inl e
    · rw [zv_sn_t sh kn e] at ha; exact Or.inr ha
  refine ⟨⟨ws ++ [(q, e)], fun a ka ha => ?_, hP, hD⟩, fun a b ha hb hab => ?_, fun a j u ha hu => ?_, fun a ha => ?_⟩
  · by_cases e1 : a = t
    · subst e1
      rw [zv_sn_s] at ha
      cases ha
      refine ⟨ws.length, ?_⟩
      rw [hlast, zv_n_s, zv_n_s, zv_n_s, zv_ad_s, ← he]
    · rw [zv_sn_t sh kn e1] at ha
      obtain ⟨k, hk⟩ := hw a ka ha
      have hl := (List.getElem?_eq_some_iff.mp hk).1
      refine ⟨k, ?_⟩
      rw [List.getElem?_append_left hl, hk, zv_n_t I gi e1, zv_n_t J gj e1, zv_n_t R _ e1, zv_ad_t adr e1]
      rw [zv_ent_ext (fun j u hu => hold u (hcl a j u (by rw [ha]; rfl) hu))]
  · rcases hsn a ha with ea | la <;> rcases hsn b hb with eb | lb
    · rw [ea, eb]
    · rw [ea, zv_ad_s, hold b lb] at hab
      exact absurd hab.symm (hq b lb)
    · rw [eb, zv_ad_s, hold a la] at hab
      exact absurd hab (hq a la)
    · rw [hold a la, hold b lb] at hab
      exact hinj a b la lb hab
  · rcases hsn a ha with ea | la
    · subst ea
      rw [zv_n_s] at hu
      cases hu
    · rw [zv_n_t R _ (hne a la)] at hu
      exact zv_sn_some u (hcl a j u la hu)
  · have e1 : a ≠ t := by omega
    exact ⟨by rw [zv_sn_t sh kn e1]; exact (hro a ha).1, by rw [zv_ad_t adr e1]; exact (hro a ha).2⟩
/-- a frame behind a new cell -/
theorem zv_P_push {E : zv_E} {M : zv_M} {lv st : List Value} {sh : zv_S} {I : zv_I} {J : zv_J} {R : zv_R} {sh0 : zv_S} {adr0 adr : Nat → Nat} {H H1 H0 : Heap} {locs : List Loc} {ls : Array Slot} {t q : Nat} {kn : Nat × Nat} {gi : Nat → Int32} {gj : Nat → Int64} (P : zv_P E M lv st sh I J R sh0 adr0 adr H H0 locs ls) (ht : sh t = none) (h3 : 3 ≤ t)
    (hH : zv_H E (zv_sn sh t kn) (zv_n I t gi) (zv_n J t gj) (zv_n R t (fun _ => none)) (zv_ad adr t q) H1) (hS : va_S (zv_A E) H0 H1 locs) :
    zv_P E M lv (.ref t :: st) (zv_sn sh t kn) (zv_n I t gi) (zv_n J t gj) (zv_n R t (fun _ => none)) sh0 adr0 (zv_ad adr t q) H1 H0 locs ls ∧ (Value.ref t :: st).map (zv_v (zv_ad adr t q)) = .ref q :: st.map (zv_v adr) := by
  have hx : ∀ a, (a < 3 ∨ (sh a).isSome = true) → zv_ad adr t q a = adr a := by
    intro a ha
    refine zv_ad_t adr fun e => ?_
    subst e
    rcases ha with ha | ha
    · omega
    · rw [ht] at ha; cases ha
  refine ⟨⟨hH, by rw [zv_v_ext hx P.2.2.1]; exact P.2.1, zv_oks_mono (fun a => zv_sn_some a) P.2.2.1, ⟨Or.inr (by rw [zv_sn_s]; rfl), zv_oks_mono (fun a => zv_sn_some a) P.2.2.2.1⟩, fun a ha => ?_, hS⟩, ?_⟩
  · obtain ⟨g1, g2⟩ := P.2.2.2.2.1 a ha
    exact ⟨zv_sn_some a g1, by rw [hx a (Or.inr g1)]; exact g2⟩
  · rw [List.map_cons, zv_v_ext hx P.2.2.2.1]
    simp [zv_v, zv_ad_s]
def zv_NL (own : String) (idx c : Nat) : Prop := ∃ (C : String) (T : u_T) (N : Nat), zv_cl[c]? = some (C, T, N) ∧ N = zv_nf c ∧ c < 8 ∧ (∀ w ∈ u_ws C T N, w ∈ zv_gw) ∧ (∀ k, k < N → parseFieldDescriptor (T k).2.2.1 = some (zv_cty c k)) ∧ Cond.classLink own idx C ∈ zv_gw ∧ Cond.instantiable C N ∈ zv_gw ∧ Cond.initialized C ∈ zv_gw
theorem zv_dflt : ∀ c, c < 8 → ∀ j, j < zv_nf c → defaultValue (zv_cty c j) = if zv_rfld c j = true then .null else .int 0 := by decide +kernel
section ZA
variable {E : zv_E} {M : zv_M} {d kc ks pc : Nat} {lv st : List Value} {sh : zv_S} {I : zv_I} {J : zv_J} {R : zv_R} {Q : zv_Q}
theorem zv_new {idx t : Nat} (c : Nat) (hd : decode M.2.1 pc = .ok (.new idx, 3)) (hl : zv_NL M.1.cls idx c) (ht : sh t = none) (h3 : 3 ≤ t) (k : zv_V E M d kc ks (pc + 3) lv (.ref t :: st) (zv_sn sh t (10 + c, 0)) (zv_n I t (fun _ => 0)) (zv_n J t (fun _ => 0)) (zv_n R t (fun _ => none)) Q) : zv_V E M d (kc + 1) (ks + zv_nf c) pc lv st sh I J R Q := by
  intro p l e Rm s m args below meth c' Z mc ms sh0 adr0 C adr H locs ls cells slots P h1 h2
  obtain ⟨⟨ws, hw, hP, hD⟩, hinj, hcl, hro⟩ := P.1
  obtain ⟨Cn, T, N, hc, hN, hc8, hin, hty, hl1, hl2, hl3⟩ := hl
  obtain ⟨c1, c2, c3, c4, c5, c6, c7, c8, c9, c10, c11, c12⟩ := id C
  subst hN
  have hA : ∀ q, s.heap.size ≤ q → zv_A E q := fun q hq => Nat.le_trans c7.2.2.2.2.2.2.2.2.2.2 hq
  refine va_new (ci := c) (fs := zv_fs adr c (fun _ => 0) (fun _ => none)) c1 c2 c5 hin (zv_cty c) hty c4 (c5 _ hl1) (c5 _ hl2) (c5 _ hl3) c7.1 hP hD P.2.2.2.2.2 hA hc (fun j hj => ?_) (by omega) (by omega) hd (fun q H1 hP1 hD1 hS1 => ?_)
  · rw [zv_dflt c hc8 j hj]
    show _ = (zv_fs adr c (fun _ => 0) (fun _ => none)).getD j .null
    rw [List.getD_eq_getElem?_getD, zv_fs_at hj]
    simp [zv_fv, va_rf]
  · have hH := zv_H_push (t := t) (kn := (10 + c, 0)) (gi := fun _ => 0) (gj := fun _ => 0) P.1 hw ht h3 (fun adr' => by
      rw [zv_ent_o]
      rfl) hP1 hD1
    obtain ⟨P1, e1⟩ := zv_P_push P ht h3 hH hS1
    have kk := k p l e Rm s m args below meth c' Z mc ms sh0 adr0 C _ H1 locs ls (cells + 1) (slots + zv_nf c) P1 (by omega) (by omega)
    rw [e1] at kk
    exact kk
/-- new rows of numbers: k' 0 int, 1 long, 2 boolean -/
theorem zv_newa {atype : ArrayType} {t k' N : Nat} {n : Int32} (hd : decode M.2.1 pc = .ok (.newarray atype, 2)) (ha : newarray.typeOf atype = zv_ty k') (hk : k' < 3) (hl : Cond.arrayClass (zv_ty k') ∈ zv_gw) (hn : n = nI N) (hN : N < 2 ^ 20) (ht : sh t = none) (h3 : 3 ≤ t) (k : zv_V E M d kc ks (pc + 2) lv (.ref t :: st) (zv_sn sh t (k', N)) (zv_n I t (fun _ => 0)) (zv_n J t (fun _ => 0)) (zv_n R t (fun _ => none)) Q) : zv_V E M d (kc + 1) (ks + N) pc lv (.int n :: st) sh I J R Q := by
  intro p l e Rm s m args below meth c' Z mc ms sh0 adr0 C adr H locs ls cells slots P h1 h2
  obtain ⟨⟨ws, hw, hP, hD⟩, hinj, hcl, hro⟩ := P.1
  obtain ⟨c1, c2, c3, c4, c5, c6, c7, c8, c9, c10, c11, c12⟩ := id C
  have hA : ∀ q, s.heap.size ≤ q → zv_A E q := fun q hq => Nat.le_trans c7.2.2.2.2.2.2.2.2.2.2 hq
  have hcl2 : n.toNatClampNeg = N := by rw [hn]; exact nI_clamp (by omega)
  have hnn : ¬ n < 0 := by rw [hn]; exact nI_pos (by omega)
  have key : ∃ a0 : vp_A, (∀ cA : ClassId, vp_cell cA a0 = arrV cA N (fun _ => defaultValue (zv_ty k'))) ∧ (∀ adr', (.inl (E.2.2.1 k', a0) : va_E) = zv_ent E adr' (k', N) (fun _ => 0) (fun _ => 0) (fun _ => none)) ∧ N * componentBytes (zv_ty k') ≤ 536870912 := by
    rcases (show k' = 0 ∨ k' = 1 ∨ k' = 2 by omega) with e | e | e <;> subst e
    · exact ⟨(N, .inl (fun _ => 0)), fun cA => rfl, fun adr' => (zv_ent_i E adr' N _ _ _).symm, by show N * 4 ≤ _; omega⟩
    · exact ⟨(N, .inr (.inl (fun _ => 0))), fun cA => rfl, fun adr' => (zv_ent_l E adr' N _ _ _).symm, by show N * 8 ≤ _; omega⟩
    · exact ⟨(N, .inl (fun _ => 0)), fun cA => rfl, fun adr' => (zv_ent_z E adr' N _ _ _).symm, by show N * 1 ≤ _; omega⟩
  obtain ⟨a0, ha0, he0, hbt⟩ := key
  refine va_newa (N' := N) (a0 := a0) c1 c2 (by rw [ha]; exact c5 _ hl) ha c7.1 hP hD P.2.2.2.2.2 hA ha0 hnn hcl2 hbt (by omega) (by omega) hd (fun q cA H1 hK1 hP1 hD1 hS1 => ?_)
  have hcA : cA = E.2.2.1 k' := by
    have h9 := (hK1.2 9 (cA, zv_ty k') (by simp [zv_tys])).2
    have h0 := (c7.1.2 k' _ (zv_tys_at E.2.2.1 (by omega))).2
    rcases (show k' = 0 ∨ k' = 1 ∨ k' = 2 by omega) with e | e | e <;> subst e <;> exact Option.some.inj (Eq.trans (Eq.symm h9) h0)
  subst hcA
  have hH := zv_H_push (t := t) (kn := (k', N)) (gi := fun _ => 0) (gj := fun _ => 0) P.1 hw ht h3 he0 hP1 hD1
  obtain ⟨P1, e1⟩ := zv_P_push (st := st) ⟨P.1, P.2.1, P.2.2.1, P.2.2.2.1.2, P.2.2.2.2⟩ ht h3 hH hS1
  have kk := k p l e Rm s m args below meth c' Z mc ms sh0 adr0 C _ H1 locs ls (cells + 1) (slots + N) P1 (by omega) (by omega)
  rw [e1] at kk
  exact kk
/-- new rows of references to objects: k' 4 .. 8 -/
theorem zv_newq {idx t k' N : Nat} {Cn : String} {n : Int32} (hd : decode M.2.1 pc = .ok (.anewarray idx, 3)) (ha : zv_ty k' = .object Cn) (h3' : 3 ≤ k') (h9 : k' < 9) (hl : Cond.classLink M.1.cls idx Cn ∈ zv_gw) (ho : Cn ∈ zv_ao) (hn : n = nI N) (hN : N < 2 ^ 20) (ht : sh t = none) (h3 : 3 ≤ t) (k : zv_V E M d kc ks (pc + 3) lv (.ref t :: st) (zv_sn sh t (k', N)) (zv_n I t (fun _ => 0)) (zv_n J t (fun _ => 0)) (zv_n R t (fun _ => none)) Q) : zv_V E M d (kc + 1) (ks + N) pc lv (.int n :: st) sh I J R Q := by
  intro p l e Rm s m args below meth c' Z mc ms sh0 adr0 C adr H locs ls cells slots P h1 h2
  obtain ⟨⟨ws, hw, hP, hD⟩, hinj, hcl, hro⟩ := P.1
  obtain ⟨c1, c2, c3, c4, c5, c6, c7, c8, c9, c10, c11, c12⟩ := id C
  have hA : ∀ q, s.heap.size ≤ q → zv_A E q := fun q hq => Nat.le_trans c7.2.2.2.2.2.2.2.2.2.2 hq
  have hcl2 : n.toNatClampNeg = N := by rw [hn]; exact nI_clamp (by omega)
  have hnn : ¬ n < 0 := by rw [hn]; exact nI_pos (by omega)
  refine va_newq (N' := N) c1 c2 c4 (c5 _ hl) (c7.2.2.1 _ ho) c7.1 hP hD P.2.2.2.2.2 hA hnn hcl2 (by omega) (by omega) (by omega) hd (fun q cA H1 hK1 hP1 hD1 hS1 => ?_)
  have hcA : cA = E.2.2.1 k' := by
    have h9 := (hK1.2 9 (cA, .object Cn) (by simp [zv_tys])).2
    have h0 := (c7.1.2 k' _ (zv_tys_at E.2.2.1 (by omega))).2
    rw [ha] at h0
    obtain ⟨_, _, _, _, _, g1⟩ := h9
    obtain ⟨_, _, _, _, _, g2⟩ := h0
    exact Option.some.inj (g1.symm.trans g2)
  subst hcA
  have hH := zv_H_push (t := t) (kn := (k', N)) (gi := fun _ => 0) (gj := fun _ => 0) P.1 hw ht h3 (fun adr' => by rw [zv_ent_r E adr' h3' (by omega)]; rfl) hP1 hD1
  obtain ⟨P1, e1⟩ := zv_P_push (st := st) ⟨P.1, P.2.1, P.2.2.1, P.2.2.2.1.2, P.2.2.2.2⟩ ht h3 hH hS1
  have kk := k p l e Rm s m args below meth c' Z mc ms sh0 adr0 C _ H1 locs ls (cells + 1) (slots + N) P1 (by omega) (by omega)
  rw [e1] at kk
  exact kk
theorem zv_aoa {t : FieldType} {A B : Array Value} {U : State} (h : (Cond.arrayOver (.array t)).before A U = true) : (Cond.arrayOver (.array t)).before B U = true := h
/-- new rows of int rows -/
theorem zv_newA {idx t N : Nat} {n : Int32} (hd : decode M.2.1 pc = .ok (.anewarray idx, 3)) (hl : Cond.classLink M.1.cls idx "[I" ∈ zv_gw) (hn : n = nI N) (hN : N < 2 ^ 20) (ht : sh t = none) (h3 : 3 ≤ t) (k : zv_V E M d kc ks (pc + 3) lv (.ref t :: st) (zv_sn sh t (3, N)) (zv_n I t (fun _ => 0)) (zv_n J t (fun _ => 0)) (zv_n R t (fun _ => none)) Q) : zv_V E M d (kc + 1) (ks + N) pc lv (.int n :: st) sh I J R Q := by
  intro p l e Rm s m args below meth c' Z mc ms sh0 adr0 C adr H locs ls cells slots P h1 h2
  obtain ⟨⟨ws, hw, hP, hD⟩, hinj, hcl, hro⟩ := P.1
  obtain ⟨c1, c2, c3, c4, c5, c6, c7, c8, c9, c10, c11, c12⟩ := id C
  have hA : ∀ q, s.heap.size ≤ q → zv_A E q := fun q hq => Nat.le_trans c7.2.2.2.2.2.2.2.2.2.2 hq
  have hcl2 : n.toNatClampNeg = N := by rw [hn]; exact nI_clamp (by omega)
  have hnn : ¬ n < 0 := by rw [hn]; exact nI_pos (by omega)
  have hS := P.2.2.2.2.2
  have hlk : (Cond.classLink M.1.cls idx (FieldType.array .int).toString).before args s = true := by
    have e1 : (FieldType.array .int).toString = "[I" := by decide +kernel
    rw [e1]
    exact c5 _ hl
  refine W.anewA (t := .int) c1 c2 c4 hlk (zv_aoa c7.2.2.2.1) rfl hd rfl hnn (by rw [hcl2]; omega) (by omega) (by rw [hcl2]; omega) fun cA kA comp f1 f2 f3 f4 => ?_
  rw [hcl2]
  generalize hH1 : H.push ({ cls := cA, slots := Array.replicate N .null, vm := .none } : Cell) = H1
  have z1 : H1.size = H.size + 1 := by rw [← hH1, Array.size_push]
  have e1 : H1[H.size]? = some (arrV cA N (fun _ => .null)) := by rw [← hH1, Array.getElem?_push_size, ← arrV_new]
  have o1 : ∀ q : Nat, q < H.size → H1[q]? = H[q]? := fun q hq => by rw [← hH1, Array.getElem?_push, if_neg (Nat.ne_of_lt hq)]
  have hcA : cA = E.2.2.1 3 := by
    have h0 : va_RA s (E.2.2.1 3) (.array .int) := (c7.1.2 3 (E.2.2.1 3, .array .int) rfl).2
    have h0 : s.vm.findClass ("[" ++ (FieldType.array .int).toString) = some (E.2.2.1 3) := h0
    exact Option.some.inj (f1.symm.trans h0)
  subst hcA
  have hk : ∀ (k : Nat) (x : Nat × va_E), ws[k]? = some x → H1[x.1]? = H[x.1]? := fun k x hx => o1 x.1 ((hP k x hx).lt)
  have hP1 : va_P E.2.1 zv_cl (ws ++ [(H.size, .inl (E.2.2.1 3, N, .inr (.inr (.inr (.inr (fun _ => none))))))]) H1 := (hP.kept hk).app (fun k x hx => by
    have hz : k < 1 := (List.getElem?_eq_some_iff.mp hx).1
    rw [show k = 0 by omega] at hx
    cases hx
    exact e1)
  have hD1 : va_D (zv_A E) (ws ++ [(H.size, .inl (E.2.2.1 3, N, .inr (.inr (.inr (.inr (fun _ => none))))))]) := hD.push hP rfl (hA _ hS.1)
  have hS1 : va_S (zv_A E) s.heap H1 locs := ⟨Nat.le_trans hS.1 (by omega), fun x h1 h2 => (o1 x (Nat.lt_of_lt_of_le h1 hS.1)).trans (hS.2.1 x h1 h2), hS.2.2⟩
  have hH := zv_H_push (t := t) (kn := (3, N)) (gi := fun _ => 0) (gj := fun _ => 0) P.1 hw ht h3 (fun adr' => by rw [zv_ent_r E adr' (by omega) (by omega)]; rfl) hP1 hD1
  obtain ⟨P1, e2⟩ := zv_P_push (st := st) ⟨P.1, P.2.1, P.2.2.1, P.2.2.2.1.2, P.2.2.2.2⟩ ht h3 hH hS1
  have kk := k p l e Rm s m args below meth c' Z mc ms sh0 adr0 C _ H1 locs ls (cells + 1) (slots + N) P1 (by omega) (by omega)
  rw [e2] at kk
  exact kk
/-- int[].clone() -/
theorem zv_clone {idx t t0 N : Nat} (hd : decode M.2.1 pc = .ok (.invokevirtual idx, 3)) (hl : Cond.methodLink M.1.cls idx ⟨"[I", "clone", "()Ljava/lang/Object;"⟩ ∈ zv_gw) (hs : sh t0 = some (0, N)) (hN : N < 2 ^ 20) (hsame : Cond.sameMethod "[I" "java/lang/Object" "clone" "()Ljava/lang/Object;" ∈ zv_gw) (hnat : Cond.native ⟨"java/lang/Object", "clone", "()Ljava/lang/Object;"⟩ ∈ zv_gw) (hinst : Cond.instanceMethod ⟨"java/lang/Object", "clone", "()Ljava/lang/Object;"⟩ ∈ zv_gw) (hsel : Cond.selects "[I" ⟨"[I", "clone", "()Ljava/lang/Object;"⟩ ⟨"java/lang/Object", "clone", "()Ljava/lang/Object;"⟩ ∈ zv_gw) (hcast : Cond.castable "[I" "java/lang/Cloneable" ∈ zv_nw)
    (hdd : 1 ≤ d) (hcat : (st.map fun v => v.category).sum + 14 ≤ 40) (ht : sh t = none) (h3 : 3 ≤ t) (k : zv_V E M d kc ks (pc + 3) lv (.ref t :: st) (zv_sn sh t (0, N)) (zv_n I t (I t0)) (zv_n J t (J t0)) (zv_n R t (fun _ => none)) Q) : zv_V E M d (kc + 1) (ks + N) pc lv (.ref t0 :: st) sh I J R Q := by
  intro p l e Rm s m args below meth c' Z mc ms sh0 adr0 C adr H locs ls cells slots P h1 h2
  obtain ⟨⟨ws, hw, hP, hD⟩, hinj, hcl, hro⟩ := P.1
  obtain ⟨q0, hq0⟩ := hw t0 _ hs
  rw [zv_ent_i] at hq0
  obtain ⟨c1, c2, c3, c4, c5, c6, c7, c8, c9, c10, c11, c12⟩ := id C
  have hA : ∀ q, s.heap.size ≤ q → zv_A E q := fun q hq => Nat.le_trans c7.2.2.2.2.2.2.2.2.2.2 hq
  have h0 := (c7.1.2 0 _ (zv_tys_at E.2.2.1 (by omega))).2
  refine va_clone (x := (N, .inl (I t0))) c1 c2 (c3.trans P.2.1.1.1.symm) c4 (c5 _ hl) (c5 _ hsame) (c5 _ hnat) (c5 _ hinst) (c5 _ hsel) (c7.2.1 _ hcast) c7.1 hP hD P.2.2.2.2.2 hA q0 0 hq0 rfl (va_nm_int h0) (va_fit (fun i _ => rfl)) (by omega) (by rw [zv_cats]; omega) (by omega) (by show slots + N ≤ _; omega) hd (fun q H1 hK1 hP1 hD1 hS1 => ?_)
  have hH := zv_H_push (t := t) (kn := (0, N)) (gi := I t0) (gj := J t0) P.1 hw ht h3 (fun adr' => (zv_ent_i E adr' N _ _ _).symm) hP1 hD1
  obtain ⟨P1, e1⟩ := zv_P_push (st := st) ⟨P.1, P.2.1, P.2.2.1, P.2.2.2.1.2, P.2.2.2.2⟩ ht h3 hH hS1
  have kk := k p l e Rm s m args below meth c' Z mc ms sh0 adr0 C _ H1 locs ls (cells + 1) (slots + N) P1 (by omega) (by omega)
  rw [e1] at kk
  exact kk
/-! casts -/
theorem zv_castA {idx t N : Nat} (hd : decode M.2.1 pc = .ok (.checkcast idx, 3)) (hl : Cond.classLink M.1.cls idx "[I" ∈ zv_gw) (hs : sh t = some (0, N)) (k : zv_V E M d kc ks (pc + 3) lv (.ref t :: st) sh I J R Q) : zv_V E M d kc ks pc lv (.ref t :: st) sh I J R Q := by
  intro p l e Rm s m args below meth c' Z mc ms sh0 adr0 C adr H locs ls cells slots P h1 h2
  obtain ⟨⟨ws, hw, hP, hD⟩, hinj, hcl, hro⟩ := P.1
  obtain ⟨q0, hq0⟩ := hw t _ hs
  rw [zv_ent_i] at hq0
  obtain ⟨c1, c2, c3, c4, c5, c6, c7, c8⟩ := id C
  have h0 := (c7.1.2 0 _ (zv_tys_at E.2.2.1 (by omega))).2
  exact va_castA c1 c2 c4 (c5 _ hl) hP q0 hq0 (va_nm_int h0) hd (k p l e Rm s m args below meth c' Z mc ms sh0 adr0 C adr H locs ls cells slots P h1 h2)
theorem zv_recv {s : State} {H : Heap} {adr : Nat → Nat} {t c n : Nat} {q : vw_C} (hH : zv_H E sh I J R adr H) (hT : zv_T E s) (hs : sh t = some (10 + c, n)) (hc : zv_cl[c]? = some q) : ∃ cell : Cell, H[adr t]? = some cell ∧ cell.vm.isStatics = false ∧ s.vm.findClass q.1 = some cell.cls := by
  obtain ⟨⟨ws, hw, hP, hD⟩, -⟩ := hH
  obtain ⟨q0, hq0⟩ := hw t _ hs
  rw [zv_ent_o] at hq0
  exact va_recv hT.1 hP hc hq0
theorem zv_cast {idx t c n : Nat} {q : vw_C} (hd : decode M.2.1 pc = .ok (.checkcast idx, 3)) (hs : sh t = some (10 + c, n)) (hc : zv_cl[c]? = some q) (hl : Cond.classLink M.1.cls idx q.1 ∈ zv_gw) (k : zv_V E M d kc ks (pc + 3) lv (.ref t :: st) sh I J R Q) : zv_V E M d kc ks pc lv (.ref t :: st) sh I J R Q := by
  intro p l e Rm s m args below meth c' Z mc ms sh0 adr0 C adr H locs ls cells slots P h1 h2
  obtain ⟨c1, c2, c3, c4, c5, c6, c7, c8⟩ := id C
  exact va_castS c1 c2 c4 (c5 _ hl) (c7.1.1 c q hc).2 (zv_recv P.1 c7 hs hc) hd (k p l e Rm s m args below meth c' Z mc ms sh0 adr0 C adr H locs ls cells slots P h1 h2)
theorem zv_instY {idx t c n : Nat} {q : vw_C} (hd : decode M.2.1 pc = .ok (.instanceof idx, 3)) (hs : sh t = some (10 + c, n)) (hc : zv_cl[c]? = some q) (hl : Cond.classLink M.1.cls idx q.1 ∈ zv_gw) (k : zv_V E M d kc ks (pc + 3) lv (.int 1 :: st) sh I J R Q) : zv_V E M d kc ks pc lv (.ref t :: st) sh I J R Q := by
  intro p l e Rm s m args below meth c' Z mc ms sh0 adr0 C adr H locs ls cells slots P h1 h2
  obtain ⟨c1, c2, c3, c4, c5, c6, c7, c8⟩ := id C
  exact va_instS c1 c2 c4 (c5 _ hl) (c7.1.1 c q hc).2 (zv_recv P.1 c7 hs hc) hd (k p l e Rm s m args below meth c' Z mc ms sh0 adr0 C adr H locs ls cells slots ⟨P.1, P.2.1, P.2.2.1, ⟨trivial, P.2.2.2.1.2⟩, P.2.2.2.2⟩ h1 h2)
theorem zv_instNo {idx t c n : Nat} {q : vw_C} {nm : String} (hd : decode M.2.1 pc = .ok (.instanceof idx, 3)) (hs : sh t = some (10 + c, n)) (hc : zv_cl[c]? = some q) (hn : (q.1, nm) ∈ zv_nc) (hl : Cond.classLink M.1.cls idx nm ∈ zv_gw) (k : zv_V E M d kc ks (pc + 3) lv (.int 0 :: st) sh I J R Q) : zv_V E M d kc ks pc lv (.ref t :: st) sh I J R Q := by
  intro p l e Rm s m args below meth c' Z mc ms sh0 adr0 C adr H locs ls cells slots P h1 h2
  obtain ⟨c1, c2, c3, c4, c5, c6, c7, c8⟩ := id C
  exact va_instNo c1 c2 c4 (c5 _ hl) (c7.2.2.2.2.1 _ hn) (zv_recv P.1 c7 hs hc) hd (k p l e Rm s m args below meth c' Z mc ms sh0 adr0 C adr H locs ls cells slots ⟨P.1, P.2.1, P.2.2.1, ⟨trivial, P.2.2.2.1.2⟩, P.2.2.2.2⟩ h1 h2)
theorem zv_instN {idx : Nat} (hd : decode M.2.1 pc = .ok (.instanceof idx, 3)) (k : zv_V E M d kc ks (pc + 3) lv (.int 0 :: st) sh I J R Q) : zv_V E M d kc ks pc lv (.null :: st) sh I J R Q := by
  intro p l e Rm s m args below meth c' Z mc ms sh0 adr0 C adr H locs ls cells slots P h1 h2
  exact lv_instN C.1 C.2.1 hd (k p l e Rm s m args below meth c' Z mc ms sh0 adr0 C adr H locs ls cells slots ⟨P.1, P.2.1, P.2.2.1, ⟨trivial, P.2.2.2.1.2⟩, P.2.2.2.2⟩ h1 h2)
theorem zv_acmp_eq {off : Int} {tgt : Nat} {a b : Option Nat} (hd : decode M.2.1 pc = .ok (.if_acmp .eq off, 3)) (ht : (pc : Int) + off = (tgt : Int)) (ha : ∀ x, a = some x → 3 ≤ x) (hb : ∀ x, b = some x → 3 ≤ x) (kt : a = b → zv_V E M d kc ks tgt lv st sh I J R Q) (kf : ¬ a = b → zv_V E M d kc ks (pc + 3) lv st sh I J R Q) : zv_V E M d kc ks pc lv (va_rf b :: va_rf a :: st) sh I J R Q := by
  intro p l e Rm s m args below meth c' Z mc ms sh0 adr0 C adr H locs ls cells slots P h1 h2
  have hok := P.2.2.2.1
  have hinj : a.map adr = b.map adr ↔ a = b := by
    refine ⟨fun h => ?_, fun h => by rw [h]⟩
    cases a with
    | none => cases b with
      | none => rfl
      | some y => cases h
    | some x => cases b with
      | none => cases h
      | some y =>
        have e1 : adr x = adr y := Option.some.inj h
        have hy : y < 3 ∨ (sh y).isSome = true := hok.1
        have hx : x < 3 ∨ (sh x).isSome = true := hok.2.1
        have := ha x rfl
        have := hb y rfl
        rw [P.1.2.1 x y (hx.resolve_left (by omega)) (hy.resolve_left (by omega)) e1]
  show W p l e Rm s m args below meth c' H locs cells slots Z (F0 m pc ls (zv_v adr (va_rf b) :: zv_v adr (va_rf a) :: st.map (zv_v adr)))
  rw [zv_v_rf, zv_v_rf]
  exact lv_acmp_eq C.1 C.2.1 hd ht (fun h => kt (hinj.mp h) p l e Rm s m args below meth c' Z mc ms sh0 adr0 C adr H locs ls cells slots ⟨P.1, P.2.1, P.2.2.1, P.2.2.2.1.2.2, P.2.2.2.2⟩ h1 h2) (fun h => kf (fun q => h (hinj.mpr q)) p l e Rm s m args below meth c' Z mc ms sh0 adr0 C adr H locs ls cells slots ⟨P.1, P.2.1, P.2.2.1, P.2.2.2.1.2.2, P.2.2.2.2⟩ h1 h2)
theorem zv_acmp_ne {off : Int} {tgt : Nat} {a b : Option Nat} (hd : decode M.2.1 pc = .ok (.if_acmp .ne off, 3)) (ht : (pc : Int) + off = (tgt : Int)) (ha : ∀ x, a = some x → 3 ≤ x) (hb : ∀ x, b = some x → 3 ≤ x) (kt : ¬ a = b → zv_V E M d kc ks tgt lv st sh I J R Q) (kf : a = b → zv_V E M d kc ks (pc + 3) lv st sh I J R Q) : zv_V E M d kc ks pc lv (va_rf b :: va_rf a :: st) sh I J R Q := by
  intro p l e Rm s m args below meth c' Z mc ms sh0 adr0 C adr H locs ls cells slots P h1 h2
  have hok := P.2.2.2.1
  have hinj : a.map adr = b.map adr ↔ a = b := by
    refine ⟨fun h => ?_, fun h => by rw [h]⟩
    cases a with
    | none => cases b with
      | none => rfl
      | some y => cases h
    | some x => cases b with
      | none => cases h
      | some y =>
        have e1 : adr x = adr y := Option.some.inj h
        have hy : y < 3 ∨ (sh y).isSome = true := hok.1
        have hx : x < 3 ∨ (sh x).isSome = true := hok.2.1
        have := ha x rfl
        have := hb y rfl
        rw [P.1.2.1 x y (hx.resolve_left (by omega)) (hy.resolve_left (by omega)) e1]
  show W p l e Rm s m args below meth c' H locs cells slots Z (F0 m pc ls (zv_v adr (va_rf b) :: zv_v adr (va_rf a) :: st.map (zv_v adr)))
  rw [zv_v_rf, zv_v_rf]
  exact lv_acmp_ne C.1 C.2.1 hd ht (fun h => kt (fun q => h (hinj.mpr q)) p l e Rm s m args below meth c' Z mc ms sh0 adr0 C adr H locs ls cells slots ⟨P.1, P.2.1, P.2.2.1, P.2.2.2.1.2.2, P.2.2.2.2⟩ h1 h2) (fun h => kf (hinj.mp h) p l e Rm s m args below meth c' Z mc ms sh0 adr0 C adr H locs ls cells slots ⟨P.1, P.2.1, P.2.2.1, P.2.2.2.1.2.2, P.2.2.2.2⟩ h1 h2)
end ZA
end
section
/-! STORES OF REFERENCES INTO ROWS; CALLS -/
section ZS
variable {E : zv_E} {M : zv_M} {d kc ks pc : Nat} {lv st : List Value} {sh : zv_S} {I : zv_I} {J : zv_J} {R : zv_R} {Q : zv_Q}
theorem zv_nwm {w : Cond} {s U : State} (h : zv_isN w = true) (hW : s.WarmedH U.vm) (hZ : va_Nw w s) : va_Nw w U := by
  cases w <;> first | exact va_Nw.warmF hW hZ | exact va_Nw.warmM hW hZ | exact va_Nw.warmC hW hZ | cases h
theorem zv_nwo {w : Cond} (h : zv_isN w = true) : w.onTables = true := by
  cases w <;> first | rfl | cases h
theorem zv_nw_is {w : Cond} (h : w ∈ zv_nw) : zv_isN w = true := (List.mem_filter.mp h).2
theorem zv_aast {t n j k' : Nat} {i : Int32} {o : Option Nat} (hd : decode M.2.1 pc = .ok (.aastore, 1)) (hs : sh t = some (k', n)) (h9 : k' < 9) (hf : zv_fitR sh k' o) (hcst : k' = 8 → Cond.castable RX2 RX5 ∈ zv_nw ∧ Cond.castable RX1 RX5 ∈ zv_nw) (hi : i = nI j) (hj : j < n) (hn : n < 2 ^ 31) (k : zv_V E M d kc ks (pc + 1) lv st sh I J (zv_u R t j o) Q) : zv_V E M d kc ks pc lv (va_rf o :: .int i :: .ref t :: st) sh I J R Q := by
  intro p l e Rm s m args below meth c Z mc ms sh0 adr0 C adr H locs ls cells slots P h1 h2
  obtain ⟨⟨ws, hw, hP, hD⟩, hinj, hcl, hro⟩ := P.1
  obtain ⟨q0, hq0⟩ := hw t _ hs
  have hq1 := hq0
  have h3 : 3 ≤ k' := by
    cases o with
    | none => exact Nat.le_trans (by decide) (show 4 ≤ k' from hf)
    | some u => rcases hf with ⟨e, -⟩ | ⟨n, ⟨e, -⟩ | ⟨e, -⟩ | ⟨e, -⟩ | ⟨e, -⟩ | ⟨e, -⟩⟩ <;> omega
  rw [zv_ent_r E adr h3 (by omega)] at hq0
  obtain ⟨v1, v2⟩ := zv_vin hi hj hn
  obtain ⟨c1, c2, c3, c4, c5, c6, c7, c8⟩ := id C
  have hS := P.2.2.2.2.2
  have hlive : ∀ u, o = some u → (sh u).isSome = true := by
    intro u hu
    subst hu
    rcases hf with ⟨-, n, e⟩ | ⟨n, ⟨-, e⟩ | ⟨-, e⟩ | ⟨-, e⟩ | ⟨-, e⟩ | ⟨-, e | e⟩⟩ <;> rw [e] <;> rfl
  have kk : ∀ (H1 : Heap) (locs1 : List Loc), va_P E.2.1 zv_cl (ws.set q0 (adr t, .inl (E.2.2.1 k', n, .inr (.inr (.inr (.inr (va_up (fun b => (R t b).map adr) i.toNatClampNeg (o.map adr)))))))) H1 → va_D (zv_A E) (ws.set q0 (adr t, .inl (E.2.2.1 k', n, .inr (.inr (.inr (.inr (va_up (fun b => (R t b).map adr) i.toNatClampNeg (o.map adr)))))))) → va_S (zv_A E) s.heap H1 locs1 → W p l e Rm s m args below meth c H1 locs1 cells slots Z (F0 m (pc + 1) ls (st.map (zv_v adr))) := by
    intro H1 locs1 hP1 hD1 hS1
    refine k p l e Rm s m args below meth c Z mc ms sh0 adr0 C adr H1 locs1 ls cells slots ⟨?_, P.2.1, P.2.2.1, P.2.2.2.1.2.2.2, P.2.2.2.2.1, hS1⟩ h1 h2
    refine zv_H_set P.1 hw hq1 hs ?_ (fun _ _ => rfl) (fun _ _ => rfl) (fun a ha => zv_u_row R t j o ha) (fun b u hu => ?_) hP1 hD1
    · rw [zv_ent_r E adr h3 (by omega), zv_row_r, v2]
    · by_cases hb : b = j
      · subst hb
        rw [zv_u_s] at hu
        exact hlive u hu
      · rw [zv_u_j R o hb] at hu
        exact hcl t b u (by rw [hs]; rfl) hu
  show W p l e Rm s m args below meth c H locs cells slots Z (F0 m pc ls (zv_v adr (va_rf o) :: .int i :: .ref (adr t) :: st.map (zv_v adr)))
  rw [zv_v_rf]
  cases o with
  | none =>
    have h4 : 4 ≤ k' := hf
    rcases (show k' = 4 ∨ k' = 5 ∨ k' = 6 ∨ k' = 7 ∨ k' = 8 by omega) with e | e | e | e | e <;> subst e
    · exact va_astqN (C := RX3) c1 c2 c7.1 hP hD hS q0 4 hq0 rfl v1 hd kk
    · exact va_astqN (C := RX0) c1 c2 c7.1 hP hD hS q0 5 hq0 rfl v1 hd kk
    · exact va_astqN (C := RX2) c1 c2 c7.1 hP hD hS q0 6 hq0 rfl v1 hd kk
    · exact va_astqN (C := RX1) c1 c2 c7.1 hP hD hS q0 7 hq0 rfl v1 hd kk
    · exact va_astqN (C := RX5) c1 c2 c7.1 hP hD hS q0 8 hq0 rfl v1 hd kk
  | some u =>
    have at' : ∀ {c n : Nat}, sh u = some (10 + c, n) → ∃ qk : Nat, ws[qk]? = some ((adr u, .inr (c, zv_fs adr c (I u) (R u))) : Nat × va_E) := by
      intro c n hu
      obtain ⟨qk, hk⟩ := hw u _ hu
      rw [zv_ent_o] at hk
      exact ⟨qk, hk⟩
    rcases hf with ⟨e, m2, hu⟩ | ⟨m2, ⟨e, hu⟩ | ⟨e, hu⟩ | ⟨e, hu⟩ | ⟨e, hu⟩ | ⟨e, hu | hu⟩⟩
    · subst e
      obtain ⟨qk, hk⟩ := hw u _ hu
      rw [zv_ent_i] at hk
      have hlt : i.toNatClampNeg < n := by rw [v2]; exact hj
      have h0 : ¬ i < 0 := fun q => v1 (Or.inl q)
      obtain ⟨comp, cA2, kA, k3, -, k1, k2, k4⟩ := arrayOverA_spec (zv_aoa (B := args) c7.2.2.2.1)
      have hRA : va_RA s (E.2.2.1 3) (.array .int) := (c7.1.2 3 (E.2.2.1 3, .array .int) rfl).2
      have hRA : s.vm.findClass ("[" ++ (FieldType.array .int).toString) = some (E.2.2.1 3) := hRA
      have eA : E.2.2.1 3 = cA2 := Option.some.inj (hRA.symm.trans k4)
      have hRI : va_RA s (E.2.2.1 0) .int := (c7.1.2 0 (E.2.2.1 0, .int) rfl).2
      have hRI : s.vm.findClass "[I" = some (E.2.2.1 0) := va_nm_int hRI
      have e1 : (FieldType.array .int).toString = "[I" := by decide +kernel
      rw [e1] at k3
      have eC : comp = E.2.2.1 0 := Option.some.inj (k3.symm.trans hRI)
      subst eC
      obtain ⟨kE, hkE, -⟩ := Vm.findClass_spec k3
      refine W.aast c1 c2 (hP q0 _ hq0) (fun q h => by cases h) (fun h => by cases h) (by show s.vm.classes[E.2.2.1 3]? = some kA; rw [eA]; exact k1) k2 rfl hkE ⟨h0, by show _ < (arrV _ _ _).slots.size; rw [arrV_size]; exact hlt⟩ (hP qk _ hk) (fun q h => by cases h) hkE (va_asg _ _) rfl rfl hd fun H1 e z oq => ?_
      refine kk H1 _ (hP.set hD hq0 ?_ oq) (hD.set hq0) (hS.put z oq (hD.2 q0 _ hq0))
      show H1[adr t]? = some (vp_cell _ _)
      rw [e]
      rw [vp_cell_q, vp_cell_q, arrV_store]
      congr 2
      funext q
      by_cases hq : q = i.toNatClampNeg
      · subst hq
        simp [updV, va_up, va_rf]
      · simp [updV, va_up, hq]
    · subst e
      obtain ⟨qk, hk⟩ := at' (c := 3) hu
      exact va_astq c1 c2 c7.1 hP hD hS q0 4 qk 3 hq0 rfl hk rfl v1 hd kk
    · subst e
      obtain ⟨qk, hk⟩ := at' (c := 0) hu
      exact va_astq c1 c2 c7.1 hP hD hS q0 5 qk 0 hq0 rfl hk rfl v1 hd kk
    · subst e
      obtain ⟨qk, hk⟩ := at' (c := 2) hu
      exact va_astq c1 c2 c7.1 hP hD hS q0 6 qk 2 hq0 rfl hk rfl v1 hd kk
    · subst e
      obtain ⟨qk, hk⟩ := at' (c := 1) hu
      exact va_astq c1 c2 c7.1 hP hD hS q0 7 qk 1 hq0 rfl hk rfl v1 hd kk
    · subst e
      obtain ⟨qk, hk⟩ := at' (c := 2) hu
      exact va_astqO (E := RX5) c1 c2 c7.1 hP hD hS q0 8 qk 2 hq0 rfl (c7.2.1 _ (hcst rfl).1) hk rfl v1 hd kk
    · subst e
      obtain ⟨qk, hk⟩ := at' (c := 1) hu
      exact va_astqO (E := RX5) c1 c2 c7.1 hP hD hS q0 8 qk 1 hq0 rfl (c7.2.1 _ (hcst rfl).2) hk rfl v1 hd kk
/-! what the tables say moves along -/
theorem zv_aoam {t : FieldType} {u U : State} (hvm : u.vm.Alike U.vm) (h : (Cond.arrayOver (.array t)).before #[] u = true) : (Cond.arrayOver (.array t)).before #[] U = true := by
  obtain ⟨comp, c, k, h1, h2, h3, h4, h5⟩ := arrayOverA_spec h
  obtain ⟨k', hk', he⟩ := hvm.2.2 _ _ h3
  have hi : (U.vm.classes.findIdx? fun (x : Class) => match x.kind with | .array component _ => component == comp | _ => false) = some c := by
    refine (va_idx_bare U.vm comp).symm.trans ?_
    first | rw [hvm.bare_eq] | rw [← hvm.bare_eq]
    exact (va_idx_bare u.vm comp).trans h2
  have hkind : k'.kind = .array comp (.array t) := by rw [he]; exact h4
  have f1 : U.vm.findClass (FieldType.array t).toString = some comp := by rw [hvm.findClass]; exact h1
  have f2 : U.vm.findClass ("[" ++ (FieldType.array t).toString) = some c := by rw [hvm.findClass]; exact h5
  unfold Cond.before Cond.holds
  simp only [Cond.value]
  rw [f1, Option.bind_some]
  refine (congrArg (fun o : Option Nat => (o.bind (fun c => (U.vm.classes[c]?).map fun (k : Class) => match k.kind with | .array _ ty => decide (ty = FieldType.array t) && decide (U.vm.findClass ("[" ++ (FieldType.array t).toString) = some c) | _ => false) == some true)) hi).trans ?_
  simp [hk', hkind, f2]
theorem zv_T_mov {s U : State} {H : Heap} {locs : List Loc} (h : zv_T E s) (hvm : s.vm.Alike U.vm) (hN : ∀ w ∈ zv_nw, va_Nw w s → va_Nw w U) (hS : va_S (zv_A E) s.heap H locs) (hH : U.heap = H) : zv_T E U := by
  obtain ⟨t1, t2, t3, t4, t5, t6, t7, t8, t9, t10, t11⟩ := h
  have hq : ∀ a : Nat, a < s.heap.size → ¬ zv_A E a → H[a]? = s.heap[a]? := hS.2.1
  subst hH
  exact ⟨va_K.moved hvm t1, fun w hw => hN w hw (t2 w hw), fun C hC => va_AO.moved hvm (t3 C hC), zv_aoam hvm t4, fun q hq => va_Nc.moved hvm (t5 q hq), (va_Z.moved hvm t6).kept hq, (va_Z.moved hvm t7).kept hq, (va_T.moved hvm t8).kept hq, (va_T.moved hvm t9).kept hq, (va_T.moved hvm t10).kept hq, Nat.le_trans t11 hS.1⟩
theorem zv_T_warm {s U : State} {H : Heap} {locs : List Loc} (h : zv_T E s) (hW : s.WarmedH U.vm) (hS : va_S (zv_A E) s.heap H locs) (hH : U.heap = H) : zv_T E U :=
  zv_T_mov h hW.alike (fun w hw => zv_nwm (zv_nw_is hw) hW) hS hH
theorem zv_T_same {s U : State} (h : zv_T E s) (hv : s.vm = U.vm) (hH : U.heap = s.heap) : zv_T E U :=
  zv_T_mov h (by rw [hv]; exact Vm.Alike.refl _) (fun w hw => va_Nw.same (zv_nwo (zv_nw_is hw)) hv) (va_S.rf (A := zv_A E)) hH
/-- a method's contract, in the kit's words -/
def zv_Pm (E : zv_E) (As : List Value) (sh : zv_S) (I : zv_I) (J : zv_J) (R : zv_R) (adr : Nat → Nat) : Array Value → State → Prop := va_Pc (As.map (zv_v adr)) (fun U => zv_H E sh I J R adr U.heap ∧ zv_T E U)
def zv_Qm (E : zv_E) (sh : zv_S) (adr : Nat → Nat) (Q : zv_Q) : Array Value → State → Outcome → State → Prop := fun _ st oc t =>
  ∃ (v : Option Value) (sh' : zv_S) (I' : zv_I) (J' : zv_J) (R' : zv_R) (adr' : Nat → Nat), oc = .returned (v.map (zv_v adr')) ∧ Q v sh' I' J' R' ∧ zv_H E sh' I' J' R' adr' t.heap ∧ zv_ag sh adr sh' adr' ∧ (∀ x, v = some x → zv_ok sh' x) ∧ va_F (zv_A E) st t
def zv_rm (d kc ks : Nat) : Room := { frames := d, cells := kc, slots := ks, locals := 40 * d }
abbrev zv_ws (M : zv_M) : List Cond := .code M.1 M.2.1 M.2.2.1 M.2.2.2 :: zv_gw
theorem zv_pm_blind {As : List Value} {adr : Nat → Nat} : FrameBlind (zv_Pm E As sh I J R adr) := fun a U g mk q => ⟨q.1, q.2.1, zv_T_same (U := U.calling g mk a) q.2.2 rfl rfl⟩
theorem zv_lg : ∀ (vs : List Value), (∀ w ∈ vs, w.category = 1) → (lg_sl vs).length = vs.length
  | [], _ => rfl
  | v :: vs, h => by
    have hv : ¬ v.category = 2 := by rw [h v List.mem_cons_self]; decide
    have := zv_lg vs fun w hw => h w (List.mem_cons_of_mem _ hw)
    simp only [lg_sl, List.flatMap_cons, if_neg hv] at this ⊢
    simp [this]
theorem zv_met {As : List Value} (h : zv_V E M d kc ks 0 As [] sh I J R Q) (hp : plainFor M.1 = true) (hn : As.length ≤ M.2.2.1) (hc : ∀ w ∈ As, w.category = 1) (hok : zv_oks sh As) (l : Launch) (adr : Nat → Nat) : Met l M.1 (zv_ws M) (zv_rm d kc ks) (zv_Pm E As sh I J R adr) (zv_Qm E sh adr Q) kc ks (zv_A E) := by
  refine va_MetF (cc := M.2.1) (maxL := M.2.2.1) (ret := M.2.2.2) hp rfl ?_
  intro p e s m args below meth c s₁ B hml hv
  obtain ⟨rfl, hH, hT⟩ := hv
  have hts := atoms_spec (ws := zv_ws M) B.pre
  have hlocks := B.notSynchronized
  have hcm : ∀ w ∈ As.map (zv_v adr), w.category = 1 := by
    intro w hw
    obtain ⟨x, hx, rfl⟩ := List.mem_map.mp hw
    rw [zv_v_cat]
    exact hc x hx
  have hl := lv_entry (As.map (zv_v adr)) (n := M.2.2.1) (by rw [zv_lg _ hcm, List.length_map]; exact hn)
  rw [zv_z_args _ 0 hcm] at hl
  rw [lg_entry_eq]
  refine h p l e _ s m _ below meth c _ kc ks sh adr ⟨B.exec, B.bytes, hml, findClass_of_methodNamed B.named, fun w hw => hts w (List.mem_cons_of_mem _ hw), fun hi => ?_, hT, Nat.le_refl _, Nat.le_refl _, Nat.le_refl _, Nat.le_refl _, ?_⟩ adr s.heap [] _ 0 0 ⟨hH, ⟨hl, hcm⟩, hok, trivial, fun t ht => ⟨ht, rfl⟩, va_S.rf⟩ (by omega) (by omega)
  · rw [(name_of_methodNamed B.named B.method).1]
    exact hi
  · intro v sh' I' J' R' adr' H' locs' ls' cells' slots' pc' hq hH' hag hok' hS' hce hsl hri
    refine W.widen hce hsl ?_
    have hQ : ∀ t : State, t.heap = H' → s.WarmedH t.vm → zv_Qm E sh adr Q (As.map (zv_v adr)).toArray s (.returned (v.map (zv_v adr'))) t := fun t ht hW =>
      ⟨v, sh', I', J', R', adr', rfl, hq, by rw [ht]; exact hH', hag, hok', hS'.F ht⟩
    cases v with
    | none => exact W.vret B.exec B.bytes (by rw [B.returns]; exact hri.2) hQ hS'.2.2 hri.1
    | some v =>
      cases v with
      | int x =>
        obtain ⟨hd, ty, ht, hn⟩ := hri
        exact W.zret (ty := ty) B.exec B.bytes (by rw [B.returns]; exact ht) hn hQ hS'.2.2 hd
      | ref t =>
        obtain ⟨hd, ty, ht, hn⟩ := hri
        exact W.aret (rt := ty) B.exec B.bytes (by rw [B.returns]; exact ht) hn (Or.inr ⟨_, rfl⟩) hQ hS'.2.2 hd
      | null =>
        obtain ⟨hd, ty, ht, hn⟩ := hri
        exact W.aret (rt := ty) B.exec B.bytes (by rw [B.returns]; exact ht) hn (Or.inl rfl) hQ hS'.2.2 hd
      | _ => exact hri.elim
/-- behind a call -/
theorem zv_after {p : Program} {l : Launch} {e : Env} {Rm : Room} {s : State} {m : MethodId} {args : Array Value} {below : List Frame} {meth : Method} {c : Code} {Z : State → Prop} {mc ms : Nat} {sh0 : zv_S} {adr0 adr : Nat → Nat} {H : Heap} {locs : List Loc} {ls : Array Slot} {cells slots kc1 ks1 : Nat} {a : Array Value} {st0 st1 : List Value} {Q1 : zv_Q}
    (C : zv_C E M d mc ms sh0 adr0 Q p l e Rm s m args below meth c Z) (P : zv_P E M lv st1 sh I J R sh0 adr0 adr H s.heap locs ls) (hst : zv_oks sh st) (h1 : cells + (kc1 + kc) ≤ mc) (h2 : slots + (ks1 + ks) ≤ ms)
    (hr : va_Run p l e Rm s m args below meth c H locs cells slots kc1 ks1 (F0 m pc ls st0) (st.map (zv_v adr)) (zv_Qm E sh adr Q1 a) (zv_A E))
    (k : ∀ v sh' I' J' R', Q1 v sh' I' J' R' → zv_V E M d kc ks (pc + 3) lv (v.toList ++ st) sh' I' J' R' Q) : W p l e Rm s m args below meth c H locs cells slots Z (F0 m pc ls st0) := by
  intro T hT X
  obtain ⟨v, st₀, t, T', L, h0, X', hL, e1, e2, ⟨v', sh', I', J', R', adr', hv, hQ, hH', hag, hok, hz, hk⟩, go⟩ := hr T hT X
  have hv : v = v'.map (zv_v adr') := by cases hv; rfl
  subst hv
  rw [h0] at hz hk
  have hS := P.2.2.2.2.2
  have hS' : va_S (zv_A E) s.heap T'.heap (locs ++ L) := ⟨Nat.le_trans hS.1 (by rw [e1]; exact hz), fun q g1 g2 => by rw [e1, hk q (Nat.lt_of_lt_of_le g1 hS.1) g2]; exact hS.2.1 q g1 g2, fun q hq => by
      rcases List.mem_append.mp hq with g | g
      · exact hS.2.2 q g
      · exact hL q g⟩
  have hx : ∀ q, (q < 3 ∨ (sh q).isSome = true) → adr' q = adr q := by
    intro q hq
    rcases hq with hq | hq
    · rw [(hH'.2.2.2 q hq).2, (P.1.2.2.2 q hq).2]
    · exact (hag q hq).2
  have hm : ∀ q, (sh q).isSome = true → (sh' q).isSome = true := fun q hq => (hag q hq).1
  have P' : zv_P E M lv (v'.toList ++ st) sh' I' J' R' sh0 adr0 adr' T'.heap s.heap (locs ++ L) ls := by
    refine ⟨by rw [e1]; exact hH', by rw [zv_v_ext hx P.2.2.1]; exact P.2.1, zv_oks_mono hm P.2.2.1, zv_oks_app ?_ (zv_oks_mono hm hst), fun q hq => ?_, hS'⟩
    · cases v' with
      | none => trivial
      | some x => exact ⟨hok x rfl, trivial⟩
    · obtain ⟨g1, g2⟩ := P.2.2.2.2.1 q hq
      exact ⟨hm q g1, by rw [hx q (Or.inr g1)]; exact g2⟩
  obtain ⟨t2, a1, b1⟩ := k v' sh' I' J' R' hQ p l e Rm s m args below meth c Z mc ms sh0 adr0 C adr' T'.heap (locs ++ L) ls (cells + kc1) (slots + ks1) P' (by omega) (by omega) T' rfl X'
  refine ⟨t2, go t2 ?_, b1⟩
  have e3 : (v'.toList ++ st).map (zv_v adr') = (v'.map (zv_v adr')).toList ++ st.map (zv_v adr) := by
    rw [List.map_append, zv_v_ext hx hst]
    cases v' <;> rfl
  rw [e3] at a1
  exact a1
theorem zv_good : GoodIn zv_gw zv_gw := fun w hw => ⟨hw, good_of_word (List.mem_filter.mp hw).2⟩
theorem zv_good1 {ws : List Cond} (h : ∀ w ∈ ws, w ∈ zv_gw) : GoodIn zv_gw ws := fun w hw => ⟨h w hw, good_of_word (List.mem_filter.mp (h w hw)).2⟩
/-- what the tables must say of a callee: its code, and that its class can be used -/
def zv_ML (M1 : zv_M) (n : Nat) : Prop := Cond.code M1.1 M1.2.1 M1.2.2.1 M1.2.2.2 ∈ zv_gw ∧ Cond.initialized M1.1.cls ∈ zv_gw ∧ plainFor M1.1 = true ∧ M1.2.2.1 ≤ 21 ∧ M1.1.cls ≠ "java/lang/invoke/MethodHandle" ∧ M1.1.cls ≠ "java/lang/invoke/VarHandle" ∧ (parseMethodDescriptor M1.1.desc).map (fun d => d.parameters.length) = some n
theorem zv_goodw {M1 : zv_M} {n : Nat} (h : zv_ML M1 n) : GoodIn zv_gw (zv_ws M1) := zv_good1 fun w hw => (List.mem_cons.mp hw).elim (fun e => e ▸ h.1) id
theorem zv_callV {M1 : zv_M} {idx b c n kc1 ks1 : Nat} {As : List Value} {Q1 : zv_Q} {q : vw_C} (hd : decode M.2.1 pc = .ok (.invokevirtual idx, 3)) (hm : zv_ML M1 As.length) (hlk : (Cond.methodLink M.1.cls idx M1.1 ∈ zv_gw) ∨ ∃ host, Cond.methodLinkNest M.1.cls idx M1.1 host ∈ zv_nw) (hin : Cond.instanceMethod M1.1 ∈ zv_gw) (hse : Cond.selects M1.1.cls M1.1 M1.1 ∈ zv_gw)
    (hs : sh b = some (10 + c, n)) (hc : zv_cl[c]? = some q) (hq : q.1 = M1.1.cls) (hA : As.length + 1 ≤ M1.2.2.1) (hcat : ∀ w ∈ As, w.category = 1) (hst : (st.map fun v => v.category).sum ≤ 8)
    (hV : zv_V E M1 d kc1 ks1 0 (.ref b :: As) [] sh I J R Q1) (k : ∀ v sh' I' J' R', Q1 v sh' I' J' R' → zv_V E M (d + 1) kc ks (pc + 3) lv (v.toList ++ st) sh' I' J' R' Q) : zv_V E M (d + 1) (kc1 + kc) (ks1 + ks) pc lv (As.reverse ++ .ref b :: st) sh I J R Q := by
  intro p l e Rm s m args below meth c' Z mc ms sh0 adr0 C adr H locs ls cells slots P h1 h2
  obtain ⟨c1, c2, c3, c4, c5, c6, c7, c8, c9, c10, c11, c12⟩ := id C
  have hoks := P.2.2.2.1
  have hokA : zv_oks sh As := zv_oks_mem fun v hv => zv_oks_all hoks v (List.mem_append_left _ (List.mem_reverse.mpr hv))
  have hokb : zv_ok sh (.ref b) := zv_oks_all hoks _ (List.mem_append_right _ List.mem_cons_self)
  have hokr : zv_oks sh st := zv_oks_mem fun v hv => zv_oks_all hoks v (List.mem_append_right _ (List.mem_cons_of_mem _ hv))
  have hmet := zv_met (As := .ref b :: As) hV hm.2.2.1 hA (fun w hw => (List.mem_cons.mp hw).elim (fun e => by rw [e]; rfl) (hcat w)) ⟨hokb, hokA⟩ l adr
  have hG := zv_goodw hm
  have hlo : 8 + (M1.2.2.1 + 11) + 40 * d ≤ Rm.locals := by have := hm.2.2.2.1; omega
  have hstk : (As.reverse ++ .ref b :: st).map (zv_v adr) = (As.map (zv_v adr)).reverse ++ .ref (adr b) :: st.map (zv_v adr) := by
    rw [List.map_append, List.map_reverse]
    rfl
  rw [hstk]
  have hpre : PreV s H M1.1.cls (adr b) (zv_Pm E (.ref b :: As) sh I J R adr) (As.map (zv_v adr)) := ⟨zv_pm_blind, by rw [← hq]; exact zv_recv P.1 c7 hs hc, fun U hU hW => ⟨rfl, by rw [hU]; exact P.1, zv_T_warm c7 hW P.2.2.2.2.2 hU⟩⟩
  have hcs : 2 * (F0 m pc ls ((As.map (zv_v adr)).reverse ++ .ref (adr b) :: st.map (zv_v adr))).monitorRoom + ((st.map (zv_v adr)).map fun v => v.category).sum ≤ 8 := lv_room (by rw [zv_cats]; exact hst)
  rcases hlk with hl | ⟨host, hl⟩
  · refine zv_after C P hokr h1 h2 (va_runV (nL := M.2.2.1) (n := As.length) (index := idx) ⟨c1, c2, c3, c4, c5⟩ hmet ⟨⟨rfl, rfl, by show d + 1 ≤ _; omega, hlo, pay_in c5 hG, List.mem_cons_self, c5 _ hm.1, c5 _ hm.2.1, ⟨hm.2.2.2.2.1, hm.2.2.2.2.2.1⟩, fun sig hsig => ?_, c5 _ hl⟩, c5 _ hin, c5 _ hse⟩ hpre rfl (by rw [List.length_map]) P.2.1.1.1 rfl hcs hd ⟨by omega, by omega⟩) k
    have h3 := hm.2.2.2.2.2.2
    rw [hsig] at h3
    exact (Option.some.inj h3).symm
  · refine zv_after C P hokr h1 h2 (va_runVN (nL := M.2.2.1) (n := As.length) (index := idx) (host := host) ⟨c1, c2, c3, c4, c5⟩ hmet ⟨⟨⟨rfl, rfl, by show d + 1 ≤ _; omega, hlo, pay_in c5 hG, List.mem_cons_self⟩, c5 _ hm.1, c5 _ hm.2.1, ⟨hm.2.2.2.2.1, hm.2.2.2.2.2.1⟩, fun sig hsig => ?_, va_Nw.use rfl (c7.2.1 _ hl)⟩, c5 _ hin, c5 _ hse⟩ hpre rfl (by rw [List.length_map]) P.2.1.1.1 rfl hcs hd ⟨by omega, by omega⟩) k
    have h3 := hm.2.2.2.2.2.2
    rw [hsig] at h3
    exact (Option.some.inj h3).symm
theorem zv_callS {M1 : zv_M} {idx kc1 ks1 : Nat} {As : List Value} {Q1 : zv_Q} (hd : decode M.2.1 pc = .ok (.invokestatic idx, 3)) (hm : zv_ML M1 As.length) (hlk : (Cond.methodLink M.1.cls idx M1.1 ∈ zv_gw) ∨ ∃ host, Cond.methodLinkNest M.1.cls idx M1.1 host ∈ zv_nw) (hin : Cond.static M1.1 ∈ zv_gw)
    (hA : As.length ≤ M1.2.2.1) (hcat : ∀ w ∈ As, w.category = 1) (hst : (st.map fun v => v.category).sum ≤ 8)
    (hV : zv_V E M1 d kc1 ks1 0 As [] sh I J R Q1) (k : ∀ v sh' I' J' R', Q1 v sh' I' J' R' → zv_V E M (d + 1) kc ks (pc + 3) lv (v.toList ++ st) sh' I' J' R' Q) : zv_V E M (d + 1) (kc1 + kc) (ks1 + ks) pc lv (As.reverse ++ st) sh I J R Q := by
  intro p l e Rm s m args below meth c' Z mc ms sh0 adr0 C adr H locs ls cells slots P h1 h2
  obtain ⟨c1, c2, c3, c4, c5, c6, c7, c8, c9, c10, c11, c12⟩ := id C
  have hoks := P.2.2.2.1
  have hokA : zv_oks sh As := zv_oks_mem fun v hv => zv_oks_all hoks v (List.mem_append_left _ (List.mem_reverse.mpr hv))
  have hokr : zv_oks sh st := zv_oks_mem fun v hv => zv_oks_all hoks v (List.mem_append_right _ hv)
  have hmet := zv_met (As := As) hV hm.2.2.1 hA hcat hokA l adr
  have hG := zv_goodw hm
  have hlo : 8 + (M1.2.2.1 + 11) + 40 * d ≤ Rm.locals := by have := hm.2.2.2.1; omega
  have hstk : (As.reverse ++ st).map (zv_v adr) = (As.map (zv_v adr)).reverse ++ st.map (zv_v adr) := by
    rw [List.map_append, List.map_reverse]
  rw [hstk]
  have hpre : PreS s H (zv_Pm E As sh I J R adr) (As.map (zv_v adr)) := ⟨zv_pm_blind, fun U hU hW => ⟨rfl, by rw [hU]; exact P.1, zv_T_warm c7 hW P.2.2.2.2.2 hU⟩⟩
  have hcs : 2 * (F0 m pc ls ((As.map (zv_v adr)).reverse ++ st.map (zv_v adr))).monitorRoom + ((st.map (zv_v adr)).map fun v => v.category).sum ≤ 8 := lv_room (by rw [zv_cats]; exact hst)
  rcases hlk with hl | ⟨host, hl⟩
  · refine zv_after C P hokr h1 h2 (va_runS (nL := M.2.2.1) (n := As.length) (index := idx) ⟨c1, c2, c3, c4, c5⟩ hmet ⟨⟨rfl, rfl, by show d + 1 ≤ _; omega, hlo, pay_in c5 hG, List.mem_cons_self, c5 _ hm.1, c5 _ hm.2.1, ⟨hm.2.2.2.2.1, hm.2.2.2.2.2.1⟩, fun sig hsig => ?_, c5 _ hl⟩, c5 _ hin⟩ hpre rfl (by rw [List.length_map]) P.2.1.1.1 rfl hcs hd ⟨by omega, by omega⟩) k
    have h3 := hm.2.2.2.2.2.2
    rw [hsig] at h3
    exact (Option.some.inj h3).symm
  · refine zv_after C P hokr h1 h2 (va_runSN (nL := M.2.2.1) (n := As.length) (index := idx) (host := host) ⟨c1, c2, c3, c4, c5⟩ hmet ⟨⟨⟨rfl, rfl, by show d + 1 ≤ _; omega, hlo, pay_in c5 hG, List.mem_cons_self⟩, c5 _ hm.1, c5 _ hm.2.1, ⟨hm.2.2.2.2.1, hm.2.2.2.2.2.1⟩, fun sig hsig => ?_, va_Nw.use rfl (c7.2.1 _ hl)⟩, c5 _ hin, trivial⟩ hpre rfl (by rw [List.length_map]) P.2.1.1.1 rfl hcs hd ⟨by omega, by omega⟩) k
    have h3 := hm.2.2.2.2.2.2
    rw [hsig] at h3
    exact (Option.some.inj h3).symm
theorem zv_callI {M1 : zv_M} {idx b kc1 ks1 : Nat} {As : List Value} {Q1 : zv_Q} (hd : decode M.2.1 pc = .ok (.invokespecial idx, 3)) (hm : zv_ML M1 As.length) (hret : M1.2.2.2 = none) (hnm : M1.1.name = "<init>") (hlk : (Cond.methodLink M.1.cls idx M1.1 ∈ zv_gw) ∨ ∃ host, Cond.methodLinkNest M.1.cls idx M1.1 host ∈ zv_nw) (hin : Cond.instanceMethod M1.1 ∈ zv_gw)
    (hA : As.length + 1 ≤ M1.2.2.1) (hcat : ∀ w ∈ As, w.category = 1) (hst : (st.map fun v => v.category).sum ≤ 8)
    (hV : zv_V E M1 d kc1 ks1 0 (.ref b :: As) [] sh I J R Q1) (k : ∀ v sh' I' J' R', Q1 v sh' I' J' R' → zv_V E M (d + 1) kc ks (pc + 3) lv (v.toList ++ st) sh' I' J' R' Q) : zv_V E M (d + 1) (kc1 + kc) (ks1 + ks) pc lv (As.reverse ++ .ref b :: st) sh I J R Q := by
  intro p l e Rm s m args below meth c' Z mc ms sh0 adr0 C adr H locs ls cells slots P h1 h2
  obtain ⟨c1, c2, c3, c4, c5, c6, c7, c8, c9, c10, c11, c12⟩ := id C
  have hoks := P.2.2.2.1
  have hokA : zv_oks sh As := zv_oks_mem fun v hv => zv_oks_all hoks v (List.mem_append_left _ (List.mem_reverse.mpr hv))
  have hokb : zv_ok sh (.ref b) := zv_oks_all hoks _ (List.mem_append_right _ List.mem_cons_self)
  have hokr : zv_oks sh st := zv_oks_mem fun v hv => zv_oks_all hoks v (List.mem_append_right _ (List.mem_cons_of_mem _ hv))
  have hmet := zv_met (As := .ref b :: As) hV hm.2.2.1 hA (fun w hw => (List.mem_cons.mp hw).elim (fun e => by rw [e]; rfl) (hcat w)) ⟨hokb, hokA⟩ l adr
  have hG := zv_goodw hm
  have hlo : 8 + (M1.2.2.1 + 11) + 40 * d ≤ Rm.locals := by have := hm.2.2.2.1; omega
  have hstk : (As.reverse ++ .ref b :: st).map (zv_v adr) = (As.map (zv_v adr)).reverse ++ .ref (adr b) :: st.map (zv_v adr) := by
    rw [List.map_append, List.map_reverse]
    rfl
  rw [hstk]
  have hpre : PreS s H (zv_Pm E (.ref b :: As) sh I J R adr) (.ref (adr b) :: As.map (zv_v adr)) := ⟨zv_pm_blind, fun U hU hW => ⟨rfl, by rw [hU]; exact P.1, zv_T_warm c7 hW P.2.2.2.2.2 hU⟩⟩
  have hcs : 2 * (F0 m pc ls ((As.map (zv_v adr)).reverse ++ .ref (adr b) :: st.map (zv_v adr))).monitorRoom + ((st.map (zv_v adr)).map fun v => v.category).sum ≤ 8 := lv_room (by rw [zv_cats]; exact hst)
  have hmc : Cond.code M1.1 M1.2.1 M1.2.2.1 none ∈ zv_gw := by rw [← hret]; exact hm.1
  have hmw : Cond.code M1.1 M1.2.1 M1.2.2.1 none ∈ zv_ws M1 := by rw [← hret]; exact List.mem_cons_self
  rcases hlk with hl | ⟨host, hl⟩
  · refine zv_after C P hokr h1 h2 (va_runI (nL := M.2.2.1) (n := As.length) (index := idx) ⟨c1, c2, c3, c4, c5⟩ hmet ⟨⟨rfl, rfl, by show d + 1 ≤ _; omega, hlo, pay_in c5 hG, hmw, c5 _ hmc, c5 _ hm.2.1, ⟨hm.2.2.2.2.1, hm.2.2.2.2.2.1⟩, fun sig hsig => ?_, c5 _ hl⟩, hnm, c5 _ hin⟩ hpre rfl (by rw [List.length_map]) P.2.1.1.1 rfl hcs hd ⟨by omega, by omega⟩) k
    have h3 := hm.2.2.2.2.2.2
    rw [hsig] at h3
    exact (Option.some.inj h3).symm
  · refine zv_after C P hokr h1 h2 (va_runIN (nL := M.2.2.1) (n := As.length) (index := idx) (host := host) ⟨c1, c2, c3, c4, c5⟩ hmet ⟨⟨⟨rfl, rfl, by show d + 1 ≤ _; omega, hlo, pay_in c5 hG, hmw⟩, c5 _ hmc, c5 _ hm.2.1, ⟨hm.2.2.2.2.1, hm.2.2.2.2.2.1⟩, fun sig hsig => ?_, va_Nw.use rfl (c7.2.1 _ hl)⟩, hnm, c5 _ hin⟩ hpre rfl (by rw [List.length_map]) P.2.1.1.1 rfl hcs hd ⟨by omega, by omega⟩) k
    have h3 := hm.2.2.2.2.2.2
    rw [hsig] at h3
    exact (Option.some.inj h3).symm
theorem zv_objI {idx b : Nat} (hd : decode M.2.1 pc = .ok (.invokespecial idx, 3)) (hl : Cond.methodLink M.1.cls idx objectInit ∈ zv_gw) (hin : Cond.instanceMethod objectInit ∈ zv_gw) (hco : Cond.code objectInit ⟨#[0xb1]⟩ 1 none ∈ zv_gw) (hdd : 1 ≤ d) (hcat : (st.map fun v => v.category).sum + 12 ≤ 40) (k : zv_V E M d kc ks (pc + 3) lv st sh I J R Q) : zv_V E M d kc ks pc lv (.ref b :: st) sh I J R Q := by
  intro p l e Rm s m args below meth c' Z mc ms sh0 adr0 C adr H locs ls cells slots P h1 h2
  obtain ⟨c1, c2, c3, c4, c5, c6, c7, c8, c9, c10, c11, c12⟩ := id C
  exact W.objInit c1 c2 c4 (c5 _ hl) (c5 _ hin) (c5 _ hco) rfl (by rw [c3]; exact P.2.1.1.1) rfl hd (by omega) (by
    have h0 : (F0 m pc ls (.ref (adr b) :: st.map (zv_v adr))).monitorRoom = 0 := rfl
    show 2 * (F0 m pc ls (.ref (adr b) :: st.map (zv_v adr))).monitorRoom + _ + 12 ≤ _
    rw [h0, zv_cats]
    omega) (k p l e Rm s m args below meth c' Z mc ms sh0 adr0 C adr H locs ls cells slots ⟨P.1, P.2.1, P.2.2.1, P.2.2.2.1.2, P.2.2.2.2⟩ h1 h2)
end ZS
end
section
theorem zv_gt {w : Cond} (i : Nat) (h : tables_1[i]? = some w) (g : goodWord w = true) : w ∈ zv_gw := List.mem_filter.mpr ⟨List.mem_append_right _ (List.mem_of_getElem? h), g⟩
theorem zv_gp {w : Cond} (i : Nat) (h : (k2_sels lw_privs)[i]? = some w) (g : goodWord w = true) : w ∈ zv_gw := List.mem_filter.mpr ⟨List.mem_append_left _ (List.mem_of_getElem? h), g⟩
theorem zv_nt {w : Cond} (i : Nat) (h : tables_1[i]? = some w) (g : zv_isN w = true) : w ∈ zv_nw := List.mem_filter.mpr ⟨List.mem_of_getElem? h, g⟩
theorem zv_ga {ws : List Cond} (h : ∀ w ∈ ws, w ∈ tables_1) (g : ∀ w ∈ ws, goodWord w = true) : ∀ w ∈ ws, w ∈ zv_gw := fun w hw => List.mem_filter.mpr ⟨List.mem_append_right _ (h w hw), g w hw⟩
def zv_CV (own : String) (idx : Nat) (M1 : zv_M) (n : Nat) : Prop := zv_ML M1 n ∧ ((Cond.methodLink own idx M1.1 ∈ zv_gw) ∨ ∃ host, Cond.methodLinkNest own idx M1.1 host ∈ zv_nw) ∧ Cond.instanceMethod M1.1 ∈ zv_gw ∧ Cond.selects M1.1.cls M1.1 M1.1 ∈ zv_gw
def zv_CS (own : String) (idx : Nat) (M1 : zv_M) (n : Nat) : Prop := zv_ML M1 n ∧ ((Cond.methodLink own idx M1.1 ∈ zv_gw) ∨ ∃ host, Cond.methodLinkNest own idx M1.1 host ∈ zv_nw) ∧ Cond.static M1.1 ∈ zv_gw
def zv_CI (own : String) (idx : Nat) (M1 : zv_M) (n : Nat) : Prop := zv_ML M1 n ∧ M1.2.2.2 = none ∧ M1.1.name = "<init>" ∧ ((Cond.methodLink own idx M1.1 ∈ zv_gw) ∨ ∃ host, Cond.methodLinkNest own idx M1.1 host ∈ zv_nw) ∧ Cond.instanceMethod M1.1 ∈ zv_gw
set_option maxRecDepth 20000 in
theorem inX0 : ∀ w ∈ wsX00, w ∈ zv_gw := zv_ga (by decide +kernel) (by decide +kernel)
set_option maxRecDepth 20000 in
theorem inX1 : ∀ w ∈ wsX10, w ∈ zv_gw := zv_ga (by decide +kernel) (by decide +kernel)
set_option maxRecDepth 20000 in
theorem inX2 : ∀ w ∈ wsX20, w ∈ zv_gw := zv_ga (by decide +kernel) (by decide +kernel)
set_option maxRecDepth 20000 in
theorem inX3 : ∀ w ∈ wsX30, w ∈ zv_gw := zv_ga (by decide +kernel) (by decide +kernel)
set_option maxRecDepth 20000 in
theorem inX4 : ∀ w ∈ wsX40, w ∈ zv_gw := zv_ga (by decide +kernel) (by decide +kernel)
set_option maxRecDepth 20000 in
theorem inX6 : ∀ w ∈ wsX60, w ∈ zv_gw := zv_ga (by decide +kernel) (by decide +kernel)
set_option maxRecDepth 20000 in
theorem inX7 : ∀ w ∈ wsX70, w ∈ zv_gw := zv_ga (by decide +kernel) (by decide +kernel)
set_option maxRecDepth 20000 in
theorem inX8 : ∀ w ∈ wsX80, w ∈ zv_gw := zv_ga (by decide +kernel) (by decide +kernel)
theorem flX6_9 : zv_FL RX6 9 5 0 := ⟨RX6, TX6, 2, rfl, by decide, rfl, inX6, tyX6_ok, nmX6, rfl, Or.inl (zv_gt 32 (by decide +kernel) rfl)⟩
theorem fwX6_9 : zv_FW RX6 "<init>" 9 5 0 := ⟨flX6_9, fun C T N h => by cases h; exact Or.inr ⟨rfl, rfl, rfl, zv_gt 32 (by decide +kernel) rfl⟩⟩
theorem flX6_15 : zv_FL RX6 15 5 1 := ⟨RX6, TX6, 2, rfl, by decide, rfl, inX6, tyX6_ok, nmX6, rfl, Or.inl (zv_gt 33 (by decide +kernel) rfl)⟩
theorem fwX6_15 {nm : String} : zv_FW RX6 nm 15 5 1 := ⟨flX6_15, fun C T N h => by cases h; exact Or.inl rfl⟩
theorem flX7_98 : zv_FL RX7 98 5 1 := ⟨RX6, TX6, 2, rfl, by decide, rfl, inX6, tyX6_ok, nmX6, rfl, Or.inr ⟨RX7, zv_nt 34 (by decide +kernel) rfl⟩⟩
theorem fwX7_98 {nm : String} : zv_FW RX7 nm 98 5 1 := ⟨flX7_98, fun C T N h => by cases h; exact Or.inl rfl⟩
theorem flX7_11 : zv_FL RX7 11 6 0 := ⟨RX7, TX7, 10, rfl, by decide, rfl, inX7, tyX7_ok, nmX7, rfl, Or.inl (zv_gt 41 (by decide +kernel) rfl)⟩
theorem fwX7_11 : zv_FW RX7 "<init>" 11 6 0 := ⟨flX7_11, fun C T N h => by cases h; exact Or.inr ⟨rfl, rfl, rfl, zv_gt 41 (by decide +kernel) rfl⟩⟩
theorem flX7_17 : zv_FL RX7 17 6 1 := ⟨RX7, TX7, 10, rfl, by decide, rfl, inX7, tyX7_ok, nmX7, rfl, Or.inl (zv_gt 42 (by decide +kernel) rfl)⟩
theorem fwX7_17 : zv_FW RX7 "<init>" 17 6 1 := ⟨flX7_17, fun C T N h => by cases h; exact Or.inr ⟨rfl, rfl, rfl, zv_gt 42 (by decide +kernel) rfl⟩⟩
theorem flX7_23 : zv_FL RX7 23 6 2 := ⟨RX7, TX7, 10, rfl, by decide, rfl, inX7, tyX7_ok, nmX7, rfl, Or.inl (zv_gt 43 (by decide +kernel) rfl)⟩
theorem fwX7_23 : zv_FW RX7 "<init>" 23 6 2 := ⟨flX7_23, fun C T N h => by cases h; exact Or.inr ⟨rfl, rfl, rfl, zv_gt 43 (by decide +kernel) rfl⟩⟩
theorem flX7_27 : zv_FL RX7 27 6 3 := ⟨RX7, TX7, 10, rfl, by decide, rfl, inX7, tyX7_ok, nmX7, rfl, Or.inl (zv_gt 44 (by decide +kernel) rfl)⟩
theorem fwX7_27 : zv_FW RX7 "<init>" 27 6 3 := ⟨flX7_27, fun C T N h => by cases h; exact Or.inr ⟨rfl, rfl, rfl, zv_gt 44 (by decide +kernel) rfl⟩⟩
theorem flX7_34 : zv_FL RX7 34 6 4 := ⟨RX7, TX7, 10, rfl, by decide, rfl, inX7, tyX7_ok, nmX7, rfl, Or.inl (zv_gt 45 (by decide +kernel) rfl)⟩
theorem fwX7_34 : zv_FW RX7 "<init>" 34 6 4 := ⟨flX7_34, fun C T N h => by cases h; exact Or.inr ⟨rfl, rfl, rfl, zv_gt 45 (by decide +kernel) rfl⟩⟩
theorem flX7_42 : zv_FL RX7 42 6 5 := ⟨RX7, TX7, 10, rfl, by decide, rfl, inX7, tyX7_ok, nmX7, rfl, Or.inl (zv_gt 46 (by decide +kernel) rfl)⟩
theorem fwX7_42 {nm : String} : zv_FW RX7 nm 42 6 5 := ⟨flX7_42, fun C T N h => by cases h; exact Or.inl rfl⟩
theorem flX7_58 : zv_FL RX7 58 6 6 := ⟨RX7, TX7, 10, rfl, by decide, rfl, inX7, tyX7_ok, nmX7, rfl, Or.inl (zv_gt 47 (by decide +kernel) rfl)⟩
theorem fwX7_58 {nm : String} : zv_FW RX7 nm 58 6 6 := ⟨flX7_58, fun C T N h => by cases h; exact Or.inl rfl⟩
theorem flX7_95 : zv_FL RX7 95 6 7 := ⟨RX7, TX7, 10, rfl, by decide, rfl, inX7, tyX7_ok, nmX7, rfl, Or.inl (zv_gt 48 (by decide +kernel) rfl)⟩
theorem fwX7_95 {nm : String} : zv_FW RX7 nm 95 6 7 := ⟨flX7_95, fun C T N h => by cases h; exact Or.inl rfl⟩
theorem flX7_219 : zv_FL RX7 219 6 8 := ⟨RX7, TX7, 10, rfl, by decide, rfl, inX7, tyX7_ok, nmX7, rfl, Or.inl (zv_gt 49 (by decide +kernel) rfl)⟩
theorem fwX7_219 {nm : String} : zv_FW RX7 nm 219 6 8 := ⟨flX7_219, fun C T N h => by cases h; exact Or.inl rfl⟩
theorem flX7_38 : zv_FL RX7 38 6 9 := ⟨RX7, TX7, 10, rfl, by decide, rfl, inX7, tyX7_ok, nmX7, rfl, Or.inl (zv_gt 50 (by decide +kernel) rfl)⟩
theorem fwX7_38 {nm : String} : zv_FW RX7 nm 38 6 9 := ⟨flX7_38, fun C T N h => by cases h; exact Or.inl rfl⟩
theorem flX4_11 : zv_FL RX4 11 4 0 := ⟨RX4, TX4, 1, rfl, by decide, rfl, inX4, tyX4_ok, nmX4, rfl, Or.inl (zv_gt 98 (by decide +kernel) rfl)⟩
theorem fwX4_11 : zv_FW RX4 "<init>" 11 4 0 := ⟨flX4_11, fun C T N h => by cases h; exact Or.inr ⟨rfl, rfl, rfl, zv_gt 98 (by decide +kernel) rfl⟩⟩
theorem flX3_11 : zv_FL RX3 11 3 0 := ⟨RX3, TX3, 10, rfl, by decide, rfl, inX3, tyX3_ok, nmX3, rfl, Or.inl (zv_gt 103 (by decide +kernel) rfl)⟩
theorem fwX3_11 : zv_FW RX3 "<init>" 11 3 0 := ⟨flX3_11, fun C T N h => by cases h; exact Or.inr ⟨rfl, rfl, rfl, zv_gt 103 (by decide +kernel) rfl⟩⟩
theorem flX7_147 : zv_FL RX7 147 3 0 := ⟨RX3, TX3, 10, rfl, by decide, rfl, inX3, tyX3_ok, nmX3, rfl, Or.inr ⟨RX7, zv_nt 104 (by decide +kernel) rfl⟩⟩
theorem flX3_16 : zv_FL RX3 16 3 1 := ⟨RX3, TX3, 10, rfl, by decide, rfl, inX3, tyX3_ok, nmX3, rfl, Or.inl (zv_gt 105 (by decide +kernel) rfl)⟩
theorem fwX3_16 : zv_FW RX3 "<init>" 16 3 1 := ⟨flX3_16, fun C T N h => by cases h; exact Or.inr ⟨rfl, rfl, rfl, zv_gt 105 (by decide +kernel) rfl⟩⟩
theorem flX3_20 : zv_FL RX3 20 3 2 := ⟨RX3, TX3, 10, rfl, by decide, rfl, inX3, tyX3_ok, nmX3, rfl, Or.inl (zv_gt 106 (by decide +kernel) rfl)⟩
theorem fwX3_20 : zv_FW RX3 "<init>" 20 3 2 := ⟨flX3_20, fun C T N h => by cases h; exact Or.inr ⟨rfl, rfl, rfl, zv_gt 106 (by decide +kernel) rfl⟩⟩
theorem flX7_311 : zv_FL RX7 311 3 2 := ⟨RX3, TX3, 10, rfl, by decide, rfl, inX3, tyX3_ok, nmX3, rfl, Or.inr ⟨RX7, zv_nt 107 (by decide +kernel) rfl⟩⟩
theorem flX3_25 : zv_FL RX3 25 3 3 := ⟨RX3, TX3, 10, rfl, by decide, rfl, inX3, tyX3_ok, nmX3, rfl, Or.inl (zv_gt 108 (by decide +kernel) rfl)⟩
theorem fwX3_25 : zv_FW RX3 "<init>" 25 3 3 := ⟨flX3_25, fun C T N h => by cases h; exact Or.inr ⟨rfl, rfl, rfl, zv_gt 108 (by decide +kernel) rfl⟩⟩
theorem flX7_235 : zv_FL RX7 235 3 3 := ⟨RX3, TX3, 10, rfl, by decide, rfl, inX3, tyX3_ok, nmX3, rfl, Or.inr ⟨RX7, zv_nt 109 (by decide +kernel) rfl⟩⟩
theorem flX3_29 : zv_FL RX3 29 3 4 := ⟨RX3, TX3, 10, rfl, by decide, rfl, inX3, tyX3_ok, nmX3, rfl, Or.inl (zv_gt 110 (by decide +kernel) rfl)⟩
theorem fwX3_29 : zv_FW RX3 "<init>" 29 3 4 := ⟨flX3_29, fun C T N h => by cases h; exact Or.inr ⟨rfl, rfl, rfl, zv_gt 110 (by decide +kernel) rfl⟩⟩
theorem flX7_154 : zv_FL RX7 154 3 4 := ⟨RX3, TX3, 10, rfl, by decide, rfl, inX3, tyX3_ok, nmX3, rfl, Or.inr ⟨RX7, zv_nt 111 (by decide +kernel) rfl⟩⟩
theorem flX3_34 : zv_FL RX3 34 3 5 := ⟨RX3, TX3, 10, rfl, by decide, rfl, inX3, tyX3_ok, nmX3, rfl, Or.inl (zv_gt 112 (by decide +kernel) rfl)⟩
theorem fwX3_34 : zv_FW RX3 "<init>" 34 3 5 := ⟨flX3_34, fun C T N h => by cases h; exact Or.inr ⟨rfl, rfl, rfl, zv_gt 112 (by decide +kernel) rfl⟩⟩
theorem flX7_278 : zv_FL RX7 278 3 5 := ⟨RX3, TX3, 10, rfl, by decide, rfl, inX3, tyX3_ok, nmX3, rfl, Or.inr ⟨RX7, zv_nt 113 (by decide +kernel) rfl⟩⟩
theorem flX3_40 : zv_FL RX3 40 3 6 := ⟨RX3, TX3, 10, rfl, by decide, rfl, inX3, tyX3_ok, nmX3, rfl, Or.inl (zv_gt 114 (by decide +kernel) rfl)⟩
theorem fwX3_40 : zv_FW RX3 "<init>" 40 3 6 := ⟨flX3_40, fun C T N h => by cases h; exact Or.inr ⟨rfl, rfl, rfl, zv_gt 114 (by decide +kernel) rfl⟩⟩
theorem flX7_194 : zv_FL RX7 194 3 6 := ⟨RX3, TX3, 10, rfl, by decide, rfl, inX3, tyX3_ok, nmX3, rfl, Or.inr ⟨RX7, zv_nt 115 (by decide +kernel) rfl⟩⟩
theorem flX3_47 : zv_FL RX3 47 3 7 := ⟨RX3, TX3, 10, rfl, by decide, rfl, inX3, tyX3_ok, nmX3, rfl, Or.inl (zv_gt 116 (by decide +kernel) rfl)⟩
theorem fwX3_47 : zv_FW RX3 "<init>" 47 3 7 := ⟨flX3_47, fun C T N h => by cases h; exact Or.inr ⟨rfl, rfl, rfl, zv_gt 116 (by decide +kernel) rfl⟩⟩
theorem flX7_261 : zv_FL RX7 261 3 7 := ⟨RX3, TX3, 10, rfl, by decide, rfl, inX3, tyX3_ok, nmX3, rfl, Or.inr ⟨RX7, zv_nt 117 (by decide +kernel) rfl⟩⟩
theorem flX3_77 : zv_FL RX3 77 3 8 := ⟨RX3, TX3, 10, rfl, by decide, rfl, inX3, tyX3_ok, nmX3, rfl, Or.inl (zv_gt 118 (by decide +kernel) rfl)⟩
theorem fwX3_77 {nm : String} : zv_FW RX3 nm 77 3 8 := ⟨flX3_77, fun C T N h => by cases h; exact Or.inl rfl⟩
theorem flX7_151 : zv_FL RX7 151 3 8 := ⟨RX3, TX3, 10, rfl, by decide, rfl, inX3, tyX3_ok, nmX3, rfl, Or.inr ⟨RX7, zv_nt 119 (by decide +kernel) rfl⟩⟩
theorem fwX7_151 {nm : String} : zv_FW RX7 nm 151 3 8 := ⟨flX7_151, fun C T N h => by cases h; exact Or.inl rfl⟩
theorem flX3_51 : zv_FL RX3 51 3 9 := ⟨RX3, TX3, 10, rfl, by decide, rfl, inX3, tyX3_ok, nmX3, rfl, Or.inl (zv_gt 120 (by decide +kernel) rfl)⟩
theorem fwX3_51 {nm : String} : zv_FW RX3 nm 51 3 9 := ⟨flX3_51, fun C T N h => by cases h; exact Or.inl rfl⟩
theorem flX7_275 : zv_FL RX7 275 3 9 := ⟨RX3, TX3, 10, rfl, by decide, rfl, inX3, tyX3_ok, nmX3, rfl, Or.inr ⟨RX7, zv_nt 121 (by decide +kernel) rfl⟩⟩
theorem fwX7_275 {nm : String} : zv_FW RX7 nm 275 3 9 := ⟨flX7_275, fun C T N h => by cases h; exact Or.inl rfl⟩
theorem flX0_7 : zv_FL RX0 7 0 0 := ⟨RX0, TX0, 3, rfl, by decide, rfl, inX0, tyX0_ok, nmX0, rfl, Or.inl (zv_gt 168 (by decide +kernel) rfl)⟩
theorem fwX0_7 : zv_FW RX0 "<init>" 7 0 0 := ⟨flX0_7, fun C T N h => by cases h; exact Or.inr ⟨rfl, rfl, rfl, zv_gt 168 (by decide +kernel) rfl⟩⟩
theorem flX1_25 : zv_FL RX1 25 0 0 := ⟨RX0, TX0, 3, rfl, by decide, rfl, inX0, tyX0_ok, nmX0, rfl, Or.inr ⟨RX7, zv_nt 169 (by decide +kernel) rfl⟩⟩
theorem flX7_131 : zv_FL RX7 131 0 0 := ⟨RX0, TX0, 3, rfl, by decide, rfl, inX0, tyX0_ok, nmX0, rfl, Or.inr ⟨RX7, zv_nt 170 (by decide +kernel) rfl⟩⟩
theorem flX0_13 : zv_FL RX0 13 0 1 := ⟨RX0, TX0, 3, rfl, by decide, rfl, inX0, tyX0_ok, nmX0, rfl, Or.inl (zv_gt 171 (by decide +kernel) rfl)⟩
theorem fwX0_13 : zv_FW RX0 "<init>" 13 0 1 := ⟨flX0_13, fun C T N h => by cases h; exact Or.inr ⟨rfl, rfl, rfl, zv_gt 171 (by decide +kernel) rfl⟩⟩
theorem flX7_134 : zv_FL RX7 134 0 1 := ⟨RX0, TX0, 3, rfl, by decide, rfl, inX0, tyX0_ok, nmX0, rfl, Or.inr ⟨RX7, zv_nt 172 (by decide +kernel) rfl⟩⟩
theorem flX7_137 : zv_FL RX7 137 0 2 := ⟨RX0, TX0, 3, rfl, by decide, rfl, inX0, tyX0_ok, nmX0, rfl, Or.inr ⟨RX7, zv_nt 173 (by decide +kernel) rfl⟩⟩
theorem fwX7_137 {nm : String} : zv_FW RX7 nm 137 0 2 := ⟨flX7_137, fun C T N h => by cases h; exact Or.inl rfl⟩
theorem flX1_11 : zv_FL RX1 11 1 0 := ⟨RX1, TX1, 2, rfl, by decide, rfl, inX1, tyX1_ok, nmX1, rfl, Or.inl (zv_gt 225 (by decide +kernel) rfl)⟩
theorem fwX1_11 : zv_FW RX1 "<init>" 11 1 0 := ⟨flX1_11, fun C T N h => by cases h; exact Or.inr ⟨rfl, rfl, rfl, zv_gt 225 (by decide +kernel) rfl⟩⟩
theorem flX2_57 : zv_FL RX2 57 1 0 := ⟨RX1, TX1, 2, rfl, by decide, rfl, inX1, tyX1_ok, nmX1, rfl, Or.inr ⟨RX7, zv_nt 226 (by decide +kernel) rfl⟩⟩
theorem flX1_21 : zv_FL RX1 21 1 1 := ⟨RX1, TX1, 2, rfl, by decide, rfl, inX1, tyX1_ok, nmX1, rfl, Or.inl (zv_gt 227 (by decide +kernel) rfl)⟩
theorem fwX1_21 {nm : String} : zv_FW RX1 nm 21 1 1 := ⟨flX1_21, fun C T N h => by cases h; exact Or.inl rfl⟩
theorem flX7_123 : zv_FL RX7 123 1 1 := ⟨RX1, TX1, 2, rfl, by decide, rfl, inX1, tyX1_ok, nmX1, rfl, Or.inr ⟨RX7, zv_nt 228 (by decide +kernel) rfl⟩⟩
theorem fwX7_123 {nm : String} : zv_FW RX7 nm 123 1 1 := ⟨flX7_123, fun C T N h => by cases h; exact Or.inl rfl⟩
theorem flX2_25 : zv_FL RX2 25 2 0 := ⟨RX2, TX2, 13, rfl, by decide, rfl, inX2, tyX2_ok, nmX2, rfl, Or.inl (zv_gt 251 (by decide +kernel) rfl)⟩
theorem fwX2_25 : zv_FW RX2 "<init>" 25 2 0 := ⟨flX2_25, fun C T N h => by cases h; exact Or.inr ⟨rfl, rfl, rfl, zv_gt 251 (by decide +kernel) rfl⟩⟩
theorem flX3_55 : zv_FL RX3 55 2 0 := ⟨RX2, TX2, 13, rfl, by decide, rfl, inX2, tyX2_ok, nmX2, rfl, Or.inr ⟨RX7, zv_nt 252 (by decide +kernel) rfl⟩⟩
theorem flX7_250 : zv_FL RX7 250 2 0 := ⟨RX2, TX2, 13, rfl, by decide, rfl, inX2, tyX2_ok, nmX2, rfl, Or.inr ⟨RX7, zv_nt 253 (by decide +kernel) rfl⟩⟩
theorem flX2_28 : zv_FL RX2 28 2 1 := ⟨RX2, TX2, 13, rfl, by decide, rfl, inX2, tyX2_ok, nmX2, rfl, Or.inl (zv_gt 254 (by decide +kernel) rfl)⟩
theorem fwX2_28 : zv_FW RX2 "<init>" 28 2 1 := ⟨flX2_28, fun C T N h => by cases h; exact Or.inr ⟨rfl, rfl, rfl, zv_gt 254 (by decide +kernel) rfl⟩⟩
theorem flX3_74 : zv_FL RX3 74 2 1 := ⟨RX2, TX2, 13, rfl, by decide, rfl, inX2, tyX2_ok, nmX2, rfl, Or.inr ⟨RX7, zv_nt 255 (by decide +kernel) rfl⟩⟩
theorem flX7_101 : zv_FL RX7 101 2 1 := ⟨RX2, TX2, 13, rfl, by decide, rfl, inX2, tyX2_ok, nmX2, rfl, Or.inr ⟨RX7, zv_nt 256 (by decide +kernel) rfl⟩⟩
theorem flX2_31 : zv_FL RX2 31 2 2 := ⟨RX2, TX2, 13, rfl, by decide, rfl, inX2, tyX2_ok, nmX2, rfl, Or.inl (zv_gt 257 (by decide +kernel) rfl)⟩
theorem fwX2_31 : zv_FW RX2 "<init>" 31 2 2 := ⟨flX2_31, fun C T N h => by cases h; exact Or.inr ⟨rfl, rfl, rfl, zv_gt 257 (by decide +kernel) rfl⟩⟩
theorem flX3_68 : zv_FL RX3 68 2 2 := ⟨RX2, TX2, 13, rfl, by decide, rfl, inX2, tyX2_ok, nmX2, rfl, Or.inr ⟨RX7, zv_nt 258 (by decide +kernel) rfl⟩⟩
theorem flX7_104 : zv_FL RX7 104 2 2 := ⟨RX2, TX2, 13, rfl, by decide, rfl, inX2, tyX2_ok, nmX2, rfl, Or.inr ⟨RX7, zv_nt 259 (by decide +kernel) rfl⟩⟩
theorem flX2_34 : zv_FL RX2 34 2 3 := ⟨RX2, TX2, 13, rfl, by decide, rfl, inX2, tyX2_ok, nmX2, rfl, Or.inl (zv_gt 260 (by decide +kernel) rfl)⟩
theorem fwX2_34 : zv_FW RX2 "<init>" 34 2 3 := ⟨flX2_34, fun C T N h => by cases h; exact Or.inr ⟨rfl, rfl, rfl, zv_gt 260 (by decide +kernel) rfl⟩⟩
theorem flX3_71 : zv_FL RX3 71 2 3 := ⟨RX2, TX2, 13, rfl, by decide, rfl, inX2, tyX2_ok, nmX2, rfl, Or.inr ⟨RX7, zv_nt 261 (by decide +kernel) rfl⟩⟩
theorem flX7_107 : zv_FL RX7 107 2 3 := ⟨RX2, TX2, 13, rfl, by decide, rfl, inX2, tyX2_ok, nmX2, rfl, Or.inr ⟨RX7, zv_nt 262 (by decide +kernel) rfl⟩⟩
theorem flX2_37 : zv_FL RX2 37 2 4 := ⟨RX2, TX2, 13, rfl, by decide, rfl, inX2, tyX2_ok, nmX2, rfl, Or.inl (zv_gt 263 (by decide +kernel) rfl)⟩
theorem fwX2_37 : zv_FW RX2 "<init>" 37 2 4 := ⟨flX2_37, fun C T N h => by cases h; exact Or.inr ⟨rfl, rfl, rfl, zv_gt 263 (by decide +kernel) rfl⟩⟩
theorem flX7_110 : zv_FL RX7 110 2 4 := ⟨RX2, TX2, 13, rfl, by decide, rfl, inX2, tyX2_ok, nmX2, rfl, Or.inr ⟨RX7, zv_nt 264 (by decide +kernel) rfl⟩⟩
theorem flX2_40 : zv_FL RX2 40 2 5 := ⟨RX2, TX2, 13, rfl, by decide, rfl, inX2, tyX2_ok, nmX2, rfl, Or.inl (zv_gt 265 (by decide +kernel) rfl)⟩
theorem fwX2_40 : zv_FW RX2 "<init>" 40 2 5 := ⟨flX2_40, fun C T N h => by cases h; exact Or.inr ⟨rfl, rfl, rfl, zv_gt 265 (by decide +kernel) rfl⟩⟩
theorem flX7_113 : zv_FL RX7 113 2 5 := ⟨RX2, TX2, 13, rfl, by decide, rfl, inX2, tyX2_ok, nmX2, rfl, Or.inr ⟨RX7, zv_nt 266 (by decide +kernel) rfl⟩⟩
theorem flX2_43 : zv_FL RX2 43 2 6 := ⟨RX2, TX2, 13, rfl, by decide, rfl, inX2, tyX2_ok, nmX2, rfl, Or.inl (zv_gt 267 (by decide +kernel) rfl)⟩
theorem fwX2_43 : zv_FW RX2 "<init>" 43 2 6 := ⟨flX2_43, fun C T N h => by cases h; exact Or.inr ⟨rfl, rfl, rfl, zv_gt 267 (by decide +kernel) rfl⟩⟩
theorem flX7_119 : zv_FL RX7 119 2 6 := ⟨RX2, TX2, 13, rfl, by decide, rfl, inX2, tyX2_ok, nmX2, rfl, Or.inr ⟨RX7, zv_nt 268 (by decide +kernel) rfl⟩⟩
theorem flX2_12 : zv_FL RX2 12 2 7 := ⟨RX2, TX2, 13, rfl, by decide, rfl, inX2, tyX2_ok, nmX2, rfl, Or.inl (zv_gt 269 (by decide +kernel) rfl)⟩
theorem fwX2_12 : zv_FW RX2 "<init>" 12 2 7 := ⟨flX2_12, fun C T N h => by cases h; exact Or.inr ⟨rfl, rfl, rfl, zv_gt 269 (by decide +kernel) rfl⟩⟩
theorem flX3_80 : zv_FL RX3 80 2 7 := ⟨RX2, TX2, 13, rfl, by decide, rfl, inX2, tyX2_ok, nmX2, rfl, Or.inr ⟨RX7, zv_nt 270 (by decide +kernel) rfl⟩⟩
theorem flX7_168 : zv_FL RX7 168 2 7 := ⟨RX2, TX2, 13, rfl, by decide, rfl, inX2, tyX2_ok, nmX2, rfl, Or.inr ⟨RX7, zv_nt 271 (by decide +kernel) rfl⟩⟩
theorem flX2_18 : zv_FL RX2 18 2 8 := ⟨RX2, TX2, 13, rfl, by decide, rfl, inX2, tyX2_ok, nmX2, rfl, Or.inl (zv_gt 272 (by decide +kernel) rfl)⟩
theorem fwX2_18 {nm : String} : zv_FW RX2 nm 18 2 8 := ⟨flX2_18, fun C T N h => by cases h; exact Or.inl rfl⟩
theorem flX7_116 : zv_FL RX7 116 2 8 := ⟨RX2, TX2, 13, rfl, by decide, rfl, inX2, tyX2_ok, nmX2, rfl, Or.inr ⟨RX7, zv_nt 273 (by decide +kernel) rfl⟩⟩
theorem fwX7_116 {nm : String} : zv_FW RX7 nm 116 2 8 := ⟨flX7_116, fun C T N h => by cases h; exact Or.inl rfl⟩
theorem flX2_22 : zv_FL RX2 22 2 9 := ⟨RX2, TX2, 13, rfl, by decide, rfl, inX2, tyX2_ok, nmX2, rfl, Or.inl (zv_gt 274 (by decide +kernel) rfl)⟩
theorem fwX2_22 {nm : String} : zv_FW RX2 nm 22 2 9 := ⟨flX2_22, fun C T N h => by cases h; exact Or.inl rfl⟩
theorem flX7_308 : zv_FL RX7 308 2 9 := ⟨RX2, TX2, 13, rfl, by decide, rfl, inX2, tyX2_ok, nmX2, rfl, Or.inr ⟨RX7, zv_nt 275 (by decide +kernel) rfl⟩⟩
theorem fwX7_308 {nm : String} : zv_FW RX7 nm 308 2 9 := ⟨flX7_308, fun C T N h => by cases h; exact Or.inl rfl⟩
theorem flX7_128 : zv_FL RX7 128 2 10 := ⟨RX2, TX2, 13, rfl, by decide, rfl, inX2, tyX2_ok, nmX2, rfl, Or.inr ⟨RX7, zv_nt 276 (by decide +kernel) rfl⟩⟩
theorem fwX7_128 {nm : String} : zv_FW RX7 nm 128 2 10 := ⟨flX7_128, fun C T N h => by cases h; exact Or.inl rfl⟩
theorem flX2_47 : zv_FL RX2 47 2 11 := ⟨RX2, TX2, 13, rfl, by decide, rfl, inX2, tyX2_ok, nmX2, rfl, Or.inl (zv_gt 277 (by decide +kernel) rfl)⟩
theorem fwX2_47 {nm : String} : zv_FW RX2 nm 47 2 11 := ⟨flX2_47, fun C T N h => by cases h; exact Or.inl rfl⟩
theorem flX7_92 : zv_FL RX7 92 2 11 := ⟨RX2, TX2, 13, rfl, by decide, rfl, inX2, tyX2_ok, nmX2, rfl, Or.inr ⟨RX7, zv_nt 278 (by decide +kernel) rfl⟩⟩
theorem fwX7_92 {nm : String} : zv_FW RX7 nm 92 2 11 := ⟨flX7_92, fun C T N h => by cases h; exact Or.inl rfl⟩
theorem flX2_54 : zv_FL RX2 54 2 12 := ⟨RX2, TX2, 13, rfl, by decide, rfl, inX2, tyX2_ok, nmX2, rfl, Or.inl (zv_gt 279 (by decide +kernel) rfl)⟩
theorem fwX2_54 {nm : String} : zv_FW RX2 nm 54 2 12 := ⟨flX2_54, fun C T N h => by cases h; exact Or.inl rfl⟩
theorem flX7_288 : zv_FL RX7 288 2 12 := ⟨RX2, TX2, 13, rfl, by decide, rfl, inX2, tyX2_ok, nmX2, rfl, Or.inr ⟨RX7, zv_nt 280 (by decide +kernel) rfl⟩⟩
theorem fwX7_288 {nm : String} : zv_FW RX7 nm 288 2 12 := ⟨flX7_288, fun C T N h => by cases h; exact Or.inl rfl⟩
theorem st_320 : Cond.fieldLink RX7 320 RX7 "BODIES" "[I" ∈ zv_gw := zv_gt 498 (by decide +kernel) rfl
theorem st_317 : Cond.fieldLink RX7 317 RX7 "KIND_ABOVE" "[I" ∈ zv_gw := zv_gt 500 (by decide +kernel) rfl
theorem flX8_78 : zv_FL RX8 78 7 0 := ⟨RX8, TX8, 28, rfl, by decide, rfl, inX8, tyX8_ok, nmX8, rfl, Or.inl (zv_gt 580 (by decide +kernel) rfl)⟩
theorem fwX8_78 {nm : String} : zv_FW RX8 nm 78 7 0 := ⟨flX8_78, fun C T N h => by cases h; exact Or.inl rfl⟩
theorem flX8_86 : zv_FL RX8 86 7 1 := ⟨RX8, TX8, 28, rfl, by decide, rfl, inX8, tyX8_ok, nmX8, rfl, Or.inl (zv_gt 581 (by decide +kernel) rfl)⟩
theorem fwX8_86 {nm : String} : zv_FW RX8 nm 86 7 1 := ⟨flX8_86, fun C T N h => by cases h; exact Or.inl rfl⟩
theorem flX8_7 : zv_FL RX8 7 7 2 := ⟨RX8, TX8, 28, rfl, by decide, rfl, inX8, tyX8_ok, nmX8, rfl, Or.inl (zv_gt 582 (by decide +kernel) rfl)⟩
theorem fwX8_7 : zv_FW RX8 "<init>" 7 7 2 := ⟨flX8_7, fun C T N h => by cases h; exact Or.inr ⟨rfl, rfl, rfl, zv_gt 582 (by decide +kernel) rfl⟩⟩
theorem flX8_13 : zv_FL RX8 13 7 3 := ⟨RX8, TX8, 28, rfl, by decide, rfl, inX8, tyX8_ok, nmX8, rfl, Or.inl (zv_gt 583 (by decide +kernel) rfl)⟩
theorem fwX8_13 : zv_FW RX8 "<init>" 13 7 3 := ⟨flX8_13, fun C T N h => by cases h; exact Or.inr ⟨rfl, rfl, rfl, zv_gt 583 (by decide +kernel) rfl⟩⟩
theorem flX8_89 : zv_FL RX8 89 7 4 := ⟨RX8, TX8, 28, rfl, by decide, rfl, inX8, tyX8_ok, nmX8, rfl, Or.inl (zv_gt 584 (by decide +kernel) rfl)⟩
theorem fwX8_89 {nm : String} : zv_FW RX8 nm 89 7 4 := ⟨flX8_89, fun C T N h => by cases h; exact Or.inl rfl⟩
theorem flX8_120 : zv_FL RX8 120 7 5 := ⟨RX8, TX8, 28, rfl, by decide, rfl, inX8, tyX8_ok, nmX8, rfl, Or.inl (zv_gt 585 (by decide +kernel) rfl)⟩
theorem fwX8_120 {nm : String} : zv_FW RX8 nm 120 7 5 := ⟨flX8_120, fun C T N h => by cases h; exact Or.inl rfl⟩
theorem flX8_16 : zv_FL RX8 16 7 6 := ⟨RX8, TX8, 28, rfl, by decide, rfl, inX8, tyX8_ok, nmX8, rfl, Or.inl (zv_gt 586 (by decide +kernel) rfl)⟩
theorem fwX8_16 : zv_FW RX8 "<init>" 16 7 6 := ⟨flX8_16, fun C T N h => by cases h; exact Or.inr ⟨rfl, rfl, rfl, zv_gt 586 (by decide +kernel) rfl⟩⟩
theorem flX8_19 : zv_FL RX8 19 7 7 := ⟨RX8, TX8, 28, rfl, by decide, rfl, inX8, tyX8_ok, nmX8, rfl, Or.inl (zv_gt 587 (by decide +kernel) rfl)⟩
theorem fwX8_19 : zv_FW RX8 "<init>" 19 7 7 := ⟨flX8_19, fun C T N h => by cases h; exact Or.inr ⟨rfl, rfl, rfl, zv_gt 587 (by decide +kernel) rfl⟩⟩
theorem flX8_22 : zv_FL RX8 22 7 8 := ⟨RX8, TX8, 28, rfl, by decide, rfl, inX8, tyX8_ok, nmX8, rfl, Or.inl (zv_gt 588 (by decide +kernel) rfl)⟩
theorem fwX8_22 : zv_FW RX8 "<init>" 22 7 8 := ⟨flX8_22, fun C T N h => by cases h; exact Or.inr ⟨rfl, rfl, rfl, zv_gt 588 (by decide +kernel) rfl⟩⟩
theorem flX8_25 : zv_FL RX8 25 7 9 := ⟨RX8, TX8, 28, rfl, by decide, rfl, inX8, tyX8_ok, nmX8, rfl, Or.inl (zv_gt 589 (by decide +kernel) rfl)⟩
theorem fwX8_25 : zv_FW RX8 "<init>" 25 7 9 := ⟨flX8_25, fun C T N h => by cases h; exact Or.inr ⟨rfl, rfl, rfl, zv_gt 589 (by decide +kernel) rfl⟩⟩
theorem flX8_28 : zv_FL RX8 28 7 10 := ⟨RX8, TX8, 28, rfl, by decide, rfl, inX8, tyX8_ok, nmX8, rfl, Or.inl (zv_gt 590 (by decide +kernel) rfl)⟩
theorem fwX8_28 : zv_FW RX8 "<init>" 28 7 10 := ⟨flX8_28, fun C T N h => by cases h; exact Or.inr ⟨rfl, rfl, rfl, zv_gt 590 (by decide +kernel) rfl⟩⟩
theorem flX8_31 : zv_FL RX8 31 7 11 := ⟨RX8, TX8, 28, rfl, by decide, rfl, inX8, tyX8_ok, nmX8, rfl, Or.inl (zv_gt 591 (by decide +kernel) rfl)⟩
theorem fwX8_31 : zv_FW RX8 "<init>" 31 7 11 := ⟨flX8_31, fun C T N h => by cases h; exact Or.inr ⟨rfl, rfl, rfl, zv_gt 591 (by decide +kernel) rfl⟩⟩
theorem flX8_34 : zv_FL RX8 34 7 12 := ⟨RX8, TX8, 28, rfl, by decide, rfl, inX8, tyX8_ok, nmX8, rfl, Or.inl (zv_gt 592 (by decide +kernel) rfl)⟩
theorem fwX8_34 : zv_FW RX8 "<init>" 34 7 12 := ⟨flX8_34, fun C T N h => by cases h; exact Or.inr ⟨rfl, rfl, rfl, zv_gt 592 (by decide +kernel) rfl⟩⟩
theorem flX8_37 : zv_FL RX8 37 7 13 := ⟨RX8, TX8, 28, rfl, by decide, rfl, inX8, tyX8_ok, nmX8, rfl, Or.inl (zv_gt 593 (by decide +kernel) rfl)⟩
theorem fwX8_37 : zv_FW RX8 "<init>" 37 7 13 := ⟨flX8_37, fun C T N h => by cases h; exact Or.inr ⟨rfl, rfl, rfl, zv_gt 593 (by decide +kernel) rfl⟩⟩
theorem flX8_40 : zv_FL RX8 40 7 14 := ⟨RX8, TX8, 28, rfl, by decide, rfl, inX8, tyX8_ok, nmX8, rfl, Or.inl (zv_gt 594 (by decide +kernel) rfl)⟩
theorem fwX8_40 : zv_FW RX8 "<init>" 40 7 14 := ⟨flX8_40, fun C T N h => by cases h; exact Or.inr ⟨rfl, rfl, rfl, zv_gt 594 (by decide +kernel) rfl⟩⟩
theorem flX8_43 : zv_FL RX8 43 7 15 := ⟨RX8, TX8, 28, rfl, by decide, rfl, inX8, tyX8_ok, nmX8, rfl, Or.inl (zv_gt 595 (by decide +kernel) rfl)⟩
theorem fwX8_43 : zv_FW RX8 "<init>" 43 7 15 := ⟨flX8_43, fun C T N h => by cases h; exact Or.inr ⟨rfl, rfl, rfl, zv_gt 595 (by decide +kernel) rfl⟩⟩
theorem flX8_46 : zv_FL RX8 46 7 16 := ⟨RX8, TX8, 28, rfl, by decide, rfl, inX8, tyX8_ok, nmX8, rfl, Or.inl (zv_gt 596 (by decide +kernel) rfl)⟩
theorem fwX8_46 : zv_FW RX8 "<init>" 46 7 16 := ⟨flX8_46, fun C T N h => by cases h; exact Or.inr ⟨rfl, rfl, rfl, zv_gt 596 (by decide +kernel) rfl⟩⟩
theorem flX8_49 : zv_FL RX8 49 7 17 := ⟨RX8, TX8, 28, rfl, by decide, rfl, inX8, tyX8_ok, nmX8, rfl, Or.inl (zv_gt 597 (by decide +kernel) rfl)⟩
theorem fwX8_49 : zv_FW RX8 "<init>" 49 7 17 := ⟨flX8_49, fun C T N h => by cases h; exact Or.inr ⟨rfl, rfl, rfl, zv_gt 597 (by decide +kernel) rfl⟩⟩
theorem flX8_52 : zv_FL RX8 52 7 18 := ⟨RX8, TX8, 28, rfl, by decide, rfl, inX8, tyX8_ok, nmX8, rfl, Or.inl (zv_gt 598 (by decide +kernel) rfl)⟩
theorem fwX8_52 : zv_FW RX8 "<init>" 52 7 18 := ⟨flX8_52, fun C T N h => by cases h; exact Or.inr ⟨rfl, rfl, rfl, zv_gt 598 (by decide +kernel) rfl⟩⟩
theorem flX8_55 : zv_FL RX8 55 7 19 := ⟨RX8, TX8, 28, rfl, by decide, rfl, inX8, tyX8_ok, nmX8, rfl, Or.inl (zv_gt 599 (by decide +kernel) rfl)⟩
theorem fwX8_55 : zv_FW RX8 "<init>" 55 7 19 := ⟨flX8_55, fun C T N h => by cases h; exact Or.inr ⟨rfl, rfl, rfl, zv_gt 599 (by decide +kernel) rfl⟩⟩
theorem flX8_58 : zv_FL RX8 58 7 20 := ⟨RX8, TX8, 28, rfl, by decide, rfl, inX8, tyX8_ok, nmX8, rfl, Or.inl (zv_gt 600 (by decide +kernel) rfl)⟩
theorem fwX8_58 : zv_FW RX8 "<init>" 58 7 20 := ⟨flX8_58, fun C T N h => by cases h; exact Or.inr ⟨rfl, rfl, rfl, zv_gt 600 (by decide +kernel) rfl⟩⟩
theorem flX8_61 : zv_FL RX8 61 7 21 := ⟨RX8, TX8, 28, rfl, by decide, rfl, inX8, tyX8_ok, nmX8, rfl, Or.inl (zv_gt 601 (by decide +kernel) rfl)⟩
theorem fwX8_61 : zv_FW RX8 "<init>" 61 7 21 := ⟨flX8_61, fun C T N h => by cases h; exact Or.inr ⟨rfl, rfl, rfl, zv_gt 601 (by decide +kernel) rfl⟩⟩
theorem flX8_65 : zv_FL RX8 65 7 22 := ⟨RX8, TX8, 28, rfl, by decide, rfl, inX8, tyX8_ok, nmX8, rfl, Or.inl (zv_gt 602 (by decide +kernel) rfl)⟩
theorem fwX8_65 : zv_FW RX8 "<init>" 65 7 22 := ⟨flX8_65, fun C T N h => by cases h; exact Or.inr ⟨rfl, rfl, rfl, zv_gt 602 (by decide +kernel) rfl⟩⟩
theorem flX8_69 : zv_FL RX8 69 7 23 := ⟨RX8, TX8, 28, rfl, by decide, rfl, inX8, tyX8_ok, nmX8, rfl, Or.inl (zv_gt 603 (by decide +kernel) rfl)⟩
theorem fwX8_69 : zv_FW RX8 "<init>" 69 7 23 := ⟨flX8_69, fun C T N h => by cases h; exact Or.inr ⟨rfl, rfl, rfl, zv_gt 603 (by decide +kernel) rfl⟩⟩
theorem flX8_100 : zv_FL RX8 100 7 24 := ⟨RX8, TX8, 28, rfl, by decide, rfl, inX8, tyX8_ok, nmX8, rfl, Or.inl (zv_gt 604 (by decide +kernel) rfl)⟩
theorem fwX8_100 {nm : String} : zv_FW RX8 nm 100 7 24 := ⟨flX8_100, fun C T N h => by cases h; exact Or.inl rfl⟩
theorem flX8_72 : zv_FL RX8 72 7 25 := ⟨RX8, TX8, 28, rfl, by decide, rfl, inX8, tyX8_ok, nmX8, rfl, Or.inl (zv_gt 605 (by decide +kernel) rfl)⟩
theorem fwX8_72 : zv_FW RX8 "<init>" 72 7 25 := ⟨flX8_72, fun C T N h => by cases h; exact Or.inr ⟨rfl, rfl, rfl, zv_gt 605 (by decide +kernel) rfl⟩⟩
theorem flX8_176 : zv_FL RX8 176 7 26 := ⟨RX8, TX8, 28, rfl, by decide, rfl, inX8, tyX8_ok, nmX8, rfl, Or.inl (zv_gt 606 (by decide +kernel) rfl)⟩
theorem fwX8_176 {nm : String} : zv_FW RX8 nm 176 7 26 := ⟨flX8_176, fun C T N h => by cases h; exact Or.inl rfl⟩
theorem flX8_75 : zv_FL RX8 75 7 27 := ⟨RX8, TX8, 28, rfl, by decide, rfl, inX8, tyX8_ok, nmX8, rfl, Or.inl (zv_gt 607 (by decide +kernel) rfl)⟩
theorem fwX8_75 : zv_FW RX8 "<init>" 75 7 27 := ⟨flX8_75, fun C T N h => by cases h; exact Or.inr ⟨rfl, rfl, rfl, zv_gt 607 (by decide +kernel) rfl⟩⟩
theorem mlX0_init : zv_ML mX0_init 2 := ⟨zv_gt 166 (by decide +kernel) rfl, zv_gt 7 (by decide +kernel) rfl, by decide +kernel, by decide, by decide +kernel, by decide +kernel, by decide +kernel⟩
theorem imX0_init : Cond.instanceMethod mX0_init.1 ∈ zv_gw := zv_gt 165 (by decide +kernel) rfl
theorem mlX1_init : zv_ML mX1_init 0 := ⟨zv_gt 222 (by decide +kernel) rfl, zv_gt 8 (by decide +kernel) rfl, by decide +kernel, by decide, by decide +kernel, by decide +kernel, by decide +kernel⟩
theorem imX1_init : Cond.instanceMethod mX1_init.1 ∈ zv_gw := zv_gt 221 (by decide +kernel) rfl
theorem mlX1_addRow : zv_ML mX1_addRow 3 := ⟨zv_gt 237 (by decide +kernel) rfl, zv_gt 8 (by decide +kernel) rfl, by decide +kernel, by decide, by decide +kernel, by decide +kernel, by decide +kernel⟩
theorem imX1_addRow : Cond.instanceMethod mX1_addRow.1 ∈ zv_gw := zv_gt 235 (by decide +kernel) rfl
theorem seX1_addRow : Cond.selects mX1_addRow.1.cls mX1_addRow.1 mX1_addRow.1 ∈ zv_gw := zv_gt 236 (by decide +kernel) rfl
theorem mlX1_rowAt : zv_ML mX1_rowAt 1 := ⟨zv_gt 351 (by decide +kernel) rfl, zv_gt 8 (by decide +kernel) rfl, by decide +kernel, by decide, by decide +kernel, by decide +kernel, by decide +kernel⟩
theorem imX1_rowAt : Cond.instanceMethod mX1_rowAt.1 ∈ zv_gw := zv_gt 349 (by decide +kernel) rfl
theorem seX1_rowAt : Cond.selects mX1_rowAt.1.cls mX1_rowAt.1 mX1_rowAt.1 ∈ zv_gw := zv_gt 350 (by decide +kernel) rfl
theorem mlX1_firstRow : zv_ML mX1_firstRow 0 := ⟨zv_gt 549 (by decide +kernel) rfl, zv_gt 8 (by decide +kernel) rfl, by decide +kernel, by decide, by decide +kernel, by decide +kernel, by decide +kernel⟩
theorem imX1_firstRow : Cond.instanceMethod mX1_firstRow.1 ∈ zv_gw := zv_gt 547 (by decide +kernel) rfl
theorem seX1_firstRow : Cond.selects mX1_firstRow.1.cls mX1_firstRow.1 mX1_firstRow.1 ∈ zv_gw := zv_gt 548 (by decide +kernel) rfl
theorem mlX1_sameCounts : zv_ML mX1_sameCounts 2 := ⟨zv_gt 311 (by decide +kernel) rfl, zv_gt 8 (by decide +kernel) rfl, by decide +kernel, by decide, by decide +kernel, by decide +kernel, by decide +kernel⟩
theorem imX1_sameCounts : Cond.instanceMethod mX1_sameCounts.1 ∈ zv_gw := zv_gt 309 (by decide +kernel) rfl
theorem seX1_sameCounts : Cond.selects mX1_sameCounts.1.cls mX1_sameCounts.1 mX1_sameCounts.1 ∈ zv_gw := zv_gt 310 (by decide +kernel) rfl
theorem mlX1_sameInRow : zv_ML mX1_sameInRow 3 := ⟨zv_gt 314 (by decide +kernel) rfl, zv_gt 8 (by decide +kernel) rfl, by decide +kernel, by decide, by decide +kernel, by decide +kernel, by decide +kernel⟩
theorem smX1_sameInRow : Cond.static mX1_sameInRow.1 ∈ zv_gw := zv_gt 313 (by decide +kernel) rfl
theorem mlX2_init : zv_ML mX2_init 7 := ⟨zv_gt 247 (by decide +kernel) rfl, zv_gt 9 (by decide +kernel) rfl, by decide +kernel, by decide, by decide +kernel, by decide +kernel, by decide +kernel⟩
theorem imX2_init : Cond.instanceMethod mX2_init.1 ∈ zv_gw := zv_gt 246 (by decide +kernel) rfl
theorem mlX2_isOnLineTo : zv_ML mX2_isOnLineTo 1 := ⟨zv_gt 401 (by decide +kernel) rfl, zv_gt 9 (by decide +kernel) rfl, by decide +kernel, by decide, by decide +kernel, by decide +kernel, by decide +kernel⟩
theorem imX2_isOnLineTo : Cond.instanceMethod mX2_isOnLineTo.1 ∈ zv_gw := zv_gt 399 (by decide +kernel) rfl
theorem seX2_isOnLineTo : Cond.selects mX2_isOnLineTo.1.cls mX2_isOnLineTo.1 mX2_isOnLineTo.1 ∈ zv_gw := zv_gt 400 (by decide +kernel) rfl
theorem mlX2_isGivenBy : zv_ML mX2_isGivenBy 1 := ⟨zv_gt 208 (by decide +kernel) rfl, zv_gt 9 (by decide +kernel) rfl, by decide +kernel, by decide, by decide +kernel, by decide +kernel, by decide +kernel⟩
theorem imX2_isGivenBy : Cond.instanceMethod mX2_isGivenBy.1 ∈ zv_gw := zv_gt 206 (by decide +kernel) rfl
theorem seX2_isGivenBy : Cond.selects mX2_isGivenBy.1.cls mX2_isGivenBy.1 mX2_isGivenBy.1 ∈ zv_gw := zv_gt 207 (by decide +kernel) rfl
theorem mlX2_needed : zv_ML mX2_needed 2 := ⟨zv_gt 359 (by decide +kernel) rfl, zv_gt 9 (by decide +kernel) rfl, by decide +kernel, by decide, by decide +kernel, by decide +kernel, by decide +kernel⟩
theorem imX2_needed : Cond.instanceMethod mX2_needed.1 ∈ zv_gw := zv_gt 357 (by decide +kernel) rfl
theorem seX2_needed : Cond.selects mX2_needed.1.cls mX2_needed.1 mX2_needed.1 ∈ zv_gw := zv_gt 358 (by decide +kernel) rfl
theorem mlX3_init : zv_ML mX3_init 0 := ⟨zv_gt 83 (by decide +kernel) rfl, zv_gt 4 (by decide +kernel) rfl, by decide +kernel, by decide, by decide +kernel, by decide +kernel, by decide +kernel⟩
theorem imX3_init : Cond.instanceMethod mX3_init.1 ∈ zv_gw := zv_gt 82 (by decide +kernel) rfl
theorem mlX3_nextSerial : zv_ML mX3_nextSerial 1 := ⟨zv_gt 213 (by decide +kernel) rfl, zv_gt 4 (by decide +kernel) rfl, by decide +kernel, by decide, by decide +kernel, by decide +kernel, by decide +kernel⟩
theorem imX3_nextSerial : Cond.instanceMethod mX3_nextSerial.1 ∈ zv_gw := zv_gt 211 (by decide +kernel) rfl
theorem seX3_nextSerial : Cond.selects mX3_nextSerial.1.cls mX3_nextSerial.1 mX3_nextSerial.1 ∈ zv_gw := zv_gt 212 (by decide +kernel) rfl
theorem mlX3_hold : zv_ML mX3_hold 1 := ⟨zv_gt 331 (by decide +kernel) rfl, zv_gt 4 (by decide +kernel) rfl, by decide +kernel, by decide, by decide +kernel, by decide +kernel, by decide +kernel⟩
theorem imX3_hold : Cond.instanceMethod mX3_hold.1 ∈ zv_gw := zv_gt 329 (by decide +kernel) rfl
theorem seX3_hold : Cond.selects mX3_hold.1.cls mX3_hold.1 mX3_hold.1 ∈ zv_gw := zv_gt 330 (by decide +kernel) rfl
theorem mlX3_takeSlot : zv_ML mX3_takeSlot 1 := ⟨zv_gt 335 (by decide +kernel) rfl, zv_gt 4 (by decide +kernel) rfl, by decide +kernel, by decide, by decide +kernel, by decide +kernel, by decide +kernel⟩
theorem imX3_takeSlot : Cond.instanceMethod mX3_takeSlot.1 ∈ zv_gw := zv_gt 334 (by decide +kernel) rfl
theorem seX3_takeSlot : Cond.selects mX3_takeSlot.1.cls mX3_takeSlot.1 mX3_takeSlot.1 ∈ zv_gw := zv_gp 9 (by decide +kernel) rfl
theorem mlX3_release : zv_ML mX3_release 1 := ⟨zv_gt 371 (by decide +kernel) rfl, zv_gt 4 (by decide +kernel) rfl, by decide +kernel, by decide, by decide +kernel, by decide +kernel, by decide +kernel⟩
theorem imX3_release : Cond.instanceMethod mX3_release.1 ∈ zv_gw := zv_gt 369 (by decide +kernel) rfl
theorem seX3_release : Cond.selects mX3_release.1.cls mX3_release.1 mX3_release.1 ∈ zv_gw := zv_gt 370 (by decide +kernel) rfl
theorem mlX3_dropHeld : zv_ML mX3_dropHeld 1 := ⟨zv_gt 375 (by decide +kernel) rfl, zv_gt 4 (by decide +kernel) rfl, by decide +kernel, by decide, by decide +kernel, by decide +kernel, by decide +kernel⟩
theorem imX3_dropHeld : Cond.instanceMethod mX3_dropHeld.1 ∈ zv_gw := zv_gt 374 (by decide +kernel) rfl
theorem seX3_dropHeld : Cond.selects mX3_dropHeld.1.cls mX3_dropHeld.1 mX3_dropHeld.1 ∈ zv_gw := zv_gp 16 (by decide +kernel) rfl
theorem mlX3_leaveSlot : zv_ML mX3_leaveSlot 1 := ⟨zv_gt 379 (by decide +kernel) rfl, zv_gt 4 (by decide +kernel) rfl, by decide +kernel, by decide, by decide +kernel, by decide +kernel, by decide +kernel⟩
theorem imX3_leaveSlot : Cond.instanceMethod mX3_leaveSlot.1 ∈ zv_gw := zv_gt 378 (by decide +kernel) rfl
theorem seX3_leaveSlot : Cond.selects mX3_leaveSlot.1.cls mX3_leaveSlot.1 mX3_leaveSlot.1 ∈ zv_gw := zv_gp 17 (by decide +kernel) rfl
theorem mlX4_init : zv_ML mX4_init 0 := ⟨zv_gt 96 (by decide +kernel) rfl, zv_gt 5 (by decide +kernel) rfl, by decide +kernel, by decide, by decide +kernel, by decide +kernel, by decide +kernel⟩
theorem imX4_init : Cond.instanceMethod mX4_init.1 ∈ zv_gw := zv_gt 95 (by decide +kernel) rfl
theorem mlX4_add : zv_ML mX4_add 1 := ⟨zv_gt 327 (by decide +kernel) rfl, zv_gt 5 (by decide +kernel) rfl, by decide +kernel, by decide, by decide +kernel, by decide +kernel, by decide +kernel⟩
theorem imX4_add : Cond.instanceMethod mX4_add.1 ∈ zv_gw := zv_gt 325 (by decide +kernel) rfl
theorem seX4_add : Cond.selects mX4_add.1.cls mX4_add.1 mX4_add.1 ∈ zv_gw := zv_gt 326 (by decide +kernel) rfl
theorem mlX4_addAll : zv_ML mX4_addAll 1 := ⟨zv_gt 323 (by decide +kernel) rfl, zv_gt 5 (by decide +kernel) rfl, by decide +kernel, by decide, by decide +kernel, by decide +kernel, by decide +kernel⟩
theorem imX4_addAll : Cond.instanceMethod mX4_addAll.1 ∈ zv_gw := zv_gt 321 (by decide +kernel) rfl
theorem seX4_addAll : Cond.selects mX4_addAll.1.cls mX4_addAll.1 mX4_addAll.1 ∈ zv_gw := zv_gt 322 (by decide +kernel) rfl
theorem mlX4_has : zv_ML mX4_has 1 := ⟨zv_gt 465 (by decide +kernel) rfl, zv_gt 5 (by decide +kernel) rfl, by decide +kernel, by decide, by decide +kernel, by decide +kernel, by decide +kernel⟩
theorem imX4_has : Cond.instanceMethod mX4_has.1 ∈ zv_gw := zv_gt 463 (by decide +kernel) rfl
theorem seX4_has : Cond.selects mX4_has.1.cls mX4_has.1 mX4_has.1 ∈ zv_gw := zv_gt 464 (by decide +kernel) rfl
theorem mlX4_size : zv_ML mX4_size 0 := ⟨zv_gt 473 (by decide +kernel) rfl, zv_gt 5 (by decide +kernel) rfl, by decide +kernel, by decide, by decide +kernel, by decide +kernel, by decide +kernel⟩
theorem imX4_size : Cond.instanceMethod mX4_size.1 ∈ zv_gw := zv_gt 471 (by decide +kernel) rfl
theorem seX4_size : Cond.selects mX4_size.1.cls mX4_size.1 mX4_size.1 ∈ zv_gw := zv_gt 472 (by decide +kernel) rfl
theorem mlX6_init : zv_ML mX6_init 0 := ⟨zv_gt 30 (by decide +kernel) rfl, zv_gt 2 (by decide +kernel) rfl, by decide +kernel, by decide, by decide +kernel, by decide +kernel, by decide +kernel⟩
theorem imX6_init : Cond.instanceMethod mX6_init.1 ∈ zv_gw := zv_gt 29 (by decide +kernel) rfl
theorem mlX6_begin : zv_ML mX6_begin 1 := ⟨zv_gt 505 (by decide +kernel) rfl, zv_gt 2 (by decide +kernel) rfl, by decide +kernel, by decide, by decide +kernel, by decide +kernel, by decide +kernel⟩
theorem imX6_begin : Cond.instanceMethod mX6_begin.1 ∈ zv_gw := zv_gt 503 (by decide +kernel) rfl
theorem seX6_begin : Cond.selects mX6_begin.1.cls mX6_begin.1 mX6_begin.1 ∈ zv_gw := zv_gt 504 (by decide +kernel) rfl
theorem mlX6_bodyAt : zv_ML mX6_bodyAt 1 := ⟨zv_gt 513 (by decide +kernel) rfl, zv_gt 2 (by decide +kernel) rfl, by decide +kernel, by decide, by decide +kernel, by decide +kernel, by decide +kernel⟩
theorem imX6_bodyAt : Cond.instanceMethod mX6_bodyAt.1 ∈ zv_gw := zv_gt 511 (by decide +kernel) rfl
theorem seX6_bodyAt : Cond.selects mX6_bodyAt.1.cls mX6_bodyAt.1 mX6_bodyAt.1 ∈ zv_gw := zv_gt 512 (by decide +kernel) rfl
theorem mlX7_init : zv_ML mX7_init 0 := ⟨zv_gt 16 (by decide +kernel) rfl, zv_gt 1 (by decide +kernel) rfl, by decide +kernel, by decide, by decide +kernel, by decide +kernel, by decide +kernel⟩
theorem imX7_init : Cond.instanceMethod mX7_init.1 ∈ zv_gw := zv_gt 15 (by decide +kernel) rfl
theorem mlX7_member : zv_ML mX7_member 0 := ⟨zv_gt 75 (by decide +kernel) rfl, zv_gt 1 (by decide +kernel) rfl, by decide +kernel, by decide, by decide +kernel, by decide +kernel, by decide +kernel⟩
theorem imX7_member : Cond.instanceMethod mX7_member.1 ∈ zv_gw := zv_gt 73 (by decide +kernel) rfl
theorem seX7_member : Cond.selects mX7_member.1.cls mX7_member.1 mX7_member.1 ∈ zv_gw := zv_gt 74 (by decide +kernel) rfl
theorem mlX7_circle : zv_ML mX7_circle 1 := ⟨zv_gt 150 (by decide +kernel) rfl, zv_gt 1 (by decide +kernel) rfl, by decide +kernel, by decide, by decide +kernel, by decide +kernel, by decide +kernel⟩
theorem imX7_circle : Cond.instanceMethod mX7_circle.1 ∈ zv_gw := zv_gt 148 (by decide +kernel) rfl
theorem seX7_circle : Cond.selects mX7_circle.1.cls mX7_circle.1 mX7_circle.1 ∈ zv_gw := zv_gt 149 (by decide +kernel) rfl
theorem mlX7_write : zv_ML mX7_write 3 := ⟨zv_gt 184 (by decide +kernel) rfl, zv_gt 1 (by decide +kernel) rfl, by decide +kernel, by decide, by decide +kernel, by decide +kernel, by decide +kernel⟩
theorem imX7_write : Cond.instanceMethod mX7_write.1 ∈ zv_gw := zv_gt 182 (by decide +kernel) rfl
theorem seX7_write : Cond.selects mX7_write.1.cls mX7_write.1 mX7_write.1 ∈ zv_gw := zv_gt 183 (by decide +kernel) rfl
theorem mlX7_reply : zv_ML mX7_reply 3 := ⟨zv_gt 389 (by decide +kernel) rfl, zv_gt 1 (by decide +kernel) rfl, by decide +kernel, by decide, by decide +kernel, by decide +kernel, by decide +kernel⟩
theorem imX7_reply : Cond.instanceMethod mX7_reply.1 ∈ zv_gw := zv_gt 387 (by decide +kernel) rfl
theorem seX7_reply : Cond.selects mX7_reply.1.cls mX7_reply.1 mX7_reply.1 ∈ zv_gw := zv_gt 388 (by decide +kernel) rfl
theorem mlX7_seal : zv_ML mX7_seal 3 := ⟨zv_gt 393 (by decide +kernel) rfl, zv_gt 1 (by decide +kernel) rfl, by decide +kernel, by decide, by decide +kernel, by decide +kernel, by decide +kernel⟩
theorem imX7_seal : Cond.instanceMethod mX7_seal.1 ∈ zv_gw := zv_gt 391 (by decide +kernel) rfl
theorem seX7_seal : Cond.selects mX7_seal.1.cls mX7_seal.1 mX7_seal.1 ∈ zv_gw := zv_gt 392 (by decide +kernel) rfl
theorem mlX7_deliver : zv_ML mX7_deliver 2 := ⟨zv_gt 397 (by decide +kernel) rfl, zv_gt 1 (by decide +kernel) rfl, by decide +kernel, by decide, by decide +kernel, by decide +kernel, by decide +kernel⟩
theorem imX7_deliver : Cond.instanceMethod mX7_deliver.1 ∈ zv_gw := zv_gt 395 (by decide +kernel) rfl
theorem seX7_deliver : Cond.selects mX7_deliver.1.cls mX7_deliver.1 mX7_deliver.1 ∈ zv_gw := zv_gt 396 (by decide +kernel) rfl
theorem mlX7_deliverAll : zv_ML mX7_deliverAll 2 := ⟨zv_gt 409 (by decide +kernel) rfl, zv_gt 1 (by decide +kernel) rfl, by decide +kernel, by decide, by decide +kernel, by decide +kernel, by decide +kernel⟩
theorem imX7_deliverAll : Cond.instanceMethod mX7_deliverAll.1 ∈ zv_gw := zv_gt 407 (by decide +kernel) rfl
theorem seX7_deliverAll : Cond.selects mX7_deliverAll.1.cls mX7_deliverAll.1 mX7_deliverAll.1 ∈ zv_gw := zv_gt 408 (by decide +kernel) rfl
theorem mlX7_count : zv_ML mX7_count 1 := ⟨zv_gt 417 (by decide +kernel) rfl, zv_gt 1 (by decide +kernel) rfl, by decide +kernel, by decide, by decide +kernel, by decide +kernel, by decide +kernel⟩
theorem imX7_count : Cond.instanceMethod mX7_count.1 ∈ zv_gw := zv_gt 415 (by decide +kernel) rfl
theorem seX7_count : Cond.selects mX7_count.1.cls mX7_count.1 mX7_count.1 ∈ zv_gw := zv_gt 416 (by decide +kernel) rfl
theorem mlX7_told : zv_ML mX7_told 2 := ⟨zv_gt 421 (by decide +kernel) rfl, zv_gt 1 (by decide +kernel) rfl, by decide +kernel, by decide, by decide +kernel, by decide +kernel, by decide +kernel⟩
theorem imX7_told : Cond.instanceMethod mX7_told.1 ∈ zv_gw := zv_gt 419 (by decide +kernel) rfl
theorem seX7_told : Cond.selects mX7_told.1.cls mX7_told.1 mX7_told.1 ∈ zv_gw := zv_gt 420 (by decide +kernel) rfl
theorem mlX7_circleTold : zv_ML mX7_circleTold 2 := ⟨zv_gt 425 (by decide +kernel) rfl, zv_gt 1 (by decide +kernel) rfl, by decide +kernel, by decide, by decide +kernel, by decide +kernel, by decide +kernel⟩
theorem imX7_circleTold : Cond.instanceMethod mX7_circleTold.1 ∈ zv_gw := zv_gt 423 (by decide +kernel) rfl
theorem seX7_circleTold : Cond.selects mX7_circleTold.1.cls mX7_circleTold.1 mX7_circleTold.1 ∈ zv_gw := zv_gt 424 (by decide +kernel) rfl
theorem mlX7_state : zv_ML mX7_state 2 := ⟨zv_gt 433 (by decide +kernel) rfl, zv_gt 1 (by decide +kernel) rfl, by decide +kernel, by decide, by decide +kernel, by decide +kernel, by decide +kernel⟩
theorem imX7_state : Cond.instanceMethod mX7_state.1 ∈ zv_gw := zv_gt 431 (by decide +kernel) rfl
theorem seX7_state : Cond.selects mX7_state.1.cls mX7_state.1 mX7_state.1 ∈ zv_gw := zv_gt 432 (by decide +kernel) rfl
theorem mlX7_given : zv_ML mX7_given 3 := ⟨zv_gt 441 (by decide +kernel) rfl, zv_gt 1 (by decide +kernel) rfl, by decide +kernel, by decide, by decide +kernel, by decide +kernel, by decide +kernel⟩
theorem imX7_given : Cond.instanceMethod mX7_given.1 ∈ zv_gw := zv_gt 439 (by decide +kernel) rfl
theorem seX7_given : Cond.selects mX7_given.1.cls mX7_given.1 mX7_given.1 ∈ zv_gw := zv_gt 440 (by decide +kernel) rfl
theorem mlX7_read : zv_ML mX7_read 2 := ⟨zv_gt 445 (by decide +kernel) rfl, zv_gt 1 (by decide +kernel) rfl, by decide +kernel, by decide, by decide +kernel, by decide +kernel, by decide +kernel⟩
theorem imX7_read : Cond.instanceMethod mX7_read.1 ∈ zv_gw := zv_gt 443 (by decide +kernel) rfl
theorem seX7_read : Cond.selects mX7_read.1.cls mX7_read.1 mX7_read.1 ∈ zv_gw := zv_gt 444 (by decide +kernel) rfl
theorem mlX7_why : zv_ML mX7_why 3 := ⟨zv_gt 449 (by decide +kernel) rfl, zv_gt 1 (by decide +kernel) rfl, by decide +kernel, by decide, by decide +kernel, by decide +kernel, by decide +kernel⟩
theorem imX7_why : Cond.instanceMethod mX7_why.1 ∈ zv_gw := zv_gt 447 (by decide +kernel) rfl
theorem seX7_why : Cond.selects mX7_why.1.cls mX7_why.1 mX7_why.1 ∈ zv_gw := zv_gt 448 (by decide +kernel) rfl
theorem mlX7_late : zv_ML mX7_late 1 := ⟨zv_gt 457 (by decide +kernel) rfl, zv_gt 1 (by decide +kernel) rfl, by decide +kernel, by decide, by decide +kernel, by decide +kernel, by decide +kernel⟩
theorem imX7_late : Cond.instanceMethod mX7_late.1 ∈ zv_gw := zv_gt 455 (by decide +kernel) rfl
theorem seX7_late : Cond.selects mX7_late.1.cls mX7_late.1 mX7_late.1 ∈ zv_gw := zv_gt 456 (by decide +kernel) rfl
theorem mlX7_behind : zv_ML mX7_behind 2 := ⟨zv_gt 461 (by decide +kernel) rfl, zv_gt 1 (by decide +kernel) rfl, by decide +kernel, by decide, by decide +kernel, by decide +kernel, by decide +kernel⟩
theorem imX7_behind : Cond.instanceMethod mX7_behind.1 ∈ zv_gw := zv_gt 459 (by decide +kernel) rfl
theorem seX7_behind : Cond.selects mX7_behind.1.cls mX7_behind.1 mX7_behind.1 ∈ zv_gw := zv_gt 460 (by decide +kernel) rfl
theorem mlX7_past : zv_ML mX7_past 1 := ⟨zv_gt 469 (by decide +kernel) rfl, zv_gt 1 (by decide +kernel) rfl, by decide +kernel, by decide, by decide +kernel, by decide +kernel, by decide +kernel⟩
theorem imX7_past : Cond.instanceMethod mX7_past.1 ∈ zv_gw := zv_gt 467 (by decide +kernel) rfl
theorem seX7_past : Cond.selects mX7_past.1.cls mX7_past.1 mX7_past.1 ∈ zv_gw := zv_gt 468 (by decide +kernel) rfl
theorem mlX7_chain : zv_ML mX7_chain 2 := ⟨zv_gt 483 (by decide +kernel) rfl, zv_gt 1 (by decide +kernel) rfl, by decide +kernel, by decide, by decide +kernel, by decide +kernel, by decide +kernel⟩
theorem imX7_chain : Cond.instanceMethod mX7_chain.1 ∈ zv_gw := zv_gt 481 (by decide +kernel) rfl
theorem seX7_chain : Cond.selects mX7_chain.1.cls mX7_chain.1 mX7_chain.1 ∈ zv_gw := zv_gt 482 (by decide +kernel) rfl
theorem mlX7_act : zv_ML mX7_act 3 := ⟨zv_gt 491 (by decide +kernel) rfl, zv_gt 1 (by decide +kernel) rfl, by decide +kernel, by decide, by decide +kernel, by decide +kernel, by decide +kernel⟩
theorem imX7_act : Cond.instanceMethod mX7_act.1 ∈ zv_gw := zv_gt 489 (by decide +kernel) rfl
theorem seX7_act : Cond.selects mX7_act.1.cls mX7_act.1 mX7_act.1 ∈ zv_gw := zv_gt 490 (by decide +kernel) rfl
theorem mlX7_trace : zv_ML mX7_trace 1 := ⟨zv_gt 509 (by decide +kernel) rfl, zv_gt 1 (by decide +kernel) rfl, by decide +kernel, by decide, by decide +kernel, by decide +kernel, by decide +kernel⟩
theorem imX7_trace : Cond.instanceMethod mX7_trace.1 ∈ zv_gw := zv_gt 507 (by decide +kernel) rfl
theorem seX7_trace : Cond.selects mX7_trace.1.cls mX7_trace.1 mX7_trace.1 ∈ zv_gw := zv_gt 508 (by decide +kernel) rfl
theorem mlX7_bare : zv_ML mX7_bare 3 := ⟨zv_gt 517 (by decide +kernel) rfl, zv_gt 1 (by decide +kernel) rfl, by decide +kernel, by decide, by decide +kernel, by decide +kernel, by decide +kernel⟩
theorem imX7_bare : Cond.instanceMethod mX7_bare.1 ∈ zv_gw := zv_gt 515 (by decide +kernel) rfl
theorem seX7_bare : Cond.selects mX7_bare.1.cls mX7_bare.1 mX7_bare.1 ∈ zv_gw := zv_gt 516 (by decide +kernel) rfl
theorem mlX7_slot : zv_ML mX7_slot 2 := ⟨zv_gt 524 (by decide +kernel) rfl, zv_gt 1 (by decide +kernel) rfl, by decide +kernel, by decide, by decide +kernel, by decide +kernel, by decide +kernel⟩
theorem imX7_slot : Cond.instanceMethod mX7_slot.1 ∈ zv_gw := zv_gt 522 (by decide +kernel) rfl
theorem seX7_slot : Cond.selects mX7_slot.1.cls mX7_slot.1 mX7_slot.1 ∈ zv_gw := zv_gt 523 (by decide +kernel) rfl
theorem mlX7_forge : zv_ML mX7_forge 4 := ⟨zv_gt 528 (by decide +kernel) rfl, zv_gt 1 (by decide +kernel) rfl, by decide +kernel, by decide, by decide +kernel, by decide +kernel, by decide +kernel⟩
theorem imX7_forge : Cond.instanceMethod mX7_forge.1 ∈ zv_gw := zv_gt 526 (by decide +kernel) rfl
theorem seX7_forge : Cond.selects mX7_forge.1.cls mX7_forge.1 mX7_forge.1 ∈ zv_gw := zv_gt 527 (by decide +kernel) rfl
theorem mlX7_status : zv_ML mX7_status 0 := ⟨zv_gt 572 (by decide +kernel) rfl, zv_gt 1 (by decide +kernel) rfl, by decide +kernel, by decide, by decide +kernel, by decide +kernel, by decide +kernel⟩
theorem imX7_status : Cond.instanceMethod mX7_status.1 ∈ zv_gw := zv_gt 570 (by decide +kernel) rfl
theorem seX7_status : Cond.selects mX7_status.1.cls mX7_status.1 mX7_status.1 ∈ zv_gw := zv_gt 571 (by decide +kernel) rfl
theorem mlX7_done : zv_ML mX7_done 1 := ⟨zv_gt 146 (by decide +kernel) rfl, zv_gt 1 (by decide +kernel) rfl, by decide +kernel, by decide, by decide +kernel, by decide +kernel, by decide +kernel⟩
theorem imX7_done : Cond.instanceMethod mX7_done.1 ∈ zv_gw := zv_gt 145 (by decide +kernel) rfl
theorem seX7_done : Cond.selects mX7_done.1.cls mX7_done.1 mX7_done.1 ∈ zv_gw := zv_gp 1 (by decide +kernel) rfl
theorem mlX7_refuse : zv_ML mX7_refuse 1 := ⟨zv_gt 79 (by decide +kernel) rfl, zv_gt 1 (by decide +kernel) rfl, by decide +kernel, by decide, by decide +kernel, by decide +kernel, by decide +kernel⟩
theorem imX7_refuse : Cond.instanceMethod mX7_refuse.1 ∈ zv_gw := zv_gt 78 (by decide +kernel) rfl
theorem seX7_refuse : Cond.selects mX7_refuse.1.cls mX7_refuse.1 mX7_refuse.1 ∈ zv_gw := zv_gp 0 (by decide +kernel) rfl
theorem mlX7_isMember : zv_ML mX7_isMember 1 := ⟨zv_gt 192 (by decide +kernel) rfl, zv_gt 1 (by decide +kernel) rfl, by decide +kernel, by decide, by decide +kernel, by decide +kernel, by decide +kernel⟩
theorem imX7_isMember : Cond.instanceMethod mX7_isMember.1 ∈ zv_gw := zv_gt 191 (by decide +kernel) rfl
theorem seX7_isMember : Cond.selects mX7_isMember.1.cls mX7_isMember.1 mX7_isMember.1 ∈ zv_gw := zv_gp 3 (by decide +kernel) rfl
theorem mlX7_isCircle : zv_ML mX7_isCircle 1 := ⟨zv_gt 196 (by decide +kernel) rfl, zv_gt 1 (by decide +kernel) rfl, by decide +kernel, by decide, by decide +kernel, by decide +kernel, by decide +kernel⟩
theorem imX7_isCircle : Cond.instanceMethod mX7_isCircle.1 ∈ zv_gw := zv_gt 195 (by decide +kernel) rfl
theorem seX7_isCircle : Cond.selects mX7_isCircle.1.cls mX7_isCircle.1 mX7_isCircle.1 ∈ zv_gw := zv_gp 4 (by decide +kernel) rfl
theorem mlX7_isLetter : zv_ML mX7_isLetter 1 := ⟨zv_gt 204 (by decide +kernel) rfl, zv_gt 1 (by decide +kernel) rfl, by decide +kernel, by decide, by decide +kernel, by decide +kernel, by decide +kernel⟩
theorem imX7_isLetter : Cond.instanceMethod mX7_isLetter.1 ∈ zv_gw := zv_gt 203 (by decide +kernel) rfl
theorem seX7_isLetter : Cond.selects mX7_isLetter.1.cls mX7_isLetter.1 mX7_isLetter.1 ∈ zv_gw := zv_gp 6 (by decide +kernel) rfl
theorem mlX7_isSlot : zv_ML mX7_isSlot 1 := ⟨zv_gt 520 (by decide +kernel) rfl, zv_gt 1 (by decide +kernel) rfl, by decide +kernel, by decide, by decide +kernel, by decide +kernel, by decide +kernel⟩
theorem smX7_isSlot : Cond.static mX7_isSlot.1 ∈ zv_gw := zv_gt 519 (by decide +kernel) rfl
theorem mlX7_hasBit : zv_ML mX7_hasBit 2 := ⟨zv_gt 163 (by decide +kernel) rfl, zv_gt 1 (by decide +kernel) rfl, by decide +kernel, by decide, by decide +kernel, by decide +kernel, by decide +kernel⟩
theorem smX7_hasBit : Cond.static mX7_hasBit.1 ∈ zv_gw := zv_gt 162 (by decide +kernel) rfl
theorem mlX7_lowestMember : zv_ML mX7_lowestMember 1 := ⟨zv_gt 160 (by decide +kernel) rfl, zv_gt 1 (by decide +kernel) rfl, by decide +kernel, by decide, by decide +kernel, by decide +kernel, by decide +kernel⟩
theorem smX7_lowestMember : Cond.static mX7_lowestMember.1 ∈ zv_gw := zv_gt 159 (by decide +kernel) rfl
theorem mlX7_writeByCall : zv_ML mX7_writeByCall 4 := ⟨zv_gt 188 (by decide +kernel) rfl, zv_gt 1 (by decide +kernel) rfl, by decide +kernel, by decide, by decide +kernel, by decide +kernel, by decide +kernel⟩
theorem imX7_writeByCall : Cond.instanceMethod mX7_writeByCall.1 ∈ zv_gw := zv_gt 187 (by decide +kernel) rfl
theorem seX7_writeByCall : Cond.selects mX7_writeByCall.1.cls mX7_writeByCall.1 mX7_writeByCall.1 ∈ zv_gw := zv_gp 2 (by decide +kernel) rfl
theorem mlX7_mayAnswer : zv_ML mX7_mayAnswer 2 := ⟨zv_gt 200 (by decide +kernel) rfl, zv_gt 1 (by decide +kernel) rfl, by decide +kernel, by decide, by decide +kernel, by decide +kernel, by decide +kernel⟩
theorem imX7_mayAnswer : Cond.instanceMethod mX7_mayAnswer.1 ∈ zv_gw := zv_gt 199 (by decide +kernel) rfl
theorem seX7_mayAnswer : Cond.selects mX7_mayAnswer.1.cls mX7_mayAnswer.1 mX7_mayAnswer.1 ∈ zv_gw := zv_gp 5 (by decide +kernel) rfl
theorem mlX7_clockNow : zv_ML mX7_clockNow 1 := ⟨zv_gt 217 (by decide +kernel) rfl, zv_gt 1 (by decide +kernel) rfl, by decide +kernel, by decide, by decide +kernel, by decide +kernel, by decide +kernel⟩
theorem imX7_clockNow : Cond.instanceMethod mX7_clockNow.1 ∈ zv_gw := zv_gt 216 (by decide +kernel) rfl
theorem seX7_clockNow : Cond.selects mX7_clockNow.1.cls mX7_clockNow.1 mX7_clockNow.1 ∈ zv_gw := zv_gp 7 (by decide +kernel) rfl
theorem mlX7_send : zv_ML mX7_send 1 := ⟨zv_gt 319 (by decide +kernel) rfl, zv_gt 1 (by decide +kernel) rfl, by decide +kernel, by decide, by decide +kernel, by decide +kernel, by decide +kernel⟩
theorem imX7_send : Cond.instanceMethod mX7_send.1 ∈ zv_gw := zv_gt 318 (by decide +kernel) rfl
theorem seX7_send : Cond.selects mX7_send.1.cls mX7_send.1 mX7_send.1 ∈ zv_gw := zv_gp 8 (by decide +kernel) rfl
theorem mlX7_bring : zv_ML mX7_bring 2 := ⟨zv_gt 405 (by decide +kernel) rfl, zv_gt 1 (by decide +kernel) rfl, by decide +kernel, by decide, by decide +kernel, by decide +kernel, by decide +kernel⟩
theorem imX7_bring : Cond.instanceMethod mX7_bring.1 ∈ zv_gw := zv_gt 404 (by decide +kernel) rfl
theorem seX7_bring : Cond.selects mX7_bring.1.cls mX7_bring.1 mX7_bring.1 ∈ zv_gw := zv_gp 19 (by decide +kernel) rfl
theorem mlX7_nextOnLine : zv_ML mX7_nextOnLine 2 := ⟨zv_gt 413 (by decide +kernel) rfl, zv_gt 1 (by decide +kernel) rfl, by decide +kernel, by decide, by decide +kernel, by decide +kernel, by decide +kernel⟩
theorem imX7_nextOnLine : Cond.instanceMethod mX7_nextOnLine.1 ∈ zv_gw := zv_gt 412 (by decide +kernel) rfl
theorem seX7_nextOnLine : Cond.selects mX7_nextOnLine.1.cls mX7_nextOnLine.1 mX7_nextOnLine.1 ∈ zv_gw := zv_gp 20 (by decide +kernel) rfl
theorem mlX7_giveAll : zv_ML mX7_giveAll 1 := ⟨zv_gt 339 (by decide +kernel) rfl, zv_gt 1 (by decide +kernel) rfl, by decide +kernel, by decide, by decide +kernel, by decide +kernel, by decide +kernel⟩
theorem imX7_giveAll : Cond.instanceMethod mX7_giveAll.1 ∈ zv_gw := zv_gt 338 (by decide +kernel) rfl
theorem seX7_giveAll : Cond.selects mX7_giveAll.1.cls mX7_giveAll.1 mX7_giveAll.1 ∈ zv_gw := zv_gp 10 (by decide +kernel) rfl
theorem mlX7_canGive : zv_ML mX7_canGive 2 := ⟨zv_gt 343 (by decide +kernel) rfl, zv_gt 1 (by decide +kernel) rfl, by decide +kernel, by decide, by decide +kernel, by decide +kernel, by decide +kernel⟩
theorem imX7_canGive : Cond.instanceMethod mX7_canGive.1 ∈ zv_gw := zv_gt 342 (by decide +kernel) rfl
theorem seX7_canGive : Cond.selects mX7_canGive.1.cls mX7_canGive.1 mX7_canGive.1 ∈ zv_gw := zv_gp 11 (by decide +kernel) rfl
theorem mlX7_firstLack : zv_ML mX7_firstLack 2 := ⟨zv_gt 347 (by decide +kernel) rfl, zv_gt 1 (by decide +kernel) rfl, by decide +kernel, by decide, by decide +kernel, by decide +kernel, by decide +kernel⟩
theorem imX7_firstLack : Cond.instanceMethod mX7_firstLack.1 ∈ zv_gw := zv_gt 346 (by decide +kernel) rfl
theorem seX7_firstLack : Cond.selects mX7_firstLack.1.cls mX7_firstLack.1 mX7_firstLack.1 ∈ zv_gw := zv_gp 12 (by decide +kernel) rfl
theorem mlX7_firstLackIn : zv_ML mX7_firstLackIn 3 := ⟨zv_gt 355 (by decide +kernel) rfl, zv_gt 1 (by decide +kernel) rfl, by decide +kernel, by decide, by decide +kernel, by decide +kernel, by decide +kernel⟩
theorem imX7_firstLackIn : Cond.instanceMethod mX7_firstLackIn.1 ∈ zv_gw := zv_gt 354 (by decide +kernel) rfl
theorem seX7_firstLackIn : Cond.selects mX7_firstLackIn.1.cls mX7_firstLackIn.1 mX7_firstLackIn.1 ∈ zv_gw := zv_gp 13 (by decide +kernel) rfl
theorem mlX7_lacksOrder : zv_ML mX7_lacksOrder 2 := ⟨zv_gt 363 (by decide +kernel) rfl, zv_gt 1 (by decide +kernel) rfl, by decide +kernel, by decide, by decide +kernel, by decide +kernel, by decide +kernel⟩
theorem imX7_lacksOrder : Cond.instanceMethod mX7_lacksOrder.1 ∈ zv_gw := zv_gt 362 (by decide +kernel) rfl
theorem seX7_lacksOrder : Cond.selects mX7_lacksOrder.1.cls mX7_lacksOrder.1 mX7_lacksOrder.1 ∈ zv_gw := zv_gp 14 (by decide +kernel) rfl
theorem mlX7_lacksLowerPlace : zv_ML mX7_lacksLowerPlace 2 := ⟨zv_gt 367 (by decide +kernel) rfl, zv_gt 1 (by decide +kernel) rfl, by decide +kernel, by decide, by decide +kernel, by decide +kernel, by decide +kernel⟩
theorem imX7_lacksLowerPlace : Cond.instanceMethod mX7_lacksLowerPlace.1 ∈ zv_gw := zv_gt 366 (by decide +kernel) rfl
theorem seX7_lacksLowerPlace : Cond.selects mX7_lacksLowerPlace.1.cls mX7_lacksLowerPlace.1 mX7_lacksLowerPlace.1 ∈ zv_gw := zv_gp 15 (by decide +kernel) rfl
theorem mlX7_whySealed : zv_ML mX7_whySealed 3 := ⟨zv_gt 453 (by decide +kernel) rfl, zv_gt 1 (by decide +kernel) rfl, by decide +kernel, by decide, by decide +kernel, by decide +kernel, by decide +kernel⟩
theorem imX7_whySealed : Cond.instanceMethod mX7_whySealed.1 ∈ zv_gw := zv_gt 452 (by decide +kernel) rfl
theorem seX7_whySealed : Cond.selects mX7_whySealed.1.cls mX7_whySealed.1 mX7_whySealed.1 ∈ zv_gw := zv_gp 23 (by decide +kernel) rfl
theorem mlX7_writeOrderIfDue : zv_ML mX7_writeOrderIfDue 2 := ⟨zv_gt 385 (by decide +kernel) rfl, zv_gt 1 (by decide +kernel) rfl, by decide +kernel, by decide, by decide +kernel, by decide +kernel, by decide +kernel⟩
theorem imX7_writeOrderIfDue : Cond.instanceMethod mX7_writeOrderIfDue.1 ∈ zv_gw := zv_gt 384 (by decide +kernel) rfl
theorem seX7_writeOrderIfDue : Cond.selects mX7_writeOrderIfDue.1.cls mX7_writeOrderIfDue.1 mX7_writeOrderIfDue.1 ∈ zv_gw := zv_gp 18 (by decide +kernel) rfl
theorem mlX7_standing : zv_ML mX7_standing 2 := ⟨zv_gt 437 (by decide +kernel) rfl, zv_gt 1 (by decide +kernel) rfl, by decide +kernel, by decide, by decide +kernel, by decide +kernel, by decide +kernel⟩
theorem imX7_standing : Cond.instanceMethod mX7_standing.1 ∈ zv_gw := zv_gt 436 (by decide +kernel) rfl
theorem seX7_standing : Cond.selects mX7_standing.1.cls mX7_standing.1 mX7_standing.1 ∈ zv_gw := zv_gp 22 (by decide +kernel) rfl
theorem mlX7_isCalm : zv_ML mX7_isCalm 1 := ⟨zv_gt 429 (by decide +kernel) rfl, zv_gt 1 (by decide +kernel) rfl, by decide +kernel, by decide, by decide +kernel, by decide +kernel, by decide +kernel⟩
theorem imX7_isCalm : Cond.instanceMethod mX7_isCalm.1 ∈ zv_gw := zv_gt 428 (by decide +kernel) rfl
theorem seX7_isCalm : Cond.selects mX7_isCalm.1.cls mX7_isCalm.1 mX7_isCalm.1 ∈ zv_gw := zv_gp 21 (by decide +kernel) rfl
theorem mlX7_longestRowTo : zv_ML mX7_longestRowTo 2 := ⟨zv_gt 487 (by decide +kernel) rfl, zv_gt 1 (by decide +kernel) rfl, by decide +kernel, by decide, by decide +kernel, by decide +kernel, by decide +kernel⟩
theorem imX7_longestRowTo : Cond.instanceMethod mX7_longestRowTo.1 ∈ zv_gw := zv_gt 486 (by decide +kernel) rfl
theorem seX7_longestRowTo : Cond.selects mX7_longestRowTo.1.cls mX7_longestRowTo.1 mX7_longestRowTo.1 ∈ zv_gw := zv_gp 24 (by decide +kernel) rfl
theorem mlX7_perform : zv_ML mX7_perform 6 := ⟨zv_gt 494 (by decide +kernel) rfl, zv_gt 1 (by decide +kernel) rfl, by decide +kernel, by decide, by decide +kernel, by decide +kernel, by decide +kernel⟩
theorem smX7_perform : Cond.static mX7_perform.1 ∈ zv_gw := zv_gt 493 (by decide +kernel) rfl
theorem mlX7_kindWithBody : zv_ML mX7_kindWithBody 2 := ⟨zv_gt 497 (by decide +kernel) rfl, zv_gt 1 (by decide +kernel) rfl, by decide +kernel, by decide, by decide +kernel, by decide +kernel, by decide +kernel⟩
theorem smX7_kindWithBody : Cond.static mX7_kindWithBody.1 ∈ zv_gw := zv_gt 496 (by decide +kernel) rfl
theorem mlX7_isKindOrUnder : zv_ML mX7_isKindOrUnder 2 := ⟨zv_gt 538 (by decide +kernel) rfl, zv_gt 1 (by decide +kernel) rfl, by decide +kernel, by decide, by decide +kernel, by decide +kernel, by decide +kernel⟩
theorem smX7_isKindOrUnder : Cond.static mX7_isKindOrUnder.1 ∈ zv_gw := zv_gt 537 (by decide +kernel) rfl
theorem mlX7_forgeSerial : zv_ML mX7_forgeSerial 2 := ⟨zv_gt 532 (by decide +kernel) rfl, zv_gt 1 (by decide +kernel) rfl, by decide +kernel, by decide, by decide +kernel, by decide +kernel, by decide +kernel⟩
theorem imX7_forgeSerial : Cond.instanceMethod mX7_forgeSerial.1 ∈ zv_gw := zv_gt 531 (by decide +kernel) rfl
theorem seX7_forgeSerial : Cond.selects mX7_forgeSerial.1.cls mX7_forgeSerial.1 mX7_forgeSerial.1 ∈ zv_gw := zv_gp 25 (by decide +kernel) rfl
theorem mlX7_forgeCount : zv_ML mX7_forgeCount 2 := ⟨zv_gt 542 (by decide +kernel) rfl, zv_gt 1 (by decide +kernel) rfl, by decide +kernel, by decide, by decide +kernel, by decide +kernel, by decide +kernel⟩
theorem imX7_forgeCount : Cond.instanceMethod mX7_forgeCount.1 ∈ zv_gw := zv_gt 541 (by decide +kernel) rfl
theorem seX7_forgeCount : Cond.selects mX7_forgeCount.1.cls mX7_forgeCount.1 mX7_forgeCount.1 ∈ zv_gw := zv_gp 26 (by decide +kernel) rfl
theorem mlX7_forgeRowSum : zv_ML mX7_forgeRowSum 2 := ⟨zv_gt 557 (by decide +kernel) rfl, zv_gt 1 (by decide +kernel) rfl, by decide +kernel, by decide, by decide +kernel, by decide +kernel, by decide +kernel⟩
theorem imX7_forgeRowSum : Cond.instanceMethod mX7_forgeRowSum.1 ∈ zv_gw := zv_gt 556 (by decide +kernel) rfl
theorem seX7_forgeRowSum : Cond.selects mX7_forgeRowSum.1.cls mX7_forgeRowSum.1 mX7_forgeRowSum.1 ∈ zv_gw := zv_gp 28 (by decide +kernel) rfl
theorem mlX7_forgeCopy : zv_ML mX7_forgeCopy 2 := ⟨zv_gt 564 (by decide +kernel) rfl, zv_gt 1 (by decide +kernel) rfl, by decide +kernel, by decide, by decide +kernel, by decide +kernel, by decide +kernel⟩
theorem imX7_forgeCopy : Cond.instanceMethod mX7_forgeCopy.1 ∈ zv_gw := zv_gt 563 (by decide +kernel) rfl
theorem seX7_forgeCopy : Cond.selects mX7_forgeCopy.1.cls mX7_forgeCopy.1 mX7_forgeCopy.1 ∈ zv_gw := zv_gp 29 (by decide +kernel) rfl
theorem mlX7_forgeStore : zv_ML mX7_forgeStore 1 := ⟨zv_gt 568 (by decide +kernel) rfl, zv_gt 1 (by decide +kernel) rfl, by decide +kernel, by decide, by decide +kernel, by decide +kernel, by decide +kernel⟩
theorem imX7_forgeStore : Cond.instanceMethod mX7_forgeStore.1 ∈ zv_gw := zv_gt 567 (by decide +kernel) rfl
theorem seX7_forgeStore : Cond.selects mX7_forgeStore.1.cls mX7_forgeStore.1 mX7_forgeStore.1 ∈ zv_gw := zv_gp 30 (by decide +kernel) rfl
theorem mlX7_refuseAsClock : zv_ML mX7_refuseAsClock 1 := ⟨zv_gt 553 (by decide +kernel) rfl, zv_gt 1 (by decide +kernel) rfl, by decide +kernel, by decide, by decide +kernel, by decide +kernel, by decide +kernel⟩
theorem imX7_refuseAsClock : Cond.instanceMethod mX7_refuseAsClock.1 ∈ zv_gw := zv_gt 552 (by decide +kernel) rfl
theorem seX7_refuseAsClock : Cond.selects mX7_refuseAsClock.1.cls mX7_refuseAsClock.1 mX7_refuseAsClock.1 ∈ zv_gw := zv_gp 27 (by decide +kernel) rfl
theorem mlX7_firstRowOf : zv_ML mX7_firstRowOf 1 := ⟨zv_gt 545 (by decide +kernel) rfl, zv_gt 1 (by decide +kernel) rfl, by decide +kernel, by decide, by decide +kernel, by decide +kernel, by decide +kernel⟩
theorem smX7_firstRowOf : Cond.static mX7_firstRowOf.1 ∈ zv_gw := zv_gt 544 (by decide +kernel) rfl
theorem mlX7_sum : zv_ML mX7_sum 3 := ⟨zv_gt 560 (by decide +kernel) rfl, zv_gt 1 (by decide +kernel) rfl, by decide +kernel, by decide, by decide +kernel, by decide +kernel, by decide +kernel⟩
theorem smX7_sum : Cond.static mX7_sum.1 ∈ zv_gw := zv_gt 559 (by decide +kernel) rfl
theorem mlX8_init : zv_ML mX8_init 0 := ⟨zv_gt 577 (by decide +kernel) rfl, zv_gt 3 (by decide +kernel) rfl, by decide +kernel, by decide, by decide +kernel, by decide +kernel, by decide +kernel⟩
theorem imX8_init : Cond.instanceMethod mX8_init.1 ∈ zv_gw := zv_gt 576 (by decide +kernel) rfl
theorem mlX8_in : zv_ML mX8_in 3 := ⟨zv_gt 696 (by decide +kernel) rfl, zv_gt 3 (by decide +kernel) rfl, by decide +kernel, by decide, by decide +kernel, by decide +kernel, by decide +kernel⟩
theorem smX8_in : Cond.static mX8_in.1 ∈ zv_gw := zv_gt 695 (by decide +kernel) rfl
theorem mlX8_isMember : zv_ML mX8_isMember 1 := ⟨zv_gt 693 (by decide +kernel) rfl, zv_gt 3 (by decide +kernel) rfl, by decide +kernel, by decide, by decide +kernel, by decide +kernel, by decide +kernel⟩
theorem imX8_isMember : Cond.instanceMethod mX8_isMember.1 ∈ zv_gw := zv_gt 692 (by decide +kernel) rfl
theorem seX8_isMember : Cond.selects mX8_isMember.1.cls mX8_isMember.1 mX8_isMember.1 ∈ zv_gw := zv_gp 34 (by decide +kernel) rfl
theorem mlX8_isCircle : zv_ML mX8_isCircle 1 := ⟨zv_gt 700 (by decide +kernel) rfl, zv_gt 3 (by decide +kernel) rfl, by decide +kernel, by decide, by decide +kernel, by decide +kernel, by decide +kernel⟩
theorem imX8_isCircle : Cond.instanceMethod mX8_isCircle.1 ∈ zv_gw := zv_gt 699 (by decide +kernel) rfl
theorem seX8_isCircle : Cond.selects mX8_isCircle.1.cls mX8_isCircle.1 mX8_isCircle.1 ∈ zv_gw := zv_gp 35 (by decide +kernel) rfl
theorem mlX8_isLetter : zv_ML mX8_isLetter 1 := ⟨zv_gt 764 (by decide +kernel) rfl, zv_gt 3 (by decide +kernel) rfl, by decide +kernel, by decide, by decide +kernel, by decide +kernel, by decide +kernel⟩
theorem imX8_isLetter : Cond.instanceMethod mX8_isLetter.1 ∈ zv_gw := zv_gt 763 (by decide +kernel) rfl
theorem seX8_isLetter : Cond.selects mX8_isLetter.1.cls mX8_isLetter.1 mX8_isLetter.1 ∈ zv_gw := zv_gp 50 (by decide +kernel) rfl
theorem mlX8_isIn : zv_ML mX8_isIn 2 := ⟨zv_gt 704 (by decide +kernel) rfl, zv_gt 3 (by decide +kernel) rfl, by decide +kernel, by decide, by decide +kernel, by decide +kernel, by decide +kernel⟩
theorem imX8_isIn : Cond.instanceMethod mX8_isIn.1 ∈ zv_gw := zv_gt 703 (by decide +kernel) rfl
theorem seX8_isIn : Cond.selects mX8_isIn.1.cls mX8_isIn.1 mX8_isIn.1 ∈ zv_gw := zv_gp 36 (by decide +kernel) rfl
theorem mlX8_eldest : zv_ML mX8_eldest 1 := ⟨zv_gt 744 (by decide +kernel) rfl, zv_gt 3 (by decide +kernel) rfl, by decide +kernel, by decide, by decide +kernel, by decide +kernel, by decide +kernel⟩
theorem imX8_eldest : Cond.instanceMethod mX8_eldest.1 ∈ zv_gw := zv_gt 743 (by decide +kernel) rfl
theorem seX8_eldest : Cond.selects mX8_eldest.1.cls mX8_eldest.1 mX8_eldest.1 ∈ zv_gw := zv_gp 46 (by decide +kernel) rfl
theorem mlX8_above : zv_ML mX8_above 1 := ⟨zv_gt 906 (by decide +kernel) rfl, zv_gt 3 (by decide +kernel) rfl, by decide +kernel, by decide, by decide +kernel, by decide +kernel, by decide +kernel⟩
theorem smX8_above : Cond.static mX8_above.1 ∈ zv_gw := zv_gt 905 (by decide +kernel) rfl
theorem mlX8_isOf : zv_ML mX8_isOf 2 := ⟨zv_gt 903 (by decide +kernel) rfl, zv_gt 3 (by decide +kernel) rfl, by decide +kernel, by decide, by decide +kernel, by decide +kernel, by decide +kernel⟩
theorem smX8_isOf : Cond.static mX8_isOf.1 ∈ zv_gw := zv_gt 902 (by decide +kernel) rfl
theorem mlX8_refused : zv_ML mX8_refused 1 := ⟨zv_gt 673 (by decide +kernel) rfl, zv_gt 3 (by decide +kernel) rfl, by decide +kernel, by decide, by decide +kernel, by decide +kernel, by decide +kernel⟩
theorem imX8_refused : Cond.instanceMethod mX8_refused.1 ∈ zv_gw := zv_gt 672 (by decide +kernel) rfl
theorem seX8_refused : Cond.selects mX8_refused.1.cls mX8_refused.1 mX8_refused.1 ∈ zv_gw := zv_gp 31 (by decide +kernel) rfl
theorem mlX8_done : zv_ML mX8_done 1 := ⟨zv_gt 677 (by decide +kernel) rfl, zv_gt 3 (by decide +kernel) rfl, by decide +kernel, by decide, by decide +kernel, by decide +kernel, by decide +kernel⟩
theorem imX8_done : Cond.instanceMethod mX8_done.1 ∈ zv_gw := zv_gt 676 (by decide +kernel) rfl
theorem seX8_done : Cond.selects mX8_done.1.cls mX8_done.1 mX8_done.1 ∈ zv_gw := zv_gp 32 (by decide +kernel) rfl
theorem mlX8_member : zv_ML mX8_member 0 := ⟨zv_gt 669 (by decide +kernel) rfl, zv_gt 3 (by decide +kernel) rfl, by decide +kernel, by decide, by decide +kernel, by decide +kernel, by decide +kernel⟩
theorem imX8_member : Cond.instanceMethod mX8_member.1 ∈ zv_gw := zv_gt 667 (by decide +kernel) rfl
theorem seX8_member : Cond.selects mX8_member.1.cls mX8_member.1 mX8_member.1 ∈ zv_gw := zv_gt 668 (by decide +kernel) rfl
theorem mlX8_circle : zv_ML mX8_circle 1 := ⟨zv_gt 681 (by decide +kernel) rfl, zv_gt 3 (by decide +kernel) rfl, by decide +kernel, by decide, by decide +kernel, by decide +kernel, by decide +kernel⟩
theorem imX8_circle : Cond.instanceMethod mX8_circle.1 ∈ zv_gw := zv_gt 679 (by decide +kernel) rfl
theorem seX8_circle : Cond.selects mX8_circle.1.cls mX8_circle.1 mX8_circle.1 ∈ zv_gw := zv_gt 680 (by decide +kernel) rfl
theorem mlX8_made : zv_ML mX8_made 4 := ⟨zv_gt 708 (by decide +kernel) rfl, zv_gt 3 (by decide +kernel) rfl, by decide +kernel, by decide, by decide +kernel, by decide +kernel, by decide +kernel⟩
theorem imX8_made : Cond.instanceMethod mX8_made.1 ∈ zv_gw := zv_gt 707 (by decide +kernel) rfl
theorem seX8_made : Cond.selects mX8_made.1.cls mX8_made.1 mX8_made.1 ∈ zv_gw := zv_gp 37 (by decide +kernel) rfl
theorem mlX8_goes : zv_ML mX8_goes 1 := ⟨zv_gt 716 (by decide +kernel) rfl, zv_gt 3 (by decide +kernel) rfl, by decide +kernel, by decide, by decide +kernel, by decide +kernel, by decide +kernel⟩
theorem imX8_goes : Cond.instanceMethod mX8_goes.1 ∈ zv_gw := zv_gt 715 (by decide +kernel) rfl
theorem seX8_goes : Cond.selects mX8_goes.1.cls mX8_goes.1 mX8_goes.1 ∈ zv_gw := zv_gp 39 (by decide +kernel) rfl
theorem mlX8_holds : zv_ML mX8_holds 2 := ⟨zv_gt 720 (by decide +kernel) rfl, zv_gt 3 (by decide +kernel) rfl, by decide +kernel, by decide, by decide +kernel, by decide +kernel, by decide +kernel⟩
theorem imX8_holds : Cond.instanceMethod mX8_holds.1 ∈ zv_gw := zv_gt 719 (by decide +kernel) rfl
theorem seX8_holds : Cond.selects mX8_holds.1.cls mX8_holds.1 mX8_holds.1 ∈ zv_gw := zv_gp 40 (by decide +kernel) rfl
theorem mlX8_counts : zv_ML mX8_counts 3 := ⟨zv_gt 712 (by decide +kernel) rfl, zv_gt 3 (by decide +kernel) rfl, by decide +kernel, by decide, by decide +kernel, by decide +kernel, by decide +kernel⟩
theorem imX8_counts : Cond.instanceMethod mX8_counts.1 ∈ zv_gw := zv_gt 711 (by decide +kernel) rfl
theorem seX8_counts : Cond.selects mX8_counts.1.cls mX8_counts.1 mX8_counts.1 ∈ zv_gw := zv_gp 38 (by decide +kernel) rfl
theorem mlX8_call : zv_ML mX8_call 5 := ⟨zv_gt 689 (by decide +kernel) rfl, zv_gt 3 (by decide +kernel) rfl, by decide +kernel, by decide, by decide +kernel, by decide +kernel, by decide +kernel⟩
theorem imX8_call : Cond.instanceMethod mX8_call.1 ∈ zv_gw := zv_gt 688 (by decide +kernel) rfl
theorem seX8_call : Cond.selects mX8_call.1.cls mX8_call.1 mX8_call.1 ∈ zv_gw := zv_gp 33 (by decide +kernel) rfl
theorem mlX8_write : zv_ML mX8_write 3 := ⟨zv_gt 685 (by decide +kernel) rfl, zv_gt 3 (by decide +kernel) rfl, by decide +kernel, by decide, by decide +kernel, by decide +kernel, by decide +kernel⟩
theorem imX8_write : Cond.instanceMethod mX8_write.1 ∈ zv_gw := zv_gt 683 (by decide +kernel) rfl
theorem seX8_write : Cond.selects mX8_write.1.cls mX8_write.1 mX8_write.1 ∈ zv_gw := zv_gt 684 (by decide +kernel) rfl
theorem mlX8_reply : zv_ML mX8_reply 3 := ⟨zv_gt 760 (by decide +kernel) rfl, zv_gt 3 (by decide +kernel) rfl, by decide +kernel, by decide, by decide +kernel, by decide +kernel, by decide +kernel⟩
theorem imX8_reply : Cond.instanceMethod mX8_reply.1 ∈ zv_gw := zv_gt 758 (by decide +kernel) rfl
theorem seX8_reply : Cond.selects mX8_reply.1.cls mX8_reply.1 mX8_reply.1 ∈ zv_gw := zv_gt 759 (by decide +kernel) rfl
theorem mlX8_seal : zv_ML mX8_seal 3 := ⟨zv_gt 768 (by decide +kernel) rfl, zv_gt 3 (by decide +kernel) rfl, by decide +kernel, by decide, by decide +kernel, by decide +kernel, by decide +kernel⟩
theorem imX8_seal : Cond.instanceMethod mX8_seal.1 ∈ zv_gw := zv_gt 766 (by decide +kernel) rfl
theorem seX8_seal : Cond.selects mX8_seal.1.cls mX8_seal.1 mX8_seal.1 ∈ zv_gw := zv_gt 767 (by decide +kernel) rfl
theorem mlX8_lacks : zv_ML mX8_lacks 4 := ⟨zv_gt 740 (by decide +kernel) rfl, zv_gt 3 (by decide +kernel) rfl, by decide +kernel, by decide, by decide +kernel, by decide +kernel, by decide +kernel⟩
theorem imX8_lacks : Cond.instanceMethod mX8_lacks.1 ∈ zv_gw := zv_gt 739 (by decide +kernel) rfl
theorem seX8_lacks : Cond.selects mX8_lacks.1.cls mX8_lacks.1 mX8_lacks.1 ∈ zv_gw := zv_gp 45 (by decide +kernel) rfl
theorem mlX8_lacking : zv_ML mX8_lacking 2 := ⟨zv_gt 736 (by decide +kernel) rfl, zv_gt 3 (by decide +kernel) rfl, by decide +kernel, by decide, by decide +kernel, by decide +kernel, by decide +kernel⟩
theorem imX8_lacking : Cond.instanceMethod mX8_lacking.1 ∈ zv_gw := zv_gt 735 (by decide +kernel) rfl
theorem seX8_lacking : Cond.selects mX8_lacking.1.cls mX8_lacking.1 mX8_lacking.1 ∈ zv_gw := zv_gp 44 (by decide +kernel) rfl
theorem mlX8_hasOrder : zv_ML mX8_hasOrder 2 := ⟨zv_gt 748 (by decide +kernel) rfl, zv_gt 3 (by decide +kernel) rfl, by decide +kernel, by decide, by decide +kernel, by decide +kernel, by decide +kernel⟩
theorem imX8_hasOrder : Cond.instanceMethod mX8_hasOrder.1 ∈ zv_gw := zv_gt 747 (by decide +kernel) rfl
theorem seX8_hasOrder : Cond.selects mX8_hasOrder.1.cls mX8_hasOrder.1 mX8_hasOrder.1 ∈ zv_gw := zv_gp 47 (by decide +kernel) rfl
theorem mlX8_hasLower : zv_ML mX8_hasLower 2 := ⟨zv_gt 752 (by decide +kernel) rfl, zv_gt 3 (by decide +kernel) rfl, by decide +kernel, by decide, by decide +kernel, by decide +kernel, by decide +kernel⟩
theorem imX8_hasLower : Cond.instanceMethod mX8_hasLower.1 ∈ zv_gw := zv_gt 751 (by decide +kernel) rfl
theorem seX8_hasLower : Cond.selects mX8_hasLower.1.cls mX8_hasLower.1 mX8_hasLower.1 ∈ zv_gw := zv_gp 48 (by decide +kernel) rfl
theorem mlX8_canGive : zv_ML mX8_canGive 2 := ⟨zv_gt 732 (by decide +kernel) rfl, zv_gt 3 (by decide +kernel) rfl, by decide +kernel, by decide, by decide +kernel, by decide +kernel, by decide +kernel⟩
theorem imX8_canGive : Cond.instanceMethod mX8_canGive.1 ∈ zv_gw := zv_gt 731 (by decide +kernel) rfl
theorem seX8_canGive : Cond.selects mX8_canGive.1.cls mX8_canGive.1 mX8_canGive.1 ∈ zv_gw := zv_gp 43 (by decide +kernel) rfl
theorem mlX8_next : zv_ML mX8_next 1 := ⟨zv_gt 728 (by decide +kernel) rfl, zv_gt 3 (by decide +kernel) rfl, by decide +kernel, by decide, by decide +kernel, by decide +kernel, by decide +kernel⟩
theorem imX8_next : Cond.instanceMethod mX8_next.1 ∈ zv_gw := zv_gt 727 (by decide +kernel) rfl
theorem seX8_next : Cond.selects mX8_next.1.cls mX8_next.1 mX8_next.1 ∈ zv_gw := zv_gp 42 (by decide +kernel) rfl
theorem mlX8_gives : zv_ML mX8_gives 1 := ⟨zv_gt 724 (by decide +kernel) rfl, zv_gt 3 (by decide +kernel) rfl, by decide +kernel, by decide, by decide +kernel, by decide +kernel, by decide +kernel⟩
theorem imX8_gives : Cond.instanceMethod mX8_gives.1 ∈ zv_gw := zv_gt 723 (by decide +kernel) rfl
theorem seX8_gives : Cond.selects mX8_gives.1.cls mX8_gives.1 mX8_gives.1 ∈ zv_gw := zv_gp 41 (by decide +kernel) rfl
theorem mlX8_give : zv_ML mX8_give 2 := ⟨zv_gt 756 (by decide +kernel) rfl, zv_gt 3 (by decide +kernel) rfl, by decide +kernel, by decide, by decide +kernel, by decide +kernel, by decide +kernel⟩
theorem imX8_give : Cond.instanceMethod mX8_give.1 ∈ zv_gw := zv_gt 755 (by decide +kernel) rfl
theorem seX8_give : Cond.selects mX8_give.1.cls mX8_give.1 mX8_give.1 ∈ zv_gw := zv_gp 49 (by decide +kernel) rfl
theorem mlX8_deliver : zv_ML mX8_deliver 2 := ⟨zv_gt 772 (by decide +kernel) rfl, zv_gt 3 (by decide +kernel) rfl, by decide +kernel, by decide, by decide +kernel, by decide +kernel, by decide +kernel⟩
theorem imX8_deliver : Cond.instanceMethod mX8_deliver.1 ∈ zv_gw := zv_gt 770 (by decide +kernel) rfl
theorem seX8_deliver : Cond.selects mX8_deliver.1.cls mX8_deliver.1 mX8_deliver.1 ∈ zv_gw := zv_gt 771 (by decide +kernel) rfl
theorem mlX8_lineOf : zv_ML mX8_lineOf 1 := ⟨zv_gt 784 (by decide +kernel) rfl, zv_gt 3 (by decide +kernel) rfl, by decide +kernel, by decide, by decide +kernel, by decide +kernel, by decide +kernel⟩
theorem imX8_lineOf : Cond.instanceMethod mX8_lineOf.1 ∈ zv_gw := zv_gt 783 (by decide +kernel) rfl
theorem seX8_lineOf : Cond.selects mX8_lineOf.1.cls mX8_lineOf.1 mX8_lineOf.1 ∈ zv_gw := zv_gp 52 (by decide +kernel) rfl
theorem mlX8_lined : zv_ML mX8_lined 2 := ⟨zv_gt 780 (by decide +kernel) rfl, zv_gt 3 (by decide +kernel) rfl, by decide +kernel, by decide, by decide +kernel, by decide +kernel, by decide +kernel⟩
theorem imX8_lined : Cond.instanceMethod mX8_lined.1 ∈ zv_gw := zv_gt 779 (by decide +kernel) rfl
theorem seX8_lined : Cond.selects mX8_lined.1.cls mX8_lined.1 mX8_lined.1 ∈ zv_gw := zv_gp 51 (by decide +kernel) rfl
theorem mlX8_deliverAll : zv_ML mX8_deliverAll 2 := ⟨zv_gt 776 (by decide +kernel) rfl, zv_gt 3 (by decide +kernel) rfl, by decide +kernel, by decide, by decide +kernel, by decide +kernel, by decide +kernel⟩
theorem imX8_deliverAll : Cond.instanceMethod mX8_deliverAll.1 ∈ zv_gw := zv_gt 774 (by decide +kernel) rfl
theorem seX8_deliverAll : Cond.selects mX8_deliverAll.1.cls mX8_deliverAll.1 mX8_deliverAll.1 ∈ zv_gw := zv_gt 775 (by decide +kernel) rfl
theorem mlX8_count : zv_ML mX8_count 1 := ⟨zv_gt 788 (by decide +kernel) rfl, zv_gt 3 (by decide +kernel) rfl, by decide +kernel, by decide, by decide +kernel, by decide +kernel, by decide +kernel⟩
theorem imX8_count : Cond.instanceMethod mX8_count.1 ∈ zv_gw := zv_gt 786 (by decide +kernel) rfl
theorem seX8_count : Cond.selects mX8_count.1.cls mX8_count.1 mX8_count.1 ∈ zv_gw := zv_gt 787 (by decide +kernel) rfl
theorem mlX8_countsOf : zv_ML mX8_countsOf 1 := ⟨zv_gt 796 (by decide +kernel) rfl, zv_gt 3 (by decide +kernel) rfl, by decide +kernel, by decide, by decide +kernel, by decide +kernel, by decide +kernel⟩
theorem imX8_countsOf : Cond.instanceMethod mX8_countsOf.1 ∈ zv_gw := zv_gt 795 (by decide +kernel) rfl
theorem seX8_countsOf : Cond.selects mX8_countsOf.1.cls mX8_countsOf.1 mX8_countsOf.1 ∈ zv_gw := zv_gp 53 (by decide +kernel) rfl
theorem mlX8_told : zv_ML mX8_told 2 := ⟨zv_gt 792 (by decide +kernel) rfl, zv_gt 3 (by decide +kernel) rfl, by decide +kernel, by decide, by decide +kernel, by decide +kernel, by decide +kernel⟩
theorem imX8_told : Cond.instanceMethod mX8_told.1 ∈ zv_gw := zv_gt 790 (by decide +kernel) rfl
theorem seX8_told : Cond.selects mX8_told.1.cls mX8_told.1 mX8_told.1 ∈ zv_gw := zv_gt 791 (by decide +kernel) rfl
theorem mlX8_circleTold : zv_ML mX8_circleTold 2 := ⟨zv_gt 800 (by decide +kernel) rfl, zv_gt 3 (by decide +kernel) rfl, by decide +kernel, by decide, by decide +kernel, by decide +kernel, by decide +kernel⟩
theorem imX8_circleTold : Cond.instanceMethod mX8_circleTold.1 ∈ zv_gw := zv_gt 798 (by decide +kernel) rfl
theorem seX8_circleTold : Cond.selects mX8_circleTold.1.cls mX8_circleTold.1 mX8_circleTold.1 ∈ zv_gw := zv_gt 799 (by decide +kernel) rfl
theorem mlX8_isCalm : zv_ML mX8_isCalm 1 := ⟨zv_gt 804 (by decide +kernel) rfl, zv_gt 3 (by decide +kernel) rfl, by decide +kernel, by decide, by decide +kernel, by decide +kernel, by decide +kernel⟩
theorem imX8_isCalm : Cond.instanceMethod mX8_isCalm.1 ∈ zv_gw := zv_gt 803 (by decide +kernel) rfl
theorem seX8_isCalm : Cond.selects mX8_isCalm.1.cls mX8_isCalm.1 mX8_isCalm.1 ∈ zv_gw := zv_gp 54 (by decide +kernel) rfl
theorem mlX8_state : zv_ML mX8_state 2 := ⟨zv_gt 808 (by decide +kernel) rfl, zv_gt 3 (by decide +kernel) rfl, by decide +kernel, by decide, by decide +kernel, by decide +kernel, by decide +kernel⟩
theorem imX8_state : Cond.instanceMethod mX8_state.1 ∈ zv_gw := zv_gt 806 (by decide +kernel) rfl
theorem seX8_state : Cond.selects mX8_state.1.cls mX8_state.1 mX8_state.1 ∈ zv_gw := zv_gt 807 (by decide +kernel) rfl
theorem mlX8_given : zv_ML mX8_given 3 := ⟨zv_gt 812 (by decide +kernel) rfl, zv_gt 3 (by decide +kernel) rfl, by decide +kernel, by decide, by decide +kernel, by decide +kernel, by decide +kernel⟩
theorem imX8_given : Cond.instanceMethod mX8_given.1 ∈ zv_gw := zv_gt 810 (by decide +kernel) rfl
theorem seX8_given : Cond.selects mX8_given.1.cls mX8_given.1 mX8_given.1 ∈ zv_gw := zv_gt 811 (by decide +kernel) rfl
theorem mlX8_read : zv_ML mX8_read 2 := ⟨zv_gt 816 (by decide +kernel) rfl, zv_gt 3 (by decide +kernel) rfl, by decide +kernel, by decide, by decide +kernel, by decide +kernel, by decide +kernel⟩
theorem imX8_read : Cond.instanceMethod mX8_read.1 ∈ zv_gw := zv_gt 814 (by decide +kernel) rfl
theorem seX8_read : Cond.selects mX8_read.1.cls mX8_read.1 mX8_read.1 ∈ zv_gw := zv_gt 815 (by decide +kernel) rfl
theorem mlX8_why : zv_ML mX8_why 3 := ⟨zv_gt 820 (by decide +kernel) rfl, zv_gt 3 (by decide +kernel) rfl, by decide +kernel, by decide, by decide +kernel, by decide +kernel, by decide +kernel⟩
theorem imX8_why : Cond.instanceMethod mX8_why.1 ∈ zv_gw := zv_gt 818 (by decide +kernel) rfl
theorem seX8_why : Cond.selects mX8_why.1.cls mX8_why.1 mX8_why.1 ∈ zv_gw := zv_gt 819 (by decide +kernel) rfl
theorem mlX8_late : zv_ML mX8_late 1 := ⟨zv_gt 824 (by decide +kernel) rfl, zv_gt 3 (by decide +kernel) rfl, by decide +kernel, by decide, by decide +kernel, by decide +kernel, by decide +kernel⟩
theorem imX8_late : Cond.instanceMethod mX8_late.1 ∈ zv_gw := zv_gt 822 (by decide +kernel) rfl
theorem seX8_late : Cond.selects mX8_late.1.cls mX8_late.1 mX8_late.1 ∈ zv_gw := zv_gt 823 (by decide +kernel) rfl
theorem mlX8_behind : zv_ML mX8_behind 2 := ⟨zv_gt 828 (by decide +kernel) rfl, zv_gt 3 (by decide +kernel) rfl, by decide +kernel, by decide, by decide +kernel, by decide +kernel, by decide +kernel⟩
theorem imX8_behind : Cond.instanceMethod mX8_behind.1 ∈ zv_gw := zv_gt 826 (by decide +kernel) rfl
theorem seX8_behind : Cond.selects mX8_behind.1.cls mX8_behind.1 mX8_behind.1 ∈ zv_gw := zv_gt 827 (by decide +kernel) rfl
theorem mlX8_past : zv_ML mX8_past 1 := ⟨zv_gt 832 (by decide +kernel) rfl, zv_gt 3 (by decide +kernel) rfl, by decide +kernel, by decide, by decide +kernel, by decide +kernel, by decide +kernel⟩
theorem imX8_past : Cond.instanceMethod mX8_past.1 ∈ zv_gw := zv_gt 830 (by decide +kernel) rfl
theorem seX8_past : Cond.selects mX8_past.1.cls mX8_past.1 mX8_past.1 ∈ zv_gw := zv_gt 831 (by decide +kernel) rfl
theorem mlX8_chain : zv_ML mX8_chain 2 := ⟨zv_gt 836 (by decide +kernel) rfl, zv_gt 3 (by decide +kernel) rfl, by decide +kernel, by decide, by decide +kernel, by decide +kernel, by decide +kernel⟩
theorem imX8_chain : Cond.instanceMethod mX8_chain.1 ∈ zv_gw := zv_gt 834 (by decide +kernel) rfl
theorem seX8_chain : Cond.selects mX8_chain.1.cls mX8_chain.1 mX8_chain.1 ∈ zv_gw := zv_gt 835 (by decide +kernel) rfl
theorem mlX8_ran : zv_ML mX8_ran 1 := ⟨zv_gt 852 (by decide +kernel) rfl, zv_gt 3 (by decide +kernel) rfl, by decide +kernel, by decide, by decide +kernel, by decide +kernel, by decide +kernel⟩
theorem imX8_ran : Cond.instanceMethod mX8_ran.1 ∈ zv_gw := zv_gt 851 (by decide +kernel) rfl
theorem seX8_ran : Cond.selects mX8_ran.1.cls mX8_ran.1 mX8_ran.1 ∈ zv_gw := zv_gp 57 (by decide +kernel) rfl
theorem mlX8_noteAge : zv_ML mX8_noteAge 2 := ⟨zv_gt 848 (by decide +kernel) rfl, zv_gt 3 (by decide +kernel) rfl, by decide +kernel, by decide, by decide +kernel, by decide +kernel, by decide +kernel⟩
theorem imX8_noteAge : Cond.instanceMethod mX8_noteAge.1 ∈ zv_gw := zv_gt 847 (by decide +kernel) rfl
theorem seX8_noteAge : Cond.selects mX8_noteAge.1.cls mX8_noteAge.1 mX8_noteAge.1 ∈ zv_gw := zv_gp 56 (by decide +kernel) rfl
theorem mlX8_orderAge : zv_ML mX8_orderAge 2 := ⟨zv_gt 856 (by decide +kernel) rfl, zv_gt 3 (by decide +kernel) rfl, by decide +kernel, by decide, by decide +kernel, by decide +kernel, by decide +kernel⟩
theorem imX8_orderAge : Cond.instanceMethod mX8_orderAge.1 ∈ zv_gw := zv_gt 855 (by decide +kernel) rfl
theorem seX8_orderAge : Cond.selects mX8_orderAge.1.cls mX8_orderAge.1 mX8_orderAge.1 ∈ zv_gw := zv_gp 58 (by decide +kernel) rfl
theorem mlX8_age : zv_ML mX8_age 2 := ⟨zv_gt 844 (by decide +kernel) rfl, zv_gt 3 (by decide +kernel) rfl, by decide +kernel, by decide, by decide +kernel, by decide +kernel, by decide +kernel⟩
theorem imX8_age : Cond.instanceMethod mX8_age.1 ∈ zv_gw := zv_gt 843 (by decide +kernel) rfl
theorem seX8_age : Cond.selects mX8_age.1.cls mX8_age.1 mX8_age.1 ∈ zv_gw := zv_gp 55 (by decide +kernel) rfl
theorem mlX8_noteBear : zv_ML mX8_noteBear 2 := ⟨zv_gt 864 (by decide +kernel) rfl, zv_gt 3 (by decide +kernel) rfl, by decide +kernel, by decide, by decide +kernel, by decide +kernel, by decide +kernel⟩
theorem imX8_noteBear : Cond.instanceMethod mX8_noteBear.1 ∈ zv_gw := zv_gt 863 (by decide +kernel) rfl
theorem seX8_noteBear : Cond.selects mX8_noteBear.1.cls mX8_noteBear.1 mX8_noteBear.1 ∈ zv_gw := zv_gp 60 (by decide +kernel) rfl
theorem mlX8_bear : zv_ML mX8_bear 2 := ⟨zv_gt 860 (by decide +kernel) rfl, zv_gt 3 (by decide +kernel) rfl, by decide +kernel, by decide, by decide +kernel, by decide +kernel, by decide +kernel⟩
theorem imX8_bear : Cond.instanceMethod mX8_bear.1 ∈ zv_gw := zv_gt 859 (by decide +kernel) rfl
theorem seX8_bear : Cond.selects mX8_bear.1.cls mX8_bear.1 mX8_bear.1 ∈ zv_gw := zv_gp 59 (by decide +kernel) rfl
theorem mlX8_noteGive : zv_ML mX8_noteGive 2 := ⟨zv_gt 872 (by decide +kernel) rfl, zv_gt 3 (by decide +kernel) rfl, by decide +kernel, by decide, by decide +kernel, by decide +kernel, by decide +kernel⟩
theorem imX8_noteGive : Cond.instanceMethod mX8_noteGive.1 ∈ zv_gw := zv_gt 871 (by decide +kernel) rfl
theorem seX8_noteGive : Cond.selects mX8_noteGive.1.cls mX8_noteGive.1 mX8_noteGive.1 ∈ zv_gw := zv_gp 62 (by decide +kernel) rfl
theorem mlX8_giveOf : zv_ML mX8_giveOf 2 := ⟨zv_gt 868 (by decide +kernel) rfl, zv_gt 3 (by decide +kernel) rfl, by decide +kernel, by decide, by decide +kernel, by decide +kernel, by decide +kernel⟩
theorem imX8_giveOf : Cond.instanceMethod mX8_giveOf.1 ∈ zv_gw := zv_gt 867 (by decide +kernel) rfl
theorem seX8_giveOf : Cond.selects mX8_giveOf.1.cls mX8_giveOf.1 mX8_giveOf.1 ∈ zv_gw := zv_gp 61 (by decide +kernel) rfl
theorem mlX8_noteWait : zv_ML mX8_noteWait 2 := ⟨zv_gt 880 (by decide +kernel) rfl, zv_gt 3 (by decide +kernel) rfl, by decide +kernel, by decide, by decide +kernel, by decide +kernel, by decide +kernel⟩
theorem imX8_noteWait : Cond.instanceMethod mX8_noteWait.1 ∈ zv_gw := zv_gt 879 (by decide +kernel) rfl
theorem seX8_noteWait : Cond.selects mX8_noteWait.1.cls mX8_noteWait.1 mX8_noteWait.1 ∈ zv_gw := zv_gp 64 (by decide +kernel) rfl
theorem mlX8_waitOf : zv_ML mX8_waitOf 2 := ⟨zv_gt 876 (by decide +kernel) rfl, zv_gt 3 (by decide +kernel) rfl, by decide +kernel, by decide, by decide +kernel, by decide +kernel, by decide +kernel⟩
theorem imX8_waitOf : Cond.instanceMethod mX8_waitOf.1 ∈ zv_gw := zv_gt 875 (by decide +kernel) rfl
theorem seX8_waitOf : Cond.selects mX8_waitOf.1.cls mX8_waitOf.1 mX8_waitOf.1 ∈ zv_gw := zv_gp 63 (by decide +kernel) rfl
theorem mlX8_act : zv_ML mX8_act 3 := ⟨zv_gt 840 (by decide +kernel) rfl, zv_gt 3 (by decide +kernel) rfl, by decide +kernel, by decide, by decide +kernel, by decide +kernel, by decide +kernel⟩
theorem imX8_act : Cond.instanceMethod mX8_act.1 ∈ zv_gw := zv_gt 838 (by decide +kernel) rfl
theorem seX8_act : Cond.selects mX8_act.1.cls mX8_act.1 mX8_act.1 ∈ zv_gw := zv_gt 839 (by decide +kernel) rfl
theorem mlX8_trace : zv_ML mX8_trace 1 := ⟨zv_gt 884 (by decide +kernel) rfl, zv_gt 3 (by decide +kernel) rfl, by decide +kernel, by decide, by decide +kernel, by decide +kernel, by decide +kernel⟩
theorem imX8_trace : Cond.instanceMethod mX8_trace.1 ∈ zv_gw := zv_gt 882 (by decide +kernel) rfl
theorem seX8_trace : Cond.selects mX8_trace.1.cls mX8_trace.1 mX8_trace.1 ∈ zv_gw := zv_gt 883 (by decide +kernel) rfl
theorem mlX8_bare : zv_ML mX8_bare 3 := ⟨zv_gt 888 (by decide +kernel) rfl, zv_gt 3 (by decide +kernel) rfl, by decide +kernel, by decide, by decide +kernel, by decide +kernel, by decide +kernel⟩
theorem imX8_bare : Cond.instanceMethod mX8_bare.1 ∈ zv_gw := zv_gt 886 (by decide +kernel) rfl
theorem seX8_bare : Cond.selects mX8_bare.1.cls mX8_bare.1 mX8_bare.1 ∈ zv_gw := zv_gt 887 (by decide +kernel) rfl
theorem mlX8_slot : zv_ML mX8_slot 2 := ⟨zv_gt 892 (by decide +kernel) rfl, zv_gt 3 (by decide +kernel) rfl, by decide +kernel, by decide, by decide +kernel, by decide +kernel, by decide +kernel⟩
theorem imX8_slot : Cond.instanceMethod mX8_slot.1 ∈ zv_gw := zv_gt 890 (by decide +kernel) rfl
theorem seX8_slot : Cond.selects mX8_slot.1.cls mX8_slot.1 mX8_slot.1 ∈ zv_gw := zv_gt 891 (by decide +kernel) rfl
theorem mlX8_firstRow : zv_ML mX8_firstRow 1 := ⟨zv_gt 914 (by decide +kernel) rfl, zv_gt 3 (by decide +kernel) rfl, by decide +kernel, by decide, by decide +kernel, by decide +kernel, by decide +kernel⟩
theorem imX8_firstRow : Cond.instanceMethod mX8_firstRow.1 ∈ zv_gw := zv_gt 913 (by decide +kernel) rfl
theorem seX8_firstRow : Cond.selects mX8_firstRow.1.cls mX8_firstRow.1 mX8_firstRow.1 ∈ zv_gw := zv_gp 67 (by decide +kernel) rfl
theorem mlX8_sumOf : zv_ML mX8_sumOf 4 := ⟨zv_gt 918 (by decide +kernel) rfl, zv_gt 3 (by decide +kernel) rfl, by decide +kernel, by decide, by decide +kernel, by decide +kernel, by decide +kernel⟩
theorem imX8_sumOf : Cond.instanceMethod mX8_sumOf.1 ∈ zv_gw := zv_gt 917 (by decide +kernel) rfl
theorem seX8_sumOf : Cond.selects mX8_sumOf.1.cls mX8_sumOf.1 mX8_sumOf.1 ∈ zv_gw := zv_gp 68 (by decide +kernel) rfl
theorem mlX8_forge : zv_ML mX8_forge 4 := ⟨zv_gt 896 (by decide +kernel) rfl, zv_gt 3 (by decide +kernel) rfl, by decide +kernel, by decide, by decide +kernel, by decide +kernel, by decide +kernel⟩
theorem imX8_forge : Cond.instanceMethod mX8_forge.1 ∈ zv_gw := zv_gt 894 (by decide +kernel) rfl
theorem seX8_forge : Cond.selects mX8_forge.1.cls mX8_forge.1 mX8_forge.1 ∈ zv_gw := zv_gt 895 (by decide +kernel) rfl
theorem mlX8_letterTaken : zv_ML mX8_letterTaken 3 := ⟨zv_gt 900 (by decide +kernel) rfl, zv_gt 3 (by decide +kernel) rfl, by decide +kernel, by decide, by decide +kernel, by decide +kernel, by decide +kernel⟩
theorem imX8_letterTaken : Cond.instanceMethod mX8_letterTaken.1 ∈ zv_gw := zv_gt 899 (by decide +kernel) rfl
theorem seX8_letterTaken : Cond.selects mX8_letterTaken.1.cls mX8_letterTaken.1 mX8_letterTaken.1 ∈ zv_gw := zv_gp 65 (by decide +kernel) rfl
theorem mlX8_clockTaken : zv_ML mX8_clockTaken 3 := ⟨zv_gt 910 (by decide +kernel) rfl, zv_gt 3 (by decide +kernel) rfl, by decide +kernel, by decide, by decide +kernel, by decide +kernel, by decide +kernel⟩
theorem imX8_clockTaken : Cond.instanceMethod mX8_clockTaken.1 ∈ zv_gw := zv_gt 909 (by decide +kernel) rfl
theorem seX8_clockTaken : Cond.selects mX8_clockTaken.1.cls mX8_clockTaken.1 mX8_clockTaken.1 ∈ zv_gw := zv_gp 66 (by decide +kernel) rfl
theorem mlX8_status : zv_ML mX8_status 0 := ⟨zv_gt 922 (by decide +kernel) rfl, zv_gt 3 (by decide +kernel) rfl, by decide +kernel, by decide, by decide +kernel, by decide +kernel, by decide +kernel⟩
theorem imX8_status : Cond.instanceMethod mX8_status.1 ∈ zv_gw := zv_gt 920 (by decide +kernel) rfl
theorem seX8_status : Cond.selects mX8_status.1.cls mX8_status.1 mX8_status.1 ∈ zv_gw := zv_gt 921 (by decide +kernel) rfl
theorem mlJ6_bitCount_0f7a4 : zv_ML mJ6_bitCount_0f7a4 1 := ⟨zv_gt 153 (by decide +kernel) rfl, zv_gt 6 (by decide +kernel) rfl, by decide +kernel, by decide, by decide +kernel, by decide +kernel, by decide +kernel⟩
theorem smJ6_bitCount_0f7a4 : Cond.static mJ6_bitCount_0f7a4.1 ∈ zv_gw := zv_gt 152 (by decide +kernel) rfl
theorem mlJ13_bitCount_95d88 : zv_ML mJ13_bitCount_95d88 1 := ⟨zv_gt 476 (by decide +kernel) rfl, zv_gt 10 (by decide +kernel) rfl, by decide +kernel, by decide, by decide +kernel, by decide +kernel, by decide +kernel⟩
theorem smJ13_bitCount_95d88 : Cond.static mJ13_bitCount_95d88.1 ∈ zv_gw := zv_gt 475 (by decide +kernel) rfl
theorem mlJ9_floorMod_7cf53 : zv_ML mJ9_floorMod_7cf53 2 := ⟨zv_gt 535 (by decide +kernel) rfl, zv_gt 11 (by decide +kernel) rfl, by decide +kernel, by decide, by decide +kernel, by decide +kernel, by decide +kernel⟩
theorem smJ9_floorMod_7cf53 : Cond.static mJ9_floorMod_7cf53.1 ∈ zv_gw := zv_gt 534 (by decide +kernel) rfl
theorem ciL_9 : zv_CI RL 9 mX7_init 0 := ⟨mlX7_init, rfl, rfl, Or.inl (zv_gt 14 (by decide +kernel) rfl), imX7_init⟩
theorem ciX7_33 : zv_CI RX7 33 mX6_init 0 := ⟨mlX6_init, rfl, rfl, Or.inr ⟨RX7, zv_nt 28 (by decide +kernel) rfl⟩, imX6_init⟩
theorem cvL_13 : zv_CV RL 13 mX7_member 0 := ⟨mlX7_member, Or.inl (zv_gt 72 (by decide +kernel) rfl), imX7_member, seX7_member⟩
theorem cvX7_45 : zv_CV RX7 45 mX7_refuse 1 := ⟨mlX7_refuse, Or.inl (zv_gt 76 (by decide +kernel) rfl), imX7_refuse, seX7_refuse⟩
theorem ciX7_49 : zv_CI RX7 49 mX3_init 0 := ⟨mlX3_init, rfl, rfl, Or.inr ⟨RX7, zv_nt 81 (by decide +kernel) rfl⟩, imX3_init⟩
theorem ciX3_46 : zv_CI RX3 46 mX4_init 0 := ⟨mlX4_init, rfl, rfl, Or.inr ⟨RX7, zv_nt 94 (by decide +kernel) rfl⟩, imX4_init⟩
theorem cvX7_50 : zv_CV RX7 50 mX7_done 1 := ⟨mlX7_done, Or.inl (zv_gt 143 (by decide +kernel) rfl), imX7_done, seX7_done⟩
theorem cvL_18 : zv_CV RL 18 mX7_circle 1 := ⟨mlX7_circle, Or.inl (zv_gt 147 (by decide +kernel) rfl), imX7_circle, seX7_circle⟩
theorem csX7_53 : zv_CS RX7 53 mJ6_bitCount_0f7a4 1 := ⟨mlJ6_bitCount_0f7a4, Or.inl (zv_gt 151 (by decide +kernel) rfl), smJ6_bitCount_0f7a4⟩
theorem csX7_61 : zv_CS RX7 61 mX7_lowestMember 1 := ⟨mlX7_lowestMember, Or.inl (zv_gt 158 (by decide +kernel) rfl), smX7_lowestMember⟩
theorem csX7_215 : zv_CS RX7 215 mX7_hasBit 2 := ⟨mlX7_hasBit, Or.inl (zv_gt 161 (by decide +kernel) rfl), smX7_hasBit⟩
theorem ciX7_64 : zv_CI RX7 64 mX0_init 2 := ⟨mlX0_init, rfl, rfl, Or.inl (zv_gt 164 (by decide +kernel) rfl), imX0_init⟩
theorem cvL_23 : zv_CV RL 23 mX7_write 3 := ⟨mlX7_write, Or.inl (zv_gt 181 (by decide +kernel) rfl), imX7_write, seX7_write⟩
theorem cvX7_67 : zv_CV RX7 67 mX7_writeByCall 4 := ⟨mlX7_writeByCall, Or.inl (zv_gt 185 (by decide +kernel) rfl), imX7_writeByCall, seX7_writeByCall⟩
theorem cvX7_75 : zv_CV RX7 75 mX7_isMember 1 := ⟨mlX7_isMember, Or.inl (zv_gt 189 (by decide +kernel) rfl), imX7_isMember, seX7_isMember⟩
theorem cvX7_85 : zv_CV RX7 85 mX7_isCircle 1 := ⟨mlX7_isCircle, Or.inl (zv_gt 193 (by decide +kernel) rfl), imX7_isCircle, seX7_isCircle⟩
theorem cvX7_222 : zv_CV RX7 222 mX7_mayAnswer 2 := ⟨mlX7_mayAnswer, Or.inl (zv_gt 197 (by decide +kernel) rfl), imX7_mayAnswer, seX7_mayAnswer⟩
theorem cvX7_71 : zv_CV RX7 71 mX7_isLetter 1 := ⟨mlX7_isLetter, Or.inl (zv_gt 201 (by decide +kernel) rfl), imX7_isLetter, seX7_isLetter⟩
theorem cvX7_253 : zv_CV RX7 253 mX2_isGivenBy 1 := ⟨mlX2_isGivenBy, Or.inl (zv_gt 205 (by decide +kernel) rfl), imX2_isGivenBy, seX2_isGivenBy⟩
theorem csX2_50 : zv_CS RX2 50 mX7_hasBit 2 := ⟨mlX7_hasBit, Or.inr ⟨RX7, zv_nt 209 (by decide +kernel) rfl⟩, smX7_hasBit⟩
theorem cvX7_225 : zv_CV RX7 225 mX3_nextSerial 1 := ⟨mlX3_nextSerial, Or.inl (zv_gt 210 (by decide +kernel) rfl), imX3_nextSerial, seX3_nextSerial⟩
theorem cvX7_228 : zv_CV RX7 228 mX7_clockNow 1 := ⟨mlX7_clockNow, Or.inl (zv_gt 214 (by decide +kernel) rfl), imX7_clockNow, seX7_clockNow⟩
theorem ciX7_256 : zv_CI RX7 256 mX1_init 0 := ⟨mlX1_init, rfl, rfl, Or.inr ⟨RX7, zv_nt 220 (by decide +kernel) rfl⟩, imX1_init⟩
theorem cvX7_257 : zv_CV RX7 257 mX1_addRow 3 := ⟨mlX1_addRow, Or.inl (zv_gt 234 (by decide +kernel) rfl), imX1_addRow, seX1_addRow⟩
theorem ciX7_232 : zv_CI RX7 232 mX2_init 7 := ⟨mlX2_init, rfl, rfl, Or.inl (zv_gt 245 (by decide +kernel) rfl), imX2_init⟩
theorem ciX2_11 : zv_CI RX2 11 mX4_init 0 := ⟨mlX4_init, rfl, rfl, Or.inr ⟨RX7, zv_nt 250 (by decide +kernel) rfl⟩, imX4_init⟩
theorem cvX7_239 : zv_CV RX7 239 mX1_sameCounts 2 := ⟨mlX1_sameCounts, Or.inl (zv_gt 308 (by decide +kernel) rfl), imX1_sameCounts, seX1_sameCounts⟩
theorem csX1_30 : zv_CS RX1 30 mX1_sameInRow 3 := ⟨mlX1_sameInRow, Or.inl (zv_gt 312 (by decide +kernel) rfl), smX1_sameInRow⟩
theorem csX1_34 : zv_CS RX1 34 mX7_hasBit 2 := ⟨mlX7_hasBit, Or.inr ⟨RX7, zv_nt 315 (by decide +kernel) rfl⟩, smX7_hasBit⟩
theorem cvX7_243 : zv_CV RX7 243 mX7_send 1 := ⟨mlX7_send, Or.inl (zv_gt 316 (by decide +kernel) rfl), imX7_send, seX7_send⟩
theorem cvX7_264 : zv_CV RX7 264 mX4_addAll 1 := ⟨mlX4_addAll, Or.inl (zv_gt 320 (by decide +kernel) rfl), imX4_addAll, seX4_addAll⟩
theorem cvX7_268 : zv_CV RX7 268 mX4_add 1 := ⟨mlX4_add, Or.inl (zv_gt 324 (by decide +kernel) rfl), imX4_add, seX4_add⟩
theorem cvX7_272 : zv_CV RX7 272 mX3_hold 1 := ⟨mlX3_hold, Or.inl (zv_gt 328 (by decide +kernel) rfl), imX3_hold, seX3_hold⟩
theorem cvX3_58 : zv_CV RX3 58 mX3_takeSlot 1 := ⟨mlX3_takeSlot, Or.inl (zv_gt 332 (by decide +kernel) rfl), imX3_takeSlot, seX3_takeSlot⟩
theorem cvX7_247 : zv_CV RX7 247 mX7_giveAll 1 := ⟨mlX7_giveAll, Or.inl (zv_gt 336 (by decide +kernel) rfl), imX7_giveAll, seX7_giveAll⟩
theorem cvX7_281 : zv_CV RX7 281 mX7_canGive 2 := ⟨mlX7_canGive, Or.inl (zv_gt 340 (by decide +kernel) rfl), imX7_canGive, seX7_canGive⟩
theorem cvX7_157 : zv_CV RX7 157 mX7_firstLack 2 := ⟨mlX7_firstLack, Or.inl (zv_gt 344 (by decide +kernel) rfl), imX7_firstLack, seX7_firstLack⟩
theorem cvX7_301 : zv_CV RX7 301 mX1_rowAt 1 := ⟨mlX1_rowAt, Or.inl (zv_gt 348 (by decide +kernel) rfl), imX1_rowAt, seX1_rowAt⟩
theorem cvX7_305 : zv_CV RX7 305 mX7_firstLackIn 3 := ⟨mlX7_firstLackIn, Or.inl (zv_gt 352 (by decide +kernel) rfl), imX7_firstLackIn, seX7_firstLackIn⟩
theorem cvX7_164 : zv_CV RX7 164 mX2_needed 2 := ⟨mlX2_needed, Or.inl (zv_gt 356 (by decide +kernel) rfl), imX2_needed, seX2_needed⟩
theorem cvX7_295 : zv_CV RX7 295 mX7_lacksOrder 2 := ⟨mlX7_lacksOrder, Or.inl (zv_gt 360 (by decide +kernel) rfl), imX7_lacksOrder, seX7_lacksOrder⟩
theorem cvX7_298 : zv_CV RX7 298 mX7_lacksLowerPlace 2 := ⟨mlX7_lacksLowerPlace, Or.inl (zv_gt 364 (by decide +kernel) rfl), imX7_lacksLowerPlace, seX7_lacksLowerPlace⟩
theorem cvX7_285 : zv_CV RX7 285 mX3_release 1 := ⟨mlX3_release, Or.inl (zv_gt 368 (by decide +kernel) rfl), imX3_release, seX3_release⟩
theorem cvX3_62 : zv_CV RX3 62 mX3_dropHeld 1 := ⟨mlX3_dropHeld, Or.inl (zv_gt 372 (by decide +kernel) rfl), imX3_dropHeld, seX3_dropHeld⟩
theorem cvX3_65 : zv_CV RX3 65 mX3_leaveSlot 1 := ⟨mlX3_leaveSlot, Or.inl (zv_gt 376 (by decide +kernel) rfl), imX3_leaveSlot, seX3_leaveSlot⟩
theorem cvX3_83 : zv_CV RX3 83 mX4_addAll 1 := ⟨mlX4_addAll, Or.inl (zv_gt 380 (by decide +kernel) rfl), imX4_addAll, seX4_addAll⟩
theorem cvX3_87 : zv_CV RX3 87 mX4_add 1 := ⟨mlX4_add, Or.inl (zv_gt 381 (by decide +kernel) rfl), imX4_add, seX4_add⟩
theorem cvX7_291 : zv_CV RX7 291 mX7_writeOrderIfDue 2 := ⟨mlX7_writeOrderIfDue, Or.inl (zv_gt 382 (by decide +kernel) rfl), imX7_writeOrderIfDue, seX7_writeOrderIfDue⟩
theorem cvL_28 : zv_CV RL 28 mX7_reply 3 := ⟨mlX7_reply, Or.inl (zv_gt 386 (by decide +kernel) rfl), imX7_reply, seX7_reply⟩
theorem cvL_32 : zv_CV RL 32 mX7_seal 3 := ⟨mlX7_seal, Or.inl (zv_gt 390 (by decide +kernel) rfl), imX7_seal, seX7_seal⟩
theorem cvL_36 : zv_CV RL 36 mX7_deliver 2 := ⟨mlX7_deliver, Or.inl (zv_gt 394 (by decide +kernel) rfl), imX7_deliver, seX7_deliver⟩
theorem cvX7_78 : zv_CV RX7 78 mX2_isOnLineTo 1 := ⟨mlX2_isOnLineTo, Or.inl (zv_gt 398 (by decide +kernel) rfl), imX2_isOnLineTo, seX2_isOnLineTo⟩
theorem cvX7_81 : zv_CV RX7 81 mX7_bring 2 := ⟨mlX7_bring, Or.inl (zv_gt 402 (by decide +kernel) rfl), imX7_bring, seX7_bring⟩
theorem cvL_41 : zv_CV RL 41 mX7_deliverAll 2 := ⟨mlX7_deliverAll, Or.inl (zv_gt 406 (by decide +kernel) rfl), imX7_deliverAll, seX7_deliverAll⟩
theorem cvX7_88 : zv_CV RX7 88 mX7_nextOnLine 2 := ⟨mlX7_nextOnLine, Or.inl (zv_gt 410 (by decide +kernel) rfl), imX7_nextOnLine, seX7_nextOnLine⟩
theorem cvL_45 : zv_CV RL 45 mX7_count 1 := ⟨mlX7_count, Or.inl (zv_gt 414 (by decide +kernel) rfl), imX7_count, seX7_count⟩
theorem cvL_49 : zv_CV RL 49 mX7_told 2 := ⟨mlX7_told, Or.inl (zv_gt 418 (by decide +kernel) rfl), imX7_told, seX7_told⟩
theorem cvL_53 : zv_CV RL 53 mX7_circleTold 2 := ⟨mlX7_circleTold, Or.inl (zv_gt 422 (by decide +kernel) rfl), imX7_circleTold, seX7_circleTold⟩
theorem cvX7_140 : zv_CV RX7 140 mX7_isCalm 1 := ⟨mlX7_isCalm, Or.inl (zv_gt 426 (by decide +kernel) rfl), imX7_isCalm, seX7_isCalm⟩
theorem cvL_57 : zv_CV RL 57 mX7_state 2 := ⟨mlX7_state, Or.inl (zv_gt 430 (by decide +kernel) rfl), imX7_state, seX7_state⟩
theorem cvX7_143 : zv_CV RX7 143 mX7_standing 2 := ⟨mlX7_standing, Or.inl (zv_gt 434 (by decide +kernel) rfl), imX7_standing, seX7_standing⟩
theorem cvL_61 : zv_CV RL 61 mX7_given 3 := ⟨mlX7_given, Or.inl (zv_gt 438 (by decide +kernel) rfl), imX7_given, seX7_given⟩
theorem cvL_65 : zv_CV RL 65 mX7_read 2 := ⟨mlX7_read, Or.inl (zv_gt 442 (by decide +kernel) rfl), imX7_read, seX7_read⟩
theorem cvL_69 : zv_CV RL 69 mX7_why 3 := ⟨mlX7_why, Or.inl (zv_gt 446 (by decide +kernel) rfl), imX7_why, seX7_why⟩
theorem cvX7_160 : zv_CV RX7 160 mX7_whySealed 3 := ⟨mlX7_whySealed, Or.inl (zv_gt 450 (by decide +kernel) rfl), imX7_whySealed, seX7_whySealed⟩
theorem cvL_73 : zv_CV RL 73 mX7_late 1 := ⟨mlX7_late, Or.inl (zv_gt 454 (by decide +kernel) rfl), imX7_late, seX7_late⟩
theorem cvL_77 : zv_CV RL 77 mX7_behind 2 := ⟨mlX7_behind, Or.inl (zv_gt 458 (by decide +kernel) rfl), imX7_behind, seX7_behind⟩
theorem cvX7_172 : zv_CV RX7 172 mX4_has 1 := ⟨mlX4_has, Or.inl (zv_gt 462 (by decide +kernel) rfl), imX4_has, seX4_has⟩
theorem cvL_81 : zv_CV RL 81 mX7_past 1 := ⟨mlX7_past, Or.inl (zv_gt 466 (by decide +kernel) rfl), imX7_past, seX7_past⟩
theorem cvX7_177 : zv_CV RX7 177 mX4_size 0 := ⟨mlX4_size, Or.inl (zv_gt 470 (by decide +kernel) rfl), imX4_size, seX4_size⟩
theorem csX4_15 : zv_CS RX4 15 mJ13_bitCount_95d88 1 := ⟨mlJ13_bitCount_95d88, Or.inl (zv_gt 474 (by decide +kernel) rfl), smJ13_bitCount_95d88⟩
theorem cvL_85 : zv_CV RL 85 mX7_chain 2 := ⟨mlX7_chain, Or.inl (zv_gt 480 (by decide +kernel) rfl), imX7_chain, seX7_chain⟩
theorem cvX7_181 : zv_CV RX7 181 mX7_longestRowTo 2 := ⟨mlX7_longestRowTo, Or.inl (zv_gt 484 (by decide +kernel) rfl), imX7_longestRowTo, seX7_longestRowTo⟩
theorem cvL_89 : zv_CV RL 89 mX7_act 3 := ⟨mlX7_act, Or.inl (zv_gt 488 (by decide +kernel) rfl), imX7_act, seX7_act⟩
theorem csX7_184 : zv_CS RX7 184 mX7_perform 6 := ⟨mlX7_perform, Or.inl (zv_gt 492 (by decide +kernel) rfl), smX7_perform⟩
theorem csX7_314 : zv_CS RX7 314 mX7_kindWithBody 2 := ⟨mlX7_kindWithBody, Or.inl (zv_gt 495 (by decide +kernel) rfl), smX7_kindWithBody⟩
theorem cvX7_323 : zv_CV RX7 323 mX6_begin 1 := ⟨mlX6_begin, Or.inl (zv_gt 502 (by decide +kernel) rfl), imX6_begin, seX6_begin⟩
theorem cvL_93 : zv_CV RL 93 mX7_trace 1 := ⟨mlX7_trace, Or.inl (zv_gt 506 (by decide +kernel) rfl), imX7_trace, seX7_trace⟩
theorem cvX7_188 : zv_CV RX7 188 mX6_bodyAt 1 := ⟨mlX6_bodyAt, Or.inl (zv_gt 510 (by decide +kernel) rfl), imX6_bodyAt, seX6_bodyAt⟩
theorem cvL_97 : zv_CV RL 97 mX7_bare 3 := ⟨mlX7_bare, Or.inl (zv_gt 514 (by decide +kernel) rfl), imX7_bare, seX7_bare⟩
theorem csX7_191 : zv_CS RX7 191 mX7_isSlot 1 := ⟨mlX7_isSlot, Or.inl (zv_gt 518 (by decide +kernel) rfl), smX7_isSlot⟩
theorem cvL_101 : zv_CV RL 101 mX7_slot 2 := ⟨mlX7_slot, Or.inl (zv_gt 521 (by decide +kernel) rfl), imX7_slot, seX7_slot⟩
theorem cvL_105 : zv_CV RL 105 mX7_forge 4 := ⟨mlX7_forge, Or.inl (zv_gt 525 (by decide +kernel) rfl), imX7_forge, seX7_forge⟩
theorem cvX7_198 : zv_CV RX7 198 mX7_forgeSerial 2 := ⟨mlX7_forgeSerial, Or.inl (zv_gt 529 (by decide +kernel) rfl), imX7_forgeSerial, seX7_forgeSerial⟩
theorem csX7_326 : zv_CS RX7 326 mJ9_floorMod_7cf53 2 := ⟨mlJ9_floorMod_7cf53, Or.inl (zv_gt 533 (by decide +kernel) rfl), smJ9_floorMod_7cf53⟩
theorem csX7_331 : zv_CS RX7 331 mX7_isKindOrUnder 2 := ⟨mlX7_isKindOrUnder, Or.inl (zv_gt 536 (by decide +kernel) rfl), smX7_isKindOrUnder⟩
theorem cvX7_202 : zv_CV RX7 202 mX7_forgeCount 2 := ⟨mlX7_forgeCount, Or.inl (zv_gt 539 (by decide +kernel) rfl), imX7_forgeCount, seX7_forgeCount⟩
theorem csX7_334 : zv_CS RX7 334 mX7_firstRowOf 1 := ⟨mlX7_firstRowOf, Or.inl (zv_gt 543 (by decide +kernel) rfl), smX7_firstRowOf⟩
theorem cvX7_345 : zv_CV RX7 345 mX1_firstRow 0 := ⟨mlX1_firstRow, Or.inl (zv_gt 546 (by decide +kernel) rfl), imX1_firstRow, seX1_firstRow⟩
theorem cvX7_338 : zv_CV RX7 338 mX7_refuseAsClock 1 := ⟨mlX7_refuseAsClock, Or.inl (zv_gt 550 (by decide +kernel) rfl), imX7_refuseAsClock, seX7_refuseAsClock⟩
theorem cvX7_205 : zv_CV RX7 205 mX7_forgeRowSum 2 := ⟨mlX7_forgeRowSum, Or.inl (zv_gt 554 (by decide +kernel) rfl), imX7_forgeRowSum, seX7_forgeRowSum⟩
theorem csX7_341 : zv_CS RX7 341 mX7_sum 3 := ⟨mlX7_sum, Or.inl (zv_gt 558 (by decide +kernel) rfl), smX7_sum⟩
theorem cvX7_208 : zv_CV RX7 208 mX7_forgeCopy 2 := ⟨mlX7_forgeCopy, Or.inl (zv_gt 561 (by decide +kernel) rfl), imX7_forgeCopy, seX7_forgeCopy⟩
theorem cvX7_211 : zv_CV RX7 211 mX7_forgeStore 1 := ⟨mlX7_forgeStore, Or.inl (zv_gt 565 (by decide +kernel) rfl), imX7_forgeStore, seX7_forgeStore⟩
theorem cvL_110 : zv_CV RL 110 mX7_status 0 := ⟨mlX7_status, Or.inl (zv_gt 569 (by decide +kernel) rfl), imX7_status, seX7_status⟩
theorem ciL_12 : zv_CI RL 12 mX8_init 0 := ⟨mlX8_init, rfl, rfl, Or.inl (zv_gt 575 (by decide +kernel) rfl), imX8_init⟩
theorem cvL_17 : zv_CV RL 17 mX8_member 0 := ⟨mlX8_member, Or.inl (zv_gt 666 (by decide +kernel) rfl), imX8_member, seX8_member⟩
theorem cvX8_103 : zv_CV RX8 103 mX8_refused 1 := ⟨mlX8_refused, Or.inl (zv_gt 670 (by decide +kernel) rfl), imX8_refused, seX8_refused⟩
theorem cvX8_106 : zv_CV RX8 106 mX8_done 1 := ⟨mlX8_done, Or.inl (zv_gt 674 (by decide +kernel) rfl), imX8_done, seX8_done⟩
theorem cvL_22 : zv_CV RL 22 mX8_circle 1 := ⟨mlX8_circle, Or.inl (zv_gt 678 (by decide +kernel) rfl), imX8_circle, seX8_circle⟩
theorem cvL_27 : zv_CV RL 27 mX8_write 3 := ⟨mlX8_write, Or.inl (zv_gt 682 (by decide +kernel) rfl), imX8_write, seX8_write⟩
theorem cvX8_138 : zv_CV RX8 138 mX8_call 5 := ⟨mlX8_call, Or.inl (zv_gt 686 (by decide +kernel) rfl), imX8_call, seX8_call⟩
theorem cvX8_113 : zv_CV RX8 113 mX8_isMember 1 := ⟨mlX8_isMember, Or.inl (zv_gt 690 (by decide +kernel) rfl), imX8_isMember, seX8_isMember⟩
theorem csX8_82 : zv_CS RX8 82 mX8_in 3 := ⟨mlX8_in, Or.inl (zv_gt 694 (by decide +kernel) rfl), smX8_in⟩
theorem cvX8_117 : zv_CV RX8 117 mX8_isCircle 1 := ⟨mlX8_isCircle, Or.inl (zv_gt 697 (by decide +kernel) rfl), imX8_isCircle, seX8_isCircle⟩
theorem cvX8_92 : zv_CV RX8 92 mX8_isIn 2 := ⟨mlX8_isIn, Or.inl (zv_gt 701 (by decide +kernel) rfl), imX8_isIn, seX8_isIn⟩
theorem cvX8_123 : zv_CV RX8 123 mX8_made 4 := ⟨mlX8_made, Or.inl (zv_gt 705 (by decide +kernel) rfl), imX8_made, seX8_made⟩
theorem cvX8_127 : zv_CV RX8 127 mX8_counts 3 := ⟨mlX8_counts, Or.inl (zv_gt 709 (by decide +kernel) rfl), imX8_counts, seX8_counts⟩
theorem cvX8_131 : zv_CV RX8 131 mX8_goes 1 := ⟨mlX8_goes, Or.inl (zv_gt 713 (by decide +kernel) rfl), imX8_goes, seX8_goes⟩
theorem cvX8_109 : zv_CV RX8 109 mX8_holds 2 := ⟨mlX8_holds, Or.inl (zv_gt 717 (by decide +kernel) rfl), imX8_holds, seX8_holds⟩
theorem cvX8_135 : zv_CV RX8 135 mX8_gives 1 := ⟨mlX8_gives, Or.inl (zv_gt 721 (by decide +kernel) rfl), imX8_gives, seX8_gives⟩
theorem cvX8_164 : zv_CV RX8 164 mX8_next 1 := ⟨mlX8_next, Or.inl (zv_gt 725 (by decide +kernel) rfl), imX8_next, seX8_next⟩
theorem cvX8_161 : zv_CV RX8 161 mX8_canGive 2 := ⟨mlX8_canGive, Or.inl (zv_gt 729 (by decide +kernel) rfl), imX8_canGive, seX8_canGive⟩
theorem cvX8_151 : zv_CV RX8 151 mX8_lacking 2 := ⟨mlX8_lacking, Or.inl (zv_gt 733 (by decide +kernel) rfl), imX8_lacking, seX8_lacking⟩
theorem cvX8_145 : zv_CV RX8 145 mX8_lacks 4 := ⟨mlX8_lacks, Or.inl (zv_gt 737 (by decide +kernel) rfl), imX8_lacks, seX8_lacks⟩
theorem cvX8_148 : zv_CV RX8 148 mX8_eldest 1 := ⟨mlX8_eldest, Or.inl (zv_gt 741 (by decide +kernel) rfl), imX8_eldest, seX8_eldest⟩
theorem cvX8_155 : zv_CV RX8 155 mX8_hasOrder 2 := ⟨mlX8_hasOrder, Or.inl (zv_gt 745 (by decide +kernel) rfl), imX8_hasOrder, seX8_hasOrder⟩
theorem cvX8_158 : zv_CV RX8 158 mX8_hasLower 2 := ⟨mlX8_hasLower, Or.inl (zv_gt 749 (by decide +kernel) rfl), imX8_hasLower, seX8_hasLower⟩
theorem cvX8_167 : zv_CV RX8 167 mX8_give 2 := ⟨mlX8_give, Or.inl (zv_gt 753 (by decide +kernel) rfl), imX8_give, seX8_give⟩
theorem cvL_31 : zv_CV RL 31 mX8_reply 3 := ⟨mlX8_reply, Or.inl (zv_gt 757 (by decide +kernel) rfl), imX8_reply, seX8_reply⟩
theorem cvX8_142 : zv_CV RX8 142 mX8_isLetter 1 := ⟨mlX8_isLetter, Or.inl (zv_gt 761 (by decide +kernel) rfl), imX8_isLetter, seX8_isLetter⟩
theorem cvL_35 : zv_CV RL 35 mX8_seal 3 := ⟨mlX8_seal, Or.inl (zv_gt 765 (by decide +kernel) rfl), imX8_seal, seX8_seal⟩
theorem cvL_40 : zv_CV RL 40 mX8_deliver 2 := ⟨mlX8_deliver, Or.inl (zv_gt 769 (by decide +kernel) rfl), imX8_deliver, seX8_deliver⟩
theorem cvL_44 : zv_CV RL 44 mX8_deliverAll 2 := ⟨mlX8_deliverAll, Or.inl (zv_gt 773 (by decide +kernel) rfl), imX8_deliverAll, seX8_deliverAll⟩
theorem cvX8_173 : zv_CV RX8 173 mX8_lined 2 := ⟨mlX8_lined, Or.inl (zv_gt 777 (by decide +kernel) rfl), imX8_lined, seX8_lined⟩
theorem cvX8_170 : zv_CV RX8 170 mX8_lineOf 1 := ⟨mlX8_lineOf, Or.inl (zv_gt 781 (by decide +kernel) rfl), imX8_lineOf, seX8_lineOf⟩
theorem cvL_48 : zv_CV RL 48 mX8_count 1 := ⟨mlX8_count, Or.inl (zv_gt 785 (by decide +kernel) rfl), imX8_count, seX8_count⟩
theorem cvL_52 : zv_CV RL 52 mX8_told 2 := ⟨mlX8_told, Or.inl (zv_gt 789 (by decide +kernel) rfl), imX8_told, seX8_told⟩
theorem cvX8_179 : zv_CV RX8 179 mX8_countsOf 1 := ⟨mlX8_countsOf, Or.inl (zv_gt 793 (by decide +kernel) rfl), imX8_countsOf, seX8_countsOf⟩
theorem cvL_56 : zv_CV RL 56 mX8_circleTold 2 := ⟨mlX8_circleTold, Or.inl (zv_gt 797 (by decide +kernel) rfl), imX8_circleTold, seX8_circleTold⟩
theorem cvX8_182 : zv_CV RX8 182 mX8_isCalm 1 := ⟨mlX8_isCalm, Or.inl (zv_gt 801 (by decide +kernel) rfl), imX8_isCalm, seX8_isCalm⟩
theorem cvL_60 : zv_CV RL 60 mX8_state 2 := ⟨mlX8_state, Or.inl (zv_gt 805 (by decide +kernel) rfl), imX8_state, seX8_state⟩
theorem cvL_64 : zv_CV RL 64 mX8_given 3 := ⟨mlX8_given, Or.inl (zv_gt 809 (by decide +kernel) rfl), imX8_given, seX8_given⟩
theorem cvL_68 : zv_CV RL 68 mX8_read 2 := ⟨mlX8_read, Or.inl (zv_gt 813 (by decide +kernel) rfl), imX8_read, seX8_read⟩
theorem cvL_72 : zv_CV RL 72 mX8_why 3 := ⟨mlX8_why, Or.inl (zv_gt 817 (by decide +kernel) rfl), imX8_why, seX8_why⟩
theorem cvL_76 : zv_CV RL 76 mX8_late 1 := ⟨mlX8_late, Or.inl (zv_gt 821 (by decide +kernel) rfl), imX8_late, seX8_late⟩
theorem cvL_80 : zv_CV RL 80 mX8_behind 2 := ⟨mlX8_behind, Or.inl (zv_gt 825 (by decide +kernel) rfl), imX8_behind, seX8_behind⟩
theorem cvL_84 : zv_CV RL 84 mX8_past 1 := ⟨mlX8_past, Or.inl (zv_gt 829 (by decide +kernel) rfl), imX8_past, seX8_past⟩
theorem cvL_88 : zv_CV RL 88 mX8_chain 2 := ⟨mlX8_chain, Or.inl (zv_gt 833 (by decide +kernel) rfl), imX8_chain, seX8_chain⟩
theorem cvL_92 : zv_CV RL 92 mX8_act 3 := ⟨mlX8_act, Or.inl (zv_gt 837 (by decide +kernel) rfl), imX8_act, seX8_act⟩
theorem cvX8_197 : zv_CV RX8 197 mX8_age 2 := ⟨mlX8_age, Or.inl (zv_gt 841 (by decide +kernel) rfl), imX8_age, seX8_age⟩
theorem cvX8_188 : zv_CV RX8 188 mX8_noteAge 2 := ⟨mlX8_noteAge, Or.inl (zv_gt 845 (by decide +kernel) rfl), imX8_noteAge, seX8_noteAge⟩
theorem cvX8_185 : zv_CV RX8 185 mX8_ran 1 := ⟨mlX8_ran, Or.inl (zv_gt 849 (by decide +kernel) rfl), imX8_ran, seX8_ran⟩
theorem cvX8_191 : zv_CV RX8 191 mX8_orderAge 2 := ⟨mlX8_orderAge, Or.inl (zv_gt 853 (by decide +kernel) rfl), imX8_orderAge, seX8_orderAge⟩
theorem cvX8_200 : zv_CV RX8 200 mX8_bear 2 := ⟨mlX8_bear, Or.inl (zv_gt 857 (by decide +kernel) rfl), imX8_bear, seX8_bear⟩
theorem cvX8_194 : zv_CV RX8 194 mX8_noteBear 2 := ⟨mlX8_noteBear, Or.inl (zv_gt 861 (by decide +kernel) rfl), imX8_noteBear, seX8_noteBear⟩
theorem cvX8_206 : zv_CV RX8 206 mX8_giveOf 2 := ⟨mlX8_giveOf, Or.inl (zv_gt 865 (by decide +kernel) rfl), imX8_giveOf, seX8_giveOf⟩
theorem cvX8_203 : zv_CV RX8 203 mX8_noteGive 2 := ⟨mlX8_noteGive, Or.inl (zv_gt 869 (by decide +kernel) rfl), imX8_noteGive, seX8_noteGive⟩
theorem cvX8_212 : zv_CV RX8 212 mX8_waitOf 2 := ⟨mlX8_waitOf, Or.inl (zv_gt 873 (by decide +kernel) rfl), imX8_waitOf, seX8_waitOf⟩
theorem cvX8_209 : zv_CV RX8 209 mX8_noteWait 2 := ⟨mlX8_noteWait, Or.inl (zv_gt 877 (by decide +kernel) rfl), imX8_noteWait, seX8_noteWait⟩
theorem cvL_96 : zv_CV RL 96 mX8_trace 1 := ⟨mlX8_trace, Or.inl (zv_gt 881 (by decide +kernel) rfl), imX8_trace, seX8_trace⟩
theorem cvL_100 : zv_CV RL 100 mX8_bare 3 := ⟨mlX8_bare, Or.inl (zv_gt 885 (by decide +kernel) rfl), imX8_bare, seX8_bare⟩
theorem cvL_104 : zv_CV RL 104 mX8_slot 2 := ⟨mlX8_slot, Or.inl (zv_gt 889 (by decide +kernel) rfl), imX8_slot, seX8_slot⟩
theorem cvL_109 : zv_CV RL 109 mX8_forge 4 := ⟨mlX8_forge, Or.inl (zv_gt 893 (by decide +kernel) rfl), imX8_forge, seX8_forge⟩
theorem cvX8_215 : zv_CV RX8 215 mX8_letterTaken 3 := ⟨mlX8_letterTaken, Or.inl (zv_gt 897 (by decide +kernel) rfl), imX8_letterTaken, seX8_letterTaken⟩
theorem csX8_222 : zv_CS RX8 222 mX8_isOf 2 := ⟨mlX8_isOf, Or.inl (zv_gt 901 (by decide +kernel) rfl), smX8_isOf⟩
theorem csX8_96 : zv_CS RX8 96 mX8_above 1 := ⟨mlX8_above, Or.inl (zv_gt 904 (by decide +kernel) rfl), smX8_above⟩
theorem cvX8_219 : zv_CV RX8 219 mX8_clockTaken 3 := ⟨mlX8_clockTaken, Or.inl (zv_gt 907 (by decide +kernel) rfl), imX8_clockTaken, seX8_clockTaken⟩
theorem cvX8_225 : zv_CV RX8 225 mX8_firstRow 1 := ⟨mlX8_firstRow, Or.inl (zv_gt 911 (by decide +kernel) rfl), imX8_firstRow, seX8_firstRow⟩
theorem cvX8_228 : zv_CV RX8 228 mX8_sumOf 4 := ⟨mlX8_sumOf, Or.inl (zv_gt 915 (by decide +kernel) rfl), imX8_sumOf, seX8_sumOf⟩
theorem cvL_113 : zv_CV RL 113 mX8_status 0 := ⟨mlX8_status, Or.inl (zv_gt 919 (by decide +kernel) rfl), imX8_status, seX8_status⟩
theorem iniL : Cond.initialized RL ∈ zv_gw := zv_gt 0 (by decide +kernel) rfl
theorem iniX7 : Cond.initialized RX7 ∈ zv_gw := zv_gt 1 (by decide +kernel) rfl
theorem iniX6 : Cond.initialized RX6 ∈ zv_gw := zv_gt 2 (by decide +kernel) rfl
theorem iniX8 : Cond.initialized RX8 ∈ zv_gw := zv_gt 3 (by decide +kernel) rfl
theorem iniX3 : Cond.initialized RX3 ∈ zv_gw := zv_gt 4 (by decide +kernel) rfl
theorem iniX4 : Cond.initialized RX4 ∈ zv_gw := zv_gt 5 (by decide +kernel) rfl
theorem iniJ6 : Cond.initialized RJ6 ∈ zv_gw := zv_gt 6 (by decide +kernel) rfl
theorem iniX0 : Cond.initialized RX0 ∈ zv_gw := zv_gt 7 (by decide +kernel) rfl
theorem iniX1 : Cond.initialized RX1 ∈ zv_gw := zv_gt 8 (by decide +kernel) rfl
theorem iniX2 : Cond.initialized RX2 ∈ zv_gw := zv_gt 9 (by decide +kernel) rfl
theorem iniJ13 : Cond.initialized RJ13 ∈ zv_gw := zv_gt 10 (by decide +kernel) rfl
theorem iniJ9 : Cond.initialized RJ9 ∈ zv_gw := zv_gt 11 (by decide +kernel) rfl
theorem clL_7 : Cond.classLink RL 7 RX7 ∈ zv_gw := zv_gt 12 (by decide +kernel) rfl
theorem insX7 : Cond.instantiable RX7 10 ∈ zv_gw := zv_gt 13 (by decide +kernel) rfl
theorem oiX7_1 : Cond.methodLink RX7 1 objectInit ∈ zv_gw := zv_gt 17 (by decide +kernel) rfl
theorem clX7_9 : Cond.classLink RX7 9 RX3 ∈ zv_gw := zv_gt 20 (by decide +kernel) rfl
theorem clX7_15 : Cond.classLink RX7 15 RX0 ∈ zv_gw := zv_gt 22 (by decide +kernel) rfl
theorem clX7_21 : Cond.classLink RX7 21 RX2 ∈ zv_gw := zv_gt 24 (by decide +kernel) rfl
theorem clX7_31 : Cond.classLink RX7 31 RX6 ∈ zv_gw := zv_gt 26 (by decide +kernel) rfl
theorem insX6 : Cond.instantiable RX6 2 ∈ zv_gw := zv_gt 27 (by decide +kernel) rfl
theorem oiX6_3 : Cond.methodLink RX6 3 objectInit ∈ zv_gw := zv_gt 31 (by decide +kernel) rfl
theorem ac_int : Cond.arrayClass .int ∈ zv_gw := zv_gt 40 (by decide +kernel) rfl
theorem insX3 : Cond.instantiable RX3 10 ∈ zv_gw := zv_gt 80 (by decide +kernel) rfl
theorem oiX3_3 : Cond.methodLink RX3 3 objectInit ∈ zv_gw := zv_gt 84 (by decide +kernel) rfl
theorem clX3_9 : Cond.classLink RX3 9 "[[I" ∈ zv_gw := zv_gt 85 (by decide +kernel) rfl
theorem clX3_23 : Cond.classLink RX3 23 RX1 ∈ zv_gw := zv_gt 87 (by decide +kernel) rfl
theorem clX3_32 : Cond.classLink RX3 32 RX2 ∈ zv_gw := zv_gt 89 (by decide +kernel) rfl
theorem clX3_38 : Cond.classLink RX3 38 RX5 ∈ zv_gw := zv_gt 90 (by decide +kernel) rfl
theorem clX3_44 : Cond.classLink RX3 44 RX4 ∈ zv_gw := zv_gt 92 (by decide +kernel) rfl
theorem insX4 : Cond.instantiable RX4 1 ∈ zv_gw := zv_gt 93 (by decide +kernel) rfl
theorem oiX4_3 : Cond.methodLink RX4 3 objectInit ∈ zv_gw := zv_gt 97 (by decide +kernel) rfl
theorem ac_long : Cond.arrayClass .long ∈ zv_gw := zv_gt 102 (by decide +kernel) rfl
theorem kcJ6_265 : Cond.constant RJ6 265 1431655765 ∈ zv_gw := zv_gt 154 (by decide +kernel) rfl
theorem kcJ6_266 : Cond.constant RJ6 266 858993459 ∈ zv_gw := zv_gt 155 (by decide +kernel) rfl
theorem kcJ6_267 : Cond.constant RJ6 267 252645135 ∈ zv_gw := zv_gt 156 (by decide +kernel) rfl
theorem insX0 : Cond.instantiable RX0 3 ∈ zv_gw := zv_gt 157 (by decide +kernel) rfl
theorem oiX0_1 : Cond.methodLink RX0 1 objectInit ∈ zv_gw := zv_gt 167 (by decide +kernel) rfl
theorem clX7_124 : Cond.classLink RX7 124 RX1 ∈ zv_gw := zv_gt 218 (by decide +kernel) rfl
theorem insX1 : Cond.instantiable RX1 2 ∈ zv_gw := zv_gt 219 (by decide +kernel) rfl
theorem oiX1_3 : Cond.methodLink RX1 3 objectInit ∈ zv_gw := zv_gt 223 (by decide +kernel) rfl
theorem clX1_9 : Cond.classLink RX1 9 "[I" ∈ zv_gw := zv_gt 224 (by decide +kernel) rfl
theorem ca_243 : Cond.castable "[I" RJx8e188 ∈ zv_nw := zv_nt 243 (by decide +kernel) rfl
theorem insX2 : Cond.instantiable RX2 13 ∈ zv_gw := zv_gt 244 (by decide +kernel) rfl
theorem oiX2_3 : Cond.methodLink RX2 3 objectInit ∈ zv_gw := zv_gt 248 (by decide +kernel) rfl
theorem clX2_9 : Cond.classLink RX2 9 RX4 ∈ zv_gw := zv_gt 249 (by decide +kernel) rfl
theorem kcJ13_314 : Cond.constantLong RJ13 314 6148914691236517205 ∈ zv_gw := zv_gt 477 (by decide +kernel) rfl
theorem kcJ13_316 : Cond.constantLong RJ13 316 3689348814741910323 ∈ zv_gw := zv_gt 478 (by decide +kernel) rfl
theorem kcJ13_318 : Cond.constantLong RJ13 318 1085102592571150095 ∈ zv_gw := zv_gt 479 (by decide +kernel) rfl
theorem clL_10 : Cond.classLink RL 10 RX8 ∈ zv_gw := zv_gt 573 (by decide +kernel) rfl
theorem insX8 : Cond.instantiable RX8 28 ∈ zv_gw := zv_gt 574 (by decide +kernel) rfl
theorem oiX8_1 : Cond.methodLink RX8 1 objectInit ∈ zv_gw := zv_gt 578 (by decide +kernel) rfl
theorem kcX8_64 : Cond.constant RX8 64 40000 ∈ zv_gw := zv_gt 579 (by decide +kernel) rfl
theorem ac_boolean : Cond.arrayClass .boolean ∈ zv_gw := zv_gt 665 (by decide +kernel) rfl
theorem ca_923 : Cond.castable RX2 RX2 ∈ zv_nw := zv_nt 923 (by decide +kernel) rfl
theorem ca_924 : Cond.castable RX1 RX1 ∈ zv_nw := zv_nt 924 (by decide +kernel) rfl
theorem ca_925 : Cond.castable RX1 RX5 ∈ zv_nw := zv_nt 925 (by decide +kernel) rfl
theorem ca_926 : Cond.castable RX2 RX5 ∈ zv_nw := zv_nt 926 (by decide +kernel) rfl
end
section
def va_AOA (t : FieldType) (U : State) : Prop := (Cond.arrayOver (.array t)).before #[] U = true
theorem va_AOA.use {t : FieldType} {A : Array Value} {U : State} (h : va_AOA t U) : (Cond.arrayOver (.array t)).before A U = true := h
/-! ===== BEGIN new T[n][m]: the outer array a place, the inner ones among the pooled ===== -/
/-- f, but v at every address of l -/
def vr_up {α : Type} (f : Nat → α) (l : List Nat) (v : α) : Nat → α := fun a => if a ∈ l then v else f a
theorem vr_up_in {α : Type} {f : Nat → α} {l : List Nat} {v : α} {a : Nat} (h : a ∈ l) : vr_up f l v a = v := if_pos h
theorem vr_up_ne {α : Type} {f : Nat → α} {l : List Nat} {v : α} {a : Nat} (h : a ∉ l) : vr_up f l v a = f a := if_neg h
theorem vr_rows {L l : List Nat} {f : Nat → va_E} {e : va_E} (h : ∀ a, a ∈ l → a ∉ L) : va_pl L f ++ l.map (fun a => (a, e)) = va_pl (L ++ l) (vr_up f l e) := by
  unfold va_pl
  rw [List.map_append]
  congr 1
  · apply List.map_congr_left
    intro a ha
    rw [vr_up_ne (fun q => h a q ha)]
  · apply List.map_congr_left
    intro a ha
    rw [vr_up_in ha]
theorem vr_lay {X rows : va_W} {x : Nat × va_E} {pl : va_W} {D : va_G} {cl : List vw_C} {H : Heap} (hP : va_P D cl (((X ++ pl) ++ [x]) ++ rows) H) : va_P D cl ((X ++ [x]) ++ (pl ++ rows)) H := by
  rw [List.append_assoc (X ++ pl)] at hP
  have h := va_P.swap hP
  rw [← List.append_assoc X] at h
  have h2 := va_P.swap h
  rw [List.append_assoc (X ++ [x])] at h2
  exact h2
theorem vr_layD {X rows : va_W} {x : Nat × va_E} {pl : va_W} {A : Nat → Prop} (hD : va_D A (((X ++ pl) ++ [x]) ++ rows)) : va_D A ((X ++ [x]) ++ (pl ++ rows)) := by
  rw [List.append_assoc (X ++ pl)] at hD
  have h := va_D.swap hD
  rw [← List.append_assoc X] at h
  have h2 := va_D.swap h
  rw [List.append_assoc (X ++ [x])] at h2
  exact h2
theorem vr_outer (c : ClassId) (N h0 : Nat) : ∀ i : Nat, Jvm.Free.Multi.outerC c N h0 i = arrV c N (fun j => va_rf (if j < i then some (h0 + 1 + j) else none))
  | 0 => by
    show ({ cls := c, slots := Array.replicate N .null, vm := .none } : Cell) = _
    rw [arrV_new]
    refine congrArg (arrV c N) (funext fun j => ?_)
    simp [va_rf]
  | i + 1 => by
    show (Jvm.Free.Multi.outerC c N h0 i).setSlot i (.ref (h0 + 1 + i)) = _
    rw [vr_outer c N h0 i, arrV_store]
    refine congrArg (arrV c N) (funext fun j => ?_)
    by_cases e : j = i
    · subst e
      simp [updV, va_rf]
    · by_cases h : j < i
      · simp [updV, e, h, Nat.lt_succ_of_lt h]
      · simp [updV, e, h, show ¬ j < i + 1 by omega]
section VGM
variable {p : Program} {l : Launch} {e : Env} {R : Room} {s : State} {m : MethodId} {args : Array Value} {below : List Frame} {meth : Method} {c : Code} {H : Heap} {locs : List Loc} {cells slots : Nat} {Q : State → Prop}
variable {cc : ByteArray} {pc : Nat} {ls : Array Slot} {rest : List Value} {D : va_G} {cl : List vw_C} {A : Nat → Prop} {a : Nat} {tys : List (ClassId × FieldType)} {ws : va_W} {H0 : Heap}
theorem va_mna {X : va_W} {L : List Nat} {f : Nat → va_E} {cc : ByteArray} (hexec : p.tables.exec = Jvm.exec) (hb : c.code = cc) {own : String} {index : Nat} {ty : FieldType} {cy : ClassId} (hown : s.vm.findClass own = some m.cls) (hclink : (Cond.classLink own index ("[" ++ (FieldType.array ty).toString)).before args s = true) (hover : va_AOA ty s) (harr : (Cond.arrayClass ty).before args s = true) (hcy : s.vm.findClass (FieldType.array ty).toString = some cy)
    (hK : va_K D cl tys s) (hP : va_P D cl (X ++ va_pl L f) H) (hD : va_D A (X ++ va_pl L f)) (hS : va_S A H0 H locs) (hA : ∀ q, H0.size ≤ q → A q) {n k : Int32} {N' K' : Nat} {z : vp_A} (hn : ¬ n < 0) (hk : ¬ k < 0) (hN : n.toNatClampNeg = N') (hM : k.toNatClampNeg = K')
    (hb1 : N' * 4 ≤ 536870912) (hb2 : K' * componentBytes ty ≤ 536870912) (hb3 : K' ≤ 536870912) (hdf : fits ty (defaultValue ty) = true) (hdd : (defaultValue ty).isDefault = true) (hcells : cells + (1 + N') ≤ R.cells) (hslots : slots + (N' + N' * K') ≤ R.slots) (hz : ∀ c : ClassId, Jvm.Free.Multi.innerC c K' (defaultValue ty) = vp_cell c z) (hdg : decode cc pc = .ok (.multianewarray index 2, 4))
    (kk : ∀ (q : Nat) (r : Nat → Nat) (cA : ClassId) (H1 : Heap), (∀ i j : Nat, i < N' → j < N' → r i = r j → i = j) → (∀ i : Nat, i < N' → r i ∉ L) → va_K D cl (tys ++ [(cA, .array ty)]) s →
      va_P D cl ((X ++ [(q, .inl (cA, N', .inr (.inr (.inr (.inr (fun i => if i < N' then some (r i) else none))))))]) ++ va_pl (L ++ (List.range N').map r) (vr_up f ((List.range N').map r) (.inl (cy, z)))) H1 → va_D A ((X ++ [(q, .inl (cA, N', .inr (.inr (.inr (.inr (fun i => if i < N' then some (r i) else none))))))]) ++ va_pl (L ++ (List.range N').map r) (vr_up f ((List.range N').map r) (.inl (cy, z)))) → va_S A H0 H1 locs →
      W p l e R s m args below meth c H1 locs (cells + 1 + N') (slots + N' + N' * K') Q (F0 m (pc + 4) ls (.ref q :: rest))) : W p l e R s m args below meth c H locs cells slots Q (F0 m pc ls (.int k :: .int n :: rest)) := by
  subst hN
  subst hM
  intro T hT Xs
  obtain ⟨vm₁, cA, comp, -, fA, fC, hO, -, X', step⟩ := Xs.multianewarray2F hexec hown hclink (va_AOA.use hover) harr (g := F0 m pc ls (.int k :: .int n :: rest)) rfl (by rw [hb]; exact hdg) rfl hn hk hb1 hb2 hb3 hdf hdd hcells hslots
  have ec : some cy = some comp := hcy.symm.trans fC
  cases ec
  generalize hF : Jvm.Free.Multi.fill (T.setVm vm₁) cA cy n.toNatClampNeg k.toNatClampNeg (defaultValue ty) n.toNatClampNeg = F at X' step
  have hTh : (T.setVm vm₁).heap = H := hT
  obtain ⟨f1, f2, -, -⟩ := Jvm.Free.Multi.fill_facts (T.setVm vm₁) cA cy n.toNatClampNeg k.toNatClampNeg (defaultValue ty) n.toNatClampNeg
  rw [hF, hTh] at f1 f2
  have hold : ∀ x : Nat, x < H.size → F.heap[x]? = H[x]? := fun x hx => by
    have := Jvm.Free.Multi.fill_old (T.setVm vm₁) cA cy n.toNatClampNeg k.toNatClampNeg (defaultValue ty) (a := x) (by rw [hTh]; exact hx) n.toNatClampNeg
    rw [hF, hTh] at this
    exact this
  have hrow : ∀ j : Nat, j < n.toNatClampNeg → F.heap[H.size + 1 + j]? = some (vp_cell cy z) := fun j hj => by
    have := Jvm.Free.Multi.fill_inner (T.setVm vm₁) cA cy n.toNatClampNeg k.toNatClampNeg (defaultValue ty) n.toNatClampNeg j hj
    rw [hF, hTh, hz] at this
    exact this
  have hout : Jvm.Free.Multi.outerC cA n.toNatClampNeg H.size n.toNatClampNeg = vp_cell cA (n.toNatClampNeg, .inr (.inr (.inr (.inr (fun i => if i < n.toNatClampNeg then some (H.size + 1 + i) else none))))) := by
    rw [vp_cell_q]
    exact vr_outer cA n.toNatClampNeg H.size n.toNatClampNeg
  rw [hout] at f2
  have hlt : ∀ a, a ∈ L → a < H.size := fun a ha => by
    obtain ⟨k9, hk9⟩ := va_pl_get (X := X) (f := f) ha
    exact (hP k9 _ hk9).lt
  have hnl : ∀ i : Nat, i < n.toNatClampNeg → H.size + 1 + i ∉ L := fun i _ h => by
    have := hlt _ h
    omega
  have hnm : ∀ a, a ∈ (List.range n.toNatClampNeg).map (fun i => H.size + 1 + i) → a ∉ L := fun a ha h => by
    obtain ⟨i, -, rfl⟩ := List.mem_map.mp ha
    have := hlt _ h
    omega
  have hP0 : va_P D cl (X ++ va_pl L f) F.heap := hP.kept (fun k9 x hx => hold x.1 ((hP k9 x hx).lt))
  have hP1 : va_P D cl ((X ++ va_pl L f) ++ [(H.size, .inl (cA, n.toNatClampNeg, .inr (.inr (.inr (.inr (fun i => if i < n.toNatClampNeg then some (H.size + 1 + i) else none))))))]) F.heap := hP0.app (fun k9 x hx => by
    have h0 : k9 < 1 := (List.getElem?_eq_some_iff.mp hx).1
    rw [show k9 = 0 by omega] at hx
    cases hx
    exact f2)
  have hP2 : va_P D cl (((X ++ va_pl L f) ++ [(H.size, .inl (cA, n.toNatClampNeg, .inr (.inr (.inr (.inr (fun i => if i < n.toNatClampNeg then some (H.size + 1 + i) else none))))))]) ++ ((List.range n.toNatClampNeg).map (fun i => H.size + 1 + i)).map (fun a => (a, .inl (cy, z)))) F.heap := hP1.app (fun k9 x hx => by
    obtain ⟨a, ha, rfl⟩ := List.mem_map.mp (List.mem_of_getElem? hx)
    obtain ⟨i, hi, rfl⟩ := List.mem_map.mp ha
    exact hrow i (List.mem_range.mp hi))
  have hD2 : va_D A (((X ++ va_pl L f) ++ [(H.size, .inl (cA, n.toNatClampNeg, .inr (.inr (.inr (.inr (fun i => if i < n.toNatClampNeg then some (H.size + 1 + i) else none))))))]) ++ ((List.range n.toNatClampNeg).map (fun i => H.size + 1 + i)).map (fun a => (a, .inl (cy, z)))) := by
    have hD1 := hD.push (e := .inl (cA, n.toNatClampNeg, .inr (.inr (.inr (.inr (fun i => if i < n.toNatClampNeg then some (H.size + 1 + i) else none)))))) hP rfl (hA _ hS.1)
    generalize hW1 : (X ++ va_pl L f) ++ [(H.size, .inl (cA, n.toNatClampNeg, .inr (.inr (.inr (.inr (fun i => if i < n.toNatClampNeg then some (H.size + 1 + i) else none))))))] = W1 at hD1 hP1 ⊢
    have hle : ∀ (k9 : Nat) (x : Nat × va_E), W1[k9]? = some x → x.1 ≤ H.size := fun k9 x hx => by
      rw [← hW1] at hx
      by_cases hl : k9 < (X ++ va_pl L f).length
      · rw [List.getElem?_append_left hl] at hx
        exact Nat.le_of_lt ((hP k9 x hx).lt)
      · rw [List.getElem?_append_right (by omega)] at hx
        have h0 : k9 - (X ++ va_pl L f).length < 1 := (List.getElem?_eq_some_iff.mp hx).1
        rw [show k9 - (X ++ va_pl L f).length = 0 by omega] at hx
        cases hx
        exact Nat.le_refl _
    have hr : ∀ (k9 : Nat) (x : Nat × va_E), (((List.range n.toNatClampNeg).map (fun i => H.size + 1 + i)).map (fun a => ((a, .inl (cy, z)) : Nat × va_E)))[k9]? = some x → x.1 = H.size + 1 + k9 := fun k9 x hx => by
      rw [List.getElem?_map, List.getElem?_map] at hx
      by_cases h9 : k9 < n.toNatClampNeg
      · rw [List.getElem?_range h9] at hx
        cases hx
        rfl
      · have hn0 : (List.range n.toNatClampNeg)[k9]? = none := List.getElem?_eq_none (by rw [List.length_range]; omega)
        rw [hn0] at hx
        cases hx
    refine ⟨fun i j x y hi hj hxy => ?_, fun k9 x hx => ?_⟩
    · by_cases h1 : i < W1.length <;> by_cases h2 : j < W1.length
      · rw [List.getElem?_append_left h1] at hi
        rw [List.getElem?_append_left h2] at hj
        exact hD1.1 i j x y hi hj hxy
      · rw [List.getElem?_append_left h1] at hi
        rw [List.getElem?_append_right (by omega)] at hj
        have := hle _ _ hi
        have := hr _ _ hj
        omega
      · rw [List.getElem?_append_right (by omega)] at hi
        rw [List.getElem?_append_left h2] at hj
        have := hle _ _ hj
        have := hr _ _ hi
        omega
      · rw [List.getElem?_append_right (by omega)] at hi hj
        have := hr _ _ hi
        have := hr _ _ hj
        omega
    · by_cases h1 : k9 < W1.length
      · rw [List.getElem?_append_left h1] at hx
        exact hD1.2 k9 x hx
      · rw [List.getElem?_append_right (by omega)] at hx
        have := hr _ _ hx
        exact hA _ (by have := hS.1; omega)
  have hAr : ArrOfT s cA (.array ty) := fun N9 z9 => by
    obtain ⟨-, k9, hk9, cm9, hkk9⟩ := (hO 0 0 0).1
    exact ⟨(fun q hq => by cases hq), k9, hk9, cm9, hkk9⟩
  have hK2 : va_K D cl (tys ++ [(cA, .array ty)]) s := ⟨hK.1, fun k9 x hx => by
    by_cases hl : k9 < tys.length
    · rw [List.getElem?_append_left hl] at hx
      exact hK.2 k9 x hx
    · rw [List.getElem?_append_right (by omega)] at hx
      have h0 : k9 - tys.length < 1 := (List.getElem?_eq_some_iff.mp hx).1
      rw [show k9 - tys.length = 0 by omega] at hx
      cases hx
      exact ⟨hAr, fA⟩⟩
  obtain ⟨t, a1, b1⟩ := kk H.size (fun i => H.size + 1 + i) cA F.heap (fun i j _ _ h => by have h9 : H.size + 1 + i = H.size + 1 + j := h; omega) hnl hK2 (by rw [← vr_rows hnm]; exact vr_lay hP2) (by rw [← vr_rows hnm]; exact vr_layD hD2) ⟨by rw [f1]; have := hS.1; omega, fun x h1 h2 => (hold x (Nat.lt_of_lt_of_le h1 hS.1)).trans (hS.2.1 x h1 h2), hS.2.2⟩ F rfl X'
  refine ⟨t, step t ?_, b1⟩
  have e : T.heap.size = H.size := by rw [hT]
  rw [e]
  exact a1
end VGM
/-! ===== END ===== -/
/-! new int[n][k]: the outer row at tag t, its rows at t + 1 .. t + n -/
def zv_mS (sh : zv_S) (t N K : Nat) : zv_S := fun a => if a = t then some (3, N) else if t < a ∧ a ≤ t + N then some (0, K) else sh a
def zv_m0 {α : Type} (f : Nat → Nat → α) (t N : Nat) (z : α) : Nat → Nat → α := fun a => if t ≤ a ∧ a ≤ t + N then (fun _ => z) else f a
def zv_mR (R : zv_R) (t N : Nat) : zv_R := fun a => if a = t then (fun j => if j < N then some (t + 1 + j) else none) else if t < a ∧ a ≤ t + N then (fun _ => none) else R a
def zv_mA (adr : Nat → Nat) (t N q : Nat) (r : Nat → Nat) : Nat → Nat := fun a => if a = t then q else if t < a ∧ a ≤ t + N then r (a - t - 1) else adr a
section ZM
variable {E : zv_E} {M : zv_M} {d kc ks pc : Nat} {lv st : List Value} {sh : zv_S} {I : zv_I} {J : zv_J} {R : zv_R} {Q : zv_Q}
theorem zv_mna {idx t N K : Nat} {n k' : Int32} (hd : decode M.2.1 pc = .ok (.multianewarray idx 2, 4)) (hl : Cond.classLink M.1.cls idx "[[I" ∈ zv_gw) (hac : Cond.arrayClass .int ∈ zv_gw) (hn : n = nI N) (hk : k' = nI K) (hN : N < 2 ^ 16) (hK : K < 2 ^ 16) (ht : ∀ a, t ≤ a → a ≤ t + N → sh a = none) (h3 : 3 ≤ t)
    (k : zv_V E M d kc ks (pc + 4) lv (.ref t :: st) (zv_mS sh t N K) (zv_m0 I t N 0) (zv_m0 J t N 0) (zv_mR R t N) Q) : zv_V E M d (kc + (1 + N)) (ks + (N + N * K)) pc lv (.int k' :: .int n :: st) sh I J R Q := by
  intro p l e Rm s m args below meth c' Z mc ms sh0 adr0 C adr H locs ls cells slots P h1 h2
  obtain ⟨⟨ws, hw, hP, hD⟩, hinj, hcl, hro⟩ := P.1
  obtain ⟨c1, c2, c3, c4, c5, c6, c7, c8, c9, c10, c11, c12⟩ := id C
  have hA : ∀ q, s.heap.size ≤ q → zv_A E q := fun q hq => Nat.le_trans c7.2.2.2.2.2.2.2.2.2.2 hq
  have hc1 : n.toNatClampNeg = N := by rw [hn]; exact nI_clamp (by omega)
  have hc2 : k'.toNatClampNeg = K := by rw [hk]; exact nI_clamp (by omega)
  have hn1 : ¬ n < 0 := by rw [hn]; exact nI_pos (by omega)
  have hn2 : ¬ k' < 0 := by rw [hk]; exact nI_pos (by omega)
  have hlk : (Cond.classLink M.1.cls idx ("[" ++ (FieldType.array .int).toString)).before args s = true := by
    have e1 : "[" ++ (FieldType.array .int).toString = "[[I" := by decide +kernel
    rw [e1]
    exact c5 _ hl
  have hRI : va_RA s (E.2.2.1 0) .int := (c7.1.2 0 (E.2.2.1 0, .int) rfl).2
  have hcy : s.vm.findClass (FieldType.array .int).toString = some (E.2.2.1 0) := by
    have e1 : (FieldType.array .int).toString = "[I" := by decide +kernel
    rw [e1]
    exact va_nm_int hRI
  have hP0 : va_P E.2.1 zv_cl (ws ++ va_pl [] (fun _ => .inr (0, []))) H := by rw [show va_pl [] (fun _ => (.inr (0, []) : va_E)) = [] from rfl, List.append_nil]; exact hP
  have hD0 : va_D (zv_A E) (ws ++ va_pl [] (fun _ => .inr (0, []))) := by rw [show va_pl [] (fun _ => (.inr (0, []) : va_E)) = [] from rfl, List.append_nil]; exact hD
  refine va_mna (ty := .int) (N' := N) (K' := K) (z := (K, .inl (fun _ => 0))) c1 c2 c4 hlk c7.2.2.2.1 (c5 _ hac) hcy c7.1 hP0 hD0 P.2.2.2.2.2 hA hn1 hn2 hc1 hc2 (by omega) (by show K * 4 ≤ _; omega) (by omega) rfl rfl (by omega) (by omega) (fun c => (arrV_new c K (.int 0))) hd (fun q r cA H1 hri hrL hK1 hP1 hD1 hS1 => ?_)
  have hcA : cA = E.2.2.1 3 := by
    have h9 : va_RA s cA (.array .int) := (hK1.2 9 (cA, .array .int) (by simp [zv_tys])).2
    have h0 : va_RA s (E.2.2.1 3) (.array .int) := (c7.1.2 3 (E.2.2.1 3, .array .int) rfl).2
    have h9 : s.vm.findClass ("[" ++ (FieldType.array .int).toString) = some cA := h9
    have h0 : s.vm.findClass ("[" ++ (FieldType.array .int).toString) = some (E.2.2.1 3) := h0
    exact Option.some.inj (h9.symm.trans h0)
  subst hcA
  rw [List.nil_append] at hP1 hD1
  generalize hF : vr_up (fun _ => (.inr (0, []) : va_E)) ((List.range N).map r) (.inl (E.2.2.1 0, K, .inl (fun _ => 0))) = F at hP1 hD1
  have hFr : ∀ i, i < N → F (r i) = .inl (E.2.2.1 0, K, .inl (fun _ => 0)) := by
    intro i hi
    rw [← hF]
    exact vr_up_in (List.mem_map.mpr ⟨i, List.mem_range.mpr hi, rfl⟩)
  generalize hO : (.inl (E.2.2.1 3, N, .inr (.inr (.inr (.inr (fun i => if i < N then some (r i) else none))))) : va_E) = O at hP1 hD1
  have hposO : ((ws ++ [(q, O)]) ++ va_pl ((List.range N).map r) F)[ws.length]? = some (q, O) := by
    rw [List.getElem?_append_left (by simp), List.getElem?_append_right (Nat.le_refl _)]
    simp
  have hposR : ∀ i, i < N → ((ws ++ [(q, O)]) ++ va_pl ((List.range N).map r) F)[ws.length + 1 + i]? = some (r i, .inl (E.2.2.1 0, K, .inl (fun _ => 0))) := by
    intro i hi
    rw [List.getElem?_append_right (by rw [List.length_append]; show ws.length + 1 ≤ _; omega)]
    have e1 : ws.length + 1 + i - (ws ++ [(q, O)]).length = i := by rw [List.length_append]; show ws.length + 1 + i - (ws.length + 1) = i; omega
    rw [e1]
    unfold va_pl
    rw [List.getElem?_map, List.getElem?_map, List.getElem?_range hi]
    simp [hFr i hi]
  have hposW : ∀ (k : Nat) (x : Nat × va_E), ws[k]? = some x → ((ws ++ [(q, O)]) ++ va_pl ((List.range N).map r) F)[k]? = some x := by
    intro k x hx
    have hlt := (List.getElem?_eq_some_iff.mp hx).1
    rw [List.append_assoc, List.getElem?_append_left hlt]
    exact hx
  generalize hWS : (ws ++ [(q, O)]) ++ va_pl ((List.range N).map r) F = WS at hP1 hD1 hposO hposR hposW
  have live : ∀ a, (sh a).isSome = true → ¬ (t ≤ a ∧ a ≤ t + N) := fun a ha q => by rw [ht a q.1 q.2] at ha; cases ha
  have adrO : ∀ a, ¬ (t ≤ a ∧ a ≤ t + N) → zv_mA adr t N q r a = adr a := by
    intro a ha
    unfold zv_mA
    rw [if_neg (fun e => ha (by omega)), if_neg (fun e => ha (by omega))]
  have adrT : zv_mA adr t N q r t = q := by unfold zv_mA; rw [if_pos rfl]
  have adrR : ∀ i, i < N → zv_mA adr t N q r (t + 1 + i) = r i := by
    intro i hi
    unfold zv_mA
    rw [if_neg (by omega), if_pos (by omega)]
    congr 1
    omega
  have shO : ∀ a, ¬ (t ≤ a ∧ a ≤ t + N) → zv_mS sh t N K a = sh a := by
    intro a ha
    unfold zv_mS
    rw [if_neg (fun e => ha (by omega)), if_neg (fun e => ha (by omega))]
  have cases3 : ∀ a, a = t ∨ (∃ i, i < N ∧ a = t + 1 + i) ∨ ¬ (t ≤ a ∧ a ≤ t + N) := by
    intro a
    by_cases e1 : a = t
    · exact Or.inl e1
    by_cases e2 : t ≤ a ∧ a ≤ t + N
    · exact Or.inr (Or.inl ⟨a - t - 1, by omega, by omega⟩)
    · exact Or.inr (Or.inr e2)
  have sm : ∀ a, (sh a).isSome = true → (zv_mS sh t N K a).isSome = true := fun a ha => by rw [shO a (live a ha)]; exact ha
  have sR : ∀ i, i < N → (zv_mS sh t N K (t + 1 + i)).isSome = true := by
    intro i hi
    unfold zv_mS
    rw [if_neg (by omega), if_pos (by omega)]
    rfl
  have place : ∀ a ka, zv_mS sh t N K a = some ka → ∃ k : Nat, WS[k]? = some (zv_mA adr t N q r a, zv_ent E (zv_mA adr t N q r) ka (zv_m0 I t N 0 a) (zv_m0 J t N 0 a) (zv_mR R t N a)) ∧ ((a = t → k = ws.length) ∧ (∀ i, i < N → a = t + 1 + i → k = ws.length + 1 + i) ∧ (¬ (t ≤ a ∧ a ≤ t + N) → k < ws.length)) := by
    intro a ka ha
    rcases cases3 a with e1 | ⟨i, hi, e1⟩ | e1
    · subst e1
      refine ⟨ws.length, ?_, fun _ => rfl, fun i _ h => by omega, fun h => absurd ⟨Nat.le_refl _, by omega⟩ h⟩
      unfold zv_mS at ha
      rw [if_pos rfl] at ha
      cases ha
      rw [hposO, adrT, zv_ent_r E _ (by omega) (by omega), ← hO]
      congr 9
      funext j
      unfold zv_mR
      rw [if_pos rfl]
      by_cases hj : j < N
      · rw [if_pos hj, if_pos hj, Option.map_some, adrR j hj]
      · rw [if_neg hj, if_neg hj]; rfl
    · subst e1
      refine ⟨ws.length + 1 + i, ?_, fun h => by omega, fun j _ h => by omega, fun h => absurd ⟨by omega, by omega⟩ h⟩
      unfold zv_mS at ha
      rw [if_neg (by omega), if_pos (by omega)] at ha
      cases ha
      rw [hposR i hi, adrR i hi, zv_ent_i]
      unfold zv_m0
      rw [if_pos (by omega)]
    · rw [shO a e1] at ha
      obtain ⟨k, hk⟩ := hw a ka ha
      refine ⟨k, ?_, fun h => absurd (by omega) e1, fun i hi h => absurd (by omega) e1, fun _ => (List.getElem?_eq_some_iff.mp hk).1⟩
      rw [hposW k _ hk, adrO a e1]
      have i1 : zv_m0 I t N 0 a = I a := by unfold zv_m0; rw [if_neg e1]
      have i2 : zv_m0 J t N 0 a = J a := by unfold zv_m0; rw [if_neg e1]
      have i3 : zv_mR R t N a = R a := by unfold zv_mR; rw [if_neg (fun e => e1 (by omega)), if_neg (fun e => e1 (by omega))]
      rw [i1, i2, i3, zv_ent_ext (fun j u hu => adrO u (live u (hcl a j u (by rw [ha]; rfl) hu)))]
  have hH : zv_H E (zv_mS sh t N K) (zv_m0 I t N 0) (zv_m0 J t N 0) (zv_mR R t N) (zv_mA adr t N q r) H1 := by
    refine ⟨⟨WS, fun a ka ha => ?_, hP1, hD1⟩, fun a b ha hb hab => ?_, fun a j u ha hu => ?_, fun a ha => ?_⟩
    · obtain ⟨k, hk, -⟩ := place a ka ha
      exact ⟨k, hk⟩
    · obtain ⟨ka, hka⟩ := Option.isSome_iff_exists.mp ha
      obtain ⟨kb, hkb⟩ := Option.isSome_iff_exists.mp hb
      obtain ⟨i, hi, i1, i2, i3⟩ := place a ka hka
      obtain ⟨j, hj, j1, j2, j3⟩ := place b kb hkb
      have hij := hD1.1 i j _ _ hi hj hab
      rcases cases3 a with e1 | ⟨x, hx, e1⟩ | e1 <;> rcases cases3 b with e2 | ⟨y, hy, e2⟩ | e2
      · omega
      · have := i1 e1; have := j2 y hy e2; omega
      · have := i1 e1; have := j3 e2; omega
      · have := i2 x hx e1; have := j1 e2; omega
      · have := i2 x hx e1; have := j2 y hy e2; omega
      · have := i2 x hx e1; have := j3 e2; omega
      · have := i3 e1; have := j1 e2; omega
      · have := i3 e1; have := j2 y hy e2; omega
      · rw [adrO a e1, adrO b e2] at hab
        rw [shO a e1] at ha
        rw [shO b e2] at hb
        exact hinj a b ha hb hab
    · rcases cases3 a with e1 | ⟨x, hx, e1⟩ | e1
      · subst e1
        unfold zv_mR at hu
        rw [if_pos rfl] at hu
        by_cases hj : j < N
        · rw [if_pos hj] at hu
          cases hu
          exact sR j hj
        · rw [if_neg hj] at hu
          cases hu
      · subst e1
        unfold zv_mR at hu
        rw [if_neg (by omega), if_pos (by omega)] at hu
        cases hu
      · have i3 : zv_mR R t N a = R a := by unfold zv_mR; rw [if_neg (fun e => e1 (by omega)), if_neg (fun e => e1 (by omega))]
        rw [i3] at hu
        rw [shO a e1] at ha
        exact sm u (hcl a j u ha hu)
    · have e1 : ¬ (t ≤ a ∧ a ≤ t + N) := by omega
      exact ⟨by rw [shO a e1]; exact (hro a ha).1, by rw [adrO a e1]; exact (hro a ha).2⟩
  have hx : ∀ a, (a < 3 ∨ (sh a).isSome = true) → zv_mA adr t N q r a = adr a := fun a ha => adrO a (ha.elim (fun h => by omega) (fun h => live a h))
  have P1 : zv_P E M lv (.ref t :: st) (zv_mS sh t N K) (zv_m0 I t N 0) (zv_m0 J t N 0) (zv_mR R t N) sh0 adr0 (zv_mA adr t N q r) H1 s.heap locs ls := by
    refine ⟨hH, by rw [zv_v_ext hx P.2.2.1]; exact P.2.1, zv_oks_mono sm P.2.2.1, ⟨Or.inr (by unfold zv_mS; rw [if_pos rfl]; rfl), zv_oks_mono sm P.2.2.2.1.2.2⟩, fun a ha => ?_, hS1⟩
    obtain ⟨g1, g2⟩ := P.2.2.2.2.1 a ha
    exact ⟨sm a g1, by rw [hx a (Or.inr g1)]; exact g2⟩
  have kk := k p l e Rm s m args below meth c' Z mc ms sh0 adr0 C _ H1 locs ls (cells + 1 + N) (slots + N + N * K) P1 (by omega) (by omega)
  have e3 : (Value.ref t :: st).map (zv_v (zv_mA adr t N q r)) = .ref q :: st.map (zv_v adr) := by
    rw [List.map_cons, zv_v_ext hx P.2.2.2.1.2.2]
    show Value.ref (zv_mA adr t N q r t) :: _ = _
    rw [adrT]
  rw [e3] at kk
  exact kk
end ZM
end
section
theorem dX8_init_0 : decode mX8_init.2.1 0 = .ok (.aload_n 0, 1) := by decide +kernel
theorem dX8_init_1 : decode mX8_init.2.1 1 = .ok (.invokespecial 1, 3) := by decide +kernel
theorem dX8_init_4 : decode mX8_init.2.1 4 = .ok (.aload_n 0, 1) := by decide +kernel
theorem dX8_init_5 : decode mX8_init.2.1 5 = .ok (.bipush 6, 2) := by decide +kernel
theorem dX8_init_7 : decode mX8_init.2.1 7 = .ok (.newarray .int, 2) := by decide +kernel
theorem dX8_init_9 : decode mX8_init.2.1 9 = .ok (.putfield 7, 3) := by decide +kernel
theorem dX8_init_12 : decode mX8_init.2.1 12 = .ok (.aload_n 0, 1) := by decide +kernel
theorem dX8_init_13 : decode mX8_init.2.1 13 = .ok (.bipush 6, 2) := by decide +kernel
theorem dX8_init_15 : decode mX8_init.2.1 15 = .ok (.newarray .int, 2) := by decide +kernel
theorem dX8_init_17 : decode mX8_init.2.1 17 = .ok (.putfield 13, 3) := by decide +kernel
theorem dX8_init_20 : decode mX8_init.2.1 20 = .ok (.aload_n 0, 1) := by decide +kernel
theorem dX8_init_21 : decode mX8_init.2.1 21 = .ok (.sipush 200, 3) := by decide +kernel
theorem dX8_init_24 : decode mX8_init.2.1 24 = .ok (.newarray .int, 2) := by decide +kernel
theorem dX8_init_26 : decode mX8_init.2.1 26 = .ok (.putfield 16, 3) := by decide +kernel
theorem dX8_init_29 : decode mX8_init.2.1 29 = .ok (.aload_n 0, 1) := by decide +kernel
theorem dX8_init_30 : decode mX8_init.2.1 30 = .ok (.sipush 200, 3) := by decide +kernel
theorem dX8_init_33 : decode mX8_init.2.1 33 = .ok (.newarray .int, 2) := by decide +kernel
theorem dX8_init_35 : decode mX8_init.2.1 35 = .ok (.putfield 19, 3) := by decide +kernel
theorem dX8_init_38 : decode mX8_init.2.1 38 = .ok (.aload_n 0, 1) := by decide +kernel
theorem dX8_init_39 : decode mX8_init.2.1 39 = .ok (.sipush 200, 3) := by decide +kernel
theorem dX8_init_42 : decode mX8_init.2.1 42 = .ok (.newarray .int, 2) := by decide +kernel
theorem dX8_init_44 : decode mX8_init.2.1 44 = .ok (.putfield 22, 3) := by decide +kernel
theorem dX8_init_47 : decode mX8_init.2.1 47 = .ok (.aload_n 0, 1) := by decide +kernel
theorem dX8_init_48 : decode mX8_init.2.1 48 = .ok (.sipush 200, 3) := by decide +kernel
theorem dX8_init_51 : decode mX8_init.2.1 51 = .ok (.newarray .int, 2) := by decide +kernel
theorem dX8_init_53 : decode mX8_init.2.1 53 = .ok (.putfield 25, 3) := by decide +kernel
theorem dX8_init_56 : decode mX8_init.2.1 56 = .ok (.aload_n 0, 1) := by decide +kernel
theorem dX8_init_57 : decode mX8_init.2.1 57 = .ok (.sipush 200, 3) := by decide +kernel
theorem dX8_init_60 : decode mX8_init.2.1 60 = .ok (.newarray .int, 2) := by decide +kernel
theorem dX8_init_62 : decode mX8_init.2.1 62 = .ok (.putfield 28, 3) := by decide +kernel
theorem dX8_init_65 : decode mX8_init.2.1 65 = .ok (.aload_n 0, 1) := by decide +kernel
theorem dX8_init_66 : decode mX8_init.2.1 66 = .ok (.sipush 200, 3) := by decide +kernel
theorem dX8_init_69 : decode mX8_init.2.1 69 = .ok (.newarray .int, 2) := by decide +kernel
theorem dX8_init_71 : decode mX8_init.2.1 71 = .ok (.putfield 31, 3) := by decide +kernel
theorem dX8_init_74 : decode mX8_init.2.1 74 = .ok (.aload_n 0, 1) := by decide +kernel
theorem dX8_init_75 : decode mX8_init.2.1 75 = .ok (.sipush 200, 3) := by decide +kernel
theorem dX8_init_78 : decode mX8_init.2.1 78 = .ok (.newarray .int, 2) := by decide +kernel
theorem dX8_init_80 : decode mX8_init.2.1 80 = .ok (.putfield 34, 3) := by decide +kernel
theorem dX8_init_83 : decode mX8_init.2.1 83 = .ok (.aload_n 0, 1) := by decide +kernel
theorem dX8_init_84 : decode mX8_init.2.1 84 = .ok (.sipush 200, 3) := by decide +kernel
theorem dX8_init_87 : decode mX8_init.2.1 87 = .ok (.newarray .int, 2) := by decide +kernel
theorem dX8_init_89 : decode mX8_init.2.1 89 = .ok (.putfield 37, 3) := by decide +kernel
theorem dX8_init_92 : decode mX8_init.2.1 92 = .ok (.aload_n 0, 1) := by decide +kernel
theorem dX8_init_93 : decode mX8_init.2.1 93 = .ok (.sipush 200, 3) := by decide +kernel
theorem dX8_init_96 : decode mX8_init.2.1 96 = .ok (.newarray .int, 2) := by decide +kernel
theorem dX8_init_98 : decode mX8_init.2.1 98 = .ok (.putfield 40, 3) := by decide +kernel
theorem dX8_init_101 : decode mX8_init.2.1 101 = .ok (.aload_n 0, 1) := by decide +kernel
theorem dX8_init_102 : decode mX8_init.2.1 102 = .ok (.sipush 9600, 3) := by decide +kernel
theorem dX8_init_105 : decode mX8_init.2.1 105 = .ok (.newarray .int, 2) := by decide +kernel
theorem dX8_init_107 : decode mX8_init.2.1 107 = .ok (.putfield 43, 3) := by decide +kernel
theorem dX8_init_110 : decode mX8_init.2.1 110 = .ok (.aload_n 0, 1) := by decide +kernel
theorem dX8_init_111 : decode mX8_init.2.1 111 = .ok (.sipush 1600, 3) := by decide +kernel
theorem dX8_init_114 : decode mX8_init.2.1 114 = .ok (.newarray .int, 2) := by decide +kernel
theorem dX8_init_116 : decode mX8_init.2.1 116 = .ok (.putfield 46, 3) := by decide +kernel
theorem dX8_init_119 : decode mX8_init.2.1 119 = .ok (.aload_n 0, 1) := by decide +kernel
theorem dX8_init_120 : decode mX8_init.2.1 120 = .ok (.sipush 384, 3) := by decide +kernel
theorem dX8_init_123 : decode mX8_init.2.1 123 = .ok (.newarray .int, 2) := by decide +kernel
theorem dX8_init_125 : decode mX8_init.2.1 125 = .ok (.putfield 49, 3) := by decide +kernel
theorem dX8_init_128 : decode mX8_init.2.1 128 = .ok (.aload_n 0, 1) := by decide +kernel
theorem dX8_init_129 : decode mX8_init.2.1 129 = .ok (.bipush 48, 2) := by decide +kernel
theorem dX8_init_131 : decode mX8_init.2.1 131 = .ok (.newarray .int, 2) := by decide +kernel
theorem dX8_init_133 : decode mX8_init.2.1 133 = .ok (.putfield 52, 3) := by decide +kernel
theorem dX8_init_136 : decode mX8_init.2.1 136 = .ok (.aload_n 0, 1) := by decide +kernel
theorem dX8_init_137 : decode mX8_init.2.1 137 = .ok (.bipush 48, 2) := by decide +kernel
theorem dX8_init_139 : decode mX8_init.2.1 139 = .ok (.newarray .int, 2) := by decide +kernel
theorem dX8_init_141 : decode mX8_init.2.1 141 = .ok (.putfield 55, 3) := by decide +kernel
theorem dX8_init_144 : decode mX8_init.2.1 144 = .ok (.aload_n 0, 1) := by decide +kernel
theorem dX8_init_145 : decode mX8_init.2.1 145 = .ok (.sipush 1600, 3) := by decide +kernel
theorem dX8_init_148 : decode mX8_init.2.1 148 = .ok (.newarray .int, 2) := by decide +kernel
theorem dX8_init_150 : decode mX8_init.2.1 150 = .ok (.putfield 58, 3) := by decide +kernel
theorem dX8_init_153 : decode mX8_init.2.1 153 = .ok (.aload_n 0, 1) := by decide +kernel
theorem dX8_init_154 : decode mX8_init.2.1 154 = .ok (.bipush 8, 2) := by decide +kernel
theorem dX8_init_156 : decode mX8_init.2.1 156 = .ok (.newarray .int, 2) := by decide +kernel
theorem dX8_init_158 : decode mX8_init.2.1 158 = .ok (.putfield 61, 3) := by decide +kernel
theorem dX8_init_161 : decode mX8_init.2.1 161 = .ok (.aload_n 0, 1) := by decide +kernel
theorem dX8_init_162 : decode mX8_init.2.1 162 = .ok (.ldc 64, 2) := by decide +kernel
theorem dX8_init_164 : decode mX8_init.2.1 164 = .ok (.newarray .boolean, 2) := by decide +kernel
theorem dX8_init_166 : decode mX8_init.2.1 166 = .ok (.putfield 65, 3) := by decide +kernel
theorem dX8_init_169 : decode mX8_init.2.1 169 = .ok (.aload_n 0, 1) := by decide +kernel
theorem dX8_init_170 : decode mX8_init.2.1 170 = .ok (.sipush 320, 3) := by decide +kernel
theorem dX8_init_173 : decode mX8_init.2.1 173 = .ok (.newarray .int, 2) := by decide +kernel
theorem dX8_init_175 : decode mX8_init.2.1 175 = .ok (.putfield 69, 3) := by decide +kernel
theorem dX8_init_178 : decode mX8_init.2.1 178 = .ok (.aload_n 0, 1) := by decide +kernel
theorem dX8_init_179 : decode mX8_init.2.1 179 = .ok (.bipush 60, 2) := by decide +kernel
theorem dX8_init_181 : decode mX8_init.2.1 181 = .ok (.newarray .int, 2) := by decide +kernel
theorem dX8_init_183 : decode mX8_init.2.1 183 = .ok (.putfield 72, 3) := by decide +kernel
theorem dX8_init_186 : decode mX8_init.2.1 186 = .ok (.aload_n 0, 1) := by decide +kernel
theorem dX8_init_187 : decode mX8_init.2.1 187 = .ok (.sipush 200, 3) := by decide +kernel
theorem dX8_init_190 : decode mX8_init.2.1 190 = .ok (.newarray .int, 2) := by decide +kernel
theorem dX8_init_192 : decode mX8_init.2.1 192 = .ok (.putfield 75, 3) := by decide +kernel
theorem dX8_init_195 : decode mX8_init.2.1 195 = .ok (.iconst 0, 1) := by decide +kernel
theorem dX8_init_196 : decode mX8_init.2.1 196 = .ok (.istore_n 1, 1) := by decide +kernel
theorem dX8_init_197 : decode mX8_init.2.1 197 = .ok (.iload_n 1, 1) := by decide +kernel
theorem dX8_init_198 : decode mX8_init.2.1 198 = .ok (.bipush 48, 2) := by decide +kernel
theorem dX8_init_200 : decode mX8_init.2.1 200 = .ok (.if_icmp .ge 16, 3) := by decide +kernel
theorem dX8_init_203 : decode mX8_init.2.1 203 = .ok (.aload_n 0, 1) := by decide +kernel
theorem dX8_init_204 : decode mX8_init.2.1 204 = .ok (.getfield 55, 3) := by decide +kernel
theorem dX8_init_207 : decode mX8_init.2.1 207 = .ok (.iload_n 1, 1) := by decide +kernel
theorem dX8_init_208 : decode mX8_init.2.1 208 = .ok (.iconst (-1), 1) := by decide +kernel
theorem dX8_init_209 : decode mX8_init.2.1 209 = .ok (.iastore, 1) := by decide +kernel
theorem dX8_init_210 : decode mX8_init.2.1 210 = .ok (.iinc 1 1, 3) := by decide +kernel
theorem dX8_init_213 : decode mX8_init.2.1 213 = .ok (.goto (-16), 3) := by decide +kernel
theorem dX8_init_216 : decode mX8_init.2.1 216 = .ok (.return_, 1) := by decide +kernel
theorem dX8_in_0 : decode mX8_in.2.1 0 = .ok (.iload_n 0, 1) := by decide +kernel
theorem dX8_in_1 : decode mX8_in.2.1 1 = .ok (.iload_n 1, 1) := by decide +kernel
theorem dX8_in_2 : decode mX8_in.2.1 2 = .ok (.if_icmp .lt 12, 3) := by decide +kernel
theorem dX8_in_5 : decode mX8_in.2.1 5 = .ok (.iload_n 0, 1) := by decide +kernel
theorem dX8_in_6 : decode mX8_in.2.1 6 = .ok (.iload_n 2, 1) := by decide +kernel
theorem dX8_in_7 : decode mX8_in.2.1 7 = .ok (.if_icmp .gt 7, 3) := by decide +kernel
theorem dX8_in_10 : decode mX8_in.2.1 10 = .ok (.iconst 1, 1) := by decide +kernel
theorem dX8_in_11 : decode mX8_in.2.1 11 = .ok (.goto 4, 3) := by decide +kernel
theorem dX8_in_14 : decode mX8_in.2.1 14 = .ok (.iconst 0, 1) := by decide +kernel
theorem dX8_in_15 : decode mX8_in.2.1 15 = .ok (.ireturn, 1) := by decide +kernel
theorem dX8_isMember_0 : decode mX8_isMember.2.1 0 = .ok (.iload_n 1, 1) := by decide +kernel
theorem dX8_isMember_1 : decode mX8_isMember.2.1 1 = .ok (.iconst 0, 1) := by decide +kernel
theorem dX8_isMember_2 : decode mX8_isMember.2.1 2 = .ok (.aload_n 0, 1) := by decide +kernel
theorem dX8_isMember_3 : decode mX8_isMember.2.1 3 = .ok (.getfield 78, 3) := by decide +kernel
theorem dX8_isMember_6 : decode mX8_isMember.2.1 6 = .ok (.iconst 1, 1) := by decide +kernel
theorem dX8_isMember_7 : decode mX8_isMember.2.1 7 = .ok (.isub, 1) := by decide +kernel
theorem dX8_isMember_8 : decode mX8_isMember.2.1 8 = .ok (.invokestatic 82, 3) := by decide +kernel
theorem dX8_isMember_11 : decode mX8_isMember.2.1 11 = .ok (.ireturn, 1) := by decide +kernel
theorem dX8_isCircle_0 : decode mX8_isCircle.2.1 0 = .ok (.iload_n 1, 1) := by decide +kernel
theorem dX8_isCircle_1 : decode mX8_isCircle.2.1 1 = .ok (.iconst 0, 1) := by decide +kernel
theorem dX8_isCircle_2 : decode mX8_isCircle.2.1 2 = .ok (.aload_n 0, 1) := by decide +kernel
theorem dX8_isCircle_3 : decode mX8_isCircle.2.1 3 = .ok (.getfield 86, 3) := by decide +kernel
theorem dX8_isCircle_6 : decode mX8_isCircle.2.1 6 = .ok (.iconst 1, 1) := by decide +kernel
theorem dX8_isCircle_7 : decode mX8_isCircle.2.1 7 = .ok (.isub, 1) := by decide +kernel
theorem dX8_isCircle_8 : decode mX8_isCircle.2.1 8 = .ok (.invokestatic 82, 3) := by decide +kernel
theorem dX8_isCircle_11 : decode mX8_isCircle.2.1 11 = .ok (.ireturn, 1) := by decide +kernel
theorem dX8_isLetter_0 : decode mX8_isLetter.2.1 0 = .ok (.iload_n 1, 1) := by decide +kernel
theorem dX8_isLetter_1 : decode mX8_isLetter.2.1 1 = .ok (.iconst 0, 1) := by decide +kernel
theorem dX8_isLetter_2 : decode mX8_isLetter.2.1 2 = .ok (.aload_n 0, 1) := by decide +kernel
theorem dX8_isLetter_3 : decode mX8_isLetter.2.1 3 = .ok (.getfield 89, 3) := by decide +kernel
theorem dX8_isLetter_6 : decode mX8_isLetter.2.1 6 = .ok (.iconst 1, 1) := by decide +kernel
theorem dX8_isLetter_7 : decode mX8_isLetter.2.1 7 = .ok (.isub, 1) := by decide +kernel
theorem dX8_isLetter_8 : decode mX8_isLetter.2.1 8 = .ok (.invokestatic 82, 3) := by decide +kernel
theorem dX8_isLetter_11 : decode mX8_isLetter.2.1 11 = .ok (.ireturn, 1) := by decide +kernel
theorem dX8_isIn_0 : decode mX8_isIn.2.1 0 = .ok (.aload_n 0, 1) := by decide +kernel
theorem dX8_isIn_1 : decode mX8_isIn.2.1 1 = .ok (.getfield 7, 3) := by decide +kernel
theorem dX8_isIn_4 : decode mX8_isIn.2.1 4 = .ok (.iload_n 2, 1) := by decide +kernel
theorem dX8_isIn_5 : decode mX8_isIn.2.1 5 = .ok (.iaload, 1) := by decide +kernel
theorem dX8_isIn_6 : decode mX8_isIn.2.1 6 = .ok (.iload_n 1, 1) := by decide +kernel
theorem dX8_isIn_7 : decode mX8_isIn.2.1 7 = .ok (.ishr, 1) := by decide +kernel
theorem dX8_isIn_8 : decode mX8_isIn.2.1 8 = .ok (.iconst 1, 1) := by decide +kernel
theorem dX8_isIn_9 : decode mX8_isIn.2.1 9 = .ok (.iand, 1) := by decide +kernel
theorem dX8_isIn_10 : decode mX8_isIn.2.1 10 = .ok (.iconst 1, 1) := by decide +kernel
theorem dX8_isIn_11 : decode mX8_isIn.2.1 11 = .ok (.if_icmp .ne 7, 3) := by decide +kernel
theorem dX8_isIn_14 : decode mX8_isIn.2.1 14 = .ok (.iconst 1, 1) := by decide +kernel
theorem dX8_isIn_15 : decode mX8_isIn.2.1 15 = .ok (.goto 4, 3) := by decide +kernel
theorem dX8_isIn_18 : decode mX8_isIn.2.1 18 = .ok (.iconst 0, 1) := by decide +kernel
theorem dX8_isIn_19 : decode mX8_isIn.2.1 19 = .ok (.ireturn, 1) := by decide +kernel
theorem dX8_eldest_0 : decode mX8_eldest.2.1 0 = .ok (.iconst 0, 1) := by decide +kernel
theorem dX8_eldest_1 : decode mX8_eldest.2.1 1 = .ok (.istore_n 2, 1) := by decide +kernel
theorem dX8_eldest_2 : decode mX8_eldest.2.1 2 = .ok (.aload_n 0, 1) := by decide +kernel
theorem dX8_eldest_3 : decode mX8_eldest.2.1 3 = .ok (.iload_n 2, 1) := by decide +kernel
theorem dX8_eldest_4 : decode mX8_eldest.2.1 4 = .ok (.iload_n 1, 1) := by decide +kernel
theorem dX8_eldest_5 : decode mX8_eldest.2.1 5 = .ok (.invokevirtual 92, 3) := by decide +kernel
theorem dX8_eldest_8 : decode mX8_eldest.2.1 8 = .ok (.ifCond .ne 9, 3) := by decide +kernel
theorem dX8_eldest_11 : decode mX8_eldest.2.1 11 = .ok (.iinc 2 1, 3) := by decide +kernel
theorem dX8_eldest_14 : decode mX8_eldest.2.1 14 = .ok (.goto (-12), 3) := by decide +kernel
theorem dX8_eldest_17 : decode mX8_eldest.2.1 17 = .ok (.iload_n 2, 1) := by decide +kernel
theorem dX8_eldest_18 : decode mX8_eldest.2.1 18 = .ok (.ireturn, 1) := by decide +kernel
theorem dX8_above_0 : decode mX8_above.2.1 0 = .ok (.iload_n 0, 1) := by decide +kernel
theorem dX8_above_1 : decode mX8_above.2.1 1 = .ok (.iconst 1, 1) := by decide +kernel
theorem dX8_above_2 : decode mX8_above.2.1 2 = .ok (.if_icmp .eq 8, 3) := by decide +kernel
theorem dX8_above_5 : decode mX8_above.2.1 5 = .ok (.iload_n 0, 1) := by decide +kernel
theorem dX8_above_6 : decode mX8_above.2.1 6 = .ok (.iconst 3, 1) := by decide +kernel
theorem dX8_above_7 : decode mX8_above.2.1 7 = .ok (.if_icmp .ne 7, 3) := by decide +kernel
theorem dX8_above_10 : decode mX8_above.2.1 10 = .ok (.iconst 0, 1) := by decide +kernel
theorem dX8_above_11 : decode mX8_above.2.1 11 = .ok (.goto 6, 3) := by decide +kernel
theorem dX8_above_14 : decode mX8_above.2.1 14 = .ok (.iload_n 0, 1) := by decide +kernel
theorem dX8_above_15 : decode mX8_above.2.1 15 = .ok (.iconst 1, 1) := by decide +kernel
theorem dX8_above_16 : decode mX8_above.2.1 16 = .ok (.isub, 1) := by decide +kernel
theorem dX8_above_17 : decode mX8_above.2.1 17 = .ok (.ireturn, 1) := by decide +kernel
theorem dX8_isOf_0 : decode mX8_isOf.2.1 0 = .ok (.iload_n 0, 1) := by decide +kernel
theorem dX8_isOf_1 : decode mX8_isOf.2.1 1 = .ok (.istore_n 2, 1) := by decide +kernel
theorem dX8_isOf_2 : decode mX8_isOf.2.1 2 = .ok (.iload_n 2, 1) := by decide +kernel
theorem dX8_isOf_3 : decode mX8_isOf.2.1 3 = .ok (.iload_n 1, 1) := by decide +kernel
theorem dX8_isOf_4 : decode mX8_isOf.2.1 4 = .ok (.if_icmp .eq 15, 3) := by decide +kernel
theorem dX8_isOf_7 : decode mX8_isOf.2.1 7 = .ok (.iload_n 2, 1) := by decide +kernel
theorem dX8_isOf_8 : decode mX8_isOf.2.1 8 = .ok (.ifCond .eq 11, 3) := by decide +kernel
theorem dX8_isOf_11 : decode mX8_isOf.2.1 11 = .ok (.iload_n 2, 1) := by decide +kernel
theorem dX8_isOf_12 : decode mX8_isOf.2.1 12 = .ok (.invokestatic 96, 3) := by decide +kernel
theorem dX8_isOf_15 : decode mX8_isOf.2.1 15 = .ok (.istore_n 2, 1) := by decide +kernel
theorem dX8_isOf_16 : decode mX8_isOf.2.1 16 = .ok (.goto (-14), 3) := by decide +kernel
theorem dX8_isOf_19 : decode mX8_isOf.2.1 19 = .ok (.iload_n 2, 1) := by decide +kernel
theorem dX8_isOf_20 : decode mX8_isOf.2.1 20 = .ok (.iload_n 1, 1) := by decide +kernel
theorem dX8_isOf_21 : decode mX8_isOf.2.1 21 = .ok (.if_icmp .ne 7, 3) := by decide +kernel
theorem dX8_isOf_24 : decode mX8_isOf.2.1 24 = .ok (.iconst 1, 1) := by decide +kernel
theorem dX8_isOf_25 : decode mX8_isOf.2.1 25 = .ok (.goto 4, 3) := by decide +kernel
theorem dX8_isOf_28 : decode mX8_isOf.2.1 28 = .ok (.iconst 0, 1) := by decide +kernel
theorem dX8_isOf_29 : decode mX8_isOf.2.1 29 = .ok (.ireturn, 1) := by decide +kernel
theorem dX8_refused_0 : decode mX8_refused.2.1 0 = .ok (.aload_n 0, 1) := by decide +kernel
theorem dX8_refused_1 : decode mX8_refused.2.1 1 = .ok (.iload_n 1, 1) := by decide +kernel
theorem dX8_refused_2 : decode mX8_refused.2.1 2 = .ok (.putfield 100, 3) := by decide +kernel
theorem dX8_refused_5 : decode mX8_refused.2.1 5 = .ok (.iconst (-1), 1) := by decide +kernel
theorem dX8_refused_6 : decode mX8_refused.2.1 6 = .ok (.ireturn, 1) := by decide +kernel
theorem dX8_done_0 : decode mX8_done.2.1 0 = .ok (.aload_n 0, 1) := by decide +kernel
theorem dX8_done_1 : decode mX8_done.2.1 1 = .ok (.iconst 0, 1) := by decide +kernel
theorem dX8_done_2 : decode mX8_done.2.1 2 = .ok (.putfield 100, 3) := by decide +kernel
theorem dX8_done_5 : decode mX8_done.2.1 5 = .ok (.iload_n 1, 1) := by decide +kernel
theorem dX8_done_6 : decode mX8_done.2.1 6 = .ok (.ireturn, 1) := by decide +kernel
theorem dX8_member_0 : decode mX8_member.2.1 0 = .ok (.aload_n 0, 1) := by decide +kernel
theorem dX8_member_1 : decode mX8_member.2.1 1 = .ok (.getfield 78, 3) := by decide +kernel
theorem dX8_member_4 : decode mX8_member.2.1 4 = .ok (.bipush 8, 2) := by decide +kernel
theorem dX8_member_6 : decode mX8_member.2.1 6 = .ok (.if_icmp .ne 9, 3) := by decide +kernel
theorem dX8_member_9 : decode mX8_member.2.1 9 = .ok (.aload_n 0, 1) := by decide +kernel
theorem dX8_member_10 : decode mX8_member.2.1 10 = .ok (.iconst 2, 1) := by decide +kernel
theorem dX8_member_11 : decode mX8_member.2.1 11 = .ok (.invokevirtual 103, 3) := by decide +kernel
theorem dX8_member_14 : decode mX8_member.2.1 14 = .ok (.ireturn, 1) := by decide +kernel
theorem dX8_member_15 : decode mX8_member.2.1 15 = .ok (.aload_n 0, 1) := by decide +kernel
theorem dX8_member_16 : decode mX8_member.2.1 16 = .ok (.dup, 1) := by decide +kernel
theorem dX8_member_17 : decode mX8_member.2.1 17 = .ok (.getfield 78, 3) := by decide +kernel
theorem dX8_member_20 : decode mX8_member.2.1 20 = .ok (.iconst 1, 1) := by decide +kernel
theorem dX8_member_21 : decode mX8_member.2.1 21 = .ok (.iadd, 1) := by decide +kernel
theorem dX8_member_22 : decode mX8_member.2.1 22 = .ok (.putfield 78, 3) := by decide +kernel
theorem dX8_member_25 : decode mX8_member.2.1 25 = .ok (.aload_n 0, 1) := by decide +kernel
theorem dX8_member_26 : decode mX8_member.2.1 26 = .ok (.aload_n 0, 1) := by decide +kernel
theorem dX8_member_27 : decode mX8_member.2.1 27 = .ok (.getfield 78, 3) := by decide +kernel
theorem dX8_member_30 : decode mX8_member.2.1 30 = .ok (.iconst 1, 1) := by decide +kernel
theorem dX8_member_31 : decode mX8_member.2.1 31 = .ok (.isub, 1) := by decide +kernel
theorem dX8_member_32 : decode mX8_member.2.1 32 = .ok (.invokevirtual 106, 3) := by decide +kernel
theorem dX8_member_35 : decode mX8_member.2.1 35 = .ok (.ireturn, 1) := by decide +kernel
theorem dX8_circle_0 : decode mX8_circle.2.1 0 = .ok (.iconst 0, 1) := by decide +kernel
theorem dX8_circle_1 : decode mX8_circle.2.1 1 = .ok (.istore_n 2, 1) := by decide +kernel
theorem dX8_circle_2 : decode mX8_circle.2.1 2 = .ok (.iconst 0, 1) := by decide +kernel
theorem dX8_circle_3 : decode mX8_circle.2.1 3 = .ok (.istore_n 3, 1) := by decide +kernel
theorem dX8_circle_4 : decode mX8_circle.2.1 4 = .ok (.iload_n 3, 1) := by decide +kernel
theorem dX8_circle_5 : decode mX8_circle.2.1 5 = .ok (.aload_n 0, 1) := by decide +kernel
theorem dX8_circle_6 : decode mX8_circle.2.1 6 = .ok (.getfield 78, 3) := by decide +kernel
theorem dX8_circle_9 : decode mX8_circle.2.1 9 = .ok (.if_icmp .ge 17, 3) := by decide +kernel
theorem dX8_circle_12 : decode mX8_circle.2.1 12 = .ok (.iload_n 2, 1) := by decide +kernel
theorem dX8_circle_13 : decode mX8_circle.2.1 13 = .ok (.iload_n 1, 1) := by decide +kernel
theorem dX8_circle_14 : decode mX8_circle.2.1 14 = .ok (.iload_n 3, 1) := by decide +kernel
theorem dX8_circle_15 : decode mX8_circle.2.1 15 = .ok (.ishr, 1) := by decide +kernel
theorem dX8_circle_16 : decode mX8_circle.2.1 16 = .ok (.iconst 1, 1) := by decide +kernel
theorem dX8_circle_17 : decode mX8_circle.2.1 17 = .ok (.iand, 1) := by decide +kernel
theorem dX8_circle_18 : decode mX8_circle.2.1 18 = .ok (.iadd, 1) := by decide +kernel
theorem dX8_circle_19 : decode mX8_circle.2.1 19 = .ok (.istore_n 2, 1) := by decide +kernel
theorem dX8_circle_20 : decode mX8_circle.2.1 20 = .ok (.iinc 3 1, 3) := by decide +kernel
theorem dX8_circle_23 : decode mX8_circle.2.1 23 = .ok (.goto (-19), 3) := by decide +kernel
theorem dX8_circle_26 : decode mX8_circle.2.1 26 = .ok (.iload_n 2, 1) := by decide +kernel
theorem dX8_circle_27 : decode mX8_circle.2.1 27 = .ok (.iconst 2, 1) := by decide +kernel
theorem dX8_circle_28 : decode mX8_circle.2.1 28 = .ok (.if_icmp .lt 16, 3) := by decide +kernel
theorem dX8_circle_31 : decode mX8_circle.2.1 31 = .ok (.iload_n 1, 1) := by decide +kernel
theorem dX8_circle_32 : decode mX8_circle.2.1 32 = .ok (.ifCond .lt 12, 3) := by decide +kernel
theorem dX8_circle_35 : decode mX8_circle.2.1 35 = .ok (.iload_n 1, 1) := by decide +kernel
theorem dX8_circle_36 : decode mX8_circle.2.1 36 = .ok (.aload_n 0, 1) := by decide +kernel
theorem dX8_circle_37 : decode mX8_circle.2.1 37 = .ok (.getfield 78, 3) := by decide +kernel
theorem dX8_circle_40 : decode mX8_circle.2.1 40 = .ok (.ishr, 1) := by decide +kernel
theorem dX8_circle_41 : decode mX8_circle.2.1 41 = .ok (.ifCond .eq 9, 3) := by decide +kernel
theorem dX8_circle_44 : decode mX8_circle.2.1 44 = .ok (.aload_n 0, 1) := by decide +kernel
theorem dX8_circle_45 : decode mX8_circle.2.1 45 = .ok (.iconst 1, 1) := by decide +kernel
theorem dX8_circle_46 : decode mX8_circle.2.1 46 = .ok (.invokevirtual 103, 3) := by decide +kernel
theorem dX8_circle_49 : decode mX8_circle.2.1 49 = .ok (.ireturn, 1) := by decide +kernel
theorem dX8_circle_50 : decode mX8_circle.2.1 50 = .ok (.aload_n 0, 1) := by decide +kernel
theorem dX8_circle_51 : decode mX8_circle.2.1 51 = .ok (.getfield 86, 3) := by decide +kernel
theorem dX8_circle_54 : decode mX8_circle.2.1 54 = .ok (.bipush 6, 2) := by decide +kernel
theorem dX8_circle_56 : decode mX8_circle.2.1 56 = .ok (.if_icmp .ne 9, 3) := by decide +kernel
theorem dX8_circle_59 : decode mX8_circle.2.1 59 = .ok (.aload_n 0, 1) := by decide +kernel
theorem dX8_circle_60 : decode mX8_circle.2.1 60 = .ok (.iconst 2, 1) := by decide +kernel
theorem dX8_circle_61 : decode mX8_circle.2.1 61 = .ok (.invokevirtual 103, 3) := by decide +kernel
theorem dX8_circle_64 : decode mX8_circle.2.1 64 = .ok (.ireturn, 1) := by decide +kernel
theorem dX8_circle_65 : decode mX8_circle.2.1 65 = .ok (.aload_n 0, 1) := by decide +kernel
theorem dX8_circle_66 : decode mX8_circle.2.1 66 = .ok (.getfield 7, 3) := by decide +kernel
theorem dX8_circle_69 : decode mX8_circle.2.1 69 = .ok (.aload_n 0, 1) := by decide +kernel
theorem dX8_circle_70 : decode mX8_circle.2.1 70 = .ok (.getfield 86, 3) := by decide +kernel
theorem dX8_circle_73 : decode mX8_circle.2.1 73 = .ok (.iload_n 1, 1) := by decide +kernel
theorem dX8_circle_74 : decode mX8_circle.2.1 74 = .ok (.iastore, 1) := by decide +kernel
theorem dX8_circle_75 : decode mX8_circle.2.1 75 = .ok (.aload_n 0, 1) := by decide +kernel
theorem dX8_circle_76 : decode mX8_circle.2.1 76 = .ok (.dup, 1) := by decide +kernel
theorem dX8_circle_77 : decode mX8_circle.2.1 77 = .ok (.getfield 86, 3) := by decide +kernel
theorem dX8_circle_80 : decode mX8_circle.2.1 80 = .ok (.iconst 1, 1) := by decide +kernel
theorem dX8_circle_81 : decode mX8_circle.2.1 81 = .ok (.iadd, 1) := by decide +kernel
theorem dX8_circle_82 : decode mX8_circle.2.1 82 = .ok (.putfield 86, 3) := by decide +kernel
theorem dX8_circle_85 : decode mX8_circle.2.1 85 = .ok (.aload_n 0, 1) := by decide +kernel
theorem dX8_circle_86 : decode mX8_circle.2.1 86 = .ok (.aload_n 0, 1) := by decide +kernel
theorem dX8_circle_87 : decode mX8_circle.2.1 87 = .ok (.getfield 86, 3) := by decide +kernel
theorem dX8_circle_90 : decode mX8_circle.2.1 90 = .ok (.iconst 1, 1) := by decide +kernel
theorem dX8_circle_91 : decode mX8_circle.2.1 91 = .ok (.isub, 1) := by decide +kernel
theorem dX8_circle_92 : decode mX8_circle.2.1 92 = .ok (.invokevirtual 106, 3) := by decide +kernel
theorem dX8_circle_95 : decode mX8_circle.2.1 95 = .ok (.ireturn, 1) := by decide +kernel
theorem dX8_made_0 : decode mX8_made.2.1 0 = .ok (.aload_n 0, 1) := by decide +kernel
theorem dX8_made_1 : decode mX8_made.2.1 1 = .ok (.getfield 89, 3) := by decide +kernel
theorem dX8_made_4 : decode mX8_made.2.1 4 = .ok (.istore 5, 2) := by decide +kernel
theorem dX8_made_6 : decode mX8_made.2.1 6 = .ok (.aload_n 0, 1) := by decide +kernel
theorem dX8_made_7 : decode mX8_made.2.1 7 = .ok (.dup, 1) := by decide +kernel
theorem dX8_made_8 : decode mX8_made.2.1 8 = .ok (.getfield 89, 3) := by decide +kernel
theorem dX8_made_11 : decode mX8_made.2.1 11 = .ok (.iconst 1, 1) := by decide +kernel
theorem dX8_made_12 : decode mX8_made.2.1 12 = .ok (.iadd, 1) := by decide +kernel
theorem dX8_made_13 : decode mX8_made.2.1 13 = .ok (.putfield 89, 3) := by decide +kernel
theorem dX8_made_16 : decode mX8_made.2.1 16 = .ok (.aload_n 0, 1) := by decide +kernel
theorem dX8_made_17 : decode mX8_made.2.1 17 = .ok (.getfield 16, 3) := by decide +kernel
theorem dX8_made_20 : decode mX8_made.2.1 20 = .ok (.iload 5, 2) := by decide +kernel
theorem dX8_made_22 : decode mX8_made.2.1 22 = .ok (.iload_n 1, 1) := by decide +kernel
theorem dX8_made_23 : decode mX8_made.2.1 23 = .ok (.iastore, 1) := by decide +kernel
theorem dX8_made_24 : decode mX8_made.2.1 24 = .ok (.aload_n 0, 1) := by decide +kernel
theorem dX8_made_25 : decode mX8_made.2.1 25 = .ok (.getfield 19, 3) := by decide +kernel
theorem dX8_made_28 : decode mX8_made.2.1 28 = .ok (.iload 5, 2) := by decide +kernel
theorem dX8_made_30 : decode mX8_made.2.1 30 = .ok (.iload_n 3, 1) := by decide +kernel
theorem dX8_made_31 : decode mX8_made.2.1 31 = .ok (.iastore, 1) := by decide +kernel
theorem dX8_made_32 : decode mX8_made.2.1 32 = .ok (.aload_n 0, 1) := by decide +kernel
theorem dX8_made_33 : decode mX8_made.2.1 33 = .ok (.getfield 22, 3) := by decide +kernel
theorem dX8_made_36 : decode mX8_made.2.1 36 = .ok (.iload 5, 2) := by decide +kernel
theorem dX8_made_38 : decode mX8_made.2.1 38 = .ok (.iload_n 2, 1) := by decide +kernel
theorem dX8_made_39 : decode mX8_made.2.1 39 = .ok (.iastore, 1) := by decide +kernel
theorem dX8_made_40 : decode mX8_made.2.1 40 = .ok (.aload_n 0, 1) := by decide +kernel
theorem dX8_made_41 : decode mX8_made.2.1 41 = .ok (.getfield 28, 3) := by decide +kernel
theorem dX8_made_44 : decode mX8_made.2.1 44 = .ok (.iload 5, 2) := by decide +kernel
theorem dX8_made_46 : decode mX8_made.2.1 46 = .ok (.iload 4, 2) := by decide +kernel
theorem dX8_made_48 : decode mX8_made.2.1 48 = .ok (.iastore, 1) := by decide +kernel
theorem dX8_made_49 : decode mX8_made.2.1 49 = .ok (.aload_n 0, 1) := by decide +kernel
theorem dX8_made_50 : decode mX8_made.2.1 50 = .ok (.getfield 31, 3) := by decide +kernel
theorem dX8_made_53 : decode mX8_made.2.1 53 = .ok (.iload 5, 2) := by decide +kernel
theorem dX8_made_55 : decode mX8_made.2.1 55 = .ok (.iconst (-1), 1) := by decide +kernel
theorem dX8_made_56 : decode mX8_made.2.1 56 = .ok (.iastore, 1) := by decide +kernel
theorem dX8_made_57 : decode mX8_made.2.1 57 = .ok (.aload_n 0, 1) := by decide +kernel
theorem dX8_made_58 : decode mX8_made.2.1 58 = .ok (.getfield 34, 3) := by decide +kernel
theorem dX8_made_61 : decode mX8_made.2.1 61 = .ok (.iload 5, 2) := by decide +kernel
theorem dX8_made_63 : decode mX8_made.2.1 63 = .ok (.iconst (-1), 1) := by decide +kernel
theorem dX8_made_64 : decode mX8_made.2.1 64 = .ok (.iastore, 1) := by decide +kernel
theorem dX8_made_65 : decode mX8_made.2.1 65 = .ok (.aload_n 0, 1) := by decide +kernel
theorem dX8_made_66 : decode mX8_made.2.1 66 = .ok (.getfield 52, 3) := by decide +kernel
theorem dX8_made_69 : decode mX8_made.2.1 69 = .ok (.bipush 6, 2) := by decide +kernel
theorem dX8_made_71 : decode mX8_made.2.1 71 = .ok (.iload_n 2, 1) := by decide +kernel
theorem dX8_made_72 : decode mX8_made.2.1 72 = .ok (.imul, 1) := by decide +kernel
theorem dX8_made_73 : decode mX8_made.2.1 73 = .ok (.iload_n 3, 1) := by decide +kernel
theorem dX8_made_74 : decode mX8_made.2.1 74 = .ok (.iadd, 1) := by decide +kernel
theorem dX8_made_75 : decode mX8_made.2.1 75 = .ok (.dup2, 1) := by decide +kernel
theorem dX8_made_76 : decode mX8_made.2.1 76 = .ok (.iaload, 1) := by decide +kernel
theorem dX8_made_77 : decode mX8_made.2.1 77 = .ok (.iconst 1, 1) := by decide +kernel
theorem dX8_made_78 : decode mX8_made.2.1 78 = .ok (.iadd, 1) := by decide +kernel
theorem dX8_made_79 : decode mX8_made.2.1 79 = .ok (.iastore, 1) := by decide +kernel
theorem dX8_made_80 : decode mX8_made.2.1 80 = .ok (.aload_n 0, 1) := by decide +kernel
theorem dX8_made_81 : decode mX8_made.2.1 81 = .ok (.getfield 25, 3) := by decide +kernel
theorem dX8_made_84 : decode mX8_made.2.1 84 = .ok (.iload 5, 2) := by decide +kernel
theorem dX8_made_86 : decode mX8_made.2.1 86 = .ok (.aload_n 0, 1) := by decide +kernel
theorem dX8_made_87 : decode mX8_made.2.1 87 = .ok (.getfield 52, 3) := by decide +kernel
theorem dX8_made_90 : decode mX8_made.2.1 90 = .ok (.bipush 6, 2) := by decide +kernel
theorem dX8_made_92 : decode mX8_made.2.1 92 = .ok (.iload_n 2, 1) := by decide +kernel
theorem dX8_made_93 : decode mX8_made.2.1 93 = .ok (.imul, 1) := by decide +kernel
theorem dX8_made_94 : decode mX8_made.2.1 94 = .ok (.iload_n 3, 1) := by decide +kernel
theorem dX8_made_95 : decode mX8_made.2.1 95 = .ok (.iadd, 1) := by decide +kernel
theorem dX8_made_96 : decode mX8_made.2.1 96 = .ok (.iaload, 1) := by decide +kernel
theorem dX8_made_97 : decode mX8_made.2.1 97 = .ok (.iastore, 1) := by decide +kernel
theorem dX8_made_98 : decode mX8_made.2.1 98 = .ok (.aload_n 0, 1) := by decide +kernel
theorem dX8_made_99 : decode mX8_made.2.1 99 = .ok (.getfield 40, 3) := by decide +kernel
theorem dX8_made_102 : decode mX8_made.2.1 102 = .ok (.iload 5, 2) := by decide +kernel
theorem dX8_made_104 : decode mX8_made.2.1 104 = .ok (.iconst 0, 1) := by decide +kernel
theorem dX8_made_105 : decode mX8_made.2.1 105 = .ok (.iastore, 1) := by decide +kernel
theorem dX8_made_106 : decode mX8_made.2.1 106 = .ok (.iconst 0, 1) := by decide +kernel
theorem dX8_made_107 : decode mX8_made.2.1 107 = .ok (.istore 6, 2) := by decide +kernel
theorem dX8_made_109 : decode mX8_made.2.1 109 = .ok (.iload 6, 2) := by decide +kernel
theorem dX8_made_111 : decode mX8_made.2.1 111 = .ok (.aload_n 0, 1) := by decide +kernel
theorem dX8_made_112 : decode mX8_made.2.1 112 = .ok (.getfield 86, 3) := by decide +kernel
theorem dX8_made_115 : decode mX8_made.2.1 115 = .ok (.if_icmp .ge 114, 3) := by decide +kernel
theorem dX8_made_118 : decode mX8_made.2.1 118 = .ok (.aload_n 0, 1) := by decide +kernel
theorem dX8_made_119 : decode mX8_made.2.1 119 = .ok (.iload_n 2, 1) := by decide +kernel
theorem dX8_made_120 : decode mX8_made.2.1 120 = .ok (.iload 6, 2) := by decide +kernel
theorem dX8_made_122 : decode mX8_made.2.1 122 = .ok (.invokevirtual 92, 3) := by decide +kernel
theorem dX8_made_125 : decode mX8_made.2.1 125 = .ok (.istore 7, 2) := by decide +kernel
theorem dX8_made_127 : decode mX8_made.2.1 127 = .ok (.aload_n 0, 1) := by decide +kernel
theorem dX8_made_128 : decode mX8_made.2.1 128 = .ok (.getfield 40, 3) := by decide +kernel
theorem dX8_made_131 : decode mX8_made.2.1 131 = .ok (.iload 5, 2) := by decide +kernel
theorem dX8_made_133 : decode mX8_made.2.1 133 = .ok (.dup2, 1) := by decide +kernel
theorem dX8_made_134 : decode mX8_made.2.1 134 = .ok (.iaload, 1) := by decide +kernel
theorem dX8_made_135 : decode mX8_made.2.1 135 = .ok (.iload 7, 2) := by decide +kernel
theorem dX8_made_137 : decode mX8_made.2.1 137 = .ok (.ifCond .eq 10, 3) := by decide +kernel
theorem dX8_made_140 : decode mX8_made.2.1 140 = .ok (.iconst 1, 1) := by decide +kernel
theorem dX8_made_141 : decode mX8_made.2.1 141 = .ok (.iload 6, 2) := by decide +kernel
theorem dX8_made_143 : decode mX8_made.2.1 143 = .ok (.ishl, 1) := by decide +kernel
theorem dX8_made_144 : decode mX8_made.2.1 144 = .ok (.goto 4, 3) := by decide +kernel
theorem dX8_made_147 : decode mX8_made.2.1 147 = .ok (.iconst 0, 1) := by decide +kernel
theorem dX8_made_148 : decode mX8_made.2.1 148 = .ok (.ior, 1) := by decide +kernel
theorem dX8_made_149 : decode mX8_made.2.1 149 = .ok (.iastore, 1) := by decide +kernel
theorem dX8_made_150 : decode mX8_made.2.1 150 = .ok (.iconst 0, 1) := by decide +kernel
theorem dX8_made_151 : decode mX8_made.2.1 151 = .ok (.istore 8, 2) := by decide +kernel
theorem dX8_made_153 : decode mX8_made.2.1 153 = .ok (.iload 8, 2) := by decide +kernel
theorem dX8_made_155 : decode mX8_made.2.1 155 = .ok (.bipush 8, 2) := by decide +kernel
theorem dX8_made_157 : decode mX8_made.2.1 157 = .ok (.if_icmp .ge 66, 3) := by decide +kernel
theorem dX8_made_160 : decode mX8_made.2.1 160 = .ok (.aload_n 0, 1) := by decide +kernel
theorem dX8_made_161 : decode mX8_made.2.1 161 = .ok (.getfield 43, 3) := by decide +kernel
theorem dX8_made_164 : decode mX8_made.2.1 164 = .ok (.bipush 48, 2) := by decide +kernel
theorem dX8_made_166 : decode mX8_made.2.1 166 = .ok (.iload 5, 2) := by decide +kernel
theorem dX8_made_168 : decode mX8_made.2.1 168 = .ok (.imul, 1) := by decide +kernel
theorem dX8_made_169 : decode mX8_made.2.1 169 = .ok (.bipush 8, 2) := by decide +kernel
theorem dX8_made_171 : decode mX8_made.2.1 171 = .ok (.iload 6, 2) := by decide +kernel
theorem dX8_made_173 : decode mX8_made.2.1 173 = .ok (.imul, 1) := by decide +kernel
theorem dX8_made_174 : decode mX8_made.2.1 174 = .ok (.iadd, 1) := by decide +kernel
theorem dX8_made_175 : decode mX8_made.2.1 175 = .ok (.iload 8, 2) := by decide +kernel
theorem dX8_made_177 : decode mX8_made.2.1 177 = .ok (.iadd, 1) := by decide +kernel
theorem dX8_made_178 : decode mX8_made.2.1 178 = .ok (.iload 7, 2) := by decide +kernel
theorem dX8_made_180 : decode mX8_made.2.1 180 = .ok (.ifCond .eq 35, 3) := by decide +kernel
theorem dX8_made_183 : decode mX8_made.2.1 183 = .ok (.aload_n 0, 1) := by decide +kernel
theorem dX8_made_184 : decode mX8_made.2.1 184 = .ok (.iload 8, 2) := by decide +kernel
theorem dX8_made_186 : decode mX8_made.2.1 186 = .ok (.iload 6, 2) := by decide +kernel
theorem dX8_made_188 : decode mX8_made.2.1 188 = .ok (.invokevirtual 92, 3) := by decide +kernel
theorem dX8_made_191 : decode mX8_made.2.1 191 = .ok (.ifCond .eq 24, 3) := by decide +kernel
theorem dX8_made_194 : decode mX8_made.2.1 194 = .ok (.aload_n 0, 1) := by decide +kernel
theorem dX8_made_195 : decode mX8_made.2.1 195 = .ok (.getfield 49, 3) := by decide +kernel
theorem dX8_made_198 : decode mX8_made.2.1 198 = .ok (.bipush 48, 2) := by decide +kernel
theorem dX8_made_200 : decode mX8_made.2.1 200 = .ok (.iload_n 2, 1) := by decide +kernel
theorem dX8_made_201 : decode mX8_made.2.1 201 = .ok (.imul, 1) := by decide +kernel
theorem dX8_made_202 : decode mX8_made.2.1 202 = .ok (.bipush 8, 2) := by decide +kernel
theorem dX8_made_204 : decode mX8_made.2.1 204 = .ok (.iload 6, 2) := by decide +kernel
theorem dX8_made_206 : decode mX8_made.2.1 206 = .ok (.imul, 1) := by decide +kernel
theorem dX8_made_207 : decode mX8_made.2.1 207 = .ok (.iadd, 1) := by decide +kernel
theorem dX8_made_208 : decode mX8_made.2.1 208 = .ok (.iload 8, 2) := by decide +kernel
theorem dX8_made_210 : decode mX8_made.2.1 210 = .ok (.iadd, 1) := by decide +kernel
theorem dX8_made_211 : decode mX8_made.2.1 211 = .ok (.iaload, 1) := by decide +kernel
theorem dX8_made_212 : decode mX8_made.2.1 212 = .ok (.goto 4, 3) := by decide +kernel
theorem dX8_made_215 : decode mX8_made.2.1 215 = .ok (.iconst 0, 1) := by decide +kernel
theorem dX8_made_216 : decode mX8_made.2.1 216 = .ok (.iastore, 1) := by decide +kernel
theorem dX8_made_217 : decode mX8_made.2.1 217 = .ok (.iinc 8 1, 3) := by decide +kernel
theorem dX8_made_220 : decode mX8_made.2.1 220 = .ok (.goto (-67), 3) := by decide +kernel
theorem dX8_made_223 : decode mX8_made.2.1 223 = .ok (.iinc 6 1, 3) := by decide +kernel
theorem dX8_made_226 : decode mX8_made.2.1 226 = .ok (.goto (-117), 3) := by decide +kernel
theorem dX8_made_229 : decode mX8_made.2.1 229 = .ok (.iconst 0, 1) := by decide +kernel
theorem dX8_made_230 : decode mX8_made.2.1 230 = .ok (.istore 6, 2) := by decide +kernel
theorem dX8_made_232 : decode mX8_made.2.1 232 = .ok (.iload 6, 2) := by decide +kernel
theorem dX8_made_234 : decode mX8_made.2.1 234 = .ok (.iload 5, 2) := by decide +kernel
theorem dX8_made_236 : decode mX8_made.2.1 236 = .ok (.if_icmp .ge 121, 3) := by decide +kernel
theorem dX8_made_239 : decode mX8_made.2.1 239 = .ok (.aload_n 0, 1) := by decide +kernel
theorem dX8_made_240 : decode mX8_made.2.1 240 = .ok (.getfield 22, 3) := by decide +kernel
theorem dX8_made_243 : decode mX8_made.2.1 243 = .ok (.iload 6, 2) := by decide +kernel
theorem dX8_made_245 : decode mX8_made.2.1 245 = .ok (.iaload, 1) := by decide +kernel
theorem dX8_made_246 : decode mX8_made.2.1 246 = .ok (.iload_n 2, 1) := by decide +kernel
theorem dX8_made_247 : decode mX8_made.2.1 247 = .ok (.if_icmp .eq 20, 3) := by decide +kernel
theorem dX8_made_250 : decode mX8_made.2.1 250 = .ok (.aload_n 0, 1) := by decide +kernel
theorem dX8_made_251 : decode mX8_made.2.1 251 = .ok (.getfield 46, 3) := by decide +kernel
theorem dX8_made_254 : decode mX8_made.2.1 254 = .ok (.sipush 200, 3) := by decide +kernel
theorem dX8_made_257 : decode mX8_made.2.1 257 = .ok (.iload_n 2, 1) := by decide +kernel
theorem dX8_made_258 : decode mX8_made.2.1 258 = .ok (.imul, 1) := by decide +kernel
theorem dX8_made_259 : decode mX8_made.2.1 259 = .ok (.iload 6, 2) := by decide +kernel
theorem dX8_made_261 : decode mX8_made.2.1 261 = .ok (.iadd, 1) := by decide +kernel
theorem dX8_made_262 : decode mX8_made.2.1 262 = .ok (.iaload, 1) := by decide +kernel
theorem dX8_made_263 : decode mX8_made.2.1 263 = .ok (.iconst 3, 1) := by decide +kernel
theorem dX8_made_264 : decode mX8_made.2.1 264 = .ok (.if_icmp .ne 87, 3) := by decide +kernel
theorem dX8_made_267 : decode mX8_made.2.1 267 = .ok (.aload_n 0, 1) := by decide +kernel
theorem dX8_made_268 : decode mX8_made.2.1 268 = .ok (.getfield 65, 3) := by decide +kernel
theorem dX8_made_271 : decode mX8_made.2.1 271 = .ok (.sipush 200, 3) := by decide +kernel
theorem dX8_made_274 : decode mX8_made.2.1 274 = .ok (.iload 5, 2) := by decide +kernel
theorem dX8_made_276 : decode mX8_made.2.1 276 = .ok (.imul, 1) := by decide +kernel
theorem dX8_made_277 : decode mX8_made.2.1 277 = .ok (.iload 6, 2) := by decide +kernel
theorem dX8_made_279 : decode mX8_made.2.1 279 = .ok (.iadd, 1) := by decide +kernel
theorem dX8_made_280 : decode mX8_made.2.1 280 = .ok (.iconst 1, 1) := by decide +kernel
theorem dX8_made_281 : decode mX8_made.2.1 281 = .ok (.bastore, 1) := by decide +kernel
theorem dX8_made_282 : decode mX8_made.2.1 282 = .ok (.iconst 0, 1) := by decide +kernel
theorem dX8_made_283 : decode mX8_made.2.1 283 = .ok (.istore 7, 2) := by decide +kernel
theorem dX8_made_285 : decode mX8_made.2.1 285 = .ok (.iload 7, 2) := by decide +kernel
theorem dX8_made_287 : decode mX8_made.2.1 287 = .ok (.iload 6, 2) := by decide +kernel
theorem dX8_made_289 : decode mX8_made.2.1 289 = .ok (.if_icmp .ge 62, 3) := by decide +kernel
theorem dX8_made_292 : decode mX8_made.2.1 292 = .ok (.aload_n 0, 1) := by decide +kernel
theorem dX8_made_293 : decode mX8_made.2.1 293 = .ok (.getfield 65, 3) := by decide +kernel
theorem dX8_made_296 : decode mX8_made.2.1 296 = .ok (.sipush 200, 3) := by decide +kernel
theorem dX8_made_299 : decode mX8_made.2.1 299 = .ok (.iload 5, 2) := by decide +kernel
theorem dX8_made_301 : decode mX8_made.2.1 301 = .ok (.imul, 1) := by decide +kernel
theorem dX8_made_302 : decode mX8_made.2.1 302 = .ok (.iload 7, 2) := by decide +kernel
theorem dX8_made_304 : decode mX8_made.2.1 304 = .ok (.iadd, 1) := by decide +kernel
theorem dX8_made_305 : decode mX8_made.2.1 305 = .ok (.aload_n 0, 1) := by decide +kernel
theorem dX8_made_306 : decode mX8_made.2.1 306 = .ok (.getfield 65, 3) := by decide +kernel
theorem dX8_made_309 : decode mX8_made.2.1 309 = .ok (.sipush 200, 3) := by decide +kernel
theorem dX8_made_312 : decode mX8_made.2.1 312 = .ok (.iload 5, 2) := by decide +kernel
theorem dX8_made_314 : decode mX8_made.2.1 314 = .ok (.imul, 1) := by decide +kernel
theorem dX8_made_315 : decode mX8_made.2.1 315 = .ok (.iload 7, 2) := by decide +kernel
theorem dX8_made_317 : decode mX8_made.2.1 317 = .ok (.iadd, 1) := by decide +kernel
theorem dX8_made_318 : decode mX8_made.2.1 318 = .ok (.baload, 1) := by decide +kernel
theorem dX8_made_319 : decode mX8_made.2.1 319 = .ok (.ifCond .ne 20, 3) := by decide +kernel
theorem dX8_made_322 : decode mX8_made.2.1 322 = .ok (.aload_n 0, 1) := by decide +kernel
theorem dX8_made_323 : decode mX8_made.2.1 323 = .ok (.getfield 65, 3) := by decide +kernel
theorem dX8_made_326 : decode mX8_made.2.1 326 = .ok (.sipush 200, 3) := by decide +kernel
theorem dX8_made_329 : decode mX8_made.2.1 329 = .ok (.iload 6, 2) := by decide +kernel
theorem dX8_made_331 : decode mX8_made.2.1 331 = .ok (.imul, 1) := by decide +kernel
theorem dX8_made_332 : decode mX8_made.2.1 332 = .ok (.iload 7, 2) := by decide +kernel
theorem dX8_made_334 : decode mX8_made.2.1 334 = .ok (.iadd, 1) := by decide +kernel
theorem dX8_made_335 : decode mX8_made.2.1 335 = .ok (.baload, 1) := by decide +kernel
theorem dX8_made_336 : decode mX8_made.2.1 336 = .ok (.ifCond .eq 7, 3) := by decide +kernel
theorem dX8_made_339 : decode mX8_made.2.1 339 = .ok (.iconst 1, 1) := by decide +kernel
theorem dX8_made_340 : decode mX8_made.2.1 340 = .ok (.goto 4, 3) := by decide +kernel
theorem dX8_made_343 : decode mX8_made.2.1 343 = .ok (.iconst 0, 1) := by decide +kernel
theorem dX8_made_344 : decode mX8_made.2.1 344 = .ok (.bastore, 1) := by decide +kernel
theorem dX8_made_345 : decode mX8_made.2.1 345 = .ok (.iinc 7 1, 3) := by decide +kernel
theorem dX8_made_348 : decode mX8_made.2.1 348 = .ok (.goto (-63), 3) := by decide +kernel
theorem dX8_made_351 : decode mX8_made.2.1 351 = .ok (.iinc 6 1, 3) := by decide +kernel
theorem dX8_made_354 : decode mX8_made.2.1 354 = .ok (.goto (-122), 3) := by decide +kernel
theorem dX8_made_357 : decode mX8_made.2.1 357 = .ok (.iload 5, 2) := by decide +kernel
theorem dX8_made_359 : decode mX8_made.2.1 359 = .ok (.ireturn, 1) := by decide +kernel
theorem dX8_goes_0 : decode mX8_goes.2.1 0 = .ok (.aload_n 0, 1) := by decide +kernel
theorem dX8_goes_1 : decode mX8_goes.2.1 1 = .ok (.getfield 19, 3) := by decide +kernel
theorem dX8_goes_4 : decode mX8_goes.2.1 4 = .ok (.iload_n 1, 1) := by decide +kernel
theorem dX8_goes_5 : decode mX8_goes.2.1 5 = .ok (.iaload, 1) := by decide +kernel
theorem dX8_goes_6 : decode mX8_goes.2.1 6 = .ok (.istore_n 2, 1) := by decide +kernel
theorem dX8_goes_7 : decode mX8_goes.2.1 7 = .ok (.iconst 0, 1) := by decide +kernel
theorem dX8_goes_8 : decode mX8_goes.2.1 8 = .ok (.istore_n 3, 1) := by decide +kernel
theorem dX8_goes_9 : decode mX8_goes.2.1 9 = .ok (.iload_n 3, 1) := by decide +kernel
theorem dX8_goes_10 : decode mX8_goes.2.1 10 = .ok (.aload_n 0, 1) := by decide +kernel
theorem dX8_goes_11 : decode mX8_goes.2.1 11 = .ok (.getfield 78, 3) := by decide +kernel
theorem dX8_goes_14 : decode mX8_goes.2.1 14 = .ok (.if_icmp .ge 41, 3) := by decide +kernel
theorem dX8_goes_17 : decode mX8_goes.2.1 17 = .ok (.aload_n 0, 1) := by decide +kernel
theorem dX8_goes_18 : decode mX8_goes.2.1 18 = .ok (.iload_n 3, 1) := by decide +kernel
theorem dX8_goes_19 : decode mX8_goes.2.1 19 = .ok (.iload_n 2, 1) := by decide +kernel
theorem dX8_goes_20 : decode mX8_goes.2.1 20 = .ok (.invokevirtual 92, 3) := by decide +kernel
theorem dX8_goes_23 : decode mX8_goes.2.1 23 = .ok (.ifCond .eq 26, 3) := by decide +kernel
theorem dX8_goes_26 : decode mX8_goes.2.1 26 = .ok (.iload_n 3, 1) := by decide +kernel
theorem dX8_goes_27 : decode mX8_goes.2.1 27 = .ok (.aload_n 0, 1) := by decide +kernel
theorem dX8_goes_28 : decode mX8_goes.2.1 28 = .ok (.getfield 22, 3) := by decide +kernel
theorem dX8_goes_31 : decode mX8_goes.2.1 31 = .ok (.iload_n 1, 1) := by decide +kernel
theorem dX8_goes_32 : decode mX8_goes.2.1 32 = .ok (.iaload, 1) := by decide +kernel
theorem dX8_goes_33 : decode mX8_goes.2.1 33 = .ok (.if_icmp .eq 16, 3) := by decide +kernel
theorem dX8_goes_36 : decode mX8_goes.2.1 36 = .ok (.aload_n 0, 1) := by decide +kernel
theorem dX8_goes_37 : decode mX8_goes.2.1 37 = .ok (.getfield 46, 3) := by decide +kernel
theorem dX8_goes_40 : decode mX8_goes.2.1 40 = .ok (.sipush 200, 3) := by decide +kernel
theorem dX8_goes_43 : decode mX8_goes.2.1 43 = .ok (.iload_n 3, 1) := by decide +kernel
theorem dX8_goes_44 : decode mX8_goes.2.1 44 = .ok (.imul, 1) := by decide +kernel
theorem dX8_goes_45 : decode mX8_goes.2.1 45 = .ok (.iload_n 1, 1) := by decide +kernel
theorem dX8_goes_46 : decode mX8_goes.2.1 46 = .ok (.iadd, 1) := by decide +kernel
theorem dX8_goes_47 : decode mX8_goes.2.1 47 = .ok (.iconst 1, 1) := by decide +kernel
theorem dX8_goes_48 : decode mX8_goes.2.1 48 = .ok (.iastore, 1) := by decide +kernel
theorem dX8_goes_49 : decode mX8_goes.2.1 49 = .ok (.iinc 3 1, 3) := by decide +kernel
theorem dX8_goes_52 : decode mX8_goes.2.1 52 = .ok (.goto (-43), 3) := by decide +kernel
theorem dX8_goes_55 : decode mX8_goes.2.1 55 = .ok (.aload_n 0, 1) := by decide +kernel
theorem dX8_goes_56 : decode mX8_goes.2.1 56 = .ok (.aload_n 0, 1) := by decide +kernel
theorem dX8_goes_57 : decode mX8_goes.2.1 57 = .ok (.getfield 22, 3) := by decide +kernel
theorem dX8_goes_60 : decode mX8_goes.2.1 60 = .ok (.iload_n 1, 1) := by decide +kernel
theorem dX8_goes_61 : decode mX8_goes.2.1 61 = .ok (.iaload, 1) := by decide +kernel
theorem dX8_goes_62 : decode mX8_goes.2.1 62 = .ok (.iload_n 1, 1) := by decide +kernel
theorem dX8_goes_63 : decode mX8_goes.2.1 63 = .ok (.invokevirtual 109, 3) := by decide +kernel
theorem dX8_goes_66 : decode mX8_goes.2.1 66 = .ok (.return_, 1) := by decide +kernel
theorem dX8_holds_0 : decode mX8_holds.2.1 0 = .ok (.aload_n 0, 1) := by decide +kernel
theorem dX8_holds_1 : decode mX8_holds.2.1 1 = .ok (.getfield 46, 3) := by decide +kernel
theorem dX8_holds_4 : decode mX8_holds.2.1 4 = .ok (.sipush 200, 3) := by decide +kernel
theorem dX8_holds_7 : decode mX8_holds.2.1 7 = .ok (.iload_n 1, 1) := by decide +kernel
theorem dX8_holds_8 : decode mX8_holds.2.1 8 = .ok (.imul, 1) := by decide +kernel
theorem dX8_holds_9 : decode mX8_holds.2.1 9 = .ok (.iload_n 2, 1) := by decide +kernel
theorem dX8_holds_10 : decode mX8_holds.2.1 10 = .ok (.iadd, 1) := by decide +kernel
theorem dX8_holds_11 : decode mX8_holds.2.1 11 = .ok (.iconst 2, 1) := by decide +kernel
theorem dX8_holds_12 : decode mX8_holds.2.1 12 = .ok (.iastore, 1) := by decide +kernel
theorem dX8_holds_13 : decode mX8_holds.2.1 13 = .ok (.iconst 0, 1) := by decide +kernel
theorem dX8_holds_14 : decode mX8_holds.2.1 14 = .ok (.istore_n 3, 1) := by decide +kernel
theorem dX8_holds_15 : decode mX8_holds.2.1 15 = .ok (.iload_n 3, 1) := by decide +kernel
theorem dX8_holds_16 : decode mX8_holds.2.1 16 = .ok (.bipush 40, 2) := by decide +kernel
theorem dX8_holds_18 : decode mX8_holds.2.1 18 = .ok (.if_icmp .ge 38, 3) := by decide +kernel
theorem dX8_holds_21 : decode mX8_holds.2.1 21 = .ok (.aload_n 0, 1) := by decide +kernel
theorem dX8_holds_22 : decode mX8_holds.2.1 22 = .ok (.getfield 69, 3) := by decide +kernel
theorem dX8_holds_25 : decode mX8_holds.2.1 25 = .ok (.bipush 40, 2) := by decide +kernel
theorem dX8_holds_27 : decode mX8_holds.2.1 27 = .ok (.iload_n 1, 1) := by decide +kernel
theorem dX8_holds_28 : decode mX8_holds.2.1 28 = .ok (.imul, 1) := by decide +kernel
theorem dX8_holds_29 : decode mX8_holds.2.1 29 = .ok (.iload_n 3, 1) := by decide +kernel
theorem dX8_holds_30 : decode mX8_holds.2.1 30 = .ok (.iadd, 1) := by decide +kernel
theorem dX8_holds_31 : decode mX8_holds.2.1 31 = .ok (.iaload, 1) := by decide +kernel
theorem dX8_holds_32 : decode mX8_holds.2.1 32 = .ok (.ifCond .ne 18, 3) := by decide +kernel
theorem dX8_holds_35 : decode mX8_holds.2.1 35 = .ok (.aload_n 0, 1) := by decide +kernel
theorem dX8_holds_36 : decode mX8_holds.2.1 36 = .ok (.getfield 69, 3) := by decide +kernel
theorem dX8_holds_39 : decode mX8_holds.2.1 39 = .ok (.bipush 40, 2) := by decide +kernel
theorem dX8_holds_41 : decode mX8_holds.2.1 41 = .ok (.iload_n 1, 1) := by decide +kernel
theorem dX8_holds_42 : decode mX8_holds.2.1 42 = .ok (.imul, 1) := by decide +kernel
theorem dX8_holds_43 : decode mX8_holds.2.1 43 = .ok (.iload_n 3, 1) := by decide +kernel
theorem dX8_holds_44 : decode mX8_holds.2.1 44 = .ok (.iadd, 1) := by decide +kernel
theorem dX8_holds_45 : decode mX8_holds.2.1 45 = .ok (.iload_n 2, 1) := by decide +kernel
theorem dX8_holds_46 : decode mX8_holds.2.1 46 = .ok (.iconst 1, 1) := by decide +kernel
theorem dX8_holds_47 : decode mX8_holds.2.1 47 = .ok (.iadd, 1) := by decide +kernel
theorem dX8_holds_48 : decode mX8_holds.2.1 48 = .ok (.iastore, 1) := by decide +kernel
theorem dX8_holds_49 : decode mX8_holds.2.1 49 = .ok (.return_, 1) := by decide +kernel
theorem dX8_holds_50 : decode mX8_holds.2.1 50 = .ok (.iinc 3 1, 3) := by decide +kernel
theorem dX8_holds_53 : decode mX8_holds.2.1 53 = .ok (.goto (-38), 3) := by decide +kernel
theorem dX8_holds_56 : decode mX8_holds.2.1 56 = .ok (.return_, 1) := by decide +kernel
theorem dX8_counts_0 : decode mX8_counts.2.1 0 = .ok (.aload_n 0, 1) := by decide +kernel
theorem dX8_counts_1 : decode mX8_counts.2.1 1 = .ok (.getfield 55, 3) := by decide +kernel
theorem dX8_counts_4 : decode mX8_counts.2.1 4 = .ok (.bipush 6, 2) := by decide +kernel
theorem dX8_counts_6 : decode mX8_counts.2.1 6 = .ok (.iload_n 2, 1) := by decide +kernel
theorem dX8_counts_7 : decode mX8_counts.2.1 7 = .ok (.imul, 1) := by decide +kernel
theorem dX8_counts_8 : decode mX8_counts.2.1 8 = .ok (.iload_n 3, 1) := by decide +kernel
theorem dX8_counts_9 : decode mX8_counts.2.1 9 = .ok (.iadd, 1) := by decide +kernel
theorem dX8_counts_10 : decode mX8_counts.2.1 10 = .ok (.iaload, 1) := by decide +kernel
theorem dX8_counts_11 : decode mX8_counts.2.1 11 = .ok (.istore 4, 2) := by decide +kernel
theorem dX8_counts_13 : decode mX8_counts.2.1 13 = .ok (.aload_n 0, 1) := by decide +kernel
theorem dX8_counts_14 : decode mX8_counts.2.1 14 = .ok (.getfield 37, 3) := by decide +kernel
theorem dX8_counts_17 : decode mX8_counts.2.1 17 = .ok (.iload_n 1, 1) := by decide +kernel
theorem dX8_counts_18 : decode mX8_counts.2.1 18 = .ok (.iconst 0, 1) := by decide +kernel
theorem dX8_counts_19 : decode mX8_counts.2.1 19 = .ok (.iastore, 1) := by decide +kernel
theorem dX8_counts_20 : decode mX8_counts.2.1 20 = .ok (.iconst 0, 1) := by decide +kernel
theorem dX8_counts_21 : decode mX8_counts.2.1 21 = .ok (.istore 5, 2) := by decide +kernel
theorem dX8_counts_23 : decode mX8_counts.2.1 23 = .ok (.iload 4, 2) := by decide +kernel
theorem dX8_counts_25 : decode mX8_counts.2.1 25 = .ok (.iconst (-1), 1) := by decide +kernel
theorem dX8_counts_26 : decode mX8_counts.2.1 26 = .ok (.if_icmp .eq 131, 3) := by decide +kernel
theorem dX8_counts_29 : decode mX8_counts.2.1 29 = .ok (.iload 5, 2) := by decide +kernel
theorem dX8_counts_31 : decode mX8_counts.2.1 31 = .ok (.bipush 48, 2) := by decide +kernel
theorem dX8_counts_33 : decode mX8_counts.2.1 33 = .ok (.if_icmp .ge 124, 3) := by decide +kernel
theorem dX8_counts_36 : decode mX8_counts.2.1 36 = .ok (.iload 5, 2) := by decide +kernel
theorem dX8_counts_38 : decode mX8_counts.2.1 38 = .ok (.bipush 8, 2) := by decide +kernel
theorem dX8_counts_40 : decode mX8_counts.2.1 40 = .ok (.idiv, 1) := by decide +kernel
theorem dX8_counts_41 : decode mX8_counts.2.1 41 = .ok (.istore 6, 2) := by decide +kernel
theorem dX8_counts_43 : decode mX8_counts.2.1 43 = .ok (.iload 6, 2) := by decide +kernel
theorem dX8_counts_45 : decode mX8_counts.2.1 45 = .ok (.aload_n 0, 1) := by decide +kernel
theorem dX8_counts_46 : decode mX8_counts.2.1 46 = .ok (.getfield 86, 3) := by decide +kernel
theorem dX8_counts_49 : decode mX8_counts.2.1 49 = .ok (.if_icmp .ge 52, 3) := by decide +kernel
theorem dX8_counts_52 : decode mX8_counts.2.1 52 = .ok (.aload_n 0, 1) := by decide +kernel
theorem dX8_counts_53 : decode mX8_counts.2.1 53 = .ok (.getfield 40, 3) := by decide +kernel
theorem dX8_counts_56 : decode mX8_counts.2.1 56 = .ok (.iload_n 1, 1) := by decide +kernel
theorem dX8_counts_57 : decode mX8_counts.2.1 57 = .ok (.iaload, 1) := by decide +kernel
theorem dX8_counts_58 : decode mX8_counts.2.1 58 = .ok (.iload 6, 2) := by decide +kernel
theorem dX8_counts_60 : decode mX8_counts.2.1 60 = .ok (.ishr, 1) := by decide +kernel
theorem dX8_counts_61 : decode mX8_counts.2.1 61 = .ok (.iconst 1, 1) := by decide +kernel
theorem dX8_counts_62 : decode mX8_counts.2.1 62 = .ok (.iand, 1) := by decide +kernel
theorem dX8_counts_63 : decode mX8_counts.2.1 63 = .ok (.iconst 1, 1) := by decide +kernel
theorem dX8_counts_64 : decode mX8_counts.2.1 64 = .ok (.if_icmp .ne 37, 3) := by decide +kernel
theorem dX8_counts_67 : decode mX8_counts.2.1 67 = .ok (.aload_n 0, 1) := by decide +kernel
theorem dX8_counts_68 : decode mX8_counts.2.1 68 = .ok (.getfield 40, 3) := by decide +kernel
theorem dX8_counts_71 : decode mX8_counts.2.1 71 = .ok (.iload 4, 2) := by decide +kernel
theorem dX8_counts_73 : decode mX8_counts.2.1 73 = .ok (.iaload, 1) := by decide +kernel
theorem dX8_counts_74 : decode mX8_counts.2.1 74 = .ok (.iload 6, 2) := by decide +kernel
theorem dX8_counts_76 : decode mX8_counts.2.1 76 = .ok (.ishr, 1) := by decide +kernel
theorem dX8_counts_77 : decode mX8_counts.2.1 77 = .ok (.iconst 1, 1) := by decide +kernel
theorem dX8_counts_78 : decode mX8_counts.2.1 78 = .ok (.iand, 1) := by decide +kernel
theorem dX8_counts_79 : decode mX8_counts.2.1 79 = .ok (.iconst 1, 1) := by decide +kernel
theorem dX8_counts_80 : decode mX8_counts.2.1 80 = .ok (.if_icmp .ne 21, 3) := by decide +kernel
theorem dX8_counts_83 : decode mX8_counts.2.1 83 = .ok (.aload_n 0, 1) := by decide +kernel
theorem dX8_counts_84 : decode mX8_counts.2.1 84 = .ok (.iload 5, 2) := by decide +kernel
theorem dX8_counts_86 : decode mX8_counts.2.1 86 = .ok (.bipush 8, 2) := by decide +kernel
theorem dX8_counts_88 : decode mX8_counts.2.1 88 = .ok (.irem, 1) := by decide +kernel
theorem dX8_counts_89 : decode mX8_counts.2.1 89 = .ok (.iload 6, 2) := by decide +kernel
theorem dX8_counts_91 : decode mX8_counts.2.1 91 = .ok (.invokevirtual 92, 3) := by decide +kernel
theorem dX8_counts_94 : decode mX8_counts.2.1 94 = .ok (.ifCond .eq 7, 3) := by decide +kernel
theorem dX8_counts_97 : decode mX8_counts.2.1 97 = .ok (.iconst 1, 1) := by decide +kernel
theorem dX8_counts_98 : decode mX8_counts.2.1 98 = .ok (.goto 4, 3) := by decide +kernel
theorem dX8_counts_101 : decode mX8_counts.2.1 101 = .ok (.iconst 0, 1) := by decide +kernel
theorem dX8_counts_102 : decode mX8_counts.2.1 102 = .ok (.istore 7, 2) := by decide +kernel
theorem dX8_counts_104 : decode mX8_counts.2.1 104 = .ok (.aload_n 0, 1) := by decide +kernel
theorem dX8_counts_105 : decode mX8_counts.2.1 105 = .ok (.getfield 37, 3) := by decide +kernel
theorem dX8_counts_108 : decode mX8_counts.2.1 108 = .ok (.iload_n 1, 1) := by decide +kernel
theorem dX8_counts_109 : decode mX8_counts.2.1 109 = .ok (.dup2, 1) := by decide +kernel
theorem dX8_counts_110 : decode mX8_counts.2.1 110 = .ok (.iaload, 1) := by decide +kernel
theorem dX8_counts_111 : decode mX8_counts.2.1 111 = .ok (.iload 7, 2) := by decide +kernel
theorem dX8_counts_113 : decode mX8_counts.2.1 113 = .ok (.ifCond .eq 35, 3) := by decide +kernel
theorem dX8_counts_116 : decode mX8_counts.2.1 116 = .ok (.aload_n 0, 1) := by decide +kernel
theorem dX8_counts_117 : decode mX8_counts.2.1 117 = .ok (.getfield 43, 3) := by decide +kernel
theorem dX8_counts_120 : decode mX8_counts.2.1 120 = .ok (.bipush 48, 2) := by decide +kernel
theorem dX8_counts_122 : decode mX8_counts.2.1 122 = .ok (.iload_n 1, 1) := by decide +kernel
theorem dX8_counts_123 : decode mX8_counts.2.1 123 = .ok (.imul, 1) := by decide +kernel
theorem dX8_counts_124 : decode mX8_counts.2.1 124 = .ok (.iload 5, 2) := by decide +kernel
theorem dX8_counts_126 : decode mX8_counts.2.1 126 = .ok (.iadd, 1) := by decide +kernel
theorem dX8_counts_127 : decode mX8_counts.2.1 127 = .ok (.iaload, 1) := by decide +kernel
theorem dX8_counts_128 : decode mX8_counts.2.1 128 = .ok (.aload_n 0, 1) := by decide +kernel
theorem dX8_counts_129 : decode mX8_counts.2.1 129 = .ok (.getfield 43, 3) := by decide +kernel
theorem dX8_counts_132 : decode mX8_counts.2.1 132 = .ok (.bipush 48, 2) := by decide +kernel
theorem dX8_counts_134 : decode mX8_counts.2.1 134 = .ok (.iload 4, 2) := by decide +kernel
theorem dX8_counts_136 : decode mX8_counts.2.1 136 = .ok (.imul, 1) := by decide +kernel
theorem dX8_counts_137 : decode mX8_counts.2.1 137 = .ok (.iload 5, 2) := by decide +kernel
theorem dX8_counts_139 : decode mX8_counts.2.1 139 = .ok (.iadd, 1) := by decide +kernel
theorem dX8_counts_140 : decode mX8_counts.2.1 140 = .ok (.iaload, 1) := by decide +kernel
theorem dX8_counts_141 : decode mX8_counts.2.1 141 = .ok (.if_icmp .ne 7, 3) := by decide +kernel
theorem dX8_counts_144 : decode mX8_counts.2.1 144 = .ok (.iconst 1, 1) := by decide +kernel
theorem dX8_counts_145 : decode mX8_counts.2.1 145 = .ok (.goto 4, 3) := by decide +kernel
theorem dX8_counts_148 : decode mX8_counts.2.1 148 = .ok (.iconst 0, 1) := by decide +kernel
theorem dX8_counts_149 : decode mX8_counts.2.1 149 = .ok (.iadd, 1) := by decide +kernel
theorem dX8_counts_150 : decode mX8_counts.2.1 150 = .ok (.iastore, 1) := by decide +kernel
theorem dX8_counts_151 : decode mX8_counts.2.1 151 = .ok (.iinc 5 1, 3) := by decide +kernel
theorem dX8_counts_154 : decode mX8_counts.2.1 154 = .ok (.goto (-131), 3) := by decide +kernel
theorem dX8_counts_157 : decode mX8_counts.2.1 157 = .ok (.aload_n 0, 1) := by decide +kernel
theorem dX8_counts_158 : decode mX8_counts.2.1 158 = .ok (.getfield 55, 3) := by decide +kernel
theorem dX8_counts_161 : decode mX8_counts.2.1 161 = .ok (.bipush 6, 2) := by decide +kernel
theorem dX8_counts_163 : decode mX8_counts.2.1 163 = .ok (.iload_n 2, 1) := by decide +kernel
theorem dX8_counts_164 : decode mX8_counts.2.1 164 = .ok (.imul, 1) := by decide +kernel
theorem dX8_counts_165 : decode mX8_counts.2.1 165 = .ok (.iload_n 3, 1) := by decide +kernel
theorem dX8_counts_166 : decode mX8_counts.2.1 166 = .ok (.iadd, 1) := by decide +kernel
theorem dX8_counts_167 : decode mX8_counts.2.1 167 = .ok (.iload_n 1, 1) := by decide +kernel
theorem dX8_counts_168 : decode mX8_counts.2.1 168 = .ok (.iastore, 1) := by decide +kernel
theorem dX8_counts_169 : decode mX8_counts.2.1 169 = .ok (.return_, 1) := by decide +kernel
theorem dX8_call_0 : decode mX8_call.2.1 0 = .ok (.aload_n 0, 1) := by decide +kernel
theorem dX8_call_1 : decode mX8_call.2.1 1 = .ok (.iload_n 2, 1) := by decide +kernel
theorem dX8_call_2 : decode mX8_call.2.1 2 = .ok (.invokevirtual 113, 3) := by decide +kernel
theorem dX8_call_5 : decode mX8_call.2.1 5 = .ok (.ifCond .eq 15, 3) := by decide +kernel
theorem dX8_call_8 : decode mX8_call.2.1 8 = .ok (.aload_n 0, 1) := by decide +kernel
theorem dX8_call_9 : decode mX8_call.2.1 9 = .ok (.iload_n 3, 1) := by decide +kernel
theorem dX8_call_10 : decode mX8_call.2.1 10 = .ok (.invokevirtual 117, 3) := by decide +kernel
theorem dX8_call_13 : decode mX8_call.2.1 13 = .ok (.ifCond .eq 7, 3) := by decide +kernel
theorem dX8_call_16 : decode mX8_call.2.1 16 = .ok (.iconst 1, 1) := by decide +kernel
theorem dX8_call_17 : decode mX8_call.2.1 17 = .ok (.goto 4, 3) := by decide +kernel
theorem dX8_call_20 : decode mX8_call.2.1 20 = .ok (.iconst 0, 1) := by decide +kernel
theorem dX8_call_21 : decode mX8_call.2.1 21 = .ok (.istore 6, 2) := by decide +kernel
theorem dX8_call_23 : decode mX8_call.2.1 23 = .ok (.iload 6, 2) := by decide +kernel
theorem dX8_call_25 : decode mX8_call.2.1 25 = .ok (.ifCond .eq 8, 3) := by decide +kernel
theorem dX8_call_28 : decode mX8_call.2.1 28 = .ok (.iload 5, 2) := by decide +kernel
theorem dX8_call_30 : decode mX8_call.2.1 30 = .ok (.ifCond .ne 9, 3) := by decide +kernel
theorem dX8_call_33 : decode mX8_call.2.1 33 = .ok (.aload_n 0, 1) := by decide +kernel
theorem dX8_call_34 : decode mX8_call.2.1 34 = .ok (.iconst 1, 1) := by decide +kernel
theorem dX8_call_35 : decode mX8_call.2.1 35 = .ok (.invokevirtual 103, 3) := by decide +kernel
theorem dX8_call_38 : decode mX8_call.2.1 38 = .ok (.ireturn, 1) := by decide +kernel
theorem dX8_call_39 : decode mX8_call.2.1 39 = .ok (.aload_n 0, 1) := by decide +kernel
theorem dX8_call_40 : decode mX8_call.2.1 40 = .ok (.getfield 120, 3) := by decide +kernel
theorem dX8_call_43 : decode mX8_call.2.1 43 = .ok (.bipush 100, 2) := by decide +kernel
theorem dX8_call_45 : decode mX8_call.2.1 45 = .ok (.if_icmp .ne 9, 3) := by decide +kernel
theorem dX8_call_48 : decode mX8_call.2.1 48 = .ok (.aload_n 0, 1) := by decide +kernel
theorem dX8_call_49 : decode mX8_call.2.1 49 = .ok (.iconst 2, 1) := by decide +kernel
theorem dX8_call_50 : decode mX8_call.2.1 50 = .ok (.invokevirtual 103, 3) := by decide +kernel
theorem dX8_call_53 : decode mX8_call.2.1 53 = .ok (.ireturn, 1) := by decide +kernel
theorem dX8_call_54 : decode mX8_call.2.1 54 = .ok (.iload 4, 2) := by decide +kernel
theorem dX8_call_56 : decode mX8_call.2.1 56 = .ok (.iconst (-1), 1) := by decide +kernel
theorem dX8_call_57 : decode mX8_call.2.1 57 = .ok (.if_icmp .eq 31, 3) := by decide +kernel
theorem dX8_call_60 : decode mX8_call.2.1 60 = .ok (.aload_n 0, 1) := by decide +kernel
theorem dX8_call_61 : decode mX8_call.2.1 61 = .ok (.getfield 22, 3) := by decide +kernel
theorem dX8_call_64 : decode mX8_call.2.1 64 = .ok (.iload 4, 2) := by decide +kernel
theorem dX8_call_66 : decode mX8_call.2.1 66 = .ok (.iaload, 1) := by decide +kernel
theorem dX8_call_67 : decode mX8_call.2.1 67 = .ok (.iload_n 2, 1) := by decide +kernel
theorem dX8_call_68 : decode mX8_call.2.1 68 = .ok (.if_icmp .eq 20, 3) := by decide +kernel
theorem dX8_call_71 : decode mX8_call.2.1 71 = .ok (.aload_n 0, 1) := by decide +kernel
theorem dX8_call_72 : decode mX8_call.2.1 72 = .ok (.getfield 46, 3) := by decide +kernel
theorem dX8_call_75 : decode mX8_call.2.1 75 = .ok (.sipush 200, 3) := by decide +kernel
theorem dX8_call_78 : decode mX8_call.2.1 78 = .ok (.iload_n 2, 1) := by decide +kernel
theorem dX8_call_79 : decode mX8_call.2.1 79 = .ok (.imul, 1) := by decide +kernel
theorem dX8_call_80 : decode mX8_call.2.1 80 = .ok (.iload 4, 2) := by decide +kernel
theorem dX8_call_82 : decode mX8_call.2.1 82 = .ok (.iadd, 1) := by decide +kernel
theorem dX8_call_83 : decode mX8_call.2.1 83 = .ok (.iaload, 1) := by decide +kernel
theorem dX8_call_84 : decode mX8_call.2.1 84 = .ok (.iconst 3, 1) := by decide +kernel
theorem dX8_call_85 : decode mX8_call.2.1 85 = .ok (.if_icmp .ne 7, 3) := by decide +kernel
theorem dX8_call_88 : decode mX8_call.2.1 88 = .ok (.iconst 1, 1) := by decide +kernel
theorem dX8_call_89 : decode mX8_call.2.1 89 = .ok (.goto 4, 3) := by decide +kernel
theorem dX8_call_92 : decode mX8_call.2.1 92 = .ok (.iconst 0, 1) := by decide +kernel
theorem dX8_call_93 : decode mX8_call.2.1 93 = .ok (.istore 7, 2) := by decide +kernel
theorem dX8_call_95 : decode mX8_call.2.1 95 = .ok (.aload_n 0, 1) := by decide +kernel
theorem dX8_call_96 : decode mX8_call.2.1 96 = .ok (.iload_n 2, 1) := by decide +kernel
theorem dX8_call_97 : decode mX8_call.2.1 97 = .ok (.iload_n 3, 1) := by decide +kernel
theorem dX8_call_98 : decode mX8_call.2.1 98 = .ok (.invokevirtual 92, 3) := by decide +kernel
theorem dX8_call_101 : decode mX8_call.2.1 101 = .ok (.ifCond .eq 8, 3) := by decide +kernel
theorem dX8_call_104 : decode mX8_call.2.1 104 = .ok (.iload 7, 2) := by decide +kernel
theorem dX8_call_106 : decode mX8_call.2.1 106 = .ok (.ifCond .ne 9, 3) := by decide +kernel
theorem dX8_call_109 : decode mX8_call.2.1 109 = .ok (.aload_n 0, 1) := by decide +kernel
theorem dX8_call_110 : decode mX8_call.2.1 110 = .ok (.iconst 3, 1) := by decide +kernel
theorem dX8_call_111 : decode mX8_call.2.1 111 = .ok (.invokevirtual 103, 3) := by decide +kernel
theorem dX8_call_114 : decode mX8_call.2.1 114 = .ok (.ireturn, 1) := by decide +kernel
theorem dX8_call_115 : decode mX8_call.2.1 115 = .ok (.aload_n 0, 1) := by decide +kernel
theorem dX8_call_116 : decode mX8_call.2.1 116 = .ok (.dup, 1) := by decide +kernel
theorem dX8_call_117 : decode mX8_call.2.1 117 = .ok (.getfield 120, 3) := by decide +kernel
theorem dX8_call_120 : decode mX8_call.2.1 120 = .ok (.iconst 1, 1) := by decide +kernel
theorem dX8_call_121 : decode mX8_call.2.1 121 = .ok (.iadd, 1) := by decide +kernel
theorem dX8_call_122 : decode mX8_call.2.1 122 = .ok (.putfield 120, 3) := by decide +kernel
theorem dX8_call_125 : decode mX8_call.2.1 125 = .ok (.aload_n 0, 1) := by decide +kernel
theorem dX8_call_126 : decode mX8_call.2.1 126 = .ok (.iload_n 1, 1) := by decide +kernel
theorem dX8_call_127 : decode mX8_call.2.1 127 = .ok (.iload_n 2, 1) := by decide +kernel
theorem dX8_call_128 : decode mX8_call.2.1 128 = .ok (.iload_n 3, 1) := by decide +kernel
theorem dX8_call_129 : decode mX8_call.2.1 129 = .ok (.iload 4, 2) := by decide +kernel
theorem dX8_call_131 : decode mX8_call.2.1 131 = .ok (.invokevirtual 123, 3) := by decide +kernel
theorem dX8_call_134 : decode mX8_call.2.1 134 = .ok (.istore 8, 2) := by decide +kernel
theorem dX8_call_136 : decode mX8_call.2.1 136 = .ok (.aload_n 0, 1) := by decide +kernel
theorem dX8_call_137 : decode mX8_call.2.1 137 = .ok (.iload 8, 2) := by decide +kernel
theorem dX8_call_139 : decode mX8_call.2.1 139 = .ok (.iload_n 2, 1) := by decide +kernel
theorem dX8_call_140 : decode mX8_call.2.1 140 = .ok (.iload_n 3, 1) := by decide +kernel
theorem dX8_call_141 : decode mX8_call.2.1 141 = .ok (.invokevirtual 127, 3) := by decide +kernel
theorem dX8_call_144 : decode mX8_call.2.1 144 = .ok (.aload_n 0, 1) := by decide +kernel
theorem dX8_call_145 : decode mX8_call.2.1 145 = .ok (.iload 8, 2) := by decide +kernel
theorem dX8_call_147 : decode mX8_call.2.1 147 = .ok (.invokevirtual 131, 3) := by decide +kernel
theorem dX8_call_150 : decode mX8_call.2.1 150 = .ok (.aload_n 0, 1) := by decide +kernel
theorem dX8_call_151 : decode mX8_call.2.1 151 = .ok (.iload_n 2, 1) := by decide +kernel
theorem dX8_call_152 : decode mX8_call.2.1 152 = .ok (.invokevirtual 135, 3) := by decide +kernel
theorem dX8_call_155 : decode mX8_call.2.1 155 = .ok (.pop, 1) := by decide +kernel
theorem dX8_call_156 : decode mX8_call.2.1 156 = .ok (.aload_n 0, 1) := by decide +kernel
theorem dX8_call_157 : decode mX8_call.2.1 157 = .ok (.iload 8, 2) := by decide +kernel
theorem dX8_call_159 : decode mX8_call.2.1 159 = .ok (.invokevirtual 106, 3) := by decide +kernel
theorem dX8_call_162 : decode mX8_call.2.1 162 = .ok (.ireturn, 1) := by decide +kernel
theorem dX8_write_0 : decode mX8_write.2.1 0 = .ok (.aload_n 0, 1) := by decide +kernel
theorem dX8_write_1 : decode mX8_write.2.1 1 = .ok (.iload_n 3, 1) := by decide +kernel
theorem dX8_write_2 : decode mX8_write.2.1 2 = .ok (.iload_n 1, 1) := by decide +kernel
theorem dX8_write_3 : decode mX8_write.2.1 3 = .ok (.iload_n 2, 1) := by decide +kernel
theorem dX8_write_4 : decode mX8_write.2.1 4 = .ok (.iconst (-1), 1) := by decide +kernel
theorem dX8_write_5 : decode mX8_write.2.1 5 = .ok (.iload_n 3, 1) := by decide +kernel
theorem dX8_write_6 : decode mX8_write.2.1 6 = .ok (.ifCond .eq 13, 3) := by decide +kernel
theorem dX8_write_9 : decode mX8_write.2.1 9 = .ok (.iload_n 3, 1) := by decide +kernel
theorem dX8_write_10 : decode mX8_write.2.1 10 = .ok (.iconst 4, 1) := by decide +kernel
theorem dX8_write_11 : decode mX8_write.2.1 11 = .ok (.if_icmp .eq 8, 3) := by decide +kernel
theorem dX8_write_14 : decode mX8_write.2.1 14 = .ok (.iload_n 3, 1) := by decide +kernel
theorem dX8_write_15 : decode mX8_write.2.1 15 = .ok (.iconst 5, 1) := by decide +kernel
theorem dX8_write_16 : decode mX8_write.2.1 16 = .ok (.if_icmp .ne 7, 3) := by decide +kernel
theorem dX8_write_19 : decode mX8_write.2.1 19 = .ok (.iconst 1, 1) := by decide +kernel
theorem dX8_write_20 : decode mX8_write.2.1 20 = .ok (.goto 4, 3) := by decide +kernel
theorem dX8_write_23 : decode mX8_write.2.1 23 = .ok (.iconst 0, 1) := by decide +kernel
theorem dX8_write_24 : decode mX8_write.2.1 24 = .ok (.invokevirtual 138, 3) := by decide +kernel
theorem dX8_write_27 : decode mX8_write.2.1 27 = .ok (.ireturn, 1) := by decide +kernel
theorem dX8_reply_0 : decode mX8_reply.2.1 0 = .ok (.aload_n 0, 1) := by decide +kernel
theorem dX8_reply_1 : decode mX8_reply.2.1 1 = .ok (.iconst 1, 1) := by decide +kernel
theorem dX8_reply_2 : decode mX8_reply.2.1 2 = .ok (.iload_n 1, 1) := by decide +kernel
theorem dX8_reply_3 : decode mX8_reply.2.1 3 = .ok (.iload_n 2, 1) := by decide +kernel
theorem dX8_reply_4 : decode mX8_reply.2.1 4 = .ok (.iload_n 3, 1) := by decide +kernel
theorem dX8_reply_5 : decode mX8_reply.2.1 5 = .ok (.aload_n 0, 1) := by decide +kernel
theorem dX8_reply_6 : decode mX8_reply.2.1 6 = .ok (.iload_n 3, 1) := by decide +kernel
theorem dX8_reply_7 : decode mX8_reply.2.1 7 = .ok (.invokevirtual 142, 3) := by decide +kernel
theorem dX8_reply_10 : decode mX8_reply.2.1 10 = .ok (.invokevirtual 138, 3) := by decide +kernel
theorem dX8_reply_13 : decode mX8_reply.2.1 13 = .ok (.ireturn, 1) := by decide +kernel
theorem dX8_seal_0 : decode mX8_seal.2.1 0 = .ok (.aload_n 0, 1) := by decide +kernel
theorem dX8_seal_1 : decode mX8_seal.2.1 1 = .ok (.iconst 2, 1) := by decide +kernel
theorem dX8_seal_2 : decode mX8_seal.2.1 2 = .ok (.iload_n 1, 1) := by decide +kernel
theorem dX8_seal_3 : decode mX8_seal.2.1 3 = .ok (.iload_n 2, 1) := by decide +kernel
theorem dX8_seal_4 : decode mX8_seal.2.1 4 = .ok (.iload_n 3, 1) := by decide +kernel
theorem dX8_seal_5 : decode mX8_seal.2.1 5 = .ok (.iload_n 3, 1) := by decide +kernel
theorem dX8_seal_6 : decode mX8_seal.2.1 6 = .ok (.iconst (-1), 1) := by decide +kernel
theorem dX8_seal_7 : decode mX8_seal.2.1 7 = .ok (.if_icmp .eq 11, 3) := by decide +kernel
theorem dX8_seal_10 : decode mX8_seal.2.1 10 = .ok (.aload_n 0, 1) := by decide +kernel
theorem dX8_seal_11 : decode mX8_seal.2.1 11 = .ok (.iload_n 3, 1) := by decide +kernel
theorem dX8_seal_12 : decode mX8_seal.2.1 12 = .ok (.invokevirtual 142, 3) := by decide +kernel
theorem dX8_seal_15 : decode mX8_seal.2.1 15 = .ok (.ifCond .eq 7, 3) := by decide +kernel
theorem dX8_seal_18 : decode mX8_seal.2.1 18 = .ok (.iconst 1, 1) := by decide +kernel
theorem dX8_seal_19 : decode mX8_seal.2.1 19 = .ok (.goto 4, 3) := by decide +kernel
theorem dX8_seal_22 : decode mX8_seal.2.1 22 = .ok (.iconst 0, 1) := by decide +kernel
theorem dX8_seal_23 : decode mX8_seal.2.1 23 = .ok (.invokevirtual 138, 3) := by decide +kernel
theorem dX8_seal_26 : decode mX8_seal.2.1 26 = .ok (.ireturn, 1) := by decide +kernel
theorem dX8_lacks_0 : decode mX8_lacks.2.1 0 = .ok (.iload_n 3, 1) := by decide +kernel
theorem dX8_lacks_1 : decode mX8_lacks.2.1 1 = .ok (.aload_n 0, 1) := by decide +kernel
theorem dX8_lacks_2 : decode mX8_lacks.2.1 2 = .ok (.getfield 19, 3) := by decide +kernel
theorem dX8_lacks_5 : decode mX8_lacks.2.1 5 = .ok (.iload_n 2, 1) := by decide +kernel
theorem dX8_lacks_6 : decode mX8_lacks.2.1 6 = .ok (.iaload, 1) := by decide +kernel
theorem dX8_lacks_7 : decode mX8_lacks.2.1 7 = .ok (.if_icmp .ne 18, 3) := by decide +kernel
theorem dX8_lacks_10 : decode mX8_lacks.2.1 10 = .ok (.iload 4, 2) := by decide +kernel
theorem dX8_lacks_12 : decode mX8_lacks.2.1 12 = .ok (.aload_n 0, 1) := by decide +kernel
theorem dX8_lacks_13 : decode mX8_lacks.2.1 13 = .ok (.getfield 22, 3) := by decide +kernel
theorem dX8_lacks_16 : decode mX8_lacks.2.1 16 = .ok (.iload_n 2, 1) := by decide +kernel
theorem dX8_lacks_17 : decode mX8_lacks.2.1 17 = .ok (.iaload, 1) := by decide +kernel
theorem dX8_lacks_18 : decode mX8_lacks.2.1 18 = .ok (.if_icmp .ne 7, 3) := by decide +kernel
theorem dX8_lacks_21 : decode mX8_lacks.2.1 21 = .ok (.iconst 1, 1) := by decide +kernel
theorem dX8_lacks_22 : decode mX8_lacks.2.1 22 = .ok (.goto 4, 3) := by decide +kernel
theorem dX8_lacks_25 : decode mX8_lacks.2.1 25 = .ok (.iconst 0, 1) := by decide +kernel
theorem dX8_lacks_26 : decode mX8_lacks.2.1 26 = .ok (.istore 5, 2) := by decide +kernel
theorem dX8_lacks_28 : decode mX8_lacks.2.1 28 = .ok (.iload 5, 2) := by decide +kernel
theorem dX8_lacks_30 : decode mX8_lacks.2.1 30 = .ok (.ifCond .eq 14, 3) := by decide +kernel
theorem dX8_lacks_33 : decode mX8_lacks.2.1 33 = .ok (.aload_n 0, 1) := by decide +kernel
theorem dX8_lacks_34 : decode mX8_lacks.2.1 34 = .ok (.getfield 25, 3) := by decide +kernel
theorem dX8_lacks_37 : decode mX8_lacks.2.1 37 = .ok (.iload_n 2, 1) := by decide +kernel
theorem dX8_lacks_38 : decode mX8_lacks.2.1 38 = .ok (.iaload, 1) := by decide +kernel
theorem dX8_lacks_39 : decode mX8_lacks.2.1 39 = .ok (.iconst 1, 1) := by decide +kernel
theorem dX8_lacks_40 : decode mX8_lacks.2.1 40 = .ok (.isub, 1) := by decide +kernel
theorem dX8_lacks_41 : decode mX8_lacks.2.1 41 = .ok (.goto 20, 3) := by decide +kernel
theorem dX8_lacks_44 : decode mX8_lacks.2.1 44 = .ok (.aload_n 0, 1) := by decide +kernel
theorem dX8_lacks_45 : decode mX8_lacks.2.1 45 = .ok (.getfield 43, 3) := by decide +kernel
theorem dX8_lacks_48 : decode mX8_lacks.2.1 48 = .ok (.bipush 48, 2) := by decide +kernel
theorem dX8_lacks_50 : decode mX8_lacks.2.1 50 = .ok (.iload_n 2, 1) := by decide +kernel
theorem dX8_lacks_51 : decode mX8_lacks.2.1 51 = .ok (.imul, 1) := by decide +kernel
theorem dX8_lacks_52 : decode mX8_lacks.2.1 52 = .ok (.bipush 8, 2) := by decide +kernel
theorem dX8_lacks_54 : decode mX8_lacks.2.1 54 = .ok (.iload_n 3, 1) := by decide +kernel
theorem dX8_lacks_55 : decode mX8_lacks.2.1 55 = .ok (.imul, 1) := by decide +kernel
theorem dX8_lacks_56 : decode mX8_lacks.2.1 56 = .ok (.iadd, 1) := by decide +kernel
theorem dX8_lacks_57 : decode mX8_lacks.2.1 57 = .ok (.iload 4, 2) := by decide +kernel
theorem dX8_lacks_59 : decode mX8_lacks.2.1 59 = .ok (.iadd, 1) := by decide +kernel
theorem dX8_lacks_60 : decode mX8_lacks.2.1 60 = .ok (.iaload, 1) := by decide +kernel
theorem dX8_lacks_61 : decode mX8_lacks.2.1 61 = .ok (.aload_n 0, 1) := by decide +kernel
theorem dX8_lacks_62 : decode mX8_lacks.2.1 62 = .ok (.getfield 49, 3) := by decide +kernel
theorem dX8_lacks_65 : decode mX8_lacks.2.1 65 = .ok (.bipush 48, 2) := by decide +kernel
theorem dX8_lacks_67 : decode mX8_lacks.2.1 67 = .ok (.iload_n 1, 1) := by decide +kernel
theorem dX8_lacks_68 : decode mX8_lacks.2.1 68 = .ok (.imul, 1) := by decide +kernel
theorem dX8_lacks_69 : decode mX8_lacks.2.1 69 = .ok (.bipush 8, 2) := by decide +kernel
theorem dX8_lacks_71 : decode mX8_lacks.2.1 71 = .ok (.iload_n 3, 1) := by decide +kernel
theorem dX8_lacks_72 : decode mX8_lacks.2.1 72 = .ok (.imul, 1) := by decide +kernel
theorem dX8_lacks_73 : decode mX8_lacks.2.1 73 = .ok (.iadd, 1) := by decide +kernel
theorem dX8_lacks_74 : decode mX8_lacks.2.1 74 = .ok (.iload 4, 2) := by decide +kernel
theorem dX8_lacks_76 : decode mX8_lacks.2.1 76 = .ok (.iadd, 1) := by decide +kernel
theorem dX8_lacks_77 : decode mX8_lacks.2.1 77 = .ok (.iaload, 1) := by decide +kernel
theorem dX8_lacks_78 : decode mX8_lacks.2.1 78 = .ok (.isub, 1) := by decide +kernel
theorem dX8_lacks_79 : decode mX8_lacks.2.1 79 = .ok (.ireturn, 1) := by decide +kernel
theorem dX8_lacking_0 : decode mX8_lacking.2.1 0 = .ok (.iconst 0, 1) := by decide +kernel
theorem dX8_lacking_1 : decode mX8_lacking.2.1 1 = .ok (.istore_n 3, 1) := by decide +kernel
theorem dX8_lacking_2 : decode mX8_lacking.2.1 2 = .ok (.iload_n 3, 1) := by decide +kernel
theorem dX8_lacking_3 : decode mX8_lacking.2.1 3 = .ok (.bipush 8, 2) := by decide +kernel
theorem dX8_lacking_5 : decode mX8_lacking.2.1 5 = .ok (.aload_n 0, 1) := by decide +kernel
theorem dX8_lacking_6 : decode mX8_lacking.2.1 6 = .ok (.getfield 86, 3) := by decide +kernel
theorem dX8_lacking_9 : decode mX8_lacking.2.1 9 = .ok (.imul, 1) := by decide +kernel
theorem dX8_lacking_10 : decode mX8_lacking.2.1 10 = .ok (.if_icmp .ge 82, 3) := by decide +kernel
theorem dX8_lacking_13 : decode mX8_lacking.2.1 13 = .ok (.iload_n 3, 1) := by decide +kernel
theorem dX8_lacking_14 : decode mX8_lacking.2.1 14 = .ok (.bipush 8, 2) := by decide +kernel
theorem dX8_lacking_16 : decode mX8_lacking.2.1 16 = .ok (.idiv, 1) := by decide +kernel
theorem dX8_lacking_17 : decode mX8_lacking.2.1 17 = .ok (.istore 4, 2) := by decide +kernel
theorem dX8_lacking_19 : decode mX8_lacking.2.1 19 = .ok (.aload_n 0, 1) := by decide +kernel
theorem dX8_lacking_20 : decode mX8_lacking.2.1 20 = .ok (.getfield 40, 3) := by decide +kernel
theorem dX8_lacking_23 : decode mX8_lacking.2.1 23 = .ok (.iload_n 2, 1) := by decide +kernel
theorem dX8_lacking_24 : decode mX8_lacking.2.1 24 = .ok (.iaload, 1) := by decide +kernel
theorem dX8_lacking_25 : decode mX8_lacking.2.1 25 = .ok (.iload 4, 2) := by decide +kernel
theorem dX8_lacking_27 : decode mX8_lacking.2.1 27 = .ok (.ishr, 1) := by decide +kernel
theorem dX8_lacking_28 : decode mX8_lacking.2.1 28 = .ok (.iconst 1, 1) := by decide +kernel
theorem dX8_lacking_29 : decode mX8_lacking.2.1 29 = .ok (.iand, 1) := by decide +kernel
theorem dX8_lacking_30 : decode mX8_lacking.2.1 30 = .ok (.iconst 1, 1) := by decide +kernel
theorem dX8_lacking_31 : decode mX8_lacking.2.1 31 = .ok (.if_icmp .ne 30, 3) := by decide +kernel
theorem dX8_lacking_34 : decode mX8_lacking.2.1 34 = .ok (.aload_n 0, 1) := by decide +kernel
theorem dX8_lacking_35 : decode mX8_lacking.2.1 35 = .ok (.iload_n 1, 1) := by decide +kernel
theorem dX8_lacking_36 : decode mX8_lacking.2.1 36 = .ok (.iload 4, 2) := by decide +kernel
theorem dX8_lacking_38 : decode mX8_lacking.2.1 38 = .ok (.invokevirtual 92, 3) := by decide +kernel
theorem dX8_lacking_41 : decode mX8_lacking.2.1 41 = .ok (.ifCond .eq 20, 3) := by decide +kernel
theorem dX8_lacking_44 : decode mX8_lacking.2.1 44 = .ok (.aload_n 0, 1) := by decide +kernel
theorem dX8_lacking_45 : decode mX8_lacking.2.1 45 = .ok (.iload_n 3, 1) := by decide +kernel
theorem dX8_lacking_46 : decode mX8_lacking.2.1 46 = .ok (.bipush 8, 2) := by decide +kernel
theorem dX8_lacking_48 : decode mX8_lacking.2.1 48 = .ok (.irem, 1) := by decide +kernel
theorem dX8_lacking_49 : decode mX8_lacking.2.1 49 = .ok (.iload 4, 2) := by decide +kernel
theorem dX8_lacking_51 : decode mX8_lacking.2.1 51 = .ok (.invokevirtual 92, 3) := by decide +kernel
theorem dX8_lacking_54 : decode mX8_lacking.2.1 54 = .ok (.ifCond .eq 7, 3) := by decide +kernel
theorem dX8_lacking_57 : decode mX8_lacking.2.1 57 = .ok (.iconst 1, 1) := by decide +kernel
theorem dX8_lacking_58 : decode mX8_lacking.2.1 58 = .ok (.goto 4, 3) := by decide +kernel
theorem dX8_lacking_61 : decode mX8_lacking.2.1 61 = .ok (.iconst 0, 1) := by decide +kernel
theorem dX8_lacking_62 : decode mX8_lacking.2.1 62 = .ok (.istore 5, 2) := by decide +kernel
theorem dX8_lacking_64 : decode mX8_lacking.2.1 64 = .ok (.iload 5, 2) := by decide +kernel
theorem dX8_lacking_66 : decode mX8_lacking.2.1 66 = .ok (.ifCond .eq 20, 3) := by decide +kernel
theorem dX8_lacking_69 : decode mX8_lacking.2.1 69 = .ok (.aload_n 0, 1) := by decide +kernel
theorem dX8_lacking_70 : decode mX8_lacking.2.1 70 = .ok (.iload_n 1, 1) := by decide +kernel
theorem dX8_lacking_71 : decode mX8_lacking.2.1 71 = .ok (.iload_n 2, 1) := by decide +kernel
theorem dX8_lacking_72 : decode mX8_lacking.2.1 72 = .ok (.iload 4, 2) := by decide +kernel
theorem dX8_lacking_74 : decode mX8_lacking.2.1 74 = .ok (.iload_n 3, 1) := by decide +kernel
theorem dX8_lacking_75 : decode mX8_lacking.2.1 75 = .ok (.bipush 8, 2) := by decide +kernel
theorem dX8_lacking_77 : decode mX8_lacking.2.1 77 = .ok (.irem, 1) := by decide +kernel
theorem dX8_lacking_78 : decode mX8_lacking.2.1 78 = .ok (.invokevirtual 145, 3) := by decide +kernel
theorem dX8_lacking_81 : decode mX8_lacking.2.1 81 = .ok (.ifCond .le 5, 3) := by decide +kernel
theorem dX8_lacking_84 : decode mX8_lacking.2.1 84 = .ok (.iload_n 3, 1) := by decide +kernel
theorem dX8_lacking_85 : decode mX8_lacking.2.1 85 = .ok (.ireturn, 1) := by decide +kernel
theorem dX8_lacking_86 : decode mX8_lacking.2.1 86 = .ok (.iinc 3 1, 3) := by decide +kernel
theorem dX8_lacking_89 : decode mX8_lacking.2.1 89 = .ok (.goto (-87), 3) := by decide +kernel
theorem dX8_lacking_92 : decode mX8_lacking.2.1 92 = .ok (.iconst (-1), 1) := by decide +kernel
theorem dX8_lacking_93 : decode mX8_lacking.2.1 93 = .ok (.ireturn, 1) := by decide +kernel
theorem dX8_hasOrder_0 : decode mX8_hasOrder.2.1 0 = .ok (.aload_n 0, 1) := by decide +kernel
theorem dX8_hasOrder_1 : decode mX8_hasOrder.2.1 1 = .ok (.getfield 22, 3) := by decide +kernel
theorem dX8_hasOrder_4 : decode mX8_hasOrder.2.1 4 = .ok (.iload_n 2, 1) := by decide +kernel
theorem dX8_hasOrder_5 : decode mX8_hasOrder.2.1 5 = .ok (.iaload, 1) := by decide +kernel
theorem dX8_hasOrder_6 : decode mX8_hasOrder.2.1 6 = .ok (.aload_n 0, 1) := by decide +kernel
theorem dX8_hasOrder_7 : decode mX8_hasOrder.2.1 7 = .ok (.aload_n 0, 1) := by decide +kernel
theorem dX8_hasOrder_8 : decode mX8_hasOrder.2.1 8 = .ok (.getfield 19, 3) := by decide +kernel
theorem dX8_hasOrder_11 : decode mX8_hasOrder.2.1 11 = .ok (.iload_n 2, 1) := by decide +kernel
theorem dX8_hasOrder_12 : decode mX8_hasOrder.2.1 12 = .ok (.iaload, 1) := by decide +kernel
theorem dX8_hasOrder_13 : decode mX8_hasOrder.2.1 13 = .ok (.invokevirtual 148, 3) := by decide +kernel
theorem dX8_hasOrder_16 : decode mX8_hasOrder.2.1 16 = .ok (.if_icmp .ne 17, 3) := by decide +kernel
theorem dX8_hasOrder_19 : decode mX8_hasOrder.2.1 19 = .ok (.aload_n 0, 1) := by decide +kernel
theorem dX8_hasOrder_20 : decode mX8_hasOrder.2.1 20 = .ok (.getfield 31, 3) := by decide +kernel
theorem dX8_hasOrder_23 : decode mX8_hasOrder.2.1 23 = .ok (.iload_n 2, 1) := by decide +kernel
theorem dX8_hasOrder_24 : decode mX8_hasOrder.2.1 24 = .ok (.iaload, 1) := by decide +kernel
theorem dX8_hasOrder_25 : decode mX8_hasOrder.2.1 25 = .ok (.iconst (-1), 1) := by decide +kernel
theorem dX8_hasOrder_26 : decode mX8_hasOrder.2.1 26 = .ok (.if_icmp .eq 7, 3) := by decide +kernel
theorem dX8_hasOrder_29 : decode mX8_hasOrder.2.1 29 = .ok (.iconst 1, 1) := by decide +kernel
theorem dX8_hasOrder_30 : decode mX8_hasOrder.2.1 30 = .ok (.goto 4, 3) := by decide +kernel
theorem dX8_hasOrder_33 : decode mX8_hasOrder.2.1 33 = .ok (.iconst 0, 1) := by decide +kernel
theorem dX8_hasOrder_34 : decode mX8_hasOrder.2.1 34 = .ok (.istore_n 3, 1) := by decide +kernel
theorem dX8_hasOrder_35 : decode mX8_hasOrder.2.1 35 = .ok (.iload_n 3, 1) := by decide +kernel
theorem dX8_hasOrder_36 : decode mX8_hasOrder.2.1 36 = .ok (.ifCond .ne 34, 3) := by decide +kernel
theorem dX8_hasOrder_39 : decode mX8_hasOrder.2.1 39 = .ok (.aload_n 0, 1) := by decide +kernel
theorem dX8_hasOrder_40 : decode mX8_hasOrder.2.1 40 = .ok (.getfield 34, 3) := by decide +kernel
theorem dX8_hasOrder_43 : decode mX8_hasOrder.2.1 43 = .ok (.iload_n 2, 1) := by decide +kernel
theorem dX8_hasOrder_44 : decode mX8_hasOrder.2.1 44 = .ok (.iaload, 1) := by decide +kernel
theorem dX8_hasOrder_45 : decode mX8_hasOrder.2.1 45 = .ok (.iconst (-1), 1) := by decide +kernel
theorem dX8_hasOrder_46 : decode mX8_hasOrder.2.1 46 = .ok (.if_icmp .eq 28, 3) := by decide +kernel
theorem dX8_hasOrder_49 : decode mX8_hasOrder.2.1 49 = .ok (.aload_n 0, 1) := by decide +kernel
theorem dX8_hasOrder_50 : decode mX8_hasOrder.2.1 50 = .ok (.getfield 46, 3) := by decide +kernel
theorem dX8_hasOrder_53 : decode mX8_hasOrder.2.1 53 = .ok (.sipush 200, 3) := by decide +kernel
theorem dX8_hasOrder_56 : decode mX8_hasOrder.2.1 56 = .ok (.iload_n 1, 1) := by decide +kernel
theorem dX8_hasOrder_57 : decode mX8_hasOrder.2.1 57 = .ok (.imul, 1) := by decide +kernel
theorem dX8_hasOrder_58 : decode mX8_hasOrder.2.1 58 = .ok (.aload_n 0, 1) := by decide +kernel
theorem dX8_hasOrder_59 : decode mX8_hasOrder.2.1 59 = .ok (.getfield 34, 3) := by decide +kernel
theorem dX8_hasOrder_62 : decode mX8_hasOrder.2.1 62 = .ok (.iload_n 2, 1) := by decide +kernel
theorem dX8_hasOrder_63 : decode mX8_hasOrder.2.1 63 = .ok (.iaload, 1) := by decide +kernel
theorem dX8_hasOrder_64 : decode mX8_hasOrder.2.1 64 = .ok (.iadd, 1) := by decide +kernel
theorem dX8_hasOrder_65 : decode mX8_hasOrder.2.1 65 = .ok (.iaload, 1) := by decide +kernel
theorem dX8_hasOrder_66 : decode mX8_hasOrder.2.1 66 = .ok (.iconst 3, 1) := by decide +kernel
theorem dX8_hasOrder_67 : decode mX8_hasOrder.2.1 67 = .ok (.if_icmp .ne 7, 3) := by decide +kernel
theorem dX8_hasOrder_70 : decode mX8_hasOrder.2.1 70 = .ok (.iconst 1, 1) := by decide +kernel
theorem dX8_hasOrder_71 : decode mX8_hasOrder.2.1 71 = .ok (.goto 4, 3) := by decide +kernel
theorem dX8_hasOrder_74 : decode mX8_hasOrder.2.1 74 = .ok (.iconst 0, 1) := by decide +kernel
theorem dX8_hasOrder_75 : decode mX8_hasOrder.2.1 75 = .ok (.ireturn, 1) := by decide +kernel
theorem dX8_hasLower_0 : decode mX8_hasLower.2.1 0 = .ok (.iconst 1, 1) := by decide +kernel
theorem dX8_hasLower_1 : decode mX8_hasLower.2.1 1 = .ok (.istore_n 3, 1) := by decide +kernel
theorem dX8_hasLower_2 : decode mX8_hasLower.2.1 2 = .ok (.iconst 0, 1) := by decide +kernel
theorem dX8_hasLower_3 : decode mX8_hasLower.2.1 3 = .ok (.istore 4, 2) := by decide +kernel
theorem dX8_hasLower_5 : decode mX8_hasLower.2.1 5 = .ok (.iload 4, 2) := by decide +kernel
theorem dX8_hasLower_7 : decode mX8_hasLower.2.1 7 = .ok (.aload_n 0, 1) := by decide +kernel
theorem dX8_hasLower_8 : decode mX8_hasLower.2.1 8 = .ok (.getfield 89, 3) := by decide +kernel
theorem dX8_hasLower_11 : decode mX8_hasLower.2.1 11 = .ok (.if_icmp .ge 102, 3) := by decide +kernel
theorem dX8_hasLower_14 : decode mX8_hasLower.2.1 14 = .ok (.aload_n 0, 1) := by decide +kernel
theorem dX8_hasLower_15 : decode mX8_hasLower.2.1 15 = .ok (.getfield 16, 3) := by decide +kernel
theorem dX8_hasLower_18 : decode mX8_hasLower.2.1 18 = .ok (.iload 4, 2) := by decide +kernel
theorem dX8_hasLower_20 : decode mX8_hasLower.2.1 20 = .ok (.iaload, 1) := by decide +kernel
theorem dX8_hasLower_21 : decode mX8_hasLower.2.1 21 = .ok (.iconst 2, 1) := by decide +kernel
theorem dX8_hasLower_22 : decode mX8_hasLower.2.1 22 = .ok (.if_icmp .ne 50, 3) := by decide +kernel
theorem dX8_hasLower_25 : decode mX8_hasLower.2.1 25 = .ok (.aload_n 0, 1) := by decide +kernel
theorem dX8_hasLower_26 : decode mX8_hasLower.2.1 26 = .ok (.getfield 19, 3) := by decide +kernel
theorem dX8_hasLower_29 : decode mX8_hasLower.2.1 29 = .ok (.iload 4, 2) := by decide +kernel
theorem dX8_hasLower_31 : decode mX8_hasLower.2.1 31 = .ok (.iaload, 1) := by decide +kernel
theorem dX8_hasLower_32 : decode mX8_hasLower.2.1 32 = .ok (.aload_n 0, 1) := by decide +kernel
theorem dX8_hasLower_33 : decode mX8_hasLower.2.1 33 = .ok (.getfield 19, 3) := by decide +kernel
theorem dX8_hasLower_36 : decode mX8_hasLower.2.1 36 = .ok (.iload_n 2, 1) := by decide +kernel
theorem dX8_hasLower_37 : decode mX8_hasLower.2.1 37 = .ok (.iaload, 1) := by decide +kernel
theorem dX8_hasLower_38 : decode mX8_hasLower.2.1 38 = .ok (.if_icmp .ne 34, 3) := by decide +kernel
theorem dX8_hasLower_41 : decode mX8_hasLower.2.1 41 = .ok (.aload_n 0, 1) := by decide +kernel
theorem dX8_hasLower_42 : decode mX8_hasLower.2.1 42 = .ok (.getfield 31, 3) := by decide +kernel
theorem dX8_hasLower_45 : decode mX8_hasLower.2.1 45 = .ok (.iload 4, 2) := by decide +kernel
theorem dX8_hasLower_47 : decode mX8_hasLower.2.1 47 = .ok (.iaload, 1) := by decide +kernel
theorem dX8_hasLower_48 : decode mX8_hasLower.2.1 48 = .ok (.iconst (-1), 1) := by decide +kernel
theorem dX8_hasLower_49 : decode mX8_hasLower.2.1 49 = .ok (.if_icmp .eq 23, 3) := by decide +kernel
theorem dX8_hasLower_52 : decode mX8_hasLower.2.1 52 = .ok (.aload_n 0, 1) := by decide +kernel
theorem dX8_hasLower_53 : decode mX8_hasLower.2.1 53 = .ok (.getfield 31, 3) := by decide +kernel
theorem dX8_hasLower_56 : decode mX8_hasLower.2.1 56 = .ok (.iload 4, 2) := by decide +kernel
theorem dX8_hasLower_58 : decode mX8_hasLower.2.1 58 = .ok (.iaload, 1) := by decide +kernel
theorem dX8_hasLower_59 : decode mX8_hasLower.2.1 59 = .ok (.aload_n 0, 1) := by decide +kernel
theorem dX8_hasLower_60 : decode mX8_hasLower.2.1 60 = .ok (.getfield 31, 3) := by decide +kernel
theorem dX8_hasLower_63 : decode mX8_hasLower.2.1 63 = .ok (.iload_n 2, 1) := by decide +kernel
theorem dX8_hasLower_64 : decode mX8_hasLower.2.1 64 = .ok (.iaload, 1) := by decide +kernel
theorem dX8_hasLower_65 : decode mX8_hasLower.2.1 65 = .ok (.if_icmp .ge 7, 3) := by decide +kernel
theorem dX8_hasLower_68 : decode mX8_hasLower.2.1 68 = .ok (.iconst 1, 1) := by decide +kernel
theorem dX8_hasLower_69 : decode mX8_hasLower.2.1 69 = .ok (.goto 4, 3) := by decide +kernel
theorem dX8_hasLower_72 : decode mX8_hasLower.2.1 72 = .ok (.iconst 0, 1) := by decide +kernel
theorem dX8_hasLower_73 : decode mX8_hasLower.2.1 73 = .ok (.istore 5, 2) := by decide +kernel
theorem dX8_hasLower_75 : decode mX8_hasLower.2.1 75 = .ok (.iload_n 3, 1) := by decide +kernel
theorem dX8_hasLower_76 : decode mX8_hasLower.2.1 76 = .ok (.ifCond .eq 29, 3) := by decide +kernel
theorem dX8_hasLower_79 : decode mX8_hasLower.2.1 79 = .ok (.iload 5, 2) := by decide +kernel
theorem dX8_hasLower_81 : decode mX8_hasLower.2.1 81 = .ok (.ifCond .eq 20, 3) := by decide +kernel
theorem dX8_hasLower_84 : decode mX8_hasLower.2.1 84 = .ok (.aload_n 0, 1) := by decide +kernel
theorem dX8_hasLower_85 : decode mX8_hasLower.2.1 85 = .ok (.getfield 46, 3) := by decide +kernel
theorem dX8_hasLower_88 : decode mX8_hasLower.2.1 88 = .ok (.sipush 200, 3) := by decide +kernel
theorem dX8_hasLower_91 : decode mX8_hasLower.2.1 91 = .ok (.iload_n 1, 1) := by decide +kernel
theorem dX8_hasLower_92 : decode mX8_hasLower.2.1 92 = .ok (.imul, 1) := by decide +kernel
theorem dX8_hasLower_93 : decode mX8_hasLower.2.1 93 = .ok (.iload 4, 2) := by decide +kernel
theorem dX8_hasLower_95 : decode mX8_hasLower.2.1 95 = .ok (.iadd, 1) := by decide +kernel
theorem dX8_hasLower_96 : decode mX8_hasLower.2.1 96 = .ok (.iaload, 1) := by decide +kernel
theorem dX8_hasLower_97 : decode mX8_hasLower.2.1 97 = .ok (.iconst 3, 1) := by decide +kernel
theorem dX8_hasLower_98 : decode mX8_hasLower.2.1 98 = .ok (.if_icmp .ne 7, 3) := by decide +kernel
theorem dX8_hasLower_101 : decode mX8_hasLower.2.1 101 = .ok (.iconst 1, 1) := by decide +kernel
theorem dX8_hasLower_102 : decode mX8_hasLower.2.1 102 = .ok (.goto 4, 3) := by decide +kernel
theorem dX8_hasLower_105 : decode mX8_hasLower.2.1 105 = .ok (.iconst 0, 1) := by decide +kernel
theorem dX8_hasLower_106 : decode mX8_hasLower.2.1 106 = .ok (.istore_n 3, 1) := by decide +kernel
theorem dX8_hasLower_107 : decode mX8_hasLower.2.1 107 = .ok (.iinc 4 1, 3) := by decide +kernel
theorem dX8_hasLower_110 : decode mX8_hasLower.2.1 110 = .ok (.goto (-105), 3) := by decide +kernel
theorem dX8_hasLower_113 : decode mX8_hasLower.2.1 113 = .ok (.iload_n 3, 1) := by decide +kernel
theorem dX8_hasLower_114 : decode mX8_hasLower.2.1 114 = .ok (.ireturn, 1) := by decide +kernel
theorem dX8_canGive_0 : decode mX8_canGive.2.1 0 = .ok (.aload_n 0, 1) := by decide +kernel
theorem dX8_canGive_1 : decode mX8_canGive.2.1 1 = .ok (.iload_n 1, 1) := by decide +kernel
theorem dX8_canGive_2 : decode mX8_canGive.2.1 2 = .ok (.iload_n 2, 1) := by decide +kernel
theorem dX8_canGive_3 : decode mX8_canGive.2.1 3 = .ok (.invokevirtual 151, 3) := by decide +kernel
theorem dX8_canGive_6 : decode mX8_canGive.2.1 6 = .ok (.iconst (-1), 1) := by decide +kernel
theorem dX8_canGive_7 : decode mX8_canGive.2.1 7 = .ok (.if_icmp .eq 5, 3) := by decide +kernel
theorem dX8_canGive_10 : decode mX8_canGive.2.1 10 = .ok (.iconst 0, 1) := by decide +kernel
theorem dX8_canGive_11 : decode mX8_canGive.2.1 11 = .ok (.ireturn, 1) := by decide +kernel
theorem dX8_canGive_12 : decode mX8_canGive.2.1 12 = .ok (.aload_n 0, 1) := by decide +kernel
theorem dX8_canGive_13 : decode mX8_canGive.2.1 13 = .ok (.getfield 16, 3) := by decide +kernel
theorem dX8_canGive_16 : decode mX8_canGive.2.1 16 = .ok (.iload_n 2, 1) := by decide +kernel
theorem dX8_canGive_17 : decode mX8_canGive.2.1 17 = .ok (.iaload, 1) := by decide +kernel
theorem dX8_canGive_18 : decode mX8_canGive.2.1 18 = .ok (.iconst 2, 1) := by decide +kernel
theorem dX8_canGive_19 : decode mX8_canGive.2.1 19 = .ok (.if_icmp .ne 35, 3) := by decide +kernel
theorem dX8_canGive_22 : decode mX8_canGive.2.1 22 = .ok (.iload_n 1, 1) := by decide +kernel
theorem dX8_canGive_23 : decode mX8_canGive.2.1 23 = .ok (.aload_n 0, 1) := by decide +kernel
theorem dX8_canGive_24 : decode mX8_canGive.2.1 24 = .ok (.aload_n 0, 1) := by decide +kernel
theorem dX8_canGive_25 : decode mX8_canGive.2.1 25 = .ok (.getfield 19, 3) := by decide +kernel
theorem dX8_canGive_28 : decode mX8_canGive.2.1 28 = .ok (.iload_n 2, 1) := by decide +kernel
theorem dX8_canGive_29 : decode mX8_canGive.2.1 29 = .ok (.iaload, 1) := by decide +kernel
theorem dX8_canGive_30 : decode mX8_canGive.2.1 30 = .ok (.invokevirtual 148, 3) := by decide +kernel
theorem dX8_canGive_33 : decode mX8_canGive.2.1 33 = .ok (.if_icmp .eq 21, 3) := by decide +kernel
theorem dX8_canGive_36 : decode mX8_canGive.2.1 36 = .ok (.aload_n 0, 1) := by decide +kernel
theorem dX8_canGive_37 : decode mX8_canGive.2.1 37 = .ok (.iload_n 1, 1) := by decide +kernel
theorem dX8_canGive_38 : decode mX8_canGive.2.1 38 = .ok (.iload_n 2, 1) := by decide +kernel
theorem dX8_canGive_39 : decode mX8_canGive.2.1 39 = .ok (.invokevirtual 155, 3) := by decide +kernel
theorem dX8_canGive_42 : decode mX8_canGive.2.1 42 = .ok (.ifCond .eq 16, 3) := by decide +kernel
theorem dX8_canGive_45 : decode mX8_canGive.2.1 45 = .ok (.aload_n 0, 1) := by decide +kernel
theorem dX8_canGive_46 : decode mX8_canGive.2.1 46 = .ok (.iload_n 1, 1) := by decide +kernel
theorem dX8_canGive_47 : decode mX8_canGive.2.1 47 = .ok (.iload_n 2, 1) := by decide +kernel
theorem dX8_canGive_48 : decode mX8_canGive.2.1 48 = .ok (.invokevirtual 158, 3) := by decide +kernel
theorem dX8_canGive_51 : decode mX8_canGive.2.1 51 = .ok (.ifCond .eq 7, 3) := by decide +kernel
theorem dX8_canGive_54 : decode mX8_canGive.2.1 54 = .ok (.iconst 1, 1) := by decide +kernel
theorem dX8_canGive_55 : decode mX8_canGive.2.1 55 = .ok (.goto 4, 3) := by decide +kernel
theorem dX8_canGive_58 : decode mX8_canGive.2.1 58 = .ok (.iconst 0, 1) := by decide +kernel
theorem dX8_canGive_59 : decode mX8_canGive.2.1 59 = .ok (.ireturn, 1) := by decide +kernel
theorem dX8_next_0 : decode mX8_next.2.1 0 = .ok (.iconst 0, 1) := by decide +kernel
theorem dX8_next_1 : decode mX8_next.2.1 1 = .ok (.istore_n 2, 1) := by decide +kernel
theorem dX8_next_2 : decode mX8_next.2.1 2 = .ok (.iload_n 2, 1) := by decide +kernel
theorem dX8_next_3 : decode mX8_next.2.1 3 = .ok (.aload_n 0, 1) := by decide +kernel
theorem dX8_next_4 : decode mX8_next.2.1 4 = .ok (.getfield 89, 3) := by decide +kernel
theorem dX8_next_7 : decode mX8_next.2.1 7 = .ok (.if_icmp .ge 36, 3) := by decide +kernel
theorem dX8_next_10 : decode mX8_next.2.1 10 = .ok (.aload_n 0, 1) := by decide +kernel
theorem dX8_next_11 : decode mX8_next.2.1 11 = .ok (.getfield 46, 3) := by decide +kernel
theorem dX8_next_14 : decode mX8_next.2.1 14 = .ok (.sipush 200, 3) := by decide +kernel
theorem dX8_next_17 : decode mX8_next.2.1 17 = .ok (.iload_n 1, 1) := by decide +kernel
theorem dX8_next_18 : decode mX8_next.2.1 18 = .ok (.imul, 1) := by decide +kernel
theorem dX8_next_19 : decode mX8_next.2.1 19 = .ok (.iload_n 2, 1) := by decide +kernel
theorem dX8_next_20 : decode mX8_next.2.1 20 = .ok (.iadd, 1) := by decide +kernel
theorem dX8_next_21 : decode mX8_next.2.1 21 = .ok (.iaload, 1) := by decide +kernel
theorem dX8_next_22 : decode mX8_next.2.1 22 = .ok (.iconst 2, 1) := by decide +kernel
theorem dX8_next_23 : decode mX8_next.2.1 23 = .ok (.if_icmp .ne 14, 3) := by decide +kernel
theorem dX8_next_26 : decode mX8_next.2.1 26 = .ok (.aload_n 0, 1) := by decide +kernel
theorem dX8_next_27 : decode mX8_next.2.1 27 = .ok (.iload_n 1, 1) := by decide +kernel
theorem dX8_next_28 : decode mX8_next.2.1 28 = .ok (.iload_n 2, 1) := by decide +kernel
theorem dX8_next_29 : decode mX8_next.2.1 29 = .ok (.invokevirtual 161, 3) := by decide +kernel
theorem dX8_next_32 : decode mX8_next.2.1 32 = .ok (.ifCond .eq 5, 3) := by decide +kernel
theorem dX8_next_35 : decode mX8_next.2.1 35 = .ok (.iload_n 2, 1) := by decide +kernel
theorem dX8_next_36 : decode mX8_next.2.1 36 = .ok (.ireturn, 1) := by decide +kernel
theorem dX8_next_37 : decode mX8_next.2.1 37 = .ok (.iinc 2 1, 3) := by decide +kernel
theorem dX8_next_40 : decode mX8_next.2.1 40 = .ok (.goto (-38), 3) := by decide +kernel
theorem dX8_next_43 : decode mX8_next.2.1 43 = .ok (.iconst (-1), 1) := by decide +kernel
theorem dX8_next_44 : decode mX8_next.2.1 44 = .ok (.ireturn, 1) := by decide +kernel
theorem dX8_gives_0 : decode mX8_gives.2.1 0 = .ok (.iconst 0, 1) := by decide +kernel
theorem dX8_gives_1 : decode mX8_gives.2.1 1 = .ok (.istore_n 2, 1) := by decide +kernel
theorem dX8_gives_2 : decode mX8_gives.2.1 2 = .ok (.aload_n 0, 1) := by decide +kernel
theorem dX8_gives_3 : decode mX8_gives.2.1 3 = .ok (.iload_n 1, 1) := by decide +kernel
theorem dX8_gives_4 : decode mX8_gives.2.1 4 = .ok (.invokevirtual 164, 3) := by decide +kernel
theorem dX8_gives_7 : decode mX8_gives.2.1 7 = .ok (.istore_n 3, 1) := by decide +kernel
theorem dX8_gives_8 : decode mX8_gives.2.1 8 = .ok (.iload_n 3, 1) := by decide +kernel
theorem dX8_gives_9 : decode mX8_gives.2.1 9 = .ok (.iconst (-1), 1) := by decide +kernel
theorem dX8_gives_10 : decode mX8_gives.2.1 10 = .ok (.if_icmp .eq 21, 3) := by decide +kernel
theorem dX8_gives_13 : decode mX8_gives.2.1 13 = .ok (.aload_n 0, 1) := by decide +kernel
theorem dX8_gives_14 : decode mX8_gives.2.1 14 = .ok (.iload_n 1, 1) := by decide +kernel
theorem dX8_gives_15 : decode mX8_gives.2.1 15 = .ok (.iload_n 3, 1) := by decide +kernel
theorem dX8_gives_16 : decode mX8_gives.2.1 16 = .ok (.invokevirtual 167, 3) := by decide +kernel
theorem dX8_gives_19 : decode mX8_gives.2.1 19 = .ok (.iinc 2 1, 3) := by decide +kernel
theorem dX8_gives_22 : decode mX8_gives.2.1 22 = .ok (.aload_n 0, 1) := by decide +kernel
theorem dX8_gives_23 : decode mX8_gives.2.1 23 = .ok (.iload_n 1, 1) := by decide +kernel
theorem dX8_gives_24 : decode mX8_gives.2.1 24 = .ok (.invokevirtual 164, 3) := by decide +kernel
theorem dX8_gives_27 : decode mX8_gives.2.1 27 = .ok (.istore_n 3, 1) := by decide +kernel
theorem dX8_gives_28 : decode mX8_gives.2.1 28 = .ok (.goto (-20), 3) := by decide +kernel
theorem dX8_gives_31 : decode mX8_gives.2.1 31 = .ok (.iload_n 2, 1) := by decide +kernel
theorem dX8_gives_32 : decode mX8_gives.2.1 32 = .ok (.ireturn, 1) := by decide +kernel
theorem dX8_give_0 : decode mX8_give.2.1 0 = .ok (.aload_n 0, 1) := by decide +kernel
theorem dX8_give_1 : decode mX8_give.2.1 1 = .ok (.getfield 19, 3) := by decide +kernel
theorem dX8_give_4 : decode mX8_give.2.1 4 = .ok (.iload_n 2, 1) := by decide +kernel
theorem dX8_give_5 : decode mX8_give.2.1 5 = .ok (.iaload, 1) := by decide +kernel
theorem dX8_give_6 : decode mX8_give.2.1 6 = .ok (.istore_n 3, 1) := by decide +kernel
theorem dX8_give_7 : decode mX8_give.2.1 7 = .ok (.aload_n 0, 1) := by decide +kernel
theorem dX8_give_8 : decode mX8_give.2.1 8 = .ok (.getfield 46, 3) := by decide +kernel
theorem dX8_give_11 : decode mX8_give.2.1 11 = .ok (.sipush 200, 3) := by decide +kernel
theorem dX8_give_14 : decode mX8_give.2.1 14 = .ok (.iload_n 1, 1) := by decide +kernel
theorem dX8_give_15 : decode mX8_give.2.1 15 = .ok (.imul, 1) := by decide +kernel
theorem dX8_give_16 : decode mX8_give.2.1 16 = .ok (.iload_n 2, 1) := by decide +kernel
theorem dX8_give_17 : decode mX8_give.2.1 17 = .ok (.iadd, 1) := by decide +kernel
theorem dX8_give_18 : decode mX8_give.2.1 18 = .ok (.iconst 3, 1) := by decide +kernel
theorem dX8_give_19 : decode mX8_give.2.1 19 = .ok (.iastore, 1) := by decide +kernel
theorem dX8_give_20 : decode mX8_give.2.1 20 = .ok (.aload_n 0, 1) := by decide +kernel
theorem dX8_give_21 : decode mX8_give.2.1 21 = .ok (.getfield 49, 3) := by decide +kernel
theorem dX8_give_24 : decode mX8_give.2.1 24 = .ok (.bipush 48, 2) := by decide +kernel
theorem dX8_give_26 : decode mX8_give.2.1 26 = .ok (.iload_n 1, 1) := by decide +kernel
theorem dX8_give_27 : decode mX8_give.2.1 27 = .ok (.imul, 1) := by decide +kernel
theorem dX8_give_28 : decode mX8_give.2.1 28 = .ok (.bipush 8, 2) := by decide +kernel
theorem dX8_give_30 : decode mX8_give.2.1 30 = .ok (.iload_n 3, 1) := by decide +kernel
theorem dX8_give_31 : decode mX8_give.2.1 31 = .ok (.imul, 1) := by decide +kernel
theorem dX8_give_32 : decode mX8_give.2.1 32 = .ok (.iadd, 1) := by decide +kernel
theorem dX8_give_33 : decode mX8_give.2.1 33 = .ok (.aload_n 0, 1) := by decide +kernel
theorem dX8_give_34 : decode mX8_give.2.1 34 = .ok (.getfield 22, 3) := by decide +kernel
theorem dX8_give_37 : decode mX8_give.2.1 37 = .ok (.iload_n 2, 1) := by decide +kernel
theorem dX8_give_38 : decode mX8_give.2.1 38 = .ok (.iaload, 1) := by decide +kernel
theorem dX8_give_39 : decode mX8_give.2.1 39 = .ok (.iadd, 1) := by decide +kernel
theorem dX8_give_40 : decode mX8_give.2.1 40 = .ok (.dup2, 1) := by decide +kernel
theorem dX8_give_41 : decode mX8_give.2.1 41 = .ok (.iaload, 1) := by decide +kernel
theorem dX8_give_42 : decode mX8_give.2.1 42 = .ok (.iconst 1, 1) := by decide +kernel
theorem dX8_give_43 : decode mX8_give.2.1 43 = .ok (.iadd, 1) := by decide +kernel
theorem dX8_give_44 : decode mX8_give.2.1 44 = .ok (.iastore, 1) := by decide +kernel
theorem dX8_give_45 : decode mX8_give.2.1 45 = .ok (.aload_n 0, 1) := by decide +kernel
theorem dX8_give_46 : decode mX8_give.2.1 46 = .ok (.getfield 58, 3) := by decide +kernel
theorem dX8_give_49 : decode mX8_give.2.1 49 = .ok (.sipush 200, 3) := by decide +kernel
theorem dX8_give_52 : decode mX8_give.2.1 52 = .ok (.iload_n 1, 1) := by decide +kernel
theorem dX8_give_53 : decode mX8_give.2.1 53 = .ok (.imul, 1) := by decide +kernel
theorem dX8_give_54 : decode mX8_give.2.1 54 = .ok (.aload_n 0, 1) := by decide +kernel
theorem dX8_give_55 : decode mX8_give.2.1 55 = .ok (.getfield 61, 3) := by decide +kernel
theorem dX8_give_58 : decode mX8_give.2.1 58 = .ok (.iload_n 1, 1) := by decide +kernel
theorem dX8_give_59 : decode mX8_give.2.1 59 = .ok (.iaload, 1) := by decide +kernel
theorem dX8_give_60 : decode mX8_give.2.1 60 = .ok (.iadd, 1) := by decide +kernel
theorem dX8_give_61 : decode mX8_give.2.1 61 = .ok (.iload_n 2, 1) := by decide +kernel
theorem dX8_give_62 : decode mX8_give.2.1 62 = .ok (.iastore, 1) := by decide +kernel
theorem dX8_give_63 : decode mX8_give.2.1 63 = .ok (.aload_n 0, 1) := by decide +kernel
theorem dX8_give_64 : decode mX8_give.2.1 64 = .ok (.getfield 61, 3) := by decide +kernel
theorem dX8_give_67 : decode mX8_give.2.1 67 = .ok (.iload_n 1, 1) := by decide +kernel
theorem dX8_give_68 : decode mX8_give.2.1 68 = .ok (.dup2, 1) := by decide +kernel
theorem dX8_give_69 : decode mX8_give.2.1 69 = .ok (.iaload, 1) := by decide +kernel
theorem dX8_give_70 : decode mX8_give.2.1 70 = .ok (.iconst 1, 1) := by decide +kernel
theorem dX8_give_71 : decode mX8_give.2.1 71 = .ok (.iadd, 1) := by decide +kernel
theorem dX8_give_72 : decode mX8_give.2.1 72 = .ok (.iastore, 1) := by decide +kernel
theorem dX8_give_73 : decode mX8_give.2.1 73 = .ok (.iconst 0, 1) := by decide +kernel
theorem dX8_give_74 : decode mX8_give.2.1 74 = .ok (.istore 4, 2) := by decide +kernel
theorem dX8_give_76 : decode mX8_give.2.1 76 = .ok (.iload 4, 2) := by decide +kernel
theorem dX8_give_78 : decode mX8_give.2.1 78 = .ok (.bipush 40, 2) := by decide +kernel
theorem dX8_give_80 : decode mX8_give.2.1 80 = .ok (.if_icmp .ge 55, 3) := by decide +kernel
theorem dX8_give_83 : decode mX8_give.2.1 83 = .ok (.aload_n 0, 1) := by decide +kernel
theorem dX8_give_84 : decode mX8_give.2.1 84 = .ok (.getfield 69, 3) := by decide +kernel
theorem dX8_give_87 : decode mX8_give.2.1 87 = .ok (.bipush 40, 2) := by decide +kernel
theorem dX8_give_89 : decode mX8_give.2.1 89 = .ok (.iload_n 1, 1) := by decide +kernel
theorem dX8_give_90 : decode mX8_give.2.1 90 = .ok (.imul, 1) := by decide +kernel
theorem dX8_give_91 : decode mX8_give.2.1 91 = .ok (.iload 4, 2) := by decide +kernel
theorem dX8_give_93 : decode mX8_give.2.1 93 = .ok (.iadd, 1) := by decide +kernel
theorem dX8_give_94 : decode mX8_give.2.1 94 = .ok (.aload_n 0, 1) := by decide +kernel
theorem dX8_give_95 : decode mX8_give.2.1 95 = .ok (.getfield 69, 3) := by decide +kernel
theorem dX8_give_98 : decode mX8_give.2.1 98 = .ok (.bipush 40, 2) := by decide +kernel
theorem dX8_give_100 : decode mX8_give.2.1 100 = .ok (.iload_n 1, 1) := by decide +kernel
theorem dX8_give_101 : decode mX8_give.2.1 101 = .ok (.imul, 1) := by decide +kernel
theorem dX8_give_102 : decode mX8_give.2.1 102 = .ok (.iload 4, 2) := by decide +kernel
theorem dX8_give_104 : decode mX8_give.2.1 104 = .ok (.iadd, 1) := by decide +kernel
theorem dX8_give_105 : decode mX8_give.2.1 105 = .ok (.iaload, 1) := by decide +kernel
theorem dX8_give_106 : decode mX8_give.2.1 106 = .ok (.iload_n 2, 1) := by decide +kernel
theorem dX8_give_107 : decode mX8_give.2.1 107 = .ok (.iconst 1, 1) := by decide +kernel
theorem dX8_give_108 : decode mX8_give.2.1 108 = .ok (.iadd, 1) := by decide +kernel
theorem dX8_give_109 : decode mX8_give.2.1 109 = .ok (.if_icmp .ne 7, 3) := by decide +kernel
theorem dX8_give_112 : decode mX8_give.2.1 112 = .ok (.iconst 0, 1) := by decide +kernel
theorem dX8_give_113 : decode mX8_give.2.1 113 = .ok (.goto 15, 3) := by decide +kernel
theorem dX8_give_116 : decode mX8_give.2.1 116 = .ok (.aload_n 0, 1) := by decide +kernel
theorem dX8_give_117 : decode mX8_give.2.1 117 = .ok (.getfield 69, 3) := by decide +kernel
theorem dX8_give_120 : decode mX8_give.2.1 120 = .ok (.bipush 40, 2) := by decide +kernel
theorem dX8_give_122 : decode mX8_give.2.1 122 = .ok (.iload_n 1, 1) := by decide +kernel
theorem dX8_give_123 : decode mX8_give.2.1 123 = .ok (.imul, 1) := by decide +kernel
theorem dX8_give_124 : decode mX8_give.2.1 124 = .ok (.iload 4, 2) := by decide +kernel
theorem dX8_give_126 : decode mX8_give.2.1 126 = .ok (.iadd, 1) := by decide +kernel
theorem dX8_give_127 : decode mX8_give.2.1 127 = .ok (.iaload, 1) := by decide +kernel
theorem dX8_give_128 : decode mX8_give.2.1 128 = .ok (.iastore, 1) := by decide +kernel
theorem dX8_give_129 : decode mX8_give.2.1 129 = .ok (.iinc 4 1, 3) := by decide +kernel
theorem dX8_give_132 : decode mX8_give.2.1 132 = .ok (.goto (-56), 3) := by decide +kernel
theorem dX8_give_135 : decode mX8_give.2.1 135 = .ok (.aload_n 0, 1) := by decide +kernel
theorem dX8_give_136 : decode mX8_give.2.1 136 = .ok (.getfield 16, 3) := by decide +kernel
theorem dX8_give_139 : decode mX8_give.2.1 139 = .ok (.iload_n 2, 1) := by decide +kernel
theorem dX8_give_140 : decode mX8_give.2.1 140 = .ok (.iaload, 1) := by decide +kernel
theorem dX8_give_141 : decode mX8_give.2.1 141 = .ok (.iconst 2, 1) := by decide +kernel
theorem dX8_give_142 : decode mX8_give.2.1 142 = .ok (.if_icmp .ne 112, 3) := by decide +kernel
theorem dX8_give_145 : decode mX8_give.2.1 145 = .ok (.iload_n 1, 1) := by decide +kernel
theorem dX8_give_146 : decode mX8_give.2.1 146 = .ok (.aload_n 0, 1) := by decide +kernel
theorem dX8_give_147 : decode mX8_give.2.1 147 = .ok (.iload_n 3, 1) := by decide +kernel
theorem dX8_give_148 : decode mX8_give.2.1 148 = .ok (.invokevirtual 148, 3) := by decide +kernel
theorem dX8_give_151 : decode mX8_give.2.1 151 = .ok (.if_icmp .ne 103, 3) := by decide +kernel
theorem dX8_give_154 : decode mX8_give.2.1 154 = .ok (.aload_n 0, 1) := by decide +kernel
theorem dX8_give_155 : decode mX8_give.2.1 155 = .ok (.getfield 31, 3) := by decide +kernel
theorem dX8_give_158 : decode mX8_give.2.1 158 = .ok (.iload_n 2, 1) := by decide +kernel
theorem dX8_give_159 : decode mX8_give.2.1 159 = .ok (.aload_n 0, 1) := by decide +kernel
theorem dX8_give_160 : decode mX8_give.2.1 160 = .ok (.getfield 13, 3) := by decide +kernel
theorem dX8_give_163 : decode mX8_give.2.1 163 = .ok (.iload_n 3, 1) := by decide +kernel
theorem dX8_give_164 : decode mX8_give.2.1 164 = .ok (.iaload, 1) := by decide +kernel
theorem dX8_give_165 : decode mX8_give.2.1 165 = .ok (.iastore, 1) := by decide +kernel
theorem dX8_give_166 : decode mX8_give.2.1 166 = .ok (.aload_n 0, 1) := by decide +kernel
theorem dX8_give_167 : decode mX8_give.2.1 167 = .ok (.getfield 13, 3) := by decide +kernel
theorem dX8_give_170 : decode mX8_give.2.1 170 = .ok (.iload_n 3, 1) := by decide +kernel
theorem dX8_give_171 : decode mX8_give.2.1 171 = .ok (.dup2, 1) := by decide +kernel
theorem dX8_give_172 : decode mX8_give.2.1 172 = .ok (.iaload, 1) := by decide +kernel
theorem dX8_give_173 : decode mX8_give.2.1 173 = .ok (.iconst 1, 1) := by decide +kernel
theorem dX8_give_174 : decode mX8_give.2.1 174 = .ok (.iadd, 1) := by decide +kernel
theorem dX8_give_175 : decode mX8_give.2.1 175 = .ok (.iastore, 1) := by decide +kernel
theorem dX8_give_176 : decode mX8_give.2.1 176 = .ok (.aload_n 0, 1) := by decide +kernel
theorem dX8_give_177 : decode mX8_give.2.1 177 = .ok (.iconst 3, 1) := by decide +kernel
theorem dX8_give_178 : decode mX8_give.2.1 178 = .ok (.iload_n 1, 1) := by decide +kernel
theorem dX8_give_179 : decode mX8_give.2.1 179 = .ok (.iload_n 3, 1) := by decide +kernel
theorem dX8_give_180 : decode mX8_give.2.1 180 = .ok (.iload_n 2, 1) := by decide +kernel
theorem dX8_give_181 : decode mX8_give.2.1 181 = .ok (.invokevirtual 123, 3) := by decide +kernel
theorem dX8_give_184 : decode mX8_give.2.1 184 = .ok (.istore 4, 2) := by decide +kernel
theorem dX8_give_186 : decode mX8_give.2.1 186 = .ok (.aload_n 0, 1) := by decide +kernel
theorem dX8_give_187 : decode mX8_give.2.1 187 = .ok (.getfield 34, 3) := by decide +kernel
theorem dX8_give_190 : decode mX8_give.2.1 190 = .ok (.iload_n 2, 1) := by decide +kernel
theorem dX8_give_191 : decode mX8_give.2.1 191 = .ok (.iload 4, 2) := by decide +kernel
theorem dX8_give_193 : decode mX8_give.2.1 193 = .ok (.iastore, 1) := by decide +kernel
theorem dX8_give_194 : decode mX8_give.2.1 194 = .ok (.aload_n 0, 1) := by decide +kernel
theorem dX8_give_195 : decode mX8_give.2.1 195 = .ok (.getfield 40, 3) := by decide +kernel
theorem dX8_give_198 : decode mX8_give.2.1 198 = .ok (.iload 4, 2) := by decide +kernel
theorem dX8_give_200 : decode mX8_give.2.1 200 = .ok (.aload_n 0, 1) := by decide +kernel
theorem dX8_give_201 : decode mX8_give.2.1 201 = .ok (.getfield 40, 3) := by decide +kernel
theorem dX8_give_204 : decode mX8_give.2.1 204 = .ok (.iload_n 2, 1) := by decide +kernel
theorem dX8_give_205 : decode mX8_give.2.1 205 = .ok (.iaload, 1) := by decide +kernel
theorem dX8_give_206 : decode mX8_give.2.1 206 = .ok (.iastore, 1) := by decide +kernel
theorem dX8_give_207 : decode mX8_give.2.1 207 = .ok (.iconst 0, 1) := by decide +kernel
theorem dX8_give_208 : decode mX8_give.2.1 208 = .ok (.istore 5, 2) := by decide +kernel
theorem dX8_give_210 : decode mX8_give.2.1 210 = .ok (.iload 5, 2) := by decide +kernel
theorem dX8_give_212 : decode mX8_give.2.1 212 = .ok (.bipush 48, 2) := by decide +kernel
theorem dX8_give_214 : decode mX8_give.2.1 214 = .ok (.if_icmp .ge 34, 3) := by decide +kernel
theorem dX8_give_217 : decode mX8_give.2.1 217 = .ok (.aload_n 0, 1) := by decide +kernel
theorem dX8_give_218 : decode mX8_give.2.1 218 = .ok (.getfield 43, 3) := by decide +kernel
theorem dX8_give_221 : decode mX8_give.2.1 221 = .ok (.bipush 48, 2) := by decide +kernel
theorem dX8_give_223 : decode mX8_give.2.1 223 = .ok (.iload 4, 2) := by decide +kernel
theorem dX8_give_225 : decode mX8_give.2.1 225 = .ok (.imul, 1) := by decide +kernel
theorem dX8_give_226 : decode mX8_give.2.1 226 = .ok (.iload 5, 2) := by decide +kernel
theorem dX8_give_228 : decode mX8_give.2.1 228 = .ok (.iadd, 1) := by decide +kernel
theorem dX8_give_229 : decode mX8_give.2.1 229 = .ok (.aload_n 0, 1) := by decide +kernel
theorem dX8_give_230 : decode mX8_give.2.1 230 = .ok (.getfield 43, 3) := by decide +kernel
theorem dX8_give_233 : decode mX8_give.2.1 233 = .ok (.bipush 48, 2) := by decide +kernel
theorem dX8_give_235 : decode mX8_give.2.1 235 = .ok (.iload_n 2, 1) := by decide +kernel
theorem dX8_give_236 : decode mX8_give.2.1 236 = .ok (.imul, 1) := by decide +kernel
theorem dX8_give_237 : decode mX8_give.2.1 237 = .ok (.iload 5, 2) := by decide +kernel
theorem dX8_give_239 : decode mX8_give.2.1 239 = .ok (.iadd, 1) := by decide +kernel
theorem dX8_give_240 : decode mX8_give.2.1 240 = .ok (.iaload, 1) := by decide +kernel
theorem dX8_give_241 : decode mX8_give.2.1 241 = .ok (.iastore, 1) := by decide +kernel
theorem dX8_give_242 : decode mX8_give.2.1 242 = .ok (.iinc 5 1, 3) := by decide +kernel
theorem dX8_give_245 : decode mX8_give.2.1 245 = .ok (.goto (-35), 3) := by decide +kernel
theorem dX8_give_248 : decode mX8_give.2.1 248 = .ok (.aload_n 0, 1) := by decide +kernel
theorem dX8_give_249 : decode mX8_give.2.1 249 = .ok (.iload 4, 2) := by decide +kernel
theorem dX8_give_251 : decode mX8_give.2.1 251 = .ok (.invokevirtual 131, 3) := by decide +kernel
theorem dX8_give_254 : decode mX8_give.2.1 254 = .ok (.return_, 1) := by decide +kernel
theorem dX8_deliver_0 : decode mX8_deliver.2.1 0 = .ok (.aload_n 0, 1) := by decide +kernel
theorem dX8_deliver_1 : decode mX8_deliver.2.1 1 = .ok (.iload_n 1, 1) := by decide +kernel
theorem dX8_deliver_2 : decode mX8_deliver.2.1 2 = .ok (.invokevirtual 142, 3) := by decide +kernel
theorem dX8_deliver_5 : decode mX8_deliver.2.1 5 = .ok (.ifCond .eq 11, 3) := by decide +kernel
theorem dX8_deliver_8 : decode mX8_deliver.2.1 8 = .ok (.aload_n 0, 1) := by decide +kernel
theorem dX8_deliver_9 : decode mX8_deliver.2.1 9 = .ok (.iload_n 2, 1) := by decide +kernel
theorem dX8_deliver_10 : decode mX8_deliver.2.1 10 = .ok (.invokevirtual 113, 3) := by decide +kernel
theorem dX8_deliver_13 : decode mX8_deliver.2.1 13 = .ok (.ifCond .ne 9, 3) := by decide +kernel
theorem dX8_deliver_16 : decode mX8_deliver.2.1 16 = .ok (.aload_n 0, 1) := by decide +kernel
theorem dX8_deliver_17 : decode mX8_deliver.2.1 17 = .ok (.iconst 1, 1) := by decide +kernel
theorem dX8_deliver_18 : decode mX8_deliver.2.1 18 = .ok (.invokevirtual 103, 3) := by decide +kernel
theorem dX8_deliver_21 : decode mX8_deliver.2.1 21 = .ok (.ireturn, 1) := by decide +kernel
theorem dX8_deliver_22 : decode mX8_deliver.2.1 22 = .ok (.aload_n 0, 1) := by decide +kernel
theorem dX8_deliver_23 : decode mX8_deliver.2.1 23 = .ok (.getfield 46, 3) := by decide +kernel
theorem dX8_deliver_26 : decode mX8_deliver.2.1 26 = .ok (.sipush 200, 3) := by decide +kernel
theorem dX8_deliver_29 : decode mX8_deliver.2.1 29 = .ok (.iload_n 2, 1) := by decide +kernel
theorem dX8_deliver_30 : decode mX8_deliver.2.1 30 = .ok (.imul, 1) := by decide +kernel
theorem dX8_deliver_31 : decode mX8_deliver.2.1 31 = .ok (.iload_n 1, 1) := by decide +kernel
theorem dX8_deliver_32 : decode mX8_deliver.2.1 32 = .ok (.iadd, 1) := by decide +kernel
theorem dX8_deliver_33 : decode mX8_deliver.2.1 33 = .ok (.iaload, 1) := by decide +kernel
theorem dX8_deliver_34 : decode mX8_deliver.2.1 34 = .ok (.iconst 1, 1) := by decide +kernel
theorem dX8_deliver_35 : decode mX8_deliver.2.1 35 = .ok (.if_icmp .eq 9, 3) := by decide +kernel
theorem dX8_deliver_38 : decode mX8_deliver.2.1 38 = .ok (.aload_n 0, 1) := by decide +kernel
theorem dX8_deliver_39 : decode mX8_deliver.2.1 39 = .ok (.iconst 3, 1) := by decide +kernel
theorem dX8_deliver_40 : decode mX8_deliver.2.1 40 = .ok (.invokevirtual 103, 3) := by decide +kernel
theorem dX8_deliver_43 : decode mX8_deliver.2.1 43 = .ok (.ireturn, 1) := by decide +kernel
theorem dX8_deliver_44 : decode mX8_deliver.2.1 44 = .ok (.aload_n 0, 1) := by decide +kernel
theorem dX8_deliver_45 : decode mX8_deliver.2.1 45 = .ok (.iload_n 2, 1) := by decide +kernel
theorem dX8_deliver_46 : decode mX8_deliver.2.1 46 = .ok (.iload_n 1, 1) := by decide +kernel
theorem dX8_deliver_47 : decode mX8_deliver.2.1 47 = .ok (.invokevirtual 109, 3) := by decide +kernel
theorem dX8_deliver_50 : decode mX8_deliver.2.1 50 = .ok (.aload_n 0, 1) := by decide +kernel
theorem dX8_deliver_51 : decode mX8_deliver.2.1 51 = .ok (.aload_n 0, 1) := by decide +kernel
theorem dX8_deliver_52 : decode mX8_deliver.2.1 52 = .ok (.iload_n 2, 1) := by decide +kernel
theorem dX8_deliver_53 : decode mX8_deliver.2.1 53 = .ok (.invokevirtual 135, 3) := by decide +kernel
theorem dX8_deliver_56 : decode mX8_deliver.2.1 56 = .ok (.invokevirtual 106, 3) := by decide +kernel
theorem dX8_deliver_59 : decode mX8_deliver.2.1 59 = .ok (.ireturn, 1) := by decide +kernel
theorem dX8_lineOf_0 : decode mX8_lineOf.2.1 0 = .ok (.iconst 0, 1) := by decide +kernel
theorem dX8_lineOf_1 : decode mX8_lineOf.2.1 1 = .ok (.istore_n 2, 1) := by decide +kernel
theorem dX8_lineOf_2 : decode mX8_lineOf.2.1 2 = .ok (.iload_n 2, 1) := by decide +kernel
theorem dX8_lineOf_3 : decode mX8_lineOf.2.1 3 = .ok (.aload_n 0, 1) := by decide +kernel
theorem dX8_lineOf_4 : decode mX8_lineOf.2.1 4 = .ok (.getfield 78, 3) := by decide +kernel
theorem dX8_lineOf_7 : decode mX8_lineOf.2.1 7 = .ok (.if_icmp .ge 27, 3) := by decide +kernel
theorem dX8_lineOf_10 : decode mX8_lineOf.2.1 10 = .ok (.aload_n 0, 1) := by decide +kernel
theorem dX8_lineOf_11 : decode mX8_lineOf.2.1 11 = .ok (.getfield 46, 3) := by decide +kernel
theorem dX8_lineOf_14 : decode mX8_lineOf.2.1 14 = .ok (.sipush 200, 3) := by decide +kernel
theorem dX8_lineOf_17 : decode mX8_lineOf.2.1 17 = .ok (.iload_n 2, 1) := by decide +kernel
theorem dX8_lineOf_18 : decode mX8_lineOf.2.1 18 = .ok (.imul, 1) := by decide +kernel
theorem dX8_lineOf_19 : decode mX8_lineOf.2.1 19 = .ok (.iload_n 1, 1) := by decide +kernel
theorem dX8_lineOf_20 : decode mX8_lineOf.2.1 20 = .ok (.iadd, 1) := by decide +kernel
theorem dX8_lineOf_21 : decode mX8_lineOf.2.1 21 = .ok (.iaload, 1) := by decide +kernel
theorem dX8_lineOf_22 : decode mX8_lineOf.2.1 22 = .ok (.iconst 1, 1) := by decide +kernel
theorem dX8_lineOf_23 : decode mX8_lineOf.2.1 23 = .ok (.if_icmp .ne 5, 3) := by decide +kernel
theorem dX8_lineOf_26 : decode mX8_lineOf.2.1 26 = .ok (.iload_n 2, 1) := by decide +kernel
theorem dX8_lineOf_27 : decode mX8_lineOf.2.1 27 = .ok (.ireturn, 1) := by decide +kernel
theorem dX8_lineOf_28 : decode mX8_lineOf.2.1 28 = .ok (.iinc 2 1, 3) := by decide +kernel
theorem dX8_lineOf_31 : decode mX8_lineOf.2.1 31 = .ok (.goto (-29), 3) := by decide +kernel
theorem dX8_lineOf_34 : decode mX8_lineOf.2.1 34 = .ok (.iconst (-1), 1) := by decide +kernel
theorem dX8_lineOf_35 : decode mX8_lineOf.2.1 35 = .ok (.ireturn, 1) := by decide +kernel
theorem dX8_lined_0 : decode mX8_lined.2.1 0 = .ok (.iconst (-1), 1) := by decide +kernel
theorem dX8_lined_1 : decode mX8_lined.2.1 1 = .ok (.istore_n 3, 1) := by decide +kernel
theorem dX8_lined_2 : decode mX8_lined.2.1 2 = .ok (.iconst 0, 1) := by decide +kernel
theorem dX8_lined_3 : decode mX8_lined.2.1 3 = .ok (.istore 4, 2) := by decide +kernel
theorem dX8_lined_5 : decode mX8_lined.2.1 5 = .ok (.iload 4, 2) := by decide +kernel
theorem dX8_lined_7 : decode mX8_lined.2.1 7 = .ok (.aload_n 0, 1) := by decide +kernel
theorem dX8_lined_8 : decode mX8_lined.2.1 8 = .ok (.getfield 89, 3) := by decide +kernel
theorem dX8_lined_11 : decode mX8_lined.2.1 11 = .ok (.if_icmp .ge 59, 3) := by decide +kernel
theorem dX8_lined_14 : decode mX8_lined.2.1 14 = .ok (.aload_n 0, 1) := by decide +kernel
theorem dX8_lined_15 : decode mX8_lined.2.1 15 = .ok (.getfield 19, 3) := by decide +kernel
theorem dX8_lined_18 : decode mX8_lined.2.1 18 = .ok (.iload 4, 2) := by decide +kernel
theorem dX8_lined_20 : decode mX8_lined.2.1 20 = .ok (.iaload, 1) := by decide +kernel
theorem dX8_lined_21 : decode mX8_lined.2.1 21 = .ok (.iload_n 1, 1) := by decide +kernel
theorem dX8_lined_22 : decode mX8_lined.2.1 22 = .ok (.if_icmp .ne 17, 3) := by decide +kernel
theorem dX8_lined_25 : decode mX8_lined.2.1 25 = .ok (.aload_n 0, 1) := by decide +kernel
theorem dX8_lined_26 : decode mX8_lined.2.1 26 = .ok (.iload 4, 2) := by decide +kernel
theorem dX8_lined_28 : decode mX8_lined.2.1 28 = .ok (.invokevirtual 170, 3) := by decide +kernel
theorem dX8_lined_31 : decode mX8_lined.2.1 31 = .ok (.iconst (-1), 1) := by decide +kernel
theorem dX8_lined_32 : decode mX8_lined.2.1 32 = .ok (.if_icmp .eq 7, 3) := by decide +kernel
theorem dX8_lined_35 : decode mX8_lined.2.1 35 = .ok (.iconst 1, 1) := by decide +kernel
theorem dX8_lined_36 : decode mX8_lined.2.1 36 = .ok (.goto 4, 3) := by decide +kernel
theorem dX8_lined_39 : decode mX8_lined.2.1 39 = .ok (.iconst 0, 1) := by decide +kernel
theorem dX8_lined_40 : decode mX8_lined.2.1 40 = .ok (.istore 5, 2) := by decide +kernel
theorem dX8_lined_42 : decode mX8_lined.2.1 42 = .ok (.iload 5, 2) := by decide +kernel
theorem dX8_lined_44 : decode mX8_lined.2.1 44 = .ok (.ifCond .eq 18, 3) := by decide +kernel
theorem dX8_lined_47 : decode mX8_lined.2.1 47 = .ok (.iload_n 3, 1) := by decide +kernel
theorem dX8_lined_48 : decode mX8_lined.2.1 48 = .ok (.iconst (-1), 1) := by decide +kernel
theorem dX8_lined_49 : decode mX8_lined.2.1 49 = .ok (.if_icmp .eq 8, 3) := by decide +kernel
theorem dX8_lined_52 : decode mX8_lined.2.1 52 = .ok (.iload_n 2, 1) := by decide +kernel
theorem dX8_lined_53 : decode mX8_lined.2.1 53 = .ok (.iconst 1, 1) := by decide +kernel
theorem dX8_lined_54 : decode mX8_lined.2.1 54 = .ok (.if_icmp .ne 8, 3) := by decide +kernel
theorem dX8_lined_57 : decode mX8_lined.2.1 57 = .ok (.iload 4, 2) := by decide +kernel
theorem dX8_lined_59 : decode mX8_lined.2.1 59 = .ok (.goto 4, 3) := by decide +kernel
theorem dX8_lined_62 : decode mX8_lined.2.1 62 = .ok (.iload_n 3, 1) := by decide +kernel
theorem dX8_lined_63 : decode mX8_lined.2.1 63 = .ok (.istore_n 3, 1) := by decide +kernel
theorem dX8_lined_64 : decode mX8_lined.2.1 64 = .ok (.iinc 4 1, 3) := by decide +kernel
theorem dX8_lined_67 : decode mX8_lined.2.1 67 = .ok (.goto (-62), 3) := by decide +kernel
theorem dX8_lined_70 : decode mX8_lined.2.1 70 = .ok (.iload_n 3, 1) := by decide +kernel
theorem dX8_lined_71 : decode mX8_lined.2.1 71 = .ok (.ireturn, 1) := by decide +kernel
theorem dX8_deliverAll_0 : decode mX8_deliverAll.2.1 0 = .ok (.aload_n 0, 1) := by decide +kernel
theorem dX8_deliverAll_1 : decode mX8_deliverAll.2.1 1 = .ok (.iload_n 1, 1) := by decide +kernel
theorem dX8_deliverAll_2 : decode mX8_deliverAll.2.1 2 = .ok (.invokevirtual 117, 3) := by decide +kernel
theorem dX8_deliverAll_5 : decode mX8_deliverAll.2.1 5 = .ok (.ifCond .eq 12, 3) := by decide +kernel
theorem dX8_deliverAll_8 : decode mX8_deliverAll.2.1 8 = .ok (.iload_n 2, 1) := by decide +kernel
theorem dX8_deliverAll_9 : decode mX8_deliverAll.2.1 9 = .ok (.iconst 0, 1) := by decide +kernel
theorem dX8_deliverAll_10 : decode mX8_deliverAll.2.1 10 = .ok (.iconst 1, 1) := by decide +kernel
theorem dX8_deliverAll_11 : decode mX8_deliverAll.2.1 11 = .ok (.invokestatic 82, 3) := by decide +kernel
theorem dX8_deliverAll_14 : decode mX8_deliverAll.2.1 14 = .ok (.ifCond .ne 9, 3) := by decide +kernel
theorem dX8_deliverAll_17 : decode mX8_deliverAll.2.1 17 = .ok (.aload_n 0, 1) := by decide +kernel
theorem dX8_deliverAll_18 : decode mX8_deliverAll.2.1 18 = .ok (.iconst 1, 1) := by decide +kernel
theorem dX8_deliverAll_19 : decode mX8_deliverAll.2.1 19 = .ok (.invokevirtual 103, 3) := by decide +kernel
theorem dX8_deliverAll_22 : decode mX8_deliverAll.2.1 22 = .ok (.ireturn, 1) := by decide +kernel
theorem dX8_deliverAll_23 : decode mX8_deliverAll.2.1 23 = .ok (.iconst 0, 1) := by decide +kernel
theorem dX8_deliverAll_24 : decode mX8_deliverAll.2.1 24 = .ok (.istore_n 3, 1) := by decide +kernel
theorem dX8_deliverAll_25 : decode mX8_deliverAll.2.1 25 = .ok (.aload_n 0, 1) := by decide +kernel
theorem dX8_deliverAll_26 : decode mX8_deliverAll.2.1 26 = .ok (.iload_n 1, 1) := by decide +kernel
theorem dX8_deliverAll_27 : decode mX8_deliverAll.2.1 27 = .ok (.iload_n 2, 1) := by decide +kernel
theorem dX8_deliverAll_28 : decode mX8_deliverAll.2.1 28 = .ok (.invokevirtual 173, 3) := by decide +kernel
theorem dX8_deliverAll_31 : decode mX8_deliverAll.2.1 31 = .ok (.istore 4, 2) := by decide +kernel
theorem dX8_deliverAll_33 : decode mX8_deliverAll.2.1 33 = .ok (.iload 4, 2) := by decide +kernel
theorem dX8_deliverAll_35 : decode mX8_deliverAll.2.1 35 = .ok (.iconst (-1), 1) := by decide +kernel
theorem dX8_deliverAll_36 : decode mX8_deliverAll.2.1 36 = .ok (.if_icmp .eq 40, 3) := by decide +kernel
theorem dX8_deliverAll_39 : decode mX8_deliverAll.2.1 39 = .ok (.aload_n 0, 1) := by decide +kernel
theorem dX8_deliverAll_40 : decode mX8_deliverAll.2.1 40 = .ok (.iload 4, 2) := by decide +kernel
theorem dX8_deliverAll_42 : decode mX8_deliverAll.2.1 42 = .ok (.invokevirtual 170, 3) := by decide +kernel
theorem dX8_deliverAll_45 : decode mX8_deliverAll.2.1 45 = .ok (.istore 5, 2) := by decide +kernel
theorem dX8_deliverAll_47 : decode mX8_deliverAll.2.1 47 = .ok (.aload_n 0, 1) := by decide +kernel
theorem dX8_deliverAll_48 : decode mX8_deliverAll.2.1 48 = .ok (.iload 5, 2) := by decide +kernel
theorem dX8_deliverAll_50 : decode mX8_deliverAll.2.1 50 = .ok (.iload 4, 2) := by decide +kernel
theorem dX8_deliverAll_52 : decode mX8_deliverAll.2.1 52 = .ok (.invokevirtual 109, 3) := by decide +kernel
theorem dX8_deliverAll_55 : decode mX8_deliverAll.2.1 55 = .ok (.aload_n 0, 1) := by decide +kernel
theorem dX8_deliverAll_56 : decode mX8_deliverAll.2.1 56 = .ok (.iload 5, 2) := by decide +kernel
theorem dX8_deliverAll_58 : decode mX8_deliverAll.2.1 58 = .ok (.invokevirtual 135, 3) := by decide +kernel
theorem dX8_deliverAll_61 : decode mX8_deliverAll.2.1 61 = .ok (.pop, 1) := by decide +kernel
theorem dX8_deliverAll_62 : decode mX8_deliverAll.2.1 62 = .ok (.iinc 3 1, 3) := by decide +kernel
theorem dX8_deliverAll_65 : decode mX8_deliverAll.2.1 65 = .ok (.aload_n 0, 1) := by decide +kernel
theorem dX8_deliverAll_66 : decode mX8_deliverAll.2.1 66 = .ok (.iload_n 1, 1) := by decide +kernel
theorem dX8_deliverAll_67 : decode mX8_deliverAll.2.1 67 = .ok (.iload_n 2, 1) := by decide +kernel
theorem dX8_deliverAll_68 : decode mX8_deliverAll.2.1 68 = .ok (.invokevirtual 173, 3) := by decide +kernel
theorem dX8_deliverAll_71 : decode mX8_deliverAll.2.1 71 = .ok (.istore 4, 2) := by decide +kernel
theorem dX8_deliverAll_73 : decode mX8_deliverAll.2.1 73 = .ok (.goto (-40), 3) := by decide +kernel
theorem dX8_deliverAll_76 : decode mX8_deliverAll.2.1 76 = .ok (.aload_n 0, 1) := by decide +kernel
theorem dX8_deliverAll_77 : decode mX8_deliverAll.2.1 77 = .ok (.iload_n 3, 1) := by decide +kernel
theorem dX8_deliverAll_78 : decode mX8_deliverAll.2.1 78 = .ok (.invokevirtual 106, 3) := by decide +kernel
theorem dX8_deliverAll_81 : decode mX8_deliverAll.2.1 81 = .ok (.ireturn, 1) := by decide +kernel
theorem dX8_count_0 : decode mX8_count.2.1 0 = .ok (.iload_n 1, 1) := by decide +kernel
theorem dX8_count_1 : decode mX8_count.2.1 1 = .ok (.ifCond .ne 10, 3) := by decide +kernel
theorem dX8_count_4 : decode mX8_count.2.1 4 = .ok (.aload_n 0, 1) := by decide +kernel
theorem dX8_count_5 : decode mX8_count.2.1 5 = .ok (.getfield 78, 3) := by decide +kernel
theorem dX8_count_8 : decode mX8_count.2.1 8 = .ok (.goto 40, 3) := by decide +kernel
theorem dX8_count_11 : decode mX8_count.2.1 11 = .ok (.iload_n 1, 1) := by decide +kernel
theorem dX8_count_12 : decode mX8_count.2.1 12 = .ok (.iconst 1, 1) := by decide +kernel
theorem dX8_count_13 : decode mX8_count.2.1 13 = .ok (.if_icmp .ne 10, 3) := by decide +kernel
theorem dX8_count_16 : decode mX8_count.2.1 16 = .ok (.aload_n 0, 1) := by decide +kernel
theorem dX8_count_17 : decode mX8_count.2.1 17 = .ok (.getfield 86, 3) := by decide +kernel
theorem dX8_count_20 : decode mX8_count.2.1 20 = .ok (.goto 28, 3) := by decide +kernel
theorem dX8_count_23 : decode mX8_count.2.1 23 = .ok (.iload_n 1, 1) := by decide +kernel
theorem dX8_count_24 : decode mX8_count.2.1 24 = .ok (.iconst 2, 1) := by decide +kernel
theorem dX8_count_25 : decode mX8_count.2.1 25 = .ok (.if_icmp .ne 10, 3) := by decide +kernel
theorem dX8_count_28 : decode mX8_count.2.1 28 = .ok (.aload_n 0, 1) := by decide +kernel
theorem dX8_count_29 : decode mX8_count.2.1 29 = .ok (.getfield 89, 3) := by decide +kernel
theorem dX8_count_32 : decode mX8_count.2.1 32 = .ok (.goto 16, 3) := by decide +kernel
theorem dX8_count_35 : decode mX8_count.2.1 35 = .ok (.iload_n 1, 1) := by decide +kernel
theorem dX8_count_36 : decode mX8_count.2.1 36 = .ok (.iconst 3, 1) := by decide +kernel
theorem dX8_count_37 : decode mX8_count.2.1 37 = .ok (.if_icmp .ne 10, 3) := by decide +kernel
theorem dX8_count_40 : decode mX8_count.2.1 40 = .ok (.aload_n 0, 1) := by decide +kernel
theorem dX8_count_41 : decode mX8_count.2.1 41 = .ok (.getfield 176, 3) := by decide +kernel
theorem dX8_count_44 : decode mX8_count.2.1 44 = .ok (.goto 4, 3) := by decide +kernel
theorem dX8_count_47 : decode mX8_count.2.1 47 = .ok (.iconst (-1), 1) := by decide +kernel
theorem dX8_count_48 : decode mX8_count.2.1 48 = .ok (.ireturn, 1) := by decide +kernel
theorem dX8_countsOf_0 : decode mX8_countsOf.2.1 0 = .ok (.iconst 0, 1) := by decide +kernel
theorem dX8_countsOf_1 : decode mX8_countsOf.2.1 1 = .ok (.istore_n 2, 1) := by decide +kernel
theorem dX8_countsOf_2 : decode mX8_countsOf.2.1 2 = .ok (.iconst 0, 1) := by decide +kernel
theorem dX8_countsOf_3 : decode mX8_countsOf.2.1 3 = .ok (.istore_n 3, 1) := by decide +kernel
theorem dX8_countsOf_4 : decode mX8_countsOf.2.1 4 = .ok (.iload_n 3, 1) := by decide +kernel
theorem dX8_countsOf_5 : decode mX8_countsOf.2.1 5 = .ok (.bipush 8, 2) := by decide +kernel
theorem dX8_countsOf_7 : decode mX8_countsOf.2.1 7 = .ok (.aload_n 0, 1) := by decide +kernel
theorem dX8_countsOf_8 : decode mX8_countsOf.2.1 8 = .ok (.getfield 86, 3) := by decide +kernel
theorem dX8_countsOf_11 : decode mX8_countsOf.2.1 11 = .ok (.imul, 1) := by decide +kernel
theorem dX8_countsOf_12 : decode mX8_countsOf.2.1 12 = .ok (.if_icmp .ge 49, 3) := by decide +kernel
theorem dX8_countsOf_15 : decode mX8_countsOf.2.1 15 = .ok (.iload_n 2, 1) := by decide +kernel
theorem dX8_countsOf_16 : decode mX8_countsOf.2.1 16 = .ok (.aload_n 0, 1) := by decide +kernel
theorem dX8_countsOf_17 : decode mX8_countsOf.2.1 17 = .ok (.getfield 40, 3) := by decide +kernel
theorem dX8_countsOf_20 : decode mX8_countsOf.2.1 20 = .ok (.iload_n 1, 1) := by decide +kernel
theorem dX8_countsOf_21 : decode mX8_countsOf.2.1 21 = .ok (.iaload, 1) := by decide +kernel
theorem dX8_countsOf_22 : decode mX8_countsOf.2.1 22 = .ok (.iload_n 3, 1) := by decide +kernel
theorem dX8_countsOf_23 : decode mX8_countsOf.2.1 23 = .ok (.bipush 8, 2) := by decide +kernel
theorem dX8_countsOf_25 : decode mX8_countsOf.2.1 25 = .ok (.idiv, 1) := by decide +kernel
theorem dX8_countsOf_26 : decode mX8_countsOf.2.1 26 = .ok (.ishr, 1) := by decide +kernel
theorem dX8_countsOf_27 : decode mX8_countsOf.2.1 27 = .ok (.iconst 1, 1) := by decide +kernel
theorem dX8_countsOf_28 : decode mX8_countsOf.2.1 28 = .ok (.iand, 1) := by decide +kernel
theorem dX8_countsOf_29 : decode mX8_countsOf.2.1 29 = .ok (.iconst 1, 1) := by decide +kernel
theorem dX8_countsOf_30 : decode mX8_countsOf.2.1 30 = .ok (.if_icmp .ne 22, 3) := by decide +kernel
theorem dX8_countsOf_33 : decode mX8_countsOf.2.1 33 = .ok (.aload_n 0, 1) := by decide +kernel
theorem dX8_countsOf_34 : decode mX8_countsOf.2.1 34 = .ok (.iload_n 3, 1) := by decide +kernel
theorem dX8_countsOf_35 : decode mX8_countsOf.2.1 35 = .ok (.bipush 8, 2) := by decide +kernel
theorem dX8_countsOf_37 : decode mX8_countsOf.2.1 37 = .ok (.irem, 1) := by decide +kernel
theorem dX8_countsOf_38 : decode mX8_countsOf.2.1 38 = .ok (.iload_n 3, 1) := by decide +kernel
theorem dX8_countsOf_39 : decode mX8_countsOf.2.1 39 = .ok (.bipush 8, 2) := by decide +kernel
theorem dX8_countsOf_41 : decode mX8_countsOf.2.1 41 = .ok (.idiv, 1) := by decide +kernel
theorem dX8_countsOf_42 : decode mX8_countsOf.2.1 42 = .ok (.invokevirtual 92, 3) := by decide +kernel
theorem dX8_countsOf_45 : decode mX8_countsOf.2.1 45 = .ok (.ifCond .eq 7, 3) := by decide +kernel
theorem dX8_countsOf_48 : decode mX8_countsOf.2.1 48 = .ok (.iconst 1, 1) := by decide +kernel
theorem dX8_countsOf_49 : decode mX8_countsOf.2.1 49 = .ok (.goto 4, 3) := by decide +kernel
theorem dX8_countsOf_52 : decode mX8_countsOf.2.1 52 = .ok (.iconst 0, 1) := by decide +kernel
theorem dX8_countsOf_53 : decode mX8_countsOf.2.1 53 = .ok (.iadd, 1) := by decide +kernel
theorem dX8_countsOf_54 : decode mX8_countsOf.2.1 54 = .ok (.istore_n 2, 1) := by decide +kernel
theorem dX8_countsOf_55 : decode mX8_countsOf.2.1 55 = .ok (.iinc 3 1, 3) := by decide +kernel
theorem dX8_countsOf_58 : decode mX8_countsOf.2.1 58 = .ok (.goto (-54), 3) := by decide +kernel
theorem dX8_countsOf_61 : decode mX8_countsOf.2.1 61 = .ok (.iload_n 2, 1) := by decide +kernel
theorem dX8_countsOf_62 : decode mX8_countsOf.2.1 62 = .ok (.ireturn, 1) := by decide +kernel
theorem dX8_told_0 : decode mX8_told.2.1 0 = .ok (.aload_n 0, 1) := by decide +kernel
theorem dX8_told_1 : decode mX8_told.2.1 1 = .ok (.iload_n 1, 1) := by decide +kernel
theorem dX8_told_2 : decode mX8_told.2.1 2 = .ok (.invokevirtual 142, 3) := by decide +kernel
theorem dX8_told_5 : decode mX8_told.2.1 5 = .ok (.ifCond .ne 5, 3) := by decide +kernel
theorem dX8_told_8 : decode mX8_told.2.1 8 = .ok (.iconst (-1), 1) := by decide +kernel
theorem dX8_told_9 : decode mX8_told.2.1 9 = .ok (.ireturn, 1) := by decide +kernel
theorem dX8_told_10 : decode mX8_told.2.1 10 = .ok (.iload_n 2, 1) := by decide +kernel
theorem dX8_told_11 : decode mX8_told.2.1 11 = .ok (.tableswitch 100 0 7 #[45, 52, 59, 66, 73, 80, 87, 93], 45) := by decide +kernel
theorem dX8_told_56 : decode mX8_told.2.1 56 = .ok (.aload_n 0, 1) := by decide +kernel
theorem dX8_told_57 : decode mX8_told.2.1 57 = .ok (.getfield 16, 3) := by decide +kernel
theorem dX8_told_60 : decode mX8_told.2.1 60 = .ok (.iload_n 1, 1) := by decide +kernel
theorem dX8_told_61 : decode mX8_told.2.1 61 = .ok (.iaload, 1) := by decide +kernel
theorem dX8_told_62 : decode mX8_told.2.1 62 = .ok (.ireturn, 1) := by decide +kernel
theorem dX8_told_63 : decode mX8_told.2.1 63 = .ok (.aload_n 0, 1) := by decide +kernel
theorem dX8_told_64 : decode mX8_told.2.1 64 = .ok (.getfield 19, 3) := by decide +kernel
theorem dX8_told_67 : decode mX8_told.2.1 67 = .ok (.iload_n 1, 1) := by decide +kernel
theorem dX8_told_68 : decode mX8_told.2.1 68 = .ok (.iaload, 1) := by decide +kernel
theorem dX8_told_69 : decode mX8_told.2.1 69 = .ok (.ireturn, 1) := by decide +kernel
theorem dX8_told_70 : decode mX8_told.2.1 70 = .ok (.aload_n 0, 1) := by decide +kernel
theorem dX8_told_71 : decode mX8_told.2.1 71 = .ok (.getfield 22, 3) := by decide +kernel
theorem dX8_told_74 : decode mX8_told.2.1 74 = .ok (.iload_n 1, 1) := by decide +kernel
theorem dX8_told_75 : decode mX8_told.2.1 75 = .ok (.iaload, 1) := by decide +kernel
theorem dX8_told_76 : decode mX8_told.2.1 76 = .ok (.ireturn, 1) := by decide +kernel
theorem dX8_told_77 : decode mX8_told.2.1 77 = .ok (.aload_n 0, 1) := by decide +kernel
theorem dX8_told_78 : decode mX8_told.2.1 78 = .ok (.getfield 25, 3) := by decide +kernel
theorem dX8_told_81 : decode mX8_told.2.1 81 = .ok (.iload_n 1, 1) := by decide +kernel
theorem dX8_told_82 : decode mX8_told.2.1 82 = .ok (.iaload, 1) := by decide +kernel
theorem dX8_told_83 : decode mX8_told.2.1 83 = .ok (.ireturn, 1) := by decide +kernel
theorem dX8_told_84 : decode mX8_told.2.1 84 = .ok (.aload_n 0, 1) := by decide +kernel
theorem dX8_told_85 : decode mX8_told.2.1 85 = .ok (.getfield 28, 3) := by decide +kernel
theorem dX8_told_88 : decode mX8_told.2.1 88 = .ok (.iload_n 1, 1) := by decide +kernel
theorem dX8_told_89 : decode mX8_told.2.1 89 = .ok (.iaload, 1) := by decide +kernel
theorem dX8_told_90 : decode mX8_told.2.1 90 = .ok (.ireturn, 1) := by decide +kernel
theorem dX8_told_91 : decode mX8_told.2.1 91 = .ok (.aload_n 0, 1) := by decide +kernel
theorem dX8_told_92 : decode mX8_told.2.1 92 = .ok (.getfield 31, 3) := by decide +kernel
theorem dX8_told_95 : decode mX8_told.2.1 95 = .ok (.iload_n 1, 1) := by decide +kernel
theorem dX8_told_96 : decode mX8_told.2.1 96 = .ok (.iaload, 1) := by decide +kernel
theorem dX8_told_97 : decode mX8_told.2.1 97 = .ok (.ireturn, 1) := by decide +kernel
theorem dX8_told_98 : decode mX8_told.2.1 98 = .ok (.aload_n 0, 1) := by decide +kernel
theorem dX8_told_99 : decode mX8_told.2.1 99 = .ok (.iload_n 1, 1) := by decide +kernel
theorem dX8_told_100 : decode mX8_told.2.1 100 = .ok (.invokevirtual 179, 3) := by decide +kernel
theorem dX8_told_103 : decode mX8_told.2.1 103 = .ok (.ireturn, 1) := by decide +kernel
theorem dX8_told_104 : decode mX8_told.2.1 104 = .ok (.aload_n 0, 1) := by decide +kernel
theorem dX8_told_105 : decode mX8_told.2.1 105 = .ok (.getfield 37, 3) := by decide +kernel
theorem dX8_told_108 : decode mX8_told.2.1 108 = .ok (.iload_n 1, 1) := by decide +kernel
theorem dX8_told_109 : decode mX8_told.2.1 109 = .ok (.iaload, 1) := by decide +kernel
theorem dX8_told_110 : decode mX8_told.2.1 110 = .ok (.ireturn, 1) := by decide +kernel
theorem dX8_told_111 : decode mX8_told.2.1 111 = .ok (.iconst (-1), 1) := by decide +kernel
theorem dX8_told_112 : decode mX8_told.2.1 112 = .ok (.ireturn, 1) := by decide +kernel
theorem dX8_circleTold_0 : decode mX8_circleTold.2.1 0 = .ok (.aload_n 0, 1) := by decide +kernel
theorem dX8_circleTold_1 : decode mX8_circleTold.2.1 1 = .ok (.iload_n 1, 1) := by decide +kernel
theorem dX8_circleTold_2 : decode mX8_circleTold.2.1 2 = .ok (.invokevirtual 117, 3) := by decide +kernel
theorem dX8_circleTold_5 : decode mX8_circleTold.2.1 5 = .ok (.ifCond .eq 12, 3) := by decide +kernel
theorem dX8_circleTold_8 : decode mX8_circleTold.2.1 8 = .ok (.iload_n 2, 1) := by decide +kernel
theorem dX8_circleTold_9 : decode mX8_circleTold.2.1 9 = .ok (.iconst 0, 1) := by decide +kernel
theorem dX8_circleTold_10 : decode mX8_circleTold.2.1 10 = .ok (.iconst 3, 1) := by decide +kernel
theorem dX8_circleTold_11 : decode mX8_circleTold.2.1 11 = .ok (.invokestatic 82, 3) := by decide +kernel
theorem dX8_circleTold_14 : decode mX8_circleTold.2.1 14 = .ok (.ifCond .ne 5, 3) := by decide +kernel
theorem dX8_circleTold_17 : decode mX8_circleTold.2.1 17 = .ok (.iconst (-1), 1) := by decide +kernel
theorem dX8_circleTold_18 : decode mX8_circleTold.2.1 18 = .ok (.ireturn, 1) := by decide +kernel
theorem dX8_circleTold_19 : decode mX8_circleTold.2.1 19 = .ok (.iload_n 2, 1) := by decide +kernel
theorem dX8_circleTold_20 : decode mX8_circleTold.2.1 20 = .ok (.ifCond .ne 12, 3) := by decide +kernel
theorem dX8_circleTold_23 : decode mX8_circleTold.2.1 23 = .ok (.aload_n 0, 1) := by decide +kernel
theorem dX8_circleTold_24 : decode mX8_circleTold.2.1 24 = .ok (.getfield 7, 3) := by decide +kernel
theorem dX8_circleTold_27 : decode mX8_circleTold.2.1 27 = .ok (.iload_n 1, 1) := by decide +kernel
theorem dX8_circleTold_28 : decode mX8_circleTold.2.1 28 = .ok (.iaload, 1) := by decide +kernel
theorem dX8_circleTold_29 : decode mX8_circleTold.2.1 29 = .ok (.goto 43, 3) := by decide +kernel
theorem dX8_circleTold_32 : decode mX8_circleTold.2.1 32 = .ok (.iload_n 2, 1) := by decide +kernel
theorem dX8_circleTold_33 : decode mX8_circleTold.2.1 33 = .ok (.iconst 1, 1) := by decide +kernel
theorem dX8_circleTold_34 : decode mX8_circleTold.2.1 34 = .ok (.if_icmp .ne 11, 3) := by decide +kernel
theorem dX8_circleTold_37 : decode mX8_circleTold.2.1 37 = .ok (.aload_n 0, 1) := by decide +kernel
theorem dX8_circleTold_38 : decode mX8_circleTold.2.1 38 = .ok (.iload_n 1, 1) := by decide +kernel
theorem dX8_circleTold_39 : decode mX8_circleTold.2.1 39 = .ok (.invokevirtual 148, 3) := by decide +kernel
theorem dX8_circleTold_42 : decode mX8_circleTold.2.1 42 = .ok (.goto 30, 3) := by decide +kernel
theorem dX8_circleTold_45 : decode mX8_circleTold.2.1 45 = .ok (.iload_n 2, 1) := by decide +kernel
theorem dX8_circleTold_46 : decode mX8_circleTold.2.1 46 = .ok (.iconst 2, 1) := by decide +kernel
theorem dX8_circleTold_47 : decode mX8_circleTold.2.1 47 = .ok (.if_icmp .ne 12, 3) := by decide +kernel
theorem dX8_circleTold_50 : decode mX8_circleTold.2.1 50 = .ok (.aload_n 0, 1) := by decide +kernel
theorem dX8_circleTold_51 : decode mX8_circleTold.2.1 51 = .ok (.getfield 13, 3) := by decide +kernel
theorem dX8_circleTold_54 : decode mX8_circleTold.2.1 54 = .ok (.iload_n 1, 1) := by decide +kernel
theorem dX8_circleTold_55 : decode mX8_circleTold.2.1 55 = .ok (.iaload, 1) := by decide +kernel
theorem dX8_circleTold_56 : decode mX8_circleTold.2.1 56 = .ok (.goto 16, 3) := by decide +kernel
theorem dX8_circleTold_59 : decode mX8_circleTold.2.1 59 = .ok (.aload_n 0, 1) := by decide +kernel
theorem dX8_circleTold_60 : decode mX8_circleTold.2.1 60 = .ok (.iload_n 1, 1) := by decide +kernel
theorem dX8_circleTold_61 : decode mX8_circleTold.2.1 61 = .ok (.invokevirtual 182, 3) := by decide +kernel
theorem dX8_circleTold_64 : decode mX8_circleTold.2.1 64 = .ok (.ifCond .eq 7, 3) := by decide +kernel
theorem dX8_circleTold_67 : decode mX8_circleTold.2.1 67 = .ok (.iconst 1, 1) := by decide +kernel
theorem dX8_circleTold_68 : decode mX8_circleTold.2.1 68 = .ok (.goto 4, 3) := by decide +kernel
theorem dX8_circleTold_71 : decode mX8_circleTold.2.1 71 = .ok (.iconst 0, 1) := by decide +kernel
theorem dX8_circleTold_72 : decode mX8_circleTold.2.1 72 = .ok (.ireturn, 1) := by decide +kernel
theorem dX8_isCalm_0 : decode mX8_isCalm.2.1 0 = .ok (.iconst 1, 1) := by decide +kernel
theorem dX8_isCalm_1 : decode mX8_isCalm.2.1 1 = .ok (.istore_n 2, 1) := by decide +kernel
theorem dX8_isCalm_2 : decode mX8_isCalm.2.1 2 = .ok (.iconst 0, 1) := by decide +kernel
theorem dX8_isCalm_3 : decode mX8_isCalm.2.1 3 = .ok (.istore_n 3, 1) := by decide +kernel
theorem dX8_isCalm_4 : decode mX8_isCalm.2.1 4 = .ok (.iload_n 3, 1) := by decide +kernel
theorem dX8_isCalm_5 : decode mX8_isCalm.2.1 5 = .ok (.aload_n 0, 1) := by decide +kernel
theorem dX8_isCalm_6 : decode mX8_isCalm.2.1 6 = .ok (.getfield 89, 3) := by decide +kernel
theorem dX8_isCalm_9 : decode mX8_isCalm.2.1 9 = .ok (.if_icmp .ge 74, 3) := by decide +kernel
theorem dX8_isCalm_12 : decode mX8_isCalm.2.1 12 = .ok (.iconst 0, 1) := by decide +kernel
theorem dX8_isCalm_13 : decode mX8_isCalm.2.1 13 = .ok (.istore 4, 2) := by decide +kernel
theorem dX8_isCalm_15 : decode mX8_isCalm.2.1 15 = .ok (.iload 4, 2) := by decide +kernel
theorem dX8_isCalm_17 : decode mX8_isCalm.2.1 17 = .ok (.aload_n 0, 1) := by decide +kernel
theorem dX8_isCalm_18 : decode mX8_isCalm.2.1 18 = .ok (.getfield 78, 3) := by decide +kernel
theorem dX8_isCalm_21 : decode mX8_isCalm.2.1 21 = .ok (.if_icmp .ge 56, 3) := by decide +kernel
theorem dX8_isCalm_24 : decode mX8_isCalm.2.1 24 = .ok (.iload_n 2, 1) := by decide +kernel
theorem dX8_isCalm_25 : decode mX8_isCalm.2.1 25 = .ok (.ifCond .eq 44, 3) := by decide +kernel
theorem dX8_isCalm_28 : decode mX8_isCalm.2.1 28 = .ok (.aload_n 0, 1) := by decide +kernel
theorem dX8_isCalm_29 : decode mX8_isCalm.2.1 29 = .ok (.getfield 19, 3) := by decide +kernel
theorem dX8_isCalm_32 : decode mX8_isCalm.2.1 32 = .ok (.iload_n 3, 1) := by decide +kernel
theorem dX8_isCalm_33 : decode mX8_isCalm.2.1 33 = .ok (.iaload, 1) := by decide +kernel
theorem dX8_isCalm_34 : decode mX8_isCalm.2.1 34 = .ok (.iload_n 1, 1) := by decide +kernel
theorem dX8_isCalm_35 : decode mX8_isCalm.2.1 35 = .ok (.if_icmp .ne 30, 3) := by decide +kernel
theorem dX8_isCalm_38 : decode mX8_isCalm.2.1 38 = .ok (.aload_n 0, 1) := by decide +kernel
theorem dX8_isCalm_39 : decode mX8_isCalm.2.1 39 = .ok (.iload 4, 2) := by decide +kernel
theorem dX8_isCalm_41 : decode mX8_isCalm.2.1 41 = .ok (.iload_n 1, 1) := by decide +kernel
theorem dX8_isCalm_42 : decode mX8_isCalm.2.1 42 = .ok (.invokevirtual 92, 3) := by decide +kernel
theorem dX8_isCalm_45 : decode mX8_isCalm.2.1 45 = .ok (.ifCond .eq 20, 3) := by decide +kernel
theorem dX8_isCalm_48 : decode mX8_isCalm.2.1 48 = .ok (.aload_n 0, 1) := by decide +kernel
theorem dX8_isCalm_49 : decode mX8_isCalm.2.1 49 = .ok (.getfield 46, 3) := by decide +kernel
theorem dX8_isCalm_52 : decode mX8_isCalm.2.1 52 = .ok (.sipush 200, 3) := by decide +kernel
theorem dX8_isCalm_55 : decode mX8_isCalm.2.1 55 = .ok (.iload 4, 2) := by decide +kernel
theorem dX8_isCalm_57 : decode mX8_isCalm.2.1 57 = .ok (.imul, 1) := by decide +kernel
theorem dX8_isCalm_58 : decode mX8_isCalm.2.1 58 = .ok (.iload_n 3, 1) := by decide +kernel
theorem dX8_isCalm_59 : decode mX8_isCalm.2.1 59 = .ok (.iadd, 1) := by decide +kernel
theorem dX8_isCalm_60 : decode mX8_isCalm.2.1 60 = .ok (.iaload, 1) := by decide +kernel
theorem dX8_isCalm_61 : decode mX8_isCalm.2.1 61 = .ok (.iconst 3, 1) := by decide +kernel
theorem dX8_isCalm_62 : decode mX8_isCalm.2.1 62 = .ok (.if_icmp .ne 7, 3) := by decide +kernel
theorem dX8_isCalm_65 : decode mX8_isCalm.2.1 65 = .ok (.iconst 1, 1) := by decide +kernel
theorem dX8_isCalm_66 : decode mX8_isCalm.2.1 66 = .ok (.goto 4, 3) := by decide +kernel
theorem dX8_isCalm_69 : decode mX8_isCalm.2.1 69 = .ok (.iconst 0, 1) := by decide +kernel
theorem dX8_isCalm_70 : decode mX8_isCalm.2.1 70 = .ok (.istore_n 2, 1) := by decide +kernel
theorem dX8_isCalm_71 : decode mX8_isCalm.2.1 71 = .ok (.iinc 4 1, 3) := by decide +kernel
theorem dX8_isCalm_74 : decode mX8_isCalm.2.1 74 = .ok (.goto (-59), 3) := by decide +kernel
theorem dX8_isCalm_77 : decode mX8_isCalm.2.1 77 = .ok (.iinc 3 1, 3) := by decide +kernel
theorem dX8_isCalm_80 : decode mX8_isCalm.2.1 80 = .ok (.goto (-76), 3) := by decide +kernel
theorem dX8_isCalm_83 : decode mX8_isCalm.2.1 83 = .ok (.iload_n 2, 1) := by decide +kernel
theorem dX8_isCalm_84 : decode mX8_isCalm.2.1 84 = .ok (.ireturn, 1) := by decide +kernel
theorem dX8_state_0 : decode mX8_state.2.1 0 = .ok (.aload_n 0, 1) := by decide +kernel
theorem dX8_state_1 : decode mX8_state.2.1 1 = .ok (.iload_n 1, 1) := by decide +kernel
theorem dX8_state_2 : decode mX8_state.2.1 2 = .ok (.invokevirtual 113, 3) := by decide +kernel
theorem dX8_state_5 : decode mX8_state.2.1 5 = .ok (.ifCond .eq 26, 3) := by decide +kernel
theorem dX8_state_8 : decode mX8_state.2.1 8 = .ok (.aload_n 0, 1) := by decide +kernel
theorem dX8_state_9 : decode mX8_state.2.1 9 = .ok (.iload_n 2, 1) := by decide +kernel
theorem dX8_state_10 : decode mX8_state.2.1 10 = .ok (.invokevirtual 142, 3) := by decide +kernel
theorem dX8_state_13 : decode mX8_state.2.1 13 = .ok (.ifCond .eq 18, 3) := by decide +kernel
theorem dX8_state_16 : decode mX8_state.2.1 16 = .ok (.aload_n 0, 1) := by decide +kernel
theorem dX8_state_17 : decode mX8_state.2.1 17 = .ok (.getfield 46, 3) := by decide +kernel
theorem dX8_state_20 : decode mX8_state.2.1 20 = .ok (.sipush 200, 3) := by decide +kernel
theorem dX8_state_23 : decode mX8_state.2.1 23 = .ok (.iload_n 1, 1) := by decide +kernel
theorem dX8_state_24 : decode mX8_state.2.1 24 = .ok (.imul, 1) := by decide +kernel
theorem dX8_state_25 : decode mX8_state.2.1 25 = .ok (.iload_n 2, 1) := by decide +kernel
theorem dX8_state_26 : decode mX8_state.2.1 26 = .ok (.iadd, 1) := by decide +kernel
theorem dX8_state_27 : decode mX8_state.2.1 27 = .ok (.iaload, 1) := by decide +kernel
theorem dX8_state_28 : decode mX8_state.2.1 28 = .ok (.goto 4, 3) := by decide +kernel
theorem dX8_state_31 : decode mX8_state.2.1 31 = .ok (.iconst (-1), 1) := by decide +kernel
theorem dX8_state_32 : decode mX8_state.2.1 32 = .ok (.ireturn, 1) := by decide +kernel
theorem dX8_given_0 : decode mX8_given.2.1 0 = .ok (.aload_n 0, 1) := by decide +kernel
theorem dX8_given_1 : decode mX8_given.2.1 1 = .ok (.iload_n 1, 1) := by decide +kernel
theorem dX8_given_2 : decode mX8_given.2.1 2 = .ok (.invokevirtual 113, 3) := by decide +kernel
theorem dX8_given_5 : decode mX8_given.2.1 5 = .ok (.ifCond .eq 38, 3) := by decide +kernel
theorem dX8_given_8 : decode mX8_given.2.1 8 = .ok (.aload_n 0, 1) := by decide +kernel
theorem dX8_given_9 : decode mX8_given.2.1 9 = .ok (.iload_n 2, 1) := by decide +kernel
theorem dX8_given_10 : decode mX8_given.2.1 10 = .ok (.invokevirtual 117, 3) := by decide +kernel
theorem dX8_given_13 : decode mX8_given.2.1 13 = .ok (.ifCond .eq 30, 3) := by decide +kernel
theorem dX8_given_16 : decode mX8_given.2.1 16 = .ok (.aload_n 0, 1) := by decide +kernel
theorem dX8_given_17 : decode mX8_given.2.1 17 = .ok (.iload_n 3, 1) := by decide +kernel
theorem dX8_given_18 : decode mX8_given.2.1 18 = .ok (.invokevirtual 113, 3) := by decide +kernel
theorem dX8_given_21 : decode mX8_given.2.1 21 = .ok (.ifCond .eq 22, 3) := by decide +kernel
theorem dX8_given_24 : decode mX8_given.2.1 24 = .ok (.aload_n 0, 1) := by decide +kernel
theorem dX8_given_25 : decode mX8_given.2.1 25 = .ok (.getfield 49, 3) := by decide +kernel
theorem dX8_given_28 : decode mX8_given.2.1 28 = .ok (.bipush 48, 2) := by decide +kernel
theorem dX8_given_30 : decode mX8_given.2.1 30 = .ok (.iload_n 1, 1) := by decide +kernel
theorem dX8_given_31 : decode mX8_given.2.1 31 = .ok (.imul, 1) := by decide +kernel
theorem dX8_given_32 : decode mX8_given.2.1 32 = .ok (.bipush 8, 2) := by decide +kernel
theorem dX8_given_34 : decode mX8_given.2.1 34 = .ok (.iload_n 2, 1) := by decide +kernel
theorem dX8_given_35 : decode mX8_given.2.1 35 = .ok (.imul, 1) := by decide +kernel
theorem dX8_given_36 : decode mX8_given.2.1 36 = .ok (.iadd, 1) := by decide +kernel
theorem dX8_given_37 : decode mX8_given.2.1 37 = .ok (.iload_n 3, 1) := by decide +kernel
theorem dX8_given_38 : decode mX8_given.2.1 38 = .ok (.iadd, 1) := by decide +kernel
theorem dX8_given_39 : decode mX8_given.2.1 39 = .ok (.iaload, 1) := by decide +kernel
theorem dX8_given_40 : decode mX8_given.2.1 40 = .ok (.goto 4, 3) := by decide +kernel
theorem dX8_given_43 : decode mX8_given.2.1 43 = .ok (.iconst (-1), 1) := by decide +kernel
theorem dX8_given_44 : decode mX8_given.2.1 44 = .ok (.ireturn, 1) := by decide +kernel
theorem dX8_read_0 : decode mX8_read.2.1 0 = .ok (.aload_n 0, 1) := by decide +kernel
theorem dX8_read_1 : decode mX8_read.2.1 1 = .ok (.iload_n 1, 1) := by decide +kernel
theorem dX8_read_2 : decode mX8_read.2.1 2 = .ok (.invokevirtual 113, 3) := by decide +kernel
theorem dX8_read_5 : decode mX8_read.2.1 5 = .ok (.ifCond .eq 34, 3) := by decide +kernel
theorem dX8_read_8 : decode mX8_read.2.1 8 = .ok (.iload_n 2, 1) := by decide +kernel
theorem dX8_read_9 : decode mX8_read.2.1 9 = .ok (.iconst 0, 1) := by decide +kernel
theorem dX8_read_10 : decode mX8_read.2.1 10 = .ok (.aload_n 0, 1) := by decide +kernel
theorem dX8_read_11 : decode mX8_read.2.1 11 = .ok (.getfield 61, 3) := by decide +kernel
theorem dX8_read_14 : decode mX8_read.2.1 14 = .ok (.iload_n 1, 1) := by decide +kernel
theorem dX8_read_15 : decode mX8_read.2.1 15 = .ok (.iaload, 1) := by decide +kernel
theorem dX8_read_16 : decode mX8_read.2.1 16 = .ok (.iconst 1, 1) := by decide +kernel
theorem dX8_read_17 : decode mX8_read.2.1 17 = .ok (.isub, 1) := by decide +kernel
theorem dX8_read_18 : decode mX8_read.2.1 18 = .ok (.invokestatic 82, 3) := by decide +kernel
theorem dX8_read_21 : decode mX8_read.2.1 21 = .ok (.ifCond .eq 18, 3) := by decide +kernel
theorem dX8_read_24 : decode mX8_read.2.1 24 = .ok (.aload_n 0, 1) := by decide +kernel
theorem dX8_read_25 : decode mX8_read.2.1 25 = .ok (.getfield 58, 3) := by decide +kernel
theorem dX8_read_28 : decode mX8_read.2.1 28 = .ok (.sipush 200, 3) := by decide +kernel
theorem dX8_read_31 : decode mX8_read.2.1 31 = .ok (.iload_n 1, 1) := by decide +kernel
theorem dX8_read_32 : decode mX8_read.2.1 32 = .ok (.imul, 1) := by decide +kernel
theorem dX8_read_33 : decode mX8_read.2.1 33 = .ok (.iload_n 2, 1) := by decide +kernel
theorem dX8_read_34 : decode mX8_read.2.1 34 = .ok (.iadd, 1) := by decide +kernel
theorem dX8_read_35 : decode mX8_read.2.1 35 = .ok (.iaload, 1) := by decide +kernel
theorem dX8_read_36 : decode mX8_read.2.1 36 = .ok (.goto 4, 3) := by decide +kernel
theorem dX8_read_39 : decode mX8_read.2.1 39 = .ok (.iconst (-1), 1) := by decide +kernel
theorem dX8_read_40 : decode mX8_read.2.1 40 = .ok (.ireturn, 1) := by decide +kernel
theorem dX8_why_0 : decode mX8_why.2.1 0 = .ok (.aload_n 0, 1) := by decide +kernel
theorem dX8_why_1 : decode mX8_why.2.1 1 = .ok (.iload_n 1, 1) := by decide +kernel
theorem dX8_why_2 : decode mX8_why.2.1 2 = .ok (.invokevirtual 113, 3) := by decide +kernel
theorem dX8_why_5 : decode mX8_why.2.1 5 = .ok (.ifCond .eq 36, 3) := by decide +kernel
theorem dX8_why_8 : decode mX8_why.2.1 8 = .ok (.aload_n 0, 1) := by decide +kernel
theorem dX8_why_9 : decode mX8_why.2.1 9 = .ok (.iload_n 2, 1) := by decide +kernel
theorem dX8_why_10 : decode mX8_why.2.1 10 = .ok (.invokevirtual 142, 3) := by decide +kernel
theorem dX8_why_13 : decode mX8_why.2.1 13 = .ok (.ifCond .eq 28, 3) := by decide +kernel
theorem dX8_why_16 : decode mX8_why.2.1 16 = .ok (.iload_n 3, 1) := by decide +kernel
theorem dX8_why_17 : decode mX8_why.2.1 17 = .ok (.iconst 0, 1) := by decide +kernel
theorem dX8_why_18 : decode mX8_why.2.1 18 = .ok (.iconst 2, 1) := by decide +kernel
theorem dX8_why_19 : decode mX8_why.2.1 19 = .ok (.invokestatic 82, 3) := by decide +kernel
theorem dX8_why_22 : decode mX8_why.2.1 22 = .ok (.ifCond .eq 19, 3) := by decide +kernel
theorem dX8_why_25 : decode mX8_why.2.1 25 = .ok (.aload_n 0, 1) := by decide +kernel
theorem dX8_why_26 : decode mX8_why.2.1 26 = .ok (.getfield 46, 3) := by decide +kernel
theorem dX8_why_29 : decode mX8_why.2.1 29 = .ok (.sipush 200, 3) := by decide +kernel
theorem dX8_why_32 : decode mX8_why.2.1 32 = .ok (.iload_n 1, 1) := by decide +kernel
theorem dX8_why_33 : decode mX8_why.2.1 33 = .ok (.imul, 1) := by decide +kernel
theorem dX8_why_34 : decode mX8_why.2.1 34 = .ok (.iload_n 2, 1) := by decide +kernel
theorem dX8_why_35 : decode mX8_why.2.1 35 = .ok (.iadd, 1) := by decide +kernel
theorem dX8_why_36 : decode mX8_why.2.1 36 = .ok (.iaload, 1) := by decide +kernel
theorem dX8_why_37 : decode mX8_why.2.1 37 = .ok (.iconst 2, 1) := by decide +kernel
theorem dX8_why_38 : decode mX8_why.2.1 38 = .ok (.if_icmp .eq 5, 3) := by decide +kernel
theorem dX8_why_41 : decode mX8_why.2.1 41 = .ok (.iconst (-1), 1) := by decide +kernel
theorem dX8_why_42 : decode mX8_why.2.1 42 = .ok (.ireturn, 1) := by decide +kernel
theorem dX8_why_43 : decode mX8_why.2.1 43 = .ok (.aload_n 0, 1) := by decide +kernel
theorem dX8_why_44 : decode mX8_why.2.1 44 = .ok (.iload_n 1, 1) := by decide +kernel
theorem dX8_why_45 : decode mX8_why.2.1 45 = .ok (.iload_n 2, 1) := by decide +kernel
theorem dX8_why_46 : decode mX8_why.2.1 46 = .ok (.invokevirtual 151, 3) := by decide +kernel
theorem dX8_why_49 : decode mX8_why.2.1 49 = .ok (.istore 4, 2) := by decide +kernel
theorem dX8_why_51 : decode mX8_why.2.1 51 = .ok (.iload 4, 2) := by decide +kernel
theorem dX8_why_53 : decode mX8_why.2.1 53 = .ok (.iconst (-1), 1) := by decide +kernel
theorem dX8_why_54 : decode mX8_why.2.1 54 = .ok (.if_icmp .eq 45, 3) := by decide +kernel
theorem dX8_why_57 : decode mX8_why.2.1 57 = .ok (.iload_n 3, 1) := by decide +kernel
theorem dX8_why_58 : decode mX8_why.2.1 58 = .ok (.ifCond .ne 11, 3) := by decide +kernel
theorem dX8_why_61 : decode mX8_why.2.1 61 = .ok (.iload 4, 2) := by decide +kernel
theorem dX8_why_63 : decode mX8_why.2.1 63 = .ok (.bipush 8, 2) := by decide +kernel
theorem dX8_why_65 : decode mX8_why.2.1 65 = .ok (.idiv, 1) := by decide +kernel
theorem dX8_why_66 : decode mX8_why.2.1 66 = .ok (.goto 32, 3) := by decide +kernel
theorem dX8_why_69 : decode mX8_why.2.1 69 = .ok (.iload_n 3, 1) := by decide +kernel
theorem dX8_why_70 : decode mX8_why.2.1 70 = .ok (.iconst 1, 1) := by decide +kernel
theorem dX8_why_71 : decode mX8_why.2.1 71 = .ok (.if_icmp .ne 11, 3) := by decide +kernel
theorem dX8_why_74 : decode mX8_why.2.1 74 = .ok (.iload 4, 2) := by decide +kernel
theorem dX8_why_76 : decode mX8_why.2.1 76 = .ok (.bipush 8, 2) := by decide +kernel
theorem dX8_why_78 : decode mX8_why.2.1 78 = .ok (.irem, 1) := by decide +kernel
theorem dX8_why_79 : decode mX8_why.2.1 79 = .ok (.goto 19, 3) := by decide +kernel
theorem dX8_why_82 : decode mX8_why.2.1 82 = .ok (.aload_n 0, 1) := by decide +kernel
theorem dX8_why_83 : decode mX8_why.2.1 83 = .ok (.iload_n 1, 1) := by decide +kernel
theorem dX8_why_84 : decode mX8_why.2.1 84 = .ok (.iload_n 2, 1) := by decide +kernel
theorem dX8_why_85 : decode mX8_why.2.1 85 = .ok (.iload 4, 2) := by decide +kernel
theorem dX8_why_87 : decode mX8_why.2.1 87 = .ok (.bipush 8, 2) := by decide +kernel
theorem dX8_why_89 : decode mX8_why.2.1 89 = .ok (.idiv, 1) := by decide +kernel
theorem dX8_why_90 : decode mX8_why.2.1 90 = .ok (.iload 4, 2) := by decide +kernel
theorem dX8_why_92 : decode mX8_why.2.1 92 = .ok (.bipush 8, 2) := by decide +kernel
theorem dX8_why_94 : decode mX8_why.2.1 94 = .ok (.irem, 1) := by decide +kernel
theorem dX8_why_95 : decode mX8_why.2.1 95 = .ok (.invokevirtual 145, 3) := by decide +kernel
theorem dX8_why_98 : decode mX8_why.2.1 98 = .ok (.ireturn, 1) := by decide +kernel
theorem dX8_why_99 : decode mX8_why.2.1 99 = .ok (.iload_n 3, 1) := by decide +kernel
theorem dX8_why_100 : decode mX8_why.2.1 100 = .ok (.iconst 2, 1) := by decide +kernel
theorem dX8_why_101 : decode mX8_why.2.1 101 = .ok (.if_icmp .ge 8, 3) := by decide +kernel
theorem dX8_why_104 : decode mX8_why.2.1 104 = .ok (.bipush (-2), 2) := by decide +kernel
theorem dX8_why_106 : decode mX8_why.2.1 106 = .ok (.goto 17, 3) := by decide +kernel
theorem dX8_why_109 : decode mX8_why.2.1 109 = .ok (.aload_n 0, 1) := by decide +kernel
theorem dX8_why_110 : decode mX8_why.2.1 110 = .ok (.iload_n 1, 1) := by decide +kernel
theorem dX8_why_111 : decode mX8_why.2.1 111 = .ok (.iload_n 2, 1) := by decide +kernel
theorem dX8_why_112 : decode mX8_why.2.1 112 = .ok (.invokevirtual 155, 3) := by decide +kernel
theorem dX8_why_115 : decode mX8_why.2.1 115 = .ok (.ifCond .eq 7, 3) := by decide +kernel
theorem dX8_why_118 : decode mX8_why.2.1 118 = .ok (.iconst 1, 1) := by decide +kernel
theorem dX8_why_119 : decode mX8_why.2.1 119 = .ok (.goto 4, 3) := by decide +kernel
theorem dX8_why_122 : decode mX8_why.2.1 122 = .ok (.iconst 0, 1) := by decide +kernel
theorem dX8_why_123 : decode mX8_why.2.1 123 = .ok (.ireturn, 1) := by decide +kernel
theorem dX8_late_0 : decode mX8_late.2.1 0 = .ok (.aload_n 0, 1) := by decide +kernel
theorem dX8_late_1 : decode mX8_late.2.1 1 = .ok (.iload_n 1, 1) := by decide +kernel
theorem dX8_late_2 : decode mX8_late.2.1 2 = .ok (.invokevirtual 113, 3) := by decide +kernel
theorem dX8_late_5 : decode mX8_late.2.1 5 = .ok (.ifCond .ne 5, 3) := by decide +kernel
theorem dX8_late_8 : decode mX8_late.2.1 8 = .ok (.iconst (-1), 1) := by decide +kernel
theorem dX8_late_9 : decode mX8_late.2.1 9 = .ok (.ireturn, 1) := by decide +kernel
theorem dX8_late_10 : decode mX8_late.2.1 10 = .ok (.iconst 0, 1) := by decide +kernel
theorem dX8_late_11 : decode mX8_late.2.1 11 = .ok (.istore_n 2, 1) := by decide +kernel
theorem dX8_late_12 : decode mX8_late.2.1 12 = .ok (.iconst 0, 1) := by decide +kernel
theorem dX8_late_13 : decode mX8_late.2.1 13 = .ok (.istore_n 3, 1) := by decide +kernel
theorem dX8_late_14 : decode mX8_late.2.1 14 = .ok (.iload_n 3, 1) := by decide +kernel
theorem dX8_late_15 : decode mX8_late.2.1 15 = .ok (.aload_n 0, 1) := by decide +kernel
theorem dX8_late_16 : decode mX8_late.2.1 16 = .ok (.getfield 89, 3) := by decide +kernel
theorem dX8_late_19 : decode mX8_late.2.1 19 = .ok (.if_icmp .ge 33, 3) := by decide +kernel
theorem dX8_late_22 : decode mX8_late.2.1 22 = .ok (.iload_n 2, 1) := by decide +kernel
theorem dX8_late_23 : decode mX8_late.2.1 23 = .ok (.aload_n 0, 1) := by decide +kernel
theorem dX8_late_24 : decode mX8_late.2.1 24 = .ok (.getfield 46, 3) := by decide +kernel
theorem dX8_late_27 : decode mX8_late.2.1 27 = .ok (.sipush 200, 3) := by decide +kernel
theorem dX8_late_30 : decode mX8_late.2.1 30 = .ok (.iload_n 1, 1) := by decide +kernel
theorem dX8_late_31 : decode mX8_late.2.1 31 = .ok (.imul, 1) := by decide +kernel
theorem dX8_late_32 : decode mX8_late.2.1 32 = .ok (.iload_n 3, 1) := by decide +kernel
theorem dX8_late_33 : decode mX8_late.2.1 33 = .ok (.iadd, 1) := by decide +kernel
theorem dX8_late_34 : decode mX8_late.2.1 34 = .ok (.iaload, 1) := by decide +kernel
theorem dX8_late_35 : decode mX8_late.2.1 35 = .ok (.iconst 1, 1) := by decide +kernel
theorem dX8_late_36 : decode mX8_late.2.1 36 = .ok (.if_icmp .ne 7, 3) := by decide +kernel
theorem dX8_late_39 : decode mX8_late.2.1 39 = .ok (.iconst 1, 1) := by decide +kernel
theorem dX8_late_40 : decode mX8_late.2.1 40 = .ok (.goto 4, 3) := by decide +kernel
theorem dX8_late_43 : decode mX8_late.2.1 43 = .ok (.iconst 0, 1) := by decide +kernel
theorem dX8_late_44 : decode mX8_late.2.1 44 = .ok (.iadd, 1) := by decide +kernel
theorem dX8_late_45 : decode mX8_late.2.1 45 = .ok (.istore_n 2, 1) := by decide +kernel
theorem dX8_late_46 : decode mX8_late.2.1 46 = .ok (.iinc 3 1, 3) := by decide +kernel
theorem dX8_late_49 : decode mX8_late.2.1 49 = .ok (.goto (-35), 3) := by decide +kernel
theorem dX8_late_52 : decode mX8_late.2.1 52 = .ok (.iload_n 2, 1) := by decide +kernel
theorem dX8_late_53 : decode mX8_late.2.1 53 = .ok (.ireturn, 1) := by decide +kernel
theorem dX8_behind_0 : decode mX8_behind.2.1 0 = .ok (.aload_n 0, 1) := by decide +kernel
theorem dX8_behind_1 : decode mX8_behind.2.1 1 = .ok (.iload_n 1, 1) := by decide +kernel
theorem dX8_behind_2 : decode mX8_behind.2.1 2 = .ok (.invokevirtual 142, 3) := by decide +kernel
theorem dX8_behind_5 : decode mX8_behind.2.1 5 = .ok (.ifCond .eq 34, 3) := by decide +kernel
theorem dX8_behind_8 : decode mX8_behind.2.1 8 = .ok (.aload_n 0, 1) := by decide +kernel
theorem dX8_behind_9 : decode mX8_behind.2.1 9 = .ok (.iload_n 2, 1) := by decide +kernel
theorem dX8_behind_10 : decode mX8_behind.2.1 10 = .ok (.invokevirtual 142, 3) := by decide +kernel
theorem dX8_behind_13 : decode mX8_behind.2.1 13 = .ok (.ifCond .eq 26, 3) := by decide +kernel
theorem dX8_behind_16 : decode mX8_behind.2.1 16 = .ok (.aload_n 0, 1) := by decide +kernel
theorem dX8_behind_17 : decode mX8_behind.2.1 17 = .ok (.getfield 65, 3) := by decide +kernel
theorem dX8_behind_20 : decode mX8_behind.2.1 20 = .ok (.sipush 200, 3) := by decide +kernel
theorem dX8_behind_23 : decode mX8_behind.2.1 23 = .ok (.iload_n 2, 1) := by decide +kernel
theorem dX8_behind_24 : decode mX8_behind.2.1 24 = .ok (.imul, 1) := by decide +kernel
theorem dX8_behind_25 : decode mX8_behind.2.1 25 = .ok (.iload_n 1, 1) := by decide +kernel
theorem dX8_behind_26 : decode mX8_behind.2.1 26 = .ok (.iadd, 1) := by decide +kernel
theorem dX8_behind_27 : decode mX8_behind.2.1 27 = .ok (.baload, 1) := by decide +kernel
theorem dX8_behind_28 : decode mX8_behind.2.1 28 = .ok (.ifCond .eq 7, 3) := by decide +kernel
theorem dX8_behind_31 : decode mX8_behind.2.1 31 = .ok (.iconst 1, 1) := by decide +kernel
theorem dX8_behind_32 : decode mX8_behind.2.1 32 = .ok (.goto 8, 3) := by decide +kernel
theorem dX8_behind_35 : decode mX8_behind.2.1 35 = .ok (.iconst 0, 1) := by decide +kernel
theorem dX8_behind_36 : decode mX8_behind.2.1 36 = .ok (.goto 4, 3) := by decide +kernel
theorem dX8_behind_39 : decode mX8_behind.2.1 39 = .ok (.iconst (-1), 1) := by decide +kernel
theorem dX8_behind_40 : decode mX8_behind.2.1 40 = .ok (.ireturn, 1) := by decide +kernel
theorem dX8_past_0 : decode mX8_past.2.1 0 = .ok (.aload_n 0, 1) := by decide +kernel
theorem dX8_past_1 : decode mX8_past.2.1 1 = .ok (.iload_n 1, 1) := by decide +kernel
theorem dX8_past_2 : decode mX8_past.2.1 2 = .ok (.invokevirtual 142, 3) := by decide +kernel
theorem dX8_past_5 : decode mX8_past.2.1 5 = .ok (.ifCond .ne 5, 3) := by decide +kernel
theorem dX8_past_8 : decode mX8_past.2.1 8 = .ok (.iconst (-1), 1) := by decide +kernel
theorem dX8_past_9 : decode mX8_past.2.1 9 = .ok (.ireturn, 1) := by decide +kernel
theorem dX8_past_10 : decode mX8_past.2.1 10 = .ok (.iconst 0, 1) := by decide +kernel
theorem dX8_past_11 : decode mX8_past.2.1 11 = .ok (.istore_n 2, 1) := by decide +kernel
theorem dX8_past_12 : decode mX8_past.2.1 12 = .ok (.iconst 0, 1) := by decide +kernel
theorem dX8_past_13 : decode mX8_past.2.1 13 = .ok (.istore_n 3, 1) := by decide +kernel
theorem dX8_past_14 : decode mX8_past.2.1 14 = .ok (.iload_n 3, 1) := by decide +kernel
theorem dX8_past_15 : decode mX8_past.2.1 15 = .ok (.aload_n 0, 1) := by decide +kernel
theorem dX8_past_16 : decode mX8_past.2.1 16 = .ok (.getfield 89, 3) := by decide +kernel
theorem dX8_past_19 : decode mX8_past.2.1 19 = .ok (.if_icmp .ge 32, 3) := by decide +kernel
theorem dX8_past_22 : decode mX8_past.2.1 22 = .ok (.iload_n 2, 1) := by decide +kernel
theorem dX8_past_23 : decode mX8_past.2.1 23 = .ok (.aload_n 0, 1) := by decide +kernel
theorem dX8_past_24 : decode mX8_past.2.1 24 = .ok (.getfield 65, 3) := by decide +kernel
theorem dX8_past_27 : decode mX8_past.2.1 27 = .ok (.sipush 200, 3) := by decide +kernel
theorem dX8_past_30 : decode mX8_past.2.1 30 = .ok (.iload_n 1, 1) := by decide +kernel
theorem dX8_past_31 : decode mX8_past.2.1 31 = .ok (.imul, 1) := by decide +kernel
theorem dX8_past_32 : decode mX8_past.2.1 32 = .ok (.iload_n 3, 1) := by decide +kernel
theorem dX8_past_33 : decode mX8_past.2.1 33 = .ok (.iadd, 1) := by decide +kernel
theorem dX8_past_34 : decode mX8_past.2.1 34 = .ok (.baload, 1) := by decide +kernel
theorem dX8_past_35 : decode mX8_past.2.1 35 = .ok (.ifCond .eq 7, 3) := by decide +kernel
theorem dX8_past_38 : decode mX8_past.2.1 38 = .ok (.iconst 1, 1) := by decide +kernel
theorem dX8_past_39 : decode mX8_past.2.1 39 = .ok (.goto 4, 3) := by decide +kernel
theorem dX8_past_42 : decode mX8_past.2.1 42 = .ok (.iconst 0, 1) := by decide +kernel
theorem dX8_past_43 : decode mX8_past.2.1 43 = .ok (.iadd, 1) := by decide +kernel
theorem dX8_past_44 : decode mX8_past.2.1 44 = .ok (.istore_n 2, 1) := by decide +kernel
theorem dX8_past_45 : decode mX8_past.2.1 45 = .ok (.iinc 3 1, 3) := by decide +kernel
theorem dX8_past_48 : decode mX8_past.2.1 48 = .ok (.goto (-34), 3) := by decide +kernel
theorem dX8_past_51 : decode mX8_past.2.1 51 = .ok (.iload_n 2, 1) := by decide +kernel
theorem dX8_past_52 : decode mX8_past.2.1 52 = .ok (.ireturn, 1) := by decide +kernel
theorem dX8_chain_0 : decode mX8_chain.2.1 0 = .ok (.aload_n 0, 1) := by decide +kernel
theorem dX8_chain_1 : decode mX8_chain.2.1 1 = .ok (.iload_n 1, 1) := by decide +kernel
theorem dX8_chain_2 : decode mX8_chain.2.1 2 = .ok (.invokevirtual 142, 3) := by decide +kernel
theorem dX8_chain_5 : decode mX8_chain.2.1 5 = .ok (.ifCond .eq 11, 3) := by decide +kernel
theorem dX8_chain_8 : decode mX8_chain.2.1 8 = .ok (.aload_n 0, 1) := by decide +kernel
theorem dX8_chain_9 : decode mX8_chain.2.1 9 = .ok (.iload_n 2, 1) := by decide +kernel
theorem dX8_chain_10 : decode mX8_chain.2.1 10 = .ok (.invokevirtual 142, 3) := by decide +kernel
theorem dX8_chain_13 : decode mX8_chain.2.1 13 = .ok (.ifCond .ne 5, 3) := by decide +kernel
theorem dX8_chain_16 : decode mX8_chain.2.1 16 = .ok (.iconst (-1), 1) := by decide +kernel
theorem dX8_chain_17 : decode mX8_chain.2.1 17 = .ok (.ireturn, 1) := by decide +kernel
theorem dX8_chain_18 : decode mX8_chain.2.1 18 = .ok (.iconst 0, 1) := by decide +kernel
theorem dX8_chain_19 : decode mX8_chain.2.1 19 = .ok (.istore_n 3, 1) := by decide +kernel
theorem dX8_chain_20 : decode mX8_chain.2.1 20 = .ok (.iload_n 3, 1) := by decide +kernel
theorem dX8_chain_21 : decode mX8_chain.2.1 21 = .ok (.aload_n 0, 1) := by decide +kernel
theorem dX8_chain_22 : decode mX8_chain.2.1 22 = .ok (.getfield 89, 3) := by decide +kernel
theorem dX8_chain_25 : decode mX8_chain.2.1 25 = .ok (.if_icmp .ge 118, 3) := by decide +kernel
theorem dX8_chain_28 : decode mX8_chain.2.1 28 = .ok (.aload_n 0, 1) := by decide +kernel
theorem dX8_chain_29 : decode mX8_chain.2.1 29 = .ok (.getfield 75, 3) := by decide +kernel
theorem dX8_chain_32 : decode mX8_chain.2.1 32 = .ok (.iload_n 3, 1) := by decide +kernel
theorem dX8_chain_33 : decode mX8_chain.2.1 33 = .ok (.iload_n 3, 1) := by decide +kernel
theorem dX8_chain_34 : decode mX8_chain.2.1 34 = .ok (.iload_n 1, 1) := by decide +kernel
theorem dX8_chain_35 : decode mX8_chain.2.1 35 = .ok (.if_icmp .ne 7, 3) := by decide +kernel
theorem dX8_chain_38 : decode mX8_chain.2.1 38 = .ok (.iconst 1, 1) := by decide +kernel
theorem dX8_chain_39 : decode mX8_chain.2.1 39 = .ok (.goto 4, 3) := by decide +kernel
theorem dX8_chain_42 : decode mX8_chain.2.1 42 = .ok (.iconst 0, 1) := by decide +kernel
theorem dX8_chain_43 : decode mX8_chain.2.1 43 = .ok (.iastore, 1) := by decide +kernel
theorem dX8_chain_44 : decode mX8_chain.2.1 44 = .ok (.iload_n 1, 1) := by decide +kernel
theorem dX8_chain_45 : decode mX8_chain.2.1 45 = .ok (.istore 4, 2) := by decide +kernel
theorem dX8_chain_47 : decode mX8_chain.2.1 47 = .ok (.iload 4, 2) := by decide +kernel
theorem dX8_chain_49 : decode mX8_chain.2.1 49 = .ok (.iload_n 3, 1) := by decide +kernel
theorem dX8_chain_50 : decode mX8_chain.2.1 50 = .ok (.if_icmp .ge 87, 3) := by decide +kernel
theorem dX8_chain_53 : decode mX8_chain.2.1 53 = .ok (.aload_n 0, 1) := by decide +kernel
theorem dX8_chain_54 : decode mX8_chain.2.1 54 = .ok (.getfield 65, 3) := by decide +kernel
theorem dX8_chain_57 : decode mX8_chain.2.1 57 = .ok (.sipush 200, 3) := by decide +kernel
theorem dX8_chain_60 : decode mX8_chain.2.1 60 = .ok (.iload_n 3, 1) := by decide +kernel
theorem dX8_chain_61 : decode mX8_chain.2.1 61 = .ok (.imul, 1) := by decide +kernel
theorem dX8_chain_62 : decode mX8_chain.2.1 62 = .ok (.iload 4, 2) := by decide +kernel
theorem dX8_chain_64 : decode mX8_chain.2.1 64 = .ok (.iadd, 1) := by decide +kernel
theorem dX8_chain_65 : decode mX8_chain.2.1 65 = .ok (.baload, 1) := by decide +kernel
theorem dX8_chain_66 : decode mX8_chain.2.1 66 = .ok (.ifCond .eq 33, 3) := by decide +kernel
theorem dX8_chain_69 : decode mX8_chain.2.1 69 = .ok (.aload_n 0, 1) := by decide +kernel
theorem dX8_chain_70 : decode mX8_chain.2.1 70 = .ok (.getfield 75, 3) := by decide +kernel
theorem dX8_chain_73 : decode mX8_chain.2.1 73 = .ok (.iload 4, 2) := by decide +kernel
theorem dX8_chain_75 : decode mX8_chain.2.1 75 = .ok (.iaload, 1) := by decide +kernel
theorem dX8_chain_76 : decode mX8_chain.2.1 76 = .ok (.ifCond .le 23, 3) := by decide +kernel
theorem dX8_chain_79 : decode mX8_chain.2.1 79 = .ok (.aload_n 0, 1) := by decide +kernel
theorem dX8_chain_80 : decode mX8_chain.2.1 80 = .ok (.getfield 75, 3) := by decide +kernel
theorem dX8_chain_83 : decode mX8_chain.2.1 83 = .ok (.iload 4, 2) := by decide +kernel
theorem dX8_chain_85 : decode mX8_chain.2.1 85 = .ok (.iaload, 1) := by decide +kernel
theorem dX8_chain_86 : decode mX8_chain.2.1 86 = .ok (.aload_n 0, 1) := by decide +kernel
theorem dX8_chain_87 : decode mX8_chain.2.1 87 = .ok (.getfield 75, 3) := by decide +kernel
theorem dX8_chain_90 : decode mX8_chain.2.1 90 = .ok (.iload_n 3, 1) := by decide +kernel
theorem dX8_chain_91 : decode mX8_chain.2.1 91 = .ok (.iaload, 1) := by decide +kernel
theorem dX8_chain_92 : decode mX8_chain.2.1 92 = .ok (.if_icmp .lt 7, 3) := by decide +kernel
theorem dX8_chain_95 : decode mX8_chain.2.1 95 = .ok (.iconst 1, 1) := by decide +kernel
theorem dX8_chain_96 : decode mX8_chain.2.1 96 = .ok (.goto 4, 3) := by decide +kernel
theorem dX8_chain_99 : decode mX8_chain.2.1 99 = .ok (.iconst 0, 1) := by decide +kernel
theorem dX8_chain_100 : decode mX8_chain.2.1 100 = .ok (.istore 5, 2) := by decide +kernel
theorem dX8_chain_102 : decode mX8_chain.2.1 102 = .ok (.aload_n 0, 1) := by decide +kernel
theorem dX8_chain_103 : decode mX8_chain.2.1 103 = .ok (.getfield 75, 3) := by decide +kernel
theorem dX8_chain_106 : decode mX8_chain.2.1 106 = .ok (.iload_n 3, 1) := by decide +kernel
theorem dX8_chain_107 : decode mX8_chain.2.1 107 = .ok (.iload 5, 2) := by decide +kernel
theorem dX8_chain_109 : decode mX8_chain.2.1 109 = .ok (.ifCond .eq 15, 3) := by decide +kernel
theorem dX8_chain_112 : decode mX8_chain.2.1 112 = .ok (.aload_n 0, 1) := by decide +kernel
theorem dX8_chain_113 : decode mX8_chain.2.1 113 = .ok (.getfield 75, 3) := by decide +kernel
theorem dX8_chain_116 : decode mX8_chain.2.1 116 = .ok (.iload 4, 2) := by decide +kernel
theorem dX8_chain_118 : decode mX8_chain.2.1 118 = .ok (.iaload, 1) := by decide +kernel
theorem dX8_chain_119 : decode mX8_chain.2.1 119 = .ok (.iconst 1, 1) := by decide +kernel
theorem dX8_chain_120 : decode mX8_chain.2.1 120 = .ok (.iadd, 1) := by decide +kernel
theorem dX8_chain_121 : decode mX8_chain.2.1 121 = .ok (.goto 9, 3) := by decide +kernel
theorem dX8_chain_124 : decode mX8_chain.2.1 124 = .ok (.aload_n 0, 1) := by decide +kernel
theorem dX8_chain_125 : decode mX8_chain.2.1 125 = .ok (.getfield 75, 3) := by decide +kernel
theorem dX8_chain_128 : decode mX8_chain.2.1 128 = .ok (.iload_n 3, 1) := by decide +kernel
theorem dX8_chain_129 : decode mX8_chain.2.1 129 = .ok (.iaload, 1) := by decide +kernel
theorem dX8_chain_130 : decode mX8_chain.2.1 130 = .ok (.iastore, 1) := by decide +kernel
theorem dX8_chain_131 : decode mX8_chain.2.1 131 = .ok (.iinc 4 1, 3) := by decide +kernel
theorem dX8_chain_134 : decode mX8_chain.2.1 134 = .ok (.goto (-87), 3) := by decide +kernel
theorem dX8_chain_137 : decode mX8_chain.2.1 137 = .ok (.iinc 3 1, 3) := by decide +kernel
theorem dX8_chain_140 : decode mX8_chain.2.1 140 = .ok (.goto (-120), 3) := by decide +kernel
theorem dX8_chain_143 : decode mX8_chain.2.1 143 = .ok (.aload_n 0, 1) := by decide +kernel
theorem dX8_chain_144 : decode mX8_chain.2.1 144 = .ok (.getfield 65, 3) := by decide +kernel
theorem dX8_chain_147 : decode mX8_chain.2.1 147 = .ok (.sipush 200, 3) := by decide +kernel
theorem dX8_chain_150 : decode mX8_chain.2.1 150 = .ok (.iload_n 2, 1) := by decide +kernel
theorem dX8_chain_151 : decode mX8_chain.2.1 151 = .ok (.imul, 1) := by decide +kernel
theorem dX8_chain_152 : decode mX8_chain.2.1 152 = .ok (.iload_n 1, 1) := by decide +kernel
theorem dX8_chain_153 : decode mX8_chain.2.1 153 = .ok (.iadd, 1) := by decide +kernel
theorem dX8_chain_154 : decode mX8_chain.2.1 154 = .ok (.baload, 1) := by decide +kernel
theorem dX8_chain_155 : decode mX8_chain.2.1 155 = .ok (.ifCond .eq 12, 3) := by decide +kernel
theorem dX8_chain_158 : decode mX8_chain.2.1 158 = .ok (.aload_n 0, 1) := by decide +kernel
theorem dX8_chain_159 : decode mX8_chain.2.1 159 = .ok (.getfield 75, 3) := by decide +kernel
theorem dX8_chain_162 : decode mX8_chain.2.1 162 = .ok (.iload_n 2, 1) := by decide +kernel
theorem dX8_chain_163 : decode mX8_chain.2.1 163 = .ok (.iaload, 1) := by decide +kernel
theorem dX8_chain_164 : decode mX8_chain.2.1 164 = .ok (.goto 4, 3) := by decide +kernel
theorem dX8_chain_167 : decode mX8_chain.2.1 167 = .ok (.iconst 0, 1) := by decide +kernel
theorem dX8_chain_168 : decode mX8_chain.2.1 168 = .ok (.ireturn, 1) := by decide +kernel
theorem dX8_ran_0 : decode mX8_ran.2.1 0 = .ok (.aload_n 0, 1) := by decide +kernel
theorem dX8_ran_1 : decode mX8_ran.2.1 1 = .ok (.getfield 176, 3) := by decide +kernel
theorem dX8_ran_4 : decode mX8_ran.2.1 4 = .ok (.bipush 60, 2) := by decide +kernel
theorem dX8_ran_6 : decode mX8_ran.2.1 6 = .ok (.if_icmp .ge 13, 3) := by decide +kernel
theorem dX8_ran_9 : decode mX8_ran.2.1 9 = .ok (.aload_n 0, 1) := by decide +kernel
theorem dX8_ran_10 : decode mX8_ran.2.1 10 = .ok (.getfield 72, 3) := by decide +kernel
theorem dX8_ran_13 : decode mX8_ran.2.1 13 = .ok (.aload_n 0, 1) := by decide +kernel
theorem dX8_ran_14 : decode mX8_ran.2.1 14 = .ok (.getfield 176, 3) := by decide +kernel
theorem dX8_ran_17 : decode mX8_ran.2.1 17 = .ok (.iload_n 1, 1) := by decide +kernel
theorem dX8_ran_18 : decode mX8_ran.2.1 18 = .ok (.iastore, 1) := by decide +kernel
theorem dX8_ran_19 : decode mX8_ran.2.1 19 = .ok (.aload_n 0, 1) := by decide +kernel
theorem dX8_ran_20 : decode mX8_ran.2.1 20 = .ok (.dup, 1) := by decide +kernel
theorem dX8_ran_21 : decode mX8_ran.2.1 21 = .ok (.getfield 176, 3) := by decide +kernel
theorem dX8_ran_24 : decode mX8_ran.2.1 24 = .ok (.iconst 1, 1) := by decide +kernel
theorem dX8_ran_25 : decode mX8_ran.2.1 25 = .ok (.iadd, 1) := by decide +kernel
theorem dX8_ran_26 : decode mX8_ran.2.1 26 = .ok (.putfield 176, 3) := by decide +kernel
theorem dX8_ran_29 : decode mX8_ran.2.1 29 = .ok (.return_, 1) := by decide +kernel
theorem dX8_noteAge_0 : decode mX8_noteAge.2.1 0 = .ok (.aload_n 0, 1) := by decide +kernel
theorem dX8_noteAge_1 : decode mX8_noteAge.2.1 1 = .ok (.bipush 10, 2) := by decide +kernel
theorem dX8_noteAge_3 : decode mX8_noteAge.2.1 3 = .ok (.invokevirtual 185, 3) := by decide +kernel
theorem dX8_noteAge_6 : decode mX8_noteAge.2.1 6 = .ok (.iload_n 2, 1) := by decide +kernel
theorem dX8_noteAge_7 : decode mX8_noteAge.2.1 7 = .ok (.aload_n 0, 1) := by decide +kernel
theorem dX8_noteAge_8 : decode mX8_noteAge.2.1 8 = .ok (.getfield 25, 3) := by decide +kernel
theorem dX8_noteAge_11 : decode mX8_noteAge.2.1 11 = .ok (.iload_n 1, 1) := by decide +kernel
theorem dX8_noteAge_12 : decode mX8_noteAge.2.1 12 = .ok (.iaload, 1) := by decide +kernel
theorem dX8_noteAge_13 : decode mX8_noteAge.2.1 13 = .ok (.iadd, 1) := by decide +kernel
theorem dX8_noteAge_14 : decode mX8_noteAge.2.1 14 = .ok (.ireturn, 1) := by decide +kernel
theorem dX8_orderAge_0 : decode mX8_orderAge.2.1 0 = .ok (.aload_n 0, 1) := by decide +kernel
theorem dX8_orderAge_1 : decode mX8_orderAge.2.1 1 = .ok (.bipush 40, 2) := by decide +kernel
theorem dX8_orderAge_3 : decode mX8_orderAge.2.1 3 = .ok (.invokevirtual 185, 3) := by decide +kernel
theorem dX8_orderAge_6 : decode mX8_orderAge.2.1 6 = .ok (.aload_n 0, 1) := by decide +kernel
theorem dX8_orderAge_7 : decode mX8_orderAge.2.1 7 = .ok (.iload_n 1, 1) := by decide +kernel
theorem dX8_orderAge_8 : decode mX8_orderAge.2.1 8 = .ok (.iload_n 2, 1) := by decide +kernel
theorem dX8_orderAge_9 : decode mX8_orderAge.2.1 9 = .ok (.iconst 1, 1) := by decide +kernel
theorem dX8_orderAge_10 : decode mX8_orderAge.2.1 10 = .ok (.isub, 1) := by decide +kernel
theorem dX8_orderAge_11 : decode mX8_orderAge.2.1 11 = .ok (.invokevirtual 188, 3) := by decide +kernel
theorem dX8_orderAge_14 : decode mX8_orderAge.2.1 14 = .ok (.aload_n 0, 1) := by decide +kernel
theorem dX8_orderAge_15 : decode mX8_orderAge.2.1 15 = .ok (.getfield 28, 3) := by decide +kernel
theorem dX8_orderAge_18 : decode mX8_orderAge.2.1 18 = .ok (.iload_n 1, 1) := by decide +kernel
theorem dX8_orderAge_19 : decode mX8_orderAge.2.1 19 = .ok (.iaload, 1) := by decide +kernel
theorem dX8_orderAge_20 : decode mX8_orderAge.2.1 20 = .ok (.iadd, 1) := by decide +kernel
theorem dX8_orderAge_21 : decode mX8_orderAge.2.1 21 = .ok (.ireturn, 1) := by decide +kernel
theorem dX8_age_0 : decode mX8_age.2.1 0 = .ok (.aload_n 0, 1) := by decide +kernel
theorem dX8_age_1 : decode mX8_age.2.1 1 = .ok (.getfield 16, 3) := by decide +kernel
theorem dX8_age_4 : decode mX8_age.2.1 4 = .ok (.iload_n 1, 1) := by decide +kernel
theorem dX8_age_5 : decode mX8_age.2.1 5 = .ok (.iaload, 1) := by decide +kernel
theorem dX8_age_6 : decode mX8_age.2.1 6 = .ok (.ifCond .ne 10, 3) := by decide +kernel
theorem dX8_age_9 : decode mX8_age.2.1 9 = .ok (.aload_n 0, 1) := by decide +kernel
theorem dX8_age_10 : decode mX8_age.2.1 10 = .ok (.iload_n 1, 1) := by decide +kernel
theorem dX8_age_11 : decode mX8_age.2.1 11 = .ok (.iload_n 2, 1) := by decide +kernel
theorem dX8_age_12 : decode mX8_age.2.1 12 = .ok (.invokevirtual 188, 3) := by decide +kernel
theorem dX8_age_15 : decode mX8_age.2.1 15 = .ok (.ireturn, 1) := by decide +kernel
theorem dX8_age_16 : decode mX8_age.2.1 16 = .ok (.aload_n 0, 1) := by decide +kernel
theorem dX8_age_17 : decode mX8_age.2.1 17 = .ok (.getfield 16, 3) := by decide +kernel
theorem dX8_age_20 : decode mX8_age.2.1 20 = .ok (.iload_n 1, 1) := by decide +kernel
theorem dX8_age_21 : decode mX8_age.2.1 21 = .ok (.iaload, 1) := by decide +kernel
theorem dX8_age_22 : decode mX8_age.2.1 22 = .ok (.iconst 3, 1) := by decide +kernel
theorem dX8_age_23 : decode mX8_age.2.1 23 = .ok (.if_icmp .lt 10, 3) := by decide +kernel
theorem dX8_age_26 : decode mX8_age.2.1 26 = .ok (.aload_n 0, 1) := by decide +kernel
theorem dX8_age_27 : decode mX8_age.2.1 27 = .ok (.iload_n 1, 1) := by decide +kernel
theorem dX8_age_28 : decode mX8_age.2.1 28 = .ok (.iload_n 2, 1) := by decide +kernel
theorem dX8_age_29 : decode mX8_age.2.1 29 = .ok (.invokevirtual 191, 3) := by decide +kernel
theorem dX8_age_32 : decode mX8_age.2.1 32 = .ok (.ireturn, 1) := by decide +kernel
theorem dX8_age_33 : decode mX8_age.2.1 33 = .ok (.aload_n 0, 1) := by decide +kernel
theorem dX8_age_34 : decode mX8_age.2.1 34 = .ok (.bipush 20, 2) := by decide +kernel
theorem dX8_age_36 : decode mX8_age.2.1 36 = .ok (.invokevirtual 185, 3) := by decide +kernel
theorem dX8_age_39 : decode mX8_age.2.1 39 = .ok (.aload_n 0, 1) := by decide +kernel
theorem dX8_age_40 : decode mX8_age.2.1 40 = .ok (.iload_n 1, 1) := by decide +kernel
theorem dX8_age_41 : decode mX8_age.2.1 41 = .ok (.iload_n 2, 1) := by decide +kernel
theorem dX8_age_42 : decode mX8_age.2.1 42 = .ok (.invokevirtual 188, 3) := by decide +kernel
theorem dX8_age_45 : decode mX8_age.2.1 45 = .ok (.iconst 2, 1) := by decide +kernel
theorem dX8_age_46 : decode mX8_age.2.1 46 = .ok (.imul, 1) := by decide +kernel
theorem dX8_age_47 : decode mX8_age.2.1 47 = .ok (.aload_n 0, 1) := by decide +kernel
theorem dX8_age_48 : decode mX8_age.2.1 48 = .ok (.getfield 28, 3) := by decide +kernel
theorem dX8_age_51 : decode mX8_age.2.1 51 = .ok (.iload_n 1, 1) := by decide +kernel
theorem dX8_age_52 : decode mX8_age.2.1 52 = .ok (.iaload, 1) := by decide +kernel
theorem dX8_age_53 : decode mX8_age.2.1 53 = .ok (.iadd, 1) := by decide +kernel
theorem dX8_age_54 : decode mX8_age.2.1 54 = .ok (.ireturn, 1) := by decide +kernel
theorem dX8_noteBear_0 : decode mX8_noteBear.2.1 0 = .ok (.aload_n 0, 1) := by decide +kernel
theorem dX8_noteBear_1 : decode mX8_noteBear.2.1 1 = .ok (.bipush 11, 2) := by decide +kernel
theorem dX8_noteBear_3 : decode mX8_noteBear.2.1 3 = .ok (.invokevirtual 185, 3) := by decide +kernel
theorem dX8_noteBear_6 : decode mX8_noteBear.2.1 6 = .ok (.iload_n 2, 1) := by decide +kernel
theorem dX8_noteBear_7 : decode mX8_noteBear.2.1 7 = .ok (.iconst 3, 1) := by decide +kernel
theorem dX8_noteBear_8 : decode mX8_noteBear.2.1 8 = .ok (.imul, 1) := by decide +kernel
theorem dX8_noteBear_9 : decode mX8_noteBear.2.1 9 = .ok (.aload_n 0, 1) := by decide +kernel
theorem dX8_noteBear_10 : decode mX8_noteBear.2.1 10 = .ok (.iload_n 1, 1) := by decide +kernel
theorem dX8_noteBear_11 : decode mX8_noteBear.2.1 11 = .ok (.invokevirtual 179, 3) := by decide +kernel
theorem dX8_noteBear_14 : decode mX8_noteBear.2.1 14 = .ok (.iadd, 1) := by decide +kernel
theorem dX8_noteBear_15 : decode mX8_noteBear.2.1 15 = .ok (.ireturn, 1) := by decide +kernel
theorem dX8_bear_0 : decode mX8_bear.2.1 0 = .ok (.aload_n 0, 1) := by decide +kernel
theorem dX8_bear_1 : decode mX8_bear.2.1 1 = .ok (.getfield 16, 3) := by decide +kernel
theorem dX8_bear_4 : decode mX8_bear.2.1 4 = .ok (.iload_n 1, 1) := by decide +kernel
theorem dX8_bear_5 : decode mX8_bear.2.1 5 = .ok (.iaload, 1) := by decide +kernel
theorem dX8_bear_6 : decode mX8_bear.2.1 6 = .ok (.iconst 2, 1) := by decide +kernel
theorem dX8_bear_7 : decode mX8_bear.2.1 7 = .ok (.if_icmp .ne 25, 3) := by decide +kernel
theorem dX8_bear_10 : decode mX8_bear.2.1 10 = .ok (.aload_n 0, 1) := by decide +kernel
theorem dX8_bear_11 : decode mX8_bear.2.1 11 = .ok (.bipush 30, 2) := by decide +kernel
theorem dX8_bear_13 : decode mX8_bear.2.1 13 = .ok (.invokevirtual 185, 3) := by decide +kernel
theorem dX8_bear_16 : decode mX8_bear.2.1 16 = .ok (.aload_n 0, 1) := by decide +kernel
theorem dX8_bear_17 : decode mX8_bear.2.1 17 = .ok (.iload_n 1, 1) := by decide +kernel
theorem dX8_bear_18 : decode mX8_bear.2.1 18 = .ok (.iload_n 2, 1) := by decide +kernel
theorem dX8_bear_19 : decode mX8_bear.2.1 19 = .ok (.iconst 1, 1) := by decide +kernel
theorem dX8_bear_20 : decode mX8_bear.2.1 20 = .ok (.iadd, 1) := by decide +kernel
theorem dX8_bear_21 : decode mX8_bear.2.1 21 = .ok (.invokevirtual 194, 3) := by decide +kernel
theorem dX8_bear_24 : decode mX8_bear.2.1 24 = .ok (.aload_n 0, 1) := by decide +kernel
theorem dX8_bear_25 : decode mX8_bear.2.1 25 = .ok (.getfield 31, 3) := by decide +kernel
theorem dX8_bear_28 : decode mX8_bear.2.1 28 = .ok (.iload_n 1, 1) := by decide +kernel
theorem dX8_bear_29 : decode mX8_bear.2.1 29 = .ok (.iaload, 1) := by decide +kernel
theorem dX8_bear_30 : decode mX8_bear.2.1 30 = .ok (.isub, 1) := by decide +kernel
theorem dX8_bear_31 : decode mX8_bear.2.1 31 = .ok (.ireturn, 1) := by decide +kernel
theorem dX8_bear_32 : decode mX8_bear.2.1 32 = .ok (.aload_n 0, 1) := by decide +kernel
theorem dX8_bear_33 : decode mX8_bear.2.1 33 = .ok (.getfield 16, 3) := by decide +kernel
theorem dX8_bear_36 : decode mX8_bear.2.1 36 = .ok (.iload_n 1, 1) := by decide +kernel
theorem dX8_bear_37 : decode mX8_bear.2.1 37 = .ok (.iaload, 1) := by decide +kernel
theorem dX8_bear_38 : decode mX8_bear.2.1 38 = .ok (.iconst 5, 1) := by decide +kernel
theorem dX8_bear_39 : decode mX8_bear.2.1 39 = .ok (.if_icmp .ne 27, 3) := by decide +kernel
theorem dX8_bear_42 : decode mX8_bear.2.1 42 = .ok (.aload_n 0, 1) := by decide +kernel
theorem dX8_bear_43 : decode mX8_bear.2.1 43 = .ok (.bipush 60, 2) := by decide +kernel
theorem dX8_bear_45 : decode mX8_bear.2.1 45 = .ok (.invokevirtual 185, 3) := by decide +kernel
theorem dX8_bear_48 : decode mX8_bear.2.1 48 = .ok (.aload_n 0, 1) := by decide +kernel
theorem dX8_bear_49 : decode mX8_bear.2.1 49 = .ok (.iload_n 1, 1) := by decide +kernel
theorem dX8_bear_50 : decode mX8_bear.2.1 50 = .ok (.iload_n 2, 1) := by decide +kernel
theorem dX8_bear_51 : decode mX8_bear.2.1 51 = .ok (.invokevirtual 194, 3) := by decide +kernel
theorem dX8_bear_54 : decode mX8_bear.2.1 54 = .ok (.iconst 2, 1) := by decide +kernel
theorem dX8_bear_55 : decode mX8_bear.2.1 55 = .ok (.imul, 1) := by decide +kernel
theorem dX8_bear_56 : decode mX8_bear.2.1 56 = .ok (.istore_n 3, 1) := by decide +kernel
theorem dX8_bear_57 : decode mX8_bear.2.1 57 = .ok (.iload_n 3, 1) := by decide +kernel
theorem dX8_bear_58 : decode mX8_bear.2.1 58 = .ok (.aload_n 0, 1) := by decide +kernel
theorem dX8_bear_59 : decode mX8_bear.2.1 59 = .ok (.iload_n 1, 1) := by decide +kernel
theorem dX8_bear_60 : decode mX8_bear.2.1 60 = .ok (.iload_n 2, 1) := by decide +kernel
theorem dX8_bear_61 : decode mX8_bear.2.1 61 = .ok (.invokevirtual 191, 3) := by decide +kernel
theorem dX8_bear_64 : decode mX8_bear.2.1 64 = .ok (.iadd, 1) := by decide +kernel
theorem dX8_bear_65 : decode mX8_bear.2.1 65 = .ok (.ireturn, 1) := by decide +kernel
theorem dX8_bear_66 : decode mX8_bear.2.1 66 = .ok (.aload_n 0, 1) := by decide +kernel
theorem dX8_bear_67 : decode mX8_bear.2.1 67 = .ok (.iload_n 1, 1) := by decide +kernel
theorem dX8_bear_68 : decode mX8_bear.2.1 68 = .ok (.iload_n 2, 1) := by decide +kernel
theorem dX8_bear_69 : decode mX8_bear.2.1 69 = .ok (.invokevirtual 194, 3) := by decide +kernel
theorem dX8_bear_72 : decode mX8_bear.2.1 72 = .ok (.ireturn, 1) := by decide +kernel
theorem dX8_noteGive_0 : decode mX8_noteGive.2.1 0 = .ok (.aload_n 0, 1) := by decide +kernel
theorem dX8_noteGive_1 : decode mX8_noteGive.2.1 1 = .ok (.bipush 12, 2) := by decide +kernel
theorem dX8_noteGive_3 : decode mX8_noteGive.2.1 3 = .ok (.invokevirtual 185, 3) := by decide +kernel
theorem dX8_noteGive_6 : decode mX8_noteGive.2.1 6 = .ok (.aload_n 0, 1) := by decide +kernel
theorem dX8_noteGive_7 : decode mX8_noteGive.2.1 7 = .ok (.iload_n 1, 1) := by decide +kernel
theorem dX8_noteGive_8 : decode mX8_noteGive.2.1 8 = .ok (.iload_n 2, 1) := by decide +kernel
theorem dX8_noteGive_9 : decode mX8_noteGive.2.1 9 = .ok (.invokevirtual 197, 3) := by decide +kernel
theorem dX8_noteGive_12 : decode mX8_noteGive.2.1 12 = .ok (.istore_n 3, 1) := by decide +kernel
theorem dX8_noteGive_13 : decode mX8_noteGive.2.1 13 = .ok (.iload_n 3, 1) := by decide +kernel
theorem dX8_noteGive_14 : decode mX8_noteGive.2.1 14 = .ok (.aload_n 0, 1) := by decide +kernel
theorem dX8_noteGive_15 : decode mX8_noteGive.2.1 15 = .ok (.iload_n 1, 1) := by decide +kernel
theorem dX8_noteGive_16 : decode mX8_noteGive.2.1 16 = .ok (.iload_n 2, 1) := by decide +kernel
theorem dX8_noteGive_17 : decode mX8_noteGive.2.1 17 = .ok (.invokevirtual 200, 3) := by decide +kernel
theorem dX8_noteGive_20 : decode mX8_noteGive.2.1 20 = .ok (.iadd, 1) := by decide +kernel
theorem dX8_noteGive_21 : decode mX8_noteGive.2.1 21 = .ok (.ireturn, 1) := by decide +kernel
theorem dX8_giveOf_0 : decode mX8_giveOf.2.1 0 = .ok (.aload_n 0, 1) := by decide +kernel
theorem dX8_giveOf_1 : decode mX8_giveOf.2.1 1 = .ok (.getfield 16, 3) := by decide +kernel
theorem dX8_giveOf_4 : decode mX8_giveOf.2.1 4 = .ok (.iload_n 1, 1) := by decide +kernel
theorem dX8_giveOf_5 : decode mX8_giveOf.2.1 5 = .ok (.iaload, 1) := by decide +kernel
theorem dX8_giveOf_6 : decode mX8_giveOf.2.1 6 = .ok (.iconst 2, 1) := by decide +kernel
theorem dX8_giveOf_7 : decode mX8_giveOf.2.1 7 = .ok (.if_icmp .ne 26, 3) := by decide +kernel
theorem dX8_giveOf_10 : decode mX8_giveOf.2.1 10 = .ok (.aload_n 0, 1) := by decide +kernel
theorem dX8_giveOf_11 : decode mX8_giveOf.2.1 11 = .ok (.bipush 31, 2) := by decide +kernel
theorem dX8_giveOf_13 : decode mX8_giveOf.2.1 13 = .ok (.invokevirtual 185, 3) := by decide +kernel
theorem dX8_giveOf_16 : decode mX8_giveOf.2.1 16 = .ok (.aload_n 0, 1) := by decide +kernel
theorem dX8_giveOf_17 : decode mX8_giveOf.2.1 17 = .ok (.iload_n 1, 1) := by decide +kernel
theorem dX8_giveOf_18 : decode mX8_giveOf.2.1 18 = .ok (.iload_n 2, 1) := by decide +kernel
theorem dX8_giveOf_19 : decode mX8_giveOf.2.1 19 = .ok (.invokevirtual 203, 3) := by decide +kernel
theorem dX8_giveOf_22 : decode mX8_giveOf.2.1 22 = .ok (.aload_n 0, 1) := by decide +kernel
theorem dX8_giveOf_23 : decode mX8_giveOf.2.1 23 = .ok (.getfield 31, 3) := by decide +kernel
theorem dX8_giveOf_26 : decode mX8_giveOf.2.1 26 = .ok (.iload_n 1, 1) := by decide +kernel
theorem dX8_giveOf_27 : decode mX8_giveOf.2.1 27 = .ok (.iaload, 1) := by decide +kernel
theorem dX8_giveOf_28 : decode mX8_giveOf.2.1 28 = .ok (.bipush 7, 2) := by decide +kernel
theorem dX8_giveOf_30 : decode mX8_giveOf.2.1 30 = .ok (.imul, 1) := by decide +kernel
theorem dX8_giveOf_31 : decode mX8_giveOf.2.1 31 = .ok (.iadd, 1) := by decide +kernel
theorem dX8_giveOf_32 : decode mX8_giveOf.2.1 32 = .ok (.ireturn, 1) := by decide +kernel
theorem dX8_giveOf_33 : decode mX8_giveOf.2.1 33 = .ok (.aload_n 0, 1) := by decide +kernel
theorem dX8_giveOf_34 : decode mX8_giveOf.2.1 34 = .ok (.getfield 16, 3) := by decide +kernel
theorem dX8_giveOf_37 : decode mX8_giveOf.2.1 37 = .ok (.iload_n 1, 1) := by decide +kernel
theorem dX8_giveOf_38 : decode mX8_giveOf.2.1 38 = .ok (.iaload, 1) := by decide +kernel
theorem dX8_giveOf_39 : decode mX8_giveOf.2.1 39 = .ok (.iconst 4, 1) := by decide +kernel
theorem dX8_giveOf_40 : decode mX8_giveOf.2.1 40 = .ok (.if_icmp .lt 20, 3) := by decide +kernel
theorem dX8_giveOf_43 : decode mX8_giveOf.2.1 43 = .ok (.aload_n 0, 1) := by decide +kernel
theorem dX8_giveOf_44 : decode mX8_giveOf.2.1 44 = .ok (.bipush 50, 2) := by decide +kernel
theorem dX8_giveOf_46 : decode mX8_giveOf.2.1 46 = .ok (.invokevirtual 185, 3) := by decide +kernel
theorem dX8_giveOf_49 : decode mX8_giveOf.2.1 49 = .ok (.aload_n 0, 1) := by decide +kernel
theorem dX8_giveOf_50 : decode mX8_giveOf.2.1 50 = .ok (.iload_n 1, 1) := by decide +kernel
theorem dX8_giveOf_51 : decode mX8_giveOf.2.1 51 = .ok (.iload_n 2, 1) := by decide +kernel
theorem dX8_giveOf_52 : decode mX8_giveOf.2.1 52 = .ok (.iconst 2, 1) := by decide +kernel
theorem dX8_giveOf_53 : decode mX8_giveOf.2.1 53 = .ok (.imul, 1) := by decide +kernel
theorem dX8_giveOf_54 : decode mX8_giveOf.2.1 54 = .ok (.invokevirtual 203, 3) := by decide +kernel
theorem dX8_giveOf_57 : decode mX8_giveOf.2.1 57 = .ok (.iconst 1, 1) := by decide +kernel
theorem dX8_giveOf_58 : decode mX8_giveOf.2.1 58 = .ok (.iadd, 1) := by decide +kernel
theorem dX8_giveOf_59 : decode mX8_giveOf.2.1 59 = .ok (.ireturn, 1) := by decide +kernel
theorem dX8_giveOf_60 : decode mX8_giveOf.2.1 60 = .ok (.aload_n 0, 1) := by decide +kernel
theorem dX8_giveOf_61 : decode mX8_giveOf.2.1 61 = .ok (.iload_n 1, 1) := by decide +kernel
theorem dX8_giveOf_62 : decode mX8_giveOf.2.1 62 = .ok (.iload_n 2, 1) := by decide +kernel
theorem dX8_giveOf_63 : decode mX8_giveOf.2.1 63 = .ok (.invokevirtual 203, 3) := by decide +kernel
theorem dX8_giveOf_66 : decode mX8_giveOf.2.1 66 = .ok (.ireturn, 1) := by decide +kernel
theorem dX8_noteWait_0 : decode mX8_noteWait.2.1 0 = .ok (.aload_n 0, 1) := by decide +kernel
theorem dX8_noteWait_1 : decode mX8_noteWait.2.1 1 = .ok (.bipush 13, 2) := by decide +kernel
theorem dX8_noteWait_3 : decode mX8_noteWait.2.1 3 = .ok (.invokevirtual 185, 3) := by decide +kernel
theorem dX8_noteWait_6 : decode mX8_noteWait.2.1 6 = .ok (.aload_n 0, 1) := by decide +kernel
theorem dX8_noteWait_7 : decode mX8_noteWait.2.1 7 = .ok (.iload_n 1, 1) := by decide +kernel
theorem dX8_noteWait_8 : decode mX8_noteWait.2.1 8 = .ok (.iload_n 2, 1) := by decide +kernel
theorem dX8_noteWait_9 : decode mX8_noteWait.2.1 9 = .ok (.iconst 1, 1) := by decide +kernel
theorem dX8_noteWait_10 : decode mX8_noteWait.2.1 10 = .ok (.iadd, 1) := by decide +kernel
theorem dX8_noteWait_11 : decode mX8_noteWait.2.1 11 = .ok (.invokevirtual 206, 3) := by decide +kernel
theorem dX8_noteWait_14 : decode mX8_noteWait.2.1 14 = .ok (.iload_n 2, 1) := by decide +kernel
theorem dX8_noteWait_15 : decode mX8_noteWait.2.1 15 = .ok (.isub, 1) := by decide +kernel
theorem dX8_noteWait_16 : decode mX8_noteWait.2.1 16 = .ok (.ireturn, 1) := by decide +kernel
theorem dX8_waitOf_0 : decode mX8_waitOf.2.1 0 = .ok (.aload_n 0, 1) := by decide +kernel
theorem dX8_waitOf_1 : decode mX8_waitOf.2.1 1 = .ok (.getfield 16, 3) := by decide +kernel
theorem dX8_waitOf_4 : decode mX8_waitOf.2.1 4 = .ok (.iload_n 1, 1) := by decide +kernel
theorem dX8_waitOf_5 : decode mX8_waitOf.2.1 5 = .ok (.iaload, 1) := by decide +kernel
theorem dX8_waitOf_6 : decode mX8_waitOf.2.1 6 = .ok (.iconst 1, 1) := by decide +kernel
theorem dX8_waitOf_7 : decode mX8_waitOf.2.1 7 = .ok (.if_icmp .eq 13, 3) := by decide +kernel
theorem dX8_waitOf_10 : decode mX8_waitOf.2.1 10 = .ok (.aload_n 0, 1) := by decide +kernel
theorem dX8_waitOf_11 : decode mX8_waitOf.2.1 11 = .ok (.getfield 16, 3) := by decide +kernel
theorem dX8_waitOf_14 : decode mX8_waitOf.2.1 14 = .ok (.iload_n 1, 1) := by decide +kernel
theorem dX8_waitOf_15 : decode mX8_waitOf.2.1 15 = .ok (.iaload, 1) := by decide +kernel
theorem dX8_waitOf_16 : decode mX8_waitOf.2.1 16 = .ok (.iconst 2, 1) := by decide +kernel
theorem dX8_waitOf_17 : decode mX8_waitOf.2.1 17 = .ok (.if_icmp .ne 18, 3) := by decide +kernel
theorem dX8_waitOf_20 : decode mX8_waitOf.2.1 20 = .ok (.aload_n 0, 1) := by decide +kernel
theorem dX8_waitOf_21 : decode mX8_waitOf.2.1 21 = .ok (.bipush 21, 2) := by decide +kernel
theorem dX8_waitOf_23 : decode mX8_waitOf.2.1 23 = .ok (.invokevirtual 185, 3) := by decide +kernel
theorem dX8_waitOf_26 : decode mX8_waitOf.2.1 26 = .ok (.aload_n 0, 1) := by decide +kernel
theorem dX8_waitOf_27 : decode mX8_waitOf.2.1 27 = .ok (.iload_n 1, 1) := by decide +kernel
theorem dX8_waitOf_28 : decode mX8_waitOf.2.1 28 = .ok (.iload_n 2, 1) := by decide +kernel
theorem dX8_waitOf_29 : decode mX8_waitOf.2.1 29 = .ok (.invokevirtual 209, 3) := by decide +kernel
theorem dX8_waitOf_32 : decode mX8_waitOf.2.1 32 = .ok (.iconst 5, 1) := by decide +kernel
theorem dX8_waitOf_33 : decode mX8_waitOf.2.1 33 = .ok (.ixor, 1) := by decide +kernel
theorem dX8_waitOf_34 : decode mX8_waitOf.2.1 34 = .ok (.ireturn, 1) := by decide +kernel
theorem dX8_waitOf_35 : decode mX8_waitOf.2.1 35 = .ok (.aload_n 0, 1) := by decide +kernel
theorem dX8_waitOf_36 : decode mX8_waitOf.2.1 36 = .ok (.getfield 16, 3) := by decide +kernel
theorem dX8_waitOf_39 : decode mX8_waitOf.2.1 39 = .ok (.iload_n 1, 1) := by decide +kernel
theorem dX8_waitOf_40 : decode mX8_waitOf.2.1 40 = .ok (.iaload, 1) := by decide +kernel
theorem dX8_waitOf_41 : decode mX8_waitOf.2.1 41 = .ok (.iconst 5, 1) := by decide +kernel
theorem dX8_waitOf_42 : decode mX8_waitOf.2.1 42 = .ok (.if_icmp .ne 27, 3) := by decide +kernel
theorem dX8_waitOf_45 : decode mX8_waitOf.2.1 45 = .ok (.aload_n 0, 1) := by decide +kernel
theorem dX8_waitOf_46 : decode mX8_waitOf.2.1 46 = .ok (.bipush 61, 2) := by decide +kernel
theorem dX8_waitOf_48 : decode mX8_waitOf.2.1 48 = .ok (.invokevirtual 185, 3) := by decide +kernel
theorem dX8_waitOf_51 : decode mX8_waitOf.2.1 51 = .ok (.aload_n 0, 1) := by decide +kernel
theorem dX8_waitOf_52 : decode mX8_waitOf.2.1 52 = .ok (.iload_n 1, 1) := by decide +kernel
theorem dX8_waitOf_53 : decode mX8_waitOf.2.1 53 = .ok (.iload_n 2, 1) := by decide +kernel
theorem dX8_waitOf_54 : decode mX8_waitOf.2.1 54 = .ok (.iconst 2, 1) := by decide +kernel
theorem dX8_waitOf_55 : decode mX8_waitOf.2.1 55 = .ok (.iadd, 1) := by decide +kernel
theorem dX8_waitOf_56 : decode mX8_waitOf.2.1 56 = .ok (.invokevirtual 209, 3) := by decide +kernel
theorem dX8_waitOf_59 : decode mX8_waitOf.2.1 59 = .ok (.istore_n 3, 1) := by decide +kernel
theorem dX8_waitOf_60 : decode mX8_waitOf.2.1 60 = .ok (.iload_n 3, 1) := by decide +kernel
theorem dX8_waitOf_61 : decode mX8_waitOf.2.1 61 = .ok (.aload_n 0, 1) := by decide +kernel
theorem dX8_waitOf_62 : decode mX8_waitOf.2.1 62 = .ok (.iload_n 1, 1) := by decide +kernel
theorem dX8_waitOf_63 : decode mX8_waitOf.2.1 63 = .ok (.iload_n 2, 1) := by decide +kernel
theorem dX8_waitOf_64 : decode mX8_waitOf.2.1 64 = .ok (.invokevirtual 200, 3) := by decide +kernel
theorem dX8_waitOf_67 : decode mX8_waitOf.2.1 67 = .ok (.iadd, 1) := by decide +kernel
theorem dX8_waitOf_68 : decode mX8_waitOf.2.1 68 = .ok (.ireturn, 1) := by decide +kernel
theorem dX8_waitOf_69 : decode mX8_waitOf.2.1 69 = .ok (.aload_n 0, 1) := by decide +kernel
theorem dX8_waitOf_70 : decode mX8_waitOf.2.1 70 = .ok (.iload_n 1, 1) := by decide +kernel
theorem dX8_waitOf_71 : decode mX8_waitOf.2.1 71 = .ok (.iload_n 2, 1) := by decide +kernel
theorem dX8_waitOf_72 : decode mX8_waitOf.2.1 72 = .ok (.invokevirtual 209, 3) := by decide +kernel
theorem dX8_waitOf_75 : decode mX8_waitOf.2.1 75 = .ok (.ireturn, 1) := by decide +kernel
theorem dX8_act_0 : decode mX8_act.2.1 0 = .ok (.aload_n 0, 1) := by decide +kernel
theorem dX8_act_1 : decode mX8_act.2.1 1 = .ok (.iload_n 1, 1) := by decide +kernel
theorem dX8_act_2 : decode mX8_act.2.1 2 = .ok (.invokevirtual 142, 3) := by decide +kernel
theorem dX8_act_5 : decode mX8_act.2.1 5 = .ok (.ifCond .eq 12, 3) := by decide +kernel
theorem dX8_act_8 : decode mX8_act.2.1 8 = .ok (.iload_n 2, 1) := by decide +kernel
theorem dX8_act_9 : decode mX8_act.2.1 9 = .ok (.iconst 0, 1) := by decide +kernel
theorem dX8_act_10 : decode mX8_act.2.1 10 = .ok (.iconst 3, 1) := by decide +kernel
theorem dX8_act_11 : decode mX8_act.2.1 11 = .ok (.invokestatic 82, 3) := by decide +kernel
theorem dX8_act_14 : decode mX8_act.2.1 14 = .ok (.ifCond .ne 9, 3) := by decide +kernel
theorem dX8_act_17 : decode mX8_act.2.1 17 = .ok (.aload_n 0, 1) := by decide +kernel
theorem dX8_act_18 : decode mX8_act.2.1 18 = .ok (.iconst 1, 1) := by decide +kernel
theorem dX8_act_19 : decode mX8_act.2.1 19 = .ok (.invokevirtual 103, 3) := by decide +kernel
theorem dX8_act_22 : decode mX8_act.2.1 22 = .ok (.ireturn, 1) := by decide +kernel
theorem dX8_act_23 : decode mX8_act.2.1 23 = .ok (.aload_n 0, 1) := by decide +kernel
theorem dX8_act_24 : decode mX8_act.2.1 24 = .ok (.iconst 0, 1) := by decide +kernel
theorem dX8_act_25 : decode mX8_act.2.1 25 = .ok (.putfield 176, 3) := by decide +kernel
theorem dX8_act_28 : decode mX8_act.2.1 28 = .ok (.iload_n 2, 1) := by decide +kernel
theorem dX8_act_29 : decode mX8_act.2.1 29 = .ok (.ifCond .ne 12, 3) := by decide +kernel
theorem dX8_act_32 : decode mX8_act.2.1 32 = .ok (.aload_n 0, 1) := by decide +kernel
theorem dX8_act_33 : decode mX8_act.2.1 33 = .ok (.iload_n 1, 1) := by decide +kernel
theorem dX8_act_34 : decode mX8_act.2.1 34 = .ok (.iload_n 3, 1) := by decide +kernel
theorem dX8_act_35 : decode mX8_act.2.1 35 = .ok (.invokevirtual 197, 3) := by decide +kernel
theorem dX8_act_38 : decode mX8_act.2.1 38 = .ok (.goto 37, 3) := by decide +kernel
theorem dX8_act_41 : decode mX8_act.2.1 41 = .ok (.iload_n 2, 1) := by decide +kernel
theorem dX8_act_42 : decode mX8_act.2.1 42 = .ok (.iconst 1, 1) := by decide +kernel
theorem dX8_act_43 : decode mX8_act.2.1 43 = .ok (.if_icmp .ne 12, 3) := by decide +kernel
theorem dX8_act_46 : decode mX8_act.2.1 46 = .ok (.aload_n 0, 1) := by decide +kernel
theorem dX8_act_47 : decode mX8_act.2.1 47 = .ok (.iload_n 1, 1) := by decide +kernel
theorem dX8_act_48 : decode mX8_act.2.1 48 = .ok (.iload_n 3, 1) := by decide +kernel
theorem dX8_act_49 : decode mX8_act.2.1 49 = .ok (.invokevirtual 200, 3) := by decide +kernel
theorem dX8_act_52 : decode mX8_act.2.1 52 = .ok (.goto 23, 3) := by decide +kernel
theorem dX8_act_55 : decode mX8_act.2.1 55 = .ok (.iload_n 2, 1) := by decide +kernel
theorem dX8_act_56 : decode mX8_act.2.1 56 = .ok (.iconst 2, 1) := by decide +kernel
theorem dX8_act_57 : decode mX8_act.2.1 57 = .ok (.if_icmp .ne 12, 3) := by decide +kernel
theorem dX8_act_60 : decode mX8_act.2.1 60 = .ok (.aload_n 0, 1) := by decide +kernel
theorem dX8_act_61 : decode mX8_act.2.1 61 = .ok (.iload_n 1, 1) := by decide +kernel
theorem dX8_act_62 : decode mX8_act.2.1 62 = .ok (.iload_n 3, 1) := by decide +kernel
theorem dX8_act_63 : decode mX8_act.2.1 63 = .ok (.invokevirtual 206, 3) := by decide +kernel
theorem dX8_act_66 : decode mX8_act.2.1 66 = .ok (.goto 9, 3) := by decide +kernel
theorem dX8_act_69 : decode mX8_act.2.1 69 = .ok (.aload_n 0, 1) := by decide +kernel
theorem dX8_act_70 : decode mX8_act.2.1 70 = .ok (.iload_n 1, 1) := by decide +kernel
theorem dX8_act_71 : decode mX8_act.2.1 71 = .ok (.iload_n 3, 1) := by decide +kernel
theorem dX8_act_72 : decode mX8_act.2.1 72 = .ok (.invokevirtual 212, 3) := by decide +kernel
theorem dX8_act_75 : decode mX8_act.2.1 75 = .ok (.istore 4, 2) := by decide +kernel
theorem dX8_act_77 : decode mX8_act.2.1 77 = .ok (.aload_n 0, 1) := by decide +kernel
theorem dX8_act_78 : decode mX8_act.2.1 78 = .ok (.iload 4, 2) := by decide +kernel
theorem dX8_act_80 : decode mX8_act.2.1 80 = .ok (.invokevirtual 106, 3) := by decide +kernel
theorem dX8_act_83 : decode mX8_act.2.1 83 = .ok (.ireturn, 1) := by decide +kernel
theorem dX8_trace_0 : decode mX8_trace.2.1 0 = .ok (.iload_n 1, 1) := by decide +kernel
theorem dX8_trace_1 : decode mX8_trace.2.1 1 = .ok (.iconst 0, 1) := by decide +kernel
theorem dX8_trace_2 : decode mX8_trace.2.1 2 = .ok (.aload_n 0, 1) := by decide +kernel
theorem dX8_trace_3 : decode mX8_trace.2.1 3 = .ok (.getfield 176, 3) := by decide +kernel
theorem dX8_trace_6 : decode mX8_trace.2.1 6 = .ok (.bipush 60, 2) := by decide +kernel
theorem dX8_trace_8 : decode mX8_trace.2.1 8 = .ok (.if_icmp .ge 10, 3) := by decide +kernel
theorem dX8_trace_11 : decode mX8_trace.2.1 11 = .ok (.aload_n 0, 1) := by decide +kernel
theorem dX8_trace_12 : decode mX8_trace.2.1 12 = .ok (.getfield 176, 3) := by decide +kernel
theorem dX8_trace_15 : decode mX8_trace.2.1 15 = .ok (.goto 5, 3) := by decide +kernel
theorem dX8_trace_18 : decode mX8_trace.2.1 18 = .ok (.bipush 60, 2) := by decide +kernel
theorem dX8_trace_20 : decode mX8_trace.2.1 20 = .ok (.iconst 1, 1) := by decide +kernel
theorem dX8_trace_21 : decode mX8_trace.2.1 21 = .ok (.isub, 1) := by decide +kernel
theorem dX8_trace_22 : decode mX8_trace.2.1 22 = .ok (.invokestatic 82, 3) := by decide +kernel
theorem dX8_trace_25 : decode mX8_trace.2.1 25 = .ok (.ifCond .eq 12, 3) := by decide +kernel
theorem dX8_trace_28 : decode mX8_trace.2.1 28 = .ok (.aload_n 0, 1) := by decide +kernel
theorem dX8_trace_29 : decode mX8_trace.2.1 29 = .ok (.getfield 72, 3) := by decide +kernel
theorem dX8_trace_32 : decode mX8_trace.2.1 32 = .ok (.iload_n 1, 1) := by decide +kernel
theorem dX8_trace_33 : decode mX8_trace.2.1 33 = .ok (.iaload, 1) := by decide +kernel
theorem dX8_trace_34 : decode mX8_trace.2.1 34 = .ok (.goto 4, 3) := by decide +kernel
theorem dX8_trace_37 : decode mX8_trace.2.1 37 = .ok (.iconst (-1), 1) := by decide +kernel
theorem dX8_trace_38 : decode mX8_trace.2.1 38 = .ok (.ireturn, 1) := by decide +kernel
theorem dX8_bare_0 : decode mX8_bare.2.1 0 = .ok (.aload_n 0, 1) := by decide +kernel
theorem dX8_bare_1 : decode mX8_bare.2.1 1 = .ok (.iload_n 1, 1) := by decide +kernel
theorem dX8_bare_2 : decode mX8_bare.2.1 2 = .ok (.invokevirtual 113, 3) := by decide +kernel
theorem dX8_bare_5 : decode mX8_bare.2.1 5 = .ok (.ifCond .eq 21, 3) := by decide +kernel
theorem dX8_bare_8 : decode mX8_bare.2.1 8 = .ok (.iload_n 2, 1) := by decide +kernel
theorem dX8_bare_9 : decode mX8_bare.2.1 9 = .ok (.iconst 0, 1) := by decide +kernel
theorem dX8_bare_10 : decode mX8_bare.2.1 10 = .ok (.bipush 39, 2) := by decide +kernel
theorem dX8_bare_12 : decode mX8_bare.2.1 12 = .ok (.invokestatic 82, 3) := by decide +kernel
theorem dX8_bare_15 : decode mX8_bare.2.1 15 = .ok (.ifCond .eq 11, 3) := by decide +kernel
theorem dX8_bare_18 : decode mX8_bare.2.1 18 = .ok (.aload_n 0, 1) := by decide +kernel
theorem dX8_bare_19 : decode mX8_bare.2.1 19 = .ok (.iload_n 3, 1) := by decide +kernel
theorem dX8_bare_20 : decode mX8_bare.2.1 20 = .ok (.invokevirtual 142, 3) := by decide +kernel
theorem dX8_bare_23 : decode mX8_bare.2.1 23 = .ok (.ifCond .ne 9, 3) := by decide +kernel
theorem dX8_bare_26 : decode mX8_bare.2.1 26 = .ok (.aload_n 0, 1) := by decide +kernel
theorem dX8_bare_27 : decode mX8_bare.2.1 27 = .ok (.iconst 1, 1) := by decide +kernel
theorem dX8_bare_28 : decode mX8_bare.2.1 28 = .ok (.invokevirtual 103, 3) := by decide +kernel
theorem dX8_bare_31 : decode mX8_bare.2.1 31 = .ok (.ireturn, 1) := by decide +kernel
theorem dX8_bare_32 : decode mX8_bare.2.1 32 = .ok (.aload_n 0, 1) := by decide +kernel
theorem dX8_bare_33 : decode mX8_bare.2.1 33 = .ok (.getfield 69, 3) := by decide +kernel
theorem dX8_bare_36 : decode mX8_bare.2.1 36 = .ok (.bipush 40, 2) := by decide +kernel
theorem dX8_bare_38 : decode mX8_bare.2.1 38 = .ok (.iload_n 1, 1) := by decide +kernel
theorem dX8_bare_39 : decode mX8_bare.2.1 39 = .ok (.imul, 1) := by decide +kernel
theorem dX8_bare_40 : decode mX8_bare.2.1 40 = .ok (.iload_n 2, 1) := by decide +kernel
theorem dX8_bare_41 : decode mX8_bare.2.1 41 = .ok (.iadd, 1) := by decide +kernel
theorem dX8_bare_42 : decode mX8_bare.2.1 42 = .ok (.iaload, 1) := by decide +kernel
theorem dX8_bare_43 : decode mX8_bare.2.1 43 = .ok (.ifCond .eq 9, 3) := by decide +kernel
theorem dX8_bare_46 : decode mX8_bare.2.1 46 = .ok (.aload_n 0, 1) := by decide +kernel
theorem dX8_bare_47 : decode mX8_bare.2.1 47 = .ok (.iconst 3, 1) := by decide +kernel
theorem dX8_bare_48 : decode mX8_bare.2.1 48 = .ok (.invokevirtual 103, 3) := by decide +kernel
theorem dX8_bare_51 : decode mX8_bare.2.1 51 = .ok (.ireturn, 1) := by decide +kernel
theorem dX8_bare_52 : decode mX8_bare.2.1 52 = .ok (.aload_n 0, 1) := by decide +kernel
theorem dX8_bare_53 : decode mX8_bare.2.1 53 = .ok (.getfield 69, 3) := by decide +kernel
theorem dX8_bare_56 : decode mX8_bare.2.1 56 = .ok (.bipush 40, 2) := by decide +kernel
theorem dX8_bare_58 : decode mX8_bare.2.1 58 = .ok (.iload_n 1, 1) := by decide +kernel
theorem dX8_bare_59 : decode mX8_bare.2.1 59 = .ok (.imul, 1) := by decide +kernel
theorem dX8_bare_60 : decode mX8_bare.2.1 60 = .ok (.iload_n 2, 1) := by decide +kernel
theorem dX8_bare_61 : decode mX8_bare.2.1 61 = .ok (.iadd, 1) := by decide +kernel
theorem dX8_bare_62 : decode mX8_bare.2.1 62 = .ok (.iconst (-1), 1) := by decide +kernel
theorem dX8_bare_63 : decode mX8_bare.2.1 63 = .ok (.iload_n 3, 1) := by decide +kernel
theorem dX8_bare_64 : decode mX8_bare.2.1 64 = .ok (.isub, 1) := by decide +kernel
theorem dX8_bare_65 : decode mX8_bare.2.1 65 = .ok (.iastore, 1) := by decide +kernel
theorem dX8_bare_66 : decode mX8_bare.2.1 66 = .ok (.aload_n 0, 1) := by decide +kernel
theorem dX8_bare_67 : decode mX8_bare.2.1 67 = .ok (.iconst 1, 1) := by decide +kernel
theorem dX8_bare_68 : decode mX8_bare.2.1 68 = .ok (.invokevirtual 106, 3) := by decide +kernel
theorem dX8_bare_71 : decode mX8_bare.2.1 71 = .ok (.ireturn, 1) := by decide +kernel
theorem dX8_slot_0 : decode mX8_slot.2.1 0 = .ok (.aload_n 0, 1) := by decide +kernel
theorem dX8_slot_1 : decode mX8_slot.2.1 1 = .ok (.iload_n 1, 1) := by decide +kernel
theorem dX8_slot_2 : decode mX8_slot.2.1 2 = .ok (.invokevirtual 113, 3) := by decide +kernel
theorem dX8_slot_5 : decode mX8_slot.2.1 5 = .ok (.ifCond .eq 13, 3) := by decide +kernel
theorem dX8_slot_8 : decode mX8_slot.2.1 8 = .ok (.iload_n 2, 1) := by decide +kernel
theorem dX8_slot_9 : decode mX8_slot.2.1 9 = .ok (.iconst 0, 1) := by decide +kernel
theorem dX8_slot_10 : decode mX8_slot.2.1 10 = .ok (.bipush 39, 2) := by decide +kernel
theorem dX8_slot_12 : decode mX8_slot.2.1 12 = .ok (.invokestatic 82, 3) := by decide +kernel
theorem dX8_slot_15 : decode mX8_slot.2.1 15 = .ok (.ifCond .ne 5, 3) := by decide +kernel
theorem dX8_slot_18 : decode mX8_slot.2.1 18 = .ok (.iconst (-1), 1) := by decide +kernel
theorem dX8_slot_19 : decode mX8_slot.2.1 19 = .ok (.ireturn, 1) := by decide +kernel
theorem dX8_slot_20 : decode mX8_slot.2.1 20 = .ok (.aload_n 0, 1) := by decide +kernel
theorem dX8_slot_21 : decode mX8_slot.2.1 21 = .ok (.getfield 69, 3) := by decide +kernel
theorem dX8_slot_24 : decode mX8_slot.2.1 24 = .ok (.bipush 40, 2) := by decide +kernel
theorem dX8_slot_26 : decode mX8_slot.2.1 26 = .ok (.iload_n 1, 1) := by decide +kernel
theorem dX8_slot_27 : decode mX8_slot.2.1 27 = .ok (.imul, 1) := by decide +kernel
theorem dX8_slot_28 : decode mX8_slot.2.1 28 = .ok (.iload_n 2, 1) := by decide +kernel
theorem dX8_slot_29 : decode mX8_slot.2.1 29 = .ok (.iadd, 1) := by decide +kernel
theorem dX8_slot_30 : decode mX8_slot.2.1 30 = .ok (.iaload, 1) := by decide +kernel
theorem dX8_slot_31 : decode mX8_slot.2.1 31 = .ok (.istore_n 3, 1) := by decide +kernel
theorem dX8_slot_32 : decode mX8_slot.2.1 32 = .ok (.iload_n 3, 1) := by decide +kernel
theorem dX8_slot_33 : decode mX8_slot.2.1 33 = .ok (.ifCond .ne 7, 3) := by decide +kernel
theorem dX8_slot_36 : decode mX8_slot.2.1 36 = .ok (.iconst 0, 1) := by decide +kernel
theorem dX8_slot_37 : decode mX8_slot.2.1 37 = .ok (.goto 21, 3) := by decide +kernel
theorem dX8_slot_40 : decode mX8_slot.2.1 40 = .ok (.iload_n 3, 1) := by decide +kernel
theorem dX8_slot_41 : decode mX8_slot.2.1 41 = .ok (.ifCond .ge 7, 3) := by decide +kernel
theorem dX8_slot_44 : decode mX8_slot.2.1 44 = .ok (.iconst 1, 1) := by decide +kernel
theorem dX8_slot_45 : decode mX8_slot.2.1 45 = .ok (.goto 13, 3) := by decide +kernel
theorem dX8_slot_48 : decode mX8_slot.2.1 48 = .ok (.iconst 2, 1) := by decide +kernel
theorem dX8_slot_49 : decode mX8_slot.2.1 49 = .ok (.aload_n 0, 1) := by decide +kernel
theorem dX8_slot_50 : decode mX8_slot.2.1 50 = .ok (.getfield 16, 3) := by decide +kernel
theorem dX8_slot_53 : decode mX8_slot.2.1 53 = .ok (.iload_n 3, 1) := by decide +kernel
theorem dX8_slot_54 : decode mX8_slot.2.1 54 = .ok (.iconst 1, 1) := by decide +kernel
theorem dX8_slot_55 : decode mX8_slot.2.1 55 = .ok (.isub, 1) := by decide +kernel
theorem dX8_slot_56 : decode mX8_slot.2.1 56 = .ok (.iaload, 1) := by decide +kernel
theorem dX8_slot_57 : decode mX8_slot.2.1 57 = .ok (.iadd, 1) := by decide +kernel
theorem dX8_slot_58 : decode mX8_slot.2.1 58 = .ok (.ireturn, 1) := by decide +kernel
theorem dX8_firstRow_0 : decode mX8_firstRow.2.1 0 = .ok (.iconst 0, 1) := by decide +kernel
theorem dX8_firstRow_1 : decode mX8_firstRow.2.1 1 = .ok (.istore_n 2, 1) := by decide +kernel
theorem dX8_firstRow_2 : decode mX8_firstRow.2.1 2 = .ok (.aload_n 0, 1) := by decide +kernel
theorem dX8_firstRow_3 : decode mX8_firstRow.2.1 3 = .ok (.getfield 40, 3) := by decide +kernel
theorem dX8_firstRow_6 : decode mX8_firstRow.2.1 6 = .ok (.iload_n 1, 1) := by decide +kernel
theorem dX8_firstRow_7 : decode mX8_firstRow.2.1 7 = .ok (.iaload, 1) := by decide +kernel
theorem dX8_firstRow_8 : decode mX8_firstRow.2.1 8 = .ok (.iload_n 2, 1) := by decide +kernel
theorem dX8_firstRow_9 : decode mX8_firstRow.2.1 9 = .ok (.ishr, 1) := by decide +kernel
theorem dX8_firstRow_10 : decode mX8_firstRow.2.1 10 = .ok (.iconst 1, 1) := by decide +kernel
theorem dX8_firstRow_11 : decode mX8_firstRow.2.1 11 = .ok (.iand, 1) := by decide +kernel
theorem dX8_firstRow_12 : decode mX8_firstRow.2.1 12 = .ok (.ifCond .ne 9, 3) := by decide +kernel
theorem dX8_firstRow_15 : decode mX8_firstRow.2.1 15 = .ok (.iinc 2 1, 3) := by decide +kernel
theorem dX8_firstRow_18 : decode mX8_firstRow.2.1 18 = .ok (.goto (-16), 3) := by decide +kernel
theorem dX8_firstRow_21 : decode mX8_firstRow.2.1 21 = .ok (.iload_n 2, 1) := by decide +kernel
theorem dX8_firstRow_22 : decode mX8_firstRow.2.1 22 = .ok (.ireturn, 1) := by decide +kernel
theorem dX8_sumOf_0 : decode mX8_sumOf.2.1 0 = .ok (.iconst 0, 1) := by decide +kernel
theorem dX8_sumOf_1 : decode mX8_sumOf.2.1 1 = .ok (.istore 5, 2) := by decide +kernel
theorem dX8_sumOf_3 : decode mX8_sumOf.2.1 3 = .ok (.iload_n 3, 1) := by decide +kernel
theorem dX8_sumOf_4 : decode mX8_sumOf.2.1 4 = .ok (.istore 6, 2) := by decide +kernel
theorem dX8_sumOf_6 : decode mX8_sumOf.2.1 6 = .ok (.iload 6, 2) := by decide +kernel
theorem dX8_sumOf_8 : decode mX8_sumOf.2.1 8 = .ok (.iload_n 3, 1) := by decide +kernel
theorem dX8_sumOf_9 : decode mX8_sumOf.2.1 9 = .ok (.iload 4, 2) := by decide +kernel
theorem dX8_sumOf_11 : decode mX8_sumOf.2.1 11 = .ok (.iadd, 1) := by decide +kernel
theorem dX8_sumOf_12 : decode mX8_sumOf.2.1 12 = .ok (.if_icmp .ge 31, 3) := by decide +kernel
theorem dX8_sumOf_15 : decode mX8_sumOf.2.1 15 = .ok (.iload 5, 2) := by decide +kernel
theorem dX8_sumOf_17 : decode mX8_sumOf.2.1 17 = .ok (.aload_n 0, 1) := by decide +kernel
theorem dX8_sumOf_18 : decode mX8_sumOf.2.1 18 = .ok (.getfield 43, 3) := by decide +kernel
theorem dX8_sumOf_21 : decode mX8_sumOf.2.1 21 = .ok (.bipush 48, 2) := by decide +kernel
theorem dX8_sumOf_23 : decode mX8_sumOf.2.1 23 = .ok (.iload_n 1, 1) := by decide +kernel
theorem dX8_sumOf_24 : decode mX8_sumOf.2.1 24 = .ok (.imul, 1) := by decide +kernel
theorem dX8_sumOf_25 : decode mX8_sumOf.2.1 25 = .ok (.bipush 8, 2) := by decide +kernel
theorem dX8_sumOf_27 : decode mX8_sumOf.2.1 27 = .ok (.iload_n 2, 1) := by decide +kernel
theorem dX8_sumOf_28 : decode mX8_sumOf.2.1 28 = .ok (.imul, 1) := by decide +kernel
theorem dX8_sumOf_29 : decode mX8_sumOf.2.1 29 = .ok (.iadd, 1) := by decide +kernel
theorem dX8_sumOf_30 : decode mX8_sumOf.2.1 30 = .ok (.iload 6, 2) := by decide +kernel
theorem dX8_sumOf_32 : decode mX8_sumOf.2.1 32 = .ok (.iadd, 1) := by decide +kernel
theorem dX8_sumOf_33 : decode mX8_sumOf.2.1 33 = .ok (.iaload, 1) := by decide +kernel
theorem dX8_sumOf_34 : decode mX8_sumOf.2.1 34 = .ok (.iadd, 1) := by decide +kernel
theorem dX8_sumOf_35 : decode mX8_sumOf.2.1 35 = .ok (.istore 5, 2) := by decide +kernel
theorem dX8_sumOf_37 : decode mX8_sumOf.2.1 37 = .ok (.iinc 6 1, 3) := by decide +kernel
theorem dX8_sumOf_40 : decode mX8_sumOf.2.1 40 = .ok (.goto (-34), 3) := by decide +kernel
theorem dX8_sumOf_43 : decode mX8_sumOf.2.1 43 = .ok (.iload 5, 2) := by decide +kernel
theorem dX8_sumOf_45 : decode mX8_sumOf.2.1 45 = .ok (.ireturn, 1) := by decide +kernel
theorem dX8_forge_0 : decode mX8_forge.2.1 0 = .ok (.aload_n 0, 1) := by decide +kernel
theorem dX8_forge_1 : decode mX8_forge.2.1 1 = .ok (.iload_n 1, 1) := by decide +kernel
theorem dX8_forge_2 : decode mX8_forge.2.1 2 = .ok (.invokevirtual 113, 3) := by decide +kernel
theorem dX8_forge_5 : decode mX8_forge.2.1 5 = .ok (.ifCond .eq 35, 3) := by decide +kernel
theorem dX8_forge_8 : decode mX8_forge.2.1 8 = .ok (.iload_n 2, 1) := by decide +kernel
theorem dX8_forge_9 : decode mX8_forge.2.1 9 = .ok (.iconst 0, 1) := by decide +kernel
theorem dX8_forge_10 : decode mX8_forge.2.1 10 = .ok (.bipush 39, 2) := by decide +kernel
theorem dX8_forge_12 : decode mX8_forge.2.1 12 = .ok (.invokestatic 82, 3) := by decide +kernel
theorem dX8_forge_15 : decode mX8_forge.2.1 15 = .ok (.ifCond .eq 25, 3) := by decide +kernel
theorem dX8_forge_18 : decode mX8_forge.2.1 18 = .ok (.iload_n 3, 1) := by decide +kernel
theorem dX8_forge_19 : decode mX8_forge.2.1 19 = .ok (.iconst 0, 1) := by decide +kernel
theorem dX8_forge_20 : decode mX8_forge.2.1 20 = .ok (.bipush 7, 2) := by decide +kernel
theorem dX8_forge_22 : decode mX8_forge.2.1 22 = .ok (.invokestatic 82, 3) := by decide +kernel
theorem dX8_forge_25 : decode mX8_forge.2.1 25 = .ok (.ifCond .eq 15, 3) := by decide +kernel
theorem dX8_forge_28 : decode mX8_forge.2.1 28 = .ok (.iload 4, 2) := by decide +kernel
theorem dX8_forge_30 : decode mX8_forge.2.1 30 = .ok (.bipush (-100), 2) := by decide +kernel
theorem dX8_forge_32 : decode mX8_forge.2.1 32 = .ok (.bipush 100, 2) := by decide +kernel
theorem dX8_forge_34 : decode mX8_forge.2.1 34 = .ok (.invokestatic 82, 3) := by decide +kernel
theorem dX8_forge_37 : decode mX8_forge.2.1 37 = .ok (.ifCond .ne 9, 3) := by decide +kernel
theorem dX8_forge_40 : decode mX8_forge.2.1 40 = .ok (.aload_n 0, 1) := by decide +kernel
theorem dX8_forge_41 : decode mX8_forge.2.1 41 = .ok (.iconst 1, 1) := by decide +kernel
theorem dX8_forge_42 : decode mX8_forge.2.1 42 = .ok (.invokevirtual 103, 3) := by decide +kernel
theorem dX8_forge_45 : decode mX8_forge.2.1 45 = .ok (.ireturn, 1) := by decide +kernel
theorem dX8_forge_46 : decode mX8_forge.2.1 46 = .ok (.aload_n 0, 1) := by decide +kernel
theorem dX8_forge_47 : decode mX8_forge.2.1 47 = .ok (.getfield 69, 3) := by decide +kernel
theorem dX8_forge_50 : decode mX8_forge.2.1 50 = .ok (.bipush 40, 2) := by decide +kernel
theorem dX8_forge_52 : decode mX8_forge.2.1 52 = .ok (.iload_n 1, 1) := by decide +kernel
theorem dX8_forge_53 : decode mX8_forge.2.1 53 = .ok (.imul, 1) := by decide +kernel
theorem dX8_forge_54 : decode mX8_forge.2.1 54 = .ok (.iload_n 2, 1) := by decide +kernel
theorem dX8_forge_55 : decode mX8_forge.2.1 55 = .ok (.iadd, 1) := by decide +kernel
theorem dX8_forge_56 : decode mX8_forge.2.1 56 = .ok (.iaload, 1) := by decide +kernel
theorem dX8_forge_57 : decode mX8_forge.2.1 57 = .ok (.istore 5, 2) := by decide +kernel
theorem dX8_forge_59 : decode mX8_forge.2.1 59 = .ok (.iload 5, 2) := by decide +kernel
theorem dX8_forge_61 : decode mX8_forge.2.1 61 = .ok (.ifCond .ge 10, 3) := by decide +kernel
theorem dX8_forge_64 : decode mX8_forge.2.1 64 = .ok (.iconst (-1), 1) := by decide +kernel
theorem dX8_forge_65 : decode mX8_forge.2.1 65 = .ok (.iload 5, 2) := by decide +kernel
theorem dX8_forge_67 : decode mX8_forge.2.1 67 = .ok (.isub, 1) := by decide +kernel
theorem dX8_forge_68 : decode mX8_forge.2.1 68 = .ok (.goto 7, 3) := by decide +kernel
theorem dX8_forge_71 : decode mX8_forge.2.1 71 = .ok (.iload 5, 2) := by decide +kernel
theorem dX8_forge_73 : decode mX8_forge.2.1 73 = .ok (.iconst 1, 1) := by decide +kernel
theorem dX8_forge_74 : decode mX8_forge.2.1 74 = .ok (.isub, 1) := by decide +kernel
theorem dX8_forge_75 : decode mX8_forge.2.1 75 = .ok (.istore 6, 2) := by decide +kernel
theorem dX8_forge_77 : decode mX8_forge.2.1 77 = .ok (.iload_n 3, 1) := by decide +kernel
theorem dX8_forge_78 : decode mX8_forge.2.1 78 = .ok (.tableswitch 202 0 6 #[42, 62, 62, 100, 62, 121, 178], 42) := by decide +kernel
theorem dX8_forge_120 : decode mX8_forge.2.1 120 = .ok (.aload_n 0, 1) := by decide +kernel
theorem dX8_forge_121 : decode mX8_forge.2.1 121 = .ok (.iload 5, 2) := by decide +kernel
theorem dX8_forge_123 : decode mX8_forge.2.1 123 = .ok (.iload 6, 2) := by decide +kernel
theorem dX8_forge_125 : decode mX8_forge.2.1 125 = .ok (.iload 4, 2) := by decide +kernel
theorem dX8_forge_127 : decode mX8_forge.2.1 127 = .ok (.bipush 6, 2) := by decide +kernel
theorem dX8_forge_129 : decode mX8_forge.2.1 129 = .ok (.irem, 1) := by decide +kernel
theorem dX8_forge_130 : decode mX8_forge.2.1 130 = .ok (.bipush 6, 2) := by decide +kernel
theorem dX8_forge_132 : decode mX8_forge.2.1 132 = .ok (.iadd, 1) := by decide +kernel
theorem dX8_forge_133 : decode mX8_forge.2.1 133 = .ok (.bipush 6, 2) := by decide +kernel
theorem dX8_forge_135 : decode mX8_forge.2.1 135 = .ok (.irem, 1) := by decide +kernel
theorem dX8_forge_136 : decode mX8_forge.2.1 136 = .ok (.invokevirtual 215, 3) := by decide +kernel
theorem dX8_forge_139 : decode mX8_forge.2.1 139 = .ok (.ireturn, 1) := by decide +kernel
theorem dX8_forge_140 : decode mX8_forge.2.1 140 = .ok (.iload 5, 2) := by decide +kernel
theorem dX8_forge_142 : decode mX8_forge.2.1 142 = .ok (.ifCond .le 12, 3) := by decide +kernel
theorem dX8_forge_145 : decode mX8_forge.2.1 145 = .ok (.aload_n 0, 1) := by decide +kernel
theorem dX8_forge_146 : decode mX8_forge.2.1 146 = .ok (.bipush 11, 2) := by decide +kernel
theorem dX8_forge_148 : decode mX8_forge.2.1 148 = .ok (.invokevirtual 103, 3) := by decide +kernel
theorem dX8_forge_151 : decode mX8_forge.2.1 151 = .ok (.goto 26, 3) := by decide +kernel
theorem dX8_forge_154 : decode mX8_forge.2.1 154 = .ok (.iload 5, 2) := by decide +kernel
theorem dX8_forge_156 : decode mX8_forge.2.1 156 = .ok (.ifCond .ne 12, 3) := by decide +kernel
theorem dX8_forge_159 : decode mX8_forge.2.1 159 = .ok (.aload_n 0, 1) := by decide +kernel
theorem dX8_forge_160 : decode mX8_forge.2.1 160 = .ok (.bipush 10, 2) := by decide +kernel
theorem dX8_forge_162 : decode mX8_forge.2.1 162 = .ok (.invokevirtual 103, 3) := by decide +kernel
theorem dX8_forge_165 : decode mX8_forge.2.1 165 = .ok (.goto 12, 3) := by decide +kernel
theorem dX8_forge_168 : decode mX8_forge.2.1 168 = .ok (.aload_n 0, 1) := by decide +kernel
theorem dX8_forge_169 : decode mX8_forge.2.1 169 = .ok (.iload 6, 2) := by decide +kernel
theorem dX8_forge_171 : decode mX8_forge.2.1 171 = .ok (.iload_n 3, 1) := by decide +kernel
theorem dX8_forge_172 : decode mX8_forge.2.1 172 = .ok (.iload 4, 2) := by decide +kernel
theorem dX8_forge_174 : decode mX8_forge.2.1 174 = .ok (.invokevirtual 219, 3) := by decide +kernel
theorem dX8_forge_177 : decode mX8_forge.2.1 177 = .ok (.ireturn, 1) := by decide +kernel
theorem dX8_forge_178 : decode mX8_forge.2.1 178 = .ok (.iload 4, 2) := by decide +kernel
theorem dX8_forge_180 : decode mX8_forge.2.1 180 = .ok (.ifCond .ge 12, 3) := by decide +kernel
theorem dX8_forge_183 : decode mX8_forge.2.1 183 = .ok (.aload_n 0, 1) := by decide +kernel
theorem dX8_forge_184 : decode mX8_forge.2.1 184 = .ok (.bipush 13, 2) := by decide +kernel
theorem dX8_forge_186 : decode mX8_forge.2.1 186 = .ok (.invokevirtual 103, 3) := by decide +kernel
theorem dX8_forge_189 : decode mX8_forge.2.1 189 = .ok (.goto 9, 3) := by decide +kernel
theorem dX8_forge_192 : decode mX8_forge.2.1 192 = .ok (.aload_n 0, 1) := by decide +kernel
theorem dX8_forge_193 : decode mX8_forge.2.1 193 = .ok (.iload 4, 2) := by decide +kernel
theorem dX8_forge_195 : decode mX8_forge.2.1 195 = .ok (.invokevirtual 106, 3) := by decide +kernel
theorem dX8_forge_198 : decode mX8_forge.2.1 198 = .ok (.ireturn, 1) := by decide +kernel
theorem dX8_forge_199 : decode mX8_forge.2.1 199 = .ok (.iload 5, 2) := by decide +kernel
theorem dX8_forge_201 : decode mX8_forge.2.1 201 = .ok (.ifCond .ge 12, 3) := by decide +kernel
theorem dX8_forge_204 : decode mX8_forge.2.1 204 = .ok (.aload_n 0, 1) := by decide +kernel
theorem dX8_forge_205 : decode mX8_forge.2.1 205 = .ok (.bipush 11, 2) := by decide +kernel
theorem dX8_forge_207 : decode mX8_forge.2.1 207 = .ok (.invokevirtual 103, 3) := by decide +kernel
theorem dX8_forge_210 : decode mX8_forge.2.1 210 = .ok (.goto 45, 3) := by decide +kernel
theorem dX8_forge_213 : decode mX8_forge.2.1 213 = .ok (.iload 5, 2) := by decide +kernel
theorem dX8_forge_215 : decode mX8_forge.2.1 215 = .ok (.ifCond .le 26, 3) := by decide +kernel
theorem dX8_forge_218 : decode mX8_forge.2.1 218 = .ok (.aload_n 0, 1) := by decide +kernel
theorem dX8_forge_219 : decode mX8_forge.2.1 219 = .ok (.getfield 16, 3) := by decide +kernel
theorem dX8_forge_222 : decode mX8_forge.2.1 222 = .ok (.iload 6, 2) := by decide +kernel
theorem dX8_forge_224 : decode mX8_forge.2.1 224 = .ok (.iaload, 1) := by decide +kernel
theorem dX8_forge_225 : decode mX8_forge.2.1 225 = .ok (.iconst 1, 1) := by decide +kernel
theorem dX8_forge_226 : decode mX8_forge.2.1 226 = .ok (.invokestatic 222, 3) := by decide +kernel
theorem dX8_forge_229 : decode mX8_forge.2.1 229 = .ok (.ifCond .ne 12, 3) := by decide +kernel
theorem dX8_forge_232 : decode mX8_forge.2.1 232 = .ok (.aload_n 0, 1) := by decide +kernel
theorem dX8_forge_233 : decode mX8_forge.2.1 233 = .ok (.bipush 14, 2) := by decide +kernel
theorem dX8_forge_235 : decode mX8_forge.2.1 235 = .ok (.invokevirtual 103, 3) := by decide +kernel
theorem dX8_forge_238 : decode mX8_forge.2.1 238 = .ok (.goto 17, 3) := by decide +kernel
theorem dX8_forge_241 : decode mX8_forge.2.1 241 = .ok (.aload_n 0, 1) := by decide +kernel
theorem dX8_forge_242 : decode mX8_forge.2.1 242 = .ok (.iload 5, 2) := by decide +kernel
theorem dX8_forge_244 : decode mX8_forge.2.1 244 = .ok (.ifCond .le 7, 3) := by decide +kernel
theorem dX8_forge_247 : decode mX8_forge.2.1 247 = .ok (.iconst 1, 1) := by decide +kernel
theorem dX8_forge_248 : decode mX8_forge.2.1 248 = .ok (.goto 4, 3) := by decide +kernel
theorem dX8_forge_251 : decode mX8_forge.2.1 251 = .ok (.iconst 0, 1) := by decide +kernel
theorem dX8_forge_252 : decode mX8_forge.2.1 252 = .ok (.invokevirtual 106, 3) := by decide +kernel
theorem dX8_forge_255 : decode mX8_forge.2.1 255 = .ok (.ireturn, 1) := by decide +kernel
theorem dX8_forge_256 : decode mX8_forge.2.1 256 = .ok (.iload 4, 2) := by decide +kernel
theorem dX8_forge_258 : decode mX8_forge.2.1 258 = .ok (.ifCond .ne 12, 3) := by decide +kernel
theorem dX8_forge_261 : decode mX8_forge.2.1 261 = .ok (.aload_n 0, 1) := by decide +kernel
theorem dX8_forge_262 : decode mX8_forge.2.1 262 = .ok (.bipush 15, 2) := by decide +kernel
theorem dX8_forge_264 : decode mX8_forge.2.1 264 = .ok (.invokevirtual 103, 3) := by decide +kernel
theorem dX8_forge_267 : decode mX8_forge.2.1 267 = .ok (.goto 12, 3) := by decide +kernel
theorem dX8_forge_270 : decode mX8_forge.2.1 270 = .ok (.aload_n 0, 1) := by decide +kernel
theorem dX8_forge_271 : decode mX8_forge.2.1 271 = .ok (.bipush 100, 2) := by decide +kernel
theorem dX8_forge_273 : decode mX8_forge.2.1 273 = .ok (.iload 4, 2) := by decide +kernel
theorem dX8_forge_275 : decode mX8_forge.2.1 275 = .ok (.idiv, 1) := by decide +kernel
theorem dX8_forge_276 : decode mX8_forge.2.1 276 = .ok (.invokevirtual 106, 3) := by decide +kernel
theorem dX8_forge_279 : decode mX8_forge.2.1 279 = .ok (.ireturn, 1) := by decide +kernel
theorem dX8_forge_280 : decode mX8_forge.2.1 280 = .ok (.iload 4, 2) := by decide +kernel
theorem dX8_forge_282 : decode mX8_forge.2.1 282 = .ok (.iconst 1, 1) := by decide +kernel
theorem dX8_forge_283 : decode mX8_forge.2.1 283 = .ok (.iand, 1) := by decide +kernel
theorem dX8_forge_284 : decode mX8_forge.2.1 284 = .ok (.ifCond .ne 12, 3) := by decide +kernel
theorem dX8_forge_287 : decode mX8_forge.2.1 287 = .ok (.aload_n 0, 1) := by decide +kernel
theorem dX8_forge_288 : decode mX8_forge.2.1 288 = .ok (.bipush 10, 2) := by decide +kernel
theorem dX8_forge_290 : decode mX8_forge.2.1 290 = .ok (.invokevirtual 103, 3) := by decide +kernel
theorem dX8_forge_293 : decode mX8_forge.2.1 293 = .ok (.goto 8, 3) := by decide +kernel
theorem dX8_forge_296 : decode mX8_forge.2.1 296 = .ok (.aload_n 0, 1) := by decide +kernel
theorem dX8_forge_297 : decode mX8_forge.2.1 297 = .ok (.iconst 1, 1) := by decide +kernel
theorem dX8_forge_298 : decode mX8_forge.2.1 298 = .ok (.invokevirtual 106, 3) := by decide +kernel
theorem dX8_forge_301 : decode mX8_forge.2.1 301 = .ok (.ireturn, 1) := by decide +kernel
theorem dX8_letterTaken_0 : decode mX8_letterTaken.2.1 0 = .ok (.iload_n 1, 1) := by decide +kernel
theorem dX8_letterTaken_1 : decode mX8_letterTaken.2.1 1 = .ok (.ifCond .lt 20, 3) := by decide +kernel
theorem dX8_letterTaken_4 : decode mX8_letterTaken.2.1 4 = .ok (.iload_n 1, 1) := by decide +kernel
theorem dX8_letterTaken_5 : decode mX8_letterTaken.2.1 5 = .ok (.ifCond .le 23, 3) := by decide +kernel
theorem dX8_letterTaken_8 : decode mX8_letterTaken.2.1 8 = .ok (.aload_n 0, 1) := by decide +kernel
theorem dX8_letterTaken_9 : decode mX8_letterTaken.2.1 9 = .ok (.getfield 16, 3) := by decide +kernel
theorem dX8_letterTaken_12 : decode mX8_letterTaken.2.1 12 = .ok (.iload_n 2, 1) := by decide +kernel
theorem dX8_letterTaken_13 : decode mX8_letterTaken.2.1 13 = .ok (.iaload, 1) := by decide +kernel
theorem dX8_letterTaken_14 : decode mX8_letterTaken.2.1 14 = .ok (.iload_n 3, 1) := by decide +kernel
theorem dX8_letterTaken_15 : decode mX8_letterTaken.2.1 15 = .ok (.invokestatic 222, 3) := by decide +kernel
theorem dX8_letterTaken_18 : decode mX8_letterTaken.2.1 18 = .ok (.ifCond .ne 10, 3) := by decide +kernel
theorem dX8_letterTaken_21 : decode mX8_letterTaken.2.1 21 = .ok (.aload_n 0, 1) := by decide +kernel
theorem dX8_letterTaken_22 : decode mX8_letterTaken.2.1 22 = .ok (.bipush 11, 2) := by decide +kernel
theorem dX8_letterTaken_24 : decode mX8_letterTaken.2.1 24 = .ok (.invokevirtual 103, 3) := by decide +kernel
theorem dX8_letterTaken_27 : decode mX8_letterTaken.2.1 27 = .ok (.ireturn, 1) := by decide +kernel
theorem dX8_letterTaken_28 : decode mX8_letterTaken.2.1 28 = .ok (.iload_n 1, 1) := by decide +kernel
theorem dX8_letterTaken_29 : decode mX8_letterTaken.2.1 29 = .ok (.ifCond .ne 12, 3) := by decide +kernel
theorem dX8_letterTaken_32 : decode mX8_letterTaken.2.1 32 = .ok (.aload_n 0, 1) := by decide +kernel
theorem dX8_letterTaken_33 : decode mX8_letterTaken.2.1 33 = .ok (.bipush 10, 2) := by decide +kernel
theorem dX8_letterTaken_35 : decode mX8_letterTaken.2.1 35 = .ok (.invokevirtual 103, 3) := by decide +kernel
theorem dX8_letterTaken_38 : decode mX8_letterTaken.2.1 38 = .ok (.goto 13, 3) := by decide +kernel
theorem dX8_letterTaken_41 : decode mX8_letterTaken.2.1 41 = .ok (.aload_n 0, 1) := by decide +kernel
theorem dX8_letterTaken_42 : decode mX8_letterTaken.2.1 42 = .ok (.aload_n 0, 1) := by decide +kernel
theorem dX8_letterTaken_43 : decode mX8_letterTaken.2.1 43 = .ok (.getfield 25, 3) := by decide +kernel
theorem dX8_letterTaken_46 : decode mX8_letterTaken.2.1 46 = .ok (.iload_n 2, 1) := by decide +kernel
theorem dX8_letterTaken_47 : decode mX8_letterTaken.2.1 47 = .ok (.iaload, 1) := by decide +kernel
theorem dX8_letterTaken_48 : decode mX8_letterTaken.2.1 48 = .ok (.invokevirtual 106, 3) := by decide +kernel
theorem dX8_letterTaken_51 : decode mX8_letterTaken.2.1 51 = .ok (.ireturn, 1) := by decide +kernel
theorem dX8_clockTaken_0 : decode mX8_clockTaken.2.1 0 = .ok (.aload_n 0, 1) := by decide +kernel
theorem dX8_clockTaken_1 : decode mX8_clockTaken.2.1 1 = .ok (.iload_n 1, 1) := by decide +kernel
theorem dX8_clockTaken_2 : decode mX8_clockTaken.2.1 2 = .ok (.invokevirtual 225, 3) := by decide +kernel
theorem dX8_clockTaken_5 : decode mX8_clockTaken.2.1 5 = .ok (.istore 4, 2) := by decide +kernel
theorem dX8_clockTaken_7 : decode mX8_clockTaken.2.1 7 = .ok (.iload_n 2, 1) := by decide +kernel
theorem dX8_clockTaken_8 : decode mX8_clockTaken.2.1 8 = .ok (.iconst 1, 1) := by decide +kernel
theorem dX8_clockTaken_9 : decode mX8_clockTaken.2.1 9 = .ok (.if_icmp .ne 44, 3) := by decide +kernel
theorem dX8_clockTaken_12 : decode mX8_clockTaken.2.1 12 = .ok (.iload_n 3, 1) := by decide +kernel
theorem dX8_clockTaken_13 : decode mX8_clockTaken.2.1 13 = .ok (.iconst 0, 1) := by decide +kernel
theorem dX8_clockTaken_14 : decode mX8_clockTaken.2.1 14 = .ok (.bipush 7, 2) := by decide +kernel
theorem dX8_clockTaken_16 : decode mX8_clockTaken.2.1 16 = .ok (.invokestatic 82, 3) := by decide +kernel
theorem dX8_clockTaken_19 : decode mX8_clockTaken.2.1 19 = .ok (.ifCond .eq 27, 3) := by decide +kernel
theorem dX8_clockTaken_22 : decode mX8_clockTaken.2.1 22 = .ok (.aload_n 0, 1) := by decide +kernel
theorem dX8_clockTaken_23 : decode mX8_clockTaken.2.1 23 = .ok (.aload_n 0, 1) := by decide +kernel
theorem dX8_clockTaken_24 : decode mX8_clockTaken.2.1 24 = .ok (.getfield 43, 3) := by decide +kernel
theorem dX8_clockTaken_27 : decode mX8_clockTaken.2.1 27 = .ok (.bipush 48, 2) := by decide +kernel
theorem dX8_clockTaken_29 : decode mX8_clockTaken.2.1 29 = .ok (.iload_n 1, 1) := by decide +kernel
theorem dX8_clockTaken_30 : decode mX8_clockTaken.2.1 30 = .ok (.imul, 1) := by decide +kernel
theorem dX8_clockTaken_31 : decode mX8_clockTaken.2.1 31 = .ok (.bipush 8, 2) := by decide +kernel
theorem dX8_clockTaken_33 : decode mX8_clockTaken.2.1 33 = .ok (.iload 4, 2) := by decide +kernel
theorem dX8_clockTaken_35 : decode mX8_clockTaken.2.1 35 = .ok (.imul, 1) := by decide +kernel
theorem dX8_clockTaken_36 : decode mX8_clockTaken.2.1 36 = .ok (.iadd, 1) := by decide +kernel
theorem dX8_clockTaken_37 : decode mX8_clockTaken.2.1 37 = .ok (.iload_n 3, 1) := by decide +kernel
theorem dX8_clockTaken_38 : decode mX8_clockTaken.2.1 38 = .ok (.iadd, 1) := by decide +kernel
theorem dX8_clockTaken_39 : decode mX8_clockTaken.2.1 39 = .ok (.iaload, 1) := by decide +kernel
theorem dX8_clockTaken_40 : decode mX8_clockTaken.2.1 40 = .ok (.invokevirtual 106, 3) := by decide +kernel
theorem dX8_clockTaken_43 : decode mX8_clockTaken.2.1 43 = .ok (.goto 9, 3) := by decide +kernel
theorem dX8_clockTaken_46 : decode mX8_clockTaken.2.1 46 = .ok (.aload_n 0, 1) := by decide +kernel
theorem dX8_clockTaken_47 : decode mX8_clockTaken.2.1 47 = .ok (.bipush 12, 2) := by decide +kernel
theorem dX8_clockTaken_49 : decode mX8_clockTaken.2.1 49 = .ok (.invokevirtual 103, 3) := by decide +kernel
theorem dX8_clockTaken_52 : decode mX8_clockTaken.2.1 52 = .ok (.ireturn, 1) := by decide +kernel
theorem dX8_clockTaken_53 : decode mX8_clockTaken.2.1 53 = .ok (.iload_n 2, 1) := by decide +kernel
theorem dX8_clockTaken_54 : decode mX8_clockTaken.2.1 54 = .ok (.iconst 2, 1) := by decide +kernel
theorem dX8_clockTaken_55 : decode mX8_clockTaken.2.1 55 = .ok (.if_icmp .ne 57, 3) := by decide +kernel
theorem dX8_clockTaken_58 : decode mX8_clockTaken.2.1 58 = .ok (.iload_n 3, 1) := by decide +kernel
theorem dX8_clockTaken_59 : decode mX8_clockTaken.2.1 59 = .ok (.iconst 0, 1) := by decide +kernel
theorem dX8_clockTaken_60 : decode mX8_clockTaken.2.1 60 = .ok (.iconst 5, 1) := by decide +kernel
theorem dX8_clockTaken_61 : decode mX8_clockTaken.2.1 61 = .ok (.invokestatic 82, 3) := by decide +kernel
theorem dX8_clockTaken_64 : decode mX8_clockTaken.2.1 64 = .ok (.ifCond .ne 12, 3) := by decide +kernel
theorem dX8_clockTaken_67 : decode mX8_clockTaken.2.1 67 = .ok (.aload_n 0, 1) := by decide +kernel
theorem dX8_clockTaken_68 : decode mX8_clockTaken.2.1 68 = .ok (.bipush 12, 2) := by decide +kernel
theorem dX8_clockTaken_70 : decode mX8_clockTaken.2.1 70 = .ok (.invokevirtual 103, 3) := by decide +kernel
theorem dX8_clockTaken_73 : decode mX8_clockTaken.2.1 73 = .ok (.goto 38, 3) := by decide +kernel
theorem dX8_clockTaken_76 : decode mX8_clockTaken.2.1 76 = .ok (.aload_n 0, 1) := by decide +kernel
theorem dX8_clockTaken_77 : decode mX8_clockTaken.2.1 77 = .ok (.getfield 40, 3) := by decide +kernel
theorem dX8_clockTaken_80 : decode mX8_clockTaken.2.1 80 = .ok (.iload_n 1, 1) := by decide +kernel
theorem dX8_clockTaken_81 : decode mX8_clockTaken.2.1 81 = .ok (.iaload, 1) := by decide +kernel
theorem dX8_clockTaken_82 : decode mX8_clockTaken.2.1 82 = .ok (.iload_n 3, 1) := by decide +kernel
theorem dX8_clockTaken_83 : decode mX8_clockTaken.2.1 83 = .ok (.ishr, 1) := by decide +kernel
theorem dX8_clockTaken_84 : decode mX8_clockTaken.2.1 84 = .ok (.iconst 1, 1) := by decide +kernel
theorem dX8_clockTaken_85 : decode mX8_clockTaken.2.1 85 = .ok (.iand, 1) := by decide +kernel
theorem dX8_clockTaken_86 : decode mX8_clockTaken.2.1 86 = .ok (.ifCond .ne 12, 3) := by decide +kernel
theorem dX8_clockTaken_89 : decode mX8_clockTaken.2.1 89 = .ok (.aload_n 0, 1) := by decide +kernel
theorem dX8_clockTaken_90 : decode mX8_clockTaken.2.1 90 = .ok (.bipush 10, 2) := by decide +kernel
theorem dX8_clockTaken_92 : decode mX8_clockTaken.2.1 92 = .ok (.invokevirtual 103, 3) := by decide +kernel
theorem dX8_clockTaken_95 : decode mX8_clockTaken.2.1 95 = .ok (.goto 16, 3) := by decide +kernel
theorem dX8_clockTaken_98 : decode mX8_clockTaken.2.1 98 = .ok (.aload_n 0, 1) := by decide +kernel
theorem dX8_clockTaken_99 : decode mX8_clockTaken.2.1 99 = .ok (.aload_n 0, 1) := by decide +kernel
theorem dX8_clockTaken_100 : decode mX8_clockTaken.2.1 100 = .ok (.iload_n 1, 1) := by decide +kernel
theorem dX8_clockTaken_101 : decode mX8_clockTaken.2.1 101 = .ok (.iload_n 3, 1) := by decide +kernel
theorem dX8_clockTaken_102 : decode mX8_clockTaken.2.1 102 = .ok (.iconst 0, 1) := by decide +kernel
theorem dX8_clockTaken_103 : decode mX8_clockTaken.2.1 103 = .ok (.bipush 8, 2) := by decide +kernel
theorem dX8_clockTaken_105 : decode mX8_clockTaken.2.1 105 = .ok (.invokevirtual 228, 3) := by decide +kernel
theorem dX8_clockTaken_108 : decode mX8_clockTaken.2.1 108 = .ok (.invokevirtual 106, 3) := by decide +kernel
theorem dX8_clockTaken_111 : decode mX8_clockTaken.2.1 111 = .ok (.ireturn, 1) := by decide +kernel
theorem dX8_clockTaken_112 : decode mX8_clockTaken.2.1 112 = .ok (.iload_n 3, 1) := by decide +kernel
theorem dX8_clockTaken_113 : decode mX8_clockTaken.2.1 113 = .ok (.iconst 0, 1) := by decide +kernel
theorem dX8_clockTaken_114 : decode mX8_clockTaken.2.1 114 = .ok (.iconst 4, 1) := by decide +kernel
theorem dX8_clockTaken_115 : decode mX8_clockTaken.2.1 115 = .ok (.invokestatic 82, 3) := by decide +kernel
theorem dX8_clockTaken_118 : decode mX8_clockTaken.2.1 118 = .ok (.ifCond .eq 19, 3) := by decide +kernel
theorem dX8_clockTaken_121 : decode mX8_clockTaken.2.1 121 = .ok (.aload_n 0, 1) := by decide +kernel
theorem dX8_clockTaken_122 : decode mX8_clockTaken.2.1 122 = .ok (.aload_n 0, 1) := by decide +kernel
theorem dX8_clockTaken_123 : decode mX8_clockTaken.2.1 123 = .ok (.iload_n 1, 1) := by decide +kernel
theorem dX8_clockTaken_124 : decode mX8_clockTaken.2.1 124 = .ok (.iload 4, 2) := by decide +kernel
theorem dX8_clockTaken_126 : decode mX8_clockTaken.2.1 126 = .ok (.iconst 2, 1) := by decide +kernel
theorem dX8_clockTaken_127 : decode mX8_clockTaken.2.1 127 = .ok (.iload_n 3, 1) := by decide +kernel
theorem dX8_clockTaken_128 : decode mX8_clockTaken.2.1 128 = .ok (.invokevirtual 228, 3) := by decide +kernel
theorem dX8_clockTaken_131 : decode mX8_clockTaken.2.1 131 = .ok (.invokevirtual 106, 3) := by decide +kernel
theorem dX8_clockTaken_134 : decode mX8_clockTaken.2.1 134 = .ok (.goto 9, 3) := by decide +kernel
theorem dX8_clockTaken_137 : decode mX8_clockTaken.2.1 137 = .ok (.aload_n 0, 1) := by decide +kernel
theorem dX8_clockTaken_138 : decode mX8_clockTaken.2.1 138 = .ok (.bipush 12, 2) := by decide +kernel
theorem dX8_clockTaken_140 : decode mX8_clockTaken.2.1 140 = .ok (.invokevirtual 103, 3) := by decide +kernel
theorem dX8_clockTaken_143 : decode mX8_clockTaken.2.1 143 = .ok (.ireturn, 1) := by decide +kernel
theorem dX8_status_0 : decode mX8_status.2.1 0 = .ok (.aload_n 0, 1) := by decide +kernel
theorem dX8_status_1 : decode mX8_status.2.1 1 = .ok (.getfield 100, 3) := by decide +kernel
theorem dX8_status_4 : decode mX8_status.2.1 4 = .ok (.ireturn, 1) := by decide +kernel
end
section
/-! THE MODEL'S JUDGEMENT: its object has tag 3, the row of its field f tag 4 + f; a is what its rows hold (a 3 f: its number fields) -/
def rm_sz (f : Nat) : Nat := match f with
  | 2 => 6
  | 3 => 6
  | 6 => 200
  | 7 => 200
  | 8 => 200
  | 9 => 200
  | 10 => 200
  | 11 => 200
  | 12 => 200
  | 13 => 200
  | 14 => 200
  | 15 => 9600
  | 16 => 1600
  | 17 => 384
  | 18 => 48
  | 19 => 48
  | 20 => 1600
  | 21 => 8
  | 22 => 40000
  | 23 => 320
  | 25 => 60
  | 27 => 200
  | _ => 0
def rm_kd (f : Nat) : Nat := if f = 22 then 2 else 0
def rm_W (sh : zv_S) (R : zv_R) : Prop := sh 3 = some (17, 0) ∧ ∀ f, f < 28 → zv_rfld 7 f = true → R 3 f = some (4 + f) ∧ sh (4 + f) = some (rm_kd f, rm_sz f)
def rm_E (I : zv_I) (a : zv_I) : Prop := ∀ t, 3 ≤ t → t < 32 → I t = a t
def rm_Q (I0 : zv_I) (sh0 : zv_S) (J0 : zv_J) (R0 : zv_R) (Q : Option Value → zv_I → Prop) : zv_Q := fun v sh I J R => sh = sh0 ∧ J = J0 ∧ R = R0 ∧ (∀ t, ¬ (3 ≤ t ∧ t < 32) → I t = I0 t) ∧ ∃ a, rm_E I a ∧ Q v a
/-- from pc on, with the model's rows a: it comes to its end with Q; nothing else changes, nothing is made -/
def rm_V (M : zv_M) (d pc : Nat) (lv st : List Value) (a : zv_I) (Q : Option Value → zv_I → Prop) : Prop :=
  ∀ (E : zv_E) (I0 : zv_I) (sh : zv_S) (I : zv_I) (J : zv_J) (R : zv_R), rm_W sh R → rm_E I a → (∀ t, ¬ (3 ≤ t ∧ t < 32) → I t = I0 t) → zv_V E M d 0 0 pc lv st sh I J R (rm_Q I0 sh J R Q)
theorem rm_E_u {I a : zv_I} {t j : Nat} {x : Int32} (h : rm_E I a) : rm_E (zv_u I t j x) (zv_u a t j x) := by
  intro q h1 h2
  by_cases e : q = t
  · subst e
    rw [zv_row_i, zv_row_i, h q h1 h2]
  · rw [zv_u_row I t j x e, zv_u_row a t j x e, h q h1 h2]
theorem rm_F_u {I I0 : zv_I} {t j : Nat} {x : Int32} (h3 : 3 ≤ t) (h : t < 32) (hI : ∀ t, ¬ (3 ≤ t ∧ t < 32) → I t = I0 t) : ∀ q, ¬ (3 ≤ q ∧ q < 32) → zv_u I t j x q = I0 q := by
  intro q hq
  rw [zv_u_row I t j x (fun e => hq (by omega)), hI q hq]
theorem rmR2 {sh : zv_S} {R : zv_R} (h : rm_W sh R) : R 3 2 = some 6 := (h.2 2 (by decide) rfl).1
theorem rmS2 {sh : zv_S} {R : zv_R} (h : rm_W sh R) : sh 6 = some (0, 6) := (h.2 2 (by decide) rfl).2
theorem rmR3 {sh : zv_S} {R : zv_R} (h : rm_W sh R) : R 3 3 = some 7 := (h.2 3 (by decide) rfl).1
theorem rmS3 {sh : zv_S} {R : zv_R} (h : rm_W sh R) : sh 7 = some (0, 6) := (h.2 3 (by decide) rfl).2
theorem rmR6 {sh : zv_S} {R : zv_R} (h : rm_W sh R) : R 3 6 = some 10 := (h.2 6 (by decide) rfl).1
theorem rmS6 {sh : zv_S} {R : zv_R} (h : rm_W sh R) : sh 10 = some (0, 200) := (h.2 6 (by decide) rfl).2
theorem rmR7 {sh : zv_S} {R : zv_R} (h : rm_W sh R) : R 3 7 = some 11 := (h.2 7 (by decide) rfl).1
theorem rmS7 {sh : zv_S} {R : zv_R} (h : rm_W sh R) : sh 11 = some (0, 200) := (h.2 7 (by decide) rfl).2
theorem rmR8 {sh : zv_S} {R : zv_R} (h : rm_W sh R) : R 3 8 = some 12 := (h.2 8 (by decide) rfl).1
theorem rmS8 {sh : zv_S} {R : zv_R} (h : rm_W sh R) : sh 12 = some (0, 200) := (h.2 8 (by decide) rfl).2
theorem rmR9 {sh : zv_S} {R : zv_R} (h : rm_W sh R) : R 3 9 = some 13 := (h.2 9 (by decide) rfl).1
theorem rmS9 {sh : zv_S} {R : zv_R} (h : rm_W sh R) : sh 13 = some (0, 200) := (h.2 9 (by decide) rfl).2
theorem rmR10 {sh : zv_S} {R : zv_R} (h : rm_W sh R) : R 3 10 = some 14 := (h.2 10 (by decide) rfl).1
theorem rmS10 {sh : zv_S} {R : zv_R} (h : rm_W sh R) : sh 14 = some (0, 200) := (h.2 10 (by decide) rfl).2
theorem rmR11 {sh : zv_S} {R : zv_R} (h : rm_W sh R) : R 3 11 = some 15 := (h.2 11 (by decide) rfl).1
theorem rmS11 {sh : zv_S} {R : zv_R} (h : rm_W sh R) : sh 15 = some (0, 200) := (h.2 11 (by decide) rfl).2
theorem rmR12 {sh : zv_S} {R : zv_R} (h : rm_W sh R) : R 3 12 = some 16 := (h.2 12 (by decide) rfl).1
theorem rmS12 {sh : zv_S} {R : zv_R} (h : rm_W sh R) : sh 16 = some (0, 200) := (h.2 12 (by decide) rfl).2
theorem rmR13 {sh : zv_S} {R : zv_R} (h : rm_W sh R) : R 3 13 = some 17 := (h.2 13 (by decide) rfl).1
theorem rmS13 {sh : zv_S} {R : zv_R} (h : rm_W sh R) : sh 17 = some (0, 200) := (h.2 13 (by decide) rfl).2
theorem rmR14 {sh : zv_S} {R : zv_R} (h : rm_W sh R) : R 3 14 = some 18 := (h.2 14 (by decide) rfl).1
theorem rmS14 {sh : zv_S} {R : zv_R} (h : rm_W sh R) : sh 18 = some (0, 200) := (h.2 14 (by decide) rfl).2
theorem rmR15 {sh : zv_S} {R : zv_R} (h : rm_W sh R) : R 3 15 = some 19 := (h.2 15 (by decide) rfl).1
theorem rmS15 {sh : zv_S} {R : zv_R} (h : rm_W sh R) : sh 19 = some (0, 9600) := (h.2 15 (by decide) rfl).2
theorem rmR16 {sh : zv_S} {R : zv_R} (h : rm_W sh R) : R 3 16 = some 20 := (h.2 16 (by decide) rfl).1
theorem rmS16 {sh : zv_S} {R : zv_R} (h : rm_W sh R) : sh 20 = some (0, 1600) := (h.2 16 (by decide) rfl).2
theorem rmR17 {sh : zv_S} {R : zv_R} (h : rm_W sh R) : R 3 17 = some 21 := (h.2 17 (by decide) rfl).1
theorem rmS17 {sh : zv_S} {R : zv_R} (h : rm_W sh R) : sh 21 = some (0, 384) := (h.2 17 (by decide) rfl).2
theorem rmR18 {sh : zv_S} {R : zv_R} (h : rm_W sh R) : R 3 18 = some 22 := (h.2 18 (by decide) rfl).1
theorem rmS18 {sh : zv_S} {R : zv_R} (h : rm_W sh R) : sh 22 = some (0, 48) := (h.2 18 (by decide) rfl).2
theorem rmR19 {sh : zv_S} {R : zv_R} (h : rm_W sh R) : R 3 19 = some 23 := (h.2 19 (by decide) rfl).1
theorem rmS19 {sh : zv_S} {R : zv_R} (h : rm_W sh R) : sh 23 = some (0, 48) := (h.2 19 (by decide) rfl).2
theorem rmR20 {sh : zv_S} {R : zv_R} (h : rm_W sh R) : R 3 20 = some 24 := (h.2 20 (by decide) rfl).1
theorem rmS20 {sh : zv_S} {R : zv_R} (h : rm_W sh R) : sh 24 = some (0, 1600) := (h.2 20 (by decide) rfl).2
theorem rmR21 {sh : zv_S} {R : zv_R} (h : rm_W sh R) : R 3 21 = some 25 := (h.2 21 (by decide) rfl).1
theorem rmS21 {sh : zv_S} {R : zv_R} (h : rm_W sh R) : sh 25 = some (0, 8) := (h.2 21 (by decide) rfl).2
theorem rmR22 {sh : zv_S} {R : zv_R} (h : rm_W sh R) : R 3 22 = some 26 := (h.2 22 (by decide) rfl).1
theorem rmS22 {sh : zv_S} {R : zv_R} (h : rm_W sh R) : sh 26 = some (2, 40000) := (h.2 22 (by decide) rfl).2
theorem rmR23 {sh : zv_S} {R : zv_R} (h : rm_W sh R) : R 3 23 = some 27 := (h.2 23 (by decide) rfl).1
theorem rmS23 {sh : zv_S} {R : zv_R} (h : rm_W sh R) : sh 27 = some (0, 320) := (h.2 23 (by decide) rfl).2
theorem rmR25 {sh : zv_S} {R : zv_R} (h : rm_W sh R) : R 3 25 = some 29 := (h.2 25 (by decide) rfl).1
theorem rmS25 {sh : zv_S} {R : zv_R} (h : rm_W sh R) : sh 29 = some (0, 60) := (h.2 25 (by decide) rfl).2
theorem rmR27 {sh : zv_S} {R : zv_R} (h : rm_W sh R) : R 3 27 = some 31 := (h.2 27 (by decide) rfl).1
theorem rmS27 {sh : zv_S} {R : zv_R} (h : rm_W sh R) : sh 31 = some (0, 200) := (h.2 27 (by decide) rfl).2
theorem rm_sz_lt (f : Nat) : rm_sz f < 2 ^ 31 := by
  unfold rm_sz
  split <;> decide
section RM
variable {M : zv_M} {d pc : Nat} {lv st : List Value} {a : zv_I} {Q : Option Value → zv_I → Prop}
theorem rm_iconst {n : Int} {v : Int32} (hd : decode M.2.1 pc = .ok (.iconst n, 1)) (hv : Int32.ofInt n = v) (k : rm_V M d (pc + 1) lv (.int v :: st) a Q) : rm_V M d pc lv (st) a Q := fun E I0 sh I J R w e f => zv_iconst hd hv (k E I0 sh I J R w e f)
theorem rm_bipush {n : Int} {v : Int32} (hd : decode M.2.1 pc = .ok (.bipush n, 2)) (hv : (Int8.ofInt n).toInt32 = v) (k : rm_V M d (pc + 2) lv (.int v :: st) a Q) : rm_V M d pc lv (st) a Q := fun E I0 sh I J R w e f => zv_bipush hd hv (k E I0 sh I J R w e f)
theorem rm_sipush {n : Int} {v : Int32} (hd : decode M.2.1 pc = .ok (.sipush n, 3)) (hv : (Int16.ofInt n).toInt32 = v) (k : rm_V M d (pc + 3) lv (.int v :: st) a Q) : rm_V M d pc lv (st) a Q := fun E I0 sh I J R w e f => zv_sipush hd hv (k E I0 sh I J R w e f)
theorem rm_iload_n {n : Fin 4} {i : Nat} {x : Int32} (hd : decode M.2.1 pc = .ok (.iload_n n, 1)) (hi : (n : Nat) = i) (hl : lv[i]? = some (.int x)) (k : rm_V M d (pc + 1) lv (.int x :: st) a Q) : rm_V M d pc lv (st) a Q := fun E I0 sh I J R w e f => zv_iload_n hd hi hl (k E I0 sh I J R w e f)
theorem rm_iload {i : Nat} {x : Int32} (hd : decode M.2.1 pc = .ok (.iload i, 2)) (hl : lv[i]? = some (.int x)) (k : rm_V M d (pc + 2) lv (.int x :: st) a Q) : rm_V M d pc lv (st) a Q := fun E I0 sh I J R w e f => zv_iload hd hl (k E I0 sh I J R w e f)
theorem rm_aload_n {n : Fin 4} {i t : Nat} (hd : decode M.2.1 pc = .ok (.aload_n n, 1)) (hi : (n : Nat) = i) (hl : lv[i]? = some (.ref t)) (k : rm_V M d (pc + 1) lv (.ref t :: st) a Q) : rm_V M d pc lv (st) a Q := fun E I0 sh I J R w e f => zv_aload_n hd hi hl (k E I0 sh I J R w e f)
theorem rm_istore_n {n : Fin 4} {i : Nat} {x : Int32} {lv' : List Value} (hd : decode M.2.1 pc = .ok (.istore_n n, 1)) (hi : (n : Nat) = i) (hn : i < M.2.2.1) (hl : zv_ls lv i (.int x) = some lv') (k : rm_V M d (pc + 1) lv' (st) a Q) : rm_V M d pc lv (.int x :: st) a Q := fun E I0 sh I J R w e f => zv_istore_n hd hi hn hl (k E I0 sh I J R w e f)
theorem rm_istore {i : Nat} {x : Int32} {lv' : List Value} (hd : decode M.2.1 pc = .ok (.istore i, 2)) (hn : i < M.2.2.1) (hl : zv_ls lv i (.int x) = some lv') (k : rm_V M d (pc + 2) lv' (st) a Q) : rm_V M d pc lv (.int x :: st) a Q := fun E I0 sh I J R w e f => zv_istore hd hn hl (k E I0 sh I J R w e f)
theorem rm_iinc {i : Nat} {n : Int} {x v : Int32} {lv' : List Value} (hd : decode M.2.1 pc = .ok (.iinc i n, 3)) (hx : lv[i]? = some (.int x)) (hv : x + Int32.ofInt n = v) (hn : i < M.2.2.1) (hl : zv_ls lv i (.int v) = some lv') (k : rm_V M d (pc + 3) lv' (st) a Q) : rm_V M d pc lv (st) a Q := fun E I0 sh I J R w e f => zv_iinc hd hx hv hn hl (k E I0 sh I J R w e f)
theorem rm_iadd {x y : Int32} (hd : decode M.2.1 pc = .ok (.iadd, 1)) (k : rm_V M d (pc + 1) lv (.int (x + y) :: st) a Q) : rm_V M d pc lv (.int y :: .int x :: st) a Q := fun E I0 sh I J R w e f => zv_iadd hd (k E I0 sh I J R w e f)
theorem rm_isub {x y : Int32} (hd : decode M.2.1 pc = .ok (.isub, 1)) (k : rm_V M d (pc + 1) lv (.int (x - y) :: st) a Q) : rm_V M d pc lv (.int y :: .int x :: st) a Q := fun E I0 sh I J R w e f => zv_isub hd (k E I0 sh I J R w e f)
theorem rm_imul {x y : Int32} (hd : decode M.2.1 pc = .ok (.imul, 1)) (k : rm_V M d (pc + 1) lv (.int (x * y) :: st) a Q) : rm_V M d pc lv (.int y :: .int x :: st) a Q := fun E I0 sh I J R w e f => zv_imul hd (k E I0 sh I J R w e f)
theorem rm_iand {x y : Int32} (hd : decode M.2.1 pc = .ok (.iand, 1)) (k : rm_V M d (pc + 1) lv (.int (x &&& y) :: st) a Q) : rm_V M d pc lv (.int y :: .int x :: st) a Q := fun E I0 sh I J R w e f => zv_iand hd (k E I0 sh I J R w e f)
theorem rm_ior {x y : Int32} (hd : decode M.2.1 pc = .ok (.ior, 1)) (k : rm_V M d (pc + 1) lv (.int (x ||| y) :: st) a Q) : rm_V M d pc lv (.int y :: .int x :: st) a Q := fun E I0 sh I J R w e f => zv_ior hd (k E I0 sh I J R w e f)
theorem rm_ixor {x y : Int32} (hd : decode M.2.1 pc = .ok (.ixor, 1)) (k : rm_V M d (pc + 1) lv (.int (x ^^^ y) :: st) a Q) : rm_V M d pc lv (.int y :: .int x :: st) a Q := fun E I0 sh I J R w e f => zv_ixor hd (k E I0 sh I J R w e f)
theorem rm_ishl {x y : Int32} (hd : decode M.2.1 pc = .ok (.ishl, 1)) (k : rm_V M d (pc + 1) lv (.int (x <<< (y &&& 31)) :: st) a Q) : rm_V M d pc lv (.int y :: .int x :: st) a Q := fun E I0 sh I J R w e f => zv_ishl hd (k E I0 sh I J R w e f)
theorem rm_ishr {x y : Int32} (hd : decode M.2.1 pc = .ok (.ishr, 1)) (k : rm_V M d (pc + 1) lv (.int (x >>> (y &&& 31)) :: st) a Q) : rm_V M d pc lv (.int y :: .int x :: st) a Q := fun E I0 sh I J R w e f => zv_ishr hd (k E I0 sh I J R w e f)
theorem rm_idiv {x y : Int32} (hd : decode M.2.1 pc = .ok (.idiv, 1)) (hne : ¬ y = 0) (k : rm_V M d (pc + 1) lv (.int (x / y) :: st) a Q) : rm_V M d pc lv (.int y :: .int x :: st) a Q := fun E I0 sh I J R w e f => zv_idiv hd hne (k E I0 sh I J R w e f)
theorem rm_irem {x y : Int32} (hd : decode M.2.1 pc = .ok (.irem, 1)) (hne : ¬ y = 0) (k : rm_V M d (pc + 1) lv (.int (x - x / y * y) :: st) a Q) : rm_V M d pc lv (.int y :: .int x :: st) a Q := fun E I0 sh I J R w e f => zv_irem hd hne (k E I0 sh I J R w e f)
theorem rm_dup {v : Value} (hd : decode M.2.1 pc = .ok (.dup, 1)) (hv : v.category = 1) (k : rm_V M d (pc + 1) lv (v :: v :: st) a Q) : rm_V M d pc lv (v :: st) a Q := fun E I0 sh I J R w e f => zv_dup hd hv (k E I0 sh I J R w e f)
theorem rm_pop {v : Value} (hd : decode M.2.1 pc = .ok (.pop, 1)) (hv : v.category = 1) (k : rm_V M d (pc + 1) lv (st) a Q) : rm_V M d pc lv (v :: st) a Q := fun E I0 sh I J R w e f => zv_pop hd hv (k E I0 sh I J R w e f)
theorem rm_dup2 {v w : Value} (hd : decode M.2.1 pc = .ok (.dup2, 1)) (hv : v.category = 1) (hw : w.category = 1) (k : rm_V M d (pc + 1) lv (v :: w :: v :: w :: st) a Q) : rm_V M d pc lv (v :: w :: st) a Q := fun E I0 sh I J R w e f => zv_dup2 hd hv hw (k E I0 sh I J R w e f)
theorem rm_top {x y : Int32} (h : x = y) (k : rm_V M d pc lv (.int y :: st) a Q) : rm_V M d pc lv (.int x :: st) a Q := h ▸ k
theorem rm_if_eq {x : Int32} {off : Int} {tgt : Nat} (hd : decode M.2.1 pc = .ok (.ifCond .eq off, 3)) (ht : (pc : Int) + off = (tgt : Int)) (kt : x = 0 → rm_V M d tgt lv st a Q) (kf : ¬ x = 0 → rm_V M d (pc + 3) lv st a Q) : rm_V M d pc lv (.int x :: st) a Q := fun E I0 sh I J R w e f => zv_if_eq hd ht (fun h => kt h E I0 sh I J R w e f) (fun h => kf h E I0 sh I J R w e f)
theorem rm_icmp_eq {x y : Int32} {off : Int} {tgt : Nat} (hd : decode M.2.1 pc = .ok (.if_icmp .eq off, 3)) (ht : (pc : Int) + off = (tgt : Int)) (kt : x = y → rm_V M d tgt lv st a Q) (kf : ¬ x = y → rm_V M d (pc + 3) lv st a Q) : rm_V M d pc lv (.int y :: .int x :: st) a Q := fun E I0 sh I J R w e f => zv_icmp_eq hd ht (fun h => kt h E I0 sh I J R w e f) (fun h => kf h E I0 sh I J R w e f)
theorem rm_if_ne {x : Int32} {off : Int} {tgt : Nat} (hd : decode M.2.1 pc = .ok (.ifCond .ne off, 3)) (ht : (pc : Int) + off = (tgt : Int)) (kt : ¬ x = 0 → rm_V M d tgt lv st a Q) (kf : x = 0 → rm_V M d (pc + 3) lv st a Q) : rm_V M d pc lv (.int x :: st) a Q := fun E I0 sh I J R w e f => zv_if_ne hd ht (fun h => kt h E I0 sh I J R w e f) (fun h => kf h E I0 sh I J R w e f)
theorem rm_icmp_ne {x y : Int32} {off : Int} {tgt : Nat} (hd : decode M.2.1 pc = .ok (.if_icmp .ne off, 3)) (ht : (pc : Int) + off = (tgt : Int)) (kt : ¬ x = y → rm_V M d tgt lv st a Q) (kf : x = y → rm_V M d (pc + 3) lv st a Q) : rm_V M d pc lv (.int y :: .int x :: st) a Q := fun E I0 sh I J R w e f => zv_icmp_ne hd ht (fun h => kt h E I0 sh I J R w e f) (fun h => kf h E I0 sh I J R w e f)
theorem rm_if_lt {x : Int32} {off : Int} {tgt : Nat} (hd : decode M.2.1 pc = .ok (.ifCond .lt off, 3)) (ht : (pc : Int) + off = (tgt : Int)) (kt : x < 0 → rm_V M d tgt lv st a Q) (kf : ¬ x < 0 → rm_V M d (pc + 3) lv st a Q) : rm_V M d pc lv (.int x :: st) a Q := fun E I0 sh I J R w e f => zv_if_lt hd ht (fun h => kt h E I0 sh I J R w e f) (fun h => kf h E I0 sh I J R w e f)
theorem rm_icmp_lt {x y : Int32} {off : Int} {tgt : Nat} (hd : decode M.2.1 pc = .ok (.if_icmp .lt off, 3)) (ht : (pc : Int) + off = (tgt : Int)) (kt : x < y → rm_V M d tgt lv st a Q) (kf : ¬ x < y → rm_V M d (pc + 3) lv st a Q) : rm_V M d pc lv (.int y :: .int x :: st) a Q := fun E I0 sh I J R w e f => zv_icmp_lt hd ht (fun h => kt h E I0 sh I J R w e f) (fun h => kf h E I0 sh I J R w e f)
theorem rm_if_ge {x : Int32} {off : Int} {tgt : Nat} (hd : decode M.2.1 pc = .ok (.ifCond .ge off, 3)) (ht : (pc : Int) + off = (tgt : Int)) (kt : 0 ≤ x → rm_V M d tgt lv st a Q) (kf : ¬ 0 ≤ x → rm_V M d (pc + 3) lv st a Q) : rm_V M d pc lv (.int x :: st) a Q := fun E I0 sh I J R w e f => zv_if_ge hd ht (fun h => kt h E I0 sh I J R w e f) (fun h => kf h E I0 sh I J R w e f)
theorem rm_icmp_ge {x y : Int32} {off : Int} {tgt : Nat} (hd : decode M.2.1 pc = .ok (.if_icmp .ge off, 3)) (ht : (pc : Int) + off = (tgt : Int)) (kt : y ≤ x → rm_V M d tgt lv st a Q) (kf : ¬ y ≤ x → rm_V M d (pc + 3) lv st a Q) : rm_V M d pc lv (.int y :: .int x :: st) a Q := fun E I0 sh I J R w e f => zv_icmp_ge hd ht (fun h => kt h E I0 sh I J R w e f) (fun h => kf h E I0 sh I J R w e f)
theorem rm_if_gt {x : Int32} {off : Int} {tgt : Nat} (hd : decode M.2.1 pc = .ok (.ifCond .gt off, 3)) (ht : (pc : Int) + off = (tgt : Int)) (kt : 0 < x → rm_V M d tgt lv st a Q) (kf : ¬ 0 < x → rm_V M d (pc + 3) lv st a Q) : rm_V M d pc lv (.int x :: st) a Q := fun E I0 sh I J R w e f => zv_if_gt hd ht (fun h => kt h E I0 sh I J R w e f) (fun h => kf h E I0 sh I J R w e f)
theorem rm_icmp_gt {x y : Int32} {off : Int} {tgt : Nat} (hd : decode M.2.1 pc = .ok (.if_icmp .gt off, 3)) (ht : (pc : Int) + off = (tgt : Int)) (kt : y < x → rm_V M d tgt lv st a Q) (kf : ¬ y < x → rm_V M d (pc + 3) lv st a Q) : rm_V M d pc lv (.int y :: .int x :: st) a Q := fun E I0 sh I J R w e f => zv_icmp_gt hd ht (fun h => kt h E I0 sh I J R w e f) (fun h => kf h E I0 sh I J R w e f)
theorem rm_if_le {x : Int32} {off : Int} {tgt : Nat} (hd : decode M.2.1 pc = .ok (.ifCond .le off, 3)) (ht : (pc : Int) + off = (tgt : Int)) (kt : x ≤ 0 → rm_V M d tgt lv st a Q) (kf : ¬ x ≤ 0 → rm_V M d (pc + 3) lv st a Q) : rm_V M d pc lv (.int x :: st) a Q := fun E I0 sh I J R w e f => zv_if_le hd ht (fun h => kt h E I0 sh I J R w e f) (fun h => kf h E I0 sh I J R w e f)
theorem rm_icmp_le {x y : Int32} {off : Int} {tgt : Nat} (hd : decode M.2.1 pc = .ok (.if_icmp .le off, 3)) (ht : (pc : Int) + off = (tgt : Int)) (kt : x ≤ y → rm_V M d tgt lv st a Q) (kf : ¬ x ≤ y → rm_V M d (pc + 3) lv st a Q) : rm_V M d pc lv (.int y :: .int x :: st) a Q := fun E I0 sh I J R w e f => zv_icmp_le hd ht (fun h => kt h E I0 sh I J R w e f) (fun h => kf h E I0 sh I J R w e f)
theorem rm_icN_eq {i j : Nat} {off : Int} {tgt : Nat} (hd : decode M.2.1 pc = .ok (.if_icmp .eq off, 3)) (ht : (pc : Int) + off = (tgt : Int)) (hi : i < 2 ^ 31) (hj : j < 2 ^ 31) (kt : i = j → rm_V M d tgt lv st a Q) (kf : i ≠ j → rm_V M d (pc + 3) lv st a Q) : rm_V M d pc lv (.int (nI j) :: .int (nI i) :: st) a Q := rm_icmp_eq hd ht (fun h => kt ((nI_eq hi hj).mp h)) (fun h => kf (fun q => h ((nI_eq hi hj).mpr q)))
theorem rm_icN_ne {i j : Nat} {off : Int} {tgt : Nat} (hd : decode M.2.1 pc = .ok (.if_icmp .ne off, 3)) (ht : (pc : Int) + off = (tgt : Int)) (hi : i < 2 ^ 31) (hj : j < 2 ^ 31) (kt : i ≠ j → rm_V M d tgt lv st a Q) (kf : i = j → rm_V M d (pc + 3) lv st a Q) : rm_V M d pc lv (.int (nI j) :: .int (nI i) :: st) a Q := rm_icmp_ne hd ht (fun h => kt (fun q => h ((nI_eq hi hj).mpr q))) (fun h => kf ((nI_eq hi hj).mp h))
theorem rm_icN_lt {i j : Nat} {off : Int} {tgt : Nat} (hd : decode M.2.1 pc = .ok (.if_icmp .lt off, 3)) (ht : (pc : Int) + off = (tgt : Int)) (hi : i < 2 ^ 31) (hj : j < 2 ^ 31) (kt : i < j → rm_V M d tgt lv st a Q) (kf : j ≤ i → rm_V M d (pc + 3) lv st a Q) : rm_V M d pc lv (.int (nI j) :: .int (nI i) :: st) a Q := rm_icmp_lt hd ht (fun h => kt ((nI_ltI hi hj).mp h)) (fun h => kf (Nat.not_lt.mp fun q => h ((nI_ltI hi hj).mpr q)))
theorem rm_icN_ge {i j : Nat} {off : Int} {tgt : Nat} (hd : decode M.2.1 pc = .ok (.if_icmp .ge off, 3)) (ht : (pc : Int) + off = (tgt : Int)) (hi : i < 2 ^ 31) (hj : j < 2 ^ 31) (kt : j ≤ i → rm_V M d tgt lv st a Q) (kf : i < j → rm_V M d (pc + 3) lv st a Q) : rm_V M d pc lv (.int (nI j) :: .int (nI i) :: st) a Q := rm_icmp_ge hd ht (fun h => kt ((nI_leI hj hi).mp h)) (fun h => kf (Nat.not_le.mp fun q => h ((nI_leI hj hi).mpr q)))
theorem rm_icN_gt {i j : Nat} {off : Int} {tgt : Nat} (hd : decode M.2.1 pc = .ok (.if_icmp .gt off, 3)) (ht : (pc : Int) + off = (tgt : Int)) (hi : i < 2 ^ 31) (hj : j < 2 ^ 31) (kt : j < i → rm_V M d tgt lv st a Q) (kf : i ≤ j → rm_V M d (pc + 3) lv st a Q) : rm_V M d pc lv (.int (nI j) :: .int (nI i) :: st) a Q := rm_icmp_gt hd ht (fun h => kt ((nI_ltI hj hi).mp h)) (fun h => kf (Nat.not_lt.mp fun q => h ((nI_ltI hj hi).mpr q)))
theorem rm_icN_le {i j : Nat} {off : Int} {tgt : Nat} (hd : decode M.2.1 pc = .ok (.if_icmp .le off, 3)) (ht : (pc : Int) + off = (tgt : Int)) (hi : i < 2 ^ 31) (hj : j < 2 ^ 31) (kt : i ≤ j → rm_V M d tgt lv st a Q) (kf : j < i → rm_V M d (pc + 3) lv st a Q) : rm_V M d pc lv (.int (nI j) :: .int (nI i) :: st) a Q := rm_icmp_le hd ht (fun h => kt ((nI_leI hi hj).mp h)) (fun h => kf (Nat.not_le.mp fun q => h ((nI_leI hi hj).mpr q)))
theorem rm_goto {off : Int} {tgt : Nat} (hd : decode M.2.1 pc = .ok (.goto off, 3)) (ht : (pc : Int) + off = (tgt : Int)) (k : rm_V M d tgt lv st a Q) : rm_V M d pc lv st a Q := fun E I0 sh I J R w e f => zv_goto hd ht (k E I0 sh I J R w e f)
theorem rm_tableOut {dflt lo hi : Int} {offs : Array Int} {len : Nat} {x : Int32} {tgt : Nat} (hd : decode M.2.1 pc = .ok (.tableswitch dflt lo hi offs, len)) (h : x.toInt < lo ∨ hi < x.toInt) (ht : (pc : Int) + dflt = (tgt : Int)) (k : rm_V M d tgt lv st a Q) : rm_V M d pc lv (.int x :: st) a Q := fun E I0 sh I J R w e f => zv_tableOut hd h ht (k E I0 sh I J R w e f)
theorem rm_tableIn {dflt lo hi : Int} {offs : Array Int} {len : Nat} {x : Int32} {off : Int} {tgt : Nat} (hd : decode M.2.1 pc = .ok (.tableswitch dflt lo hi offs, len)) (hl : ¬ x.toInt < lo) (hh : ¬ hi < x.toInt) (ho : offs[(x.toInt - lo).toNat]? = some off) (ht : (pc : Int) + off = (tgt : Int)) (k : rm_V M d tgt lv st a Q) : rm_V M d pc lv (.int x :: st) a Q := fun E I0 sh I J R w e f => zv_tableIn hd hl hh ho ht (k E I0 sh I J R w e f)
theorem rm_less {lv' : List Value} (h : ∃ r, lv = lv' ++ r) (k : rm_V M d pc lv' st a Q) : rm_V M d pc lv st a Q := fun E I0 sh I J R w e f => zv_less h (k E I0 sh I J R w e f)
theorem rm_post {Q' : Option Value → zv_I → Prop} (h : ∀ v b, Q' v b → Q v b) (k : rm_V M d pc lv st a Q') : rm_V M d pc lv st a Q := fun E I0 sh I J R w e f => zv_post (fun v s1 I1 J1 R1 q => ⟨q.1, q.2.1, q.2.2.1, q.2.2.2.1, q.2.2.2.2.choose, q.2.2.2.2.choose_spec.1, h _ _ q.2.2.2.2.choose_spec.2⟩) (k E I0 sh I J R w e f)
theorem rm_deep {d' : Nat} (h : d' ≤ d) (k : rm_V M d' pc lv st a Q) : rm_V M d pc lv st a Q := fun E I0 sh I J R w e f => zv_deep h (k E I0 sh I J R w e f)
theorem rm_geti {idx : Nat} (j : Nat) {x : Int32} (hd : decode M.2.1 pc = .ok (.getfield idx, 3)) (hf : zv_FL M.1.cls idx 7 j) (hr : zv_rfld 7 j = false) (hx : a 3 j = x) (k : rm_V M d (pc + 3) lv (.int x :: st) a Q) : rm_V M d pc lv (.ref 3 :: st) a Q := fun E I0 sh I J R w e f => zv_geti 7 j hd hf w.1 hr ((congrFun (e 3 (by decide) (by decide)) j).trans hx) (k E I0 sh I J R w e f)
theorem rm_getr {idx : Nat} (j : Nat) {t : Nat} (hd : decode M.2.1 pc = .ok (.getfield idx, 3)) (hf : zv_FL M.1.cls idx 7 j) (hj : j < 28) (hr : zv_rfld 7 j = true) (ht : 4 + j = t) (k : rm_V M d (pc + 3) lv (.ref t :: st) a Q) : rm_V M d pc lv (.ref 3 :: st) a Q := by
  subst ht
  exact fun E I0 sh I J R w e f => zv_getr 7 j hd hf w.1 hr (w.2 j hj hr).1 (k E I0 sh I J R w e f)
theorem rm_puti {idx : Nat} (j : Nat) {x : Int32} (hd : decode M.2.1 pc = .ok (.putfield idx, 3)) (hf : zv_FW M.1.cls M.1.name idx 7 j) (hr : zv_rfld 7 j = false) (k : rm_V M d (pc + 3) lv st (zv_u a 3 j x) Q) : rm_V M d pc lv (.int x :: .ref 3 :: st) a Q := fun E I0 sh I J R w e f => zv_puti 7 j hd hf w.1 hr (k E I0 sh (zv_u I 3 j x) J R w (rm_E_u e) (rm_F_u (by decide) (by decide) f))
theorem rm_iald {t f j : Nat} {i x : Int32} (hd : decode M.2.1 pc = .ok (.iaload, 1)) (hf : t = 4 + f) (hf2 : f < 28) (hr : zv_rfld 7 f = true) (hk : rm_kd f = 0) (hi : i = nI j) (hj : j < rm_sz f) (hx : a t j = x) (k : rm_V M d (pc + 1) lv (.int x :: st) a Q) : rm_V M d pc lv (.int i :: .ref t :: st) a Q := by
  subst hf
  intro E I0 sh I J R w e g
  have hs := (w.2 f hf2 hr).2
  rw [hk] at hs
  exact zv_iald hd hs hi hj (rm_sz_lt f) ((congrFun (e (4 + f) (by omega) (by omega)) j).trans hx) (k E I0 sh I J R w e g)
theorem rm_zald {j : Nat} {i x : Int32} (hd : decode M.2.1 pc = .ok (.baload, 1)) (hi : i = nI j) (hj : j < 40000) (hx : a 26 j = x) (k : rm_V M d (pc + 1) lv (.int x :: st) a Q) : rm_V M d pc lv (.int i :: .ref 26 :: st) a Q := fun E I0 sh I J R w e g =>
  zv_zald hd (rmS22 w) hi hj (by decide) ((congrFun (e 26 (by decide) (by decide)) j).trans hx) (k E I0 sh I J R w e g)
theorem rm_iast {t f j : Nat} {i x : Int32} (hd : decode M.2.1 pc = .ok (.iastore, 1)) (hf : t = 4 + f) (hf2 : f < 28) (hr : zv_rfld 7 f = true) (hk : rm_kd f = 0) (hi : i = nI j) (hj : j < rm_sz f) (k : rm_V M d (pc + 1) lv st (zv_u a t j x) Q) : rm_V M d pc lv (.int x :: .int i :: .ref t :: st) a Q := by
  subst hf
  intro E I0 sh I J R w e g
  have hs := (w.2 f hf2 hr).2
  rw [hk] at hs
  exact zv_iast hd hs hi hj (rm_sz_lt f) (k E I0 sh (zv_u I (4 + f) j x) J R w (rm_E_u e) (rm_F_u (by omega) (by omega) g))
theorem rm_zast {j : Nat} {i x : Int32} (hd : decode M.2.1 pc = .ok (.bastore, 1)) (hi : i = nI j) (hj : j < 40000) (hx : vp_nar .boolean x = x) (k : rm_V M d (pc + 1) lv st (zv_u a 26 j x) Q) : rm_V M d pc lv (.int x :: .int i :: .ref 26 :: st) a Q := fun E I0 sh I J R w e g =>
  zv_zast hd (rmS22 w) hi hj (by decide) hx (k E I0 sh (zv_u I 26 j x) J R w (rm_E_u e) (rm_F_u (by decide) (by decide) g))
/-- ends -/
theorem rm_iret {x : Int32} {ty : FieldType} (hd : decode M.2.1 pc = .ok (.ireturn, 1)) (ht : M.2.2.2 = some ty) (hn : narrow ty (.int x) = .int x) (hq : Q (some (.int x)) a) : rm_V M d pc lv [.int x] a Q := fun E I0 sh I J R w e f => zv_iret hd ht hn ⟨rfl, rfl, rfl, f, a, e, hq⟩
theorem rm_vret (hd : decode M.2.1 pc = .ok (.return_, 1)) (ht : M.2.2.2 = none) (hq : Q none a) : rm_V M d pc lv [] a Q := fun E I0 sh I J R w e f => zv_vret hd ht ⟨rfl, rfl, rfl, f, a, e, hq⟩
/-- calls -/
theorem rm_callV {M1 : zv_M} {idx n : Nat} {As : List Value} {Q1 : Option Value → zv_I → Prop} (hd : decode M.2.1 pc = .ok (.invokevirtual idx, 3)) (hm : zv_CV M.1.cls idx M1 n) (hc : M1.1.cls = RX8) (hn : As.length = n) (hA : n + 1 ≤ M1.2.2.1) (hcat : ∀ w ∈ As, w.category = 1) (hst : (st.map fun v => v.category).sum ≤ 8)
    (hV : rm_V M1 d 0 (.ref 3 :: As) [] a Q1) (k : ∀ v b, Q1 v b → rm_V M (d + 1) (pc + 3) lv (v.toList ++ st) b Q) : rm_V M (d + 1) pc lv (As.reverse ++ .ref 3 :: st) a Q := by
  subst hn
  intro E I0 sh I J R w e f
  have h := zv_callV (lv := lv) (kc := 0) (ks := 0) (Q := rm_Q I0 sh J R Q) hd hm.1 hm.2.1 hm.2.2.1 hm.2.2.2 (c := 7) w.1 rfl hc.symm hA hcat hst (hV E I0 sh I J R w e f) (fun v s1 I1 J1 R1 q => ?_)
  · exact h
  · obtain ⟨rfl, rfl, rfl, g, b, e1, q1⟩ := q
    exact k v b q1 E I0 _ I1 _ _ w e1 g
theorem rm_callS {M1 : zv_M} {idx n : Nat} {As : List Value} {Q1 : Option Value → zv_I → Prop} (hd : decode M.2.1 pc = .ok (.invokestatic idx, 3)) (hm : zv_CS M.1.cls idx M1 n) (hn : As.length = n) (hA : n ≤ M1.2.2.1) (hcat : ∀ w ∈ As, w.category = 1) (hst : (st.map fun v => v.category).sum ≤ 8)
    (hV : rm_V M1 d 0 As [] a Q1) (k : ∀ v b, Q1 v b → rm_V M (d + 1) (pc + 3) lv (v.toList ++ st) b Q) : rm_V M (d + 1) pc lv (As.reverse ++ st) a Q := by
  subst hn
  intro E I0 sh I J R w e f
  have h := zv_callS (lv := lv) (kc := 0) (ks := 0) (Q := rm_Q I0 sh J R Q) hd hm.1 hm.2.1 hm.2.2 hA hcat hst (hV E I0 sh I J R w e f) (fun v s1 I1 J1 R1 q => ?_)
  · exact h
  · obtain ⟨rfl, rfl, rfl, g, b, e1, q1⟩ := q
    exact k v b q1 E I0 _ I1 _ _ w e1 g
end RM
end
section
/-! THE MODEL'S METHODS: words -/
def rm_b (b : Bool) : Int32 := if b = true then 1 else 0
theorem rm_nb (b : Bool) : narrow .boolean (.int (rm_b b)) = .int (rm_b b) := by cases b <;> rfl
theorem rm_b_z (b : Bool) : rm_b b = 0 ↔ b = false := by cases b <;> simp [rm_b]
/-- 0 ≤ x < n -/
def rm_lt (x : Int32) (n : Nat) : Bool := decide (0 ≤ x.toInt ∧ x.toInt < n)
theorem rm_lt_t {x : Int32} {n : Nat} (h : rm_lt x n = true) (hn : n < 2 ^ 31) : ∃ j, j < n ∧ x = nI j := by
  simp only [rm_lt, decide_eq_true_eq] at h
  refine ⟨x.toInt.toNat, by omega, Int32.toInt_inj.mp ?_⟩
  rw [nI_toInt (by omega)]
  omega
theorem rm_lt_n {j n : Nat} (hj : j < 2 ^ 31) : rm_lt (nI j) n = decide (j < n) := by
  simp only [rm_lt, nI_toInt hj]
  congr 1
  exact propext ⟨fun h => by omega, fun h => by omega⟩
theorem zv_cat_i (l : List Int32) : ∀ w ∈ l.map Value.int, w.category = 1 := by
  intro w hw
  obtain ⟨x, -, rfl⟩ := List.mem_map.mp hw
  rfl
/-- answers x, leaves the rows -/
def rm_p (x : Int32) (a : zv_I) : Option Value → zv_I → Prop := fun v b => v = some (.int x) ∧ a = b
section MB
variable {M : zv_M} {d pc : Nat} {lv st : List Value} {a : zv_I} {Q : Option Value → zv_I → Prop}
theorem rm_ifB_eq {b : Bool} {off : Int} {tgt : Nat} (hd : decode M.2.1 pc = .ok (.ifCond .eq off, 3)) (ht : (pc : Int) + off = (tgt : Int)) (kt : b = false → rm_V M d tgt lv st a Q) (kf : b = true → rm_V M d (pc + 3) lv st a Q) : rm_V M d pc lv (.int (rm_b b) :: st) a Q :=
  rm_if_eq hd ht (fun h => kt ((rm_b_z b).mp h)) (fun h => kf (by cases b; exact absurd rfl h; rfl))
theorem rm_ifB_ne {b : Bool} {off : Int} {tgt : Nat} (hd : decode M.2.1 pc = .ok (.ifCond .ne off, 3)) (ht : (pc : Int) + off = (tgt : Int)) (kt : b = true → rm_V M d tgt lv st a Q) (kf : b = false → rm_V M d (pc + 3) lv st a Q) : rm_V M d pc lv (.int (rm_b b) :: st) a Q :=
  rm_if_ne hd ht (fun h => kt (by cases b; exact absurd rfl h; rfl)) (fun h => kf ((rm_b_z b).mp h))
end MB
end
section
theorem cM_in (d : Nat) (a : zv_I) (x y z : Int32) : rm_V mX8_in d 0 [.int x, .int y, .int z] [] a (rm_p (rm_b (decide (y ≤ x ∧ x ≤ z))) a) := by
  refine rm_iload_n dX8_in_0 rfl rfl ?_
  refine rm_iload_n dX8_in_1 rfl rfl ?_
  refine rm_icmp_lt (tgt := 14) dX8_in_2 (by decide) (fun h2 => ?_) (fun h2 => ?_)
  · refine rm_iconst (v := nI (0)) dX8_in_14 (by decide) ?_
    refine rm_iret dX8_in_15 rfl rfl ?_
    refine ⟨?_, rfl⟩
    rw [show decide (y ≤ x ∧ x ≤ z) = false from decide_eq_false (fun h => by first | exact Int32.not_le.mpr h7 h.2 | exact Int32.not_le.mpr h2 h.1)]; rfl
  · refine rm_iload_n dX8_in_5 rfl rfl ?_
    refine rm_iload_n dX8_in_6 rfl rfl ?_
    refine rm_icmp_gt (tgt := 14) dX8_in_7 (by decide) (fun h7 => ?_) (fun h7 => ?_)
    · refine rm_iconst (v := nI (0)) dX8_in_14 (by decide) ?_
      refine rm_iret dX8_in_15 rfl rfl ?_
      refine ⟨?_, rfl⟩
      rw [show decide (y ≤ x ∧ x ≤ z) = false from decide_eq_false (fun h => by first | exact Int32.not_le.mpr h7 h.2 | exact Int32.not_le.mpr h2 h.1)]; rfl
    · refine rm_iconst (v := nI (1)) dX8_in_10 (by decide) ?_
      refine rm_goto (tgt := 15) dX8_in_11 (by decide) ?_
      refine rm_iret dX8_in_15 rfl rfl ?_
      refine ⟨?_, rfl⟩
      rw [show decide (y ≤ x ∧ x ≤ z) = true from decide_eq_true ⟨Int32.not_lt.mp h2, Int32.not_lt.mp h7⟩]; rfl
theorem rm_in0 (x : Int32) {n : Nat} (hn : n < 2 ^ 31) : decide (nI 0 ≤ x ∧ x ≤ nI n - nI 1) = rm_lt x n := by
  unfold rm_lt
  congr 1
  have h1 : (nI n - nI 1).toInt = (n : Int) - 1 := by
    cases n with
    | zero => decide
    | succ n => rw [pk_sub (by omega), nI_toInt (by omega)]; omega
  rw [Int32.le_iff_toInt_le, Int32.le_iff_toInt_le, h1, nI_toInt (by decide)]
  exact propext ⟨fun h => by omega, fun h => by omega⟩
theorem cM_isMember (d : Nat) {a : zv_I} {n : Nat} (hn : a 3 0 = nI n) (hb : n < 2 ^ 31) (x : Int32) : rm_V mX8_isMember (d + 1) 0 [.ref 3, .int x] [] a (rm_p (rm_b (rm_lt x n)) a) := by
  refine rm_iload_n dX8_isMember_0 rfl rfl ?_
  refine rm_iconst (v := nI (0)) dX8_isMember_1 (by decide) ?_
  refine rm_aload_n dX8_isMember_2 rfl rfl ?_
  refine rm_geti 0 (x := nI (n)) dX8_isMember_3 flX8_78 rfl (hn) ?_
  refine rm_iconst (v := nI (1)) dX8_isMember_6 (by decide) ?_
  refine rm_isub dX8_isMember_7 ?_
  refine rm_callS (As := [.int (x), .int (nI (0)), .int (((nI (n)) - (nI (1))))]) (st := []) dX8_isMember_8 csX8_82 rfl (by decide) (zv_cat_i [x, nI (0), ((nI (n)) - (nI (1)))]) (Nat.le_of_ble_eq_true rfl) (cM_in d a x (nI (0)) (((nI (n)) - (nI (1))))) (fun v b q => ?_)
  obtain ⟨rfl, rfl⟩ := q
  show rm_V _ _ 11 [.ref 3, .int (x)] [.int (rm_b (decide (nI (0) ≤ x ∧ x ≤ ((nI (n)) - (nI (1))))))] _ _
  refine rm_iret dX8_isMember_11 rfl (rm_nb _) ?_
  exact ⟨by rw [rm_in0 x hb], rfl⟩
theorem cM_isCircle (d : Nat) {a : zv_I} {n : Nat} (hn : a 3 1 = nI n) (hb : n < 2 ^ 31) (x : Int32) : rm_V mX8_isCircle (d + 1) 0 [.ref 3, .int x] [] a (rm_p (rm_b (rm_lt x n)) a) := by
  refine rm_iload_n dX8_isCircle_0 rfl rfl ?_
  refine rm_iconst (v := nI (0)) dX8_isCircle_1 (by decide) ?_
  refine rm_aload_n dX8_isCircle_2 rfl rfl ?_
  refine rm_geti 1 (x := nI (n)) dX8_isCircle_3 flX8_86 rfl (hn) ?_
  refine rm_iconst (v := nI (1)) dX8_isCircle_6 (by decide) ?_
  refine rm_isub dX8_isCircle_7 ?_
  refine rm_callS (As := [.int (x), .int (nI (0)), .int (((nI (n)) - (nI (1))))]) (st := []) dX8_isCircle_8 csX8_82 rfl (by decide) (zv_cat_i [x, nI (0), ((nI (n)) - (nI (1)))]) (Nat.le_of_ble_eq_true rfl) (cM_in d a x (nI (0)) (((nI (n)) - (nI (1))))) (fun v b q => ?_)
  obtain ⟨rfl, rfl⟩ := q
  show rm_V _ _ 11 [.ref 3, .int (x)] [.int (rm_b (decide (nI (0) ≤ x ∧ x ≤ ((nI (n)) - (nI (1))))))] _ _
  refine rm_iret dX8_isCircle_11 rfl (rm_nb _) ?_
  exact ⟨by rw [rm_in0 x hb], rfl⟩
theorem cM_isLetter (d : Nat) {a : zv_I} {n : Nat} (hn : a 3 4 = nI n) (hb : n < 2 ^ 31) (x : Int32) : rm_V mX8_isLetter (d + 1) 0 [.ref 3, .int x] [] a (rm_p (rm_b (rm_lt x n)) a) := by
  refine rm_iload_n dX8_isLetter_0 rfl rfl ?_
  refine rm_iconst (v := nI (0)) dX8_isLetter_1 (by decide) ?_
  refine rm_aload_n dX8_isLetter_2 rfl rfl ?_
  refine rm_geti 4 (x := nI (n)) dX8_isLetter_3 flX8_89 rfl (hn) ?_
  refine rm_iconst (v := nI (1)) dX8_isLetter_6 (by decide) ?_
  refine rm_isub dX8_isLetter_7 ?_
  refine rm_callS (As := [.int (x), .int (nI (0)), .int (((nI (n)) - (nI (1))))]) (st := []) dX8_isLetter_8 csX8_82 rfl (by decide) (zv_cat_i [x, nI (0), ((nI (n)) - (nI (1)))]) (Nat.le_of_ble_eq_true rfl) (cM_in d a x (nI (0)) (((nI (n)) - (nI (1))))) (fun v b q => ?_)
  obtain ⟨rfl, rfl⟩ := q
  show rm_V _ _ 11 [.ref 3, .int (x)] [.int (rm_b (decide (nI (0) ≤ x ∧ x ≤ ((nI (n)) - (nI (1))))))] _ _
  refine rm_iret dX8_isLetter_11 rfl (rm_nb _) ?_
  exact ⟨by rw [rm_in0 x hb], rfl⟩
/-- m is in c -/
def rm_in (a : zv_I) (m c : Nat) : Bool := decide (((a 6 c) >>> ((nI m) &&& 31)) &&& (nI 1) = nI 1)
theorem cM_isIn (d : Nat) (a : zv_I) {m c : Nat} (hc : c < 6) : rm_V mX8_isIn d 0 [.ref 3, .int (nI m), .int (nI c)] [] a (rm_p (rm_b (rm_in a m c)) a) := by
  refine rm_aload_n dX8_isIn_0 rfl rfl ?_
  refine rm_getr 2 (t := 6) dX8_isIn_1 flX8_7 (by decide) rfl rfl ?_
  refine rm_iload_n dX8_isIn_4 rfl rfl ?_
  refine rm_iald (f := 2) (j := c) (x := (a 6 (c))) dX8_isIn_5 rfl (by decide) rfl rfl (rfl) (show c < 6 from by omega) (rfl) ?_
  refine rm_iload_n dX8_isIn_6 rfl rfl ?_
  refine rm_ishr dX8_isIn_7 ?_
  refine rm_iconst (v := nI (1)) dX8_isIn_8 (by decide) ?_
  refine rm_iand dX8_isIn_9 ?_
  refine rm_iconst (v := nI (1)) dX8_isIn_10 (by decide) ?_
  refine rm_icmp_ne (tgt := 18) dX8_isIn_11 (by decide) (fun h11 => ?_) (fun h11 => ?_)
  · refine rm_iconst (v := nI (0)) dX8_isIn_18 (by decide) ?_
    refine rm_iret dX8_isIn_19 rfl rfl ?_
    exact ⟨by unfold rm_in; rw [decide_eq_false h11]; rfl, rfl⟩
  · refine rm_iconst (v := nI (1)) dX8_isIn_14 (by decide) ?_
    refine rm_goto (tgt := 19) dX8_isIn_15 (by decide) ?_
    refine rm_iret dX8_isIn_19 rfl rfl ?_
    exact ⟨by unfold rm_in; rw [decide_eq_true h11]; rfl, rfl⟩
theorem cM_refused (d : Nat) (a : zv_I) (x : Int32) : rm_V mX8_refused d 0 [.ref 3, .int x] [] a (rm_p (-1 : Int32) (zv_u a 3 24 (x))) := by
  refine rm_aload_n dX8_refused_0 rfl rfl ?_
  refine rm_iload_n dX8_refused_1 rfl rfl ?_
  refine rm_puti 24 dX8_refused_2 fwX8_100 rfl ?_
  refine rm_iconst (v := (-1 : Int32)) dX8_refused_5 (by decide) ?_
  refine rm_iret dX8_refused_6 rfl rfl ?_
  exact ⟨rfl, rfl⟩
theorem cM_done (d : Nat) (a : zv_I) (x : Int32) : rm_V mX8_done d 0 [.ref 3, .int x] [] a (rm_p x (zv_u a 3 24 (nI 0))) := by
  refine rm_aload_n dX8_done_0 rfl rfl ?_
  refine rm_iconst (v := nI (0)) dX8_done_1 (by decide) ?_
  refine rm_puti 24 dX8_done_2 fwX8_100 rfl ?_
  refine rm_iload_n dX8_done_5 rfl rfl ?_
  refine rm_iret dX8_done_6 rfl rfl ?_
  exact ⟨rfl, rfl⟩
theorem cM_status (d : Nat) (a : zv_I) : rm_V mX8_status d 0 [.ref 3] [] a (rm_p (a 3 24) a) := by
  refine rm_aload_n dX8_status_0 rfl rfl ?_
  refine rm_geti 24 (x := (a 3 24)) dX8_status_1 flX8_100 rfl (rfl) ?_
  refine rm_iret dX8_status_4 rfl rfl ?_
  exact ⟨rfl, rfl⟩
end
section
/-! SEARCHES: the first place from k on, n places long -/
def rm_fst (p : Nat → Bool) : Nat → Nat → Option Nat
  | 0, _ => none
  | n + 1, k => if p k = true then some k else rm_fst p n (k + 1)
def rm_o : Option Nat → Int32
  | none => -1
  | some j => nI j
theorem rm_fst_t {p : Nat → Bool} {n k : Nat} (h : p k = true) : rm_fst p (n + 1) k = some k := if_pos h
theorem rm_fst_f {p : Nat → Bool} {n k : Nat} (h : p k = false) : rm_fst p (n + 1) k = rm_fst p n (k + 1) := if_neg (by rw [h]; decide)
theorem rm_fst_some {p : Nat → Bool} : ∀ {n k j : Nat}, rm_fst p n k = some j → k ≤ j ∧ j < k + n ∧ p j = true ∧ ∀ i, k ≤ i → i < j → p i = false
  | 0, k, j, h => by cases h
  | n + 1, k, j, h => by
    cases hp : p k with
    | true =>
      rw [rm_fst_t hp] at h
      cases h
      exact ⟨Nat.le_refl _, by omega, hp, fun i h1 h2 => by omega⟩
    | false =>
      rw [rm_fst_f hp] at h
      obtain ⟨h1, h2, h3, h4⟩ := rm_fst_some h
      refine ⟨by omega, by omega, h3, fun i g1 g2 => ?_⟩
      by_cases e : i = k
      · rw [e]; exact hp
      · exact h4 i (by omega) g2
theorem rm_fst_none {p : Nat → Bool} : ∀ {n k : Nat}, rm_fst p n k = none ↔ ∀ i, k ≤ i → i < k + n → p i = false
  | 0, k => ⟨fun _ i h1 h2 => by omega, fun _ => rfl⟩
  | n + 1, k => by
    cases hp : p k with
    | true =>
      rw [rm_fst_t hp]
      exact ⟨fun h => (by cases h), fun h => (by rw [h k (Nat.le_refl _) (by omega)] at hp; cases hp)⟩
    | false =>
      rw [rm_fst_f hp, rm_fst_none]
      refine ⟨fun h i h1 h2 => ?_, fun h i h1 h2 => h i (by omega) (by omega)⟩
      by_cases e : i = k
      · rw [e]; exact hp
      · exact h i (by omega) (by omega)
theorem rm_fst_is {p : Nat → Bool} {n k j : Nat} (h1 : k ≤ j) (h2 : j < k + n) (h3 : p j = true) (h4 : ∀ i, k ≤ i → i < j → p i = false) : rm_fst p n k = some j := by
  cases h : rm_fst p n k with
  | none => rw [rm_fst_none.mp h j h1 h2] at h3; cases h3
  | some i =>
    obtain ⟨g1, g2, g3, g4⟩ := rm_fst_some h
    rcases Nat.lt_trichotomy i j with e | e | e
    · rw [h4 i g1 e] at g3; cases g3
    · rw [e]
    · rw [g4 j h1 e] at h3; cases h3
theorem rm_o_neg (o : Option Nat) (h : ∀ j, o = some j → j < 2 ^ 31) : rm_o o = -1 ↔ o = none := by
  cases o with
  | none => exact ⟨fun _ => rfl, fun _ => rfl⟩
  | some j =>
    refine ⟨fun q => ?_, fun q => by cases q⟩
    have h1 : nI j = -1 := q
    have h2 := congrArg Int32.toInt h1
    rw [nI_toInt (h j rfl)] at h2
    have h3 : (-1 : Int32).toInt = -1 := by decide
    omega
theorem rm_ni1 {j : Nat} (h : j < 2 ^ 31) : ¬ nI j = (-1 : Int32) := by
  intro q
  have h2 := congrArg Int32.toInt q
  rw [nI_toInt h] at h2
  have h3 : (-1 : Int32).toInt = -1 := by decide
  omega
end
section
theorem cM_lineOf_l (d : Nat) {a : zv_I} {nm l : Nat} (hm : a 3 0 = nI nm) (hb : nm ≤ 8) (hl : l < 200) : ∀ n k, k + n = nm → rm_V mX8_lineOf d 2 [.ref 3, .int (nI l), .int (nI k)] [] a (rm_p (rm_o (rm_fst (fun m => decide (a 20 (200 * m + l) = nI 1)) n k)) a) := by
  intro n
  induction n with
  | zero =>
    intro k hk
    refine rm_iload_n dX8_lineOf_2 rfl rfl ?_
    refine rm_aload_n dX8_lineOf_3 rfl rfl ?_
    refine rm_geti 0 (x := nI (nm)) dX8_lineOf_4 flX8_78 rfl (hm) ?_
    refine rm_icN_ge (tgt := 34) dX8_lineOf_7 (by decide) (by omega) (by omega) (fun h7 => ?_) (fun h7 => (absurd h7 (by omega)))
    refine rm_iconst (v := (-1 : Int32)) dX8_lineOf_34 (by decide) ?_
    refine rm_iret dX8_lineOf_35 rfl rfl ?_
    exact ⟨rfl, rfl⟩
  | succ n ih =>
    intro k hk
    refine rm_iload_n dX8_lineOf_2 rfl rfl ?_
    refine rm_aload_n dX8_lineOf_3 rfl rfl ?_
    refine rm_geti 0 (x := nI (nm)) dX8_lineOf_4 flX8_78 rfl (hm) ?_
    refine rm_icN_ge (tgt := 34) dX8_lineOf_7 (by decide) (by omega) (by omega) (fun h7 => (absurd h7 (by omega))) (fun h7 => ?_)
    refine rm_aload_n dX8_lineOf_10 rfl rfl ?_
    refine rm_getr 16 (t := 20) dX8_lineOf_11 flX8_46 (by decide) rfl rfl ?_
    refine rm_sipush (v := nI (200)) dX8_lineOf_14 (by decide) ?_
    refine rm_iload_n dX8_lineOf_17 rfl rfl ?_
    refine rm_imul dX8_lineOf_18 ?_
    refine rm_top (pk_mul (200) (k)) ?_
    refine rm_iload_n dX8_lineOf_19 rfl rfl ?_
    refine rm_iadd dX8_lineOf_20 ?_
    refine rm_top (nI_add (200 * k) (l)) ?_
    refine rm_iald (f := 16) (j := 200 * k + l) (x := (a 20 (200 * k + l))) dX8_lineOf_21 rfl (by decide) rfl rfl (rfl) (show 200 * k + l < 1600 from by omega) (rfl) ?_
    refine rm_iconst (v := nI (1)) dX8_lineOf_22 (by decide) ?_
    refine rm_icmp_ne (tgt := 28) dX8_lineOf_23 (by decide) (fun h23 => ?_) (fun h23 => ?_)
    · refine rm_iinc (v := nI (k + 1)) (lv' := [.ref 3, .int (nI (l)), .int (nI (k + 1))]) dX8_lineOf_28 rfl (by rw [← nI_1]; rfl) (by decide) rfl ?_
      refine rm_goto (tgt := 2) dX8_lineOf_31 (by decide) ?_
      rw [rm_fst_f (p := (fun m => decide (a 20 (200 * m + l) = nI 1))) (decide_eq_false h23)]
      exact ih (k + 1) (by omega)
    · refine rm_iload_n dX8_lineOf_26 rfl rfl ?_
      refine rm_iret dX8_lineOf_27 rfl rfl ?_
      exact ⟨by rw [rm_fst_t (p := (fun m => decide (a 20 (200 * m + l) = nI 1))) (decide_eq_true h23)]; rfl, rfl⟩
def rm_lof (a : zv_I) (nm l : Nat) : Option Nat := rm_fst (fun m => decide (a 20 (200 * m + l) = nI 1)) nm 0
theorem cM_lineOf (d : Nat) {a : zv_I} {nm l : Nat} (hm : a 3 0 = nI nm) (hb : nm ≤ 8) (hl : l < 200) : rm_V mX8_lineOf d 0 [.ref 3, .int (nI l)] [] a (rm_p (rm_o (rm_lof a nm l)) a) := by
  refine rm_iconst (v := nI (0)) dX8_lineOf_0 (by decide) ?_
  refine rm_istore_n (lv' := [.ref 3, .int (nI (l)), .int (nI (0))]) dX8_lineOf_1 rfl (by decide) rfl ?_
  exact cM_lineOf_l d hm hb hl nm 0 (by omega)
theorem cM_eldest_l (d : Nat) {a : zv_I} {c e : Nat} (hc : c < 6) : ∀ n k, rm_fst (fun m => rm_in a m c) n k = some e → rm_V mX8_eldest (d + 1) 2 [.ref 3, .int (nI c), .int (nI k)] [] a (rm_p (nI e) a) := by
  intro n
  induction n with
  | zero =>
    intro k he
    cases he
  | succ n ih =>
    intro k he
    refine rm_aload_n dX8_eldest_2 rfl rfl ?_
    refine rm_iload_n dX8_eldest_3 rfl rfl ?_
    refine rm_iload_n dX8_eldest_4 rfl rfl ?_
    refine rm_callV (As := [.int (nI (k)), .int (nI (c))]) (st := []) dX8_eldest_5 cvX8_92 rfl rfl (by decide) (zv_cat_i [nI (k), nI (c)]) (Nat.le_of_ble_eq_true rfl) (cM_isIn d a (m := k) (c := c) (by omega)) (fun v b q => ?_)
    obtain ⟨rfl, rfl⟩ := q
    show rm_V _ _ 8 [.ref 3, .int (nI (c)), .int (nI (k))] [.int (rm_b (rm_in a k c))] _ _
    refine rm_ifB_ne (tgt := 17) dX8_eldest_8 (by decide) (fun h8 => ?_) (fun h8 => ?_)
    · refine rm_iload_n dX8_eldest_17 rfl rfl ?_
      refine rm_iret dX8_eldest_18 rfl rfl ?_
      rw [rm_fst_t (p := fun m => rm_in a m c) h8] at he
      cases he
      exact ⟨rfl, rfl⟩
    · refine rm_iinc (v := nI (k + 1)) (lv' := [.ref 3, .int (nI (c)), .int (nI (k + 1))]) dX8_eldest_11 rfl (by rw [← nI_1]; rfl) (by decide) rfl ?_
      refine rm_goto (tgt := 2) dX8_eldest_14 (by decide) ?_
      rw [rm_fst_f (p := fun m => rm_in a m c) h8] at he
      exact ih (k + 1) he
theorem cM_eldest (d : Nat) {a : zv_I} {c e : Nat} (hc : c < 6) (he : rm_fst (fun m => rm_in a m c) 8 0 = some e) : rm_V mX8_eldest (d + 1) 0 [.ref 3, .int (nI c)] [] a (rm_p (nI e) a) := by
  refine rm_iconst (v := nI (0)) dX8_eldest_0 (by decide) ?_
  refine rm_istore_n (lv' := [.ref 3, .int (nI (c)), .int (nI (0))]) dX8_eldest_1 rfl (by decide) rfl ?_
  exact cM_eldest_l d hc 8 0 he
end
section
def rm_abv (k : Nat) : Nat := if k = 1 ∨ k = 3 then 0 else k - 1
theorem cM_above (d : Nat) (a : zv_I) {k : Nat} (h0 : 0 < k) (h6 : k < 6) : rm_V mX8_above d 0 [.int (nI k)] [] a (rm_p (nI (rm_abv k)) a) := by
  refine rm_iload_n dX8_above_0 rfl rfl ?_
  refine rm_iconst (v := nI (1)) dX8_above_1 (by decide) ?_
  refine rm_icN_eq (tgt := 10) dX8_above_2 (by decide) (by omega) (by omega) (fun h2 => ?_) (fun h2 => ?_)
  · refine rm_iconst (v := nI (0)) dX8_above_10 (by decide) ?_
    refine rm_goto (tgt := 17) dX8_above_11 (by decide) ?_
    refine rm_iret dX8_above_17 rfl rfl ?_
    exact ⟨by unfold rm_abv; first | rw [if_pos (Or.inl h2)] | rw [if_pos (Or.inr h7)] | rw [if_neg (fun q => q.elim h2 h7)], rfl⟩
  · refine rm_iload_n dX8_above_5 rfl rfl ?_
    refine rm_iconst (v := nI (3)) dX8_above_6 (by decide) ?_
    refine rm_icN_ne (tgt := 14) dX8_above_7 (by decide) (by omega) (by omega) (fun h7 => ?_) (fun h7 => ?_)
    · refine rm_iload_n dX8_above_14 rfl rfl ?_
      refine rm_iconst (v := nI (1)) dX8_above_15 (by decide) ?_
      refine rm_isub dX8_above_16 ?_
      refine rm_top (y := nI (k - 1)) (pk_sub (by omega)) ?_
      refine rm_iret dX8_above_17 rfl rfl ?_
      exact ⟨by unfold rm_abv; first | rw [if_pos (Or.inl h2)] | rw [if_pos (Or.inr h7)] | rw [if_neg (fun q => q.elim h2 h7)], rfl⟩
    · refine rm_iconst (v := nI (0)) dX8_above_10 (by decide) ?_
      refine rm_goto (tgt := 17) dX8_above_11 (by decide) ?_
      refine rm_iret dX8_above_17 rfl rfl ?_
      exact ⟨by unfold rm_abv; first | rw [if_pos (Or.inl h2)] | rw [if_pos (Or.inr h7)] | rw [if_neg (fun q => q.elim h2 h7)], rfl⟩
def rm_of : Nat → Nat → Nat → Bool
  | 0, k, o => decide (k = o)
  | n + 1, k, o => if k = o ∨ k = 0 then decide (k = o) else rm_of n (rm_abv k) o
theorem rm_abv_lt {k : Nat} (h : 0 < k) : rm_abv k < k := by unfold rm_abv; split <;> omega
theorem rm_nz {k : Nat} (h : k < 2 ^ 31) (e : nI k = 0) : k = 0 := by
  have := congrArg Int32.toInt e
  rw [nI_toInt h] at this
  have h0 : (0 : Int32).toInt = 0 := by decide
  omega
theorem cM_isOf_l (d : Nat) (a : zv_I) {o k0 : Nat} (ho : o < 6) : ∀ n k, k ≤ n → k < 6 → rm_V mX8_isOf (d + 1) 2 [.int (nI k0), .int (nI o), .int (nI k)] [] a (rm_p (rm_b (rm_of n k o)) a) := by
  intro n
  induction n with
  | zero =>
    intro k hk h6
    have hk0 : k = 0 := by omega
    subst hk0
    refine rm_iload_n dX8_isOf_2 rfl rfl ?_
    refine rm_iload_n dX8_isOf_3 rfl rfl ?_
    refine rm_icN_eq (tgt := 19) dX8_isOf_4 (by decide) (by omega) (by omega) (fun h4 => ?_) (fun h4 => ?_)
    · refine rm_iload_n dX8_isOf_19 rfl rfl ?_
      refine rm_iload_n dX8_isOf_20 rfl rfl ?_
      refine rm_icN_ne (tgt := 28) dX8_isOf_21 (by decide) (by omega) (by omega) (fun h21 => ?_) (fun h21 => ?_)
      · refine rm_iconst (v := nI (0)) dX8_isOf_28 (by decide) ?_
        refine rm_iret dX8_isOf_29 rfl rfl ?_
        exact ⟨by unfold rm_of; first | (rw [decide_eq_true (by omega)]; rfl) | (rw [decide_eq_false (by omega)]; rfl), rfl⟩
      · refine rm_iconst (v := nI (1)) dX8_isOf_24 (by decide) ?_
        refine rm_goto (tgt := 29) dX8_isOf_25 (by decide) ?_
        refine rm_iret dX8_isOf_29 rfl rfl ?_
        exact ⟨by unfold rm_of; first | (rw [decide_eq_true (by omega)]; rfl) | (rw [decide_eq_false (by omega)]; rfl), rfl⟩
    · refine rm_iload_n dX8_isOf_7 rfl rfl ?_
      refine rm_if_eq (tgt := 19) dX8_isOf_8 (by decide) (fun h8 => ?_) (fun h8 => (absurd h8 (by decide)))
      refine rm_iload_n dX8_isOf_19 rfl rfl ?_
      refine rm_iload_n dX8_isOf_20 rfl rfl ?_
      refine rm_icN_ne (tgt := 28) dX8_isOf_21 (by decide) (by omega) (by omega) (fun h21 => ?_) (fun h21 => ?_)
      · refine rm_iconst (v := nI (0)) dX8_isOf_28 (by decide) ?_
        refine rm_iret dX8_isOf_29 rfl rfl ?_
        exact ⟨by unfold rm_of; first | (rw [decide_eq_true (by omega)]; rfl) | (rw [decide_eq_false (by omega)]; rfl), rfl⟩
      · refine rm_iconst (v := nI (1)) dX8_isOf_24 (by decide) ?_
        refine rm_goto (tgt := 29) dX8_isOf_25 (by decide) ?_
        refine rm_iret dX8_isOf_29 rfl rfl ?_
        exact ⟨by unfold rm_of; first | (rw [decide_eq_true (by omega)]; rfl) | (rw [decide_eq_false (by omega)]; rfl), rfl⟩
  | succ n ih =>
    intro k hk h6
    refine rm_iload_n dX8_isOf_2 rfl rfl ?_
    refine rm_iload_n dX8_isOf_3 rfl rfl ?_
    refine rm_icN_eq (tgt := 19) dX8_isOf_4 (by decide) (by omega) (by omega) (fun h4 => ?_) (fun h4 => ?_)
    · refine rm_iload_n dX8_isOf_19 rfl rfl ?_
      refine rm_iload_n dX8_isOf_20 rfl rfl ?_
      refine rm_icN_ne (tgt := 28) dX8_isOf_21 (by decide) (by omega) (by omega) (fun h21 => ?_) (fun h21 => ?_)
      · refine rm_iconst (v := nI (0)) dX8_isOf_28 (by decide) ?_
        refine rm_iret dX8_isOf_29 rfl rfl ?_
        exact ⟨by unfold rm_of; rw [if_pos (by omega)]; first | (rw [decide_eq_true (by omega)]; rfl) | (rw [decide_eq_false (by omega)]; rfl), rfl⟩
      · refine rm_iconst (v := nI (1)) dX8_isOf_24 (by decide) ?_
        refine rm_goto (tgt := 29) dX8_isOf_25 (by decide) ?_
        refine rm_iret dX8_isOf_29 rfl rfl ?_
        exact ⟨by unfold rm_of; rw [if_pos (by omega)]; first | (rw [decide_eq_true (by omega)]; rfl) | (rw [decide_eq_false (by omega)]; rfl), rfl⟩
    · refine rm_iload_n dX8_isOf_7 rfl rfl ?_
      refine rm_if_eq (tgt := 19) dX8_isOf_8 (by decide) (fun h8 => ?_) (fun h8 => ?_)
      · have h8 : k = 0 := rm_nz (by omega) h8
        refine rm_iload_n dX8_isOf_19 rfl rfl ?_
        refine rm_iload_n dX8_isOf_20 rfl rfl ?_
        refine rm_icN_ne (tgt := 28) dX8_isOf_21 (by decide) (by omega) (by omega) (fun h21 => ?_) (fun h21 => ?_)
        · refine rm_iconst (v := nI (0)) dX8_isOf_28 (by decide) ?_
          refine rm_iret dX8_isOf_29 rfl rfl ?_
          exact ⟨by unfold rm_of; rw [if_pos (by omega)]; first | (rw [decide_eq_true (by omega)]; rfl) | (rw [decide_eq_false (by omega)]; rfl), rfl⟩
        · refine rm_iconst (v := nI (1)) dX8_isOf_24 (by decide) ?_
          refine rm_goto (tgt := 29) dX8_isOf_25 (by decide) ?_
          refine rm_iret dX8_isOf_29 rfl rfl ?_
          exact ⟨by unfold rm_of; rw [if_pos (by omega)]; first | (rw [decide_eq_true (by omega)]; rfl) | (rw [decide_eq_false (by omega)]; rfl), rfl⟩
      · have h8 : k ≠ 0 := fun e => h8 (by rw [e]; rfl)
        refine rm_iload_n dX8_isOf_11 rfl rfl ?_
        refine rm_callS (As := [.int (nI (k))]) (st := []) dX8_isOf_12 csX8_96 rfl (by decide) (zv_cat_i [nI (k)]) (Nat.le_of_ble_eq_true rfl) (cM_above d a (k := k) (by omega) h6) (fun v b q => ?_)
        obtain ⟨rfl, rfl⟩ := q
        show rm_V _ _ 15 [.int (nI (k0)), .int (nI (o)), .int (nI (k))] [.int (nI (rm_abv k))] _ _
        refine rm_istore_n (lv' := [.int (nI (k0)), .int (nI (o)), .int (nI (rm_abv k))]) dX8_isOf_15 rfl (by decide) rfl ?_
        refine rm_goto (tgt := 2) dX8_isOf_16 (by decide) ?_
        rw [show rm_of (n + 1) k o = rm_of n (rm_abv k) o from if_neg (by omega)]
        have := rm_abv_lt (k := k) (by omega)
        exact ih (rm_abv k) (by omega) (by omega)
theorem cM_isOf (d : Nat) (a : zv_I) {k o : Nat} (hk : k < 6) (ho : o < 6) : rm_V mX8_isOf (d + 1) 0 [.int (nI k), .int (nI o)] [] a (rm_p (rm_b (rm_of 5 k o)) a) := by
  refine rm_iload_n dX8_isOf_0 rfl rfl ?_
  refine rm_istore_n (lv' := [.int (nI (k)), .int (nI (o)), .int (nI (k))]) dX8_isOf_1 rfl (by decide) rfl ?_
  exact cM_isOf_l d a ho 5 k (by omega) hk
def rm_lk (a : zv_I) (r l d m : Nat) : Int32 := (if nI d = a 11 l ∧ nI m = a 12 l then a 13 l - nI 1 else a 19 (48 * l + 8 * d + m)) - a 21 (48 * r + 8 * d + m)
theorem cM_lacks (d : Nat) (a : zv_I) {r l e m : Nat} (hr : r < 8) (hl : l < 200) (he : e < 6) (hm : m < 8) : rm_V mX8_lacks d 0 [.ref 3, .int (nI r), .int (nI l), .int (nI e), .int (nI m)] [] a (rm_p (rm_lk a r l e m) a) := by
  refine rm_iload_n dX8_lacks_0 rfl rfl ?_
  refine rm_aload_n dX8_lacks_1 rfl rfl ?_
  refine rm_getr 7 (t := 11) dX8_lacks_2 flX8_19 (by decide) rfl rfl ?_
  refine rm_iload_n dX8_lacks_5 rfl rfl ?_
  refine rm_iald (f := 7) (j := l) (x := (a 11 (l))) dX8_lacks_6 rfl (by decide) rfl rfl (rfl) (show l < 200 from by omega) (rfl) ?_
  refine rm_icmp_ne (tgt := 25) dX8_lacks_7 (by decide) (fun h7 => ?_) (fun h7 => ?_)
  · refine rm_iconst (v := nI (0)) dX8_lacks_25 (by decide) ?_
    refine rm_istore (lv' := [.ref 3, .int (nI (r)), .int (nI (l)), .int (nI (e)), .int (nI (m)), .int (nI (0))]) dX8_lacks_26 (by decide) rfl ?_
    refine rm_iload dX8_lacks_28 rfl ?_
    refine rm_if_eq (tgt := 44) dX8_lacks_30 (by decide) (fun h30 => ?_) (fun h30 => (absurd h30 (by decide)))
    refine rm_aload_n dX8_lacks_44 rfl rfl ?_
    refine rm_getr 15 (t := 19) dX8_lacks_45 flX8_43 (by decide) rfl rfl ?_
    refine rm_bipush (v := nI (48)) dX8_lacks_48 (by decide) ?_
    refine rm_iload_n dX8_lacks_50 rfl rfl ?_
    refine rm_imul dX8_lacks_51 ?_
    refine rm_top (pk_mul (48) (l)) ?_
    refine rm_bipush (v := nI (8)) dX8_lacks_52 (by decide) ?_
    refine rm_iload_n dX8_lacks_54 rfl rfl ?_
    refine rm_imul dX8_lacks_55 ?_
    refine rm_top (pk_mul (8) (e)) ?_
    refine rm_iadd dX8_lacks_56 ?_
    refine rm_top (nI_add (48 * l) (8 * e)) ?_
    refine rm_iload dX8_lacks_57 rfl ?_
    refine rm_iadd dX8_lacks_59 ?_
    refine rm_top (nI_add (48 * l + (8 * e)) (m)) ?_
    refine rm_iald (f := 15) (j := 48 * l + (8 * e) + m) (x := (a 19 (48 * l + (8 * e) + m))) dX8_lacks_60 rfl (by decide) rfl rfl (rfl) (show 48 * l + (8 * e) + m < 9600 from by omega) (rfl) ?_
    refine rm_aload_n dX8_lacks_61 rfl rfl ?_
    refine rm_getr 17 (t := 21) dX8_lacks_62 flX8_49 (by decide) rfl rfl ?_
    refine rm_bipush (v := nI (48)) dX8_lacks_65 (by decide) ?_
    refine rm_iload_n dX8_lacks_67 rfl rfl ?_
    refine rm_imul dX8_lacks_68 ?_
    refine rm_top (pk_mul (48) (r)) ?_
    refine rm_bipush (v := nI (8)) dX8_lacks_69 (by decide) ?_
    refine rm_iload_n dX8_lacks_71 rfl rfl ?_
    refine rm_imul dX8_lacks_72 ?_
    refine rm_top (pk_mul (8) (e)) ?_
    refine rm_iadd dX8_lacks_73 ?_
    refine rm_top (nI_add (48 * r) (8 * e)) ?_
    refine rm_iload dX8_lacks_74 rfl ?_
    refine rm_iadd dX8_lacks_76 ?_
    refine rm_top (nI_add (48 * r + (8 * e)) (m)) ?_
    refine rm_iald (f := 17) (j := 48 * r + (8 * e) + m) (x := (a 21 (48 * r + (8 * e) + m))) dX8_lacks_77 rfl (by decide) rfl rfl (rfl) (show 48 * r + (8 * e) + m < 384 from by omega) (rfl) ?_
    refine rm_isub dX8_lacks_78 ?_
    refine rm_iret dX8_lacks_79 rfl rfl ?_
    exact ⟨by unfold rm_lk; rw [if_neg (fun q => h7 q.1)], rfl⟩
  · refine rm_iload dX8_lacks_10 rfl ?_
    refine rm_aload_n dX8_lacks_12 rfl rfl ?_
    refine rm_getr 8 (t := 12) dX8_lacks_13 flX8_22 (by decide) rfl rfl ?_
    refine rm_iload_n dX8_lacks_16 rfl rfl ?_
    refine rm_iald (f := 8) (j := l) (x := (a 12 (l))) dX8_lacks_17 rfl (by decide) rfl rfl (rfl) (show l < 200 from by omega) (rfl) ?_
    refine rm_icmp_ne (tgt := 25) dX8_lacks_18 (by decide) (fun h18 => ?_) (fun h18 => ?_)
    · refine rm_iconst (v := nI (0)) dX8_lacks_25 (by decide) ?_
      refine rm_istore (lv' := [.ref 3, .int (nI (r)), .int (nI (l)), .int (nI (e)), .int (nI (m)), .int (nI (0))]) dX8_lacks_26 (by decide) rfl ?_
      refine rm_iload dX8_lacks_28 rfl ?_
      refine rm_if_eq (tgt := 44) dX8_lacks_30 (by decide) (fun h30 => ?_) (fun h30 => (absurd h30 (by decide)))
      refine rm_aload_n dX8_lacks_44 rfl rfl ?_
      refine rm_getr 15 (t := 19) dX8_lacks_45 flX8_43 (by decide) rfl rfl ?_
      refine rm_bipush (v := nI (48)) dX8_lacks_48 (by decide) ?_
      refine rm_iload_n dX8_lacks_50 rfl rfl ?_
      refine rm_imul dX8_lacks_51 ?_
      refine rm_top (pk_mul (48) (l)) ?_
      refine rm_bipush (v := nI (8)) dX8_lacks_52 (by decide) ?_
      refine rm_iload_n dX8_lacks_54 rfl rfl ?_
      refine rm_imul dX8_lacks_55 ?_
      refine rm_top (pk_mul (8) (e)) ?_
      refine rm_iadd dX8_lacks_56 ?_
      refine rm_top (nI_add (48 * l) (8 * e)) ?_
      refine rm_iload dX8_lacks_57 rfl ?_
      refine rm_iadd dX8_lacks_59 ?_
      refine rm_top (nI_add (48 * l + (8 * e)) (m)) ?_
      refine rm_iald (f := 15) (j := 48 * l + (8 * e) + m) (x := (a 19 (48 * l + (8 * e) + m))) dX8_lacks_60 rfl (by decide) rfl rfl (rfl) (show 48 * l + (8 * e) + m < 9600 from by omega) (rfl) ?_
      refine rm_aload_n dX8_lacks_61 rfl rfl ?_
      refine rm_getr 17 (t := 21) dX8_lacks_62 flX8_49 (by decide) rfl rfl ?_
      refine rm_bipush (v := nI (48)) dX8_lacks_65 (by decide) ?_
      refine rm_iload_n dX8_lacks_67 rfl rfl ?_
      refine rm_imul dX8_lacks_68 ?_
      refine rm_top (pk_mul (48) (r)) ?_
      refine rm_bipush (v := nI (8)) dX8_lacks_69 (by decide) ?_
      refine rm_iload_n dX8_lacks_71 rfl rfl ?_
      refine rm_imul dX8_lacks_72 ?_
      refine rm_top (pk_mul (8) (e)) ?_
      refine rm_iadd dX8_lacks_73 ?_
      refine rm_top (nI_add (48 * r) (8 * e)) ?_
      refine rm_iload dX8_lacks_74 rfl ?_
      refine rm_iadd dX8_lacks_76 ?_
      refine rm_top (nI_add (48 * r + (8 * e)) (m)) ?_
      refine rm_iald (f := 17) (j := 48 * r + (8 * e) + m) (x := (a 21 (48 * r + (8 * e) + m))) dX8_lacks_77 rfl (by decide) rfl rfl (rfl) (show 48 * r + (8 * e) + m < 384 from by omega) (rfl) ?_
      refine rm_isub dX8_lacks_78 ?_
      refine rm_iret dX8_lacks_79 rfl rfl ?_
      exact ⟨by unfold rm_lk; rw [if_neg (fun q => h18 q.2)], rfl⟩
    · refine rm_iconst (v := nI (1)) dX8_lacks_21 (by decide) ?_
      refine rm_goto (tgt := 26) dX8_lacks_22 (by decide) ?_
      refine rm_istore (lv' := [.ref 3, .int (nI (r)), .int (nI (l)), .int (nI (e)), .int (nI (m)), .int (nI (1))]) dX8_lacks_26 (by decide) rfl ?_
      refine rm_iload dX8_lacks_28 rfl ?_
      refine rm_if_eq (tgt := 44) dX8_lacks_30 (by decide) (fun h30 => (absurd h30 (by decide))) (fun h30 => ?_)
      refine rm_aload_n dX8_lacks_33 rfl rfl ?_
      refine rm_getr 9 (t := 13) dX8_lacks_34 flX8_25 (by decide) rfl rfl ?_
      refine rm_iload_n dX8_lacks_37 rfl rfl ?_
      refine rm_iald (f := 9) (j := l) (x := (a 13 (l))) dX8_lacks_38 rfl (by decide) rfl rfl (rfl) (show l < 200 from by omega) (rfl) ?_
      refine rm_iconst (v := nI (1)) dX8_lacks_39 (by decide) ?_
      refine rm_isub dX8_lacks_40 ?_
      refine rm_goto (tgt := 61) dX8_lacks_41 (by decide) ?_
      refine rm_aload_n dX8_lacks_61 rfl rfl ?_
      refine rm_getr 17 (t := 21) dX8_lacks_62 flX8_49 (by decide) rfl rfl ?_
      refine rm_bipush (v := nI (48)) dX8_lacks_65 (by decide) ?_
      refine rm_iload_n dX8_lacks_67 rfl rfl ?_
      refine rm_imul dX8_lacks_68 ?_
      refine rm_top (pk_mul (48) (r)) ?_
      refine rm_bipush (v := nI (8)) dX8_lacks_69 (by decide) ?_
      refine rm_iload_n dX8_lacks_71 rfl rfl ?_
      refine rm_imul dX8_lacks_72 ?_
      refine rm_top (pk_mul (8) (e)) ?_
      refine rm_iadd dX8_lacks_73 ?_
      refine rm_top (nI_add (48 * r) (8 * e)) ?_
      refine rm_iload dX8_lacks_74 rfl ?_
      refine rm_iadd dX8_lacks_76 ?_
      refine rm_top (nI_add (48 * r + (8 * e)) (m)) ?_
      refine rm_iald (f := 17) (j := 48 * r + (8 * e) + m) (x := (a 21 (48 * r + (8 * e) + m))) dX8_lacks_77 rfl (by decide) rfl rfl (rfl) (show 48 * r + (8 * e) + m < 384 from by omega) (rfl) ?_
      refine rm_isub dX8_lacks_78 ?_
      refine rm_iret dX8_lacks_79 rfl rfl ?_
      exact ⟨by unfold rm_lk; rw [if_pos ⟨h7, h18⟩], rfl⟩
def rm_row (a : zv_I) (l d : Nat) : Bool := decide (((a 18 l) >>> ((nI d) &&& 31)) &&& (nI 1) = nI 1)
def rm_ask (a : zv_I) (r l k : Nat) : Bool := rm_row a l (k / 8) && (rm_in a r (k / 8) && rm_in a (k % 8) (k / 8))
def rm_lkp (a : zv_I) (r l k : Nat) : Bool := rm_ask a r l k && decide (0 < rm_lk a r l (k / 8) (k % 8))
def rm_lkg (a : zv_I) (nc r l : Nat) : Option Nat := rm_fst (rm_lkp a r l) (8 * nc) 0
theorem rm_lkp_f {a : zv_I} {r l k : Nat} (h : rm_row a l (k / 8) = false ∨ rm_in a r (k / 8) = false ∨ rm_in a (k % 8) (k / 8) = false ∨ ¬ 0 < rm_lk a r l (k / 8) (k % 8) ∨ rm_lk a r l (k / 8) (k % 8) ≤ 0) : rm_lkp a r l k = false := by
  unfold rm_lkp rm_ask
  rcases h with h | h | h | h | h
  · rw [h]; rfl
  · rw [h]; cases rm_row a l (k / 8) <;> rfl
  · rw [h]; cases rm_row a l (k / 8) <;> cases rm_in a r (k / 8) <;> rfl
  · rw [decide_eq_false h]; exact Bool.and_false _
  · rw [decide_eq_false (Int32.not_lt.mpr h)]; exact Bool.and_false _
theorem rm_lkp_t {a : zv_I} {r l k : Nat} (h1 : rm_row a l (k / 8) = true) (h2 : rm_in a r (k / 8) = true) (h3 : rm_in a (k % 8) (k / 8) = true) (h4 : ¬ rm_lk a r l (k / 8) (k % 8) ≤ 0) : rm_lkp a r l k = true := by
  unfold rm_lkp rm_ask
  rw [h1, h2, h3, decide_eq_true (Int32.not_le.mp h4)]
  rfl
theorem cM_lacking_l (d : Nat) {a : zv_I} {nc r l : Nat} (hc : a 3 1 = nI nc) (hb : nc ≤ 6) (hr : r < 8) (hl : l < 200) : ∀ n k, k + n = 8 * nc → ∀ rest, rm_V mX8_lacking (d + 2) 2 ([.ref 3, .int (nI r), .int (nI l), .int (nI k)] ++ rest) [] a (rm_p (rm_o (rm_fst (rm_lkp a r l) n k)) a) := by
  intro n
  induction n with
  | zero =>
    intro k hk rest
    refine rm_less ⟨rest, rfl⟩ ?_
    refine rm_iload_n dX8_lacking_2 rfl rfl ?_
    refine rm_bipush (v := nI (8)) dX8_lacking_3 (by decide) ?_
    refine rm_aload_n dX8_lacking_5 rfl rfl ?_
    refine rm_geti 1 (x := nI (nc)) dX8_lacking_6 flX8_86 rfl (hc) ?_
    refine rm_imul dX8_lacking_9 ?_
    refine rm_top (pk_mul (8) (nc)) ?_
    refine rm_icN_ge (tgt := 92) dX8_lacking_10 (by decide) (by omega) (by omega) (fun h10 => ?_) (fun h10 => (absurd h10 (by omega)))
    refine rm_iconst (v := (-1 : Int32)) dX8_lacking_92 (by decide) ?_
    refine rm_iret dX8_lacking_93 rfl rfl ?_
    exact ⟨rfl, rfl⟩
  | succ n ih =>
    intro k hk rest
    refine rm_less ⟨rest, rfl⟩ ?_
    refine rm_iload_n dX8_lacking_2 rfl rfl ?_
    refine rm_bipush (v := nI (8)) dX8_lacking_3 (by decide) ?_
    refine rm_aload_n dX8_lacking_5 rfl rfl ?_
    refine rm_geti 1 (x := nI (nc)) dX8_lacking_6 flX8_86 rfl (hc) ?_
    refine rm_imul dX8_lacking_9 ?_
    refine rm_top (pk_mul (8) (nc)) ?_
    refine rm_icN_ge (tgt := 92) dX8_lacking_10 (by decide) (by omega) (by omega) (fun h10 => (absurd h10 (by omega))) (fun h10 => ?_)
    refine rm_iload_n dX8_lacking_13 rfl rfl ?_
    refine rm_bipush (v := nI (8)) dX8_lacking_14 (by decide) ?_
    refine rm_idiv dX8_lacking_16 (by decide) ?_
    refine rm_top (pk_div (a := k) (d := 8) (by omega) (by decide) (by decide)) ?_
    refine rm_istore (lv' := [.ref 3, .int (nI (r)), .int (nI (l)), .int (nI (k)), .int (nI (k / 8))]) dX8_lacking_17 (by decide) rfl ?_
    refine rm_aload_n dX8_lacking_19 rfl rfl ?_
    refine rm_getr 14 (t := 18) dX8_lacking_20 flX8_40 (by decide) rfl rfl ?_
    refine rm_iload_n dX8_lacking_23 rfl rfl ?_
    refine rm_iald (f := 14) (j := l) (x := (a 18 (l))) dX8_lacking_24 rfl (by decide) rfl rfl (rfl) (show l < 200 from by omega) (rfl) ?_
    refine rm_iload dX8_lacking_25 rfl ?_
    refine rm_ishr dX8_lacking_27 ?_
    refine rm_iconst (v := nI (1)) dX8_lacking_28 (by decide) ?_
    refine rm_iand dX8_lacking_29 ?_
    refine rm_iconst (v := nI (1)) dX8_lacking_30 (by decide) ?_
    refine rm_icmp_ne (tgt := 61) dX8_lacking_31 (by decide) (fun h31 => ?_) (fun h31 => ?_)
    · refine rm_iconst (v := nI (0)) dX8_lacking_61 (by decide) ?_
      refine rm_istore (lv' := [.ref 3, .int (nI (r)), .int (nI (l)), .int (nI (k)), .int (nI (k / 8)), .int (nI (0))]) dX8_lacking_62 (by decide) rfl ?_
      refine rm_iload dX8_lacking_64 rfl ?_
      refine rm_if_eq (tgt := 86) dX8_lacking_66 (by decide) (fun h66 => ?_) (fun h66 => (absurd h66 (by decide)))
      refine rm_iinc (v := nI (k + 1)) (lv' := [.ref 3, .int (nI (r)), .int (nI (l)), .int (nI (k + 1)), .int (nI (k / 8)), .int (nI (0))]) dX8_lacking_86 rfl (by rw [← nI_1]; rfl) (by decide) rfl ?_
      refine rm_goto (tgt := 2) dX8_lacking_89 (by decide) ?_
      rw [rm_fst_f (p := rm_lkp a r l) (rm_lkp_f (by first | exact Or.inl (decide_eq_false h31) | exact Or.inr (Or.inl h41) | exact Or.inr (Or.inr (Or.inl h54)) | exact Or.inr (Or.inr (Or.inr (Or.inr h81)))))]
      exact ih (k + 1) (by omega) [.int (nI (k / 8)), .int (nI (0))]
    · refine rm_aload_n dX8_lacking_34 rfl rfl ?_
      refine rm_iload_n dX8_lacking_35 rfl rfl ?_
      refine rm_iload dX8_lacking_36 rfl ?_
      refine rm_callV (As := [.int (nI (r)), .int (nI (k / 8))]) (st := []) dX8_lacking_38 cvX8_92 rfl rfl (by decide) (zv_cat_i [nI (r), nI (k / 8)]) (Nat.le_of_ble_eq_true rfl) (cM_isIn (d + 1) a (m := r) (c := k / 8) (by omega)) (fun v b q => ?_)
      obtain ⟨rfl, rfl⟩ := q
      show rm_V _ _ 41 [.ref 3, .int (nI (r)), .int (nI (l)), .int (nI (k)), .int (nI (k / 8))] [.int (rm_b (rm_in a r (k / 8)))] _ _
      refine rm_ifB_eq (tgt := 61) dX8_lacking_41 (by decide) (fun h41 => ?_) (fun h41 => ?_)
      · refine rm_iconst (v := nI (0)) dX8_lacking_61 (by decide) ?_
        refine rm_istore (lv' := [.ref 3, .int (nI (r)), .int (nI (l)), .int (nI (k)), .int (nI (k / 8)), .int (nI (0))]) dX8_lacking_62 (by decide) rfl ?_
        refine rm_iload dX8_lacking_64 rfl ?_
        refine rm_if_eq (tgt := 86) dX8_lacking_66 (by decide) (fun h66 => ?_) (fun h66 => (absurd h66 (by decide)))
        refine rm_iinc (v := nI (k + 1)) (lv' := [.ref 3, .int (nI (r)), .int (nI (l)), .int (nI (k + 1)), .int (nI (k / 8)), .int (nI (0))]) dX8_lacking_86 rfl (by rw [← nI_1]; rfl) (by decide) rfl ?_
        refine rm_goto (tgt := 2) dX8_lacking_89 (by decide) ?_
        rw [rm_fst_f (p := rm_lkp a r l) (rm_lkp_f (by first | exact Or.inl (decide_eq_false h31) | exact Or.inr (Or.inl h41) | exact Or.inr (Or.inr (Or.inl h54)) | exact Or.inr (Or.inr (Or.inr (Or.inr h81)))))]
        exact ih (k + 1) (by omega) [.int (nI (k / 8)), .int (nI (0))]
      · refine rm_aload_n dX8_lacking_44 rfl rfl ?_
        refine rm_iload_n dX8_lacking_45 rfl rfl ?_
        refine rm_bipush (v := nI (8)) dX8_lacking_46 (by decide) ?_
        refine rm_irem dX8_lacking_48 (by decide) ?_
        refine rm_top (pk_rem (a := k) (d := 8) (by omega) (by decide) (by decide)) ?_
        refine rm_iload dX8_lacking_49 rfl ?_
        refine rm_callV (As := [.int (nI (k % 8)), .int (nI (k / 8))]) (st := []) dX8_lacking_51 cvX8_92 rfl rfl (by decide) (zv_cat_i [nI (k % 8), nI (k / 8)]) (Nat.le_of_ble_eq_true rfl) (cM_isIn (d + 1) a (m := k % 8) (c := k / 8) (by omega)) (fun v b q => ?_)
        obtain ⟨rfl, rfl⟩ := q
        show rm_V _ _ 54 [.ref 3, .int (nI (r)), .int (nI (l)), .int (nI (k)), .int (nI (k / 8))] [.int (rm_b (rm_in a (k % 8) (k / 8)))] _ _
        refine rm_ifB_eq (tgt := 61) dX8_lacking_54 (by decide) (fun h54 => ?_) (fun h54 => ?_)
        · refine rm_iconst (v := nI (0)) dX8_lacking_61 (by decide) ?_
          refine rm_istore (lv' := [.ref 3, .int (nI (r)), .int (nI (l)), .int (nI (k)), .int (nI (k / 8)), .int (nI (0))]) dX8_lacking_62 (by decide) rfl ?_
          refine rm_iload dX8_lacking_64 rfl ?_
          refine rm_if_eq (tgt := 86) dX8_lacking_66 (by decide) (fun h66 => ?_) (fun h66 => (absurd h66 (by decide)))
          refine rm_iinc (v := nI (k + 1)) (lv' := [.ref 3, .int (nI (r)), .int (nI (l)), .int (nI (k + 1)), .int (nI (k / 8)), .int (nI (0))]) dX8_lacking_86 rfl (by rw [← nI_1]; rfl) (by decide) rfl ?_
          refine rm_goto (tgt := 2) dX8_lacking_89 (by decide) ?_
          rw [rm_fst_f (p := rm_lkp a r l) (rm_lkp_f (by first | exact Or.inl (decide_eq_false h31) | exact Or.inr (Or.inl h41) | exact Or.inr (Or.inr (Or.inl h54)) | exact Or.inr (Or.inr (Or.inr (Or.inr h81)))))]
          exact ih (k + 1) (by omega) [.int (nI (k / 8)), .int (nI (0))]
        · refine rm_iconst (v := nI (1)) dX8_lacking_57 (by decide) ?_
          refine rm_goto (tgt := 62) dX8_lacking_58 (by decide) ?_
          refine rm_istore (lv' := [.ref 3, .int (nI (r)), .int (nI (l)), .int (nI (k)), .int (nI (k / 8)), .int (nI (1))]) dX8_lacking_62 (by decide) rfl ?_
          refine rm_iload dX8_lacking_64 rfl ?_
          refine rm_if_eq (tgt := 86) dX8_lacking_66 (by decide) (fun h66 => (absurd h66 (by decide))) (fun h66 => ?_)
          refine rm_aload_n dX8_lacking_69 rfl rfl ?_
          refine rm_iload_n dX8_lacking_70 rfl rfl ?_
          refine rm_iload_n dX8_lacking_71 rfl rfl ?_
          refine rm_iload dX8_lacking_72 rfl ?_
          refine rm_iload_n dX8_lacking_74 rfl rfl ?_
          refine rm_bipush (v := nI (8)) dX8_lacking_75 (by decide) ?_
          refine rm_irem dX8_lacking_77 (by decide) ?_
          refine rm_top (pk_rem (a := k) (d := 8) (by omega) (by decide) (by decide)) ?_
          refine rm_callV (As := [.int (nI (r)), .int (nI (l)), .int (nI (k / 8)), .int (nI (k % 8))]) (st := []) dX8_lacking_78 cvX8_145 rfl rfl (by decide) (zv_cat_i [nI (r), nI (l), nI (k / 8), nI (k % 8)]) (Nat.le_of_ble_eq_true rfl) (cM_lacks (d + 1) a (r := r) (l := l) (e := k / 8) (m := k % 8) hr hl (by omega) (by omega)) (fun v b q => ?_)
          obtain ⟨rfl, rfl⟩ := q
          show rm_V _ _ 81 [.ref 3, .int (nI (r)), .int (nI (l)), .int (nI (k)), .int (nI (k / 8)), .int (nI (1))] [.int (rm_lk a r l (k / 8) (k % 8))] _ _
          refine rm_if_le (tgt := 86) dX8_lacking_81 (by decide) (fun h81 => ?_) (fun h81 => ?_)
          · refine rm_iinc (v := nI (k + 1)) (lv' := [.ref 3, .int (nI (r)), .int (nI (l)), .int (nI (k + 1)), .int (nI (k / 8)), .int (nI (1))]) dX8_lacking_86 rfl (by rw [← nI_1]; rfl) (by decide) rfl ?_
            refine rm_goto (tgt := 2) dX8_lacking_89 (by decide) ?_
            rw [rm_fst_f (p := rm_lkp a r l) (rm_lkp_f (by first | exact Or.inl (decide_eq_false h31) | exact Or.inr (Or.inl h41) | exact Or.inr (Or.inr (Or.inl h54)) | exact Or.inr (Or.inr (Or.inr (Or.inr h81)))))]
            exact ih (k + 1) (by omega) [.int (nI (k / 8)), .int (nI (1))]
          · refine rm_iload_n dX8_lacking_84 rfl rfl ?_
            refine rm_iret dX8_lacking_85 rfl rfl ?_
            exact ⟨by rw [rm_fst_t (p := rm_lkp a r l) (rm_lkp_t (decide_eq_true h31) h41 h54 h81)]; rfl, rfl⟩
theorem cM_lacking (d : Nat) {a : zv_I} {nc r l : Nat} (hc : a 3 1 = nI nc) (hb : nc ≤ 6) (hr : r < 8) (hl : l < 200) : rm_V mX8_lacking (d + 2) 0 [.ref 3, .int (nI r), .int (nI l)] [] a (rm_p (rm_o (rm_lkg a nc r l)) a) := by
  refine rm_iconst (v := nI (0)) dX8_lacking_0 (by decide) ?_
  refine rm_istore_n (lv' := [.ref 3, .int (nI (r)), .int (nI (l)), .int (nI (0))]) dX8_lacking_1 rfl (by decide) rfl ?_
  exact cM_lacking_l d hc hb hr hl (8 * nc) 0 (by omega) []
end
section
def rm_nv (x : Int32) : Nat := x.toNatClampNeg
def rm_ci (a : zv_I) (l : Nat) : Nat := rm_nv (a 11 l)
def rm_wr (a : zv_I) (l : Nat) : Nat := rm_nv (a 12 l)
def rm_or (a : zv_I) (l : Nat) : Nat := rm_nv (a 16 l)
def rm_el (a : zv_I) (c : Nat) : Nat := (rm_fst (fun m => rm_in a m c) 8 0).getD 8
def rm_es (a : zv_I) (c : Nat) : Prop := rm_fst (fun m => rm_in a m c) 8 0 = some (rm_el a c)
theorem rm_es_lt {a : zv_I} {c : Nat} (h : rm_es a c) : rm_el a c < 8 := by have := (rm_fst_some h).2.1; omega
/-- a letter's rows can be used: its circle, its order -/
def rm_lw (a : zv_I) (nc l : Nat) : Prop := a 11 l = nI (rm_ci a l) ∧ rm_ci a l < nc ∧ rm_es a (rm_ci a l) ∧ (¬ a 16 l = -1 → a 16 l = nI (rm_or a l) ∧ rm_or a l < 200)
def rm_hor (a : zv_I) (r l : Nat) : Bool := decide (a 12 l = nI (rm_el a (rm_ci a l)) ∧ ¬ a 15 l = -1) || decide (¬ a 16 l = -1 ∧ a 20 (200 * r + rm_or a l) = nI 3)
theorem cM_hasOrder (d : Nat) {a : zv_I} {nc r l : Nat} (hb : nc ≤ 6) (hr : r < 8) (h2 : l < 200) (hl : rm_lw a nc l) : rm_V mX8_hasOrder (d + 2) 0 [.ref 3, .int (nI r), .int (nI l)] [] a (rm_p (rm_b (rm_hor a r l)) a) := by
  refine rm_aload_n dX8_hasOrder_0 rfl rfl ?_
  refine rm_getr 8 (t := 12) dX8_hasOrder_1 flX8_22 (by decide) rfl rfl ?_
  refine rm_iload_n dX8_hasOrder_4 rfl rfl ?_
  refine rm_iald (f := 8) (j := l) (x := (a 12 (l))) dX8_hasOrder_5 rfl (by decide) rfl rfl (rfl) (show l < 200 from by omega) (rfl) ?_
  refine rm_aload_n dX8_hasOrder_6 rfl rfl ?_
  refine rm_aload_n dX8_hasOrder_7 rfl rfl ?_
  refine rm_getr 7 (t := 11) dX8_hasOrder_8 flX8_19 (by decide) rfl rfl ?_
  refine rm_iload_n dX8_hasOrder_11 rfl rfl ?_
  refine rm_iald (f := 7) (j := l) (x := nI (rm_ci a l)) dX8_hasOrder_12 rfl (by decide) rfl rfl (rfl) (show l < 200 from by omega) (hl.1) ?_
  refine rm_callV (As := [.int (nI (rm_ci a l))]) (st := [.int ((a 12 (l)))]) dX8_hasOrder_13 cvX8_148 rfl rfl (by decide) (zv_cat_i [nI (rm_ci a l)]) (Nat.le_of_ble_eq_true rfl) (cM_eldest d (a := a) (c := rm_ci a l) (e := rm_el a (rm_ci a l)) (by have := hl.2.1; omega) hl.2.2.1) (fun v b q => ?_)
  obtain ⟨rfl, rfl⟩ := q
  show rm_V _ _ 16 [.ref 3, .int (nI (r)), .int (nI (l))] [.int (nI (rm_el a (rm_ci a l))), .int ((a 12 (l)))] _ _
  refine rm_icmp_ne (tgt := 33) dX8_hasOrder_16 (by decide) (fun h16 => ?_) (fun h16 => ?_)
  · refine rm_iconst (v := nI (0)) dX8_hasOrder_33 (by decide) ?_
    refine rm_istore_n (lv' := [.ref 3, .int (nI (r)), .int (nI (l)), .int (nI (0))]) dX8_hasOrder_34 rfl (by decide) rfl ?_
    refine rm_iload_n dX8_hasOrder_35 rfl rfl ?_
    refine rm_if_ne (tgt := 70) dX8_hasOrder_36 (by decide) (fun h36 => (absurd h36 (by decide))) (fun h36 => ?_)
    refine rm_aload_n dX8_hasOrder_39 rfl rfl ?_
    refine rm_getr 12 (t := 16) dX8_hasOrder_40 flX8_34 (by decide) rfl rfl ?_
    refine rm_iload_n dX8_hasOrder_43 rfl rfl ?_
    refine rm_iald (f := 12) (j := l) (x := (a 16 (l))) dX8_hasOrder_44 rfl (by decide) rfl rfl (rfl) (show l < 200 from by omega) (rfl) ?_
    refine rm_iconst (v := (-1 : Int32)) dX8_hasOrder_45 (by decide) ?_
    refine rm_icmp_eq (tgt := 74) dX8_hasOrder_46 (by decide) (fun h46 => ?_) (fun h46 => ?_)
    · refine rm_iconst (v := nI (0)) dX8_hasOrder_74 (by decide) ?_
      refine rm_iret dX8_hasOrder_75 rfl rfl ?_
      exact ⟨by unfold rm_hor; rw [show decide (a 12 l = nI (rm_el a (rm_ci a l)) ∧ ¬ a 15 l = -1) = false from decide_eq_false (fun q => h16 q.1), show decide (¬ a 16 l = -1 ∧ a 20 (200 * r + rm_or a l) = nI 3) = false from decide_eq_false (fun q => q.1 h46)]; rfl, rfl⟩
    · refine rm_aload_n dX8_hasOrder_49 rfl rfl ?_
      refine rm_getr 16 (t := 20) dX8_hasOrder_50 flX8_46 (by decide) rfl rfl ?_
      refine rm_sipush (v := nI (200)) dX8_hasOrder_53 (by decide) ?_
      refine rm_iload_n dX8_hasOrder_56 rfl rfl ?_
      refine rm_imul dX8_hasOrder_57 ?_
      refine rm_top (pk_mul (200) (r)) ?_
      refine rm_aload_n dX8_hasOrder_58 rfl rfl ?_
      refine rm_getr 12 (t := 16) dX8_hasOrder_59 flX8_34 (by decide) rfl rfl ?_
      refine rm_iload_n dX8_hasOrder_62 rfl rfl ?_
      refine rm_iald (f := 12) (j := l) (x := nI (rm_or a l)) dX8_hasOrder_63 rfl (by decide) rfl rfl (rfl) (show l < 200 from by omega) ((hl.2.2.2 h46).1) ?_
      refine rm_iadd dX8_hasOrder_64 ?_
      refine rm_top (nI_add (200 * r) (rm_or a l)) ?_
      refine rm_iald (f := 16) (j := 200 * r + (rm_or a l)) (x := (a 20 (200 * r + (rm_or a l)))) dX8_hasOrder_65 rfl (by decide) rfl rfl (rfl) (show 200 * r + (rm_or a l) < 1600 from by have := (hl.2.2.2 h46).2; omega) (rfl) ?_
      refine rm_iconst (v := nI (3)) dX8_hasOrder_66 (by decide) ?_
      refine rm_icmp_ne (tgt := 74) dX8_hasOrder_67 (by decide) (fun h67 => ?_) (fun h67 => ?_)
      · refine rm_iconst (v := nI (0)) dX8_hasOrder_74 (by decide) ?_
        refine rm_iret dX8_hasOrder_75 rfl rfl ?_
        exact ⟨by unfold rm_hor; rw [show decide (a 12 l = nI (rm_el a (rm_ci a l)) ∧ ¬ a 15 l = -1) = false from decide_eq_false (fun q => h16 q.1), show decide (¬ a 16 l = -1 ∧ a 20 (200 * r + rm_or a l) = nI 3) = false from decide_eq_false (fun q => h67 q.2)]; rfl, rfl⟩
      · refine rm_iconst (v := nI (1)) dX8_hasOrder_70 (by decide) ?_
        refine rm_goto (tgt := 75) dX8_hasOrder_71 (by decide) ?_
        refine rm_iret dX8_hasOrder_75 rfl rfl ?_
        exact ⟨by unfold rm_hor; rw [show decide (a 12 l = nI (rm_el a (rm_ci a l)) ∧ ¬ a 15 l = -1) = false from decide_eq_false (fun q => h16 q.1), show decide (¬ a 16 l = -1 ∧ a 20 (200 * r + rm_or a l) = nI 3) = true from decide_eq_true ⟨h46, h67⟩]; rfl, rfl⟩
  · refine rm_aload_n dX8_hasOrder_19 rfl rfl ?_
    refine rm_getr 11 (t := 15) dX8_hasOrder_20 flX8_31 (by decide) rfl rfl ?_
    refine rm_iload_n dX8_hasOrder_23 rfl rfl ?_
    refine rm_iald (f := 11) (j := l) (x := (a 15 (l))) dX8_hasOrder_24 rfl (by decide) rfl rfl (rfl) (show l < 200 from by omega) (rfl) ?_
    refine rm_iconst (v := (-1 : Int32)) dX8_hasOrder_25 (by decide) ?_
    refine rm_icmp_eq (tgt := 33) dX8_hasOrder_26 (by decide) (fun h26 => ?_) (fun h26 => ?_)
    · refine rm_iconst (v := nI (0)) dX8_hasOrder_33 (by decide) ?_
      refine rm_istore_n (lv' := [.ref 3, .int (nI (r)), .int (nI (l)), .int (nI (0))]) dX8_hasOrder_34 rfl (by decide) rfl ?_
      refine rm_iload_n dX8_hasOrder_35 rfl rfl ?_
      refine rm_if_ne (tgt := 70) dX8_hasOrder_36 (by decide) (fun h36 => (absurd h36 (by decide))) (fun h36 => ?_)
      refine rm_aload_n dX8_hasOrder_39 rfl rfl ?_
      refine rm_getr 12 (t := 16) dX8_hasOrder_40 flX8_34 (by decide) rfl rfl ?_
      refine rm_iload_n dX8_hasOrder_43 rfl rfl ?_
      refine rm_iald (f := 12) (j := l) (x := (a 16 (l))) dX8_hasOrder_44 rfl (by decide) rfl rfl (rfl) (show l < 200 from by omega) (rfl) ?_
      refine rm_iconst (v := (-1 : Int32)) dX8_hasOrder_45 (by decide) ?_
      refine rm_icmp_eq (tgt := 74) dX8_hasOrder_46 (by decide) (fun h46 => ?_) (fun h46 => ?_)
      · refine rm_iconst (v := nI (0)) dX8_hasOrder_74 (by decide) ?_
        refine rm_iret dX8_hasOrder_75 rfl rfl ?_
        exact ⟨by unfold rm_hor; rw [show decide (a 12 l = nI (rm_el a (rm_ci a l)) ∧ ¬ a 15 l = -1) = false from decide_eq_false (fun q => q.2 h26), show decide (¬ a 16 l = -1 ∧ a 20 (200 * r + rm_or a l) = nI 3) = false from decide_eq_false (fun q => q.1 h46)]; rfl, rfl⟩
      · refine rm_aload_n dX8_hasOrder_49 rfl rfl ?_
        refine rm_getr 16 (t := 20) dX8_hasOrder_50 flX8_46 (by decide) rfl rfl ?_
        refine rm_sipush (v := nI (200)) dX8_hasOrder_53 (by decide) ?_
        refine rm_iload_n dX8_hasOrder_56 rfl rfl ?_
        refine rm_imul dX8_hasOrder_57 ?_
        refine rm_top (pk_mul (200) (r)) ?_
        refine rm_aload_n dX8_hasOrder_58 rfl rfl ?_
        refine rm_getr 12 (t := 16) dX8_hasOrder_59 flX8_34 (by decide) rfl rfl ?_
        refine rm_iload_n dX8_hasOrder_62 rfl rfl ?_
        refine rm_iald (f := 12) (j := l) (x := nI (rm_or a l)) dX8_hasOrder_63 rfl (by decide) rfl rfl (rfl) (show l < 200 from by omega) ((hl.2.2.2 h46).1) ?_
        refine rm_iadd dX8_hasOrder_64 ?_
        refine rm_top (nI_add (200 * r) (rm_or a l)) ?_
        refine rm_iald (f := 16) (j := 200 * r + (rm_or a l)) (x := (a 20 (200 * r + (rm_or a l)))) dX8_hasOrder_65 rfl (by decide) rfl rfl (rfl) (show 200 * r + (rm_or a l) < 1600 from by have := (hl.2.2.2 h46).2; omega) (rfl) ?_
        refine rm_iconst (v := nI (3)) dX8_hasOrder_66 (by decide) ?_
        refine rm_icmp_ne (tgt := 74) dX8_hasOrder_67 (by decide) (fun h67 => ?_) (fun h67 => ?_)
        · refine rm_iconst (v := nI (0)) dX8_hasOrder_74 (by decide) ?_
          refine rm_iret dX8_hasOrder_75 rfl rfl ?_
          exact ⟨by unfold rm_hor; rw [show decide (a 12 l = nI (rm_el a (rm_ci a l)) ∧ ¬ a 15 l = -1) = false from decide_eq_false (fun q => q.2 h26), show decide (¬ a 16 l = -1 ∧ a 20 (200 * r + rm_or a l) = nI 3) = false from decide_eq_false (fun q => h67 q.2)]; rfl, rfl⟩
        · refine rm_iconst (v := nI (1)) dX8_hasOrder_70 (by decide) ?_
          refine rm_goto (tgt := 75) dX8_hasOrder_71 (by decide) ?_
          refine rm_iret dX8_hasOrder_75 rfl rfl ?_
          exact ⟨by unfold rm_hor; rw [show decide (a 12 l = nI (rm_el a (rm_ci a l)) ∧ ¬ a 15 l = -1) = false from decide_eq_false (fun q => q.2 h26), show decide (¬ a 16 l = -1 ∧ a 20 (200 * r + rm_or a l) = nI 3) = true from decide_eq_true ⟨h46, h67⟩]; rfl, rfl⟩
    · refine rm_iconst (v := nI (1)) dX8_hasOrder_29 (by decide) ?_
      refine rm_goto (tgt := 34) dX8_hasOrder_30 (by decide) ?_
      refine rm_istore_n (lv' := [.ref 3, .int (nI (r)), .int (nI (l)), .int (nI (1))]) dX8_hasOrder_34 rfl (by decide) rfl ?_
      refine rm_iload_n dX8_hasOrder_35 rfl rfl ?_
      refine rm_if_ne (tgt := 70) dX8_hasOrder_36 (by decide) (fun h36 => ?_) (fun h36 => (absurd h36 (by decide)))
      refine rm_iconst (v := nI (1)) dX8_hasOrder_70 (by decide) ?_
      refine rm_goto (tgt := 75) dX8_hasOrder_71 (by decide) ?_
      refine rm_iret dX8_hasOrder_75 rfl rfl ?_
      exact ⟨by unfold rm_hor; rw [show decide (a 12 l = nI (rm_el a (rm_ci a l)) ∧ ¬ a 15 l = -1) = true from decide_eq_true ⟨h16, h26⟩]; rfl, rfl⟩
def rm_all (p : Nat → Bool) : Nat → Nat → Bool
  | 0, _ => true
  | n + 1, k => p k && rm_all p n (k + 1)
theorem rm_all_iff {p : Nat → Bool} : ∀ {n k : Nat}, rm_all p n k = true ↔ ∀ i, k ≤ i → i < k + n → p i = true
  | 0, k => ⟨fun _ i h1 h2 => by omega, fun _ => rfl⟩
  | n + 1, k => by
    unfold rm_all
    rw [Bool.and_eq_true, rm_all_iff]
    refine ⟨fun h i h1 h2 => ?_, fun h => ⟨h k (Nat.le_refl _) (by omega), fun i h1 h2 => h i (by omega) (by omega)⟩⟩
    by_cases e : i = k
    · rw [e]; exact h.1
    · exact h.2 i (by omega) (by omega)
def rm_low (a : zv_I) (l x : Nat) : Bool := decide (a 10 x = nI 2 ∧ a 11 x = a 11 l ∧ ¬ a 15 x = -1 ∧ a 15 x < a 15 l)
def rm_lok (a : zv_I) (r l x : Nat) : Bool := !rm_low a l x || decide (a 20 (200 * r + x) = nI 3)
def rm_hlo (a : zv_I) (nl r l : Nat) : Bool := rm_all (rm_lok a r l) nl 0
theorem rm_lowF {a : zv_I} {l x : Nat} (h : ¬ (a 10 x = nI 2 ∧ a 11 x = a 11 l ∧ ¬ a 15 x = -1 ∧ a 15 x < a 15 l)) {r : Nat} : rm_lok a r l x = true := by unfold rm_lok rm_low; rw [decide_eq_false h]; rfl
theorem rm_lowG {a : zv_I} {l x r : Nat} (h : a 20 (200 * r + x) = nI 3) : rm_lok a r l x = true := by unfold rm_lok; rw [decide_eq_true h]; exact Bool.or_true _
theorem rm_lowN {a : zv_I} {l x r : Nat} (g : a 10 x = nI 2 ∧ a 11 x = a 11 l ∧ ¬ a 15 x = -1 ∧ a 15 x < a 15 l) (h : ¬ a 20 (200 * r + x) = nI 3) : rm_lok a r l x = false := by unfold rm_lok rm_low; rw [decide_eq_true g, decide_eq_false h]; rfl
theorem cM_hasLower_l (d : Nat) {a : zv_I} {nl r l : Nat} (hn : a 3 4 = nI nl) (hb : nl ≤ 200) (hr : r < 8) (hl : l < 200) : ∀ n k, k + n = nl → ∀ (is : Bool) rest, rm_V mX8_hasLower d 5 ([.ref 3, .int (nI r), .int (nI l), .int (rm_b is), .int (nI k)] ++ rest) [] a (rm_p (rm_b (is && rm_all (rm_lok a r l) n k)) a) := by
  intro n
  induction n with
  | zero =>
    intro k hk is rest
    refine rm_less ⟨rest, rfl⟩ ?_
    refine rm_iload dX8_hasLower_5 rfl ?_
    refine rm_aload_n dX8_hasLower_7 rfl rfl ?_
    refine rm_geti 4 (x := nI (nl)) dX8_hasLower_8 flX8_89 rfl (hn) ?_
    refine rm_icN_ge (tgt := 113) dX8_hasLower_11 (by decide) (by omega) (by omega) (fun h11 => ?_) (fun h11 => (absurd h11 (by omega)))
    refine rm_iload_n dX8_hasLower_113 rfl rfl ?_
    refine rm_iret dX8_hasLower_114 rfl (rm_nb _) ?_
    exact ⟨by rw [show rm_all (rm_lok a r l) 0 k = true from rfl, Bool.and_true], rfl⟩
  | succ n ih =>
    intro k hk is rest
    refine rm_less ⟨rest, rfl⟩ ?_
    rw [show rm_all (rm_lok a r l) (n + 1) k = (rm_lok a r l k && rm_all (rm_lok a r l) n (k + 1)) from rfl]
    refine rm_iload dX8_hasLower_5 rfl ?_
    refine rm_aload_n dX8_hasLower_7 rfl rfl ?_
    refine rm_geti 4 (x := nI (nl)) dX8_hasLower_8 flX8_89 rfl (hn) ?_
    refine rm_icN_ge (tgt := 113) dX8_hasLower_11 (by decide) (by omega) (by omega) (fun h11 => (absurd h11 (by omega))) (fun h11 => ?_)
    refine rm_aload_n dX8_hasLower_14 rfl rfl ?_
    refine rm_getr 6 (t := 10) dX8_hasLower_15 flX8_16 (by decide) rfl rfl ?_
    refine rm_iload dX8_hasLower_18 rfl ?_
    refine rm_iald (f := 6) (j := k) (x := (a 10 (k))) dX8_hasLower_20 rfl (by decide) rfl rfl (rfl) (show k < 200 from by omega) (rfl) ?_
    refine rm_iconst (v := nI (2)) dX8_hasLower_21 (by decide) ?_
    refine rm_icmp_ne (tgt := 72) dX8_hasLower_22 (by decide) (fun h22 => ?_) (fun h22 => ?_)
    · refine rm_iconst (v := nI (0)) dX8_hasLower_72 (by decide) ?_
      refine rm_istore (lv' := [.ref 3, .int (nI (r)), .int (nI (l)), .int (rm_b (is)), .int (nI (k)), .int (nI (0))]) dX8_hasLower_73 (by decide) rfl ?_
      refine rm_iload_n dX8_hasLower_75 rfl rfl ?_
      refine rm_ifB_eq (tgt := 105) dX8_hasLower_76 (by decide) (fun h76 => ?_) (fun h76 => ?_)
      · refine rm_iconst (v := nI (0)) dX8_hasLower_105 (by decide) ?_
        refine rm_istore_n (lv' := [.ref 3, .int (nI (r)), .int (nI (l)), .int (nI (0)), .int (nI (k)), .int (nI (0))]) dX8_hasLower_106 rfl (by decide) rfl ?_
        refine rm_iinc (v := nI (k + 1)) (lv' := [.ref 3, .int (nI (r)), .int (nI (l)), .int (nI (0)), .int (nI (k + 1)), .int (nI (0))]) dX8_hasLower_107 rfl (by rw [← nI_1]; rfl) (by decide) rfl ?_
        refine rm_goto (tgt := 5) dX8_hasLower_110 (by decide) ?_
        subst h76
        exact ih (k + 1) (by omega) false [.int (nI (0))]
      · refine rm_iload dX8_hasLower_79 rfl ?_
        refine rm_if_eq (tgt := 101) dX8_hasLower_81 (by decide) (fun h81 => ?_) (fun h81 => (absurd h81 (by decide)))
        refine rm_iconst (v := nI (1)) dX8_hasLower_101 (by decide) ?_
        refine rm_goto (tgt := 106) dX8_hasLower_102 (by decide) ?_
        refine rm_istore_n (lv' := [.ref 3, .int (nI (r)), .int (nI (l)), .int (nI (1)), .int (nI (k)), .int (nI (0))]) dX8_hasLower_106 rfl (by decide) rfl ?_
        refine rm_iinc (v := nI (k + 1)) (lv' := [.ref 3, .int (nI (r)), .int (nI (l)), .int (nI (1)), .int (nI (k + 1)), .int (nI (0))]) dX8_hasLower_107 rfl (by rw [← nI_1]; rfl) (by decide) rfl ?_
        refine rm_goto (tgt := 5) dX8_hasLower_110 (by decide) ?_
        subst h76
        rw [rm_lowF (r := r) (fun q => h22 q.1)]
        exact ih (k + 1) (by omega) true [.int (nI (0))]
    · refine rm_aload_n dX8_hasLower_25 rfl rfl ?_
      refine rm_getr 7 (t := 11) dX8_hasLower_26 flX8_19 (by decide) rfl rfl ?_
      refine rm_iload dX8_hasLower_29 rfl ?_
      refine rm_iald (f := 7) (j := k) (x := (a 11 (k))) dX8_hasLower_31 rfl (by decide) rfl rfl (rfl) (show k < 200 from by omega) (rfl) ?_
      refine rm_aload_n dX8_hasLower_32 rfl rfl ?_
      refine rm_getr 7 (t := 11) dX8_hasLower_33 flX8_19 (by decide) rfl rfl ?_
      refine rm_iload_n dX8_hasLower_36 rfl rfl ?_
      refine rm_iald (f := 7) (j := l) (x := (a 11 (l))) dX8_hasLower_37 rfl (by decide) rfl rfl (rfl) (show l < 200 from by omega) (rfl) ?_
      refine rm_icmp_ne (tgt := 72) dX8_hasLower_38 (by decide) (fun h38 => ?_) (fun h38 => ?_)
      · refine rm_iconst (v := nI (0)) dX8_hasLower_72 (by decide) ?_
        refine rm_istore (lv' := [.ref 3, .int (nI (r)), .int (nI (l)), .int (rm_b (is)), .int (nI (k)), .int (nI (0))]) dX8_hasLower_73 (by decide) rfl ?_
        refine rm_iload_n dX8_hasLower_75 rfl rfl ?_
        refine rm_ifB_eq (tgt := 105) dX8_hasLower_76 (by decide) (fun h76 => ?_) (fun h76 => ?_)
        · refine rm_iconst (v := nI (0)) dX8_hasLower_105 (by decide) ?_
          refine rm_istore_n (lv' := [.ref 3, .int (nI (r)), .int (nI (l)), .int (nI (0)), .int (nI (k)), .int (nI (0))]) dX8_hasLower_106 rfl (by decide) rfl ?_
          refine rm_iinc (v := nI (k + 1)) (lv' := [.ref 3, .int (nI (r)), .int (nI (l)), .int (nI (0)), .int (nI (k + 1)), .int (nI (0))]) dX8_hasLower_107 rfl (by rw [← nI_1]; rfl) (by decide) rfl ?_
          refine rm_goto (tgt := 5) dX8_hasLower_110 (by decide) ?_
          subst h76
          exact ih (k + 1) (by omega) false [.int (nI (0))]
        · refine rm_iload dX8_hasLower_79 rfl ?_
          refine rm_if_eq (tgt := 101) dX8_hasLower_81 (by decide) (fun h81 => ?_) (fun h81 => (absurd h81 (by decide)))
          refine rm_iconst (v := nI (1)) dX8_hasLower_101 (by decide) ?_
          refine rm_goto (tgt := 106) dX8_hasLower_102 (by decide) ?_
          refine rm_istore_n (lv' := [.ref 3, .int (nI (r)), .int (nI (l)), .int (nI (1)), .int (nI (k)), .int (nI (0))]) dX8_hasLower_106 rfl (by decide) rfl ?_
          refine rm_iinc (v := nI (k + 1)) (lv' := [.ref 3, .int (nI (r)), .int (nI (l)), .int (nI (1)), .int (nI (k + 1)), .int (nI (0))]) dX8_hasLower_107 rfl (by rw [← nI_1]; rfl) (by decide) rfl ?_
          refine rm_goto (tgt := 5) dX8_hasLower_110 (by decide) ?_
          subst h76
          rw [rm_lowF (r := r) (fun q => h38 q.2.1)]
          exact ih (k + 1) (by omega) true [.int (nI (0))]
      · refine rm_aload_n dX8_hasLower_41 rfl rfl ?_
        refine rm_getr 11 (t := 15) dX8_hasLower_42 flX8_31 (by decide) rfl rfl ?_
        refine rm_iload dX8_hasLower_45 rfl ?_
        refine rm_iald (f := 11) (j := k) (x := (a 15 (k))) dX8_hasLower_47 rfl (by decide) rfl rfl (rfl) (show k < 200 from by omega) (rfl) ?_
        refine rm_iconst (v := (-1 : Int32)) dX8_hasLower_48 (by decide) ?_
        refine rm_icmp_eq (tgt := 72) dX8_hasLower_49 (by decide) (fun h49 => ?_) (fun h49 => ?_)
        · refine rm_iconst (v := nI (0)) dX8_hasLower_72 (by decide) ?_
          refine rm_istore (lv' := [.ref 3, .int (nI (r)), .int (nI (l)), .int (rm_b (is)), .int (nI (k)), .int (nI (0))]) dX8_hasLower_73 (by decide) rfl ?_
          refine rm_iload_n dX8_hasLower_75 rfl rfl ?_
          refine rm_ifB_eq (tgt := 105) dX8_hasLower_76 (by decide) (fun h76 => ?_) (fun h76 => ?_)
          · refine rm_iconst (v := nI (0)) dX8_hasLower_105 (by decide) ?_
            refine rm_istore_n (lv' := [.ref 3, .int (nI (r)), .int (nI (l)), .int (nI (0)), .int (nI (k)), .int (nI (0))]) dX8_hasLower_106 rfl (by decide) rfl ?_
            refine rm_iinc (v := nI (k + 1)) (lv' := [.ref 3, .int (nI (r)), .int (nI (l)), .int (nI (0)), .int (nI (k + 1)), .int (nI (0))]) dX8_hasLower_107 rfl (by rw [← nI_1]; rfl) (by decide) rfl ?_
            refine rm_goto (tgt := 5) dX8_hasLower_110 (by decide) ?_
            subst h76
            exact ih (k + 1) (by omega) false [.int (nI (0))]
          · refine rm_iload dX8_hasLower_79 rfl ?_
            refine rm_if_eq (tgt := 101) dX8_hasLower_81 (by decide) (fun h81 => ?_) (fun h81 => (absurd h81 (by decide)))
            refine rm_iconst (v := nI (1)) dX8_hasLower_101 (by decide) ?_
            refine rm_goto (tgt := 106) dX8_hasLower_102 (by decide) ?_
            refine rm_istore_n (lv' := [.ref 3, .int (nI (r)), .int (nI (l)), .int (nI (1)), .int (nI (k)), .int (nI (0))]) dX8_hasLower_106 rfl (by decide) rfl ?_
            refine rm_iinc (v := nI (k + 1)) (lv' := [.ref 3, .int (nI (r)), .int (nI (l)), .int (nI (1)), .int (nI (k + 1)), .int (nI (0))]) dX8_hasLower_107 rfl (by rw [← nI_1]; rfl) (by decide) rfl ?_
            refine rm_goto (tgt := 5) dX8_hasLower_110 (by decide) ?_
            subst h76
            rw [rm_lowF (r := r) (fun q => q.2.2.1 h49)]
            exact ih (k + 1) (by omega) true [.int (nI (0))]
        · refine rm_aload_n dX8_hasLower_52 rfl rfl ?_
          refine rm_getr 11 (t := 15) dX8_hasLower_53 flX8_31 (by decide) rfl rfl ?_
          refine rm_iload dX8_hasLower_56 rfl ?_
          refine rm_iald (f := 11) (j := k) (x := (a 15 (k))) dX8_hasLower_58 rfl (by decide) rfl rfl (rfl) (show k < 200 from by omega) (rfl) ?_
          refine rm_aload_n dX8_hasLower_59 rfl rfl ?_
          refine rm_getr 11 (t := 15) dX8_hasLower_60 flX8_31 (by decide) rfl rfl ?_
          refine rm_iload_n dX8_hasLower_63 rfl rfl ?_
          refine rm_iald (f := 11) (j := l) (x := (a 15 (l))) dX8_hasLower_64 rfl (by decide) rfl rfl (rfl) (show l < 200 from by omega) (rfl) ?_
          refine rm_icmp_ge (tgt := 72) dX8_hasLower_65 (by decide) (fun h65 => ?_) (fun h65 => ?_)
          · refine rm_iconst (v := nI (0)) dX8_hasLower_72 (by decide) ?_
            refine rm_istore (lv' := [.ref 3, .int (nI (r)), .int (nI (l)), .int (rm_b (is)), .int (nI (k)), .int (nI (0))]) dX8_hasLower_73 (by decide) rfl ?_
            refine rm_iload_n dX8_hasLower_75 rfl rfl ?_
            refine rm_ifB_eq (tgt := 105) dX8_hasLower_76 (by decide) (fun h76 => ?_) (fun h76 => ?_)
            · refine rm_iconst (v := nI (0)) dX8_hasLower_105 (by decide) ?_
              refine rm_istore_n (lv' := [.ref 3, .int (nI (r)), .int (nI (l)), .int (nI (0)), .int (nI (k)), .int (nI (0))]) dX8_hasLower_106 rfl (by decide) rfl ?_
              refine rm_iinc (v := nI (k + 1)) (lv' := [.ref 3, .int (nI (r)), .int (nI (l)), .int (nI (0)), .int (nI (k + 1)), .int (nI (0))]) dX8_hasLower_107 rfl (by rw [← nI_1]; rfl) (by decide) rfl ?_
              refine rm_goto (tgt := 5) dX8_hasLower_110 (by decide) ?_
              subst h76
              exact ih (k + 1) (by omega) false [.int (nI (0))]
            · refine rm_iload dX8_hasLower_79 rfl ?_
              refine rm_if_eq (tgt := 101) dX8_hasLower_81 (by decide) (fun h81 => ?_) (fun h81 => (absurd h81 (by decide)))
              refine rm_iconst (v := nI (1)) dX8_hasLower_101 (by decide) ?_
              refine rm_goto (tgt := 106) dX8_hasLower_102 (by decide) ?_
              refine rm_istore_n (lv' := [.ref 3, .int (nI (r)), .int (nI (l)), .int (nI (1)), .int (nI (k)), .int (nI (0))]) dX8_hasLower_106 rfl (by decide) rfl ?_
              refine rm_iinc (v := nI (k + 1)) (lv' := [.ref 3, .int (nI (r)), .int (nI (l)), .int (nI (1)), .int (nI (k + 1)), .int (nI (0))]) dX8_hasLower_107 rfl (by rw [← nI_1]; rfl) (by decide) rfl ?_
              refine rm_goto (tgt := 5) dX8_hasLower_110 (by decide) ?_
              subst h76
              rw [rm_lowF (r := r) (fun q => Int32.not_le.mpr q.2.2.2 h65)]
              exact ih (k + 1) (by omega) true [.int (nI (0))]
          · refine rm_iconst (v := nI (1)) dX8_hasLower_68 (by decide) ?_
            refine rm_goto (tgt := 73) dX8_hasLower_69 (by decide) ?_
            refine rm_istore (lv' := [.ref 3, .int (nI (r)), .int (nI (l)), .int (rm_b (is)), .int (nI (k)), .int (nI (1))]) dX8_hasLower_73 (by decide) rfl ?_
            refine rm_iload_n dX8_hasLower_75 rfl rfl ?_
            refine rm_ifB_eq (tgt := 105) dX8_hasLower_76 (by decide) (fun h76 => ?_) (fun h76 => ?_)
            · refine rm_iconst (v := nI (0)) dX8_hasLower_105 (by decide) ?_
              refine rm_istore_n (lv' := [.ref 3, .int (nI (r)), .int (nI (l)), .int (nI (0)), .int (nI (k)), .int (nI (1))]) dX8_hasLower_106 rfl (by decide) rfl ?_
              refine rm_iinc (v := nI (k + 1)) (lv' := [.ref 3, .int (nI (r)), .int (nI (l)), .int (nI (0)), .int (nI (k + 1)), .int (nI (1))]) dX8_hasLower_107 rfl (by rw [← nI_1]; rfl) (by decide) rfl ?_
              refine rm_goto (tgt := 5) dX8_hasLower_110 (by decide) ?_
              subst h76
              exact ih (k + 1) (by omega) false [.int (nI (1))]
            · refine rm_iload dX8_hasLower_79 rfl ?_
              refine rm_if_eq (tgt := 101) dX8_hasLower_81 (by decide) (fun h81 => (absurd h81 (by decide))) (fun h81 => ?_)
              refine rm_aload_n dX8_hasLower_84 rfl rfl ?_
              refine rm_getr 16 (t := 20) dX8_hasLower_85 flX8_46 (by decide) rfl rfl ?_
              refine rm_sipush (v := nI (200)) dX8_hasLower_88 (by decide) ?_
              refine rm_iload_n dX8_hasLower_91 rfl rfl ?_
              refine rm_imul dX8_hasLower_92 ?_
              refine rm_top (pk_mul (200) (r)) ?_
              refine rm_iload dX8_hasLower_93 rfl ?_
              refine rm_iadd dX8_hasLower_95 ?_
              refine rm_top (nI_add (200 * r) (k)) ?_
              refine rm_iald (f := 16) (j := 200 * r + k) (x := (a 20 (200 * r + k))) dX8_hasLower_96 rfl (by decide) rfl rfl (rfl) (show 200 * r + k < 1600 from by omega) (rfl) ?_
              refine rm_iconst (v := nI (3)) dX8_hasLower_97 (by decide) ?_
              refine rm_icmp_ne (tgt := 105) dX8_hasLower_98 (by decide) (fun h98 => ?_) (fun h98 => ?_)
              · refine rm_iconst (v := nI (0)) dX8_hasLower_105 (by decide) ?_
                refine rm_istore_n (lv' := [.ref 3, .int (nI (r)), .int (nI (l)), .int (nI (0)), .int (nI (k)), .int (nI (1))]) dX8_hasLower_106 rfl (by decide) rfl ?_
                refine rm_iinc (v := nI (k + 1)) (lv' := [.ref 3, .int (nI (r)), .int (nI (l)), .int (nI (0)), .int (nI (k + 1)), .int (nI (1))]) dX8_hasLower_107 rfl (by rw [← nI_1]; rfl) (by decide) rfl ?_
                refine rm_goto (tgt := 5) dX8_hasLower_110 (by decide) ?_
                subst h76
                rw [rm_lowN ⟨h22, h38, h49, Int32.not_le.mp h65⟩ h98]
                exact ih (k + 1) (by omega) false [.int (nI (1))]
              · refine rm_iconst (v := nI (1)) dX8_hasLower_101 (by decide) ?_
                refine rm_goto (tgt := 106) dX8_hasLower_102 (by decide) ?_
                refine rm_istore_n (lv' := [.ref 3, .int (nI (r)), .int (nI (l)), .int (nI (1)), .int (nI (k)), .int (nI (1))]) dX8_hasLower_106 rfl (by decide) rfl ?_
                refine rm_iinc (v := nI (k + 1)) (lv' := [.ref 3, .int (nI (r)), .int (nI (l)), .int (nI (1)), .int (nI (k + 1)), .int (nI (1))]) dX8_hasLower_107 rfl (by rw [← nI_1]; rfl) (by decide) rfl ?_
                refine rm_goto (tgt := 5) dX8_hasLower_110 (by decide) ?_
                subst h76
                rw [rm_lowG (l := l) h98]
                exact ih (k + 1) (by omega) true [.int (nI (1))]
theorem cM_hasLower (d : Nat) {a : zv_I} {nl r l : Nat} (hn : a 3 4 = nI nl) (hb : nl ≤ 200) (hr : r < 8) (hl : l < 200) : rm_V mX8_hasLower d 0 [.ref 3, .int (nI r), .int (nI l)] [] a (rm_p (rm_b (rm_hlo a nl r l)) a) := by
  refine rm_iconst (v := nI (1)) dX8_hasLower_0 (by decide) ?_
  refine rm_istore_n (lv' := [.ref 3, .int (nI (r)), .int (nI (l)), .int (nI (1))]) dX8_hasLower_1 rfl (by decide) rfl ?_
  refine rm_iconst (v := nI (0)) dX8_hasLower_2 (by decide) ?_
  refine rm_istore (lv' := [.ref 3, .int (nI (r)), .int (nI (l)), .int (nI (1)), .int (nI (0))]) dX8_hasLower_3 (by decide) rfl ?_
  exact cM_hasLower_l d hn hb hr hl nl 0 (by omega) true []
def rm_can (a : zv_I) (nc nl r l : Nat) : Bool := (rm_lkg a nc r l).isNone && (decide (¬ a 10 l = nI 2 ∨ r = rm_el a (rm_ci a l)) || (rm_hor a r l && rm_hlo a nl r l))
theorem rm_lkg_lt {a : zv_I} {nc r l : Nat} (hb : nc ≤ 6) : ∀ j, rm_lkg a nc r l = some j → j < 2 ^ 31 := fun j h => by have := (rm_fst_some h).2.1; omega
theorem cM_canGive (d : Nat) {a : zv_I} {nc nl r l : Nat} (hc : a 3 1 = nI nc) (hb : nc ≤ 6) (hn : a 3 4 = nI nl) (hnb : nl ≤ 200) (hr : r < 8) (h2 : l < 200) (hl : rm_lw a nc l) : rm_V mX8_canGive (d + 4) 0 [.ref 3, .int (nI r), .int (nI l)] [] a (rm_p (rm_b (rm_can a nc nl r l)) a) := by
  refine rm_aload_n dX8_canGive_0 rfl rfl ?_
  refine rm_iload_n dX8_canGive_1 rfl rfl ?_
  refine rm_iload_n dX8_canGive_2 rfl rfl ?_
  refine rm_callV (As := [.int (nI (r)), .int (nI (l))]) (st := []) dX8_canGive_3 cvX8_151 rfl rfl (by decide) (zv_cat_i [nI (r), nI (l)]) (Nat.le_of_ble_eq_true rfl) (cM_lacking (d + 1) hc hb hr h2) (fun v b q => ?_)
  obtain ⟨rfl, rfl⟩ := q
  show rm_V _ _ 6 [.ref 3, .int (nI (r)), .int (nI (l))] [.int (rm_o (rm_lkg a nc r l))] _ _
  refine rm_iconst (v := (-1 : Int32)) dX8_canGive_6 (by decide) ?_
  refine rm_icmp_eq (tgt := 12) dX8_canGive_7 (by decide) (fun h7 => ?_) (fun h7 => ?_)
  · refine rm_aload_n dX8_canGive_12 rfl rfl ?_
    refine rm_getr 6 (t := 10) dX8_canGive_13 flX8_16 (by decide) rfl rfl ?_
    refine rm_iload_n dX8_canGive_16 rfl rfl ?_
    refine rm_iald (f := 6) (j := l) (x := (a 10 (l))) dX8_canGive_17 rfl (by decide) rfl rfl (rfl) (show l < 200 from by omega) (rfl) ?_
    refine rm_iconst (v := nI (2)) dX8_canGive_18 (by decide) ?_
    refine rm_icmp_ne (tgt := 54) dX8_canGive_19 (by decide) (fun h19 => ?_) (fun h19 => ?_)
    · refine rm_iconst (v := nI (1)) dX8_canGive_54 (by decide) ?_
      refine rm_goto (tgt := 59) dX8_canGive_55 (by decide) ?_
      refine rm_iret dX8_canGive_59 rfl rfl ?_
      exact ⟨by unfold rm_can; rw [show (rm_lkg a nc r l).isNone = true from by rw [(rm_o_neg _ (rm_lkg_lt hb)).mp h7]; rfl, show decide (¬ a 10 l = nI 2 ∨ r = rm_el a (rm_ci a l)) = true from decide_eq_true (Or.inl h19)]; rfl, rfl⟩
    · refine rm_iload_n dX8_canGive_22 rfl rfl ?_
      refine rm_aload_n dX8_canGive_23 rfl rfl ?_
      refine rm_aload_n dX8_canGive_24 rfl rfl ?_
      refine rm_getr 7 (t := 11) dX8_canGive_25 flX8_19 (by decide) rfl rfl ?_
      refine rm_iload_n dX8_canGive_28 rfl rfl ?_
      refine rm_iald (f := 7) (j := l) (x := nI (rm_ci a l)) dX8_canGive_29 rfl (by decide) rfl rfl (rfl) (show l < 200 from by omega) (hl.1) ?_
      refine rm_callV (As := [.int (nI (rm_ci a l))]) (st := [.int (nI (r))]) dX8_canGive_30 cvX8_148 rfl rfl (by decide) (zv_cat_i [nI (rm_ci a l)]) (Nat.le_of_ble_eq_true rfl) (cM_eldest (d + 2) (a := a) (c := rm_ci a l) (e := rm_el a (rm_ci a l)) (by have := hl.2.1; omega) hl.2.2.1) (fun v b q => ?_)
      obtain ⟨rfl, rfl⟩ := q
      show rm_V _ _ 33 [.ref 3, .int (nI (r)), .int (nI (l))] [.int (nI (rm_el a (rm_ci a l))), .int (nI (r))] _ _
      refine rm_icN_eq (tgt := 54) dX8_canGive_33 (by decide) (by omega) (by have := rm_es_lt hl.2.2.1; omega) (fun h33 => ?_) (fun h33 => ?_)
      · refine rm_iconst (v := nI (1)) dX8_canGive_54 (by decide) ?_
        refine rm_goto (tgt := 59) dX8_canGive_55 (by decide) ?_
        refine rm_iret dX8_canGive_59 rfl rfl ?_
        exact ⟨by unfold rm_can; rw [show (rm_lkg a nc r l).isNone = true from by rw [(rm_o_neg _ (rm_lkg_lt hb)).mp h7]; rfl, show decide (¬ a 10 l = nI 2 ∨ r = rm_el a (rm_ci a l)) = true from decide_eq_true (Or.inr h33)]; rfl, rfl⟩
      · refine rm_aload_n dX8_canGive_36 rfl rfl ?_
        refine rm_iload_n dX8_canGive_37 rfl rfl ?_
        refine rm_iload_n dX8_canGive_38 rfl rfl ?_
        refine rm_callV (As := [.int (nI (r)), .int (nI (l))]) (st := []) dX8_canGive_39 cvX8_155 rfl rfl (by decide) (zv_cat_i [nI (r), nI (l)]) (Nat.le_of_ble_eq_true rfl) (cM_hasOrder (d + 1) hb hr h2 hl) (fun v b q => ?_)
        obtain ⟨rfl, rfl⟩ := q
        show rm_V _ _ 42 [.ref 3, .int (nI (r)), .int (nI (l))] [.int (rm_b (rm_hor a r l))] _ _
        refine rm_ifB_eq (tgt := 58) dX8_canGive_42 (by decide) (fun h42 => ?_) (fun h42 => ?_)
        · refine rm_iconst (v := nI (0)) dX8_canGive_58 (by decide) ?_
          refine rm_iret dX8_canGive_59 rfl rfl ?_
          exact ⟨by unfold rm_can; rw [show (rm_lkg a nc r l).isNone = true from by rw [(rm_o_neg _ (rm_lkg_lt hb)).mp h7]; rfl, show decide (¬ a 10 l = nI 2 ∨ r = rm_el a (rm_ci a l)) = false from decide_eq_false (fun q => q.elim (fun z => z h19) h33), h42]; rfl, rfl⟩
        · refine rm_aload_n dX8_canGive_45 rfl rfl ?_
          refine rm_iload_n dX8_canGive_46 rfl rfl ?_
          refine rm_iload_n dX8_canGive_47 rfl rfl ?_
          refine rm_callV (As := [.int (nI (r)), .int (nI (l))]) (st := []) dX8_canGive_48 cvX8_158 rfl rfl (by decide) (zv_cat_i [nI (r), nI (l)]) (Nat.le_of_ble_eq_true rfl) (cM_hasLower (d + 3) hn hnb hr h2) (fun v b q => ?_)
          obtain ⟨rfl, rfl⟩ := q
          show rm_V _ _ 51 [.ref 3, .int (nI (r)), .int (nI (l))] [.int (rm_b (rm_hlo a nl r l))] _ _
          refine rm_ifB_eq (tgt := 58) dX8_canGive_51 (by decide) (fun h51 => ?_) (fun h51 => ?_)
          · refine rm_iconst (v := nI (0)) dX8_canGive_58 (by decide) ?_
            refine rm_iret dX8_canGive_59 rfl rfl ?_
            exact ⟨by unfold rm_can; rw [show (rm_lkg a nc r l).isNone = true from by rw [(rm_o_neg _ (rm_lkg_lt hb)).mp h7]; rfl, show decide (¬ a 10 l = nI 2 ∨ r = rm_el a (rm_ci a l)) = false from decide_eq_false (fun q => q.elim (fun z => z h19) h33), h42, h51]; rfl, rfl⟩
          · refine rm_iconst (v := nI (1)) dX8_canGive_54 (by decide) ?_
            refine rm_goto (tgt := 59) dX8_canGive_55 (by decide) ?_
            refine rm_iret dX8_canGive_59 rfl rfl ?_
            exact ⟨by unfold rm_can; rw [show (rm_lkg a nc r l).isNone = true from by rw [(rm_o_neg _ (rm_lkg_lt hb)).mp h7]; rfl, show decide (¬ a 10 l = nI 2 ∨ r = rm_el a (rm_ci a l)) = false from decide_eq_false (fun q => q.elim (fun z => z h19) h33), h42, h51]; rfl, rfl⟩
  · refine rm_iconst (v := nI (0)) dX8_canGive_10 (by decide) ?_
    refine rm_iret dX8_canGive_11 rfl rfl ?_
    exact ⟨by unfold rm_can; rw [show (rm_lkg a nc r l).isNone = false from by cases hx : rm_lkg a nc r l with | none => exact absurd (by rw [hx]; rfl) h7 | some j => rfl]; rfl, rfl⟩
def rm_nxp (a : zv_I) (nc nl r l : Nat) : Bool := decide (a 20 (200 * r + l) = nI 2) && rm_can a nc nl r l
def rm_nxt (a : zv_I) (nc nl r : Nat) : Option Nat := rm_fst (rm_nxp a nc nl r) nl 0
theorem rm_nxp_t {a : zv_I} {nc nl r l : Nat} (h : a 20 (200 * r + l) = nI 2) (g : rm_can a nc nl r l = true) : rm_nxp a nc nl r l = true := by unfold rm_nxp; rw [decide_eq_true h, g]; rfl
theorem rm_nxp_f1 {a : zv_I} {nc nl r l : Nat} (h : ¬ a 20 (200 * r + l) = nI 2) : rm_nxp a nc nl r l = false := by unfold rm_nxp; rw [decide_eq_false h]; rfl
theorem rm_nxp_f2 {a : zv_I} {nc nl r l : Nat} (g : rm_can a nc nl r l = false) : rm_nxp a nc nl r l = false := by unfold rm_nxp; rw [g]; exact Bool.and_false _
theorem cM_next_l (d : Nat) {a : zv_I} {nc nl r : Nat} (hc : a 3 1 = nI nc) (hb : nc ≤ 6) (hn : a 3 4 = nI nl) (hnb : nl ≤ 200) (hr : r < 8) (hl : ∀ l, l < nl → rm_lw a nc l) : ∀ n k, k + n = nl → rm_V mX8_next (d + 5) 2 [.ref 3, .int (nI r), .int (nI k)] [] a (rm_p (rm_o (rm_fst (rm_nxp a nc nl r) n k)) a) := by
  intro n
  induction n with
  | zero =>
    intro k hk
    refine rm_iload_n dX8_next_2 rfl rfl ?_
    refine rm_aload_n dX8_next_3 rfl rfl ?_
    refine rm_geti 4 (x := nI (nl)) dX8_next_4 flX8_89 rfl (hn) ?_
    refine rm_icN_ge (tgt := 43) dX8_next_7 (by decide) (by omega) (by omega) (fun h7 => ?_) (fun h7 => (absurd h7 (by omega)))
    refine rm_iconst (v := (-1 : Int32)) dX8_next_43 (by decide) ?_
    refine rm_iret dX8_next_44 rfl rfl ?_
    exact ⟨rfl, rfl⟩
  | succ n ih =>
    intro k hk
    refine rm_iload_n dX8_next_2 rfl rfl ?_
    refine rm_aload_n dX8_next_3 rfl rfl ?_
    refine rm_geti 4 (x := nI (nl)) dX8_next_4 flX8_89 rfl (hn) ?_
    refine rm_icN_ge (tgt := 43) dX8_next_7 (by decide) (by omega) (by omega) (fun h7 => (absurd h7 (by omega))) (fun h7 => ?_)
    refine rm_aload_n dX8_next_10 rfl rfl ?_
    refine rm_getr 16 (t := 20) dX8_next_11 flX8_46 (by decide) rfl rfl ?_
    refine rm_sipush (v := nI (200)) dX8_next_14 (by decide) ?_
    refine rm_iload_n dX8_next_17 rfl rfl ?_
    refine rm_imul dX8_next_18 ?_
    refine rm_top (pk_mul (200) (r)) ?_
    refine rm_iload_n dX8_next_19 rfl rfl ?_
    refine rm_iadd dX8_next_20 ?_
    refine rm_top (nI_add (200 * r) (k)) ?_
    refine rm_iald (f := 16) (j := 200 * r + k) (x := (a 20 (200 * r + k))) dX8_next_21 rfl (by decide) rfl rfl (rfl) (show 200 * r + k < 1600 from by omega) (rfl) ?_
    refine rm_iconst (v := nI (2)) dX8_next_22 (by decide) ?_
    refine rm_icmp_ne (tgt := 37) dX8_next_23 (by decide) (fun h23 => ?_) (fun h23 => ?_)
    · refine rm_iinc (v := nI (k + 1)) (lv' := [.ref 3, .int (nI (r)), .int (nI (k + 1))]) dX8_next_37 rfl (by rw [← nI_1]; rfl) (by decide) rfl ?_
      refine rm_goto (tgt := 2) dX8_next_40 (by decide) ?_
      rw [rm_fst_f (p := rm_nxp a nc nl r) (rm_nxp_f1 h23)]
      exact ih (k + 1) (by omega)
    · refine rm_aload_n dX8_next_26 rfl rfl ?_
      refine rm_iload_n dX8_next_27 rfl rfl ?_
      refine rm_iload_n dX8_next_28 rfl rfl ?_
      refine rm_callV (As := [.int (nI (r)), .int (nI (k))]) (st := []) dX8_next_29 cvX8_161 rfl rfl (by decide) (zv_cat_i [nI (r), nI (k)]) (Nat.le_of_ble_eq_true rfl) (cM_canGive d hc hb hn hnb hr (l := k) (by omega) (hl k (by omega))) (fun v b q => ?_)
      obtain ⟨rfl, rfl⟩ := q
      show rm_V _ _ 32 [.ref 3, .int (nI (r)), .int (nI (k))] [.int (rm_b (rm_can a nc nl r k))] _ _
      refine rm_ifB_eq (tgt := 37) dX8_next_32 (by decide) (fun h32 => ?_) (fun h32 => ?_)
      · refine rm_iinc (v := nI (k + 1)) (lv' := [.ref 3, .int (nI (r)), .int (nI (k + 1))]) dX8_next_37 rfl (by rw [← nI_1]; rfl) (by decide) rfl ?_
        refine rm_goto (tgt := 2) dX8_next_40 (by decide) ?_
        rw [rm_fst_f (p := rm_nxp a nc nl r) (rm_nxp_f2 h32)]
        exact ih (k + 1) (by omega)
      · refine rm_iload_n dX8_next_35 rfl rfl ?_
        refine rm_iret dX8_next_36 rfl rfl ?_
        exact ⟨by rw [rm_fst_t (p := rm_nxp a nc nl r) (rm_nxp_t h23 h32)]; rfl, rfl⟩
theorem cM_next (d : Nat) {a : zv_I} {nc nl r : Nat} (hc : a 3 1 = nI nc) (hb : nc ≤ 6) (hn : a 3 4 = nI nl) (hnb : nl ≤ 200) (hr : r < 8) (hl : ∀ l, l < nl → rm_lw a nc l) : rm_V mX8_next (d + 5) 0 [.ref 3, .int (nI r)] [] a (rm_p (rm_o (rm_nxt a nc nl r)) a) := by
  refine rm_iconst (v := nI (0)) dX8_next_0 (by decide) ?_
  refine rm_istore_n (lv' := [.ref 3, .int (nI (r)), .int (nI (0))]) dX8_next_1 rfl (by decide) rfl ?_
  exact cM_next_l d hc hb hn hnb hr hl nl 0 (by omega)
end
section
/-- ends without an answer, with the rows b -/
def rm_q (b : zv_I) : Option Value → zv_I → Prop := fun v b2 => v = none ∧ b = b2
def rm_frs (a : zv_I) (m : Nat) : Option Nat := rm_fst (fun k => decide (a 27 (40 * m + k) = 0)) 40 0
def rm_put (b : zv_I) (m l : Nat) (o : Option Nat) : zv_I := match o with
  | none => b
  | some k => zv_u b 27 (40 * m + k) (nI (l + 1))
def rm_hld (a : zv_I) (m l : Nat) : zv_I := rm_put (zv_u a 20 (200 * m + l) (nI 2)) m l (rm_frs a m)
theorem cM_holds_l (d : Nat) {b : zv_I} {m l : Nat} (hm : m < 8) (hl : l < 200) : ∀ n k, k + n = 40 → rm_V mX8_holds d 15 [.ref 3, .int (nI m), .int (nI l), .int (nI k)] [] b (rm_q (rm_put b m l (rm_fst (fun k => decide (b 27 (40 * m + k) = 0)) n k))) := by
  intro n
  induction n with
  | zero =>
    intro k hk
    refine rm_iload_n dX8_holds_15 rfl rfl ?_
    refine rm_bipush (v := nI (40)) dX8_holds_16 (by decide) ?_
    refine rm_icN_ge (tgt := 56) dX8_holds_18 (by decide) (by omega) (by omega) (fun h18 => ?_) (fun h18 => (absurd h18 (by omega)))
    refine rm_vret dX8_holds_56 rfl ?_
    exact ⟨rfl, rfl⟩
  | succ n ih =>
    intro k hk
    refine rm_iload_n dX8_holds_15 rfl rfl ?_
    refine rm_bipush (v := nI (40)) dX8_holds_16 (by decide) ?_
    refine rm_icN_ge (tgt := 56) dX8_holds_18 (by decide) (by omega) (by omega) (fun h18 => (absurd h18 (by omega))) (fun h18 => ?_)
    refine rm_aload_n dX8_holds_21 rfl rfl ?_
    refine rm_getr 23 (t := 27) dX8_holds_22 flX8_69 (by decide) rfl rfl ?_
    refine rm_bipush (v := nI (40)) dX8_holds_25 (by decide) ?_
    refine rm_iload_n dX8_holds_27 rfl rfl ?_
    refine rm_imul dX8_holds_28 ?_
    refine rm_top (pk_mul (40) (m)) ?_
    refine rm_iload_n dX8_holds_29 rfl rfl ?_
    refine rm_iadd dX8_holds_30 ?_
    refine rm_top (nI_add (40 * m) (k)) ?_
    refine rm_iald (f := 23) (j := 40 * m + k) (x := (b 27 (40 * m + k))) dX8_holds_31 rfl (by decide) rfl rfl (rfl) (show 40 * m + k < 320 from by omega) (rfl) ?_
    refine rm_if_ne (tgt := 50) dX8_holds_32 (by decide) (fun h32 => ?_) (fun h32 => ?_)
    · refine rm_iinc (v := nI (k + 1)) (lv' := [.ref 3, .int (nI (m)), .int (nI (l)), .int (nI (k + 1))]) dX8_holds_50 rfl (by rw [← nI_1]; rfl) (by decide) rfl ?_
      refine rm_goto (tgt := 15) dX8_holds_53 (by decide) ?_
      rw [rm_fst_f (p := (fun k => decide (b 27 (40 * m + k) = 0))) (decide_eq_false h32)]
      exact ih (k + 1) (by omega)
    · refine rm_aload_n dX8_holds_35 rfl rfl ?_
      refine rm_getr 23 (t := 27) dX8_holds_36 flX8_69 (by decide) rfl rfl ?_
      refine rm_bipush (v := nI (40)) dX8_holds_39 (by decide) ?_
      refine rm_iload_n dX8_holds_41 rfl rfl ?_
      refine rm_imul dX8_holds_42 ?_
      refine rm_top (pk_mul (40) (m)) ?_
      refine rm_iload_n dX8_holds_43 rfl rfl ?_
      refine rm_iadd dX8_holds_44 ?_
      refine rm_top (nI_add (40 * m) (k)) ?_
      refine rm_iload_n dX8_holds_45 rfl rfl ?_
      refine rm_iconst (v := nI (1)) dX8_holds_46 (by decide) ?_
      refine rm_iadd dX8_holds_47 ?_
      refine rm_top (nI_add (l) (1)) ?_
      refine rm_iast (f := 23) (j := 40 * m + k) dX8_holds_48 rfl (by decide) rfl rfl (rfl) (show 40 * m + k < 320 from by omega) ?_
      refine rm_vret dX8_holds_49 rfl ?_
      rw [rm_fst_t (p := (fun k => decide (b 27 (40 * m + k) = 0))) (decide_eq_true h32)]
      exact ⟨rfl, rfl⟩
theorem cM_holds (d : Nat) (a : zv_I) {m l : Nat} (hm : m < 8) (hl : l < 200) : rm_V mX8_holds d 0 [.ref 3, .int (nI m), .int (nI l)] [] a (rm_q (rm_hld a m l)) := by
  refine rm_aload_n dX8_holds_0 rfl rfl ?_
  refine rm_getr 16 (t := 20) dX8_holds_1 flX8_46 (by decide) rfl rfl ?_
  refine rm_sipush (v := nI (200)) dX8_holds_4 (by decide) ?_
  refine rm_iload_n dX8_holds_7 rfl rfl ?_
  refine rm_imul dX8_holds_8 ?_
  refine rm_top (pk_mul (200) (m)) ?_
  refine rm_iload_n dX8_holds_9 rfl rfl ?_
  refine rm_iadd dX8_holds_10 ?_
  refine rm_top (nI_add (200 * m) (l)) ?_
  refine rm_iconst (v := nI (2)) dX8_holds_11 (by decide) ?_
  refine rm_iast (f := 16) (j := 200 * m + l) dX8_holds_12 rfl (by decide) rfl rfl (rfl) (show 200 * m + l < 1600 from by omega) ?_
  refine rm_iconst (v := nI (0)) dX8_holds_13 (by decide) ?_
  refine rm_istore_n (lv' := [.ref 3, .int (nI (m)), .int (nI (l)), .int (nI (0))]) dX8_holds_14 rfl (by decide) rfl ?_
  exact cM_holds_l d hm hl 40 0 (by omega)
def rm_gs (a : zv_I) (l c w k : Nat) : zv_I := fun t j => if t = 20 ∧ j % 200 = l ∧ j / 200 < k ∧ rm_in a (j / 200) c = true ∧ j / 200 ≠ w then nI 1 else a t j
theorem rm_gs_o {a : zv_I} {l c w k t : Nat} (h : t ≠ 20) : rm_gs a l c w k t = a t := funext fun j => if_neg fun q => h q.1
theorem rm_gs_0 (a : zv_I) (l c w : Nat) : rm_gs a l c w 0 = a := funext fun t => funext fun j => if_neg fun q => Nat.not_lt_zero _ q.2.2.1
theorem rm_gs_t {a : zv_I} {l c w k : Nat} (hl : l < 200) (h : rm_in a k c = true) (hw : k ≠ w) : zv_u (rm_gs a l c w k) 20 (200 * k + l) (nI 1) = rm_gs a l c w (k + 1) := by
  funext t j
  unfold zv_u rm_gs
  by_cases h1 : t = 20 ∧ j = 200 * k + l
  · obtain ⟨rfl, rfl⟩ := h1
    have e1 : (200 * k + l) % 200 = l := by omega
    have e2 : (200 * k + l) / 200 = k := by omega
    rw [if_pos ⟨rfl, rfl⟩, if_pos ⟨rfl, e1, by omega, by rw [e2]; exact h, by rw [e2]; exact hw⟩]
  · rw [if_neg h1]
    by_cases h2 : t = 20 ∧ j % 200 = l ∧ j / 200 < k ∧ rm_in a (j / 200) c = true ∧ j / 200 ≠ w
    · rw [if_pos h2, if_pos ⟨h2.1, h2.2.1, by omega, h2.2.2.2.1, h2.2.2.2.2⟩]
    · rw [if_neg h2, if_neg (fun q => ?_)]
      by_cases h3 : j / 200 < k
      · exact h2 ⟨q.1, q.2.1, h3, q.2.2.2.1, q.2.2.2.2⟩
      · exact h1 ⟨q.1, by omega⟩
theorem rm_gs_f {a : zv_I} {l c w k : Nat} (h : rm_in a k c = false ∨ k = w) : rm_gs a l c w k = rm_gs a l c w (k + 1) := by
  funext t j
  unfold rm_gs
  by_cases h2 : t = 20 ∧ j % 200 = l ∧ j / 200 < k ∧ rm_in a (j / 200) c = true ∧ j / 200 ≠ w
  · rw [if_pos h2, if_pos ⟨h2.1, h2.2.1, by omega, h2.2.2.2.1, h2.2.2.2.2⟩]
  · rw [if_neg h2, if_neg (fun q => ?_)]
    by_cases h3 : j / 200 < k
    · exact h2 ⟨q.1, q.2.1, h3, q.2.2.2.1, q.2.2.2.2⟩
    · have e : j / 200 = k := by omega
      rw [e] at q
      rcases h with h | h
      · rw [h] at q; cases q.2.2.2.1
      · exact q.2.2.2.2 h
theorem rm_in_o {a b : zv_I} (h : a 6 = b 6) (m c : Nat) : rm_in a m c = rm_in b m c := by unfold rm_in; rw [h]
def rm_goes (a : zv_I) (nm l : Nat) : zv_I := rm_hld (rm_gs a l (rm_ci a l) (rm_wr a l) nm) (rm_wr a l) l
theorem cM_goes_l (d : Nat) {a : zv_I} {nm l : Nat} (hm : a 3 0 = nI nm) (hmb : nm ≤ 8) (hl : l < 200) (hc : a 11 l = nI (rm_ci a l)) (hc6 : rm_ci a l < 6) (hw : a 12 l = nI (rm_wr a l)) (hw8 : rm_wr a l < 8) : ∀ n k, k + n = nm → rm_V mX8_goes (d + 1) 9 [.ref 3, .int (nI l), .int (nI (rm_ci a l)), .int (nI k)] [] (rm_gs a l (rm_ci a l) (rm_wr a l) k) (rm_q (rm_goes a nm l)) := by
  intro n
  induction n with
  | zero =>
    intro k hk
    have hk2 : k = nm := by omega
    subst hk2
    refine rm_iload_n dX8_goes_9 rfl rfl ?_
    refine rm_aload_n dX8_goes_10 rfl rfl ?_
    refine rm_geti 0 (x := nI (k)) dX8_goes_11 flX8_78 rfl (by rw [rm_gs_o (by decide)]; exact hm) ?_
    refine rm_icN_ge (tgt := 55) dX8_goes_14 (by decide) (by omega) (by omega) (fun h14 => ?_) (fun h14 => (absurd h14 (by omega)))
    refine rm_aload_n dX8_goes_55 rfl rfl ?_
    refine rm_aload_n dX8_goes_56 rfl rfl ?_
    refine rm_getr 8 (t := 12) dX8_goes_57 flX8_22 (by decide) rfl rfl ?_
    refine rm_iload_n dX8_goes_60 rfl rfl ?_
    refine rm_iald (f := 8) (j := l) (x := nI (rm_wr a l)) dX8_goes_61 rfl (by decide) rfl rfl (rfl) (show l < 200 from by omega) (by rw [rm_gs_o (by decide)]; exact hw) ?_
    refine rm_iload_n dX8_goes_62 rfl rfl ?_
    refine rm_callV (As := [.int (nI (rm_wr a l)), .int (nI (l))]) (st := []) dX8_goes_63 cvX8_109 rfl rfl (by decide) (zv_cat_i [nI (rm_wr a l), nI (l)]) (Nat.le_of_ble_eq_true rfl) (cM_holds d (rm_gs a l (rm_ci a l) (rm_wr a l) k) (m := rm_wr a l) (l := l) hw8 hl) (fun v b q => ?_)
    obtain ⟨rfl, rfl⟩ := q
    show rm_V _ _ 66 [.ref 3, .int (nI (l)), .int (nI (rm_ci a l)), .int (nI (k))] [] _ _
    refine rm_vret dX8_goes_66 rfl ?_
    exact ⟨rfl, rfl⟩
  | succ n ih =>
    intro k hk
    refine rm_iload_n dX8_goes_9 rfl rfl ?_
    refine rm_aload_n dX8_goes_10 rfl rfl ?_
    refine rm_geti 0 (x := nI (nm)) dX8_goes_11 flX8_78 rfl (by rw [rm_gs_o (by decide)]; exact hm) ?_
    refine rm_icN_ge (tgt := 55) dX8_goes_14 (by decide) (by omega) (by omega) (fun h14 => (absurd h14 (by omega))) (fun h14 => ?_)
    refine rm_aload_n dX8_goes_17 rfl rfl ?_
    refine rm_iload_n dX8_goes_18 rfl rfl ?_
    refine rm_iload_n dX8_goes_19 rfl rfl ?_
    refine rm_callV (As := [.int (nI (k)), .int (nI (rm_ci a l))]) (st := []) dX8_goes_20 cvX8_92 rfl rfl (by decide) (zv_cat_i [nI (k), nI (rm_ci a l)]) (Nat.le_of_ble_eq_true rfl) (cM_isIn d (rm_gs a l (rm_ci a l) (rm_wr a l) k) (m := k) (c := rm_ci a l) hc6) (fun v b q => ?_)
    obtain ⟨rfl, rfl⟩ := q
    rw [rm_in_o (a := rm_gs a l (rm_ci a l) (rm_wr a l) k) (b := a) (rm_gs_o (by decide)) k (rm_ci a l)]
    show rm_V _ _ 23 [.ref 3, .int (nI (l)), .int (nI (rm_ci a l)), .int (nI (k))] [.int (rm_b (rm_in a k (rm_ci a l)))] _ _
    refine rm_ifB_eq (tgt := 49) dX8_goes_23 (by decide) (fun h23 => ?_) (fun h23 => ?_)
    · refine rm_iinc (v := nI (k + 1)) (lv' := [.ref 3, .int (nI (l)), .int (nI (rm_ci a l)), .int (nI (k + 1))]) dX8_goes_49 rfl (by rw [← nI_1]; rfl) (by decide) rfl ?_
      refine rm_goto (tgt := 9) dX8_goes_52 (by decide) ?_
      rw [rm_gs_f (Or.inl h23)]
      exact ih (k + 1) (by omega)
    · refine rm_iload_n dX8_goes_26 rfl rfl ?_
      refine rm_aload_n dX8_goes_27 rfl rfl ?_
      refine rm_getr 8 (t := 12) dX8_goes_28 flX8_22 (by decide) rfl rfl ?_
      refine rm_iload_n dX8_goes_31 rfl rfl ?_
      refine rm_iald (f := 8) (j := l) (x := nI (rm_wr a l)) dX8_goes_32 rfl (by decide) rfl rfl (rfl) (show l < 200 from by omega) (by rw [rm_gs_o (by decide)]; exact hw) ?_
      refine rm_icN_eq (tgt := 49) dX8_goes_33 (by decide) (by omega) (by omega) (fun h33 => ?_) (fun h33 => ?_)
      · refine rm_iinc (v := nI (k + 1)) (lv' := [.ref 3, .int (nI (l)), .int (nI (rm_ci a l)), .int (nI (k + 1))]) dX8_goes_49 rfl (by rw [← nI_1]; rfl) (by decide) rfl ?_
        refine rm_goto (tgt := 9) dX8_goes_52 (by decide) ?_
        rw [rm_gs_f (Or.inr h33)]
        exact ih (k + 1) (by omega)
      · refine rm_aload_n dX8_goes_36 rfl rfl ?_
        refine rm_getr 16 (t := 20) dX8_goes_37 flX8_46 (by decide) rfl rfl ?_
        refine rm_sipush (v := nI (200)) dX8_goes_40 (by decide) ?_
        refine rm_iload_n dX8_goes_43 rfl rfl ?_
        refine rm_imul dX8_goes_44 ?_
        refine rm_top (pk_mul (200) (k)) ?_
        refine rm_iload_n dX8_goes_45 rfl rfl ?_
        refine rm_iadd dX8_goes_46 ?_
        refine rm_top (nI_add (200 * k) (l)) ?_
        refine rm_iconst (v := nI (1)) dX8_goes_47 (by decide) ?_
        refine rm_iast (f := 16) (j := 200 * k + l) dX8_goes_48 rfl (by decide) rfl rfl (rfl) (show 200 * k + l < 1600 from by omega) ?_
        refine rm_iinc (v := nI (k + 1)) (lv' := [.ref 3, .int (nI (l)), .int (nI (rm_ci a l)), .int (nI (k + 1))]) dX8_goes_49 rfl (by rw [← nI_1]; rfl) (by decide) rfl ?_
        refine rm_goto (tgt := 9) dX8_goes_52 (by decide) ?_
        rw [rm_gs_t hl h23 h33]
        exact ih (k + 1) (by omega)
theorem cM_goes (d : Nat) {a : zv_I} {nm l : Nat} (hm : a 3 0 = nI nm) (hmb : nm ≤ 8) (hl : l < 200) (hc : a 11 l = nI (rm_ci a l)) (hc6 : rm_ci a l < 6) (hw : a 12 l = nI (rm_wr a l)) (hw8 : rm_wr a l < 8) : rm_V mX8_goes (d + 1) 0 [.ref 3, .int (nI l)] [] a (rm_q (rm_goes a nm l)) := by
  refine rm_aload_n dX8_goes_0 rfl rfl ?_
  refine rm_getr 7 (t := 11) dX8_goes_1 flX8_19 (by decide) rfl rfl ?_
  refine rm_iload_n dX8_goes_4 rfl rfl ?_
  refine rm_iald (f := 7) (j := l) (x := nI (rm_ci a l)) dX8_goes_5 rfl (by decide) rfl rfl (rfl) (show l < 200 from by omega) (hc) ?_
  refine rm_istore_n (lv' := [.ref 3, .int (nI (l)), .int (nI (rm_ci a l))]) dX8_goes_6 rfl (by decide) rfl ?_
  refine rm_iconst (v := nI (0)) dX8_goes_7 (by decide) ?_
  refine rm_istore_n (lv' := [.ref 3, .int (nI (l)), .int (nI (rm_ci a l)), .int (nI (0))]) dX8_goes_8 rfl (by decide) rfl ?_
  have h := cM_goes_l d hm hmb hl hc hc6 hw hw8 nm 0 (by omega)
  rw [rm_gs_0] at h
  exact h
end
section
def rm_mk (b : zv_I) (w : Nat) : Nat → Int32
  | 0 => nI 0
  | e + 1 => rm_mk b w e ||| (if rm_in b w e = true then (nI 1) <<< ((nI e) &&& 31) else nI 0)
def rm_ck (b : zv_I) (w n : Nat) : Int32 := if (rm_in b w (n / 8) && rm_in b (n % 8) (n / 8)) = true then b 21 (48 * w + n) else nI 0
def rm_mc (b : zv_I) (l w e n : Nat) : zv_I := fun t j => if t = 18 ∧ j = l then rm_mk b w e else if t = 19 ∧ 48 * l ≤ j ∧ j < 48 * l + n then rm_ck b w (j - 48 * l) else b t j
theorem rm_mc_o {b : zv_I} {l w e n t : Nat} (h : t ≠ 18) (h2 : t ≠ 19) : rm_mc b l w e n t = b t := funext fun j => by unfold rm_mc; rw [if_neg (fun q => h q.1), if_neg (fun q => h2 q.1)]
theorem rm_mc_0 {b : zv_I} {l w : Nat} (h : b 18 l = nI 0) : rm_mc b l w 0 0 = b := by
  funext t j
  unfold rm_mc
  by_cases h1 : t = 18 ∧ j = l
  · rw [if_pos h1, h1.1, h1.2, h]; rfl
  · rw [if_neg h1, if_neg (fun q => by omega)]
theorem rm_mc_r (b : zv_I) (l w e n : Nat) : rm_mc b l w e n 18 l = rm_mk b w e := if_pos ⟨rfl, rfl⟩
theorem rm_mc_e (b : zv_I) (l w e n : Nat) : zv_u (rm_mc b l w e n) 18 l (rm_mk b w (e + 1)) = rm_mc b l w (e + 1) n := by
  funext t j
  unfold zv_u rm_mc
  by_cases h1 : t = 18 ∧ j = l
  · rw [if_pos h1, if_pos h1]
  · rw [if_neg h1, if_neg h1, if_neg h1]
theorem rm_mc_n (b : zv_I) (l w e n : Nat) : zv_u (rm_mc b l w e n) 19 (48 * l + n) (rm_ck b w n) = rm_mc b l w e (n + 1) := by
  funext t j
  unfold zv_u rm_mc
  by_cases h1 : t = 19 ∧ j = 48 * l + n
  · obtain ⟨rfl, rfl⟩ := h1
    rw [if_pos ⟨rfl, rfl⟩, if_neg (fun q => by omega), if_pos ⟨rfl, by omega, by omega⟩]
    congr 1
    omega
  · rw [if_neg h1]
    by_cases h2 : t = 18 ∧ j = l
    · rw [if_pos h2, if_pos h2]
    · rw [if_neg h2, if_neg h2]
      by_cases h3 : t = 19 ∧ 48 * l ≤ j ∧ j < 48 * l + n
      · rw [if_pos h3, if_pos ⟨h3.1, h3.2.1, by omega⟩]
      · rw [if_neg h3, if_neg (fun q => by omega)]
theorem rm_ck_t {b : zv_I} {w e m : Nat} (hm : m < 8) (h1 : rm_in b w e = true) (h2 : rm_in b m e = true) : rm_ck b w (8 * e + m) = b 21 (48 * w + 8 * e + m) := by
  unfold rm_ck
  have e1 : (8 * e + m) / 8 = e := by omega
  have e2 : (8 * e + m) % 8 = m := by omega
  rw [e1, e2, h1, h2, Nat.add_assoc]
  rfl
theorem rm_ck_f {b : zv_I} {w e m : Nat} (hm : m < 8) (h : rm_in b w e = false ∨ rm_in b m e = false) : rm_ck b w (8 * e + m) = nI 0 := by
  unfold rm_ck
  have e1 : (8 * e + m) / 8 = e := by omega
  have e2 : (8 * e + m) % 8 = m := by omega
  rw [e1, e2]
  refine if_neg (fun q => ?_)
  rw [Bool.and_eq_true] at q
  rcases h with h | h
  · rw [h] at q; cases q.1
  · rw [h] at q; cases q.2
theorem cM_made_i (d : Nat) {b : zv_I} {kk x : Int32} {w c l e : Nat} {Q : Option Value → zv_I → Prop} (hw : w < 8) (hl : l < 200) (he : e < 6) (hk : rm_V mX8_made (d + 1) 223 [.ref 3, .int kk, .int (nI w), .int (nI c), .int x, .int (nI l), .int (nI e), .int (rm_b (rm_in b w e)), .int (nI 8)] [] (rm_mc b l w (e + 1) (8 * e + 8)) Q) : ∀ n m, m + n = 8 → rm_V mX8_made (d + 1) 153 [.ref 3, .int kk, .int (nI w), .int (nI c), .int x, .int (nI l), .int (nI e), .int (rm_b (rm_in b w e)), .int (nI m)] [] (rm_mc b l w (e + 1) (8 * e + m)) Q := by
  intro n
  induction n with
  | zero =>
    intro m hm
    have hm2 : m = 8 := by omega
    subst hm2
    refine rm_iload dX8_made_153 rfl ?_
    refine rm_bipush (v := nI (8)) dX8_made_155 (by decide) ?_
    refine rm_icN_ge (tgt := 223) dX8_made_157 (by decide) (by omega) (by omega) (fun h157 => ?_) (fun h157 => (absurd h157 (by omega)))
    exact hk
  | succ n ih =>
    intro m hm
    refine rm_iload dX8_made_153 rfl ?_
    refine rm_bipush (v := nI (8)) dX8_made_155 (by decide) ?_
    refine rm_icN_ge (tgt := 223) dX8_made_157 (by decide) (by omega) (by omega) (fun h157 => (absurd h157 (by omega))) (fun h157 => ?_)
    refine rm_aload_n dX8_made_160 rfl rfl ?_
    refine rm_getr 15 (t := 19) dX8_made_161 flX8_43 (by decide) rfl rfl ?_
    refine rm_bipush (v := nI (48)) dX8_made_164 (by decide) ?_
    refine rm_iload dX8_made_166 rfl ?_
    refine rm_imul dX8_made_168 ?_
    refine rm_top (pk_mul (48) (l)) ?_
    refine rm_bipush (v := nI (8)) dX8_made_169 (by decide) ?_
    refine rm_iload dX8_made_171 rfl ?_
    refine rm_imul dX8_made_173 ?_
    refine rm_top (pk_mul (8) (e)) ?_
    refine rm_iadd dX8_made_174 ?_
    refine rm_top (nI_add (48 * l) (8 * e)) ?_
    refine rm_iload dX8_made_175 rfl ?_
    refine rm_iadd dX8_made_177 ?_
    refine rm_top (nI_add (48 * l + (8 * e)) (m)) ?_
    refine rm_iload dX8_made_178 rfl ?_
    refine rm_ifB_eq (tgt := 215) dX8_made_180 (by decide) (fun h180 => ?_) (fun h180 => ?_)
    · refine rm_iconst (v := nI (0)) dX8_made_215 (by decide) ?_
      refine rm_iast (f := 15) (j := 48 * l + (8 * e) + m) dX8_made_216 rfl (by decide) rfl rfl (rfl) (show 48 * l + (8 * e) + m < 9600 from by omega) ?_
      refine rm_iinc (v := nI (m + 1)) (lv' := [.ref 3, .int (kk), .int (nI (w)), .int (nI (c)), .int (x), .int (nI (l)), .int (nI (e)), .int (rm_b (rm_in b w e)), .int (nI (m + 1))]) dX8_made_217 rfl (by rw [← nI_1]; rfl) (by decide) rfl ?_
      refine rm_goto (tgt := 153) dX8_made_220 (by decide) ?_
      rw [← rm_ck_f (by omega) (Or.inl h180), Nat.add_assoc (48 * l), rm_mc_n]
      exact ih (m + 1) (by omega)
    · refine rm_aload_n dX8_made_183 rfl rfl ?_
      refine rm_iload dX8_made_184 rfl ?_
      refine rm_iload dX8_made_186 rfl ?_
      refine rm_callV (As := [.int (nI (m)), .int (nI (e))]) (st := [.int (nI (48 * l + (8 * e) + m)), .ref 19]) dX8_made_188 cvX8_92 rfl rfl (by decide) (zv_cat_i [nI (m), nI (e)]) (Nat.le_of_ble_eq_true rfl) (cM_isIn d (rm_mc b l w (e + 1) (8 * e + m)) (m := m) (c := e) he) (fun v b q => ?_)
      obtain ⟨rfl, rfl⟩ := q
      rw [rm_in_o (a := rm_mc b l w (e + 1) (8 * e + m)) (b := b) (rm_mc_o (by decide) (by decide)) m e]
      show rm_V _ _ 191 [.ref 3, .int (kk), .int (nI (w)), .int (nI (c)), .int (x), .int (nI (l)), .int (nI (e)), .int (rm_b (rm_in b w e)), .int (nI (m))] [.int (rm_b (rm_in b m e)), .int (nI (48 * l + (8 * e) + m)), .ref 19] _ _
      refine rm_ifB_eq (tgt := 215) dX8_made_191 (by decide) (fun h191 => ?_) (fun h191 => ?_)
      · refine rm_iconst (v := nI (0)) dX8_made_215 (by decide) ?_
        refine rm_iast (f := 15) (j := 48 * l + (8 * e) + m) dX8_made_216 rfl (by decide) rfl rfl (rfl) (show 48 * l + (8 * e) + m < 9600 from by omega) ?_
        refine rm_iinc (v := nI (m + 1)) (lv' := [.ref 3, .int (kk), .int (nI (w)), .int (nI (c)), .int (x), .int (nI (l)), .int (nI (e)), .int (rm_b (rm_in b w e)), .int (nI (m + 1))]) dX8_made_217 rfl (by rw [← nI_1]; rfl) (by decide) rfl ?_
        refine rm_goto (tgt := 153) dX8_made_220 (by decide) ?_
        rw [← rm_ck_f (by omega) (Or.inr h191), Nat.add_assoc (48 * l), rm_mc_n]
        exact ih (m + 1) (by omega)
      · refine rm_aload_n dX8_made_194 rfl rfl ?_
        refine rm_getr 17 (t := 21) dX8_made_195 flX8_49 (by decide) rfl rfl ?_
        refine rm_bipush (v := nI (48)) dX8_made_198 (by decide) ?_
        refine rm_iload_n dX8_made_200 rfl rfl ?_
        refine rm_imul dX8_made_201 ?_
        refine rm_top (pk_mul (48) (w)) ?_
        refine rm_bipush (v := nI (8)) dX8_made_202 (by decide) ?_
        refine rm_iload dX8_made_204 rfl ?_
        refine rm_imul dX8_made_206 ?_
        refine rm_top (pk_mul (8) (e)) ?_
        refine rm_iadd dX8_made_207 ?_
        refine rm_top (nI_add (48 * w) (8 * e)) ?_
        refine rm_iload dX8_made_208 rfl ?_
        refine rm_iadd dX8_made_210 ?_
        refine rm_top (nI_add (48 * w + (8 * e)) (m)) ?_
        refine rm_iald (f := 17) (j := 48 * w + (8 * e) + m) (x := b 21 (48 * w + 8 * e + m)) dX8_made_211 rfl (by decide) rfl rfl (rfl) (show 48 * w + (8 * e) + m < 384 from by omega) (by rw [rm_mc_o (by decide) (by decide)]) ?_
        refine rm_goto (tgt := 216) dX8_made_212 (by decide) ?_
        refine rm_iast (f := 15) (j := 48 * l + (8 * e) + m) dX8_made_216 rfl (by decide) rfl rfl (rfl) (show 48 * l + (8 * e) + m < 9600 from by omega) ?_
        refine rm_iinc (v := nI (m + 1)) (lv' := [.ref 3, .int (kk), .int (nI (w)), .int (nI (c)), .int (x), .int (nI (l)), .int (nI (e)), .int (rm_b (rm_in b w e)), .int (nI (m + 1))]) dX8_made_217 rfl (by rw [← nI_1]; rfl) (by decide) rfl ?_
        refine rm_goto (tgt := 153) dX8_made_220 (by decide) ?_
        rw [← rm_ck_t (by omega) h180 h191, Nat.add_assoc (48 * l), rm_mc_n]
        exact ih (m + 1) (by omega)
theorem cM_made_o (d : Nat) {b : zv_I} {kk x : Int32} {w c l nc : Nat} {Q : Option Value → zv_I → Prop} (hc : b 3 1 = nI nc) (hcb : nc ≤ 6) (hw : w < 8) (hl : l < 200) (hk : rm_V mX8_made (d + 1) 229 [.ref 3, .int kk, .int (nI w), .int (nI c), .int x, .int (nI l)] [] (rm_mc b l w (nc) (8 * nc)) Q) : ∀ n e, e + n = nc → ∀ rest, rm_V mX8_made (d + 1) 109 ([.ref 3, .int kk, .int (nI w), .int (nI c), .int x, .int (nI l), .int (nI e)] ++ rest) [] (rm_mc b l w (e) (8 * e)) Q := by
  intro n
  induction n with
  | zero =>
    intro e he rest
    have he2 : e = nc := by omega
    subst he2
    refine rm_less ⟨rest, rfl⟩ ?_
    refine rm_iload dX8_made_109 rfl ?_
    refine rm_aload_n dX8_made_111 rfl rfl ?_
    refine rm_geti 1 (x := nI (e)) dX8_made_112 flX8_86 rfl (by rw [rm_mc_o (by decide) (by decide)]; exact hc) ?_
    refine rm_icN_ge (tgt := 229) dX8_made_115 (by decide) (by omega) (by omega) (fun h115 => ?_) (fun h115 => (absurd h115 (by omega)))
    exact rm_less ⟨[.int (nI e)], rfl⟩ hk
  | succ n ih =>
    intro e he rest
    refine rm_less ⟨rest, rfl⟩ ?_
    refine rm_iload dX8_made_109 rfl ?_
    refine rm_aload_n dX8_made_111 rfl rfl ?_
    refine rm_geti 1 (x := nI (nc)) dX8_made_112 flX8_86 rfl (by rw [rm_mc_o (by decide) (by decide)]; exact hc) ?_
    refine rm_icN_ge (tgt := 229) dX8_made_115 (by decide) (by omega) (by omega) (fun h115 => (absurd h115 (by omega))) (fun h115 => ?_)
    refine rm_aload_n dX8_made_118 rfl rfl ?_
    refine rm_iload_n dX8_made_119 rfl rfl ?_
    refine rm_iload dX8_made_120 rfl ?_
    refine rm_callV (As := [.int (nI (w)), .int (nI (e))]) (st := []) dX8_made_122 cvX8_92 rfl rfl (by decide) (zv_cat_i [nI (w), nI (e)]) (Nat.le_of_ble_eq_true rfl) (cM_isIn d (rm_mc b l w (e) (8 * e)) (m := w) (c := e) (by omega)) (fun v b q => ?_)
    obtain ⟨rfl, rfl⟩ := q
    rw [rm_in_o (a := rm_mc b l w (e) (8 * e)) (b := b) (rm_mc_o (by decide) (by decide)) w e]
    show rm_V _ _ 125 [.ref 3, .int (kk), .int (nI (w)), .int (nI (c)), .int (x), .int (nI (l)), .int (nI (e))] [.int (rm_b (rm_in b w e))] _ _
    refine rm_istore (lv' := [.ref 3, .int (kk), .int (nI (w)), .int (nI (c)), .int (x), .int (nI (l)), .int (nI (e)), .int (rm_b (rm_in b w e))]) dX8_made_125 (by decide) rfl ?_
    refine rm_aload_n dX8_made_127 rfl rfl ?_
    refine rm_getr 14 (t := 18) dX8_made_128 flX8_40 (by decide) rfl rfl ?_
    refine rm_iload dX8_made_131 rfl ?_
    refine rm_dup2 dX8_made_133 rfl rfl ?_
    refine rm_iald (f := 14) (j := l) (x := (rm_mk b w e)) dX8_made_134 rfl (by decide) rfl rfl (rfl) (show l < 200 from by omega) (rm_mc_r b l w e (8 * e)) ?_
    refine rm_iload dX8_made_135 rfl ?_
    refine rm_ifB_eq (tgt := 147) dX8_made_137 (by decide) (fun h137 => ?_) (fun h137 => ?_)
    · refine rm_iconst (v := nI (0)) dX8_made_147 (by decide) ?_
      refine rm_ior dX8_made_148 ?_
      refine rm_iast (f := 14) (j := l) dX8_made_149 rfl (by decide) rfl rfl (rfl) (show l < 200 from by omega) ?_
      refine rm_iconst (v := nI (0)) dX8_made_150 (by decide) ?_
      refine rm_istore (lv' := [.ref 3, .int (kk), .int (nI (w)), .int (nI (c)), .int (x), .int (nI (l)), .int (nI (e)), .int (rm_b (rm_in b w e)), .int (nI (0))]) dX8_made_151 (by decide) rfl ?_
      rw [show rm_mk b w e ||| nI 0 = rm_mk b w (e + 1) from by show _ = rm_mk b w e ||| (if rm_in b w e = true then _ else nI 0); rw [h137]; rfl, rm_mc_e]
      refine cM_made_i d hw hl (by omega) ?_ 8 0 (by omega)
      refine rm_iinc (v := nI (e + 1)) (lv' := [.ref 3, .int kk, .int (nI w), .int (nI c), .int x, .int (nI l), .int (nI (e + 1)), .int (rm_b (rm_in b w e)), .int (nI 8)]) dX8_made_223 rfl (by rw [← nI_1]; rfl) (by decide) rfl ?_
      refine rm_goto (tgt := 109) dX8_made_226 (by decide) ?_
      exact ih (e + 1) (by omega) [.int (rm_b (rm_in b w e)), .int (nI 8)]
    · refine rm_iconst (v := nI (1)) dX8_made_140 (by decide) ?_
      refine rm_iload dX8_made_141 rfl ?_
      refine rm_ishl dX8_made_143 ?_
      refine rm_goto (tgt := 148) dX8_made_144 (by decide) ?_
      refine rm_ior dX8_made_148 ?_
      refine rm_iast (f := 14) (j := l) dX8_made_149 rfl (by decide) rfl rfl (rfl) (show l < 200 from by omega) ?_
      refine rm_iconst (v := nI (0)) dX8_made_150 (by decide) ?_
      refine rm_istore (lv' := [.ref 3, .int (kk), .int (nI (w)), .int (nI (c)), .int (x), .int (nI (l)), .int (nI (e)), .int (rm_b (rm_in b w e)), .int (nI (0))]) dX8_made_151 (by decide) rfl ?_
      rw [show rm_mk b w e ||| ((nI 1) <<< ((nI e) &&& 31)) = rm_mk b w (e + 1) from by show _ = rm_mk b w e ||| (if rm_in b w e = true then (nI 1) <<< ((nI e) &&& 31) else nI 0); rw [h137]; rfl, rm_mc_e]
      refine cM_made_i d hw hl (by omega) ?_ 8 0 (by omega)
      refine rm_iinc (v := nI (e + 1)) (lv' := [.ref 3, .int kk, .int (nI w), .int (nI c), .int x, .int (nI l), .int (nI (e + 1)), .int (rm_b (rm_in b w e)), .int (nI 8)]) dX8_made_223 rfl (by rw [← nI_1]; rfl) (by decide) rfl ?_
      refine rm_goto (tgt := 109) dX8_made_226 (by decide) ?_
      exact ih (e + 1) (by omega) [.int (rm_b (rm_in b w e)), .int (nI 8)]
def rm_kn (b : zv_I) (w x : Nat) : Bool := decide (b 12 x = nI w ∨ b 20 (200 * w + x) = nI 3)
def rm_ib (b : zv_I) (x y : Nat) : Bool := decide (¬ b 26 (200 * x + y) = 0)
def rm_bq (b : zv_I) (w : Nat) : Nat → Nat → Bool
  | 0, _ => false
  | X + 1, y => rm_bq b w X y || (rm_kn b w X && (decide (y = X) || (decide (y < X) && rm_ib b X y)))
def rm_bs (b : zv_I) (l : Nat) (f : Nat → Bool) : zv_I := fun t j => if t = 26 ∧ 200 * l ≤ j ∧ j < 200 * l + l then rm_b (f (j - 200 * l)) else b t j
theorem rm_bs_o {b : zv_I} {l t : Nat} {f : Nat → Bool} (h : t ≠ 26) : rm_bs b l f t = b t := funext fun j => if_neg fun q => h q.1
theorem rm_bs_0 {b : zv_I} {l : Nat} (h : ∀ y, y < l → b 26 (200 * l + y) = 0) : rm_bs b l (fun _ => false) = b := by
  funext t j
  unfold rm_bs
  by_cases h1 : t = 26 ∧ 200 * l ≤ j ∧ j < 200 * l + l
  · rw [if_pos h1, h1.1]
    have h2 := h (j - 200 * l) (by omega)
    rw [show 200 * l + (j - 200 * l) = j by omega] at h2
    rw [h2]; rfl
  · rw [if_neg h1]
theorem rm_bs_u {b : zv_I} {l y : Nat} {f : Nat → Bool} (hy : y < l) (v : Bool) : zv_u (rm_bs b l f) 26 (200 * l + y) (rm_b v) = rm_bs b l (fun z => if z = y then v else f z) := by
  funext t j
  unfold zv_u rm_bs
  by_cases h1 : t = 26 ∧ j = 200 * l + y
  · obtain ⟨rfl, rfl⟩ := h1
    rw [if_pos ⟨rfl, rfl⟩, if_pos ⟨rfl, by omega, by omega⟩]
    show rm_b v = rm_b (if 200 * l + y - 200 * l = y then v else f (200 * l + y - 200 * l))
    rw [if_pos (by omega)]
  · rw [if_neg h1]
    by_cases h2 : t = 26 ∧ 200 * l ≤ j ∧ j < 200 * l + l
    · rw [if_pos h2, if_pos h2]
      show _ = rm_b (if j - 200 * l = y then v else f (j - 200 * l))
      rw [if_neg (fun q => h1 ⟨h2.1, by omega⟩)]
    · rw [if_neg h2, if_neg h2]
theorem rm_bs_r {b : zv_I} {l y : Nat} {f : Nat → Bool} (hy : y < l) : rm_bs b l f 26 (200 * l + y) = rm_b (f y) := by
  unfold rm_bs
  rw [if_pos ⟨rfl, by omega, by omega⟩]
  congr 2
  omega
theorem rm_bs_x {b : zv_I} {l x y : Nat} {f : Nat → Bool} (hx : x < l) (hy : y < 200) : rm_bs b l f 26 (200 * x + y) = b 26 (200 * x + y) := if_neg (fun q => by omega)
def rm_b2 (b : zv_I) (w X Y z : Nat) : Bool := if z = X then true else (rm_bq b w X z || (decide (z < Y) && rm_ib b X z))
theorem rm_b2_0 (b : zv_I) (w X : Nat) : (fun z => if z = X then true else rm_bq b w X z) = rm_b2 b w X 0 := by
  funext z
  unfold rm_b2
  by_cases h : z = X
  · rw [if_pos h, if_pos h]
  · rw [if_neg h, if_neg h, show decide (z < 0) = false from rfl]
    simp
theorem rm_b2_s {b : zv_I} {w X y : Nat} {v : Bool} (hy : y < X) (hv : v = (rm_b2 b w X y y || rm_ib b X y)) : (fun z => if z = y then v else rm_b2 b w X y z) = rm_b2 b w X (y + 1) := by
  funext z
  by_cases h : z = y
  · subst h
    rw [if_pos rfl, hv]
    unfold rm_b2
    rw [if_neg (by omega), if_neg (by omega), decide_eq_false (Nat.lt_irrefl z), decide_eq_true (Nat.lt_succ_self z)]
    simp
  · rw [if_neg h]
    unfold rm_b2
    by_cases h2 : z = X
    · rw [if_pos h2, if_pos h2]
    · rw [if_neg h2, if_neg h2]
      congr 2
      exact decide_eq_decide.mpr ⟨fun q => by omega, fun q => by omega⟩
theorem rm_b2_X {b : zv_I} {w X : Nat} (h : rm_kn b w X = true) : rm_b2 b w X X = rm_bq b w (X + 1) := by
  funext z
  show (if z = X then true else (rm_bq b w X z || (decide (z < X) && rm_ib b X z))) = (rm_bq b w X z || (rm_kn b w X && (decide (z = X) || (decide (z < X) && rm_ib b X z))))
  rw [h]
  by_cases h2 : z = X
  · rw [if_pos h2, decide_eq_true h2]; simp
  · rw [if_neg h2, decide_eq_false h2]; simp
theorem rm_bq_n {b : zv_I} {w X : Nat} (h : rm_kn b w X = false) : rm_bq b w X = rm_bq b w (X + 1) := by
  funext z
  show _ = (rm_bq b w X z || (rm_kn b w X && (decide (z = X) || (decide (z < X) && rm_ib b X z))))
  rw [h]; simp
theorem cM_made_y (d : Nat) {b : zv_I} {kk x : Int32} {w c l X : Nat} {Q : Option Value → zv_I → Prop} (hl : l < 200) (hX : X < l) (hk : rm_V mX8_made d 351 [.ref 3, .int kk, .int (nI w), .int (nI c), .int x, .int (nI l), .int (nI X), .int (nI X)] [] (rm_bs b l (rm_b2 b w X X)) Q) : ∀ n y, y + n = X → rm_V mX8_made d 285 [.ref 3, .int kk, .int (nI w), .int (nI c), .int x, .int (nI l), .int (nI X), .int (nI y)] [] (rm_bs b l (rm_b2 b w X y)) Q := by
  intro n
  induction n with
  | zero =>
    intro y hy
    have hy2 : y = X := by omega
    subst hy2
    refine rm_iload dX8_made_285 rfl ?_
    refine rm_iload dX8_made_287 rfl ?_
    refine rm_icN_ge (tgt := 351) dX8_made_289 (by decide) (by omega) (by omega) (fun h289 => ?_) (fun h289 => (absurd h289 (by omega)))
    exact hk
  | succ n ih =>
    intro y hy
    refine rm_iload dX8_made_285 rfl ?_
    refine rm_iload dX8_made_287 rfl ?_
    refine rm_icN_ge (tgt := 351) dX8_made_289 (by decide) (by omega) (by omega) (fun h289 => (absurd h289 (by omega))) (fun h289 => ?_)
    refine rm_aload_n dX8_made_292 rfl rfl ?_
    refine rm_getr 22 (t := 26) dX8_made_293 flX8_65 (by decide) rfl rfl ?_
    refine rm_sipush (v := nI (200)) dX8_made_296 (by decide) ?_
    refine rm_iload dX8_made_299 rfl ?_
    refine rm_imul dX8_made_301 ?_
    refine rm_top (pk_mul (200) (l)) ?_
    refine rm_iload dX8_made_302 rfl ?_
    refine rm_iadd dX8_made_304 ?_
    refine rm_top (nI_add (200 * l) (y)) ?_
    refine rm_aload_n dX8_made_305 rfl rfl ?_
    refine rm_getr 22 (t := 26) dX8_made_306 flX8_65 (by decide) rfl rfl ?_
    refine rm_sipush (v := nI (200)) dX8_made_309 (by decide) ?_
    refine rm_iload dX8_made_312 rfl ?_
    refine rm_imul dX8_made_314 ?_
    refine rm_top (pk_mul (200) (l)) ?_
    refine rm_iload dX8_made_315 rfl ?_
    refine rm_iadd dX8_made_317 ?_
    refine rm_top (nI_add (200 * l) (y)) ?_
    refine rm_zald (j := 200 * l + y) (x := rm_b (rm_b2 b w X y y)) dX8_made_318 (rfl) (by omega) (rm_bs_r (by omega)) ?_
    refine rm_ifB_ne (tgt := 339) dX8_made_319 (by decide) (fun h319 => ?_) (fun h319 => ?_)
    · refine rm_iconst (v := nI (1)) dX8_made_339 (by decide) ?_
      refine rm_goto (tgt := 344) dX8_made_340 (by decide) ?_
      refine rm_zast (j := 200 * l + y) dX8_made_344 (rfl) (by omega) (rfl) ?_
      refine rm_iinc (v := nI (y + 1)) (lv' := [.ref 3, .int (kk), .int (nI (w)), .int (nI (c)), .int (x), .int (nI (l)), .int (nI (X)), .int (nI (y + 1))]) dX8_made_345 rfl (by rw [← nI_1]; rfl) (by decide) rfl ?_
      refine rm_goto (tgt := 285) dX8_made_348 (by decide) ?_
      have e1 := rm_bs_u (b := b) (l := l) (y := y) (f := rm_b2 b w X y) (by omega) true
      rw [rm_b2_s (v := true) (by omega) (by rw [h319]; rfl)] at e1
      have h9 := ih (y + 1) (by omega)
      rw [← e1] at h9
      exact h9
    · refine rm_aload_n dX8_made_322 rfl rfl ?_
      refine rm_getr 22 (t := 26) dX8_made_323 flX8_65 (by decide) rfl rfl ?_
      refine rm_sipush (v := nI (200)) dX8_made_326 (by decide) ?_
      refine rm_iload dX8_made_329 rfl ?_
      refine rm_imul dX8_made_331 ?_
      refine rm_top (pk_mul (200) (X)) ?_
      refine rm_iload dX8_made_332 rfl ?_
      refine rm_iadd dX8_made_334 ?_
      refine rm_top (nI_add (200 * X) (y)) ?_
      refine rm_zald (j := 200 * X + y) (x := b 26 (200 * X + y)) dX8_made_335 (rfl) (by omega) (rm_bs_x hX (by omega)) ?_
      refine rm_if_eq (tgt := 343) dX8_made_336 (by decide) (fun h336 => ?_) (fun h336 => ?_)
      · refine rm_iconst (v := nI (0)) dX8_made_343 (by decide) ?_
        refine rm_zast (j := 200 * l + y) dX8_made_344 (rfl) (by omega) (rfl) ?_
        refine rm_iinc (v := nI (y + 1)) (lv' := [.ref 3, .int (kk), .int (nI (w)), .int (nI (c)), .int (x), .int (nI (l)), .int (nI (X)), .int (nI (y + 1))]) dX8_made_345 rfl (by rw [← nI_1]; rfl) (by decide) rfl ?_
        refine rm_goto (tgt := 285) dX8_made_348 (by decide) ?_
        have e1 := rm_bs_u (b := b) (l := l) (y := y) (f := rm_b2 b w X y) (by omega) false
        rw [rm_b2_s (v := false) (by omega) (by unfold rm_ib; rw [h319, decide_eq_false (fun q => q h336)]; rfl)] at e1
        have h9 := ih (y + 1) (by omega)
        rw [← e1] at h9
        exact h9
      · refine rm_iconst (v := nI (1)) dX8_made_339 (by decide) ?_
        refine rm_goto (tgt := 344) dX8_made_340 (by decide) ?_
        refine rm_zast (j := 200 * l + y) dX8_made_344 (rfl) (by omega) (rfl) ?_
        refine rm_iinc (v := nI (y + 1)) (lv' := [.ref 3, .int (kk), .int (nI (w)), .int (nI (c)), .int (x), .int (nI (l)), .int (nI (X)), .int (nI (y + 1))]) dX8_made_345 rfl (by rw [← nI_1]; rfl) (by decide) rfl ?_
        refine rm_goto (tgt := 285) dX8_made_348 (by decide) ?_
        have e1 := rm_bs_u (b := b) (l := l) (y := y) (f := rm_b2 b w X y) (by omega) true
        rw [rm_b2_s (v := true) (by omega) (by unfold rm_ib; rw [h319, decide_eq_true h336]; rfl)] at e1
        have h9 := ih (y + 1) (by omega)
        rw [← e1] at h9
        exact h9
theorem cM_made_x (d : Nat) {b : zv_I} {kk x : Int32} {w c l : Nat} {Q : Option Value → zv_I → Prop} (hw : w < 8) (hl : l < 200) (hQ : Q (some (.int (nI l))) (rm_bs b l (rm_bq b w l))) : ∀ n X, X + n = l → ∀ rest, rm_V mX8_made d 232 ([.ref 3, .int kk, .int (nI w), .int (nI c), .int x, .int (nI l), .int (nI X)] ++ rest) [] (rm_bs b l (rm_bq b w X)) Q := by
  intro n
  induction n with
  | zero =>
    intro X hX rest
    have hX2 : X = l := by omega
    subst hX2
    refine rm_less ⟨rest, rfl⟩ ?_
    refine rm_iload dX8_made_232 rfl ?_
    refine rm_iload dX8_made_234 rfl ?_
    refine rm_icN_ge (tgt := 357) dX8_made_236 (by decide) (by omega) (by omega) (fun h236 => ?_) (fun h236 => (absurd h236 (by omega)))
    refine rm_iload dX8_made_357 rfl ?_
    refine rm_iret dX8_made_359 rfl rfl ?_
    exact hQ
  | succ n ih =>
    intro X hX rest
    refine rm_less ⟨rest, rfl⟩ ?_
    refine rm_iload dX8_made_232 rfl ?_
    refine rm_iload dX8_made_234 rfl ?_
    refine rm_icN_ge (tgt := 357) dX8_made_236 (by decide) (by omega) (by omega) (fun h236 => (absurd h236 (by omega))) (fun h236 => ?_)
    refine rm_aload_n dX8_made_239 rfl rfl ?_
    refine rm_getr 8 (t := 12) dX8_made_240 flX8_22 (by decide) rfl rfl ?_
    refine rm_iload dX8_made_243 rfl ?_
    refine rm_iald (f := 8) (j := X) (x := b 12 X) dX8_made_245 rfl (by decide) rfl rfl (rfl) (show X < 200 from by omega) (by rw [rm_bs_o (by decide)]) ?_
    refine rm_iload_n dX8_made_246 rfl rfl ?_
    refine rm_icmp_eq (tgt := 267) dX8_made_247 (by decide) (fun h247 => ?_) (fun h247 => ?_)
    · refine rm_aload_n dX8_made_267 rfl rfl ?_
      refine rm_getr 22 (t := 26) dX8_made_268 flX8_65 (by decide) rfl rfl ?_
      refine rm_sipush (v := nI (200)) dX8_made_271 (by decide) ?_
      refine rm_iload dX8_made_274 rfl ?_
      refine rm_imul dX8_made_276 ?_
      refine rm_top (pk_mul (200) (l)) ?_
      refine rm_iload dX8_made_277 rfl ?_
      refine rm_iadd dX8_made_279 ?_
      refine rm_top (nI_add (200 * l) (X)) ?_
      refine rm_iconst (v := nI (1)) dX8_made_280 (by decide) ?_
      refine rm_zast (j := 200 * l + X) dX8_made_281 (rfl) (by omega) (rfl) ?_
      refine rm_iconst (v := nI (0)) dX8_made_282 (by decide) ?_
      refine rm_istore (lv' := [.ref 3, .int (kk), .int (nI (w)), .int (nI (c)), .int (x), .int (nI (l)), .int (nI (X)), .int (nI (0))]) dX8_made_283 (by decide) rfl ?_
      have e1 := rm_bs_u (b := b) (l := l) (y := X) (f := rm_bq b w X) (by omega) true
      rw [rm_b2_0] at e1
      have h9 := cM_made_y d (b := b) (kk := kk) (x := x) (w := w) (c := c) (l := l) (X := X) (Q := Q) hl (by omega) ?_ X 0 (by omega)
      · rw [← e1] at h9
        exact h9
      · rw [rm_b2_X (decide_eq_true (Or.inl h247))]
        refine rm_iinc (v := nI (X + 1)) (lv' := [.ref 3, .int kk, .int (nI w), .int (nI c), .int x, .int (nI l), .int (nI (X + 1)), .int (nI X)]) dX8_made_351 rfl (by rw [← nI_1]; rfl) (by decide) rfl ?_
        refine rm_goto (tgt := 232) dX8_made_354 (by decide) ?_
        exact ih (X + 1) (by omega) [.int (nI X)]
    · refine rm_aload_n dX8_made_250 rfl rfl ?_
      refine rm_getr 16 (t := 20) dX8_made_251 flX8_46 (by decide) rfl rfl ?_
      refine rm_sipush (v := nI (200)) dX8_made_254 (by decide) ?_
      refine rm_iload_n dX8_made_257 rfl rfl ?_
      refine rm_imul dX8_made_258 ?_
      refine rm_top (pk_mul (200) (w)) ?_
      refine rm_iload dX8_made_259 rfl ?_
      refine rm_iadd dX8_made_261 ?_
      refine rm_top (nI_add (200 * w) (X)) ?_
      refine rm_iald (f := 16) (j := 200 * w + X) (x := b 20 (200 * w + X)) dX8_made_262 rfl (by decide) rfl rfl (rfl) (show 200 * w + X < 1600 from by omega) (by rw [rm_bs_o (by decide)]) ?_
      refine rm_iconst (v := nI (3)) dX8_made_263 (by decide) ?_
      refine rm_icmp_ne (tgt := 351) dX8_made_264 (by decide) (fun h264 => ?_) (fun h264 => ?_)
      · refine rm_iinc (v := nI (X + 1)) (lv' := [.ref 3, .int (kk), .int (nI (w)), .int (nI (c)), .int (x), .int (nI (l)), .int (nI (X + 1))]) dX8_made_351 rfl (by rw [← nI_1]; rfl) (by decide) rfl ?_
        refine rm_goto (tgt := 232) dX8_made_354 (by decide) ?_
        rw [rm_bq_n (b := b) (w := w) (X := X) (decide_eq_false (fun q => q.elim h247 h264))]
        exact ih (X + 1) (by omega) []
      · refine rm_aload_n dX8_made_267 rfl rfl ?_
        refine rm_getr 22 (t := 26) dX8_made_268 flX8_65 (by decide) rfl rfl ?_
        refine rm_sipush (v := nI (200)) dX8_made_271 (by decide) ?_
        refine rm_iload dX8_made_274 rfl ?_
        refine rm_imul dX8_made_276 ?_
        refine rm_top (pk_mul (200) (l)) ?_
        refine rm_iload dX8_made_277 rfl ?_
        refine rm_iadd dX8_made_279 ?_
        refine rm_top (nI_add (200 * l) (X)) ?_
        refine rm_iconst (v := nI (1)) dX8_made_280 (by decide) ?_
        refine rm_zast (j := 200 * l + X) dX8_made_281 (rfl) (by omega) (rfl) ?_
        refine rm_iconst (v := nI (0)) dX8_made_282 (by decide) ?_
        refine rm_istore (lv' := [.ref 3, .int (kk), .int (nI (w)), .int (nI (c)), .int (x), .int (nI (l)), .int (nI (X)), .int (nI (0))]) dX8_made_283 (by decide) rfl ?_
        have e1 := rm_bs_u (b := b) (l := l) (y := X) (f := rm_bq b w X) (by omega) true
        rw [rm_b2_0] at e1
        have h9 := cM_made_y d (b := b) (kk := kk) (x := x) (w := w) (c := c) (l := l) (X := X) (Q := Q) hl (by omega) ?_ X 0 (by omega)
        · rw [← e1] at h9
          exact h9
        · rw [rm_b2_X (decide_eq_true (Or.inr h264))]
          refine rm_iinc (v := nI (X + 1)) (lv' := [.ref 3, .int kk, .int (nI w), .int (nI c), .int x, .int (nI l), .int (nI (X + 1)), .int (nI X)]) dX8_made_351 rfl (by rw [← nI_1]; rfl) (by decide) rfl ?_
          refine rm_goto (tgt := 232) dX8_made_354 (by decide) ?_
          exact ih (X + 1) (by omega) [.int (nI X)]
def rm_m0 (a : zv_I) (l : Nat) (kk : Int32) (w c : Nat) (x : Int32) : zv_I := zv_u (zv_u (zv_u (zv_u (zv_u (zv_u (zv_u (zv_u (zv_u (zv_u a 3 4 (nI (l + 1))) 10 (l) (kk)) 11 (l) (nI (c))) 12 (l) (nI (w))) 14 (l) (x)) 15 (l) ((-1 : Int32))) 16 (l) ((-1 : Int32))) 22 (6 * w + c) ((a 22 (6 * w + c)) + (nI 1))) 13 (l) ((a 22 (6 * w + c)) + (nI 1))) 18 (l) (nI 0)
def rm_m1 (a : zv_I) (nc l : Nat) (kk : Int32) (w c : Nat) (x : Int32) : zv_I := rm_mc (rm_m0 a l kk w c x) l w nc (8 * nc)
def rm_mad (a : zv_I) (nc l : Nat) (kk : Int32) (w c : Nat) (x : Int32) : zv_I := rm_bs (rm_m1 a nc l kk w c x) l (rm_bq (rm_m1 a nc l kk w c x) w l)
theorem rm_m0_26 (a : zv_I) (l : Nat) (kk : Int32) (w c : Nat) (x : Int32) : rm_m0 a l kk w c x 26 = a 26 := by
  funext j
  rfl
theorem cM_made (d : Nat) {a : zv_I} {nc l w c : Nat} {kk x : Int32} (hn : a 3 4 = nI l) (hl : l < 200) (hc : a 3 1 = nI nc) (hcb : nc ≤ 6) (hw : w < 8) (hcc : c < 6) (h26 : ∀ y, y < l → a 26 (200 * l + y) = 0) : rm_V mX8_made (d + 1) 0 [.ref 3, .int kk, .int (nI w), .int (nI c), .int x] [] a (rm_p (nI l) (rm_mad a nc l kk w c x)) := by
  refine rm_aload_n dX8_made_0 rfl rfl ?_
  refine rm_geti 4 (x := nI (l)) dX8_made_1 flX8_89 rfl (hn) ?_
  refine rm_istore (lv' := [.ref 3, .int (kk), .int (nI (w)), .int (nI (c)), .int (x), .int (nI (l))]) dX8_made_4 (by decide) rfl ?_
  refine rm_aload_n dX8_made_6 rfl rfl ?_
  refine rm_dup dX8_made_7 rfl ?_
  refine rm_geti 4 (x := nI (l)) dX8_made_8 flX8_89 rfl (hn) ?_
  refine rm_iconst (v := nI (1)) dX8_made_11 (by decide) ?_
  refine rm_iadd dX8_made_12 ?_
  refine rm_top (nI_add (l) (1)) ?_
  refine rm_puti 4 dX8_made_13 fwX8_89 rfl ?_
  refine rm_aload_n dX8_made_16 rfl rfl ?_
  refine rm_getr 6 (t := 10) dX8_made_17 flX8_16 (by decide) rfl rfl ?_
  refine rm_iload dX8_made_20 rfl ?_
  refine rm_iload_n dX8_made_22 rfl rfl ?_
  refine rm_iast (f := 6) (j := l) dX8_made_23 rfl (by decide) rfl rfl (rfl) (show l < 200 from by omega) ?_
  refine rm_aload_n dX8_made_24 rfl rfl ?_
  refine rm_getr 7 (t := 11) dX8_made_25 flX8_19 (by decide) rfl rfl ?_
  refine rm_iload dX8_made_28 rfl ?_
  refine rm_iload_n dX8_made_30 rfl rfl ?_
  refine rm_iast (f := 7) (j := l) dX8_made_31 rfl (by decide) rfl rfl (rfl) (show l < 200 from by omega) ?_
  refine rm_aload_n dX8_made_32 rfl rfl ?_
  refine rm_getr 8 (t := 12) dX8_made_33 flX8_22 (by decide) rfl rfl ?_
  refine rm_iload dX8_made_36 rfl ?_
  refine rm_iload_n dX8_made_38 rfl rfl ?_
  refine rm_iast (f := 8) (j := l) dX8_made_39 rfl (by decide) rfl rfl (rfl) (show l < 200 from by omega) ?_
  refine rm_aload_n dX8_made_40 rfl rfl ?_
  refine rm_getr 10 (t := 14) dX8_made_41 flX8_28 (by decide) rfl rfl ?_
  refine rm_iload dX8_made_44 rfl ?_
  refine rm_iload dX8_made_46 rfl ?_
  refine rm_iast (f := 10) (j := l) dX8_made_48 rfl (by decide) rfl rfl (rfl) (show l < 200 from by omega) ?_
  refine rm_aload_n dX8_made_49 rfl rfl ?_
  refine rm_getr 11 (t := 15) dX8_made_50 flX8_31 (by decide) rfl rfl ?_
  refine rm_iload dX8_made_53 rfl ?_
  refine rm_iconst (v := (-1 : Int32)) dX8_made_55 (by decide) ?_
  refine rm_iast (f := 11) (j := l) dX8_made_56 rfl (by decide) rfl rfl (rfl) (show l < 200 from by omega) ?_
  refine rm_aload_n dX8_made_57 rfl rfl ?_
  refine rm_getr 12 (t := 16) dX8_made_58 flX8_34 (by decide) rfl rfl ?_
  refine rm_iload dX8_made_61 rfl ?_
  refine rm_iconst (v := (-1 : Int32)) dX8_made_63 (by decide) ?_
  refine rm_iast (f := 12) (j := l) dX8_made_64 rfl (by decide) rfl rfl (rfl) (show l < 200 from by omega) ?_
  refine rm_aload_n dX8_made_65 rfl rfl ?_
  refine rm_getr 18 (t := 22) dX8_made_66 flX8_52 (by decide) rfl rfl ?_
  refine rm_bipush (v := nI (6)) dX8_made_69 (by decide) ?_
  refine rm_iload_n dX8_made_71 rfl rfl ?_
  refine rm_imul dX8_made_72 ?_
  refine rm_top (pk_mul (6) (w)) ?_
  refine rm_iload_n dX8_made_73 rfl rfl ?_
  refine rm_iadd dX8_made_74 ?_
  refine rm_top (nI_add (6 * w) (c)) ?_
  refine rm_dup2 dX8_made_75 rfl rfl ?_
  refine rm_iald (f := 18) (j := 6 * w + c) (x := (a 22 (6 * w + c))) dX8_made_76 rfl (by decide) rfl rfl (rfl) (show 6 * w + c < 48 from by omega) (rfl) ?_
  refine rm_iconst (v := nI (1)) dX8_made_77 (by decide) ?_
  refine rm_iadd dX8_made_78 ?_
  refine rm_iast (f := 18) (j := 6 * w + c) dX8_made_79 rfl (by decide) rfl rfl (rfl) (show 6 * w + c < 48 from by omega) ?_
  refine rm_aload_n dX8_made_80 rfl rfl ?_
  refine rm_getr 9 (t := 13) dX8_made_81 flX8_25 (by decide) rfl rfl ?_
  refine rm_iload dX8_made_84 rfl ?_
  refine rm_aload_n dX8_made_86 rfl rfl ?_
  refine rm_getr 18 (t := 22) dX8_made_87 flX8_52 (by decide) rfl rfl ?_
  refine rm_bipush (v := nI (6)) dX8_made_90 (by decide) ?_
  refine rm_iload_n dX8_made_92 rfl rfl ?_
  refine rm_imul dX8_made_93 ?_
  refine rm_top (pk_mul (6) (w)) ?_
  refine rm_iload_n dX8_made_94 rfl rfl ?_
  refine rm_iadd dX8_made_95 ?_
  refine rm_top (nI_add (6 * w) (c)) ?_
  refine rm_iald (f := 18) (j := 6 * w + c) (x := ((a 22 (6 * w + c)) + (nI 1))) dX8_made_96 rfl (by decide) rfl rfl (rfl) (show 6 * w + c < 48 from by omega) (zv_u_s _ _ _ _) ?_
  refine rm_iast (f := 9) (j := l) dX8_made_97 rfl (by decide) rfl rfl (rfl) (show l < 200 from by omega) ?_
  refine rm_aload_n dX8_made_98 rfl rfl ?_
  refine rm_getr 14 (t := 18) dX8_made_99 flX8_40 (by decide) rfl rfl ?_
  refine rm_iload dX8_made_102 rfl ?_
  refine rm_iconst (v := nI (0)) dX8_made_104 (by decide) ?_
  refine rm_iast (f := 14) (j := l) dX8_made_105 rfl (by decide) rfl rfl (rfl) (show l < 200 from by omega) ?_
  refine rm_iconst (v := nI (0)) dX8_made_106 (by decide) ?_
  refine rm_istore (lv' := [.ref 3, .int (kk), .int (nI (w)), .int (nI (c)), .int (x), .int (nI (l)), .int (nI (0))]) dX8_made_107 (by decide) rfl ?_
  have hb18 : rm_m0 a l kk w c x 18 l = nI 0 := zv_u_s _ _ _ _
  have h9 := cM_made_o d (b := rm_m0 a l kk w c x) (kk := kk) (x := x) (w := w) (c := c) (l := l) (nc := nc) (Q := rm_p (nI l) (rm_mad a nc l kk w c x)) hc hcb hw hl ?_ nc 0 (by omega) []
  · rw [rm_mc_0 hb18] at h9
    exact h9
  · refine rm_iconst (v := nI 0) dX8_made_229 (by decide) ?_
    refine rm_istore (lv' := [.ref 3, .int kk, .int (nI w), .int (nI c), .int x, .int (nI l), .int (nI 0)]) dX8_made_230 (by decide) rfl ?_
    have h8 := cM_made_x (d + 1) (b := rm_m1 a nc l kk w c x) (kk := kk) (x := x) (w := w) (c := c) (l := l) (Q := rm_p (nI l) (rm_mad a nc l kk w c x)) hw hl ⟨rfl, rfl⟩ l 0 (by omega) []
    rw [show rm_bq (rm_m1 a nc l kk w c x) w 0 = (fun _ => false) from rfl, rm_bs_0 (fun y hy => by unfold rm_m1; rw [rm_mc_o (by decide) (by decide), rm_m0_26]; exact h26 y hy)] at h8
    exact h8
end
section
theorem zv_u_u {α : Type} (f : Nat → Nat → α) (t j : Nat) (x y : α) : zv_u (zv_u f t j x) t j y = zv_u f t j y := by
  funext a b
  unfold zv_u
  by_cases h : a = t ∧ b = j
  · rw [if_pos h, if_pos h]
  · rw [if_neg h, if_neg h, if_neg h]
def rm_cnt (p : Nat → Bool) : Nat → Nat
  | 0 => 0
  | n + 1 => rm_cnt p n + (if p n = true then 1 else 0)
theorem rm_cnt_le (p : Nat → Bool) : ∀ n, rm_cnt p n ≤ n
  | 0 => Nat.le_refl _
  | n + 1 => by
    have := rm_cnt_le p n
    show rm_cnt p n + (if p n = true then 1 else 0) ≤ n + 1
    split <;> omega
def rm_svp (b : zv_I) (nc l la k : Nat) : Bool := decide (k / 8 < nc) && (rm_row b l (k / 8) && (rm_row b la (k / 8) && (rm_in b (k % 8) (k / 8) && decide (b 19 (48 * l + k) = b 19 (48 * la + k)))))
def rm_sav (a : zv_I) (nc l w c : Nat) : Nat := if a 23 (6 * w + c) = -1 then 0 else rm_cnt (rm_svp a nc l (rm_nv (a 23 (6 * w + c)))) 48
def rm_cts (a : zv_I) (nc l w c : Nat) : zv_I := zv_u (zv_u a 17 l (nI (rm_sav a nc l w c))) 23 (6 * w + c) (nI l)
theorem cM_counts_l (d : Nat) {a : zv_I} {nc l w c la : Nat} {Q : Option Value → zv_I → Prop} (hc : a 3 1 = nI nc) (hcb : nc ≤ 6) (hl : l < 200) (hla : la < 200) (hk : ∀ rest, rm_V mX8_counts (d + 1) 157 ([.ref 3, .int (nI l), .int (nI w), .int (nI c)] ++ rest) [] (zv_u a 17 l (nI (rm_cnt (rm_svp a nc l la) 48))) Q) : ∀ n k, k + n = 48 → ∀ rest, rm_V mX8_counts (d + 1) 23 ([.ref 3, .int (nI l), .int (nI w), .int (nI c), .int (nI la), .int (nI k)] ++ rest) [] (zv_u a 17 l (nI (rm_cnt (rm_svp a nc l la) k))) Q := by
  intro n
  induction n with
  | zero =>
    intro k hk2 rest
    have hk3 : k = 48 := by omega
    subst hk3
    refine rm_less ⟨rest, rfl⟩ ?_
    refine rm_iload dX8_counts_23 rfl ?_
    refine rm_iconst (v := (-1 : Int32)) dX8_counts_25 (by decide) ?_
    refine rm_icmp_eq (tgt := 157) dX8_counts_26 (by decide) (fun h26 => (absurd h26 (rm_ni1 (by omega)))) (fun h26 => ?_)
    refine rm_iload dX8_counts_29 rfl ?_
    refine rm_bipush (v := nI (48)) dX8_counts_31 (by decide) ?_
    refine rm_icN_ge (tgt := 157) dX8_counts_33 (by decide) (by omega) (by omega) (fun h33 => ?_) (fun h33 => (absurd h33 (by omega)))
    exact hk [.int (nI la), .int (nI 48)]
  | succ n ih =>
    intro k hk2 rest
    refine rm_less ⟨rest, rfl⟩ ?_
    have hcl := rm_cnt_le (rm_svp a nc l la) k
    refine rm_iload dX8_counts_23 rfl ?_
    refine rm_iconst (v := (-1 : Int32)) dX8_counts_25 (by decide) ?_
    refine rm_icmp_eq (tgt := 157) dX8_counts_26 (by decide) (fun h26 => (absurd h26 (rm_ni1 (by omega)))) (fun h26 => ?_)
    refine rm_iload dX8_counts_29 rfl ?_
    refine rm_bipush (v := nI (48)) dX8_counts_31 (by decide) ?_
    refine rm_icN_ge (tgt := 157) dX8_counts_33 (by decide) (by omega) (by omega) (fun h33 => (absurd h33 (by omega))) (fun h33 => ?_)
    refine rm_iload dX8_counts_36 rfl ?_
    refine rm_bipush (v := nI (8)) dX8_counts_38 (by decide) ?_
    refine rm_idiv dX8_counts_40 (by decide) ?_
    refine rm_top (pk_div (a := k) (d := 8) (by omega) (by decide) (by decide)) ?_
    refine rm_istore (lv' := [.ref 3, .int (nI (l)), .int (nI (w)), .int (nI (c)), .int (nI (la)), .int (nI (k)), .int (nI (k / 8))]) dX8_counts_41 (by decide) rfl ?_
    refine rm_iload dX8_counts_43 rfl ?_
    refine rm_aload_n dX8_counts_45 rfl rfl ?_
    refine rm_geti 1 (x := nI (nc)) dX8_counts_46 flX8_86 rfl (hc) ?_
    refine rm_icN_ge (tgt := 101) dX8_counts_49 (by decide) (by omega) (by omega) (fun h49 => ?_) (fun h49 => ?_)
    · refine rm_iconst (v := nI (0)) dX8_counts_101 (by decide) ?_
      refine rm_istore (lv' := [.ref 3, .int (nI (l)), .int (nI (w)), .int (nI (c)), .int (nI (la)), .int (nI (k)), .int (nI (k / 8)), .int (nI (0))]) dX8_counts_102 (by decide) rfl ?_
      refine rm_aload_n dX8_counts_104 rfl rfl ?_
      refine rm_getr 13 (t := 17) dX8_counts_105 flX8_37 (by decide) rfl rfl ?_
      refine rm_iload_n dX8_counts_108 rfl rfl ?_
      refine rm_dup2 dX8_counts_109 rfl rfl ?_
      refine rm_iald (f := 13) (j := l) (x := nI (rm_cnt (rm_svp a nc l la) k)) dX8_counts_110 rfl (by decide) rfl rfl (rfl) (show l < 200 from by omega) (zv_u_s _ _ _ _) ?_
      refine rm_iload dX8_counts_111 rfl ?_
      refine rm_if_eq (tgt := 148) dX8_counts_113 (by decide) (fun h113 => ?_) (fun h113 => (absurd h113 (by decide)))
      refine rm_iconst (v := nI (0)) dX8_counts_148 (by decide) ?_
      refine rm_iadd dX8_counts_149 ?_
      refine rm_top (nI_add (rm_cnt (rm_svp a nc l la) k) (0)) ?_
      refine rm_iast (f := 13) (j := l) dX8_counts_150 rfl (by decide) rfl rfl (rfl) (show l < 200 from by omega) ?_
      refine rm_iinc (v := nI (k + 1)) (lv' := [.ref 3, .int (nI (l)), .int (nI (w)), .int (nI (c)), .int (nI (la)), .int (nI (k + 1)), .int (nI (k / 8)), .int (nI (0))]) dX8_counts_151 rfl (by rw [← nI_1]; rfl) (by decide) rfl ?_
      refine rm_goto (tgt := 23) dX8_counts_154 (by decide) ?_
      have e1 : rm_svp a nc l la k = false := by unfold rm_svp rm_row; rw [decide_eq_false (show ¬ k / 8 < nc by omega)]; rfl
      have h9 := ih (k + 1) (by omega) [.int (nI (k / 8)), .int (nI (0))]
      rw [show rm_cnt (rm_svp a nc l la) (k + 1) = rm_cnt (rm_svp a nc l la) k + 0 from by show _ + (if rm_svp a nc l la k = true then 1 else 0) = _; rw [e1]; rfl] at h9
      rw [zv_u_u]
      exact h9
    · refine rm_aload_n dX8_counts_52 rfl rfl ?_
      refine rm_getr 14 (t := 18) dX8_counts_53 flX8_40 (by decide) rfl rfl ?_
      refine rm_iload_n dX8_counts_56 rfl rfl ?_
      refine rm_iald (f := 14) (j := l) (x := a 18 (l)) dX8_counts_57 rfl (by decide) rfl rfl (rfl) (show l < 200 from by omega) (rfl) ?_
      refine rm_iload dX8_counts_58 rfl ?_
      refine rm_ishr dX8_counts_60 ?_
      refine rm_iconst (v := nI (1)) dX8_counts_61 (by decide) ?_
      refine rm_iand dX8_counts_62 ?_
      refine rm_iconst (v := nI (1)) dX8_counts_63 (by decide) ?_
      refine rm_icmp_ne (tgt := 101) dX8_counts_64 (by decide) (fun h64 => ?_) (fun h64 => ?_)
      · refine rm_iconst (v := nI (0)) dX8_counts_101 (by decide) ?_
        refine rm_istore (lv' := [.ref 3, .int (nI (l)), .int (nI (w)), .int (nI (c)), .int (nI (la)), .int (nI (k)), .int (nI (k / 8)), .int (nI (0))]) dX8_counts_102 (by decide) rfl ?_
        refine rm_aload_n dX8_counts_104 rfl rfl ?_
        refine rm_getr 13 (t := 17) dX8_counts_105 flX8_37 (by decide) rfl rfl ?_
        refine rm_iload_n dX8_counts_108 rfl rfl ?_
        refine rm_dup2 dX8_counts_109 rfl rfl ?_
        refine rm_iald (f := 13) (j := l) (x := nI (rm_cnt (rm_svp a nc l la) k)) dX8_counts_110 rfl (by decide) rfl rfl (rfl) (show l < 200 from by omega) (zv_u_s _ _ _ _) ?_
        refine rm_iload dX8_counts_111 rfl ?_
        refine rm_if_eq (tgt := 148) dX8_counts_113 (by decide) (fun h113 => ?_) (fun h113 => (absurd h113 (by decide)))
        refine rm_iconst (v := nI (0)) dX8_counts_148 (by decide) ?_
        refine rm_iadd dX8_counts_149 ?_
        refine rm_top (nI_add (rm_cnt (rm_svp a nc l la) k) (0)) ?_
        refine rm_iast (f := 13) (j := l) dX8_counts_150 rfl (by decide) rfl rfl (rfl) (show l < 200 from by omega) ?_
        refine rm_iinc (v := nI (k + 1)) (lv' := [.ref 3, .int (nI (l)), .int (nI (w)), .int (nI (c)), .int (nI (la)), .int (nI (k + 1)), .int (nI (k / 8)), .int (nI (0))]) dX8_counts_151 rfl (by rw [← nI_1]; rfl) (by decide) rfl ?_
        refine rm_goto (tgt := 23) dX8_counts_154 (by decide) ?_
        have e1 : rm_svp a nc l la k = false := by unfold rm_svp rm_row; rw [decide_eq_true (show k / 8 < nc by omega), decide_eq_false h64]; rfl
        have h9 := ih (k + 1) (by omega) [.int (nI (k / 8)), .int (nI (0))]
        rw [show rm_cnt (rm_svp a nc l la) (k + 1) = rm_cnt (rm_svp a nc l la) k + 0 from by show _ + (if rm_svp a nc l la k = true then 1 else 0) = _; rw [e1]; rfl] at h9
        rw [zv_u_u]
        exact h9
      · refine rm_aload_n dX8_counts_67 rfl rfl ?_
        refine rm_getr 14 (t := 18) dX8_counts_68 flX8_40 (by decide) rfl rfl ?_
        refine rm_iload dX8_counts_71 rfl ?_
        refine rm_iald (f := 14) (j := la) (x := a 18 (la)) dX8_counts_73 rfl (by decide) rfl rfl (rfl) (show la < 200 from by omega) (rfl) ?_
        refine rm_iload dX8_counts_74 rfl ?_
        refine rm_ishr dX8_counts_76 ?_
        refine rm_iconst (v := nI (1)) dX8_counts_77 (by decide) ?_
        refine rm_iand dX8_counts_78 ?_
        refine rm_iconst (v := nI (1)) dX8_counts_79 (by decide) ?_
        refine rm_icmp_ne (tgt := 101) dX8_counts_80 (by decide) (fun h80 => ?_) (fun h80 => ?_)
        · refine rm_iconst (v := nI (0)) dX8_counts_101 (by decide) ?_
          refine rm_istore (lv' := [.ref 3, .int (nI (l)), .int (nI (w)), .int (nI (c)), .int (nI (la)), .int (nI (k)), .int (nI (k / 8)), .int (nI (0))]) dX8_counts_102 (by decide) rfl ?_
          refine rm_aload_n dX8_counts_104 rfl rfl ?_
          refine rm_getr 13 (t := 17) dX8_counts_105 flX8_37 (by decide) rfl rfl ?_
          refine rm_iload_n dX8_counts_108 rfl rfl ?_
          refine rm_dup2 dX8_counts_109 rfl rfl ?_
          refine rm_iald (f := 13) (j := l) (x := nI (rm_cnt (rm_svp a nc l la) k)) dX8_counts_110 rfl (by decide) rfl rfl (rfl) (show l < 200 from by omega) (zv_u_s _ _ _ _) ?_
          refine rm_iload dX8_counts_111 rfl ?_
          refine rm_if_eq (tgt := 148) dX8_counts_113 (by decide) (fun h113 => ?_) (fun h113 => (absurd h113 (by decide)))
          refine rm_iconst (v := nI (0)) dX8_counts_148 (by decide) ?_
          refine rm_iadd dX8_counts_149 ?_
          refine rm_top (nI_add (rm_cnt (rm_svp a nc l la) k) (0)) ?_
          refine rm_iast (f := 13) (j := l) dX8_counts_150 rfl (by decide) rfl rfl (rfl) (show l < 200 from by omega) ?_
          refine rm_iinc (v := nI (k + 1)) (lv' := [.ref 3, .int (nI (l)), .int (nI (w)), .int (nI (c)), .int (nI (la)), .int (nI (k + 1)), .int (nI (k / 8)), .int (nI (0))]) dX8_counts_151 rfl (by rw [← nI_1]; rfl) (by decide) rfl ?_
          refine rm_goto (tgt := 23) dX8_counts_154 (by decide) ?_
          have e1 : rm_svp a nc l la k = false := by unfold rm_svp rm_row; rw [decide_eq_true (show k / 8 < nc by omega), decide_eq_true h64, decide_eq_false h80]; rfl
          have h9 := ih (k + 1) (by omega) [.int (nI (k / 8)), .int (nI (0))]
          rw [show rm_cnt (rm_svp a nc l la) (k + 1) = rm_cnt (rm_svp a nc l la) k + 0 from by show _ + (if rm_svp a nc l la k = true then 1 else 0) = _; rw [e1]; rfl] at h9
          rw [zv_u_u]
          exact h9
        · refine rm_aload_n dX8_counts_83 rfl rfl ?_
          refine rm_iload dX8_counts_84 rfl ?_
          refine rm_bipush (v := nI (8)) dX8_counts_86 (by decide) ?_
          refine rm_irem dX8_counts_88 (by decide) ?_
          refine rm_top (pk_rem (a := k) (d := 8) (by omega) (by decide) (by decide)) ?_
          refine rm_iload dX8_counts_89 rfl ?_
          refine rm_callV (As := [.int (nI (k % 8)), .int (nI (k / 8))]) (st := []) dX8_counts_91 cvX8_92 rfl rfl (by decide) (zv_cat_i [nI (k % 8), nI (k / 8)]) (Nat.le_of_ble_eq_true rfl) (cM_isIn d (zv_u a 17 l (nI (rm_cnt (rm_svp a nc l la) k))) (m := k % 8) (c := k / 8) (by omega)) (fun v b q => ?_)
          obtain ⟨rfl, rfl⟩ := q
          rw [rm_in_o (a := zv_u a 17 l (nI (rm_cnt (rm_svp a nc l la) k))) (b := a) (zv_u_row a 17 l _ (by decide)) (k % 8) (k / 8)]
          show rm_V _ _ 94 [.ref 3, .int (nI (l)), .int (nI (w)), .int (nI (c)), .int (nI (la)), .int (nI (k)), .int (nI (k / 8))] [.int (rm_b (rm_in a (k % 8) (k / 8)))] _ _
          refine rm_ifB_eq (tgt := 101) dX8_counts_94 (by decide) (fun h94 => ?_) (fun h94 => ?_)
          · refine rm_iconst (v := nI (0)) dX8_counts_101 (by decide) ?_
            refine rm_istore (lv' := [.ref 3, .int (nI (l)), .int (nI (w)), .int (nI (c)), .int (nI (la)), .int (nI (k)), .int (nI (k / 8)), .int (nI (0))]) dX8_counts_102 (by decide) rfl ?_
            refine rm_aload_n dX8_counts_104 rfl rfl ?_
            refine rm_getr 13 (t := 17) dX8_counts_105 flX8_37 (by decide) rfl rfl ?_
            refine rm_iload_n dX8_counts_108 rfl rfl ?_
            refine rm_dup2 dX8_counts_109 rfl rfl ?_
            refine rm_iald (f := 13) (j := l) (x := nI (rm_cnt (rm_svp a nc l la) k)) dX8_counts_110 rfl (by decide) rfl rfl (rfl) (show l < 200 from by omega) (zv_u_s _ _ _ _) ?_
            refine rm_iload dX8_counts_111 rfl ?_
            refine rm_if_eq (tgt := 148) dX8_counts_113 (by decide) (fun h113 => ?_) (fun h113 => (absurd h113 (by decide)))
            refine rm_iconst (v := nI (0)) dX8_counts_148 (by decide) ?_
            refine rm_iadd dX8_counts_149 ?_
            refine rm_top (nI_add (rm_cnt (rm_svp a nc l la) k) (0)) ?_
            refine rm_iast (f := 13) (j := l) dX8_counts_150 rfl (by decide) rfl rfl (rfl) (show l < 200 from by omega) ?_
            refine rm_iinc (v := nI (k + 1)) (lv' := [.ref 3, .int (nI (l)), .int (nI (w)), .int (nI (c)), .int (nI (la)), .int (nI (k + 1)), .int (nI (k / 8)), .int (nI (0))]) dX8_counts_151 rfl (by rw [← nI_1]; rfl) (by decide) rfl ?_
            refine rm_goto (tgt := 23) dX8_counts_154 (by decide) ?_
            have e1 : rm_svp a nc l la k = false := by unfold rm_svp rm_row; rw [decide_eq_true (show k / 8 < nc by omega), decide_eq_true h64, decide_eq_true h80, h94]; rfl
            have h9 := ih (k + 1) (by omega) [.int (nI (k / 8)), .int (nI (0))]
            rw [show rm_cnt (rm_svp a nc l la) (k + 1) = rm_cnt (rm_svp a nc l la) k + 0 from by show _ + (if rm_svp a nc l la k = true then 1 else 0) = _; rw [e1]; rfl] at h9
            rw [zv_u_u]
            exact h9
          · refine rm_iconst (v := nI (1)) dX8_counts_97 (by decide) ?_
            refine rm_goto (tgt := 102) dX8_counts_98 (by decide) ?_
            refine rm_istore (lv' := [.ref 3, .int (nI (l)), .int (nI (w)), .int (nI (c)), .int (nI (la)), .int (nI (k)), .int (nI (k / 8)), .int (nI (1))]) dX8_counts_102 (by decide) rfl ?_
            refine rm_aload_n dX8_counts_104 rfl rfl ?_
            refine rm_getr 13 (t := 17) dX8_counts_105 flX8_37 (by decide) rfl rfl ?_
            refine rm_iload_n dX8_counts_108 rfl rfl ?_
            refine rm_dup2 dX8_counts_109 rfl rfl ?_
            refine rm_iald (f := 13) (j := l) (x := nI (rm_cnt (rm_svp a nc l la) k)) dX8_counts_110 rfl (by decide) rfl rfl (rfl) (show l < 200 from by omega) (zv_u_s _ _ _ _) ?_
            refine rm_iload dX8_counts_111 rfl ?_
            refine rm_if_eq (tgt := 148) dX8_counts_113 (by decide) (fun h113 => (absurd h113 (by decide))) (fun h113 => ?_)
            refine rm_aload_n dX8_counts_116 rfl rfl ?_
            refine rm_getr 15 (t := 19) dX8_counts_117 flX8_43 (by decide) rfl rfl ?_
            refine rm_bipush (v := nI (48)) dX8_counts_120 (by decide) ?_
            refine rm_iload_n dX8_counts_122 rfl rfl ?_
            refine rm_imul dX8_counts_123 ?_
            refine rm_top (pk_mul (48) (l)) ?_
            refine rm_iload dX8_counts_124 rfl ?_
            refine rm_iadd dX8_counts_126 ?_
            refine rm_top (nI_add (48 * l) (k)) ?_
            refine rm_iald (f := 15) (j := 48 * l + k) (x := a 19 (48 * l + k)) dX8_counts_127 rfl (by decide) rfl rfl (rfl) (show 48 * l + k < 9600 from by omega) (rfl) ?_
            refine rm_aload_n dX8_counts_128 rfl rfl ?_
            refine rm_getr 15 (t := 19) dX8_counts_129 flX8_43 (by decide) rfl rfl ?_
            refine rm_bipush (v := nI (48)) dX8_counts_132 (by decide) ?_
            refine rm_iload dX8_counts_134 rfl ?_
            refine rm_imul dX8_counts_136 ?_
            refine rm_top (pk_mul (48) (la)) ?_
            refine rm_iload dX8_counts_137 rfl ?_
            refine rm_iadd dX8_counts_139 ?_
            refine rm_top (nI_add (48 * la) (k)) ?_
            refine rm_iald (f := 15) (j := 48 * la + k) (x := a 19 (48 * la + k)) dX8_counts_140 rfl (by decide) rfl rfl (rfl) (show 48 * la + k < 9600 from by omega) (rfl) ?_
            refine rm_icmp_ne (tgt := 148) dX8_counts_141 (by decide) (fun h141 => ?_) (fun h141 => ?_)
            · refine rm_iconst (v := nI (0)) dX8_counts_148 (by decide) ?_
              refine rm_iadd dX8_counts_149 ?_
              refine rm_top (nI_add (rm_cnt (rm_svp a nc l la) k) (0)) ?_
              refine rm_iast (f := 13) (j := l) dX8_counts_150 rfl (by decide) rfl rfl (rfl) (show l < 200 from by omega) ?_
              refine rm_iinc (v := nI (k + 1)) (lv' := [.ref 3, .int (nI (l)), .int (nI (w)), .int (nI (c)), .int (nI (la)), .int (nI (k + 1)), .int (nI (k / 8)), .int (nI (1))]) dX8_counts_151 rfl (by rw [← nI_1]; rfl) (by decide) rfl ?_
              refine rm_goto (tgt := 23) dX8_counts_154 (by decide) ?_
              have e1 : rm_svp a nc l la k = false := by unfold rm_svp rm_row; rw [decide_eq_true (show k / 8 < nc by omega), decide_eq_true h64, decide_eq_true h80, h94, decide_eq_false h141]; rfl
              have h9 := ih (k + 1) (by omega) [.int (nI (k / 8)), .int (nI (1))]
              rw [show rm_cnt (rm_svp a nc l la) (k + 1) = rm_cnt (rm_svp a nc l la) k + 0 from by show _ + (if rm_svp a nc l la k = true then 1 else 0) = _; rw [e1]; rfl] at h9
              rw [zv_u_u]
              exact h9
            · refine rm_iconst (v := nI (1)) dX8_counts_144 (by decide) ?_
              refine rm_goto (tgt := 149) dX8_counts_145 (by decide) ?_
              refine rm_iadd dX8_counts_149 ?_
              refine rm_top (nI_add (rm_cnt (rm_svp a nc l la) k) (1)) ?_
              refine rm_iast (f := 13) (j := l) dX8_counts_150 rfl (by decide) rfl rfl (rfl) (show l < 200 from by omega) ?_
              refine rm_iinc (v := nI (k + 1)) (lv' := [.ref 3, .int (nI (l)), .int (nI (w)), .int (nI (c)), .int (nI (la)), .int (nI (k + 1)), .int (nI (k / 8)), .int (nI (1))]) dX8_counts_151 rfl (by rw [← nI_1]; rfl) (by decide) rfl ?_
              refine rm_goto (tgt := 23) dX8_counts_154 (by decide) ?_
              have e1 : rm_svp a nc l la k = true := by unfold rm_svp rm_row; rw [decide_eq_true (show k / 8 < nc by omega), decide_eq_true h64, decide_eq_true h80, h94, decide_eq_true h141]; rfl
              have h9 := ih (k + 1) (by omega) [.int (nI (k / 8)), .int (nI (1))]
              rw [show rm_cnt (rm_svp a nc l la) (k + 1) = rm_cnt (rm_svp a nc l la) k + 1 from by show _ + (if rm_svp a nc l la k = true then 1 else 0) = _; rw [e1]; rfl] at h9
              rw [zv_u_u]
              exact h9
theorem cM_counts (d : Nat) {a : zv_I} {nc l w c : Nat} (hc : a 3 1 = nI nc) (hcb : nc ≤ 6) (hl : l < 200) (hw : w < 8) (hcc : c < 6) (hla : ¬ a 23 (6 * w + c) = -1 → a 23 (6 * w + c) = nI (rm_nv (a 23 (6 * w + c))) ∧ rm_nv (a 23 (6 * w + c)) < 200) : rm_V mX8_counts (d + 1) 0 [.ref 3, .int (nI l), .int (nI w), .int (nI c)] [] a (rm_q (rm_cts a nc l w c)) := by
  by_cases h0 : a 23 (6 * w + c) = -1
  · refine rm_aload_n dX8_counts_0 rfl rfl ?_
    refine rm_getr 19 (t := 23) dX8_counts_1 flX8_55 (by decide) rfl rfl ?_
    refine rm_bipush (v := nI (6)) dX8_counts_4 (by decide) ?_
    refine rm_iload_n dX8_counts_6 rfl rfl ?_
    refine rm_imul dX8_counts_7 ?_
    refine rm_top (pk_mul (6) (w)) ?_
    refine rm_iload_n dX8_counts_8 rfl rfl ?_
    refine rm_iadd dX8_counts_9 ?_
    refine rm_top (nI_add (6 * w) (c)) ?_
    refine rm_iald (f := 19) (j := 6 * w + c) (x := (-1 : Int32)) dX8_counts_10 rfl (by decide) rfl rfl (rfl) (show 6 * w + c < 48 from by omega) (h0) ?_
    refine rm_istore (lv' := [.ref 3, .int (nI (l)), .int (nI (w)), .int (nI (c)), .int ((-1 : Int32))]) dX8_counts_11 (by decide) rfl ?_
    refine rm_aload_n dX8_counts_13 rfl rfl ?_
    refine rm_getr 13 (t := 17) dX8_counts_14 flX8_37 (by decide) rfl rfl ?_
    refine rm_iload_n dX8_counts_17 rfl rfl ?_
    refine rm_iconst (v := nI (0)) dX8_counts_18 (by decide) ?_
    refine rm_iast (f := 13) (j := l) dX8_counts_19 rfl (by decide) rfl rfl (rfl) (show l < 200 from by omega) ?_
    refine rm_iconst (v := nI (0)) dX8_counts_20 (by decide) ?_
    refine rm_istore (lv' := [.ref 3, .int (nI (l)), .int (nI (w)), .int (nI (c)), .int ((-1 : Int32)), .int (nI (0))]) dX8_counts_21 (by decide) rfl ?_
    refine rm_iload dX8_counts_23 rfl ?_
    refine rm_iconst (v := (-1 : Int32)) dX8_counts_25 (by decide) ?_
    refine rm_icmp_eq (tgt := 157) dX8_counts_26 (by decide) (fun h26 => ?_) (fun h26 => (absurd rfl h26))
    refine rm_aload_n dX8_counts_157 rfl rfl ?_
    refine rm_getr 19 (t := 23) dX8_counts_158 flX8_55 (by decide) rfl rfl ?_
    refine rm_bipush (v := nI (6)) dX8_counts_161 (by decide) ?_
    refine rm_iload_n dX8_counts_163 rfl rfl ?_
    refine rm_imul dX8_counts_164 ?_
    refine rm_top (pk_mul (6) (w)) ?_
    refine rm_iload_n dX8_counts_165 rfl rfl ?_
    refine rm_iadd dX8_counts_166 ?_
    refine rm_top (nI_add (6 * w) (c)) ?_
    refine rm_iload_n dX8_counts_167 rfl rfl ?_
    refine rm_iast (f := 19) (j := 6 * w + c) dX8_counts_168 rfl (by decide) rfl rfl (rfl) (show 6 * w + c < 48 from by omega) ?_
    refine rm_vret dX8_counts_169 rfl ?_
    exact ⟨rfl, by unfold rm_cts rm_sav; rw [if_pos h0]⟩
  · refine rm_aload_n dX8_counts_0 rfl rfl ?_
    refine rm_getr 19 (t := 23) dX8_counts_1 flX8_55 (by decide) rfl rfl ?_
    refine rm_bipush (v := nI (6)) dX8_counts_4 (by decide) ?_
    refine rm_iload_n dX8_counts_6 rfl rfl ?_
    refine rm_imul dX8_counts_7 ?_
    refine rm_top (pk_mul (6) (w)) ?_
    refine rm_iload_n dX8_counts_8 rfl rfl ?_
    refine rm_iadd dX8_counts_9 ?_
    refine rm_top (nI_add (6 * w) (c)) ?_
    refine rm_iald (f := 19) (j := 6 * w + c) (x := nI (rm_nv (a 23 (6 * w + c)))) dX8_counts_10 rfl (by decide) rfl rfl (rfl) (show 6 * w + c < 48 from by omega) ((hla h0).1) ?_
    refine rm_istore (lv' := [.ref 3, .int (nI (l)), .int (nI (w)), .int (nI (c)), .int (nI (rm_nv (a 23 (6 * w + c))))]) dX8_counts_11 (by decide) rfl ?_
    refine rm_aload_n dX8_counts_13 rfl rfl ?_
    refine rm_getr 13 (t := 17) dX8_counts_14 flX8_37 (by decide) rfl rfl ?_
    refine rm_iload_n dX8_counts_17 rfl rfl ?_
    refine rm_iconst (v := nI (0)) dX8_counts_18 (by decide) ?_
    refine rm_iast (f := 13) (j := l) dX8_counts_19 rfl (by decide) rfl rfl (rfl) (show l < 200 from by omega) ?_
    refine rm_iconst (v := nI (0)) dX8_counts_20 (by decide) ?_
    refine rm_istore (lv' := [.ref 3, .int (nI (l)), .int (nI (w)), .int (nI (c)), .int (nI (rm_nv (a 23 (6 * w + c)))), .int (nI (0))]) dX8_counts_21 (by decide) rfl ?_
    obtain ⟨hla1, hla2⟩ := hla h0
    refine cM_counts_l d (la := rm_nv (a 23 (6 * w + c))) hc hcb hl hla2 (fun rest => ?_) 48 0 (by omega) []
    refine rm_less ⟨rest, rfl⟩ ?_
    refine rm_aload_n dX8_counts_157 rfl rfl ?_
    refine rm_getr 19 (t := 23) dX8_counts_158 flX8_55 (by decide) rfl rfl ?_
    refine rm_bipush (v := nI (6)) dX8_counts_161 (by decide) ?_
    refine rm_iload_n dX8_counts_163 rfl rfl ?_
    refine rm_imul dX8_counts_164 ?_
    refine rm_top (pk_mul (6) (w)) ?_
    refine rm_iload_n dX8_counts_165 rfl rfl ?_
    refine rm_iadd dX8_counts_166 ?_
    refine rm_top (nI_add (6 * w) (c)) ?_
    refine rm_iload_n dX8_counts_167 rfl rfl ?_
    refine rm_iast (f := 19) (j := 6 * w + c) dX8_counts_168 rfl (by decide) rfl rfl (rfl) (show 6 * w + c < 48 from by omega) ?_
    refine rm_vret dX8_counts_169 rfl ?_
    exact ⟨rfl, by unfold rm_cts rm_sav; rw [if_neg h0]⟩
def rm_g0 (a : zv_I) (r l : Nat) : zv_I := zv_u (zv_u (zv_u (zv_u a 20 (200 * r + l) (nI 3)) 21 (48 * r + 8 * rm_ci a l + rm_wr a l) (a 21 (48 * r + 8 * rm_ci a l + rm_wr a l) + (nI 1))) 24 (200 * r + rm_nv (a 25 r)) (nI l)) 25 r (nI (rm_nv (a 25 r) + 1))
def rm_hc (b : zv_I) (r l n : Nat) : zv_I := fun t j => if t = 27 ∧ 40 * r ≤ j ∧ j < 40 * r + n ∧ b 27 j = nI (l + 1) then nI 0 else b t j
theorem rm_hc_o {b : zv_I} {r l n t : Nat} (h : t ≠ 27) : rm_hc b r l n t = b t := funext fun j => if_neg fun q => h q.1
theorem rm_hc_0 (b : zv_I) (r l : Nat) : rm_hc b r l 0 = b := funext fun t => funext fun j => if_neg fun q => by omega
theorem rm_hc_r (b : zv_I) (r l n : Nat) : rm_hc b r l n 27 (40 * r + n) = b 27 (40 * r + n) := if_neg fun q => by omega
theorem rm_hc_t {b : zv_I} {r l n : Nat} (h : b 27 (40 * r + n) = nI (l + 1)) : zv_u (rm_hc b r l n) 27 (40 * r + n) (nI 0) = rm_hc b r l (n + 1) := by
  funext t j
  unfold zv_u rm_hc
  by_cases h1 : t = 27 ∧ j = 40 * r + n
  · obtain ⟨rfl, rfl⟩ := h1
    rw [if_pos ⟨rfl, rfl⟩, if_pos ⟨rfl, by omega, by omega, h⟩]
  · rw [if_neg h1]
    by_cases h2 : t = 27 ∧ 40 * r ≤ j ∧ j < 40 * r + n ∧ b 27 j = nI (l + 1)
    · rw [if_pos h2, if_pos ⟨h2.1, h2.2.1, by omega, h2.2.2.2⟩]
    · rw [if_neg h2, if_neg (fun q => by
        by_cases h3 : j < 40 * r + n
        · exact h2 ⟨q.1, q.2.1, h3, q.2.2.2⟩
        · exact h1 ⟨q.1, by omega⟩)]
theorem rm_hc_f {b : zv_I} {r l n : Nat} (h : ¬ b 27 (40 * r + n) = nI (l + 1)) : zv_u (rm_hc b r l n) 27 (40 * r + n) (b 27 (40 * r + n)) = rm_hc b r l (n + 1) := by
  funext t j
  unfold zv_u rm_hc
  by_cases h1 : t = 27 ∧ j = 40 * r + n
  · obtain ⟨rfl, rfl⟩ := h1
    rw [if_pos ⟨rfl, rfl⟩, if_neg (fun q => h q.2.2.2)]
  · rw [if_neg h1]
    by_cases h2 : t = 27 ∧ 40 * r ≤ j ∧ j < 40 * r + n ∧ b 27 j = nI (l + 1)
    · rw [if_pos h2, if_pos ⟨h2.1, h2.2.1, by omega, h2.2.2.2⟩]
    · rw [if_neg h2, if_neg (fun q => by
        by_cases h3 : j < 40 * r + n
        · exact h2 ⟨q.1, q.2.1, h3, q.2.2.2⟩
        · exact h1 ⟨q.1, by omega⟩)]
def rm_g1 (a : zv_I) (r l : Nat) : zv_I := rm_hc (rm_g0 a r l) r l 40
def rm_g2 (a : zv_I) (r l c : Nat) : zv_I := zv_u (zv_u (rm_g1 a r l) 15 l (a 7 c)) 7 c (a 7 c + nI 1)
def rm_g3 (a : zv_I) (nc nl r l c : Nat) : zv_I := rm_mad (rm_g2 a r l c) nc nl (nI 3) r c (nI l)
def rm_g4 (a : zv_I) (nc nl r l c : Nat) : zv_I := zv_u (zv_u (rm_g3 a nc nl r l c) 16 l (nI nl)) 18 nl (rm_g3 a nc nl r l c 18 l)
def rm_cc (b : zv_I) (o l n : Nat) : zv_I := fun t j => if t = 19 ∧ 48 * o ≤ j ∧ j < 48 * o + n then b 19 (48 * l + (j - 48 * o)) else b t j
theorem rm_cc_o {b : zv_I} {o l n t : Nat} (h : t ≠ 19) : rm_cc b o l n t = b t := funext fun j => if_neg fun q => h q.1
theorem rm_cc_0 (b : zv_I) (o l : Nat) : rm_cc b o l 0 = b := funext fun t => funext fun j => if_neg fun q => by omega
theorem rm_cc_n {b : zv_I} {o l n : Nat} : zv_u (rm_cc b o l n) 19 (48 * o + n) (b 19 (48 * l + n)) = rm_cc b o l (n + 1) := by
  funext t j
  unfold zv_u rm_cc
  by_cases h1 : t = 19 ∧ j = 48 * o + n
  · obtain ⟨rfl, rfl⟩ := h1
    rw [if_pos ⟨rfl, rfl⟩, if_pos ⟨rfl, by omega, by omega⟩]
    congr 1
    omega
  · rw [if_neg h1]
    by_cases h2 : t = 19 ∧ 48 * o ≤ j ∧ j < 48 * o + n
    · rw [if_pos h2, if_pos ⟨h2.1, h2.2.1, by omega⟩]
    · rw [if_neg h2, if_neg (fun q => by
        by_cases h3 : j < 48 * o + n
        · exact h2 ⟨q.1, q.2.1, h3⟩
        · exact h1 ⟨q.1, by omega⟩)]
theorem rm_cc_r {b : zv_I} {o l n k : Nat} (h : l < o) (hk : k < 48) : rm_cc b o l n 19 (48 * l + k) = b 19 (48 * l + k) := if_neg fun q => by omega
def rm_g5 (a : zv_I) (nc nl r l c : Nat) : zv_I := rm_cc (rm_g4 a nc nl r l c) nl l 48
def rm_g6 (a : zv_I) (nm nc nl r l c : Nat) : zv_I := rm_goes (rm_g5 a nc nl r l c) nm nl
def rm_giv (a : zv_I) (nm nc nl r l : Nat) : zv_I := if a 10 l = nI 2 ∧ r = rm_el a (rm_ci a l) then rm_g6 a nm nc nl r l (rm_ci a l) else rm_g1 a r l
/-- what give wants -/
def rm_gh (a : zv_I) (nm nc nl r l : Nat) : Prop := a 3 0 = nI nm ∧ nm ≤ 8 ∧ a 3 1 = nI nc ∧ nc ≤ 6 ∧ a 3 4 = nI nl ∧ l < nl ∧ nl ≤ 200 ∧ r < 8 ∧ rm_lw a nc l ∧ a 12 l = nI (rm_wr a l) ∧ rm_wr a l < 8 ∧ a 25 r = nI (rm_nv (a 25 r)) ∧ rm_nv (a 25 r) < 200 ∧ (a 10 l = nI 2 → r = rm_el a (rm_ci a l) → nl < 200 ∧ ∀ y, y < nl → a 26 (200 * nl + y) = 0)
theorem rm_g1_o {a : zv_I} {r l t : Nat} (h : t ≠ 20) (h1 : t ≠ 21) (h2 : t ≠ 24) (h3 : t ≠ 25) (h4 : t ≠ 27) : rm_g1 a r l t = a t := by
  unfold rm_g1 rm_g0
  rw [rm_hc_o h4, zv_u_row _ _ _ _ h3, zv_u_row _ _ _ _ h2, zv_u_row _ _ _ _ h1, zv_u_row _ _ _ _ h]
theorem rm_el_o {a b : zv_I} (h : a 6 = b 6) (c : Nat) : rm_el a c = rm_el b c := by
  unfold rm_el
  rw [show (fun m => rm_in a m c) = fun m => rm_in b m c from funext fun m => rm_in_o h m c]
theorem rm_es_o {a b : zv_I} (h : a 6 = b 6) {c : Nat} (hs : rm_es b c) : rm_es a c := by
  unfold rm_es
  rw [rm_el_o h, show (fun m => rm_in a m c) = fun m => rm_in b m c from funext fun m => rm_in_o h m c]
  exact hs
theorem rm_g2_o {a : zv_I} {r l c t : Nat} (h : t ≠ 20) (h1 : t ≠ 21) (h2 : t ≠ 24) (h3 : t ≠ 25) (h4 : t ≠ 27) (h5 : t ≠ 15) (h6 : t ≠ 7) : rm_g2 a r l c t = a t := by
  unfold rm_g2
  rw [zv_u_row _ _ _ _ h6, zv_u_row _ _ _ _ h5, rm_g1_o h h1 h2 h3 h4]
theorem rm_mad_o {a : zv_I} {nc l w c t : Nat} {kk x : Int32} (h : t ≠ 3) (h1 : t ≠ 10) (h2 : t ≠ 11) (h3 : t ≠ 12) (h4 : t ≠ 13) (h5 : t ≠ 14) (h6 : t ≠ 15) (h7 : t ≠ 16) (h8 : t ≠ 18) (h9 : t ≠ 19) (h10 : t ≠ 22) (h11 : t ≠ 26) : rm_mad a nc l kk w c x t = a t := by
  unfold rm_mad rm_m1 rm_m0
  rw [rm_bs_o h11, rm_mc_o h8 h9, zv_u_row _ _ _ _ h8, zv_u_row _ _ _ _ h4, zv_u_row _ _ _ _ h10, zv_u_row _ _ _ _ h7, zv_u_row _ _ _ _ h6, zv_u_row _ _ _ _ h5, zv_u_row _ _ _ _ h3, zv_u_row _ _ _ _ h2, zv_u_row _ _ _ _ h1, zv_u_row _ _ _ _ h]
theorem rm_mad_3 {a : zv_I} {nc l w c j : Nat} {kk x : Int32} (h : j ≠ 4) : rm_mad a nc l kk w c x 3 j = a 3 j := by
  unfold rm_mad rm_m1
  rw [rm_bs_o (by decide), rm_mc_o (by decide) (by decide)]
  show zv_u a 3 4 (nI (l + 1)) 3 j = a 3 j
  exact zv_u_j a _ h
theorem rm_mad_11 {a : zv_I} {nc l w c : Nat} {kk x : Int32} : rm_mad a nc l kk w c x 11 l = nI c := by
  unfold rm_mad rm_m1
  rw [rm_bs_o (by decide), rm_mc_o (by decide) (by decide)]
  exact zv_u_s _ _ _ _
theorem rm_mad_12 {a : zv_I} {nc l w c : Nat} {kk x : Int32} : rm_mad a nc l kk w c x 12 l = nI w := by
  unfold rm_mad rm_m1
  rw [rm_bs_o (by decide), rm_mc_o (by decide) (by decide)]
  exact zv_u_s _ _ _ _
theorem rm_nv_n {n : Nat} (h : n < 2 ^ 31) : rm_nv (nI n) = n := nI_clamp h
theorem cM_give_h (d : Nat) {b : zv_I} {r l cc : Nat} {Q : Option Value → zv_I → Prop} (hr : r < 8) (hl : l < 200) (hk : rm_V mX8_give d 135 [.ref 3, .int (nI r), .int (nI l), .int (nI cc)] [] (rm_hc b r l 40) Q) : ∀ n k, k + n = 40 → rm_V mX8_give d 76 [.ref 3, .int (nI r), .int (nI l), .int (nI cc), .int (nI k)] [] (rm_hc b r l k) Q := by
  intro n
  induction n with
  | zero =>
    intro k hk2
    have hk3 : k = 40 := by omega
    subst hk3
    refine rm_iload dX8_give_76 rfl ?_
    refine rm_bipush (v := nI (40)) dX8_give_78 (by decide) ?_
    refine rm_icN_ge (tgt := 135) dX8_give_80 (by decide) (by omega) (by omega) (fun h80 => ?_) (fun h80 => (absurd h80 (by omega)))
    exact rm_less ⟨[.int (nI 40)], rfl⟩ hk
  | succ n ih =>
    intro k hk2
    refine rm_iload dX8_give_76 rfl ?_
    refine rm_bipush (v := nI (40)) dX8_give_78 (by decide) ?_
    refine rm_icN_ge (tgt := 135) dX8_give_80 (by decide) (by omega) (by omega) (fun h80 => (absurd h80 (by omega))) (fun h80 => ?_)
    refine rm_aload_n dX8_give_83 rfl rfl ?_
    refine rm_getr 23 (t := 27) dX8_give_84 flX8_69 (by decide) rfl rfl ?_
    refine rm_bipush (v := nI (40)) dX8_give_87 (by decide) ?_
    refine rm_iload_n dX8_give_89 rfl rfl ?_
    refine rm_imul dX8_give_90 ?_
    refine rm_top (pk_mul (40) (r)) ?_
    refine rm_iload dX8_give_91 rfl ?_
    refine rm_iadd dX8_give_93 ?_
    refine rm_top (nI_add (40 * r) (k)) ?_
    refine rm_aload_n dX8_give_94 rfl rfl ?_
    refine rm_getr 23 (t := 27) dX8_give_95 flX8_69 (by decide) rfl rfl ?_
    refine rm_bipush (v := nI (40)) dX8_give_98 (by decide) ?_
    refine rm_iload_n dX8_give_100 rfl rfl ?_
    refine rm_imul dX8_give_101 ?_
    refine rm_top (pk_mul (40) (r)) ?_
    refine rm_iload dX8_give_102 rfl ?_
    refine rm_iadd dX8_give_104 ?_
    refine rm_top (nI_add (40 * r) (k)) ?_
    refine rm_iald (f := 23) (j := 40 * r + k) (x := b 27 (40 * r + k)) dX8_give_105 rfl (by decide) rfl rfl (rfl) (show 40 * r + k < 320 from by omega) (rm_hc_r b r l k) ?_
    refine rm_iload_n dX8_give_106 rfl rfl ?_
    refine rm_iconst (v := nI (1)) dX8_give_107 (by decide) ?_
    refine rm_iadd dX8_give_108 ?_
    refine rm_top (nI_add (l) (1)) ?_
    refine rm_icmp_ne (tgt := 116) dX8_give_109 (by decide) (fun h109 => ?_) (fun h109 => ?_)
    · refine rm_aload_n dX8_give_116 rfl rfl ?_
      refine rm_getr 23 (t := 27) dX8_give_117 flX8_69 (by decide) rfl rfl ?_
      refine rm_bipush (v := nI (40)) dX8_give_120 (by decide) ?_
      refine rm_iload_n dX8_give_122 rfl rfl ?_
      refine rm_imul dX8_give_123 ?_
      refine rm_top (pk_mul (40) (r)) ?_
      refine rm_iload dX8_give_124 rfl ?_
      refine rm_iadd dX8_give_126 ?_
      refine rm_top (nI_add (40 * r) (k)) ?_
      refine rm_iald (f := 23) (j := 40 * r + k) (x := b 27 (40 * r + k)) dX8_give_127 rfl (by decide) rfl rfl (rfl) (show 40 * r + k < 320 from by omega) (rm_hc_r b r l k) ?_
      refine rm_iast (f := 23) (j := 40 * r + k) dX8_give_128 rfl (by decide) rfl rfl (rfl) (show 40 * r + k < 320 from by omega) ?_
      refine rm_iinc (v := nI (k + 1)) (lv' := [.ref 3, .int (nI (r)), .int (nI (l)), .int (nI (cc)), .int (nI (k + 1))]) dX8_give_129 rfl (by rw [← nI_1]; rfl) (by decide) rfl ?_
      refine rm_goto (tgt := 76) dX8_give_132 (by decide) ?_
      rw [rm_hc_f h109]
      exact ih (k + 1) (by omega)
    · refine rm_iconst (v := nI (0)) dX8_give_112 (by decide) ?_
      refine rm_goto (tgt := 128) dX8_give_113 (by decide) ?_
      refine rm_iast (f := 23) (j := 40 * r + k) dX8_give_128 rfl (by decide) rfl rfl (rfl) (show 40 * r + k < 320 from by omega) ?_
      refine rm_iinc (v := nI (k + 1)) (lv' := [.ref 3, .int (nI (r)), .int (nI (l)), .int (nI (cc)), .int (nI (k + 1))]) dX8_give_129 rfl (by rw [← nI_1]; rfl) (by decide) rfl ?_
      refine rm_goto (tgt := 76) dX8_give_132 (by decide) ?_
      rw [rm_hc_t h109]
      exact ih (k + 1) (by omega)
theorem cM_give_c (d : Nat) {b : zv_I} {r l cc o : Nat} {Q : Option Value → zv_I → Prop} (hlo : l < o) (ho : o < 200) (hk : rm_V mX8_give d 248 [.ref 3, .int (nI r), .int (nI l), .int (nI cc), .int (nI o)] [] (rm_cc b o l 48) Q) : ∀ n k, k + n = 48 → rm_V mX8_give d 210 [.ref 3, .int (nI r), .int (nI l), .int (nI cc), .int (nI o), .int (nI k)] [] (rm_cc b o l k) Q := by
  intro n
  induction n with
  | zero =>
    intro k hk2
    have hk3 : k = 48 := by omega
    subst hk3
    refine rm_iload dX8_give_210 rfl ?_
    refine rm_bipush (v := nI (48)) dX8_give_212 (by decide) ?_
    refine rm_icN_ge (tgt := 248) dX8_give_214 (by decide) (by omega) (by omega) (fun h214 => ?_) (fun h214 => (absurd h214 (by omega)))
    exact rm_less ⟨[.int (nI 48)], rfl⟩ hk
  | succ n ih =>
    intro k hk2
    refine rm_iload dX8_give_210 rfl ?_
    refine rm_bipush (v := nI (48)) dX8_give_212 (by decide) ?_
    refine rm_icN_ge (tgt := 248) dX8_give_214 (by decide) (by omega) (by omega) (fun h214 => (absurd h214 (by omega))) (fun h214 => ?_)
    refine rm_aload_n dX8_give_217 rfl rfl ?_
    refine rm_getr 15 (t := 19) dX8_give_218 flX8_43 (by decide) rfl rfl ?_
    refine rm_bipush (v := nI (48)) dX8_give_221 (by decide) ?_
    refine rm_iload dX8_give_223 rfl ?_
    refine rm_imul dX8_give_225 ?_
    refine rm_top (pk_mul (48) (o)) ?_
    refine rm_iload dX8_give_226 rfl ?_
    refine rm_iadd dX8_give_228 ?_
    refine rm_top (nI_add (48 * o) (k)) ?_
    refine rm_aload_n dX8_give_229 rfl rfl ?_
    refine rm_getr 15 (t := 19) dX8_give_230 flX8_43 (by decide) rfl rfl ?_
    refine rm_bipush (v := nI (48)) dX8_give_233 (by decide) ?_
    refine rm_iload_n dX8_give_235 rfl rfl ?_
    refine rm_imul dX8_give_236 ?_
    refine rm_top (pk_mul (48) (l)) ?_
    refine rm_iload dX8_give_237 rfl ?_
    refine rm_iadd dX8_give_239 ?_
    refine rm_top (nI_add (48 * l) (k)) ?_
    refine rm_iald (f := 15) (j := 48 * l + k) (x := b 19 (48 * l + k)) dX8_give_240 rfl (by decide) rfl rfl (rfl) (show 48 * l + k < 9600 from by omega) (rm_cc_r hlo (by omega)) ?_
    refine rm_iast (f := 15) (j := 48 * o + k) dX8_give_241 rfl (by decide) rfl rfl (rfl) (show 48 * o + k < 9600 from by omega) ?_
    refine rm_iinc (v := nI (k + 1)) (lv' := [.ref 3, .int (nI (r)), .int (nI (l)), .int (nI (cc)), .int (nI (o)), .int (nI (k + 1))]) dX8_give_242 rfl (by rw [← nI_1]; rfl) (by decide) rfl ?_
    refine rm_goto (tgt := 210) dX8_give_245 (by decide) ?_
    rw [rm_cc_n]
    exact ih (k + 1) (by omega)
theorem cM_give (d : Nat) {a : zv_I} {nm nc nl r l : Nat} (h : rm_gh a nm nc nl r l) : rm_V mX8_give (d + 2) 0 [.ref 3, .int (nI r), .int (nI l)] [] a (rm_q (rm_giv a nm nc nl r l)) := by
  obtain ⟨g1, g2, g3, g4, g5, g6, g7, g8, g9, g10, g11, g12, g13, g14⟩ := h
  have g9c := g9.2.1
  have hes := rm_es_lt g9.2.2.1
  refine rm_aload_n dX8_give_0 rfl rfl ?_
  refine rm_getr 7 (t := 11) dX8_give_1 flX8_19 (by decide) rfl rfl ?_
  refine rm_iload_n dX8_give_4 rfl rfl ?_
  refine rm_iald (f := 7) (j := l) (x := nI (rm_ci a l)) dX8_give_5 rfl (by decide) rfl rfl (rfl) (show l < 200 from by omega) (g9.1) ?_
  refine rm_istore_n (lv' := [.ref 3, .int (nI (r)), .int (nI (l)), .int (nI (rm_ci a l))]) dX8_give_6 rfl (by decide) rfl ?_
  refine rm_aload_n dX8_give_7 rfl rfl ?_
  refine rm_getr 16 (t := 20) dX8_give_8 flX8_46 (by decide) rfl rfl ?_
  refine rm_sipush (v := nI (200)) dX8_give_11 (by decide) ?_
  refine rm_iload_n dX8_give_14 rfl rfl ?_
  refine rm_imul dX8_give_15 ?_
  refine rm_top (pk_mul (200) (r)) ?_
  refine rm_iload_n dX8_give_16 rfl rfl ?_
  refine rm_iadd dX8_give_17 ?_
  refine rm_top (nI_add (200 * r) (l)) ?_
  refine rm_iconst (v := nI (3)) dX8_give_18 (by decide) ?_
  refine rm_iast (f := 16) (j := 200 * r + l) dX8_give_19 rfl (by decide) rfl rfl (rfl) (show 200 * r + l < 1600 from by omega) ?_
  refine rm_aload_n dX8_give_20 rfl rfl ?_
  refine rm_getr 17 (t := 21) dX8_give_21 flX8_49 (by decide) rfl rfl ?_
  refine rm_bipush (v := nI (48)) dX8_give_24 (by decide) ?_
  refine rm_iload_n dX8_give_26 rfl rfl ?_
  refine rm_imul dX8_give_27 ?_
  refine rm_top (pk_mul (48) (r)) ?_
  refine rm_bipush (v := nI (8)) dX8_give_28 (by decide) ?_
  refine rm_iload_n dX8_give_30 rfl rfl ?_
  refine rm_imul dX8_give_31 ?_
  refine rm_top (pk_mul (8) (rm_ci a l)) ?_
  refine rm_iadd dX8_give_32 ?_
  refine rm_top (nI_add (48 * r) (8 * (rm_ci a l))) ?_
  refine rm_aload_n dX8_give_33 rfl rfl ?_
  refine rm_getr 8 (t := 12) dX8_give_34 flX8_22 (by decide) rfl rfl ?_
  refine rm_iload_n dX8_give_37 rfl rfl ?_
  refine rm_iald (f := 8) (j := l) (x := nI (rm_wr a l)) dX8_give_38 rfl (by decide) rfl rfl (rfl) (show l < 200 from by omega) (g10) ?_
  refine rm_iadd dX8_give_39 ?_
  refine rm_top (nI_add (48 * r + (8 * (rm_ci a l))) (rm_wr a l)) ?_
  refine rm_dup2 dX8_give_40 rfl rfl ?_
  refine rm_iald (f := 17) (j := 48 * r + (8 * (rm_ci a l)) + (rm_wr a l)) (x := a 21 (48 * r + 8 * rm_ci a l + rm_wr a l)) dX8_give_41 rfl (by decide) rfl rfl (rfl) (show 48 * r + (8 * (rm_ci a l)) + (rm_wr a l) < 384 from by omega) (rfl) ?_
  refine rm_iconst (v := nI (1)) dX8_give_42 (by decide) ?_
  refine rm_iadd dX8_give_43 ?_
  refine rm_iast (f := 17) (j := 48 * r + (8 * (rm_ci a l)) + (rm_wr a l)) dX8_give_44 rfl (by decide) rfl rfl (rfl) (show 48 * r + (8 * (rm_ci a l)) + (rm_wr a l) < 384 from by omega) ?_
  refine rm_aload_n dX8_give_45 rfl rfl ?_
  refine rm_getr 20 (t := 24) dX8_give_46 flX8_58 (by decide) rfl rfl ?_
  refine rm_sipush (v := nI (200)) dX8_give_49 (by decide) ?_
  refine rm_iload_n dX8_give_52 rfl rfl ?_
  refine rm_imul dX8_give_53 ?_
  refine rm_top (pk_mul (200) (r)) ?_
  refine rm_aload_n dX8_give_54 rfl rfl ?_
  refine rm_getr 21 (t := 25) dX8_give_55 flX8_61 (by decide) rfl rfl ?_
  refine rm_iload_n dX8_give_58 rfl rfl ?_
  refine rm_iald (f := 21) (j := r) (x := nI (rm_nv (a 25 r))) dX8_give_59 rfl (by decide) rfl rfl (rfl) (show r < 8 from by omega) (g12) ?_
  refine rm_iadd dX8_give_60 ?_
  refine rm_top (nI_add (200 * r) (rm_nv (a 25 r))) ?_
  refine rm_iload_n dX8_give_61 rfl rfl ?_
  refine rm_iast (f := 20) (j := 200 * r + (rm_nv (a 25 r))) dX8_give_62 rfl (by decide) rfl rfl (rfl) (show 200 * r + (rm_nv (a 25 r)) < 1600 from by omega) ?_
  refine rm_aload_n dX8_give_63 rfl rfl ?_
  refine rm_getr 21 (t := 25) dX8_give_64 flX8_61 (by decide) rfl rfl ?_
  refine rm_iload_n dX8_give_67 rfl rfl ?_
  refine rm_dup2 dX8_give_68 rfl rfl ?_
  refine rm_iald (f := 21) (j := r) (x := nI (rm_nv (a 25 r))) dX8_give_69 rfl (by decide) rfl rfl (rfl) (show r < 8 from by omega) (g12) ?_
  refine rm_iconst (v := nI (1)) dX8_give_70 (by decide) ?_
  refine rm_iadd dX8_give_71 ?_
  refine rm_top (nI_add (rm_nv (a 25 r)) (1)) ?_
  refine rm_iast (f := 21) (j := r) dX8_give_72 rfl (by decide) rfl rfl (rfl) (show r < 8 from by omega) ?_
  refine rm_iconst (v := nI (0)) dX8_give_73 (by decide) ?_
  refine rm_istore (lv' := [.ref 3, .int (nI (r)), .int (nI (l)), .int (nI (rm_ci a l)), .int (nI (0))]) dX8_give_74 (by decide) rfl ?_
  have h9 := cM_give_h (d + 2) (b := rm_g0 a r l) (cc := rm_ci a l) (Q := rm_q (rm_giv a nm nc nl r l)) g8 (show l < 200 by omega) ?_ 40 0 (by omega)
  · rw [rm_hc_0] at h9
    exact h9
  · refine rm_aload_n dX8_give_135 rfl rfl ?_
    refine rm_getr 6 (t := 10) dX8_give_136 flX8_16 (by decide) rfl rfl ?_
    refine rm_iload_n dX8_give_139 rfl rfl ?_
    refine rm_iald (f := 6) (j := l) (x := a 10 l) dX8_give_140 rfl (by decide) rfl rfl (rfl) (show l < 200 from by omega) (congrFun (rm_g1_o (a := a) (r := r) (l := l) (t := 10) (by decide) (by decide) (by decide) (by decide) (by decide)) l) ?_
    refine rm_iconst (v := nI (2)) dX8_give_141 (by decide) ?_
    refine rm_icmp_ne (tgt := 254) dX8_give_142 (by decide) (fun h142 => ?_) (fun h142 => ?_)
    · refine rm_vret dX8_give_254 rfl ?_
      exact ⟨rfl, show rm_giv a nm nc nl r l = rm_g1 a r l from if_neg (fun q => h142 q.1)⟩
    · refine rm_iload_n dX8_give_145 rfl rfl ?_
      refine rm_aload_n dX8_give_146 rfl rfl ?_
      refine rm_iload_n dX8_give_147 rfl rfl ?_
      refine rm_callV (As := [.int (nI (rm_ci a l))]) (st := [.int (nI (r))]) dX8_give_148 cvX8_148 rfl rfl (by decide) (zv_cat_i [nI (rm_ci a l)]) (Nat.le_of_ble_eq_true rfl) (cM_eldest d (a := rm_g1 a r l) (c := rm_ci a l) (e := rm_el a (rm_ci a l)) (by omega) (by have := rm_es_o (a := rm_g1 a r l) (b := a) (rm_g1_o (by decide) (by decide) (by decide) (by decide) (by decide)) g9.2.2.1; unfold rm_es at this; rw [rm_el_o (rm_g1_o (by decide) (by decide) (by decide) (by decide) (by decide))] at this; exact this)) (fun v b q => ?_)
      obtain ⟨rfl, rfl⟩ := q
      show rm_V _ _ 151 [.ref 3, .int (nI (r)), .int (nI (l)), .int (nI (rm_ci a l))] [.int (nI (rm_el a (rm_ci a l))), .int (nI (r))] _ _
      refine rm_icN_ne (tgt := 254) dX8_give_151 (by decide) (by omega) (by omega) (fun h151 => ?_) (fun h151 => ?_)
      · refine rm_vret dX8_give_254 rfl ?_
        exact ⟨rfl, show rm_giv a nm nc nl r l = rm_g1 a r l from if_neg (fun q => h151 q.2)⟩
      · obtain ⟨g15, g16⟩ := g14 h142 h151
        refine rm_aload_n dX8_give_154 rfl rfl ?_
        refine rm_getr 11 (t := 15) dX8_give_155 flX8_31 (by decide) rfl rfl ?_
        refine rm_iload_n dX8_give_158 rfl rfl ?_
        refine rm_aload_n dX8_give_159 rfl rfl ?_
        refine rm_getr 3 (t := 7) dX8_give_160 flX8_13 (by decide) rfl rfl ?_
        refine rm_iload_n dX8_give_163 rfl rfl ?_
        refine rm_iald (f := 3) (j := rm_ci a l) (x := a 7 (rm_ci a l)) dX8_give_164 rfl (by decide) rfl rfl (rfl) (show rm_ci a l < 6 from by omega) (congrFun (rm_g1_o (a := a) (r := r) (l := l) (t := 7) (by decide) (by decide) (by decide) (by decide) (by decide)) _) ?_
        refine rm_iast (f := 11) (j := l) dX8_give_165 rfl (by decide) rfl rfl (rfl) (show l < 200 from by omega) ?_
        refine rm_aload_n dX8_give_166 rfl rfl ?_
        refine rm_getr 3 (t := 7) dX8_give_167 flX8_13 (by decide) rfl rfl ?_
        refine rm_iload_n dX8_give_170 rfl rfl ?_
        refine rm_dup2 dX8_give_171 rfl rfl ?_
        refine rm_iald (f := 3) (j := rm_ci a l) (x := a 7 (rm_ci a l)) dX8_give_172 rfl (by decide) rfl rfl (rfl) (show rm_ci a l < 6 from by omega) ((zv_u_t _ _ (by decide)).trans (congrFun (rm_g1_o (a := a) (r := r) (l := l) (t := 7) (by decide) (by decide) (by decide) (by decide) (by decide)) _)) ?_
        refine rm_iconst (v := nI (1)) dX8_give_173 (by decide) ?_
        refine rm_iadd dX8_give_174 ?_
        refine rm_iast (f := 3) (j := rm_ci a l) dX8_give_175 rfl (by decide) rfl rfl (rfl) (show rm_ci a l < 6 from by omega) ?_
        refine rm_aload_n dX8_give_176 rfl rfl ?_
        refine rm_iconst (v := nI (3)) dX8_give_177 (by decide) ?_
        refine rm_iload_n dX8_give_178 rfl rfl ?_
        refine rm_iload_n dX8_give_179 rfl rfl ?_
        refine rm_iload_n dX8_give_180 rfl rfl ?_
        refine rm_callV (As := [.int (nI (3)), .int (nI (r)), .int (nI (rm_ci a l)), .int (nI (l))]) (st := []) dX8_give_181 cvX8_123 rfl rfl (by decide) (zv_cat_i [nI (3), nI (r), nI (rm_ci a l), nI (l)]) (Nat.le_of_ble_eq_true rfl) (cM_made d (a := rm_g2 a r l (rm_ci a l)) (nc := nc) (l := nl) (w := r) (c := rm_ci a l) (kk := nI 3) (x := nI l) (by rw [rm_g2_o (by decide) (by decide) (by decide) (by decide) (by decide) (by decide) (by decide)]; exact g5) g15 (by rw [rm_g2_o (by decide) (by decide) (by decide) (by decide) (by decide) (by decide) (by decide)]; exact g3) g4 g8 (by omega) (by rw [rm_g2_o (by decide) (by decide) (by decide) (by decide) (by decide) (by decide) (by decide)]; exact g16)) (fun v b q => ?_)
        obtain ⟨rfl, rfl⟩ := q
        show rm_V _ _ 184 [.ref 3, .int (nI (r)), .int (nI (l)), .int (nI (rm_ci a l))] [.int (nI (nl))] _ _
        refine rm_istore (lv' := [.ref 3, .int (nI (r)), .int (nI (l)), .int (nI (rm_ci a l)), .int (nI (nl))]) dX8_give_184 (by decide) rfl ?_
        refine rm_aload_n dX8_give_186 rfl rfl ?_
        refine rm_getr 12 (t := 16) dX8_give_187 flX8_34 (by decide) rfl rfl ?_
        refine rm_iload_n dX8_give_190 rfl rfl ?_
        refine rm_iload dX8_give_191 rfl ?_
        refine rm_iast (f := 12) (j := l) dX8_give_193 rfl (by decide) rfl rfl (rfl) (show l < 200 from by omega) ?_
        refine rm_aload_n dX8_give_194 rfl rfl ?_
        refine rm_getr 14 (t := 18) dX8_give_195 flX8_40 (by decide) rfl rfl ?_
        refine rm_iload dX8_give_198 rfl ?_
        refine rm_aload_n dX8_give_200 rfl rfl ?_
        refine rm_getr 14 (t := 18) dX8_give_201 flX8_40 (by decide) rfl rfl ?_
        refine rm_iload_n dX8_give_204 rfl rfl ?_
        refine rm_iald (f := 14) (j := l) (x := rm_g3 a nc nl r l (rm_ci a l) 18 l) dX8_give_205 rfl (by decide) rfl rfl (rfl) (show l < 200 from by omega) (zv_u_t _ _ (by decide)) ?_
        refine rm_iast (f := 14) (j := nl) dX8_give_206 rfl (by decide) rfl rfl (rfl) (show nl < 200 from by omega) ?_
        refine rm_iconst (v := nI (0)) dX8_give_207 (by decide) ?_
        refine rm_istore (lv' := [.ref 3, .int (nI (r)), .int (nI (l)), .int (nI (rm_ci a l)), .int (nI (nl)), .int (nI (0))]) dX8_give_208 (by decide) rfl ?_
        have h9 := cM_give_c (d + 2) (b := rm_g4 a nc nl r l (rm_ci a l)) (r := r) (cc := rm_ci a l) (Q := rm_q (rm_giv a nm nc nl r l)) g6 g15 ?_ 48 0 (by omega)
        · rw [rm_cc_0] at h9
          exact h9
        · have k11 : rm_g5 a nc nl r l (rm_ci a l) 11 nl = nI (rm_ci a l) := by unfold rm_g5 rm_g4 rm_g3; rw [rm_cc_o (by decide), zv_u_row _ _ _ _ (by decide), zv_u_row _ _ _ _ (by decide)]; exact rm_mad_11
          have k12 : rm_g5 a nc nl r l (rm_ci a l) 12 nl = nI r := by unfold rm_g5 rm_g4 rm_g3; rw [rm_cc_o (by decide), zv_u_row _ _ _ _ (by decide), zv_u_row _ _ _ _ (by decide)]; exact rm_mad_12
          have k0 : rm_g5 a nc nl r l (rm_ci a l) 3 0 = nI nm := by unfold rm_g5 rm_g4 rm_g3; rw [rm_cc_o (by decide), zv_u_row _ _ _ _ (by decide), zv_u_row _ _ _ _ (by decide), rm_mad_3 (by decide), rm_g2_o (by decide) (by decide) (by decide) (by decide) (by decide) (by decide) (by decide)]; exact g1
          have e11 : rm_ci (rm_g5 a nc nl r l (rm_ci a l)) nl = rm_ci a l := by show rm_nv (rm_g5 a nc nl r l (rm_ci a l) 11 nl) = _; rw [k11]; exact rm_nv_n (by omega)
          have e12 : rm_wr (rm_g5 a nc nl r l (rm_ci a l)) nl = r := by show rm_nv (rm_g5 a nc nl r l (rm_ci a l) 12 nl) = _; rw [k12]; exact rm_nv_n (by omega)
          have k1 : rm_g5 a nc nl r l (rm_ci a l) 11 nl = nI (rm_ci (rm_g5 a nc nl r l (rm_ci a l)) nl) := by rw [e11]; exact k11
          have k2 : rm_ci (rm_g5 a nc nl r l (rm_ci a l)) nl < 6 := by rw [e11]; omega
          have k3 : rm_g5 a nc nl r l (rm_ci a l) 12 nl = nI (rm_wr (rm_g5 a nc nl r l (rm_ci a l)) nl) := by rw [e12]; exact k12
          have k4 : rm_wr (rm_g5 a nc nl r l (rm_ci a l)) nl < 8 := by rw [e12]; exact g8
          refine rm_aload_n dX8_give_248 rfl rfl ?_
          refine rm_iload dX8_give_249 rfl ?_
          refine rm_callV (As := [.int (nI (nl))]) (st := []) dX8_give_251 cvX8_131 rfl rfl (by decide) (zv_cat_i [nI (nl)]) (Nat.le_of_ble_eq_true rfl) (cM_goes (d + 1 - 1) (a := rm_g5 a nc nl r l (rm_ci a l)) (nm := nm) (l := nl) k0 g2 g15 k1 k2 k3 k4) (fun v b q => ?_)
          obtain ⟨rfl, rfl⟩ := q
          show rm_V _ _ 254 [.ref 3, .int (nI (r)), .int (nI (l)), .int (nI (rm_ci a l)), .int (nI (nl))] [] _ _
          refine rm_vret dX8_give_254 rfl ?_
          exact ⟨rfl, show rm_giv a nm nc nl r l = rm_g6 a nm nc nl r l (rm_ci a l) from if_pos ⟨h142, h151⟩⟩
end
section
def rm_NM (a : zv_I) : Nat := rm_nv (a 3 0)
def rm_NC (a : zv_I) : Nat := rm_nv (a 3 1)
def rm_NL (a : zv_I) : Nat := rm_nv (a 3 4)
def rm_NA (a : zv_I) : Nat := rm_nv (a 3 5)
def rm_nx (a : zv_I) (r : Nat) : Option Nat := rm_nxt a (rm_NC a) (rm_NL a) r
def rm_gv (a : zv_I) (r l : Nat) : zv_I := rm_giv a (rm_NM a) (rm_NC a) (rm_NL a) r l
/-- what next wants -/
def rm_nh (a : zv_I) : Prop := a 3 1 = nI (rm_NC a) ∧ rm_NC a ≤ 6 ∧ a 3 4 = nI (rm_NL a) ∧ rm_NL a ≤ 200 ∧ ∀ l, l < rm_NL a → rm_lw a (rm_NC a) l
def rm_gvs (r : Nat) : Nat → zv_I → Nat → zv_I × Nat
  | 0, a, n => (a, n)
  | f + 1, a, n => match rm_nx a r with
    | none => (a, n)
    | some l => rm_gvs r f (rm_gv a r l) (n + 1)
def rm_gvt (r : Nat) : Nat → zv_I → Bool
  | 0, _ => false
  | f + 1, a => match rm_nx a r with
    | none => true
    | some l => rm_gvt r f (rm_gv a r l)
/-- P stays while r gives -/
def rm_stay (P : zv_I → Prop) (r : Nat) : Prop := ∀ a, P a → rm_nh a ∧ ∀ l, rm_nx a r = some l → rm_gh a (rm_NM a) (rm_NC a) (rm_NL a) r l ∧ P (rm_gv a r l)
theorem cM_gives_l (d : Nat) {r : Nat} (hr : r < 8) {P : zv_I → Prop} (hP : rm_stay P r) : ∀ f a n, P a → rm_gvt r f a = true → n + f < 2 ^ 31 → rm_V mX8_gives (d + 6) 8 [.ref 3, .int (nI r), .int (nI n), .int (rm_o (rm_nx a r))] [] a (rm_p (nI (rm_gvs r f a n).2) (rm_gvs r f a n).1) := by
  intro f
  induction f with
  | zero => intro a n _ h; cases h
  | succ f ih =>
    intro a n hPa ht hn
    have hs := hP a hPa
    show rm_V mX8_gives (d + 6) 8 _ [] a (rm_p (nI (match rm_nx a r with | none => (a, n) | some l => rm_gvs r f (rm_gv a r l) (n + 1)).2) (match rm_nx a r with | none => (a, n) | some l => rm_gvs r f (rm_gv a r l) (n + 1)).1)
    have ht : (match rm_nx a r with | none => true | some l => rm_gvt r f (rm_gv a r l)) = true := ht
    cases hx : rm_nx a r with
    | none =>
      refine rm_iload_n dX8_gives_8 rfl rfl ?_
      refine rm_iconst (v := (-1 : Int32)) dX8_gives_9 (by decide) ?_
      refine rm_icmp_eq (tgt := 31) dX8_gives_10 (by decide) (fun h10 => ?_) (fun h10 => (absurd rfl h10))
      refine rm_iload_n dX8_gives_31 rfl rfl ?_
      refine rm_iret dX8_gives_32 rfl rfl ?_
      exact ⟨rfl, rfl⟩
    | some l =>
      rw [hx] at ht
      obtain ⟨gh, hP2⟩ := hs.2 l hx
      have hl2 : l < 2 ^ 31 := by have := gh.2.2.2.2.2.1; have := gh.2.2.2.2.2.2.1; omega
      have nh := (hP _ hP2).1
      refine rm_iload_n dX8_gives_8 rfl rfl ?_
      refine rm_iconst (v := (-1 : Int32)) dX8_gives_9 (by decide) ?_
      refine rm_icmp_eq (tgt := 31) dX8_gives_10 (by decide) (fun h10 => (absurd h10 (rm_ni1 hl2))) (fun h10 => ?_)
      refine rm_aload_n dX8_gives_13 rfl rfl ?_
      refine rm_iload_n dX8_gives_14 rfl rfl ?_
      refine rm_iload_n dX8_gives_15 rfl rfl ?_
      refine rm_callV (As := [.int (nI (r)), .int (nI (l))]) (st := []) dX8_gives_16 cvX8_167 rfl rfl (by decide) (zv_cat_i [nI (r), nI (l)]) (Nat.le_of_ble_eq_true rfl) (cM_give (d + 3) (a := a) (nm := rm_NM a) (nc := rm_NC a) (nl := rm_NL a) (r := r) (l := l) gh) (fun v b q => ?_)
      obtain ⟨rfl, rfl⟩ := q
      show rm_V _ _ 19 [.ref 3, .int (nI (r)), .int (nI (n)), .int (nI (l))] [] _ _
      refine rm_iinc (v := nI (n + 1)) (lv' := [.ref 3, .int (nI (r)), .int (nI (n + 1)), .int (nI (l))]) dX8_gives_19 rfl (by rw [← nI_1]; rfl) (by decide) rfl ?_
      refine rm_aload_n dX8_gives_22 rfl rfl ?_
      refine rm_iload_n dX8_gives_23 rfl rfl ?_
      refine rm_callV (As := [.int (nI (r))]) (st := []) dX8_gives_24 cvX8_164 rfl rfl (by decide) (zv_cat_i [nI (r)]) (Nat.le_of_ble_eq_true rfl) (cM_next d (a := (rm_gv a r l)) (nc := rm_NC (rm_gv a r l)) (nl := rm_NL (rm_gv a r l)) (r := r) nh.1 nh.2.1 nh.2.2.1 nh.2.2.2.1 hr nh.2.2.2.2) (fun v b q => ?_)
      obtain ⟨rfl, rfl⟩ := q
      show rm_V _ _ 27 [.ref 3, .int (nI (r)), .int (nI (n + 1)), .int (nI (l))] [.int (rm_o (rm_nx (rm_gv a r l) r))] _ _
      refine rm_istore_n (lv' := [.ref 3, .int (nI (r)), .int (nI (n + 1)), .int (rm_o (rm_nx (rm_gv a r l) r))]) dX8_gives_27 rfl (by decide) rfl ?_
      refine rm_goto (tgt := 8) dX8_gives_28 (by decide) ?_
      exact ih (rm_gv a r l) (n + 1) hP2 ht (by omega)
theorem cM_gives (d : Nat) {r : Nat} (hr : r < 8) {P : zv_I → Prop} (hP : rm_stay P r) {f : Nat} {a : zv_I} (hPa : P a) (ht : rm_gvt r f a = true) (hf : f < 2 ^ 31) : rm_V mX8_gives (d + 6) 0 [.ref 3, .int (nI r)] [] a (rm_p (nI (rm_gvs r f a 0).2) (rm_gvs r f a 0).1) := by
  have nh := (hP a hPa).1
  refine rm_iconst (v := nI (0)) dX8_gives_0 (by decide) ?_
  refine rm_istore_n (lv' := [.ref 3, .int (nI (r)), .int (nI (0))]) dX8_gives_1 rfl (by decide) rfl ?_
  refine rm_aload_n dX8_gives_2 rfl rfl ?_
  refine rm_iload_n dX8_gives_3 rfl rfl ?_
  refine rm_callV (As := [.int (nI (r))]) (st := []) dX8_gives_4 cvX8_164 rfl rfl (by decide) (zv_cat_i [nI (r)]) (Nat.le_of_ble_eq_true rfl) (cM_next d (a := a) (nc := rm_NC a) (nl := rm_NL a) (r := r) nh.1 nh.2.1 nh.2.2.1 nh.2.2.2.1 hr nh.2.2.2.2) (fun v b q => ?_)
  obtain ⟨rfl, rfl⟩ := q
  show rm_V _ _ 7 [.ref 3, .int (nI (r)), .int (nI (0))] [.int (rm_o (rm_nx a r))] _ _
  refine rm_istore_n (lv' := [.ref 3, .int (nI (r)), .int (nI (0)), .int (rm_o (rm_nx a r))]) dX8_gives_7 rfl (by decide) rfl ?_
  exact cM_gives_l d hr hP f a 0 hPa ht (by omega)
theorem cM_call_1 (d : Nat) {a : zv_I} {nm nc : Nat} (hm : a 3 0 = nI nm) (hmb : nm ≤ 8) (hc : a 3 1 = nI nc) (hcb : nc ≤ 6) {kk w c x : Int32} {good : Bool} (hbad : (rm_lt w nm && (rm_lt c nc && good)) = false) : rm_V mX8_call (d + 2) 0 [.ref 3, .int kk, .int w, .int c, .int x, .int (rm_b good)] [] a (rm_p (-1 : Int32) (zv_u a 3 24 (nI 1))) := by
  refine rm_aload_n dX8_call_0 rfl rfl ?_
  refine rm_iload_n dX8_call_1 rfl rfl ?_
  refine rm_callV (As := [.int (w)]) (st := []) dX8_call_2 cvX8_113 rfl rfl (by decide) (zv_cat_i [w]) (Nat.le_of_ble_eq_true rfl) (cM_isMember d hm (by omega) w) (fun v b q => ?_)
  obtain ⟨rfl, rfl⟩ := q
  show rm_V _ _ 5 [.ref 3, .int (kk), .int (w), .int (c), .int (x), .int (rm_b (good))] [.int (rm_b (rm_lt w nm))] _ _
  refine rm_ifB_eq (tgt := 20) dX8_call_5 (by decide) (fun h5 => ?_) (fun h5 => ?_)
  · refine rm_iconst (v := nI (0)) dX8_call_20 (by decide) ?_
    refine rm_istore (lv' := [.ref 3, .int (kk), .int (w), .int (c), .int (x), .int (rm_b (good)), .int (nI (0))]) dX8_call_21 (by decide) rfl ?_
    refine rm_iload dX8_call_23 rfl ?_
    refine rm_if_eq (tgt := 33) dX8_call_25 (by decide) (fun h25 => ?_) (fun h25 => (absurd h25 (by decide)))
    refine rm_aload_n dX8_call_33 rfl rfl ?_
    refine rm_iconst (v := nI (1)) dX8_call_34 (by decide) ?_
    refine rm_callV (As := [.int (nI (1))]) (st := []) dX8_call_35 cvX8_103 rfl rfl (by decide) (zv_cat_i [nI (1)]) (Nat.le_of_ble_eq_true rfl) (cM_refused (d + 1) a (nI (1))) (fun v b q => ?_)
    obtain ⟨rfl, rfl⟩ := q
    show rm_V _ _ 38 [.ref 3, .int (kk), .int (w), .int (c), .int (x), .int (rm_b (good)), .int (nI (0))] [.int ((-1 : Int32))] _ _
    refine rm_iret dX8_call_38 rfl rfl ?_
    exact ⟨rfl, rfl⟩
  · refine rm_aload_n dX8_call_8 rfl rfl ?_
    refine rm_iload_n dX8_call_9 rfl rfl ?_
    refine rm_callV (As := [.int (c)]) (st := []) dX8_call_10 cvX8_117 rfl rfl (by decide) (zv_cat_i [c]) (Nat.le_of_ble_eq_true rfl) (cM_isCircle d hc (by omega) c) (fun v b q => ?_)
    obtain ⟨rfl, rfl⟩ := q
    show rm_V _ _ 13 [.ref 3, .int (kk), .int (w), .int (c), .int (x), .int (rm_b (good))] [.int (rm_b (rm_lt c nc))] _ _
    refine rm_ifB_eq (tgt := 20) dX8_call_13 (by decide) (fun h13 => ?_) (fun h13 => ?_)
    · refine rm_iconst (v := nI (0)) dX8_call_20 (by decide) ?_
      refine rm_istore (lv' := [.ref 3, .int (kk), .int (w), .int (c), .int (x), .int (rm_b (good)), .int (nI (0))]) dX8_call_21 (by decide) rfl ?_
      refine rm_iload dX8_call_23 rfl ?_
      refine rm_if_eq (tgt := 33) dX8_call_25 (by decide) (fun h25 => ?_) (fun h25 => (absurd h25 (by decide)))
      refine rm_aload_n dX8_call_33 rfl rfl ?_
      refine rm_iconst (v := nI (1)) dX8_call_34 (by decide) ?_
      refine rm_callV (As := [.int (nI (1))]) (st := []) dX8_call_35 cvX8_103 rfl rfl (by decide) (zv_cat_i [nI (1)]) (Nat.le_of_ble_eq_true rfl) (cM_refused (d + 1) a (nI (1))) (fun v b q => ?_)
      obtain ⟨rfl, rfl⟩ := q
      show rm_V _ _ 38 [.ref 3, .int (kk), .int (w), .int (c), .int (x), .int (rm_b (good)), .int (nI (0))] [.int ((-1 : Int32))] _ _
      refine rm_iret dX8_call_38 rfl rfl ?_
      exact ⟨rfl, rfl⟩
    · refine rm_iconst (v := nI (1)) dX8_call_16 (by decide) ?_
      refine rm_goto (tgt := 21) dX8_call_17 (by decide) ?_
      refine rm_istore (lv' := [.ref 3, .int (kk), .int (w), .int (c), .int (x), .int (rm_b (good)), .int (nI (1))]) dX8_call_21 (by decide) rfl ?_
      refine rm_iload dX8_call_23 rfl ?_
      refine rm_if_eq (tgt := 33) dX8_call_25 (by decide) (fun h25 => (absurd h25 (by decide))) (fun h25 => ?_)
      refine rm_iload dX8_call_28 rfl ?_
      refine rm_ifB_ne (tgt := 39) dX8_call_30 (by decide) (fun h30 => ?_) (fun h30 => ?_)
      · rw [h5, h13, h30] at hbad
        cases hbad
      · refine rm_aload_n dX8_call_33 rfl rfl ?_
        refine rm_iconst (v := nI (1)) dX8_call_34 (by decide) ?_
        refine rm_callV (As := [.int (nI (1))]) (st := []) dX8_call_35 cvX8_103 rfl rfl (by decide) (zv_cat_i [nI (1)]) (Nat.le_of_ble_eq_true rfl) (cM_refused (d + 1) a (nI (1))) (fun v b q => ?_)
        obtain ⟨rfl, rfl⟩ := q
        show rm_V _ _ 38 [.ref 3, .int (kk), .int (w), .int (c), .int (x), .int (rm_b (good)), .int (nI (1))] [.int ((-1 : Int32))] _ _
        refine rm_iret dX8_call_38 rfl rfl ?_
        exact ⟨rfl, rfl⟩
def rm_knw (a : zv_I) (w : Nat) : Option Nat → Bool
  | none => true
  | some y => decide (a 12 y = nI w ∨ a 20 (200 * w + y) = nI 3)
def rm_c1 (a : zv_I) : zv_I := zv_u a 3 5 (nI (rm_NA a + 1))
def rm_c2 (a : zv_I) (nc l : Nat) (kk : Int32) (w c : Nat) (x : Int32) : zv_I := rm_mad (rm_c1 a) nc l kk w c x
def rm_c3 (a : zv_I) (nc l : Nat) (kk : Int32) (w c : Nat) (x : Int32) : zv_I := rm_cts (rm_c2 a nc l kk w c x) nc l w c
def rm_c4 (a : zv_I) (nm nc l : Nat) (kk : Int32) (w c : Nat) (x : Int32) : zv_I := rm_goes (rm_c3 a nc l kk w c x) nm l
theorem rm_c3_o {a : zv_I} {nc l w c t j : Nat} {kk x : Int32} (h17 : t ≠ 17) (h23 : t ≠ 23) : rm_c3 a nc l kk w c x t j = rm_c2 a nc l kk w c x t j := by
  unfold rm_c3 rm_cts
  rw [zv_u_t _ _ h23, zv_u_t _ _ h17]
theorem cM_call_2 (d : Nat) {a : zv_I} {nm nc nl w c : Nat} {kk : Int32} {x : Option Nat} (hm : a 3 0 = nI nm) (hmb : nm ≤ 8) (hc : a 3 1 = nI nc) (hcb : nc ≤ 6) (hn : a 3 4 = nI nl) (hnb : nl ≤ 200) (ha : a 3 5 = nI (rm_NA a)) (hab : rm_NA a ≤ 100) (hw : w < nm) (hcc : c < nc) (hx : ∀ y, x = some y → y < nl) (h100 : rm_NA a = 100) : rm_V mX8_call (d + 7) 0 [.ref 3, .int kk, .int (nI w), .int (nI c), .int (rm_o x), .int (rm_b true)] [] a (rm_p (-1 : Int32) (zv_u a 3 24 (nI 2))) := by
  refine rm_aload_n dX8_call_0 rfl rfl ?_
  refine rm_iload_n dX8_call_1 rfl rfl ?_
  refine rm_callV (As := [.int (nI (w))]) (st := []) dX8_call_2 cvX8_113 rfl rfl (by decide) (zv_cat_i [nI (w)]) (Nat.le_of_ble_eq_true rfl) (cM_isMember (d + 5) hm (by omega) (nI w)) (fun v b q => ?_)
  obtain ⟨rfl, rfl⟩ := q
  show rm_V _ _ 5 [.ref 3, .int (kk), .int (nI (w)), .int (nI (c)), .int ((rm_o x)), .int (rm_b (true))] [.int (rm_b (rm_lt (nI w) nm))] _ _
  refine rm_ifB_eq (tgt := 20) dX8_call_5 (by decide) (fun h5 => (absurd h5 (by rw [rm_lt_n (by omega), decide_eq_true hw]; decide))) (fun h5 => ?_)
  refine rm_aload_n dX8_call_8 rfl rfl ?_
  refine rm_iload_n dX8_call_9 rfl rfl ?_
  refine rm_callV (As := [.int (nI (c))]) (st := []) dX8_call_10 cvX8_117 rfl rfl (by decide) (zv_cat_i [nI (c)]) (Nat.le_of_ble_eq_true rfl) (cM_isCircle (d + 5) hc (by omega) (nI c)) (fun v b q => ?_)
  obtain ⟨rfl, rfl⟩ := q
  show rm_V _ _ 13 [.ref 3, .int (kk), .int (nI (w)), .int (nI (c)), .int ((rm_o x)), .int (rm_b (true))] [.int (rm_b (rm_lt (nI c) nc))] _ _
  refine rm_ifB_eq (tgt := 20) dX8_call_13 (by decide) (fun h13 => (absurd h13 (by rw [rm_lt_n (by omega), decide_eq_true hcc]; decide))) (fun h13 => ?_)
  refine rm_iconst (v := nI (1)) dX8_call_16 (by decide) ?_
  refine rm_goto (tgt := 21) dX8_call_17 (by decide) ?_
  refine rm_istore (lv' := [.ref 3, .int (kk), .int (nI (w)), .int (nI (c)), .int ((rm_o x)), .int (rm_b (true)), .int (nI (1))]) dX8_call_21 (by decide) rfl ?_
  refine rm_iload dX8_call_23 rfl ?_
  refine rm_if_eq (tgt := 33) dX8_call_25 (by decide) (fun h25 => (absurd h25 (by decide))) (fun h25 => ?_)
  refine rm_iload dX8_call_28 rfl ?_
  refine rm_ifB_ne (tgt := 39) dX8_call_30 (by decide) (fun h30 => ?_) (fun h30 => (absurd h30 (by decide)))
  refine rm_aload_n dX8_call_39 rfl rfl ?_
  refine rm_geti 5 (x := nI (rm_NA a)) dX8_call_40 flX8_120 rfl (ha) ?_
  refine rm_bipush (v := nI (100)) dX8_call_43 (by decide) ?_
  refine rm_icN_ne (tgt := 54) dX8_call_45 (by decide) (by omega) (by omega) (fun h45 => (absurd h100 h45)) (fun h45 => ?_)
  refine rm_aload_n dX8_call_48 rfl rfl ?_
  refine rm_iconst (v := nI (2)) dX8_call_49 (by decide) ?_
  refine rm_callV (As := [.int (nI (2))]) (st := []) dX8_call_50 cvX8_103 rfl rfl (by decide) (zv_cat_i [nI (2)]) (Nat.le_of_ble_eq_true rfl) (cM_refused (d + 6) a (nI (2))) (fun v b q => ?_)
  obtain ⟨rfl, rfl⟩ := q
  show rm_V _ _ 53 [.ref 3, .int (kk), .int (nI (w)), .int (nI (c)), .int ((rm_o x)), .int (rm_b (true)), .int (nI (1))] [.int ((-1 : Int32))] _ _
  refine rm_iret dX8_call_53 rfl rfl ?_
  exact ⟨rfl, rfl⟩
theorem cM_call_3 (d : Nat) {a : zv_I} {nm nc nl w c : Nat} {kk : Int32} {x : Option Nat} (hm : a 3 0 = nI nm) (hmb : nm ≤ 8) (hc : a 3 1 = nI nc) (hcb : nc ≤ 6) (hn : a 3 4 = nI nl) (hnb : nl ≤ 200) (ha : a 3 5 = nI (rm_NA a)) (hab : rm_NA a ≤ 100) (hw : w < nm) (hcc : c < nc) (hx : ∀ y, x = some y → y < nl) (h100 : rm_NA a < 100) (hbad : (rm_in a w c && rm_knw a w x) = false) : rm_V mX8_call (d + 7) 0 [.ref 3, .int kk, .int (nI w), .int (nI c), .int (rm_o x), .int (rm_b true)] [] a (rm_p (-1 : Int32) (zv_u a 3 24 (nI 3))) := by
  cases x with
  | none =>
    refine rm_aload_n dX8_call_0 rfl rfl ?_
    refine rm_iload_n dX8_call_1 rfl rfl ?_
    refine rm_callV (As := [.int (nI (w))]) (st := []) dX8_call_2 cvX8_113 rfl rfl (by decide) (zv_cat_i [nI (w)]) (Nat.le_of_ble_eq_true rfl) (cM_isMember (d + 5) hm (by omega) (nI w)) (fun v b q => ?_)
    obtain ⟨rfl, rfl⟩ := q
    show rm_V _ _ 5 [.ref 3, .int (kk), .int (nI (w)), .int (nI (c)), .int ((-1 : Int32)), .int (rm_b (true))] [.int (rm_b (rm_lt (nI w) nm))] _ _
    refine rm_ifB_eq (tgt := 20) dX8_call_5 (by decide) (fun h5 => (absurd h5 (by rw [rm_lt_n (by omega), decide_eq_true hw]; decide))) (fun h5 => ?_)
    refine rm_aload_n dX8_call_8 rfl rfl ?_
    refine rm_iload_n dX8_call_9 rfl rfl ?_
    refine rm_callV (As := [.int (nI (c))]) (st := []) dX8_call_10 cvX8_117 rfl rfl (by decide) (zv_cat_i [nI (c)]) (Nat.le_of_ble_eq_true rfl) (cM_isCircle (d + 5) hc (by omega) (nI c)) (fun v b q => ?_)
    obtain ⟨rfl, rfl⟩ := q
    show rm_V _ _ 13 [.ref 3, .int (kk), .int (nI (w)), .int (nI (c)), .int ((-1 : Int32)), .int (rm_b (true))] [.int (rm_b (rm_lt (nI c) nc))] _ _
    refine rm_ifB_eq (tgt := 20) dX8_call_13 (by decide) (fun h13 => (absurd h13 (by rw [rm_lt_n (by omega), decide_eq_true hcc]; decide))) (fun h13 => ?_)
    refine rm_iconst (v := nI (1)) dX8_call_16 (by decide) ?_
    refine rm_goto (tgt := 21) dX8_call_17 (by decide) ?_
    refine rm_istore (lv' := [.ref 3, .int (kk), .int (nI (w)), .int (nI (c)), .int ((-1 : Int32)), .int (rm_b (true)), .int (nI (1))]) dX8_call_21 (by decide) rfl ?_
    refine rm_iload dX8_call_23 rfl ?_
    refine rm_if_eq (tgt := 33) dX8_call_25 (by decide) (fun h25 => (absurd h25 (by decide))) (fun h25 => ?_)
    refine rm_iload dX8_call_28 rfl ?_
    refine rm_ifB_ne (tgt := 39) dX8_call_30 (by decide) (fun h30 => ?_) (fun h30 => (absurd h30 (by decide)))
    refine rm_aload_n dX8_call_39 rfl rfl ?_
    refine rm_geti 5 (x := nI (rm_NA a)) dX8_call_40 flX8_120 rfl (ha) ?_
    refine rm_bipush (v := nI (100)) dX8_call_43 (by decide) ?_
    refine rm_icN_ne (tgt := 54) dX8_call_45 (by decide) (by omega) (by omega) (fun h45 => ?_) (fun h45 => (absurd h45 (by omega)))
    refine rm_iload dX8_call_54 rfl ?_
    refine rm_iconst (v := (-1 : Int32)) dX8_call_56 (by decide) ?_
    refine rm_icmp_eq (tgt := 88) dX8_call_57 (by decide) (fun h57 => ?_) (fun h57 => (absurd rfl h57))
    refine rm_iconst (v := nI (1)) dX8_call_88 (by decide) ?_
    refine rm_goto (tgt := 93) dX8_call_89 (by decide) ?_
    refine rm_istore (lv' := [.ref 3, .int (kk), .int (nI (w)), .int (nI (c)), .int ((-1 : Int32)), .int (rm_b (true)), .int (nI (1)), .int (nI (1))]) dX8_call_93 (by decide) rfl ?_
    refine rm_aload_n dX8_call_95 rfl rfl ?_
    refine rm_iload_n dX8_call_96 rfl rfl ?_
    refine rm_iload_n dX8_call_97 rfl rfl ?_
    refine rm_callV (As := [.int (nI (w)), .int (nI (c))]) (st := []) dX8_call_98 cvX8_92 rfl rfl (by decide) (zv_cat_i [nI (w), nI (c)]) (Nat.le_of_ble_eq_true rfl) (cM_isIn (d + 6) a (m := w) (c := c) (by omega)) (fun v b q => ?_)
    obtain ⟨rfl, rfl⟩ := q
    show rm_V _ _ 101 [.ref 3, .int (kk), .int (nI (w)), .int (nI (c)), .int ((-1 : Int32)), .int (rm_b (true)), .int (nI (1)), .int (nI (1))] [.int (rm_b (rm_in a w c))] _ _
    refine rm_ifB_eq (tgt := 109) dX8_call_101 (by decide) (fun h101 => ?_) (fun h101 => ?_)
    · refine rm_aload_n dX8_call_109 rfl rfl ?_
      refine rm_iconst (v := nI (3)) dX8_call_110 (by decide) ?_
      refine rm_callV (As := [.int (nI (3))]) (st := []) dX8_call_111 cvX8_103 rfl rfl (by decide) (zv_cat_i [nI (3)]) (Nat.le_of_ble_eq_true rfl) (cM_refused (d + 6) a (nI (3))) (fun v b q => ?_)
      obtain ⟨rfl, rfl⟩ := q
      show rm_V _ _ 114 [.ref 3, .int (kk), .int (nI (w)), .int (nI (c)), .int ((-1 : Int32)), .int (rm_b (true)), .int (nI (1)), .int (nI (1))] [.int ((-1 : Int32))] _ _
      refine rm_iret dX8_call_114 rfl rfl ?_
      exact ⟨rfl, rfl⟩
    · refine rm_iload dX8_call_104 rfl ?_
      refine rm_if_ne (tgt := 115) dX8_call_106 (by decide) (fun h106 => ?_) (fun h106 => (absurd h106 (by decide)))
      rw [h101, show rm_knw a w none = true from rfl] at hbad
      cases hbad
  | some y =>
    refine rm_aload_n dX8_call_0 rfl rfl ?_
    refine rm_iload_n dX8_call_1 rfl rfl ?_
    refine rm_callV (As := [.int (nI (w))]) (st := []) dX8_call_2 cvX8_113 rfl rfl (by decide) (zv_cat_i [nI (w)]) (Nat.le_of_ble_eq_true rfl) (cM_isMember (d + 5) hm (by omega) (nI w)) (fun v b q => ?_)
    obtain ⟨rfl, rfl⟩ := q
    show rm_V _ _ 5 [.ref 3, .int (kk), .int (nI (w)), .int (nI (c)), .int (nI (y)), .int (rm_b (true))] [.int (rm_b (rm_lt (nI w) nm))] _ _
    refine rm_ifB_eq (tgt := 20) dX8_call_5 (by decide) (fun h5 => (absurd h5 (by rw [rm_lt_n (by omega), decide_eq_true hw]; decide))) (fun h5 => ?_)
    refine rm_aload_n dX8_call_8 rfl rfl ?_
    refine rm_iload_n dX8_call_9 rfl rfl ?_
    refine rm_callV (As := [.int (nI (c))]) (st := []) dX8_call_10 cvX8_117 rfl rfl (by decide) (zv_cat_i [nI (c)]) (Nat.le_of_ble_eq_true rfl) (cM_isCircle (d + 5) hc (by omega) (nI c)) (fun v b q => ?_)
    obtain ⟨rfl, rfl⟩ := q
    show rm_V _ _ 13 [.ref 3, .int (kk), .int (nI (w)), .int (nI (c)), .int (nI (y)), .int (rm_b (true))] [.int (rm_b (rm_lt (nI c) nc))] _ _
    refine rm_ifB_eq (tgt := 20) dX8_call_13 (by decide) (fun h13 => (absurd h13 (by rw [rm_lt_n (by omega), decide_eq_true hcc]; decide))) (fun h13 => ?_)
    refine rm_iconst (v := nI (1)) dX8_call_16 (by decide) ?_
    refine rm_goto (tgt := 21) dX8_call_17 (by decide) ?_
    refine rm_istore (lv' := [.ref 3, .int (kk), .int (nI (w)), .int (nI (c)), .int (nI (y)), .int (rm_b (true)), .int (nI (1))]) dX8_call_21 (by decide) rfl ?_
    refine rm_iload dX8_call_23 rfl ?_
    refine rm_if_eq (tgt := 33) dX8_call_25 (by decide) (fun h25 => (absurd h25 (by decide))) (fun h25 => ?_)
    refine rm_iload dX8_call_28 rfl ?_
    refine rm_ifB_ne (tgt := 39) dX8_call_30 (by decide) (fun h30 => ?_) (fun h30 => (absurd h30 (by decide)))
    refine rm_aload_n dX8_call_39 rfl rfl ?_
    refine rm_geti 5 (x := nI (rm_NA a)) dX8_call_40 flX8_120 rfl (ha) ?_
    refine rm_bipush (v := nI (100)) dX8_call_43 (by decide) ?_
    refine rm_icN_ne (tgt := 54) dX8_call_45 (by decide) (by omega) (by omega) (fun h45 => ?_) (fun h45 => (absurd h45 (by omega)))
    refine rm_iload dX8_call_54 rfl ?_
    refine rm_iconst (v := (-1 : Int32)) dX8_call_56 (by decide) ?_
    refine rm_icmp_eq (tgt := 88) dX8_call_57 (by decide) (fun h57 => (absurd h57 (rm_ni1 (by have := hx y rfl; omega)))) (fun h57 => ?_)
    refine rm_aload_n dX8_call_60 rfl rfl ?_
    refine rm_getr 8 (t := 12) dX8_call_61 flX8_22 (by decide) rfl rfl ?_
    refine rm_iload dX8_call_64 rfl ?_
    refine rm_iald (f := 8) (j := y) (x := (a 12 (y))) dX8_call_66 rfl (by decide) rfl rfl (rfl) (show y < 200 from by have := hx y rfl; omega) (rfl) ?_
    refine rm_iload_n dX8_call_67 rfl rfl ?_
    refine rm_icmp_eq (tgt := 88) dX8_call_68 (by decide) (fun h68 => ?_) (fun h68 => ?_)
    · refine rm_iconst (v := nI (1)) dX8_call_88 (by decide) ?_
      refine rm_goto (tgt := 93) dX8_call_89 (by decide) ?_
      refine rm_istore (lv' := [.ref 3, .int (kk), .int (nI (w)), .int (nI (c)), .int (nI (y)), .int (rm_b (true)), .int (nI (1)), .int (nI (1))]) dX8_call_93 (by decide) rfl ?_
      refine rm_aload_n dX8_call_95 rfl rfl ?_
      refine rm_iload_n dX8_call_96 rfl rfl ?_
      refine rm_iload_n dX8_call_97 rfl rfl ?_
      refine rm_callV (As := [.int (nI (w)), .int (nI (c))]) (st := []) dX8_call_98 cvX8_92 rfl rfl (by decide) (zv_cat_i [nI (w), nI (c)]) (Nat.le_of_ble_eq_true rfl) (cM_isIn (d + 6) a (m := w) (c := c) (by omega)) (fun v b q => ?_)
      obtain ⟨rfl, rfl⟩ := q
      show rm_V _ _ 101 [.ref 3, .int (kk), .int (nI (w)), .int (nI (c)), .int (nI (y)), .int (rm_b (true)), .int (nI (1)), .int (nI (1))] [.int (rm_b (rm_in a w c))] _ _
      refine rm_ifB_eq (tgt := 109) dX8_call_101 (by decide) (fun h101 => ?_) (fun h101 => ?_)
      · refine rm_aload_n dX8_call_109 rfl rfl ?_
        refine rm_iconst (v := nI (3)) dX8_call_110 (by decide) ?_
        refine rm_callV (As := [.int (nI (3))]) (st := []) dX8_call_111 cvX8_103 rfl rfl (by decide) (zv_cat_i [nI (3)]) (Nat.le_of_ble_eq_true rfl) (cM_refused (d + 6) a (nI (3))) (fun v b q => ?_)
        obtain ⟨rfl, rfl⟩ := q
        show rm_V _ _ 114 [.ref 3, .int (kk), .int (nI (w)), .int (nI (c)), .int (nI (y)), .int (rm_b (true)), .int (nI (1)), .int (nI (1))] [.int ((-1 : Int32))] _ _
        refine rm_iret dX8_call_114 rfl rfl ?_
        exact ⟨rfl, rfl⟩
      · refine rm_iload dX8_call_104 rfl ?_
        refine rm_if_ne (tgt := 115) dX8_call_106 (by decide) (fun h106 => ?_) (fun h106 => (absurd h106 (by decide)))
        rw [h101, show rm_knw a w (some y) = true from decide_eq_true (Or.inl h68)] at hbad
        cases hbad
    · refine rm_aload_n dX8_call_71 rfl rfl ?_
      refine rm_getr 16 (t := 20) dX8_call_72 flX8_46 (by decide) rfl rfl ?_
      refine rm_sipush (v := nI (200)) dX8_call_75 (by decide) ?_
      refine rm_iload_n dX8_call_78 rfl rfl ?_
      refine rm_imul dX8_call_79 ?_
      refine rm_top (pk_mul (200) (w)) ?_
      refine rm_iload dX8_call_80 rfl ?_
      refine rm_iadd dX8_call_82 ?_
      refine rm_top (nI_add (200 * w) (y)) ?_
      refine rm_iald (f := 16) (j := 200 * w + y) (x := (a 20 (200 * w + y))) dX8_call_83 rfl (by decide) rfl rfl (rfl) (show 200 * w + y < 1600 from by have := hx y rfl; omega) (rfl) ?_
      refine rm_iconst (v := nI (3)) dX8_call_84 (by decide) ?_
      refine rm_icmp_ne (tgt := 92) dX8_call_85 (by decide) (fun h85 => ?_) (fun h85 => ?_)
      · refine rm_iconst (v := nI (0)) dX8_call_92 (by decide) ?_
        refine rm_istore (lv' := [.ref 3, .int (kk), .int (nI (w)), .int (nI (c)), .int (nI (y)), .int (rm_b (true)), .int (nI (1)), .int (nI (0))]) dX8_call_93 (by decide) rfl ?_
        refine rm_aload_n dX8_call_95 rfl rfl ?_
        refine rm_iload_n dX8_call_96 rfl rfl ?_
        refine rm_iload_n dX8_call_97 rfl rfl ?_
        refine rm_callV (As := [.int (nI (w)), .int (nI (c))]) (st := []) dX8_call_98 cvX8_92 rfl rfl (by decide) (zv_cat_i [nI (w), nI (c)]) (Nat.le_of_ble_eq_true rfl) (cM_isIn (d + 6) a (m := w) (c := c) (by omega)) (fun v b q => ?_)
        obtain ⟨rfl, rfl⟩ := q
        show rm_V _ _ 101 [.ref 3, .int (kk), .int (nI (w)), .int (nI (c)), .int (nI (y)), .int (rm_b (true)), .int (nI (1)), .int (nI (0))] [.int (rm_b (rm_in a w c))] _ _
        refine rm_ifB_eq (tgt := 109) dX8_call_101 (by decide) (fun h101 => ?_) (fun h101 => ?_)
        · refine rm_aload_n dX8_call_109 rfl rfl ?_
          refine rm_iconst (v := nI (3)) dX8_call_110 (by decide) ?_
          refine rm_callV (As := [.int (nI (3))]) (st := []) dX8_call_111 cvX8_103 rfl rfl (by decide) (zv_cat_i [nI (3)]) (Nat.le_of_ble_eq_true rfl) (cM_refused (d + 6) a (nI (3))) (fun v b q => ?_)
          obtain ⟨rfl, rfl⟩ := q
          show rm_V _ _ 114 [.ref 3, .int (kk), .int (nI (w)), .int (nI (c)), .int (nI (y)), .int (rm_b (true)), .int (nI (1)), .int (nI (0))] [.int ((-1 : Int32))] _ _
          refine rm_iret dX8_call_114 rfl rfl ?_
          exact ⟨rfl, rfl⟩
        · refine rm_iload dX8_call_104 rfl ?_
          refine rm_if_ne (tgt := 115) dX8_call_106 (by decide) (fun h106 => (absurd h106 (by decide))) (fun h106 => ?_)
          refine rm_aload_n dX8_call_109 rfl rfl ?_
          refine rm_iconst (v := nI (3)) dX8_call_110 (by decide) ?_
          refine rm_callV (As := [.int (nI (3))]) (st := []) dX8_call_111 cvX8_103 rfl rfl (by decide) (zv_cat_i [nI (3)]) (Nat.le_of_ble_eq_true rfl) (cM_refused (d + 6) a (nI (3))) (fun v b q => ?_)
          obtain ⟨rfl, rfl⟩ := q
          show rm_V _ _ 114 [.ref 3, .int (kk), .int (nI (w)), .int (nI (c)), .int (nI (y)), .int (rm_b (true)), .int (nI (1)), .int (nI (0))] [.int ((-1 : Int32))] _ _
          refine rm_iret dX8_call_114 rfl rfl ?_
          exact ⟨rfl, rfl⟩
      · refine rm_iconst (v := nI (1)) dX8_call_88 (by decide) ?_
        refine rm_goto (tgt := 93) dX8_call_89 (by decide) ?_
        refine rm_istore (lv' := [.ref 3, .int (kk), .int (nI (w)), .int (nI (c)), .int (nI (y)), .int (rm_b (true)), .int (nI (1)), .int (nI (1))]) dX8_call_93 (by decide) rfl ?_
        refine rm_aload_n dX8_call_95 rfl rfl ?_
        refine rm_iload_n dX8_call_96 rfl rfl ?_
        refine rm_iload_n dX8_call_97 rfl rfl ?_
        refine rm_callV (As := [.int (nI (w)), .int (nI (c))]) (st := []) dX8_call_98 cvX8_92 rfl rfl (by decide) (zv_cat_i [nI (w), nI (c)]) (Nat.le_of_ble_eq_true rfl) (cM_isIn (d + 6) a (m := w) (c := c) (by omega)) (fun v b q => ?_)
        obtain ⟨rfl, rfl⟩ := q
        show rm_V _ _ 101 [.ref 3, .int (kk), .int (nI (w)), .int (nI (c)), .int (nI (y)), .int (rm_b (true)), .int (nI (1)), .int (nI (1))] [.int (rm_b (rm_in a w c))] _ _
        refine rm_ifB_eq (tgt := 109) dX8_call_101 (by decide) (fun h101 => ?_) (fun h101 => ?_)
        · refine rm_aload_n dX8_call_109 rfl rfl ?_
          refine rm_iconst (v := nI (3)) dX8_call_110 (by decide) ?_
          refine rm_callV (As := [.int (nI (3))]) (st := []) dX8_call_111 cvX8_103 rfl rfl (by decide) (zv_cat_i [nI (3)]) (Nat.le_of_ble_eq_true rfl) (cM_refused (d + 6) a (nI (3))) (fun v b q => ?_)
          obtain ⟨rfl, rfl⟩ := q
          show rm_V _ _ 114 [.ref 3, .int (kk), .int (nI (w)), .int (nI (c)), .int (nI (y)), .int (rm_b (true)), .int (nI (1)), .int (nI (1))] [.int ((-1 : Int32))] _ _
          refine rm_iret dX8_call_114 rfl rfl ?_
          exact ⟨rfl, rfl⟩
        · refine rm_iload dX8_call_104 rfl ?_
          refine rm_if_ne (tgt := 115) dX8_call_106 (by decide) (fun h106 => ?_) (fun h106 => (absurd h106 (by decide)))
          rw [h101, show rm_knw a w (some y) = true from decide_eq_true (Or.inr h85)] at hbad
          cases hbad
theorem cM_call_t (d : Nat) {a : zv_I} {nm nc nl w c : Nat} {kk : Int32} {x : Option Nat} (hm : a 3 0 = nI nm) (hmb : nm ≤ 8) (hc : a 3 1 = nI nc) (hcb : nc ≤ 6) (hn : a 3 4 = nI nl) (hnb : nl ≤ 200) (ha : a 3 5 = nI (rm_NA a)) (hab : rm_NA a ≤ 100) (hw : w < nm) (hcc : c < nc) (hx : ∀ y, x = some y → y < nl) (hnl : nl < 200) (h26 : ∀ y, y < nl → a 26 (200 * nl + y) = 0) (h23 : ¬ a 23 (6 * w + c) = -1 → a 23 (6 * w + c) = nI (rm_nv (a 23 (6 * w + c))) ∧ rm_nv (a 23 (6 * w + c)) < 200) {P : zv_I → Prop} (hP : rm_stay P w) {f : Nat} (hf : f < 2 ^ 31) (hPa : P (rm_c4 a nm nc nl kk w c (rm_o x))) (ht : rm_gvt w f (rm_c4 a nm nc nl kk w c (rm_o x)) = true) : rm_V mX8_call (d + 7) 115 [.ref 3, .int kk, .int (nI w), .int (nI c), .int (rm_o x), .int (rm_b true), .int (nI 1), .int (nI 1)] [] a (rm_p (nI nl) (zv_u (rm_gvs w f (rm_c4 a nm nc nl kk w c (rm_o x)) 0).1 3 24 (nI 0))) := by
  have b3 : ∀ j, j ≠ 5 → rm_c1 a 3 j = a 3 j := fun j hj => zv_u_j a _ hj
  have k1 : rm_c2 a nc nl kk w c (rm_o x) 3 1 = nI nc := by unfold rm_c2; rw [rm_mad_3 (by decide), b3 1 (by decide)]; exact hc
  have k0 : rm_c3 a nc nl kk w c (rm_o x) 3 0 = nI nm := by rw [rm_c3_o (by decide) (by decide)]; unfold rm_c2; rw [rm_mad_3 (by decide), b3 0 (by decide)]; exact hm
  have k23 : ¬ rm_c2 a nc nl kk w c (rm_o x) 23 (6 * w + c) = -1 → rm_c2 a nc nl kk w c (rm_o x) 23 (6 * w + c) = nI (rm_nv (rm_c2 a nc nl kk w c (rm_o x) 23 (6 * w + c))) ∧ rm_nv (rm_c2 a nc nl kk w c (rm_o x) 23 (6 * w + c)) < 200 := by rw [show rm_c2 a nc nl kk w c (rm_o x) 23 (6 * w + c) = a 23 (6 * w + c) from congrFun (rm_mad_o (a := rm_c1 a) (by decide) (by decide) (by decide) (by decide) (by decide) (by decide) (by decide) (by decide) (by decide) (by decide) (by decide) (by decide)) _]; exact h23
  have k11 : rm_c3 a nc nl kk w c (rm_o x) 11 nl = nI c := by rw [rm_c3_o (by decide) (by decide)]; exact rm_mad_11
  have k12 : rm_c3 a nc nl kk w c (rm_o x) 12 nl = nI w := by rw [rm_c3_o (by decide) (by decide)]; exact rm_mad_12
  have e11 : rm_ci (rm_c3 a nc nl kk w c (rm_o x)) nl = c := by show rm_nv (rm_c3 a nc nl kk w c (rm_o x) 11 nl) = _; rw [k11]; exact rm_nv_n (by omega)
  have e12 : rm_wr (rm_c3 a nc nl kk w c (rm_o x)) nl = w := by show rm_nv (rm_c3 a nc nl kk w c (rm_o x) 12 nl) = _; rw [k12]; exact rm_nv_n (by omega)
  have k2 : rm_c3 a nc nl kk w c (rm_o x) 11 nl = nI (rm_ci (rm_c3 a nc nl kk w c (rm_o x)) nl) := by rw [e11]; exact k11
  have k3 : rm_ci (rm_c3 a nc nl kk w c (rm_o x)) nl < 6 := by rw [e11]; omega
  have k4 : rm_c3 a nc nl kk w c (rm_o x) 12 nl = nI (rm_wr (rm_c3 a nc nl kk w c (rm_o x)) nl) := by rw [e12]; exact k12
  have k5 : rm_wr (rm_c3 a nc nl kk w c (rm_o x)) nl < 8 := by rw [e12]; omega
  refine rm_aload_n dX8_call_115 rfl rfl ?_
  refine rm_dup dX8_call_116 rfl ?_
  refine rm_geti 5 (x := nI (rm_NA a)) dX8_call_117 flX8_120 rfl (ha) ?_
  refine rm_iconst (v := nI (1)) dX8_call_120 (by decide) ?_
  refine rm_iadd dX8_call_121 ?_
  refine rm_top (nI_add (rm_NA a) (1)) ?_
  refine rm_puti 5 dX8_call_122 fwX8_120 rfl ?_
  refine rm_aload_n dX8_call_125 rfl rfl ?_
  refine rm_iload_n dX8_call_126 rfl rfl ?_
  refine rm_iload_n dX8_call_127 rfl rfl ?_
  refine rm_iload_n dX8_call_128 rfl rfl ?_
  refine rm_iload dX8_call_129 rfl ?_
  refine rm_callV (As := [.int (kk), .int (nI (w)), .int (nI (c)), .int ((rm_o x))]) (st := []) dX8_call_131 cvX8_123 rfl rfl (by decide) (zv_cat_i [kk, nI (w), nI (c), (rm_o x)]) (Nat.le_of_ble_eq_true rfl) (cM_made (d + 5) (a := rm_c1 a) (nc := nc) (l := nl) (w := w) (c := c) (kk := kk) (x := rm_o x) hn hnl hc hcb (by omega) (by omega) h26) (fun v b q => ?_)
  obtain ⟨rfl, rfl⟩ := q
  show rm_V _ _ 134 [.ref 3, .int (kk), .int (nI (w)), .int (nI (c)), .int ((rm_o x)), .int (rm_b (true)), .int (nI (1)), .int (nI (1))] [.int (nI (nl))] _ _
  refine rm_istore (lv' := [.ref 3, .int (kk), .int (nI (w)), .int (nI (c)), .int ((rm_o x)), .int (rm_b (true)), .int (nI (1)), .int (nI (1)), .int (nI (nl))]) dX8_call_134 (by decide) rfl ?_
  refine rm_aload_n dX8_call_136 rfl rfl ?_
  refine rm_iload dX8_call_137 rfl ?_
  refine rm_iload_n dX8_call_139 rfl rfl ?_
  refine rm_iload_n dX8_call_140 rfl rfl ?_
  refine rm_callV (As := [.int (nI (nl)), .int (nI (w)), .int (nI (c))]) (st := []) dX8_call_141 cvX8_127 rfl rfl (by decide) (zv_cat_i [nI (nl), nI (w), nI (c)]) (Nat.le_of_ble_eq_true rfl) (cM_counts (d + 5) (a := rm_c2 a nc nl kk w c (rm_o x)) (nc := nc) (l := nl) (w := w) (c := c) k1 hcb hnl (by omega) (by omega) k23) (fun v b q => ?_)
  obtain ⟨rfl, rfl⟩ := q
  show rm_V _ _ 144 [.ref 3, .int (kk), .int (nI (w)), .int (nI (c)), .int ((rm_o x)), .int (rm_b (true)), .int (nI (1)), .int (nI (1)), .int (nI (nl))] [] _ _
  refine rm_aload_n dX8_call_144 rfl rfl ?_
  refine rm_iload dX8_call_145 rfl ?_
  refine rm_callV (As := [.int (nI (nl))]) (st := []) dX8_call_147 cvX8_131 rfl rfl (by decide) (zv_cat_i [nI (nl)]) (Nat.le_of_ble_eq_true rfl) (cM_goes (d + 5) (a := rm_c3 a nc nl kk w c (rm_o x)) (nm := nm) (l := nl) k0 hmb hnl k2 k3 k4 k5) (fun v b q => ?_)
  obtain ⟨rfl, rfl⟩ := q
  show rm_V _ _ 150 [.ref 3, .int (kk), .int (nI (w)), .int (nI (c)), .int ((rm_o x)), .int (rm_b (true)), .int (nI (1)), .int (nI (1)), .int (nI (nl))] [] _ _
  refine rm_aload_n dX8_call_150 rfl rfl ?_
  refine rm_iload_n dX8_call_151 rfl rfl ?_
  refine rm_callV (As := [.int (nI (w))]) (st := []) dX8_call_152 cvX8_135 rfl rfl (by decide) (zv_cat_i [nI (w)]) (Nat.le_of_ble_eq_true rfl) (cM_gives d (r := w) (by omega) hP (f := f) hPa ht hf) (fun v b q => ?_)
  obtain ⟨rfl, rfl⟩ := q
  show rm_V _ _ 155 [.ref 3, .int (kk), .int (nI (w)), .int (nI (c)), .int ((rm_o x)), .int (rm_b (true)), .int (nI (1)), .int (nI (1)), .int (nI (nl))] [.int (nI (rm_gvs w f (rm_c4 a nm nc nl kk w c (rm_o x)) 0).2)] _ _
  refine rm_pop dX8_call_155 rfl ?_
  refine rm_aload_n dX8_call_156 rfl rfl ?_
  refine rm_iload dX8_call_157 rfl ?_
  refine rm_callV (As := [.int (nI (nl))]) (st := []) dX8_call_159 cvX8_106 rfl rfl (by decide) (zv_cat_i [nI (nl)]) (Nat.le_of_ble_eq_true rfl) (cM_done (d + 6) (((rm_gvs w f (rm_c4 a nm nc nl kk w c (rm_o x)) 0).1)) (nI nl)) (fun v b q => ?_)
  obtain ⟨rfl, rfl⟩ := q
  show rm_V _ _ 162 [.ref 3, .int (kk), .int (nI (w)), .int (nI (c)), .int ((rm_o x)), .int (rm_b (true)), .int (nI (1)), .int (nI (1)), .int (nI (nl))] [.int (nI (nl))] _ _
  refine rm_iret dX8_call_162 rfl rfl ?_
  exact ⟨rfl, rfl⟩
theorem cM_call_0 (d : Nat) {a : zv_I} {nm nc nl w c : Nat} {kk : Int32} {x : Option Nat} (hm : a 3 0 = nI nm) (hmb : nm ≤ 8) (hc : a 3 1 = nI nc) (hcb : nc ≤ 6) (hn : a 3 4 = nI nl) (hnb : nl ≤ 200) (ha : a 3 5 = nI (rm_NA a)) (hab : rm_NA a ≤ 100) (hw : w < nm) (hcc : c < nc) (hx : ∀ y, x = some y → y < nl) (h100 : rm_NA a < 100) (hgood : (rm_in a w c && rm_knw a w x) = true) (hnl : nl < 200) (h26 : ∀ y, y < nl → a 26 (200 * nl + y) = 0) (h23 : ¬ a 23 (6 * w + c) = -1 → a 23 (6 * w + c) = nI (rm_nv (a 23 (6 * w + c))) ∧ rm_nv (a 23 (6 * w + c)) < 200) {P : zv_I → Prop} (hP : rm_stay P w) {f : Nat} (hf : f < 2 ^ 31) (hPa : P (rm_c4 a nm nc nl kk w c (rm_o x))) (ht : rm_gvt w f (rm_c4 a nm nc nl kk w c (rm_o x)) = true) : rm_V mX8_call (d + 7) 0 [.ref 3, .int kk, .int (nI w), .int (nI c), .int (rm_o x), .int (rm_b true)] [] a (rm_p (nI nl) (zv_u (rm_gvs w f (rm_c4 a nm nc nl kk w c (rm_o x)) 0).1 3 24 (nI 0))) := by
  have hg : rm_in a w c = true ∧ rm_knw a w x = true := by rw [Bool.and_eq_true] at hgood; exact hgood
  cases x with
  | none =>
    refine rm_aload_n dX8_call_0 rfl rfl ?_
    refine rm_iload_n dX8_call_1 rfl rfl ?_
    refine rm_callV (As := [.int (nI (w))]) (st := []) dX8_call_2 cvX8_113 rfl rfl (by decide) (zv_cat_i [nI (w)]) (Nat.le_of_ble_eq_true rfl) (cM_isMember (d + 5) hm (by omega) (nI w)) (fun v b q => ?_)
    obtain ⟨rfl, rfl⟩ := q
    show rm_V _ _ 5 [.ref 3, .int (kk), .int (nI (w)), .int (nI (c)), .int ((-1 : Int32)), .int (rm_b (true))] [.int (rm_b (rm_lt (nI w) nm))] _ _
    refine rm_ifB_eq (tgt := 20) dX8_call_5 (by decide) (fun h5 => (absurd h5 (by rw [rm_lt_n (by omega), decide_eq_true hw]; decide))) (fun h5 => ?_)
    refine rm_aload_n dX8_call_8 rfl rfl ?_
    refine rm_iload_n dX8_call_9 rfl rfl ?_
    refine rm_callV (As := [.int (nI (c))]) (st := []) dX8_call_10 cvX8_117 rfl rfl (by decide) (zv_cat_i [nI (c)]) (Nat.le_of_ble_eq_true rfl) (cM_isCircle (d + 5) hc (by omega) (nI c)) (fun v b q => ?_)
    obtain ⟨rfl, rfl⟩ := q
    show rm_V _ _ 13 [.ref 3, .int (kk), .int (nI (w)), .int (nI (c)), .int ((-1 : Int32)), .int (rm_b (true))] [.int (rm_b (rm_lt (nI c) nc))] _ _
    refine rm_ifB_eq (tgt := 20) dX8_call_13 (by decide) (fun h13 => (absurd h13 (by rw [rm_lt_n (by omega), decide_eq_true hcc]; decide))) (fun h13 => ?_)
    refine rm_iconst (v := nI (1)) dX8_call_16 (by decide) ?_
    refine rm_goto (tgt := 21) dX8_call_17 (by decide) ?_
    refine rm_istore (lv' := [.ref 3, .int (kk), .int (nI (w)), .int (nI (c)), .int ((-1 : Int32)), .int (rm_b (true)), .int (nI (1))]) dX8_call_21 (by decide) rfl ?_
    refine rm_iload dX8_call_23 rfl ?_
    refine rm_if_eq (tgt := 33) dX8_call_25 (by decide) (fun h25 => (absurd h25 (by decide))) (fun h25 => ?_)
    refine rm_iload dX8_call_28 rfl ?_
    refine rm_ifB_ne (tgt := 39) dX8_call_30 (by decide) (fun h30 => ?_) (fun h30 => (absurd h30 (by decide)))
    refine rm_aload_n dX8_call_39 rfl rfl ?_
    refine rm_geti 5 (x := nI (rm_NA a)) dX8_call_40 flX8_120 rfl (ha) ?_
    refine rm_bipush (v := nI (100)) dX8_call_43 (by decide) ?_
    refine rm_icN_ne (tgt := 54) dX8_call_45 (by decide) (by omega) (by omega) (fun h45 => ?_) (fun h45 => (absurd h45 (by omega)))
    refine rm_iload dX8_call_54 rfl ?_
    refine rm_iconst (v := (-1 : Int32)) dX8_call_56 (by decide) ?_
    refine rm_icmp_eq (tgt := 88) dX8_call_57 (by decide) (fun h57 => ?_) (fun h57 => (absurd rfl h57))
    refine rm_iconst (v := nI (1)) dX8_call_88 (by decide) ?_
    refine rm_goto (tgt := 93) dX8_call_89 (by decide) ?_
    refine rm_istore (lv' := [.ref 3, .int (kk), .int (nI (w)), .int (nI (c)), .int ((-1 : Int32)), .int (rm_b (true)), .int (nI (1)), .int (nI (1))]) dX8_call_93 (by decide) rfl ?_
    refine rm_aload_n dX8_call_95 rfl rfl ?_
    refine rm_iload_n dX8_call_96 rfl rfl ?_
    refine rm_iload_n dX8_call_97 rfl rfl ?_
    refine rm_callV (As := [.int (nI (w)), .int (nI (c))]) (st := []) dX8_call_98 cvX8_92 rfl rfl (by decide) (zv_cat_i [nI (w), nI (c)]) (Nat.le_of_ble_eq_true rfl) (cM_isIn (d + 6) a (m := w) (c := c) (by omega)) (fun v b q => ?_)
    obtain ⟨rfl, rfl⟩ := q
    show rm_V _ _ 101 [.ref 3, .int (kk), .int (nI (w)), .int (nI (c)), .int ((-1 : Int32)), .int (rm_b (true)), .int (nI (1)), .int (nI (1))] [.int (rm_b (rm_in a w c))] _ _
    refine rm_ifB_eq (tgt := 109) dX8_call_101 (by decide) (fun h101 => (absurd h101 (by rw [hg.1]; decide))) (fun h101 => ?_)
    refine rm_iload dX8_call_104 rfl ?_
    refine rm_if_ne (tgt := 115) dX8_call_106 (by decide) (fun h106 => ?_) (fun h106 => (absurd h106 (by decide)))
    exact cM_call_t d hm hmb hc hcb hn hnb ha hab hw hcc hx hnl h26 h23 hP hf hPa ht
  | some y =>
    refine rm_aload_n dX8_call_0 rfl rfl ?_
    refine rm_iload_n dX8_call_1 rfl rfl ?_
    refine rm_callV (As := [.int (nI (w))]) (st := []) dX8_call_2 cvX8_113 rfl rfl (by decide) (zv_cat_i [nI (w)]) (Nat.le_of_ble_eq_true rfl) (cM_isMember (d + 5) hm (by omega) (nI w)) (fun v b q => ?_)
    obtain ⟨rfl, rfl⟩ := q
    show rm_V _ _ 5 [.ref 3, .int (kk), .int (nI (w)), .int (nI (c)), .int (nI (y)), .int (rm_b (true))] [.int (rm_b (rm_lt (nI w) nm))] _ _
    refine rm_ifB_eq (tgt := 20) dX8_call_5 (by decide) (fun h5 => (absurd h5 (by rw [rm_lt_n (by omega), decide_eq_true hw]; decide))) (fun h5 => ?_)
    refine rm_aload_n dX8_call_8 rfl rfl ?_
    refine rm_iload_n dX8_call_9 rfl rfl ?_
    refine rm_callV (As := [.int (nI (c))]) (st := []) dX8_call_10 cvX8_117 rfl rfl (by decide) (zv_cat_i [nI (c)]) (Nat.le_of_ble_eq_true rfl) (cM_isCircle (d + 5) hc (by omega) (nI c)) (fun v b q => ?_)
    obtain ⟨rfl, rfl⟩ := q
    show rm_V _ _ 13 [.ref 3, .int (kk), .int (nI (w)), .int (nI (c)), .int (nI (y)), .int (rm_b (true))] [.int (rm_b (rm_lt (nI c) nc))] _ _
    refine rm_ifB_eq (tgt := 20) dX8_call_13 (by decide) (fun h13 => (absurd h13 (by rw [rm_lt_n (by omega), decide_eq_true hcc]; decide))) (fun h13 => ?_)
    refine rm_iconst (v := nI (1)) dX8_call_16 (by decide) ?_
    refine rm_goto (tgt := 21) dX8_call_17 (by decide) ?_
    refine rm_istore (lv' := [.ref 3, .int (kk), .int (nI (w)), .int (nI (c)), .int (nI (y)), .int (rm_b (true)), .int (nI (1))]) dX8_call_21 (by decide) rfl ?_
    refine rm_iload dX8_call_23 rfl ?_
    refine rm_if_eq (tgt := 33) dX8_call_25 (by decide) (fun h25 => (absurd h25 (by decide))) (fun h25 => ?_)
    refine rm_iload dX8_call_28 rfl ?_
    refine rm_ifB_ne (tgt := 39) dX8_call_30 (by decide) (fun h30 => ?_) (fun h30 => (absurd h30 (by decide)))
    refine rm_aload_n dX8_call_39 rfl rfl ?_
    refine rm_geti 5 (x := nI (rm_NA a)) dX8_call_40 flX8_120 rfl (ha) ?_
    refine rm_bipush (v := nI (100)) dX8_call_43 (by decide) ?_
    refine rm_icN_ne (tgt := 54) dX8_call_45 (by decide) (by omega) (by omega) (fun h45 => ?_) (fun h45 => (absurd h45 (by omega)))
    refine rm_iload dX8_call_54 rfl ?_
    refine rm_iconst (v := (-1 : Int32)) dX8_call_56 (by decide) ?_
    refine rm_icmp_eq (tgt := 88) dX8_call_57 (by decide) (fun h57 => (absurd h57 (rm_ni1 (by have := hx y rfl; omega)))) (fun h57 => ?_)
    refine rm_aload_n dX8_call_60 rfl rfl ?_
    refine rm_getr 8 (t := 12) dX8_call_61 flX8_22 (by decide) rfl rfl ?_
    refine rm_iload dX8_call_64 rfl ?_
    refine rm_iald (f := 8) (j := y) (x := (a 12 (y))) dX8_call_66 rfl (by decide) rfl rfl (rfl) (show y < 200 from by have := hx y rfl; omega) (rfl) ?_
    refine rm_iload_n dX8_call_67 rfl rfl ?_
    refine rm_icmp_eq (tgt := 88) dX8_call_68 (by decide) (fun h68 => ?_) (fun h68 => ?_)
    · refine rm_iconst (v := nI (1)) dX8_call_88 (by decide) ?_
      refine rm_goto (tgt := 93) dX8_call_89 (by decide) ?_
      refine rm_istore (lv' := [.ref 3, .int (kk), .int (nI (w)), .int (nI (c)), .int (nI (y)), .int (rm_b (true)), .int (nI (1)), .int (nI (1))]) dX8_call_93 (by decide) rfl ?_
      refine rm_aload_n dX8_call_95 rfl rfl ?_
      refine rm_iload_n dX8_call_96 rfl rfl ?_
      refine rm_iload_n dX8_call_97 rfl rfl ?_
      refine rm_callV (As := [.int (nI (w)), .int (nI (c))]) (st := []) dX8_call_98 cvX8_92 rfl rfl (by decide) (zv_cat_i [nI (w), nI (c)]) (Nat.le_of_ble_eq_true rfl) (cM_isIn (d + 6) a (m := w) (c := c) (by omega)) (fun v b q => ?_)
      obtain ⟨rfl, rfl⟩ := q
      show rm_V _ _ 101 [.ref 3, .int (kk), .int (nI (w)), .int (nI (c)), .int (nI (y)), .int (rm_b (true)), .int (nI (1)), .int (nI (1))] [.int (rm_b (rm_in a w c))] _ _
      refine rm_ifB_eq (tgt := 109) dX8_call_101 (by decide) (fun h101 => (absurd h101 (by rw [hg.1]; decide))) (fun h101 => ?_)
      refine rm_iload dX8_call_104 rfl ?_
      refine rm_if_ne (tgt := 115) dX8_call_106 (by decide) (fun h106 => ?_) (fun h106 => (absurd h106 (by decide)))
      exact cM_call_t d hm hmb hc hcb hn hnb ha hab hw hcc hx hnl h26 h23 hP hf hPa ht
    · refine rm_aload_n dX8_call_71 rfl rfl ?_
      refine rm_getr 16 (t := 20) dX8_call_72 flX8_46 (by decide) rfl rfl ?_
      refine rm_sipush (v := nI (200)) dX8_call_75 (by decide) ?_
      refine rm_iload_n dX8_call_78 rfl rfl ?_
      refine rm_imul dX8_call_79 ?_
      refine rm_top (pk_mul (200) (w)) ?_
      refine rm_iload dX8_call_80 rfl ?_
      refine rm_iadd dX8_call_82 ?_
      refine rm_top (nI_add (200 * w) (y)) ?_
      refine rm_iald (f := 16) (j := 200 * w + y) (x := (a 20 (200 * w + y))) dX8_call_83 rfl (by decide) rfl rfl (rfl) (show 200 * w + y < 1600 from by have := hx y rfl; omega) (rfl) ?_
      refine rm_iconst (v := nI (3)) dX8_call_84 (by decide) ?_
      refine rm_icmp_ne (tgt := 92) dX8_call_85 (by decide) (fun h85 => ?_) (fun h85 => ?_)
      · refine rm_iconst (v := nI (0)) dX8_call_92 (by decide) ?_
        refine rm_istore (lv' := [.ref 3, .int (kk), .int (nI (w)), .int (nI (c)), .int (nI (y)), .int (rm_b (true)), .int (nI (1)), .int (nI (0))]) dX8_call_93 (by decide) rfl ?_
        refine rm_aload_n dX8_call_95 rfl rfl ?_
        refine rm_iload_n dX8_call_96 rfl rfl ?_
        refine rm_iload_n dX8_call_97 rfl rfl ?_
        refine rm_callV (As := [.int (nI (w)), .int (nI (c))]) (st := []) dX8_call_98 cvX8_92 rfl rfl (by decide) (zv_cat_i [nI (w), nI (c)]) (Nat.le_of_ble_eq_true rfl) (cM_isIn (d + 6) a (m := w) (c := c) (by omega)) (fun v b q => ?_)
        obtain ⟨rfl, rfl⟩ := q
        show rm_V _ _ 101 [.ref 3, .int (kk), .int (nI (w)), .int (nI (c)), .int (nI (y)), .int (rm_b (true)), .int (nI (1)), .int (nI (0))] [.int (rm_b (rm_in a w c))] _ _
        refine rm_ifB_eq (tgt := 109) dX8_call_101 (by decide) (fun h101 => (absurd h101 (by rw [hg.1]; decide))) (fun h101 => ?_)
        refine rm_iload dX8_call_104 rfl ?_
        refine rm_if_ne (tgt := 115) dX8_call_106 (by decide) (fun h106 => (absurd h106 (by decide))) (fun h106 => ?_)
        refine rm_aload_n dX8_call_109 rfl rfl ?_
        refine rm_iconst (v := nI (3)) dX8_call_110 (by decide) ?_
        refine rm_callV (As := [.int (nI (3))]) (st := []) dX8_call_111 cvX8_103 rfl rfl (by decide) (zv_cat_i [nI (3)]) (Nat.le_of_ble_eq_true rfl) (cM_refused (d + 6) a (nI (3))) (fun v b q => ?_)
        obtain ⟨rfl, rfl⟩ := q
        show rm_V _ _ 114 [.ref 3, .int (kk), .int (nI (w)), .int (nI (c)), .int (nI (y)), .int (rm_b (true)), .int (nI (1)), .int (nI (0))] [.int ((-1 : Int32))] _ _
        refine rm_iret dX8_call_114 rfl rfl ?_
        exact absurd hg.2 (by rw [show rm_knw a w (some y) = false from decide_eq_false (fun q => q.elim h68 h85)]; decide)
      · refine rm_iconst (v := nI (1)) dX8_call_88 (by decide) ?_
        refine rm_goto (tgt := 93) dX8_call_89 (by decide) ?_
        refine rm_istore (lv' := [.ref 3, .int (kk), .int (nI (w)), .int (nI (c)), .int (nI (y)), .int (rm_b (true)), .int (nI (1)), .int (nI (1))]) dX8_call_93 (by decide) rfl ?_
        refine rm_aload_n dX8_call_95 rfl rfl ?_
        refine rm_iload_n dX8_call_96 rfl rfl ?_
        refine rm_iload_n dX8_call_97 rfl rfl ?_
        refine rm_callV (As := [.int (nI (w)), .int (nI (c))]) (st := []) dX8_call_98 cvX8_92 rfl rfl (by decide) (zv_cat_i [nI (w), nI (c)]) (Nat.le_of_ble_eq_true rfl) (cM_isIn (d + 6) a (m := w) (c := c) (by omega)) (fun v b q => ?_)
        obtain ⟨rfl, rfl⟩ := q
        show rm_V _ _ 101 [.ref 3, .int (kk), .int (nI (w)), .int (nI (c)), .int (nI (y)), .int (rm_b (true)), .int (nI (1)), .int (nI (1))] [.int (rm_b (rm_in a w c))] _ _
        refine rm_ifB_eq (tgt := 109) dX8_call_101 (by decide) (fun h101 => (absurd h101 (by rw [hg.1]; decide))) (fun h101 => ?_)
        refine rm_iload dX8_call_104 rfl ?_
        refine rm_if_ne (tgt := 115) dX8_call_106 (by decide) (fun h106 => ?_) (fun h106 => (absurd h106 (by decide)))
        exact cM_call_t d hm hmb hc hcb hn hnb ha hab hw hcc hx hnl h26 h23 hP hf hPa ht
end
section
def q_memR (nm : Nat) : Int32 := if nm = 8 then -1 else nI nm
def q_memA (a : zv_I) (nm : Nat) : zv_I := if nm = 8 then zv_u a 3 24 (nI 2) else zv_u (zv_u a 3 0 (nI (nm + 1))) 3 24 (nI 0)
theorem cM_member (d : Nat) {a : zv_I} {nm : Nat} (hm : a 3 0 = nI nm) (hmb : nm ≤ 8) : rm_V mX8_member (d + 1) 0 [.ref 3] [] a (rm_p (q_memR nm) (q_memA a nm)) := by
  refine rm_aload_n dX8_member_0 rfl rfl ?_
  refine rm_geti 0 (x := nI (nm)) dX8_member_1 flX8_78 rfl (hm) ?_
  refine rm_bipush (v := nI (8)) dX8_member_4 (by decide) ?_
  refine rm_icN_ne (tgt := 15) dX8_member_6 (by decide) (by omega) (by omega) (fun h6 => ?_) (fun h6 => ?_)
  · refine rm_aload_n dX8_member_15 rfl rfl ?_
    refine rm_dup dX8_member_16 rfl ?_
    refine rm_geti 0 (x := nI (nm)) dX8_member_17 flX8_78 rfl (hm) ?_
    refine rm_iconst (v := nI (1)) dX8_member_20 (by decide) ?_
    refine rm_iadd dX8_member_21 ?_
    refine rm_top (nI_add (nm) (1)) ?_
    refine rm_puti 0 dX8_member_22 fwX8_78 rfl ?_
    refine rm_aload_n dX8_member_25 rfl rfl ?_
    refine rm_aload_n dX8_member_26 rfl rfl ?_
    refine rm_geti 0 (x := nI (nm + 1)) dX8_member_27 flX8_78 rfl (zv_u_s _ _ _ _) ?_
    refine rm_iconst (v := nI (1)) dX8_member_30 (by decide) ?_
    refine rm_isub dX8_member_31 ?_
    refine rm_top (y := nI (nm)) (nI_pred nm) ?_
    refine rm_callV (As := [.int (nI (nm))]) (st := []) dX8_member_32 cvX8_106 rfl rfl (by decide) (zv_cat_i [nI (nm)]) (Nat.le_of_ble_eq_true rfl) (cM_done d (zv_u a 3 0 (nI (nm + 1))) (nI nm)) (fun v b q => ?_)
    obtain ⟨rfl, rfl⟩ := q
    show rm_V _ _ 35 [.ref 3] [.int (nI (nm))] _ _
    refine rm_iret dX8_member_35 rfl rfl ?_
    exact ⟨by unfold q_memR; rw [if_neg h6], by unfold q_memA; rw [if_neg h6]⟩
  · refine rm_aload_n dX8_member_9 rfl rfl ?_
    refine rm_iconst (v := nI (2)) dX8_member_10 (by decide) ?_
    refine rm_callV (As := [.int (nI (2))]) (st := []) dX8_member_11 cvX8_103 rfl rfl (by decide) (zv_cat_i [nI (2)]) (Nat.le_of_ble_eq_true rfl) (cM_refused d a (nI 2)) (fun v b q => ?_)
    obtain ⟨rfl, rfl⟩ := q
    show rm_V _ _ 14 [.ref 3] [.int ((-1 : Int32))] _ _
    refine rm_iret dX8_member_14 rfl rfl ?_
    exact ⟨by unfold q_memR; rw [if_pos h6], by unfold q_memA; rw [if_pos h6]⟩
def q_state (a : zv_I) (nm nl : Nat) (m l : Int32) : Int32 := if (rm_lt m nm && rm_lt l nl) = true then a 20 (200 * rm_nv m + rm_nv l) else -1
theorem cM_state (d : Nat) {a : zv_I} {nm nl : Nat} (hm : a 3 0 = nI nm) (hmb : nm ≤ 8) (hn : a 3 4 = nI nl) (hnb : nl ≤ 200) (m l : Int32) : rm_V mX8_state (d + 2) 0 [.ref 3, .int m, .int l] [] a (rm_p (q_state a nm nl m l) a) := by
  refine rm_aload_n dX8_state_0 rfl rfl ?_
  refine rm_iload_n dX8_state_1 rfl rfl ?_
  refine rm_callV (As := [.int (m)]) (st := []) dX8_state_2 cvX8_113 rfl rfl (by decide) (zv_cat_i [m]) (Nat.le_of_ble_eq_true rfl) (cM_isMember d hm (by omega) (m)) (fun v b q => ?_)
  obtain ⟨rfl, rfl⟩ := q
  show rm_V _ _ 5 [.ref 3, .int (m), .int (l)] [.int (rm_b (rm_lt (m) nm))] _ _
  refine rm_ifB_eq (tgt := 31) dX8_state_5 (by decide) (fun h5 => ?_) (fun h5 => ?_)
  · refine rm_iconst (v := (-1 : Int32)) dX8_state_31 (by decide) ?_
    refine rm_iret dX8_state_32 rfl rfl ?_
    exact ⟨by unfold q_state; rw [h5]; rw [if_neg (by simp)], rfl⟩
  · obtain ⟨m1, hm1, rfl⟩ := rm_lt_t h5 (by omega)
    refine rm_aload_n dX8_state_8 rfl rfl ?_
    refine rm_iload_n dX8_state_9 rfl rfl ?_
    refine rm_callV (As := [.int (l)]) (st := []) dX8_state_10 cvX8_142 rfl rfl (by decide) (zv_cat_i [l]) (Nat.le_of_ble_eq_true rfl) (cM_isLetter d hn (by omega) (l)) (fun v b q => ?_)
    obtain ⟨rfl, rfl⟩ := q
    show rm_V _ _ 13 [.ref 3, .int (nI (m1)), .int (l)] [.int (rm_b (rm_lt (l) nl))] _ _
    refine rm_ifB_eq (tgt := 31) dX8_state_13 (by decide) (fun h13 => ?_) (fun h13 => ?_)
    · refine rm_iconst (v := (-1 : Int32)) dX8_state_31 (by decide) ?_
      refine rm_iret dX8_state_32 rfl rfl ?_
      exact ⟨by unfold q_state; rw [h5, h13]; rw [if_neg (by simp)], rfl⟩
    · obtain ⟨l1, hl1, rfl⟩ := rm_lt_t h13 (by omega)
      refine rm_aload_n dX8_state_16 rfl rfl ?_
      refine rm_getr 16 (t := 20) dX8_state_17 flX8_46 (by decide) rfl rfl ?_
      refine rm_sipush (v := nI (200)) dX8_state_20 (by decide) ?_
      refine rm_iload_n dX8_state_23 rfl rfl ?_
      refine rm_imul dX8_state_24 ?_
      refine rm_top (pk_mul (200) (m1)) ?_
      refine rm_iload_n dX8_state_25 rfl rfl ?_
      refine rm_iadd dX8_state_26 ?_
      refine rm_top (nI_add (200 * m1) (l1)) ?_
      refine rm_iald (f := 16) (j := 200 * m1 + l1) (x := (a 20 (200 * m1 + l1))) dX8_state_27 rfl (by decide) rfl rfl (rfl) (show 200 * m1 + l1 < 1600 from by omega) (rfl) ?_
      refine rm_goto (tgt := 32) dX8_state_28 (by decide) ?_
      refine rm_iret dX8_state_32 rfl rfl ?_
      exact ⟨by unfold q_state; rw [h5, h13, if_pos (by decide), rm_nv_n (n := m1) (by omega), rm_nv_n (n := l1) (by omega)], rfl⟩
def q_given (a : zv_I) (nm nc : Nat) (r c w : Int32) : Int32 := if (rm_lt r nm && (rm_lt c nc && rm_lt w nm)) = true then a 21 (48 * rm_nv r + 8 * rm_nv c + rm_nv w) else -1
theorem cM_given (d : Nat) {a : zv_I} {nm nc : Nat} (hm : a 3 0 = nI nm) (hmb : nm ≤ 8) (hc : a 3 1 = nI nc) (hcb : nc ≤ 6) (r c w : Int32) : rm_V mX8_given (d + 2) 0 [.ref 3, .int r, .int c, .int w] [] a (rm_p (q_given a nm nc r c w) a) := by
  refine rm_aload_n dX8_given_0 rfl rfl ?_
  refine rm_iload_n dX8_given_1 rfl rfl ?_
  refine rm_callV (As := [.int (r)]) (st := []) dX8_given_2 cvX8_113 rfl rfl (by decide) (zv_cat_i [r]) (Nat.le_of_ble_eq_true rfl) (cM_isMember d hm (by omega) (r)) (fun v b q => ?_)
  obtain ⟨rfl, rfl⟩ := q
  show rm_V _ _ 5 [.ref 3, .int (r), .int (c), .int (w)] [.int (rm_b (rm_lt (r) nm))] _ _
  refine rm_ifB_eq (tgt := 43) dX8_given_5 (by decide) (fun h5 => ?_) (fun h5 => ?_)
  · refine rm_iconst (v := (-1 : Int32)) dX8_given_43 (by decide) ?_
    refine rm_iret dX8_given_44 rfl rfl ?_
    exact ⟨by unfold q_given; rw [h5]; rw [if_neg (by simp)], rfl⟩
  · obtain ⟨r1, hr1, rfl⟩ := rm_lt_t h5 (by omega)
    refine rm_aload_n dX8_given_8 rfl rfl ?_
    refine rm_iload_n dX8_given_9 rfl rfl ?_
    refine rm_callV (As := [.int (c)]) (st := []) dX8_given_10 cvX8_117 rfl rfl (by decide) (zv_cat_i [c]) (Nat.le_of_ble_eq_true rfl) (cM_isCircle d hc (by omega) (c)) (fun v b q => ?_)
    obtain ⟨rfl, rfl⟩ := q
    show rm_V _ _ 13 [.ref 3, .int (nI (r1)), .int (c), .int (w)] [.int (rm_b (rm_lt (c) nc))] _ _
    refine rm_ifB_eq (tgt := 43) dX8_given_13 (by decide) (fun h13 => ?_) (fun h13 => ?_)
    · refine rm_iconst (v := (-1 : Int32)) dX8_given_43 (by decide) ?_
      refine rm_iret dX8_given_44 rfl rfl ?_
      exact ⟨by unfold q_given; rw [h5, h13]; rw [if_neg (by simp)], rfl⟩
    · obtain ⟨c1, hc1, rfl⟩ := rm_lt_t h13 (by omega)
      refine rm_aload_n dX8_given_16 rfl rfl ?_
      refine rm_iload_n dX8_given_17 rfl rfl ?_
      refine rm_callV (As := [.int (w)]) (st := []) dX8_given_18 cvX8_113 rfl rfl (by decide) (zv_cat_i [w]) (Nat.le_of_ble_eq_true rfl) (cM_isMember d hm (by omega) (w)) (fun v b q => ?_)
      obtain ⟨rfl, rfl⟩ := q
      show rm_V _ _ 21 [.ref 3, .int (nI (r1)), .int (nI (c1)), .int (w)] [.int (rm_b (rm_lt (w) nm))] _ _
      refine rm_ifB_eq (tgt := 43) dX8_given_21 (by decide) (fun h21 => ?_) (fun h21 => ?_)
      · refine rm_iconst (v := (-1 : Int32)) dX8_given_43 (by decide) ?_
        refine rm_iret dX8_given_44 rfl rfl ?_
        exact ⟨by unfold q_given; rw [h5, h13, h21]; rw [if_neg (by simp)], rfl⟩
      · obtain ⟨w1, hw1, rfl⟩ := rm_lt_t h21 (by omega)
        refine rm_aload_n dX8_given_24 rfl rfl ?_
        refine rm_getr 17 (t := 21) dX8_given_25 flX8_49 (by decide) rfl rfl ?_
        refine rm_bipush (v := nI (48)) dX8_given_28 (by decide) ?_
        refine rm_iload_n dX8_given_30 rfl rfl ?_
        refine rm_imul dX8_given_31 ?_
        refine rm_top (pk_mul (48) (r1)) ?_
        refine rm_bipush (v := nI (8)) dX8_given_32 (by decide) ?_
        refine rm_iload_n dX8_given_34 rfl rfl ?_
        refine rm_imul dX8_given_35 ?_
        refine rm_top (pk_mul (8) (c1)) ?_
        refine rm_iadd dX8_given_36 ?_
        refine rm_top (nI_add (48 * r1) (8 * c1)) ?_
        refine rm_iload_n dX8_given_37 rfl rfl ?_
        refine rm_iadd dX8_given_38 ?_
        refine rm_top (nI_add (48 * r1 + (8 * c1)) (w1)) ?_
        refine rm_iald (f := 17) (j := 48 * r1 + (8 * c1) + w1) (x := (a 21 (48 * r1 + (8 * c1) + w1))) dX8_given_39 rfl (by decide) rfl rfl (rfl) (show 48 * r1 + (8 * c1) + w1 < 384 from by omega) (rfl) ?_
        refine rm_goto (tgt := 44) dX8_given_40 (by decide) ?_
        refine rm_iret dX8_given_44 rfl rfl ?_
        exact ⟨by unfold q_given; rw [h5, h13, h21, if_pos (by decide), rm_nv_n (n := r1) (by omega), rm_nv_n (n := c1) (by omega), rm_nv_n (n := w1) (by omega)], rfl⟩
def q_behind (a : zv_I) (nl : Nat) (x y : Int32) : Int32 := if (rm_lt x nl && rm_lt y nl) = true then (if a 26 (200 * rm_nv y + rm_nv x) = 0 then nI 0 else nI 1) else -1
theorem cM_behind (d : Nat) {a : zv_I} {nl : Nat} (hn : a 3 4 = nI nl) (hnb : nl ≤ 200) (x y : Int32) : rm_V mX8_behind (d + 2) 0 [.ref 3, .int x, .int y] [] a (rm_p (q_behind a nl x y) a) := by
  refine rm_aload_n dX8_behind_0 rfl rfl ?_
  refine rm_iload_n dX8_behind_1 rfl rfl ?_
  refine rm_callV (As := [.int (x)]) (st := []) dX8_behind_2 cvX8_142 rfl rfl (by decide) (zv_cat_i [x]) (Nat.le_of_ble_eq_true rfl) (cM_isLetter d hn (by omega) (x)) (fun v b q => ?_)
  obtain ⟨rfl, rfl⟩ := q
  show rm_V _ _ 5 [.ref 3, .int (x), .int (y)] [.int (rm_b (rm_lt (x) nl))] _ _
  refine rm_ifB_eq (tgt := 39) dX8_behind_5 (by decide) (fun h5 => ?_) (fun h5 => ?_)
  · refine rm_iconst (v := (-1 : Int32)) dX8_behind_39 (by decide) ?_
    refine rm_iret dX8_behind_40 rfl rfl ?_
    exact ⟨by unfold q_behind; rw [h5]; rw [if_neg (by simp)], rfl⟩
  · obtain ⟨x1, hx1, rfl⟩ := rm_lt_t h5 (by omega)
    refine rm_aload_n dX8_behind_8 rfl rfl ?_
    refine rm_iload_n dX8_behind_9 rfl rfl ?_
    refine rm_callV (As := [.int (y)]) (st := []) dX8_behind_10 cvX8_142 rfl rfl (by decide) (zv_cat_i [y]) (Nat.le_of_ble_eq_true rfl) (cM_isLetter d hn (by omega) (y)) (fun v b q => ?_)
    obtain ⟨rfl, rfl⟩ := q
    show rm_V _ _ 13 [.ref 3, .int (nI (x1)), .int (y)] [.int (rm_b (rm_lt (y) nl))] _ _
    refine rm_ifB_eq (tgt := 39) dX8_behind_13 (by decide) (fun h13 => ?_) (fun h13 => ?_)
    · refine rm_iconst (v := (-1 : Int32)) dX8_behind_39 (by decide) ?_
      refine rm_iret dX8_behind_40 rfl rfl ?_
      exact ⟨by unfold q_behind; rw [h5, h13]; rw [if_neg (by simp)], rfl⟩
    · obtain ⟨y1, hy1, rfl⟩ := rm_lt_t h13 (by omega)
      refine rm_aload_n dX8_behind_16 rfl rfl ?_
      refine rm_getr 22 (t := 26) dX8_behind_17 flX8_65 (by decide) rfl rfl ?_
      refine rm_sipush (v := nI (200)) dX8_behind_20 (by decide) ?_
      refine rm_iload_n dX8_behind_23 rfl rfl ?_
      refine rm_imul dX8_behind_24 ?_
      refine rm_top (pk_mul (200) (y1)) ?_
      refine rm_iload_n dX8_behind_25 rfl rfl ?_
      refine rm_iadd dX8_behind_26 ?_
      refine rm_top (nI_add (200 * y1) (x1)) ?_
      refine rm_zald (j := 200 * y1 + x1) (x := (a 26 (200 * y1 + x1))) dX8_behind_27 (rfl) (by omega) (rfl) ?_
      refine rm_if_eq (tgt := 35) dX8_behind_28 (by decide) (fun h28 => ?_) (fun h28 => ?_)
      · refine rm_iconst (v := nI (0)) dX8_behind_35 (by decide) ?_
        refine rm_goto (tgt := 40) dX8_behind_36 (by decide) ?_
        refine rm_iret dX8_behind_40 rfl rfl ?_
        exact ⟨by unfold q_behind; rw [h5, h13, if_pos (by decide), rm_nv_n (n := x1) (by omega), rm_nv_n (n := y1) (by omega), if_pos h28], rfl⟩
      · refine rm_iconst (v := nI (1)) dX8_behind_31 (by decide) ?_
        refine rm_goto (tgt := 40) dX8_behind_32 (by decide) ?_
        refine rm_iret dX8_behind_40 rfl rfl ?_
        exact ⟨by unfold q_behind; rw [h5, h13, if_pos (by decide), rm_nv_n (n := x1) (by omega), rm_nv_n (n := y1) (by omega), if_neg h28], rfl⟩
theorem cM_late_l (d : Nat) {a : zv_I} {nl m : Nat} (hn : a 3 4 = nI nl) (hnb : nl ≤ 200) (hm8 : m < 8) : ∀ n k, k + n = nl → rm_V mX8_late d 14 [.ref 3, .int (nI m), .int (nI (rm_cnt (fun k => decide (a 20 (200 * m + k) = nI 1)) k)), .int (nI k)] [] a (rm_p (nI (rm_cnt (fun k => decide (a 20 (200 * m + k) = nI 1)) nl)) a) := by
  intro n
  induction n with
  | zero =>
    intro k hk
    have hk2 : k = nl := by omega
    subst hk2
    have hcl := rm_cnt_le (fun k => decide (a 20 (200 * m + k) = nI 1)) k
    refine rm_iload_n dX8_late_14 rfl rfl ?_
    refine rm_aload_n dX8_late_15 rfl rfl ?_
    refine rm_geti 4 (x := nI (k)) dX8_late_16 flX8_89 rfl (hn) ?_
    refine rm_icN_ge (tgt := 52) dX8_late_19 (by decide) (by omega) (by omega) (fun h19 => ?_) (fun h19 => (absurd h19 (by omega)))
    refine rm_iload_n dX8_late_52 rfl rfl ?_
    refine rm_iret dX8_late_53 rfl rfl ?_
    exact ⟨rfl, rfl⟩
  | succ n ih =>
    intro k hk
    have hcl := rm_cnt_le (fun k => decide (a 20 (200 * m + k) = nI 1)) k
    refine rm_iload_n dX8_late_14 rfl rfl ?_
    refine rm_aload_n dX8_late_15 rfl rfl ?_
    refine rm_geti 4 (x := nI (nl)) dX8_late_16 flX8_89 rfl (hn) ?_
    refine rm_icN_ge (tgt := 52) dX8_late_19 (by decide) (by omega) (by omega) (fun h19 => (absurd h19 (by omega))) (fun h19 => ?_)
    refine rm_iload_n dX8_late_22 rfl rfl ?_
    refine rm_aload_n dX8_late_23 rfl rfl ?_
    refine rm_getr 16 (t := 20) dX8_late_24 flX8_46 (by decide) rfl rfl ?_
    refine rm_sipush (v := nI (200)) dX8_late_27 (by decide) ?_
    refine rm_iload_n dX8_late_30 rfl rfl ?_
    refine rm_imul dX8_late_31 ?_
    refine rm_top (pk_mul (200) (m)) ?_
    refine rm_iload_n dX8_late_32 rfl rfl ?_
    refine rm_iadd dX8_late_33 ?_
    refine rm_top (nI_add (200 * m) (k)) ?_
    refine rm_iald (f := 16) (j := 200 * m + k) (x := (a 20 (200 * m + k))) dX8_late_34 rfl (by decide) rfl rfl (rfl) (show 200 * m + k < 1600 from by omega) (rfl) ?_
    refine rm_iconst (v := nI (1)) dX8_late_35 (by decide) ?_
    refine rm_icmp_ne (tgt := 43) dX8_late_36 (by decide) (fun h36 => ?_) (fun h36 => ?_)
    · refine rm_iconst (v := nI (0)) dX8_late_43 (by decide) ?_
      refine rm_iadd dX8_late_44 ?_
      refine rm_top (nI_add (rm_cnt (fun k => decide (a 20 (200 * m + k) = nI 1)) k) (0)) ?_
      refine rm_istore_n (lv' := [.ref 3, .int (nI (m)), .int (nI (rm_cnt (fun k => decide (a 20 (200 * m + k) = nI 1)) k + 0)), .int (nI (k))]) dX8_late_45 rfl (by decide) rfl ?_
      refine rm_iinc (v := nI (k + 1)) (lv' := [.ref 3, .int (nI (m)), .int (nI (rm_cnt (fun k => decide (a 20 (200 * m + k) = nI 1)) k + 0)), .int (nI (k + 1))]) dX8_late_46 rfl (by rw [← nI_1]; rfl) (by decide) rfl ?_
      refine rm_goto (tgt := 14) dX8_late_49 (by decide) ?_
      have h9 := ih (k + 1) (by omega)
      rw [show rm_cnt (fun k => decide (a 20 (200 * m + k) = nI 1)) (k + 1) = rm_cnt (fun k => decide (a 20 (200 * m + k) = nI 1)) k + 0 from by show _ + (if ((fun k => decide (a 20 (200 * m + k) = nI 1)) k) = true then 1 else 0) = _; rw [show ((fun k => decide (a 20 (200 * m + k) = nI 1)) k) = false from decide_eq_false h36]; rfl] at h9
      exact h9
    · refine rm_iconst (v := nI (1)) dX8_late_39 (by decide) ?_
      refine rm_goto (tgt := 44) dX8_late_40 (by decide) ?_
      refine rm_iadd dX8_late_44 ?_
      refine rm_top (nI_add (rm_cnt (fun k => decide (a 20 (200 * m + k) = nI 1)) k) (1)) ?_
      refine rm_istore_n (lv' := [.ref 3, .int (nI (m)), .int (nI (rm_cnt (fun k => decide (a 20 (200 * m + k) = nI 1)) k + 1)), .int (nI (k))]) dX8_late_45 rfl (by decide) rfl ?_
      refine rm_iinc (v := nI (k + 1)) (lv' := [.ref 3, .int (nI (m)), .int (nI (rm_cnt (fun k => decide (a 20 (200 * m + k) = nI 1)) k + 1)), .int (nI (k + 1))]) dX8_late_46 rfl (by rw [← nI_1]; rfl) (by decide) rfl ?_
      refine rm_goto (tgt := 14) dX8_late_49 (by decide) ?_
      have h9 := ih (k + 1) (by omega)
      rw [show rm_cnt (fun k => decide (a 20 (200 * m + k) = nI 1)) (k + 1) = rm_cnt (fun k => decide (a 20 (200 * m + k) = nI 1)) k + 1 from by show _ + (if ((fun k => decide (a 20 (200 * m + k) = nI 1)) k) = true then 1 else 0) = _; rw [show ((fun k => decide (a 20 (200 * m + k) = nI 1)) k) = true from decide_eq_true h36]; rfl] at h9
      exact h9
theorem cM_past_l (d : Nat) {a : zv_I} {nl l : Nat} (hn : a 3 4 = nI nl) (hnb : nl ≤ 200) (hl2 : l < 200) : ∀ n k, k + n = nl → rm_V mX8_past d 14 [.ref 3, .int (nI l), .int (nI (rm_cnt (fun k => decide (¬ a 26 (200 * l + k) = 0)) k)), .int (nI k)] [] a (rm_p (nI (rm_cnt (fun k => decide (¬ a 26 (200 * l + k) = 0)) nl)) a) := by
  intro n
  induction n with
  | zero =>
    intro k hk
    have hk2 : k = nl := by omega
    subst hk2
    have hcl := rm_cnt_le (fun k => decide (¬ a 26 (200 * l + k) = 0)) k
    refine rm_iload_n dX8_past_14 rfl rfl ?_
    refine rm_aload_n dX8_past_15 rfl rfl ?_
    refine rm_geti 4 (x := nI (k)) dX8_past_16 flX8_89 rfl (hn) ?_
    refine rm_icN_ge (tgt := 51) dX8_past_19 (by decide) (by omega) (by omega) (fun h19 => ?_) (fun h19 => (absurd h19 (by omega)))
    refine rm_iload_n dX8_past_51 rfl rfl ?_
    refine rm_iret dX8_past_52 rfl rfl ?_
    exact ⟨rfl, rfl⟩
  | succ n ih =>
    intro k hk
    have hcl := rm_cnt_le (fun k => decide (¬ a 26 (200 * l + k) = 0)) k
    refine rm_iload_n dX8_past_14 rfl rfl ?_
    refine rm_aload_n dX8_past_15 rfl rfl ?_
    refine rm_geti 4 (x := nI (nl)) dX8_past_16 flX8_89 rfl (hn) ?_
    refine rm_icN_ge (tgt := 51) dX8_past_19 (by decide) (by omega) (by omega) (fun h19 => (absurd h19 (by omega))) (fun h19 => ?_)
    refine rm_iload_n dX8_past_22 rfl rfl ?_
    refine rm_aload_n dX8_past_23 rfl rfl ?_
    refine rm_getr 22 (t := 26) dX8_past_24 flX8_65 (by decide) rfl rfl ?_
    refine rm_sipush (v := nI (200)) dX8_past_27 (by decide) ?_
    refine rm_iload_n dX8_past_30 rfl rfl ?_
    refine rm_imul dX8_past_31 ?_
    refine rm_top (pk_mul (200) (l)) ?_
    refine rm_iload_n dX8_past_32 rfl rfl ?_
    refine rm_iadd dX8_past_33 ?_
    refine rm_top (nI_add (200 * l) (k)) ?_
    refine rm_zald (j := 200 * l + k) (x := (a 26 (200 * l + k))) dX8_past_34 (rfl) (by omega) (rfl) ?_
    refine rm_if_eq (tgt := 42) dX8_past_35 (by decide) (fun h35 => ?_) (fun h35 => ?_)
    · refine rm_iconst (v := nI (0)) dX8_past_42 (by decide) ?_
      refine rm_iadd dX8_past_43 ?_
      refine rm_top (nI_add (rm_cnt (fun k => decide (¬ a 26 (200 * l + k) = 0)) k) (0)) ?_
      refine rm_istore_n (lv' := [.ref 3, .int (nI (l)), .int (nI (rm_cnt (fun k => decide (¬ a 26 (200 * l + k) = 0)) k + 0)), .int (nI (k))]) dX8_past_44 rfl (by decide) rfl ?_
      refine rm_iinc (v := nI (k + 1)) (lv' := [.ref 3, .int (nI (l)), .int (nI (rm_cnt (fun k => decide (¬ a 26 (200 * l + k) = 0)) k + 0)), .int (nI (k + 1))]) dX8_past_45 rfl (by rw [← nI_1]; rfl) (by decide) rfl ?_
      refine rm_goto (tgt := 14) dX8_past_48 (by decide) ?_
      have h9 := ih (k + 1) (by omega)
      rw [show rm_cnt (fun k => decide (¬ a 26 (200 * l + k) = 0)) (k + 1) = rm_cnt (fun k => decide (¬ a 26 (200 * l + k) = 0)) k + 0 from by show _ + (if ((fun k => decide (¬ a 26 (200 * l + k) = 0)) k) = true then 1 else 0) = _; rw [show ((fun k => decide (¬ a 26 (200 * l + k) = 0)) k) = false from decide_eq_false (fun q => q h35)]; rfl] at h9
      exact h9
    · refine rm_iconst (v := nI (1)) dX8_past_38 (by decide) ?_
      refine rm_goto (tgt := 43) dX8_past_39 (by decide) ?_
      refine rm_iadd dX8_past_43 ?_
      refine rm_top (nI_add (rm_cnt (fun k => decide (¬ a 26 (200 * l + k) = 0)) k) (1)) ?_
      refine rm_istore_n (lv' := [.ref 3, .int (nI (l)), .int (nI (rm_cnt (fun k => decide (¬ a 26 (200 * l + k) = 0)) k + 1)), .int (nI (k))]) dX8_past_44 rfl (by decide) rfl ?_
      refine rm_iinc (v := nI (k + 1)) (lv' := [.ref 3, .int (nI (l)), .int (nI (rm_cnt (fun k => decide (¬ a 26 (200 * l + k) = 0)) k + 1)), .int (nI (k + 1))]) dX8_past_45 rfl (by rw [← nI_1]; rfl) (by decide) rfl ?_
      refine rm_goto (tgt := 14) dX8_past_48 (by decide) ?_
      have h9 := ih (k + 1) (by omega)
      rw [show rm_cnt (fun k => decide (¬ a 26 (200 * l + k) = 0)) (k + 1) = rm_cnt (fun k => decide (¬ a 26 (200 * l + k) = 0)) k + 1 from by show _ + (if ((fun k => decide (¬ a 26 (200 * l + k) = 0)) k) = true then 1 else 0) = _; rw [show ((fun k => decide (¬ a 26 (200 * l + k) = 0)) k) = true from decide_eq_true h35]; rfl] at h9
      exact h9
def q_late (a : zv_I) (nm nl : Nat) (m : Int32) : Int32 := if rm_lt m nm = true then nI (rm_cnt (fun k => decide (a 20 (200 * rm_nv m + k) = nI 1)) nl) else -1
theorem cM_late (d : Nat) {a : zv_I} {nm nl : Nat} (hm : a 3 0 = nI nm) (hmb : nm ≤ 8) (hn : a 3 4 = nI nl) (hnb : nl ≤ 200) (m : Int32) : rm_V mX8_late (d + 2) 0 [.ref 3, .int m] [] a (rm_p (q_late a nm nl m) a) := by
  refine rm_aload_n dX8_late_0 rfl rfl ?_
  refine rm_iload_n dX8_late_1 rfl rfl ?_
  refine rm_callV (As := [.int (m)]) (st := []) dX8_late_2 cvX8_113 rfl rfl (by decide) (zv_cat_i [m]) (Nat.le_of_ble_eq_true rfl) (cM_isMember d hm (by omega) (m)) (fun v b q => ?_)
  obtain ⟨rfl, rfl⟩ := q
  show rm_V _ _ 5 [.ref 3, .int (m)] [.int (rm_b (rm_lt (m) nm))] _ _
  refine rm_ifB_ne (tgt := 10) dX8_late_5 (by decide) (fun h5 => ?_) (fun h5 => ?_)
  · obtain ⟨m1, hm1, rfl⟩ := rm_lt_t h5 (by omega)
    refine rm_iconst (v := nI (0)) dX8_late_10 (by decide) ?_
    refine rm_istore_n (lv' := [.ref 3, .int (nI (m1)), .int (nI (0))]) dX8_late_11 rfl (by decide) rfl ?_
    refine rm_iconst (v := nI (0)) dX8_late_12 (by decide) ?_
    refine rm_istore_n (lv' := [.ref 3, .int (nI (m1)), .int (nI (0)), .int (nI (0))]) dX8_late_13 rfl (by decide) rfl ?_
    unfold q_late
    rw [h5, if_pos rfl, rm_nv_n (n := m1) (by omega)]
    exact cM_late_l (d + 2) hn hnb (by omega) nl 0 (by omega)
  · refine rm_iconst (v := (-1 : Int32)) dX8_late_8 (by decide) ?_
    refine rm_iret dX8_late_9 rfl rfl ?_
    exact ⟨by unfold q_late; rw [h5]; rfl, rfl⟩
def q_past (a : zv_I) (nl : Nat) (l : Int32) : Int32 := if rm_lt l nl = true then nI (rm_cnt (fun k => decide (¬ a 26 (200 * rm_nv l + k) = 0)) nl) else -1
theorem cM_past (d : Nat) {a : zv_I} {nl : Nat} (hn : a 3 4 = nI nl) (hnb : nl ≤ 200) (l : Int32) : rm_V mX8_past (d + 2) 0 [.ref 3, .int l] [] a (rm_p (q_past a nl l) a) := by
  refine rm_aload_n dX8_past_0 rfl rfl ?_
  refine rm_iload_n dX8_past_1 rfl rfl ?_
  refine rm_callV (As := [.int (l)]) (st := []) dX8_past_2 cvX8_142 rfl rfl (by decide) (zv_cat_i [l]) (Nat.le_of_ble_eq_true rfl) (cM_isLetter d hn (by omega) (l)) (fun v b q => ?_)
  obtain ⟨rfl, rfl⟩ := q
  show rm_V _ _ 5 [.ref 3, .int (l)] [.int (rm_b (rm_lt (l) nl))] _ _
  refine rm_ifB_ne (tgt := 10) dX8_past_5 (by decide) (fun h5 => ?_) (fun h5 => ?_)
  · obtain ⟨l1, hl1, rfl⟩ := rm_lt_t h5 (by omega)
    refine rm_iconst (v := nI (0)) dX8_past_10 (by decide) ?_
    refine rm_istore_n (lv' := [.ref 3, .int (nI (l1)), .int (nI (0))]) dX8_past_11 rfl (by decide) rfl ?_
    refine rm_iconst (v := nI (0)) dX8_past_12 (by decide) ?_
    refine rm_istore_n (lv' := [.ref 3, .int (nI (l1)), .int (nI (0)), .int (nI (0))]) dX8_past_13 rfl (by decide) rfl ?_
    unfold q_past
    rw [h5, if_pos rfl, rm_nv_n (n := l1) (by omega)]
    exact cM_past_l (d + 2) hn hnb (by omega) nl 0 (by omega)
  · refine rm_iconst (v := (-1 : Int32)) dX8_past_8 (by decide) ?_
    refine rm_iret dX8_past_9 rfl rfl ?_
    exact ⟨by unfold q_past; rw [h5]; rfl, rfl⟩
def q_count (a : zv_I) (x : Int32) : Int32 := if x = 0 then a 3 0 else if x = nI 1 then a 3 1 else if x = nI 2 then a 3 4 else if x = nI 3 then a 3 26 else -1
theorem cM_count (d : Nat) (a : zv_I) (x : Int32) : rm_V mX8_count d 0 [.ref 3, .int x] [] a (rm_p (q_count a x) a) := by
  refine rm_iload_n dX8_count_0 rfl rfl ?_
  refine rm_if_ne (tgt := 11) dX8_count_1 (by decide) (fun h1 => ?_) (fun h1 => ?_)
  · refine rm_iload_n dX8_count_11 rfl rfl ?_
    refine rm_iconst (v := nI (1)) dX8_count_12 (by decide) ?_
    refine rm_icmp_ne (tgt := 23) dX8_count_13 (by decide) (fun h13 => ?_) (fun h13 => ?_)
    · refine rm_iload_n dX8_count_23 rfl rfl ?_
      refine rm_iconst (v := nI (2)) dX8_count_24 (by decide) ?_
      refine rm_icmp_ne (tgt := 35) dX8_count_25 (by decide) (fun h25 => ?_) (fun h25 => ?_)
      · refine rm_iload_n dX8_count_35 rfl rfl ?_
        refine rm_iconst (v := nI (3)) dX8_count_36 (by decide) ?_
        refine rm_icmp_ne (tgt := 47) dX8_count_37 (by decide) (fun h37 => ?_) (fun h37 => ?_)
        · refine rm_iconst (v := (-1 : Int32)) dX8_count_47 (by decide) ?_
          refine rm_iret dX8_count_48 rfl rfl ?_
          exact ⟨by unfold q_count; rw [if_neg h1, if_neg h13, if_neg h25, if_neg h37], rfl⟩
        · refine rm_aload_n dX8_count_40 rfl rfl ?_
          refine rm_geti 26 (x := (a 3 26)) dX8_count_41 flX8_176 rfl (rfl) ?_
          refine rm_goto (tgt := 48) dX8_count_44 (by decide) ?_
          refine rm_iret dX8_count_48 rfl rfl ?_
          exact ⟨by unfold q_count; rw [if_neg h1, if_neg h13, if_neg h25, if_pos h37], rfl⟩
      · refine rm_aload_n dX8_count_28 rfl rfl ?_
        refine rm_geti 4 (x := (a 3 4)) dX8_count_29 flX8_89 rfl (rfl) ?_
        refine rm_goto (tgt := 48) dX8_count_32 (by decide) ?_
        refine rm_iret dX8_count_48 rfl rfl ?_
        exact ⟨by unfold q_count; rw [if_neg h1, if_neg h13, if_pos h25], rfl⟩
    · refine rm_aload_n dX8_count_16 rfl rfl ?_
      refine rm_geti 1 (x := (a 3 1)) dX8_count_17 flX8_86 rfl (rfl) ?_
      refine rm_goto (tgt := 48) dX8_count_20 (by decide) ?_
      refine rm_iret dX8_count_48 rfl rfl ?_
      exact ⟨by unfold q_count; rw [if_neg h1, if_pos h13], rfl⟩
  · refine rm_aload_n dX8_count_4 rfl rfl ?_
    refine rm_geti 0 (x := (a 3 0)) dX8_count_5 flX8_78 rfl (rfl) ?_
    refine rm_goto (tgt := 48) dX8_count_8 (by decide) ?_
    refine rm_iret dX8_count_48 rfl rfl ?_
    exact ⟨by unfold q_count; rw [if_pos h1], rfl⟩
end
section
theorem rm_lt_out {x : Int32} {n : Nat} (h : rm_lt x n = false) : x.toInt < 0 ∨ ((n : Int) - 1) < x.toInt := by
  simp only [rm_lt, decide_eq_false_iff_not] at h
  omega
theorem cM_write (d : Nat) {a : zv_I} {m c k : Int32} {X : Int32} {b : zv_I} (h : rm_V mX8_call (d + 1) 0 [.ref 3, .int k, .int m, .int c, .int (-1 : Int32), .int (rm_b (decide (k = 0 ∨ k = nI 4 ∨ k = nI 5)))] [] a (rm_p X b)) : rm_V mX8_write (d + 2) 0 [.ref 3, .int m, .int c, .int k] [] a (rm_p X b) := by
  refine rm_aload_n dX8_write_0 rfl rfl ?_
  refine rm_iload_n dX8_write_1 rfl rfl ?_
  refine rm_iload_n dX8_write_2 rfl rfl ?_
  refine rm_iload_n dX8_write_3 rfl rfl ?_
  refine rm_iconst (v := (-1 : Int32)) dX8_write_4 (by decide) ?_
  refine rm_iload_n dX8_write_5 rfl rfl ?_
  refine rm_if_eq (tgt := 19) dX8_write_6 (by decide) (fun h6 => ?_) (fun h6 => ?_)
  · refine rm_iconst (v := nI (1)) dX8_write_19 (by decide) ?_
    refine rm_goto (tgt := 24) dX8_write_20 (by decide) ?_
    refine rm_callV (As := [.int (k), .int (m), .int (c), .int ((-1 : Int32)), .int (nI (1))]) (st := []) dX8_write_24 cvX8_138 rfl rfl (by decide) (zv_cat_i [k, m, c, (-1 : Int32), nI (1)]) (Nat.le_of_ble_eq_true rfl) ((show rm_V mX8_call (d + 1) 0 [.ref 3, .int (k), .int (m), .int (c), .int ((-1 : Int32)), .int (nI (1))] [] a (rm_p X b) from by rw [show decide (k = 0 ∨ k = nI 4 ∨ k = nI 5) = true from decide_eq_true (Or.inl h6)] at h; exact h)) (fun v b q => ?_)
    obtain ⟨rfl, rfl⟩ := q
    show rm_V _ _ 27 [.ref 3, .int (m), .int (c), .int (k)] [.int (X)] _ _
    refine rm_iret dX8_write_27 rfl rfl ?_
    exact ⟨rfl, rfl⟩
  · refine rm_iload_n dX8_write_9 rfl rfl ?_
    refine rm_iconst (v := nI (4)) dX8_write_10 (by decide) ?_
    refine rm_icmp_eq (tgt := 19) dX8_write_11 (by decide) (fun h11 => ?_) (fun h11 => ?_)
    · refine rm_iconst (v := nI (1)) dX8_write_19 (by decide) ?_
      refine rm_goto (tgt := 24) dX8_write_20 (by decide) ?_
      refine rm_callV (As := [.int (k), .int (m), .int (c), .int ((-1 : Int32)), .int (nI (1))]) (st := []) dX8_write_24 cvX8_138 rfl rfl (by decide) (zv_cat_i [k, m, c, (-1 : Int32), nI (1)]) (Nat.le_of_ble_eq_true rfl) ((show rm_V mX8_call (d + 1) 0 [.ref 3, .int (k), .int (m), .int (c), .int ((-1 : Int32)), .int (nI (1))] [] a (rm_p X b) from by rw [show decide (k = 0 ∨ k = nI 4 ∨ k = nI 5) = true from decide_eq_true (Or.inr (Or.inl h11))] at h; exact h)) (fun v b q => ?_)
      obtain ⟨rfl, rfl⟩ := q
      show rm_V _ _ 27 [.ref 3, .int (m), .int (c), .int (k)] [.int (X)] _ _
      refine rm_iret dX8_write_27 rfl rfl ?_
      exact ⟨rfl, rfl⟩
    · refine rm_iload_n dX8_write_14 rfl rfl ?_
      refine rm_iconst (v := nI (5)) dX8_write_15 (by decide) ?_
      refine rm_icmp_ne (tgt := 23) dX8_write_16 (by decide) (fun h16 => ?_) (fun h16 => ?_)
      · refine rm_iconst (v := nI (0)) dX8_write_23 (by decide) ?_
        refine rm_callV (As := [.int (k), .int (m), .int (c), .int ((-1 : Int32)), .int (nI (0))]) (st := []) dX8_write_24 cvX8_138 rfl rfl (by decide) (zv_cat_i [k, m, c, (-1 : Int32), nI (0)]) (Nat.le_of_ble_eq_true rfl) ((show rm_V mX8_call (d + 1) 0 [.ref 3, .int (k), .int (m), .int (c), .int ((-1 : Int32)), .int (nI (0))] [] a (rm_p X b) from by rw [show decide (k = 0 ∨ k = nI 4 ∨ k = nI 5) = false from decide_eq_false (fun q => q.elim h6 (fun q => q.elim h11 h16))] at h; exact h)) (fun v b q => ?_)
        obtain ⟨rfl, rfl⟩ := q
        show rm_V _ _ 27 [.ref 3, .int (m), .int (c), .int (k)] [.int (X)] _ _
        refine rm_iret dX8_write_27 rfl rfl ?_
        exact ⟨rfl, rfl⟩
      · refine rm_iconst (v := nI (1)) dX8_write_19 (by decide) ?_
        refine rm_goto (tgt := 24) dX8_write_20 (by decide) ?_
        refine rm_callV (As := [.int (k), .int (m), .int (c), .int ((-1 : Int32)), .int (nI (1))]) (st := []) dX8_write_24 cvX8_138 rfl rfl (by decide) (zv_cat_i [k, m, c, (-1 : Int32), nI (1)]) (Nat.le_of_ble_eq_true rfl) ((show rm_V mX8_call (d + 1) 0 [.ref 3, .int (k), .int (m), .int (c), .int ((-1 : Int32)), .int (nI (1))] [] a (rm_p X b) from by rw [show decide (k = 0 ∨ k = nI 4 ∨ k = nI 5) = true from decide_eq_true (Or.inr (Or.inr h16))] at h; exact h)) (fun v b q => ?_)
        obtain ⟨rfl, rfl⟩ := q
        show rm_V _ _ 27 [.ref 3, .int (m), .int (c), .int (k)] [.int (X)] _ _
        refine rm_iret dX8_write_27 rfl rfl ?_
        exact ⟨rfl, rfl⟩
theorem cM_reply (d : Nat) {a : zv_I} {nl : Nat} (hn : a 3 4 = nI nl) (hnb : nl ≤ 200) {m c l : Int32} {X : Int32} {b : zv_I} (h : rm_V mX8_call (d + 1) 0 [.ref 3, .int (nI 1), .int m, .int c, .int l, .int (rm_b (rm_lt l nl))] [] a (rm_p X b)) : rm_V mX8_reply (d + 2) 0 [.ref 3, .int m, .int c, .int l] [] a (rm_p X b) := by
  refine rm_aload_n dX8_reply_0 rfl rfl ?_
  refine rm_iconst (v := nI (1)) dX8_reply_1 (by decide) ?_
  refine rm_iload_n dX8_reply_2 rfl rfl ?_
  refine rm_iload_n dX8_reply_3 rfl rfl ?_
  refine rm_iload_n dX8_reply_4 rfl rfl ?_
  refine rm_aload_n dX8_reply_5 rfl rfl ?_
  refine rm_iload_n dX8_reply_6 rfl rfl ?_
  refine rm_callV (As := [.int (l)]) (st := [.int (l), .int (c), .int (m), .int (nI (1)), .ref 3]) dX8_reply_7 cvX8_142 rfl rfl (by decide) (zv_cat_i [l]) (Nat.le_of_ble_eq_true rfl) (cM_isLetter d hn (by omega) (l)) (fun v b q => ?_)
  obtain ⟨rfl, rfl⟩ := q
  show rm_V _ _ 10 [.ref 3, .int (m), .int (c), .int (l)] [.int (rm_b (rm_lt (l) nl)), .int (l), .int (c), .int (m), .int (nI (1)), .ref 3] _ _
  refine rm_callV (As := [.int (nI (1)), .int (m), .int (c), .int (l), .int (rm_b (rm_lt (l) nl))]) (st := []) dX8_reply_10 cvX8_138 rfl rfl (by decide) (zv_cat_i [nI (1), m, c, l, rm_b (rm_lt (l) nl)]) (Nat.le_of_ble_eq_true rfl) (h) (fun v b q => ?_)
  obtain ⟨rfl, rfl⟩ := q
  show rm_V _ _ 13 [.ref 3, .int (m), .int (c), .int (l)] [.int (X)] _ _
  refine rm_iret dX8_reply_13 rfl rfl ?_
  exact ⟨rfl, rfl⟩
theorem cM_seal (d : Nat) {a : zv_I} {nl : Nat} (hn : a 3 4 = nI nl) (hnb : nl ≤ 200) {m c l : Int32} {X : Int32} {b : zv_I} (h : rm_V mX8_call (d + 1) 0 [.ref 3, .int (nI 2), .int m, .int c, .int l, .int (rm_b (decide (l = -1) || rm_lt l nl))] [] a (rm_p X b)) : rm_V mX8_seal (d + 2) 0 [.ref 3, .int m, .int c, .int l] [] a (rm_p X b) := by
  refine rm_aload_n dX8_seal_0 rfl rfl ?_
  refine rm_iconst (v := nI (2)) dX8_seal_1 (by decide) ?_
  refine rm_iload_n dX8_seal_2 rfl rfl ?_
  refine rm_iload_n dX8_seal_3 rfl rfl ?_
  refine rm_iload_n dX8_seal_4 rfl rfl ?_
  refine rm_iload_n dX8_seal_5 rfl rfl ?_
  refine rm_iconst (v := (-1 : Int32)) dX8_seal_6 (by decide) ?_
  refine rm_icmp_eq (tgt := 18) dX8_seal_7 (by decide) (fun h7 => ?_) (fun h7 => ?_)
  · refine rm_iconst (v := nI (1)) dX8_seal_18 (by decide) ?_
    refine rm_goto (tgt := 23) dX8_seal_19 (by decide) ?_
    refine rm_callV (As := [.int (nI (2)), .int (m), .int (c), .int (l), .int (nI (1))]) (st := []) dX8_seal_23 cvX8_138 rfl rfl (by decide) (zv_cat_i [nI (2), m, c, l, nI (1)]) (Nat.le_of_ble_eq_true rfl) ((show rm_V mX8_call (d + 1) 0 [.ref 3, .int (nI (2)), .int (m), .int (c), .int (l), .int (nI (1))] [] a (rm_p X b) from by rw [show (decide (l = -1) || rm_lt l nl) = true from by rw [decide_eq_true h7]; rfl] at h; exact h)) (fun v b q => ?_)
    obtain ⟨rfl, rfl⟩ := q
    show rm_V _ _ 26 [.ref 3, .int (m), .int (c), .int (l)] [.int (X)] _ _
    refine rm_iret dX8_seal_26 rfl rfl ?_
    exact ⟨rfl, rfl⟩
  · refine rm_aload_n dX8_seal_10 rfl rfl ?_
    refine rm_iload_n dX8_seal_11 rfl rfl ?_
    refine rm_callV (As := [.int (l)]) (st := [.int (l), .int (c), .int (m), .int (nI (2)), .ref 3]) dX8_seal_12 cvX8_142 rfl rfl (by decide) (zv_cat_i [l]) (Nat.le_of_ble_eq_true rfl) (cM_isLetter d hn (by omega) (l)) (fun v b q => ?_)
    obtain ⟨rfl, rfl⟩ := q
    show rm_V _ _ 15 [.ref 3, .int (m), .int (c), .int (l)] [.int (rm_b (rm_lt (l) nl)), .int (l), .int (c), .int (m), .int (nI (2)), .ref 3] _ _
    refine rm_ifB_eq (tgt := 22) dX8_seal_15 (by decide) (fun h15 => ?_) (fun h15 => ?_)
    · refine rm_iconst (v := nI (0)) dX8_seal_22 (by decide) ?_
      refine rm_callV (As := [.int (nI (2)), .int (m), .int (c), .int (l), .int (nI (0))]) (st := []) dX8_seal_23 cvX8_138 rfl rfl (by decide) (zv_cat_i [nI (2), m, c, l, nI (0)]) (Nat.le_of_ble_eq_true rfl) ((show rm_V mX8_call (d + 1) 0 [.ref 3, .int (nI (2)), .int (m), .int (c), .int (l), .int (nI (0))] [] a (rm_p X b) from by rw [show (decide (l = -1) || rm_lt l nl) = false from by rw [decide_eq_false h7, h15]; rfl] at h; exact h)) (fun v b q => ?_)
      obtain ⟨rfl, rfl⟩ := q
      show rm_V _ _ 26 [.ref 3, .int (m), .int (c), .int (l)] [.int (X)] _ _
      refine rm_iret dX8_seal_26 rfl rfl ?_
      exact ⟨rfl, rfl⟩
    · refine rm_iconst (v := nI (1)) dX8_seal_18 (by decide) ?_
      refine rm_goto (tgt := 23) dX8_seal_19 (by decide) ?_
      refine rm_callV (As := [.int (nI (2)), .int (m), .int (c), .int (l), .int (nI (1))]) (st := []) dX8_seal_23 cvX8_138 rfl rfl (by decide) (zv_cat_i [nI (2), m, c, l, nI (1)]) (Nat.le_of_ble_eq_true rfl) ((show rm_V mX8_call (d + 1) 0 [.ref 3, .int (nI (2)), .int (m), .int (c), .int (l), .int (nI (1))] [] a (rm_p X b) from by rw [show (decide (l = -1) || rm_lt l nl) = true from by rw [h15]; exact Bool.or_true _] at h; exact h)) (fun v b q => ?_)
      obtain ⟨rfl, rfl⟩ := q
      show rm_V _ _ 26 [.ref 3, .int (m), .int (c), .int (l)] [.int (X)] _ _
      refine rm_iret dX8_seal_26 rfl rfl ?_
      exact ⟨rfl, rfl⟩
theorem cM_deliver_1 (d : Nat) {a : zv_I} {nm nl : Nat} (hm : a 3 0 = nI nm) (hmb : nm ≤ 8) (hn : a 3 4 = nI nl) (hnb : nl ≤ 200) {l m : Int32} (hbad : (rm_lt l nl && rm_lt m nm) = false) : rm_V mX8_deliver (d + 2) 0 [.ref 3, .int l, .int m] [] a (rm_p (-1 : Int32) (zv_u a 3 24 (nI 1))) := by
  refine rm_aload_n dX8_deliver_0 rfl rfl ?_
  refine rm_iload_n dX8_deliver_1 rfl rfl ?_
  refine rm_callV (As := [.int (l)]) (st := []) dX8_deliver_2 cvX8_142 rfl rfl (by decide) (zv_cat_i [l]) (Nat.le_of_ble_eq_true rfl) (cM_isLetter d hn (by omega) (l)) (fun v b q => ?_)
  obtain ⟨rfl, rfl⟩ := q
  show rm_V _ _ 5 [.ref 3, .int (l), .int (m)] [.int (rm_b (rm_lt (l) nl))] _ _
  refine rm_ifB_eq (tgt := 16) dX8_deliver_5 (by decide) (fun h5 => ?_) (fun h5 => ?_)
  · refine rm_aload_n dX8_deliver_16 rfl rfl ?_
    refine rm_iconst (v := nI (1)) dX8_deliver_17 (by decide) ?_
    refine rm_callV (As := [.int (nI (1))]) (st := []) dX8_deliver_18 cvX8_103 rfl rfl (by decide) (zv_cat_i [nI (1)]) (Nat.le_of_ble_eq_true rfl) (cM_refused (d + 1) (a) (nI (1))) (fun v b q => ?_)
    obtain ⟨rfl, rfl⟩ := q
    show rm_V _ _ 21 [.ref 3, .int (l), .int (m)] [.int ((-1 : Int32))] _ _
    refine rm_iret dX8_deliver_21 rfl rfl ?_
    exact ⟨rfl, rfl⟩
  · refine rm_aload_n dX8_deliver_8 rfl rfl ?_
    refine rm_iload_n dX8_deliver_9 rfl rfl ?_
    refine rm_callV (As := [.int (m)]) (st := []) dX8_deliver_10 cvX8_113 rfl rfl (by decide) (zv_cat_i [m]) (Nat.le_of_ble_eq_true rfl) (cM_isMember d hm (by omega) (m)) (fun v b q => ?_)
    obtain ⟨rfl, rfl⟩ := q
    show rm_V _ _ 13 [.ref 3, .int (l), .int (m)] [.int (rm_b (rm_lt (m) nm))] _ _
    refine rm_ifB_ne (tgt := 22) dX8_deliver_13 (by decide) (fun h13 => ?_) (fun h13 => ?_)
    · rw [h5, h13] at hbad
      cases hbad
    · refine rm_aload_n dX8_deliver_16 rfl rfl ?_
      refine rm_iconst (v := nI (1)) dX8_deliver_17 (by decide) ?_
      refine rm_callV (As := [.int (nI (1))]) (st := []) dX8_deliver_18 cvX8_103 rfl rfl (by decide) (zv_cat_i [nI (1)]) (Nat.le_of_ble_eq_true rfl) (cM_refused (d + 1) (a) (nI (1))) (fun v b q => ?_)
      obtain ⟨rfl, rfl⟩ := q
      show rm_V _ _ 21 [.ref 3, .int (l), .int (m)] [.int ((-1 : Int32))] _ _
      refine rm_iret dX8_deliver_21 rfl rfl ?_
      exact ⟨rfl, rfl⟩
theorem cM_deliver_3 (d : Nat) {a : zv_I} {nm nl l m : Nat} (hm : a 3 0 = nI nm) (hmb : nm ≤ 8) (hn : a 3 4 = nI nl) (hnb : nl ≤ 200) (hl : l < nl) (hmm : m < nm) (hs : ¬ a 20 (200 * m + l) = nI 1) : rm_V mX8_deliver (d + 2) 0 [.ref 3, .int (nI l), .int (nI m)] [] a (rm_p (-1 : Int32) (zv_u a 3 24 (nI 3))) := by
  refine rm_aload_n dX8_deliver_0 rfl rfl ?_
  refine rm_iload_n dX8_deliver_1 rfl rfl ?_
  refine rm_callV (As := [.int (nI (l))]) (st := []) dX8_deliver_2 cvX8_142 rfl rfl (by decide) (zv_cat_i [nI (l)]) (Nat.le_of_ble_eq_true rfl) (cM_isLetter d hn (by omega) (nI (l))) (fun v b q => ?_)
  obtain ⟨rfl, rfl⟩ := q
  show rm_V _ _ 5 [.ref 3, .int (nI (l)), .int (nI (m))] [.int (rm_b (rm_lt (nI (l)) nl))] _ _
  refine rm_ifB_eq (tgt := 16) dX8_deliver_5 (by decide) (fun h5 => (absurd h5 (by rw [rm_lt_n (by omega), decide_eq_true hl]; decide))) (fun h5 => ?_)
  refine rm_aload_n dX8_deliver_8 rfl rfl ?_
  refine rm_iload_n dX8_deliver_9 rfl rfl ?_
  refine rm_callV (As := [.int (nI (m))]) (st := []) dX8_deliver_10 cvX8_113 rfl rfl (by decide) (zv_cat_i [nI (m)]) (Nat.le_of_ble_eq_true rfl) (cM_isMember d hm (by omega) (nI (m))) (fun v b q => ?_)
  obtain ⟨rfl, rfl⟩ := q
  show rm_V _ _ 13 [.ref 3, .int (nI (l)), .int (nI (m))] [.int (rm_b (rm_lt (nI (m)) nm))] _ _
  refine rm_ifB_ne (tgt := 22) dX8_deliver_13 (by decide) (fun h13 => ?_) (fun h13 => (absurd h13 (by rw [rm_lt_n (by omega), decide_eq_true hmm]; decide)))
  refine rm_aload_n dX8_deliver_22 rfl rfl ?_
  refine rm_getr 16 (t := 20) dX8_deliver_23 flX8_46 (by decide) rfl rfl ?_
  refine rm_sipush (v := nI (200)) dX8_deliver_26 (by decide) ?_
  refine rm_iload_n dX8_deliver_29 rfl rfl ?_
  refine rm_imul dX8_deliver_30 ?_
  refine rm_top (pk_mul (200) (m)) ?_
  refine rm_iload_n dX8_deliver_31 rfl rfl ?_
  refine rm_iadd dX8_deliver_32 ?_
  refine rm_top (nI_add (200 * m) (l)) ?_
  refine rm_iald (f := 16) (j := 200 * m + l) (x := (a 20 (200 * m + l))) dX8_deliver_33 rfl (by decide) rfl rfl (rfl) (show 200 * m + l < 1600 from by omega) (rfl) ?_
  refine rm_iconst (v := nI (1)) dX8_deliver_34 (by decide) ?_
  refine rm_icmp_eq (tgt := 44) dX8_deliver_35 (by decide) (fun h35 => (absurd h35 hs)) (fun h35 => ?_)
  refine rm_aload_n dX8_deliver_38 rfl rfl ?_
  refine rm_iconst (v := nI (3)) dX8_deliver_39 (by decide) ?_
  refine rm_callV (As := [.int (nI (3))]) (st := []) dX8_deliver_40 cvX8_103 rfl rfl (by decide) (zv_cat_i [nI (3)]) (Nat.le_of_ble_eq_true rfl) (cM_refused (d + 1) (a) (nI (3))) (fun v b q => ?_)
  obtain ⟨rfl, rfl⟩ := q
  show rm_V _ _ 43 [.ref 3, .int (nI (l)), .int (nI (m))] [.int ((-1 : Int32))] _ _
  refine rm_iret dX8_deliver_43 rfl rfl ?_
  exact ⟨rfl, rfl⟩
theorem cM_deliver_0 (d : Nat) {a : zv_I} {nm nl l m : Nat} (hm : a 3 0 = nI nm) (hmb : nm ≤ 8) (hn : a 3 4 = nI nl) (hnb : nl ≤ 200) (hl : l < nl) (hmm : m < nm) (hs : a 20 (200 * m + l) = nI 1) {P : zv_I → Prop} (hP : rm_stay P m) {f : Nat} (hf : f < 2 ^ 31) (hPa : P (rm_hld a m l)) (ht : rm_gvt m f (rm_hld a m l) = true) : rm_V mX8_deliver (d + 7) 0 [.ref 3, .int (nI l), .int (nI m)] [] a (rm_p (nI (rm_gvs m f (rm_hld a m l) 0).2) (zv_u (rm_gvs m f (rm_hld a m l) 0).1 3 24 (nI 0))) := by
  refine rm_aload_n dX8_deliver_0 rfl rfl ?_
  refine rm_iload_n dX8_deliver_1 rfl rfl ?_
  refine rm_callV (As := [.int (nI (l))]) (st := []) dX8_deliver_2 cvX8_142 rfl rfl (by decide) (zv_cat_i [nI (l)]) (Nat.le_of_ble_eq_true rfl) (cM_isLetter (d + 5) hn (by omega) (nI (l))) (fun v b q => ?_)
  obtain ⟨rfl, rfl⟩ := q
  show rm_V _ _ 5 [.ref 3, .int (nI (l)), .int (nI (m))] [.int (rm_b (rm_lt (nI (l)) nl))] _ _
  refine rm_ifB_eq (tgt := 16) dX8_deliver_5 (by decide) (fun h5 => (absurd h5 (by rw [rm_lt_n (by omega), decide_eq_true hl]; decide))) (fun h5 => ?_)
  refine rm_aload_n dX8_deliver_8 rfl rfl ?_
  refine rm_iload_n dX8_deliver_9 rfl rfl ?_
  refine rm_callV (As := [.int (nI (m))]) (st := []) dX8_deliver_10 cvX8_113 rfl rfl (by decide) (zv_cat_i [nI (m)]) (Nat.le_of_ble_eq_true rfl) (cM_isMember (d + 5) hm (by omega) (nI (m))) (fun v b q => ?_)
  obtain ⟨rfl, rfl⟩ := q
  show rm_V _ _ 13 [.ref 3, .int (nI (l)), .int (nI (m))] [.int (rm_b (rm_lt (nI (m)) nm))] _ _
  refine rm_ifB_ne (tgt := 22) dX8_deliver_13 (by decide) (fun h13 => ?_) (fun h13 => (absurd h13 (by rw [rm_lt_n (by omega), decide_eq_true hmm]; decide)))
  refine rm_aload_n dX8_deliver_22 rfl rfl ?_
  refine rm_getr 16 (t := 20) dX8_deliver_23 flX8_46 (by decide) rfl rfl ?_
  refine rm_sipush (v := nI (200)) dX8_deliver_26 (by decide) ?_
  refine rm_iload_n dX8_deliver_29 rfl rfl ?_
  refine rm_imul dX8_deliver_30 ?_
  refine rm_top (pk_mul (200) (m)) ?_
  refine rm_iload_n dX8_deliver_31 rfl rfl ?_
  refine rm_iadd dX8_deliver_32 ?_
  refine rm_top (nI_add (200 * m) (l)) ?_
  refine rm_iald (f := 16) (j := 200 * m + l) (x := (a 20 (200 * m + l))) dX8_deliver_33 rfl (by decide) rfl rfl (rfl) (show 200 * m + l < 1600 from by omega) (rfl) ?_
  refine rm_iconst (v := nI (1)) dX8_deliver_34 (by decide) ?_
  refine rm_icmp_eq (tgt := 44) dX8_deliver_35 (by decide) (fun h35 => ?_) (fun h35 => (absurd hs h35))
  refine rm_aload_n dX8_deliver_44 rfl rfl ?_
  refine rm_iload_n dX8_deliver_45 rfl rfl ?_
  refine rm_iload_n dX8_deliver_46 rfl rfl ?_
  refine rm_callV (As := [.int (nI (m)), .int (nI (l))]) (st := []) dX8_deliver_47 cvX8_109 rfl rfl (by decide) (zv_cat_i [nI (m), nI (l)]) (Nat.le_of_ble_eq_true rfl) (cM_holds (d + 6) a (m := m) (l := l) (by omega) (by omega)) (fun v b q => ?_)
  obtain ⟨rfl, rfl⟩ := q
  show rm_V _ _ 50 [.ref 3, .int (nI (l)), .int (nI (m))] [] _ _
  refine rm_aload_n dX8_deliver_50 rfl rfl ?_
  refine rm_aload_n dX8_deliver_51 rfl rfl ?_
  refine rm_iload_n dX8_deliver_52 rfl rfl ?_
  refine rm_callV (As := [.int (nI (m))]) (st := [.ref 3]) dX8_deliver_53 cvX8_135 rfl rfl (by decide) (zv_cat_i [nI (m)]) (Nat.le_of_ble_eq_true rfl) (cM_gives d (r := m) (by omega) hP (f := f) hPa ht hf) (fun v b q => ?_)
  obtain ⟨rfl, rfl⟩ := q
  show rm_V _ _ 56 [.ref 3, .int (nI (l)), .int (nI (m))] [.int (nI (rm_gvs m f (rm_hld a m l) 0).2), .ref 3] _ _
  refine rm_callV (As := [.int (nI (rm_gvs m f (rm_hld a m l) 0).2)]) (st := []) dX8_deliver_56 cvX8_106 rfl rfl (by decide) (zv_cat_i [nI (rm_gvs m f (rm_hld a m l) 0).2]) (Nat.le_of_ble_eq_true rfl) (cM_done (d + 6) (((rm_gvs m f (rm_hld a m l) 0).1)) (nI (rm_gvs m f (rm_hld a m l) 0).2)) (fun v b q => ?_)
  obtain ⟨rfl, rfl⟩ := q
  show rm_V _ _ 59 [.ref 3, .int (nI (l)), .int (nI (m))] [.int (nI (rm_gvs m f (rm_hld a m l) 0).2)] _ _
  refine rm_iret dX8_deliver_59 rfl rfl ?_
  exact ⟨rfl, rfl⟩
def rm_lnF (p : Nat → Bool) (wy : Nat) : Nat → Nat → Option Nat → Option Nat
  | 0, _, fo => fo
  | n + 1, k, fo => rm_lnF p wy n (k + 1) (if (p k && (fo.isNone || decide (wy = 1))) = true then some k else fo)
def rm_lnp (a : zv_I) (nm c k : Nat) : Bool := decide (a 11 k = nI c) && (rm_lof a nm k).isSome
def rm_lnd (a : zv_I) (nm nl c wy : Nat) : Option Nat := rm_lnF (rm_lnp a nm c) wy nl 0 none
theorem rm_lof_lt {a : zv_I} {nm k : Nat} (hmb : nm ≤ 8) : ∀ j, rm_lof a nm k = some j → j < 2 ^ 31 := fun j h => by have := (rm_fst_some h).2.1; omega
theorem rm_some_ne {o : Option Nat} (hb : ∀ j, o = some j → j < 2 ^ 31) (h : ¬ rm_o o = -1) : o.isSome = true := by cases o; exact absurd rfl h; rfl
theorem cM_lined_l (d : Nat) {a : zv_I} {nm nl c wy : Nat} (hm : a 3 0 = nI nm) (hmb : nm ≤ 8) (hn : a 3 4 = nI nl) (hnb : nl ≤ 200) (hw : wy < 2) : ∀ n k fo, k + n = nl → (∀ j, fo = some j → j < 2 ^ 31) → ∀ rest, rm_V mX8_lined (d + 1) 5 ([.ref 3, .int (nI c), .int (nI wy), .int (rm_o fo), .int (nI k)] ++ rest) [] a (rm_p (rm_o (rm_lnF (rm_lnp a nm c) wy n k fo)) a) := by
  intro n
  induction n with
  | zero =>
    intro k fo hk hfo rest
    refine rm_less ⟨rest, rfl⟩ ?_
    refine rm_iload dX8_lined_5 rfl ?_
    refine rm_aload_n dX8_lined_7 rfl rfl ?_
    refine rm_geti 4 (x := nI (nl)) dX8_lined_8 flX8_89 rfl (hn) ?_
    refine rm_icN_ge (tgt := 70) dX8_lined_11 (by decide) (by omega) (by omega) (fun h11 => ?_) (fun h11 => (absurd h11 (by omega)))
    refine rm_iload_n dX8_lined_70 rfl rfl ?_
    refine rm_iret dX8_lined_71 rfl rfl ?_
    exact ⟨rfl, rfl⟩
  | succ n ih =>
    intro k fo hk hfo rest
    refine rm_less ⟨rest, rfl⟩ ?_
    refine rm_iload dX8_lined_5 rfl ?_
    refine rm_aload_n dX8_lined_7 rfl rfl ?_
    refine rm_geti 4 (x := nI (nl)) dX8_lined_8 flX8_89 rfl (hn) ?_
    refine rm_icN_ge (tgt := 70) dX8_lined_11 (by decide) (by omega) (by omega) (fun h11 => (absurd h11 (by omega))) (fun h11 => ?_)
    refine rm_aload_n dX8_lined_14 rfl rfl ?_
    refine rm_getr 7 (t := 11) dX8_lined_15 flX8_19 (by decide) rfl rfl ?_
    refine rm_iload dX8_lined_18 rfl ?_
    refine rm_iald (f := 7) (j := k) (x := (a 11 (k))) dX8_lined_20 rfl (by decide) rfl rfl (rfl) (show k < 200 from by omega) (rfl) ?_
    refine rm_iload_n dX8_lined_21 rfl rfl ?_
    refine rm_icmp_ne (tgt := 39) dX8_lined_22 (by decide) (fun h22 => ?_) (fun h22 => ?_)
    · refine rm_iconst (v := nI (0)) dX8_lined_39 (by decide) ?_
      refine rm_istore (lv' := [.ref 3, .int (nI (c)), .int (nI (wy)), .int ((rm_o fo)), .int (nI (k)), .int (nI (0))]) dX8_lined_40 (by decide) rfl ?_
      refine rm_iload dX8_lined_42 rfl ?_
      refine rm_if_eq (tgt := 62) dX8_lined_44 (by decide) (fun h44 => ?_) (fun h44 => (absurd h44 (by decide)))
      refine rm_iload_n dX8_lined_62 rfl rfl ?_
      refine rm_istore_n (lv' := [.ref 3, .int (nI (c)), .int (nI (wy)), .int ((rm_o fo)), .int (nI (k)), .int (nI (0))]) dX8_lined_63 rfl (by decide) rfl ?_
      refine rm_iinc (v := nI (k + 1)) (lv' := [.ref 3, .int (nI (c)), .int (nI (wy)), .int ((rm_o fo)), .int (nI (k + 1)), .int (nI (0))]) dX8_lined_64 rfl (by rw [← nI_1]; rfl) (by decide) rfl ?_
      refine rm_goto (tgt := 5) dX8_lined_67 (by decide) ?_
      have e1 : (rm_lnp a nm c k && (fo.isNone || decide (wy = 1))) = false := by unfold rm_lnp; rw [decide_eq_false h22]; rfl
      have h9 := ih (k + 1) (fo) (by omega) hfo [.int (nI (0))]
      rw [show rm_lnF (rm_lnp a nm c) wy (n + 1) k fo = rm_lnF (rm_lnp a nm c) wy n (k + 1) (fo) from by show rm_lnF _ _ _ _ (if _ then _ else _) = _; rw [e1]; rfl]
      exact h9
    · refine rm_aload_n dX8_lined_25 rfl rfl ?_
      refine rm_iload dX8_lined_26 rfl ?_
      refine rm_callV (As := [.int (nI (k))]) (st := []) dX8_lined_28 cvX8_170 rfl rfl (by decide) (zv_cat_i [nI (k)]) (Nat.le_of_ble_eq_true rfl) (cM_lineOf d hm hmb (l := k) (by omega)) (fun v b q => ?_)
      obtain ⟨rfl, rfl⟩ := q
      show rm_V _ _ 31 [.ref 3, .int (nI (c)), .int (nI (wy)), .int ((rm_o fo)), .int (nI (k))] [.int (rm_o (rm_lof a nm k))] _ _
      refine rm_iconst (v := (-1 : Int32)) dX8_lined_31 (by decide) ?_
      refine rm_icmp_eq (tgt := 39) dX8_lined_32 (by decide) (fun h32 => ?_) (fun h32 => ?_)
      · refine rm_iconst (v := nI (0)) dX8_lined_39 (by decide) ?_
        refine rm_istore (lv' := [.ref 3, .int (nI (c)), .int (nI (wy)), .int ((rm_o fo)), .int (nI (k)), .int (nI (0))]) dX8_lined_40 (by decide) rfl ?_
        refine rm_iload dX8_lined_42 rfl ?_
        refine rm_if_eq (tgt := 62) dX8_lined_44 (by decide) (fun h44 => ?_) (fun h44 => (absurd h44 (by decide)))
        refine rm_iload_n dX8_lined_62 rfl rfl ?_
        refine rm_istore_n (lv' := [.ref 3, .int (nI (c)), .int (nI (wy)), .int ((rm_o fo)), .int (nI (k)), .int (nI (0))]) dX8_lined_63 rfl (by decide) rfl ?_
        refine rm_iinc (v := nI (k + 1)) (lv' := [.ref 3, .int (nI (c)), .int (nI (wy)), .int ((rm_o fo)), .int (nI (k + 1)), .int (nI (0))]) dX8_lined_64 rfl (by rw [← nI_1]; rfl) (by decide) rfl ?_
        refine rm_goto (tgt := 5) dX8_lined_67 (by decide) ?_
        have e1 : (rm_lnp a nm c k && (fo.isNone || decide (wy = 1))) = false := by unfold rm_lnp; rw [(rm_o_neg _ (rm_lof_lt hmb)).mp h32, decide_eq_true h22]; rfl
        have h9 := ih (k + 1) (fo) (by omega) hfo [.int (nI (0))]
        rw [show rm_lnF (rm_lnp a nm c) wy (n + 1) k fo = rm_lnF (rm_lnp a nm c) wy n (k + 1) (fo) from by show rm_lnF _ _ _ _ (if _ then _ else _) = _; rw [e1]; rfl]
        exact h9
      · refine rm_iconst (v := nI (1)) dX8_lined_35 (by decide) ?_
        refine rm_goto (tgt := 40) dX8_lined_36 (by decide) ?_
        refine rm_istore (lv' := [.ref 3, .int (nI (c)), .int (nI (wy)), .int ((rm_o fo)), .int (nI (k)), .int (nI (1))]) dX8_lined_40 (by decide) rfl ?_
        refine rm_iload dX8_lined_42 rfl ?_
        refine rm_if_eq (tgt := 62) dX8_lined_44 (by decide) (fun h44 => (absurd h44 (by decide))) (fun h44 => ?_)
        refine rm_iload_n dX8_lined_47 rfl rfl ?_
        refine rm_iconst (v := (-1 : Int32)) dX8_lined_48 (by decide) ?_
        refine rm_icmp_eq (tgt := 57) dX8_lined_49 (by decide) (fun h49 => ?_) (fun h49 => ?_)
        · refine rm_iload dX8_lined_57 rfl ?_
          refine rm_goto (tgt := 63) dX8_lined_59 (by decide) ?_
          refine rm_istore_n (lv' := [.ref 3, .int (nI (c)), .int (nI (wy)), .int (nI (k)), .int (nI (k)), .int (nI (1))]) dX8_lined_63 rfl (by decide) rfl ?_
          refine rm_iinc (v := nI (k + 1)) (lv' := [.ref 3, .int (nI (c)), .int (nI (wy)), .int (nI (k)), .int (nI (k + 1)), .int (nI (1))]) dX8_lined_64 rfl (by rw [← nI_1]; rfl) (by decide) rfl ?_
          refine rm_goto (tgt := 5) dX8_lined_67 (by decide) ?_
          have e1 : (rm_lnp a nm c k && (fo.isNone || decide (wy = 1))) = true := by unfold rm_lnp; rw [rm_some_ne (rm_lof_lt hmb) h32, decide_eq_true h22, (rm_o_neg _ hfo).mp h49]; rfl
          have h9 := ih (k + 1) (some k) (by omega) (fun j hj => by cases hj; omega) [.int (nI (1))]
          rw [show rm_lnF (rm_lnp a nm c) wy (n + 1) k fo = rm_lnF (rm_lnp a nm c) wy n (k + 1) (some k) from by show rm_lnF _ _ _ _ (if _ then _ else _) = _; rw [e1]; rfl]
          exact h9
        · refine rm_iload_n dX8_lined_52 rfl rfl ?_
          refine rm_iconst (v := nI (1)) dX8_lined_53 (by decide) ?_
          refine rm_icN_ne (tgt := 62) dX8_lined_54 (by decide) (by omega) (by omega) (fun h54 => ?_) (fun h54 => ?_)
          · refine rm_iload_n dX8_lined_62 rfl rfl ?_
            refine rm_istore_n (lv' := [.ref 3, .int (nI (c)), .int (nI (wy)), .int ((rm_o fo)), .int (nI (k)), .int (nI (1))]) dX8_lined_63 rfl (by decide) rfl ?_
            refine rm_iinc (v := nI (k + 1)) (lv' := [.ref 3, .int (nI (c)), .int (nI (wy)), .int ((rm_o fo)), .int (nI (k + 1)), .int (nI (1))]) dX8_lined_64 rfl (by rw [← nI_1]; rfl) (by decide) rfl ?_
            refine rm_goto (tgt := 5) dX8_lined_67 (by decide) ?_
            have e1 : (rm_lnp a nm c k && (fo.isNone || decide (wy = 1))) = false := by unfold rm_lnp; rw [rm_some_ne (rm_lof_lt hmb) h32, decide_eq_true h22, decide_eq_false h54]; cases fo with | none => exact absurd rfl h49 | some j => rfl
            have h9 := ih (k + 1) (fo) (by omega) hfo [.int (nI (1))]
            rw [show rm_lnF (rm_lnp a nm c) wy (n + 1) k fo = rm_lnF (rm_lnp a nm c) wy n (k + 1) (fo) from by show rm_lnF _ _ _ _ (if _ then _ else _) = _; rw [e1]; rfl]
            exact h9
          · refine rm_iload dX8_lined_57 rfl ?_
            refine rm_goto (tgt := 63) dX8_lined_59 (by decide) ?_
            refine rm_istore_n (lv' := [.ref 3, .int (nI (c)), .int (nI (wy)), .int (nI (k)), .int (nI (k)), .int (nI (1))]) dX8_lined_63 rfl (by decide) rfl ?_
            refine rm_iinc (v := nI (k + 1)) (lv' := [.ref 3, .int (nI (c)), .int (nI (wy)), .int (nI (k)), .int (nI (k + 1)), .int (nI (1))]) dX8_lined_64 rfl (by rw [← nI_1]; rfl) (by decide) rfl ?_
            refine rm_goto (tgt := 5) dX8_lined_67 (by decide) ?_
            have e1 : (rm_lnp a nm c k && (fo.isNone || decide (wy = 1))) = true := by unfold rm_lnp; rw [rm_some_ne (rm_lof_lt hmb) h32, decide_eq_true h22, decide_eq_true h54]; cases fo <;> rfl
            have h9 := ih (k + 1) (some k) (by omega) (fun j hj => by cases hj; omega) [.int (nI (1))]
            rw [show rm_lnF (rm_lnp a nm c) wy (n + 1) k fo = rm_lnF (rm_lnp a nm c) wy n (k + 1) (some k) from by show rm_lnF _ _ _ _ (if _ then _ else _) = _; rw [e1]; rfl]
            exact h9
theorem cM_lined (d : Nat) {a : zv_I} {nm nl c wy : Nat} (hm : a 3 0 = nI nm) (hmb : nm ≤ 8) (hn : a 3 4 = nI nl) (hnb : nl ≤ 200) (hw : wy < 2) : rm_V mX8_lined (d + 1) 0 [.ref 3, .int (nI c), .int (nI wy)] [] a (rm_p (rm_o (rm_lnd a nm nl c wy)) a) := by
  refine rm_iconst (v := (-1 : Int32)) dX8_lined_0 (by decide) ?_
  refine rm_istore_n (lv' := [.ref 3, .int (nI (c)), .int (nI (wy)), .int ((-1 : Int32))]) dX8_lined_1 rfl (by decide) rfl ?_
  refine rm_iconst (v := nI (0)) dX8_lined_2 (by decide) ?_
  refine rm_istore (lv' := [.ref 3, .int (nI (c)), .int (nI (wy)), .int ((-1 : Int32)), .int (nI (0))]) dX8_lined_3 (by decide) rfl ?_
  exact cM_lined_l d hm hmb hn hnb hw nl 0 none (by omega) (fun j hj => by cases hj) []
def rm_ln (a : zv_I) (c wy : Nat) : Option Nat := rm_lnd a (rm_NM a) (rm_NL a) c wy
def rm_lo (a : zv_I) (l : Nat) : Nat := (rm_lof a (rm_NM a) l).getD 0
def rm_dl1 (F : Nat) (a : zv_I) (l : Nat) : zv_I := (rm_gvs (rm_lo a l) F (rm_hld a (rm_lo a l) l) 0).1
def rm_dls (F c wy : Nat) : Nat → zv_I → Nat → zv_I × Nat
  | 0, a, n => (a, n)
  | f + 1, a, n => match rm_ln a c wy with
    | none => (a, n)
    | some l => rm_dls F c wy f (rm_dl1 F a l) (n + 1)
def rm_dlt (F c wy : Nat) : Nat → zv_I → Bool
  | 0, _ => false
  | f + 1, a => match rm_ln a c wy with
    | none => true
    | some l => rm_dlt F c wy f (rm_dl1 F a l)
def rm_dst (PG : Nat → zv_I → Prop) (P : zv_I → Prop) (F c wy : Nat) : Prop := ∀ a, P a → (a 3 0 = nI (rm_NM a) ∧ rm_NM a ≤ 8 ∧ a 3 4 = nI (rm_NL a) ∧ rm_NL a ≤ 200) ∧ ∀ l, rm_ln a c wy = some l → l < 200 ∧ rm_lof a (rm_NM a) l = some (rm_lo a l) ∧ rm_lo a l < 8 ∧ rm_stay (PG (rm_lo a l)) (rm_lo a l) ∧ PG (rm_lo a l) (rm_hld a (rm_lo a l) l) ∧ rm_gvt (rm_lo a l) F (rm_hld a (rm_lo a l) l) = true ∧ P (rm_dl1 F a l)
theorem cM_deliverAll_l (d : Nat) {F c wy : Nat} (hF : F < 2 ^ 31) (hw : wy < 2) {PG : Nat → zv_I → Prop} {P : zv_I → Prop} (hP : rm_dst PG P F c wy) : ∀ f a n, P a → rm_dlt F c wy f a = true → n + f < 2 ^ 31 → ∀ rest, rm_V mX8_deliverAll (d + 7) 33 ([.ref 3, .int (nI c), .int (nI wy), .int (nI n), .int (rm_o (rm_ln a c wy))] ++ rest) [] a (rm_p (nI (rm_dls F c wy f a n).2) (zv_u (rm_dls F c wy f a n).1 3 24 (nI 0))) := by
  intro f
  induction f with
  | zero => intro a n _ h; cases h
  | succ f ih =>
    intro a n hPa ht hn rest
    refine rm_less ⟨rest, rfl⟩ ?_
    obtain ⟨⟨p1, p2, p3, p4⟩, hs⟩ := hP a hPa
    show rm_V mX8_deliverAll (d + 7) 33 _ [] a (rm_p (nI (match rm_ln a c wy with | none => (a, n) | some l => rm_dls F c wy f (rm_dl1 F a l) (n + 1)).2) (zv_u (match rm_ln a c wy with | none => (a, n) | some l => rm_dls F c wy f (rm_dl1 F a l) (n + 1)).1 3 24 (nI 0)))
    have ht : (match rm_ln a c wy with | none => true | some l => rm_dlt F c wy f (rm_dl1 F a l)) = true := ht
    cases hx : rm_ln a c wy with
    | none =>
      refine rm_iload dX8_deliverAll_33 rfl ?_
      refine rm_iconst (v := (-1 : Int32)) dX8_deliverAll_35 (by decide) ?_
      refine rm_icmp_eq (tgt := 76) dX8_deliverAll_36 (by decide) (fun h36 => ?_) (fun h36 => (absurd rfl h36))
      refine rm_aload_n dX8_deliverAll_76 rfl rfl ?_
      refine rm_iload_n dX8_deliverAll_77 rfl rfl ?_
      refine rm_callV (As := [.int (nI (n))]) (st := []) dX8_deliverAll_78 cvX8_106 rfl rfl (by decide) (zv_cat_i [nI (n)]) (Nat.le_of_ble_eq_true rfl) (cM_done (d + 6) (a) (nI (n))) (fun v b q => ?_)
      obtain ⟨rfl, rfl⟩ := q
      show rm_V _ _ 81 [.ref 3, .int (nI (c)), .int (nI (wy)), .int (nI (n)), .int ((-1 : Int32))] [.int (nI (n))] _ _
      refine rm_iret dX8_deliverAll_81 rfl rfl ?_
      exact ⟨rfl, rfl⟩
    | some l =>
      rw [hx] at ht
      obtain ⟨q1, q2, q3, q4, q5, q6, q7⟩ := hs l hx
      obtain ⟨⟨r1, r2, r3, r4⟩, -⟩ := hP _ q7
      refine rm_iload dX8_deliverAll_33 rfl ?_
      refine rm_iconst (v := (-1 : Int32)) dX8_deliverAll_35 (by decide) ?_
      refine rm_icmp_eq (tgt := 76) dX8_deliverAll_36 (by decide) (fun h36 => (absurd h36 (rm_ni1 (by omega)))) (fun h36 => ?_)
      refine rm_aload_n dX8_deliverAll_39 rfl rfl ?_
      refine rm_iload dX8_deliverAll_40 rfl ?_
      refine rm_callV (As := [.int (nI (l))]) (st := []) dX8_deliverAll_42 cvX8_170 rfl rfl (by decide) (zv_cat_i [nI (l)]) (Nat.le_of_ble_eq_true rfl) (cM_lineOf (d + 6) p1 p2 (l := l) q1) (fun v b q => ?_)
      obtain ⟨rfl, rfl⟩ := q
      rw [q2]
      show rm_V _ _ 45 [.ref 3, .int (nI (c)), .int (nI (wy)), .int (nI (n)), .int (nI (l))] [.int (nI (rm_lo a l))] _ _
      refine rm_istore (lv' := [.ref 3, .int (nI (c)), .int (nI (wy)), .int (nI (n)), .int (nI (l)), .int (nI (rm_lo a l))]) dX8_deliverAll_45 (by decide) rfl ?_
      refine rm_aload_n dX8_deliverAll_47 rfl rfl ?_
      refine rm_iload dX8_deliverAll_48 rfl ?_
      refine rm_iload dX8_deliverAll_50 rfl ?_
      refine rm_callV (As := [.int (nI (rm_lo a l)), .int (nI (l))]) (st := []) dX8_deliverAll_52 cvX8_109 rfl rfl (by decide) (zv_cat_i [nI (rm_lo a l), nI (l)]) (Nat.le_of_ble_eq_true rfl) (cM_holds (d + 6) a (m := rm_lo a l) (l := l) q3 q1) (fun v b q => ?_)
      obtain ⟨rfl, rfl⟩ := q
      show rm_V _ _ 55 [.ref 3, .int (nI (c)), .int (nI (wy)), .int (nI (n)), .int (nI (l)), .int (nI (rm_lo a l))] [] _ _
      refine rm_aload_n dX8_deliverAll_55 rfl rfl ?_
      refine rm_iload dX8_deliverAll_56 rfl ?_
      refine rm_callV (As := [.int (nI (rm_lo a l))]) (st := []) dX8_deliverAll_58 cvX8_135 rfl rfl (by decide) (zv_cat_i [nI (rm_lo a l)]) (Nat.le_of_ble_eq_true rfl) (cM_gives d (r := rm_lo a l) q3 q4 (f := F) q5 q6 hF) (fun v b q => ?_)
      obtain ⟨rfl, rfl⟩ := q
      show rm_V _ _ 61 [.ref 3, .int (nI (c)), .int (nI (wy)), .int (nI (n)), .int (nI (l)), .int (nI (rm_lo a l))] [.int (nI (rm_gvs (rm_lo a l) F (rm_hld a (rm_lo a l) l) 0).2)] _ _
      refine rm_pop dX8_deliverAll_61 rfl ?_
      refine rm_iinc (v := nI (n + 1)) (lv' := [.ref 3, .int (nI (c)), .int (nI (wy)), .int (nI (n + 1)), .int (nI (l)), .int (nI (rm_lo a l))]) dX8_deliverAll_62 rfl (by rw [← nI_1]; rfl) (by decide) rfl ?_
      refine rm_aload_n dX8_deliverAll_65 rfl rfl ?_
      refine rm_iload_n dX8_deliverAll_66 rfl rfl ?_
      refine rm_iload_n dX8_deliverAll_67 rfl rfl ?_
      refine rm_callV (As := [.int (nI (c)), .int (nI (wy))]) (st := []) dX8_deliverAll_68 cvX8_173 rfl rfl (by decide) (zv_cat_i [nI (c), nI (wy)]) (Nat.le_of_ble_eq_true rfl) (cM_lined (d + 5) (a := rm_dl1 F a l) (nm := rm_NM (rm_dl1 F a l)) (nl := rm_NL (rm_dl1 F a l)) (c := c) r1 r2 r3 r4 hw) (fun v b q => ?_)
      obtain ⟨rfl, rfl⟩ := q
      show rm_V _ _ 71 [.ref 3, .int (nI (c)), .int (nI (wy)), .int (nI (n + 1)), .int (nI (l)), .int (nI (rm_lo a l))] [.int (rm_o (rm_ln (rm_dl1 F a l) c wy))] _ _
      refine rm_istore (lv' := [.ref 3, .int (nI (c)), .int (nI (wy)), .int (nI (n + 1)), .int (rm_o (rm_ln (rm_dl1 F a l) c wy)), .int (nI (rm_lo a l))]) dX8_deliverAll_71 (by decide) rfl ?_
      refine rm_goto (tgt := 33) dX8_deliverAll_73 (by decide) ?_
      exact ih (rm_dl1 F a l) (n + 1) q7 ht (by omega) [.int (nI (rm_lo a l))]
theorem rm_in01 (x : Int32) (n : Nat) (hn : n < 2 ^ 31 - 1) : decide (nI 0 ≤ x ∧ x ≤ nI n) = rm_lt x (n + 1) := by
  rw [← rm_in0 x (show n + 1 < 2 ^ 31 by omega), show nI 1 = (1 : Int32) from rfl, nI_pred]
theorem cM_deliverAll_1 (d : Nat) {a : zv_I} {nc : Nat} (hc : a 3 1 = nI nc) (hcb : nc ≤ 6) {c y : Int32} (hbad : (rm_lt c nc && rm_lt y 2) = false) : rm_V mX8_deliverAll (d + 2) 0 [.ref 3, .int c, .int y] [] a (rm_p (-1 : Int32) (zv_u a 3 24 (nI 1))) := by
  refine rm_aload_n dX8_deliverAll_0 rfl rfl ?_
  refine rm_iload_n dX8_deliverAll_1 rfl rfl ?_
  refine rm_callV (As := [.int (c)]) (st := []) dX8_deliverAll_2 cvX8_117 rfl rfl (by decide) (zv_cat_i [c]) (Nat.le_of_ble_eq_true rfl) (cM_isCircle d hc (by omega) (c)) (fun v b q => ?_)
  obtain ⟨rfl, rfl⟩ := q
  show rm_V _ _ 5 [.ref 3, .int (c), .int (y)] [.int (rm_b (rm_lt (c) nc))] _ _
  refine rm_ifB_eq (tgt := 17) dX8_deliverAll_5 (by decide) (fun h5 => ?_) (fun h5 => ?_)
  · refine rm_aload_n dX8_deliverAll_17 rfl rfl ?_
    refine rm_iconst (v := nI (1)) dX8_deliverAll_18 (by decide) ?_
    refine rm_callV (As := [.int (nI (1))]) (st := []) dX8_deliverAll_19 cvX8_103 rfl rfl (by decide) (zv_cat_i [nI (1)]) (Nat.le_of_ble_eq_true rfl) (cM_refused (d + 1) (a) (nI (1))) (fun v b q => ?_)
    obtain ⟨rfl, rfl⟩ := q
    show rm_V _ _ 22 [.ref 3, .int (c), .int (y)] [.int ((-1 : Int32))] _ _
    refine rm_iret dX8_deliverAll_22 rfl rfl ?_
    exact ⟨rfl, rfl⟩
  · refine rm_iload_n dX8_deliverAll_8 rfl rfl ?_
    refine rm_iconst (v := nI (0)) dX8_deliverAll_9 (by decide) ?_
    refine rm_iconst (v := nI (1)) dX8_deliverAll_10 (by decide) ?_
    refine rm_callS (As := [.int (y), .int (nI (0)), .int (nI (1))]) (st := []) dX8_deliverAll_11 csX8_82 rfl (by decide) (zv_cat_i [y, nI (0), nI (1)]) (Nat.le_of_ble_eq_true rfl) (cM_in (d + 1) (a) (y) (nI 0) (nI 1)) (fun v b q => ?_)
    obtain ⟨rfl, rfl⟩ := q
    rw [rm_in01 _ 1 (by decide)]
    show rm_V _ _ 14 [.ref 3, .int (c), .int (y)] [.int (rm_b (rm_lt (y) 2))] _ _
    refine rm_ifB_ne (tgt := 23) dX8_deliverAll_14 (by decide) (fun h14 => ?_) (fun h14 => ?_)
    · rw [h5, h14] at hbad
      cases hbad
    · refine rm_aload_n dX8_deliverAll_17 rfl rfl ?_
      refine rm_iconst (v := nI (1)) dX8_deliverAll_18 (by decide) ?_
      refine rm_callV (As := [.int (nI (1))]) (st := []) dX8_deliverAll_19 cvX8_103 rfl rfl (by decide) (zv_cat_i [nI (1)]) (Nat.le_of_ble_eq_true rfl) (cM_refused (d + 1) (a) (nI (1))) (fun v b q => ?_)
      obtain ⟨rfl, rfl⟩ := q
      show rm_V _ _ 22 [.ref 3, .int (c), .int (y)] [.int ((-1 : Int32))] _ _
      refine rm_iret dX8_deliverAll_22 rfl rfl ?_
      exact ⟨rfl, rfl⟩
theorem cM_deliverAll_0 (d : Nat) {a : zv_I} {nc c wy F f : Nat} (hc : a 3 1 = nI nc) (hcb : nc ≤ 6) (hcc : c < nc) (hw : wy < 2) (hF : F < 2 ^ 31) (hf : f < 2 ^ 31) {PG : Nat → zv_I → Prop} {P : zv_I → Prop} (hP : rm_dst PG P F c wy) (hPa : P a) (ht : rm_dlt F c wy f a = true) : rm_V mX8_deliverAll (d + 7) 0 [.ref 3, .int (nI c), .int (nI wy)] [] a (rm_p (nI (rm_dls F c wy f a 0).2) (zv_u (rm_dls F c wy f a 0).1 3 24 (nI 0))) := by
  obtain ⟨⟨r1, r2, r3, r4⟩, -⟩ := hP a hPa
  refine rm_aload_n dX8_deliverAll_0 rfl rfl ?_
  refine rm_iload_n dX8_deliverAll_1 rfl rfl ?_
  refine rm_callV (As := [.int (nI (c))]) (st := []) dX8_deliverAll_2 cvX8_117 rfl rfl (by decide) (zv_cat_i [nI (c)]) (Nat.le_of_ble_eq_true rfl) (cM_isCircle (d + 5) hc (by omega) (nI (c))) (fun v b q => ?_)
  obtain ⟨rfl, rfl⟩ := q
  show rm_V _ _ 5 [.ref 3, .int (nI (c)), .int (nI (wy))] [.int (rm_b (rm_lt (nI (c)) nc))] _ _
  refine rm_ifB_eq (tgt := 17) dX8_deliverAll_5 (by decide) (fun h5 => (absurd h5 (by rw [rm_lt_n (by omega), decide_eq_true hcc]; decide))) (fun h5 => ?_)
  refine rm_iload_n dX8_deliverAll_8 rfl rfl ?_
  refine rm_iconst (v := nI (0)) dX8_deliverAll_9 (by decide) ?_
  refine rm_iconst (v := nI (1)) dX8_deliverAll_10 (by decide) ?_
  refine rm_callS (As := [.int (nI (wy)), .int (nI (0)), .int (nI (1))]) (st := []) dX8_deliverAll_11 csX8_82 rfl (by decide) (zv_cat_i [nI (wy), nI (0), nI (1)]) (Nat.le_of_ble_eq_true rfl) (cM_in (d + 6) (a) (nI (wy)) (nI 0) (nI 1)) (fun v b q => ?_)
  obtain ⟨rfl, rfl⟩ := q
  rw [rm_in01 _ 1 (by decide)]
  show rm_V _ _ 14 [.ref 3, .int (nI (c)), .int (nI (wy))] [.int (rm_b (rm_lt (nI (wy)) 2))] _ _
  refine rm_ifB_ne (tgt := 23) dX8_deliverAll_14 (by decide) (fun h14 => ?_) (fun h14 => (absurd h14 (by rw [rm_lt_n (by omega), decide_eq_true hw]; decide)))
  refine rm_iconst (v := nI (0)) dX8_deliverAll_23 (by decide) ?_
  refine rm_istore_n (lv' := [.ref 3, .int (nI (c)), .int (nI (wy)), .int (nI (0))]) dX8_deliverAll_24 rfl (by decide) rfl ?_
  refine rm_aload_n dX8_deliverAll_25 rfl rfl ?_
  refine rm_iload_n dX8_deliverAll_26 rfl rfl ?_
  refine rm_iload_n dX8_deliverAll_27 rfl rfl ?_
  refine rm_callV (As := [.int (nI (c)), .int (nI (wy))]) (st := []) dX8_deliverAll_28 cvX8_173 rfl rfl (by decide) (zv_cat_i [nI (c), nI (wy)]) (Nat.le_of_ble_eq_true rfl) (cM_lined (d + 5) (a := a) (nm := rm_NM a) (nl := rm_NL a) (c := c) r1 r2 r3 r4 hw) (fun v b q => ?_)
  obtain ⟨rfl, rfl⟩ := q
  show rm_V _ _ 31 [.ref 3, .int (nI (c)), .int (nI (wy)), .int (nI (0))] [.int (rm_o (rm_ln a c wy))] _ _
  refine rm_istore (lv' := [.ref 3, .int (nI (c)), .int (nI (wy)), .int (nI (0)), .int (rm_o (rm_ln a c wy))]) dX8_deliverAll_31 (by decide) rfl ?_
  exact cM_deliverAll_l d hF hw hP f a 0 hPa ht (by omega) []
end
section
def rm_sm (x : Int32) : Nat → Int32
  | 0 => nI 0
  | n + 1 => rm_sm x n + ((x >>> ((nI n) &&& 31)) &&& (nI 1))
def rm_cib (x : Int32) (nm : Nat) : Bool := decide (rm_sm x nm < nI 2 ∨ x < 0 ∨ ¬ x >>> ((nI nm) &&& 31) = 0)
def q_cirR (nm nc : Nat) (x : Int32) : Int32 := if rm_cib x nm = true then -1 else if nc = 6 then -1 else nI nc
def q_cirA (a : zv_I) (nm nc : Nat) (x : Int32) : zv_I := if rm_cib x nm = true then zv_u a 3 24 (nI 1) else if nc = 6 then zv_u a 3 24 (nI 2) else zv_u (zv_u (zv_u a 6 nc x) 3 1 (nI (nc + 1))) 3 24 (nI 0)
theorem cM_circle_l (d : Nat) {a : zv_I} {nm : Nat} (hm : a 3 0 = nI nm) (hmb : nm ≤ 8) {x : Int32} {Q : Option Value → zv_I → Prop} (hk : ∀ rest, rm_V mX8_circle d 26 ([.ref 3, .int x, .int (rm_sm x nm)] ++ rest) [] a Q) : ∀ n k, k + n = nm → rm_V mX8_circle d 4 [.ref 3, .int x, .int (rm_sm x k), .int (nI k)] [] a Q := by
  intro n
  induction n with
  | zero =>
    intro k hk2
    have hk3 : k = nm := by omega
    subst hk3
    refine rm_iload_n dX8_circle_4 rfl rfl ?_
    refine rm_aload_n dX8_circle_5 rfl rfl ?_
    refine rm_geti 0 (x := nI (k)) dX8_circle_6 flX8_78 rfl (hm) ?_
    refine rm_icN_ge (tgt := 26) dX8_circle_9 (by decide) (by omega) (by omega) (fun h9 => ?_) (fun h9 => (absurd h9 (by omega)))
    exact hk [.int (nI k)]
  | succ n ih =>
    intro k hk2
    refine rm_iload_n dX8_circle_4 rfl rfl ?_
    refine rm_aload_n dX8_circle_5 rfl rfl ?_
    refine rm_geti 0 (x := nI (nm)) dX8_circle_6 flX8_78 rfl (hm) ?_
    refine rm_icN_ge (tgt := 26) dX8_circle_9 (by decide) (by omega) (by omega) (fun h9 => (absurd h9 (by omega))) (fun h9 => ?_)
    refine rm_iload_n dX8_circle_12 rfl rfl ?_
    refine rm_iload_n dX8_circle_13 rfl rfl ?_
    refine rm_iload_n dX8_circle_14 rfl rfl ?_
    refine rm_ishr dX8_circle_15 ?_
    refine rm_iconst (v := nI (1)) dX8_circle_16 (by decide) ?_
    refine rm_iand dX8_circle_17 ?_
    refine rm_iadd dX8_circle_18 ?_
    refine rm_istore_n (lv' := [.ref 3, .int (x), .int ((((rm_sm x k)) + (((((x) >>> ((nI (k)) &&& 31))) &&& (nI (1)))))), .int (nI (k))]) dX8_circle_19 rfl (by decide) rfl ?_
    refine rm_iinc (v := nI (k + 1)) (lv' := [.ref 3, .int (x), .int ((((rm_sm x k)) + (((((x) >>> ((nI (k)) &&& 31))) &&& (nI (1)))))), .int (nI (k + 1))]) dX8_circle_20 rfl (by rw [← nI_1]; rfl) (by decide) rfl ?_
    refine rm_goto (tgt := 4) dX8_circle_23 (by decide) ?_
    exact ih (k + 1) (by omega)
theorem cM_circle (d : Nat) {a : zv_I} {nm nc : Nat} (hm : a 3 0 = nI nm) (hmb : nm ≤ 8) (hc : a 3 1 = nI nc) (hcb : nc ≤ 6) (x : Int32) : rm_V mX8_circle (d + 1) 0 [.ref 3, .int x] [] a (rm_p (q_cirR nm nc x) (q_cirA a nm nc x)) := by
  refine rm_iconst (v := nI (0)) dX8_circle_0 (by decide) ?_
  refine rm_istore_n (lv' := [.ref 3, .int (x), .int (nI (0))]) dX8_circle_1 rfl (by decide) rfl ?_
  refine rm_iconst (v := nI (0)) dX8_circle_2 (by decide) ?_
  refine rm_istore_n (lv' := [.ref 3, .int (x), .int (nI (0)), .int (nI (0))]) dX8_circle_3 rfl (by decide) rfl ?_
  refine cM_circle_l (d + 1) hm hmb (fun rest => ?_) nm 0 (by omega)
  refine rm_less ⟨rest, rfl⟩ ?_
  refine rm_iload_n dX8_circle_26 rfl rfl ?_
  refine rm_iconst (v := nI (2)) dX8_circle_27 (by decide) ?_
  refine rm_icmp_lt (tgt := 44) dX8_circle_28 (by decide) (fun h28 => ?_) (fun h28 => ?_)
  · refine rm_aload_n dX8_circle_44 rfl rfl ?_
    refine rm_iconst (v := nI (1)) dX8_circle_45 (by decide) ?_
    refine rm_callV (As := [.int (nI (1))]) (st := []) dX8_circle_46 cvX8_103 rfl rfl (by decide) (zv_cat_i [nI (1)]) (Nat.le_of_ble_eq_true rfl) (cM_refused (d) (a) (nI (1))) (fun v b q => ?_)
    obtain ⟨rfl, rfl⟩ := q
    show rm_V _ _ 49 [.ref 3, .int (x), .int ((rm_sm x nm))] [.int ((-1 : Int32))] _ _
    refine rm_iret dX8_circle_49 rfl rfl ?_
    exact ⟨by unfold q_cirR; rw [if_pos (show rm_cib x nm = true from decide_eq_true (Or.inl h28))], by unfold q_cirA; rw [if_pos (show rm_cib x nm = true from decide_eq_true (Or.inl h28))]⟩
  · refine rm_iload_n dX8_circle_31 rfl rfl ?_
    refine rm_if_lt (tgt := 44) dX8_circle_32 (by decide) (fun h32 => ?_) (fun h32 => ?_)
    · refine rm_aload_n dX8_circle_44 rfl rfl ?_
      refine rm_iconst (v := nI (1)) dX8_circle_45 (by decide) ?_
      refine rm_callV (As := [.int (nI (1))]) (st := []) dX8_circle_46 cvX8_103 rfl rfl (by decide) (zv_cat_i [nI (1)]) (Nat.le_of_ble_eq_true rfl) (cM_refused (d) (a) (nI (1))) (fun v b q => ?_)
      obtain ⟨rfl, rfl⟩ := q
      show rm_V _ _ 49 [.ref 3, .int (x), .int ((rm_sm x nm))] [.int ((-1 : Int32))] _ _
      refine rm_iret dX8_circle_49 rfl rfl ?_
      exact ⟨by unfold q_cirR; rw [if_pos (show rm_cib x nm = true from decide_eq_true (Or.inr (Or.inl h32)))], by unfold q_cirA; rw [if_pos (show rm_cib x nm = true from decide_eq_true (Or.inr (Or.inl h32)))]⟩
    · refine rm_iload_n dX8_circle_35 rfl rfl ?_
      refine rm_aload_n dX8_circle_36 rfl rfl ?_
      refine rm_geti 0 (x := nI (nm)) dX8_circle_37 flX8_78 rfl (hm) ?_
      refine rm_ishr dX8_circle_40 ?_
      refine rm_if_eq (tgt := 50) dX8_circle_41 (by decide) (fun h41 => ?_) (fun h41 => ?_)
      · refine rm_aload_n dX8_circle_50 rfl rfl ?_
        refine rm_geti 1 (x := nI (nc)) dX8_circle_51 flX8_86 rfl (hc) ?_
        refine rm_bipush (v := nI (6)) dX8_circle_54 (by decide) ?_
        refine rm_icN_ne (tgt := 65) dX8_circle_56 (by decide) (by omega) (by omega) (fun h56 => ?_) (fun h56 => ?_)
        · refine rm_aload_n dX8_circle_65 rfl rfl ?_
          refine rm_getr 2 (t := 6) dX8_circle_66 flX8_7 (by decide) rfl rfl ?_
          refine rm_aload_n dX8_circle_69 rfl rfl ?_
          refine rm_geti 1 (x := nI (nc)) dX8_circle_70 flX8_86 rfl (hc) ?_
          refine rm_iload_n dX8_circle_73 rfl rfl ?_
          refine rm_iast (f := 2) (j := nc) dX8_circle_74 rfl (by decide) rfl rfl (rfl) (show nc < 6 from by omega) ?_
          refine rm_aload_n dX8_circle_75 rfl rfl ?_
          refine rm_dup dX8_circle_76 rfl ?_
          refine rm_geti 1 (x := nI (nc)) dX8_circle_77 flX8_86 rfl (show zv_u a 6 nc x 3 1 = nI nc from by rw [zv_u_row a 6 nc _ (by decide)]; exact hc) ?_
          refine rm_iconst (v := nI (1)) dX8_circle_80 (by decide) ?_
          refine rm_iadd dX8_circle_81 ?_
          refine rm_top (nI_add (nc) (1)) ?_
          refine rm_puti 1 dX8_circle_82 fwX8_86 rfl ?_
          refine rm_aload_n dX8_circle_85 rfl rfl ?_
          refine rm_aload_n dX8_circle_86 rfl rfl ?_
          refine rm_geti 1 (x := nI (nc + 1)) dX8_circle_87 flX8_86 rfl (zv_u_s _ _ _ _) ?_
          refine rm_iconst (v := nI (1)) dX8_circle_90 (by decide) ?_
          refine rm_isub dX8_circle_91 ?_
          refine rm_top (y := nI (nc)) (nI_pred nc) ?_
          refine rm_callV (As := [.int (nI (nc))]) (st := []) dX8_circle_92 cvX8_106 rfl rfl (by decide) (zv_cat_i [nI (nc)]) (Nat.le_of_ble_eq_true rfl) (cM_done (d) (zv_u (zv_u a 6 (nc) (x)) 3 1 (nI (nc + 1))) (nI (nc))) (fun v b q => ?_)
          obtain ⟨rfl, rfl⟩ := q
          show rm_V _ _ 95 [.ref 3, .int (x), .int ((rm_sm x nm))] [.int (nI (nc))] _ _
          refine rm_iret dX8_circle_95 rfl rfl ?_
          exact ⟨by unfold q_cirR; rw [if_neg (show ¬ rm_cib x nm = true from fun q => (of_decide_eq_true q).elim h28 (fun q => q.elim h32 (fun q => q h41))), if_neg h56], by unfold q_cirA; rw [if_neg (show ¬ rm_cib x nm = true from fun q => (of_decide_eq_true q).elim h28 (fun q => q.elim h32 (fun q => q h41))), if_neg h56]⟩
        · refine rm_aload_n dX8_circle_59 rfl rfl ?_
          refine rm_iconst (v := nI (2)) dX8_circle_60 (by decide) ?_
          refine rm_callV (As := [.int (nI (2))]) (st := []) dX8_circle_61 cvX8_103 rfl rfl (by decide) (zv_cat_i [nI (2)]) (Nat.le_of_ble_eq_true rfl) (cM_refused (d) (a) (nI (2))) (fun v b q => ?_)
          obtain ⟨rfl, rfl⟩ := q
          show rm_V _ _ 64 [.ref 3, .int (x), .int ((rm_sm x nm))] [.int ((-1 : Int32))] _ _
          refine rm_iret dX8_circle_64 rfl rfl ?_
          exact ⟨by unfold q_cirR; rw [if_neg (show ¬ rm_cib x nm = true from fun q => (of_decide_eq_true q).elim h28 (fun q => q.elim h32 (fun q => q h41))), if_pos h56], by unfold q_cirA; rw [if_neg (show ¬ rm_cib x nm = true from fun q => (of_decide_eq_true q).elim h28 (fun q => q.elim h32 (fun q => q h41))), if_pos h56]⟩
      · refine rm_aload_n dX8_circle_44 rfl rfl ?_
        refine rm_iconst (v := nI (1)) dX8_circle_45 (by decide) ?_
        refine rm_callV (As := [.int (nI (1))]) (st := []) dX8_circle_46 cvX8_103 rfl rfl (by decide) (zv_cat_i [nI (1)]) (Nat.le_of_ble_eq_true rfl) (cM_refused (d) (a) (nI (1))) (fun v b q => ?_)
        obtain ⟨rfl, rfl⟩ := q
        show rm_V _ _ 49 [.ref 3, .int (x), .int ((rm_sm x nm))] [.int ((-1 : Int32))] _ _
        refine rm_iret dX8_circle_49 rfl rfl ?_
        exact ⟨by unfold q_cirR; rw [if_pos (show rm_cib x nm = true from decide_eq_true (Or.inr (Or.inr h41)))], by unfold q_cirA; rw [if_pos (show rm_cib x nm = true from decide_eq_true (Or.inr (Or.inr h41)))]⟩
def rm_cop (a : zv_I) (l k : Nat) : Bool := rm_row a l (k / 8) && rm_in a (k % 8) (k / 8)
def rm_cof (a : zv_I) (nc l : Nat) : Nat := rm_cnt (rm_cop a l) (8 * nc)
theorem cM_countsOf_l (d : Nat) {a : zv_I} {nc l : Nat} (hc : a 3 1 = nI nc) (hcb : nc ≤ 6) (hl : l < 200) : ∀ n k, k + n = 8 * nc → rm_V mX8_countsOf (d + 1) 4 [.ref 3, .int (nI l), .int (nI (rm_cnt (rm_cop a l) k)), .int (nI k)] [] a (rm_p (nI (rm_cof a nc l)) a) := by
  intro n
  induction n with
  | zero =>
    intro k hk2
    have hk3 : k = 8 * nc := by omega
    subst hk3
    refine rm_iload_n dX8_countsOf_4 rfl rfl ?_
    refine rm_bipush (v := nI (8)) dX8_countsOf_5 (by decide) ?_
    refine rm_aload_n dX8_countsOf_7 rfl rfl ?_
    refine rm_geti 1 (x := nI (nc)) dX8_countsOf_8 flX8_86 rfl (hc) ?_
    refine rm_imul dX8_countsOf_11 ?_
    refine rm_top (pk_mul (8) (nc)) ?_
    refine rm_icN_ge (tgt := 61) dX8_countsOf_12 (by decide) (by omega) (by omega) (fun h12 => ?_) (fun h12 => (absurd h12 (by omega)))
    refine rm_iload_n dX8_countsOf_61 rfl rfl ?_
    refine rm_iret dX8_countsOf_62 rfl rfl ?_
    exact ⟨rfl, rfl⟩
  | succ n ih =>
    intro k hk2
    have hcl := rm_cnt_le (rm_cop a l) k
    refine rm_iload_n dX8_countsOf_4 rfl rfl ?_
    refine rm_bipush (v := nI (8)) dX8_countsOf_5 (by decide) ?_
    refine rm_aload_n dX8_countsOf_7 rfl rfl ?_
    refine rm_geti 1 (x := nI (nc)) dX8_countsOf_8 flX8_86 rfl (hc) ?_
    refine rm_imul dX8_countsOf_11 ?_
    refine rm_top (pk_mul (8) (nc)) ?_
    refine rm_icN_ge (tgt := 61) dX8_countsOf_12 (by decide) (by omega) (by omega) (fun h12 => (absurd h12 (by omega))) (fun h12 => ?_)
    refine rm_iload_n dX8_countsOf_15 rfl rfl ?_
    refine rm_aload_n dX8_countsOf_16 rfl rfl ?_
    refine rm_getr 14 (t := 18) dX8_countsOf_17 flX8_40 (by decide) rfl rfl ?_
    refine rm_iload_n dX8_countsOf_20 rfl rfl ?_
    refine rm_iald (f := 14) (j := l) (x := (a 18 (l))) dX8_countsOf_21 rfl (by decide) rfl rfl (rfl) (show l < 200 from by omega) (rfl) ?_
    refine rm_iload_n dX8_countsOf_22 rfl rfl ?_
    refine rm_bipush (v := nI (8)) dX8_countsOf_23 (by decide) ?_
    refine rm_idiv dX8_countsOf_25 (by decide) ?_
    refine rm_top (pk_div (a := k) (d := 8) (by omega) (by decide) (by decide)) ?_
    refine rm_ishr dX8_countsOf_26 ?_
    refine rm_iconst (v := nI (1)) dX8_countsOf_27 (by decide) ?_
    refine rm_iand dX8_countsOf_28 ?_
    refine rm_iconst (v := nI (1)) dX8_countsOf_29 (by decide) ?_
    refine rm_icmp_ne (tgt := 52) dX8_countsOf_30 (by decide) (fun h30 => ?_) (fun h30 => ?_)
    · refine rm_iconst (v := nI (0)) dX8_countsOf_52 (by decide) ?_
      refine rm_iadd dX8_countsOf_53 ?_
      refine rm_top (nI_add (rm_cnt (rm_cop a l) k) (0)) ?_
      refine rm_istore_n (lv' := [.ref 3, .int (nI (l)), .int (nI (rm_cnt (rm_cop a l) k + 0)), .int (nI (k))]) dX8_countsOf_54 rfl (by decide) rfl ?_
      refine rm_iinc (v := nI (k + 1)) (lv' := [.ref 3, .int (nI (l)), .int (nI (rm_cnt (rm_cop a l) k + 0)), .int (nI (k + 1))]) dX8_countsOf_55 rfl (by rw [← nI_1]; rfl) (by decide) rfl ?_
      refine rm_goto (tgt := 4) dX8_countsOf_58 (by decide) ?_
      have e1 : rm_cop a l k = false := by unfold rm_cop rm_row; rw [decide_eq_false h30]; rfl
      have h9 := ih (k + 1) (by omega)
      rw [show rm_cnt (rm_cop a l) (k + 1) = rm_cnt (rm_cop a l) k + 0 from by show _ + (if rm_cop a l k = true then 1 else 0) = _; rw [e1]; rfl] at h9
      exact h9
    · refine rm_aload_n dX8_countsOf_33 rfl rfl ?_
      refine rm_iload_n dX8_countsOf_34 rfl rfl ?_
      refine rm_bipush (v := nI (8)) dX8_countsOf_35 (by decide) ?_
      refine rm_irem dX8_countsOf_37 (by decide) ?_
      refine rm_top (pk_rem (a := k) (d := 8) (by omega) (by decide) (by decide)) ?_
      refine rm_iload_n dX8_countsOf_38 rfl rfl ?_
      refine rm_bipush (v := nI (8)) dX8_countsOf_39 (by decide) ?_
      refine rm_idiv dX8_countsOf_41 (by decide) ?_
      refine rm_top (pk_div (a := k) (d := 8) (by omega) (by decide) (by decide)) ?_
      refine rm_callV (As := [.int (nI (k % 8)), .int (nI (k / 8))]) (st := [.int (nI (rm_cnt (rm_cop a l) k))]) dX8_countsOf_42 cvX8_92 rfl rfl (by decide) (zv_cat_i [nI (k % 8), nI (k / 8)]) (Nat.le_of_ble_eq_true rfl) (cM_isIn (d) a (m := k % 8) (c := k / 8) (by omega)) (fun v b q => ?_)
      obtain ⟨rfl, rfl⟩ := q
      show rm_V _ _ 45 [.ref 3, .int (nI (l)), .int (nI (rm_cnt (rm_cop a l) k)), .int (nI (k))] [.int (rm_b (rm_in a (k % 8) (k / 8))), .int (nI (rm_cnt (rm_cop a l) k))] _ _
      refine rm_ifB_eq (tgt := 52) dX8_countsOf_45 (by decide) (fun h45 => ?_) (fun h45 => ?_)
      · refine rm_iconst (v := nI (0)) dX8_countsOf_52 (by decide) ?_
        refine rm_iadd dX8_countsOf_53 ?_
        refine rm_top (nI_add (rm_cnt (rm_cop a l) k) (0)) ?_
        refine rm_istore_n (lv' := [.ref 3, .int (nI (l)), .int (nI (rm_cnt (rm_cop a l) k + 0)), .int (nI (k))]) dX8_countsOf_54 rfl (by decide) rfl ?_
        refine rm_iinc (v := nI (k + 1)) (lv' := [.ref 3, .int (nI (l)), .int (nI (rm_cnt (rm_cop a l) k + 0)), .int (nI (k + 1))]) dX8_countsOf_55 rfl (by rw [← nI_1]; rfl) (by decide) rfl ?_
        refine rm_goto (tgt := 4) dX8_countsOf_58 (by decide) ?_
        have e1 : rm_cop a l k = false := by unfold rm_cop; rw [h45]; exact Bool.and_false _
        have h9 := ih (k + 1) (by omega)
        rw [show rm_cnt (rm_cop a l) (k + 1) = rm_cnt (rm_cop a l) k + 0 from by show _ + (if rm_cop a l k = true then 1 else 0) = _; rw [e1]; rfl] at h9
        exact h9
      · refine rm_iconst (v := nI (1)) dX8_countsOf_48 (by decide) ?_
        refine rm_goto (tgt := 53) dX8_countsOf_49 (by decide) ?_
        refine rm_iadd dX8_countsOf_53 ?_
        refine rm_top (nI_add (rm_cnt (rm_cop a l) k) (1)) ?_
        refine rm_istore_n (lv' := [.ref 3, .int (nI (l)), .int (nI (rm_cnt (rm_cop a l) k + 1)), .int (nI (k))]) dX8_countsOf_54 rfl (by decide) rfl ?_
        refine rm_iinc (v := nI (k + 1)) (lv' := [.ref 3, .int (nI (l)), .int (nI (rm_cnt (rm_cop a l) k + 1)), .int (nI (k + 1))]) dX8_countsOf_55 rfl (by rw [← nI_1]; rfl) (by decide) rfl ?_
        refine rm_goto (tgt := 4) dX8_countsOf_58 (by decide) ?_
        have e1 : rm_cop a l k = true := by unfold rm_cop rm_row; rw [decide_eq_true h30, h45]; rfl
        have h9 := ih (k + 1) (by omega)
        rw [show rm_cnt (rm_cop a l) (k + 1) = rm_cnt (rm_cop a l) k + 1 from by show _ + (if rm_cop a l k = true then 1 else 0) = _; rw [e1]; rfl] at h9
        exact h9
theorem cM_countsOf (d : Nat) {a : zv_I} {nc l : Nat} (hc : a 3 1 = nI nc) (hcb : nc ≤ 6) (hl : l < 200) : rm_V mX8_countsOf (d + 1) 0 [.ref 3, .int (nI l)] [] a (rm_p (nI (rm_cof a nc l)) a) := by
  refine rm_iconst (v := nI (0)) dX8_countsOf_0 (by decide) ?_
  refine rm_istore_n (lv' := [.ref 3, .int (nI (l)), .int (nI (0))]) dX8_countsOf_1 rfl (by decide) rfl ?_
  refine rm_iconst (v := nI (0)) dX8_countsOf_2 (by decide) ?_
  refine rm_istore_n (lv' := [.ref 3, .int (nI (l)), .int (nI (0)), .int (nI (0))]) dX8_countsOf_3 rfl (by decide) rfl ?_
  exact cM_countsOf_l d hc hcb hl (8 * nc) 0 (by omega)
def q_tl (a : zv_I) (nc l : Nat) : Nat → Int32
  | 0 => a 10 l
  | 1 => a 11 l
  | 2 => a 12 l
  | 3 => a 13 l
  | 4 => a 14 l
  | 5 => a 15 l
  | 6 => nI (rm_cof a nc l)
  | 7 => a 17 l
  | _ => -1
def q_told (a : zv_I) (nc nl : Nat) (l x : Int32) : Int32 := if rm_lt l nl = true then (if rm_lt x 8 = true then q_tl a nc (rm_nv l) (rm_nv x) else -1) else -1
theorem cM_told (d : Nat) {a : zv_I} {nc nl : Nat} (hc : a 3 1 = nI nc) (hcb : nc ≤ 6) (hn : a 3 4 = nI nl) (hnb : nl ≤ 200) (l x : Int32) : rm_V mX8_told (d + 3) 0 [.ref 3, .int l, .int x] [] a (rm_p (q_told a nc nl l x) a) := by
  refine rm_aload_n dX8_told_0 rfl rfl ?_
  refine rm_iload_n dX8_told_1 rfl rfl ?_
  refine rm_callV (As := [.int (l)]) (st := []) dX8_told_2 cvX8_142 rfl rfl (by decide) (zv_cat_i [l]) (Nat.le_of_ble_eq_true rfl) (cM_isLetter (d + 1) hn (by omega) (l)) (fun v b q => ?_)
  obtain ⟨rfl, rfl⟩ := q
  show rm_V _ _ 5 [.ref 3, .int (l), .int (x)] [.int (rm_b (rm_lt (l) nl))] _ _
  refine rm_ifB_ne (tgt := 10) dX8_told_5 (by decide) (fun h5 => ?_) (fun h5 => ?_)
  · obtain ⟨l1, hl1, rfl⟩ := rm_lt_t h5 (by omega)
    refine rm_iload_n dX8_told_10 rfl rfl ?_
    cases hsw : rm_lt x 8 with
    | false =>
      refine rm_tableOut (tgt := 111) dX8_told_11 (rm_lt_out hsw) (by decide) ?_
      refine rm_iconst (v := (-1 : Int32)) dX8_told_111 (by decide) ?_
      refine rm_iret dX8_told_112 rfl rfl ?_
      exact ⟨by unfold q_told; rw [h5, hsw]; rfl, rfl⟩
    | true =>
      obtain ⟨jsw, hjsw, rfl⟩ := rm_lt_t hsw (by decide)
      rcases (show jsw = 0 ∨ jsw = 1 ∨ jsw = 2 ∨ jsw = 3 ∨ jsw = 4 ∨ jsw = 5 ∨ jsw = 6 ∨ jsw = 7 by omega) with rfl | rfl | rfl | rfl | rfl | rfl | rfl | rfl
      · refine rm_tableIn (off := 45) (tgt := 56) dX8_told_11 (by decide) (by decide) (by decide) (by decide) ?_
        refine rm_aload_n dX8_told_56 rfl rfl ?_
        refine rm_getr 6 (t := 10) dX8_told_57 flX8_16 (by decide) rfl rfl ?_
        refine rm_iload_n dX8_told_60 rfl rfl ?_
        refine rm_iald (f := 6) (j := l1) (x := (a 10 (l1))) dX8_told_61 rfl (by decide) rfl rfl (rfl) (show l1 < 200 from by omega) (rfl) ?_
        refine rm_iret dX8_told_62 rfl rfl ?_
        exact ⟨by unfold q_told; rw [h5, if_pos rfl, hsw, if_pos rfl, rm_nv_n (n := l1) (by omega), rm_nv_n (n := 0) (by decide)]; rfl, rfl⟩
      · refine rm_tableIn (off := 52) (tgt := 63) dX8_told_11 (by decide) (by decide) (by decide) (by decide) ?_
        refine rm_aload_n dX8_told_63 rfl rfl ?_
        refine rm_getr 7 (t := 11) dX8_told_64 flX8_19 (by decide) rfl rfl ?_
        refine rm_iload_n dX8_told_67 rfl rfl ?_
        refine rm_iald (f := 7) (j := l1) (x := (a 11 (l1))) dX8_told_68 rfl (by decide) rfl rfl (rfl) (show l1 < 200 from by omega) (rfl) ?_
        refine rm_iret dX8_told_69 rfl rfl ?_
        exact ⟨by unfold q_told; rw [h5, if_pos rfl, hsw, if_pos rfl, rm_nv_n (n := l1) (by omega), rm_nv_n (n := 1) (by decide)]; rfl, rfl⟩
      · refine rm_tableIn (off := 59) (tgt := 70) dX8_told_11 (by decide) (by decide) (by decide) (by decide) ?_
        refine rm_aload_n dX8_told_70 rfl rfl ?_
        refine rm_getr 8 (t := 12) dX8_told_71 flX8_22 (by decide) rfl rfl ?_
        refine rm_iload_n dX8_told_74 rfl rfl ?_
        refine rm_iald (f := 8) (j := l1) (x := (a 12 (l1))) dX8_told_75 rfl (by decide) rfl rfl (rfl) (show l1 < 200 from by omega) (rfl) ?_
        refine rm_iret dX8_told_76 rfl rfl ?_
        exact ⟨by unfold q_told; rw [h5, if_pos rfl, hsw, if_pos rfl, rm_nv_n (n := l1) (by omega), rm_nv_n (n := 2) (by decide)]; rfl, rfl⟩
      · refine rm_tableIn (off := 66) (tgt := 77) dX8_told_11 (by decide) (by decide) (by decide) (by decide) ?_
        refine rm_aload_n dX8_told_77 rfl rfl ?_
        refine rm_getr 9 (t := 13) dX8_told_78 flX8_25 (by decide) rfl rfl ?_
        refine rm_iload_n dX8_told_81 rfl rfl ?_
        refine rm_iald (f := 9) (j := l1) (x := (a 13 (l1))) dX8_told_82 rfl (by decide) rfl rfl (rfl) (show l1 < 200 from by omega) (rfl) ?_
        refine rm_iret dX8_told_83 rfl rfl ?_
        exact ⟨by unfold q_told; rw [h5, if_pos rfl, hsw, if_pos rfl, rm_nv_n (n := l1) (by omega), rm_nv_n (n := 3) (by decide)]; rfl, rfl⟩
      · refine rm_tableIn (off := 73) (tgt := 84) dX8_told_11 (by decide) (by decide) (by decide) (by decide) ?_
        refine rm_aload_n dX8_told_84 rfl rfl ?_
        refine rm_getr 10 (t := 14) dX8_told_85 flX8_28 (by decide) rfl rfl ?_
        refine rm_iload_n dX8_told_88 rfl rfl ?_
        refine rm_iald (f := 10) (j := l1) (x := (a 14 (l1))) dX8_told_89 rfl (by decide) rfl rfl (rfl) (show l1 < 200 from by omega) (rfl) ?_
        refine rm_iret dX8_told_90 rfl rfl ?_
        exact ⟨by unfold q_told; rw [h5, if_pos rfl, hsw, if_pos rfl, rm_nv_n (n := l1) (by omega), rm_nv_n (n := 4) (by decide)]; rfl, rfl⟩
      · refine rm_tableIn (off := 80) (tgt := 91) dX8_told_11 (by decide) (by decide) (by decide) (by decide) ?_
        refine rm_aload_n dX8_told_91 rfl rfl ?_
        refine rm_getr 11 (t := 15) dX8_told_92 flX8_31 (by decide) rfl rfl ?_
        refine rm_iload_n dX8_told_95 rfl rfl ?_
        refine rm_iald (f := 11) (j := l1) (x := (a 15 (l1))) dX8_told_96 rfl (by decide) rfl rfl (rfl) (show l1 < 200 from by omega) (rfl) ?_
        refine rm_iret dX8_told_97 rfl rfl ?_
        exact ⟨by unfold q_told; rw [h5, if_pos rfl, hsw, if_pos rfl, rm_nv_n (n := l1) (by omega), rm_nv_n (n := 5) (by decide)]; rfl, rfl⟩
      · refine rm_tableIn (off := 87) (tgt := 98) dX8_told_11 (by decide) (by decide) (by decide) (by decide) ?_
        refine rm_aload_n dX8_told_98 rfl rfl ?_
        refine rm_iload_n dX8_told_99 rfl rfl ?_
        refine rm_callV (As := [.int (nI (l1))]) (st := []) dX8_told_100 cvX8_179 rfl rfl (by decide) (zv_cat_i [nI (l1)]) (Nat.le_of_ble_eq_true rfl) (cM_countsOf (d + 1) hc hcb (l := l1) (by omega)) (fun v b q => ?_)
        obtain ⟨rfl, rfl⟩ := q
        show rm_V _ _ 103 [.ref 3, .int (nI (l1)), .int (nI (6))] [.int (nI (rm_cof a nc l1))] _ _
        refine rm_iret dX8_told_103 rfl rfl ?_
        exact ⟨by unfold q_told; rw [h5, if_pos rfl, hsw, if_pos rfl, rm_nv_n (n := l1) (by omega), rm_nv_n (n := 6) (by decide)]; rfl, rfl⟩
      · refine rm_tableIn (off := 93) (tgt := 104) dX8_told_11 (by decide) (by decide) (by decide) (by decide) ?_
        refine rm_aload_n dX8_told_104 rfl rfl ?_
        refine rm_getr 13 (t := 17) dX8_told_105 flX8_37 (by decide) rfl rfl ?_
        refine rm_iload_n dX8_told_108 rfl rfl ?_
        refine rm_iald (f := 13) (j := l1) (x := (a 17 (l1))) dX8_told_109 rfl (by decide) rfl rfl (rfl) (show l1 < 200 from by omega) (rfl) ?_
        refine rm_iret dX8_told_110 rfl rfl ?_
        exact ⟨by unfold q_told; rw [h5, if_pos rfl, hsw, if_pos rfl, rm_nv_n (n := l1) (by omega), rm_nv_n (n := 7) (by decide)]; rfl, rfl⟩
  · refine rm_iconst (v := (-1 : Int32)) dX8_told_8 (by decide) ?_
    refine rm_iret dX8_told_9 rfl rfl ?_
    exact ⟨by unfold q_told; rw [h5]; rfl, rfl⟩
def rm_clp (a : zv_I) (c l m : Nat) : Bool := decide (¬ a 11 l = nI c) || (!rm_in a m c || decide (a 20 (200 * m + l) = nI 3))
def rm_cal (a : zv_I) (nm nl c : Nat) : Bool := rm_all (fun l => rm_all (rm_clp a c l) nm 0) nl 0
theorem cM_isCalm_m (d : Nat) {a : zv_I} {nm c l : Nat} (hm : a 3 0 = nI nm) (hmb : nm ≤ 8) (hcc : c < 6) (hl : l < 200) {Q : Option Value → zv_I → Prop} : ∀ n k, k + n = nm → ∀ is, (rm_V mX8_isCalm (d + 1) 77 [.ref 3, .int (nI c), .int (rm_b (is && rm_all (rm_clp a c l) n k)), .int (nI l), .int (nI nm)] [] a Q) → rm_V mX8_isCalm (d + 1) 15 [.ref 3, .int (nI c), .int (rm_b is), .int (nI l), .int (nI k)] [] a Q := by
  intro n
  induction n with
  | zero =>
    intro k hk2 is hQ
    have hk3 : k = nm := by omega
    subst hk3
    refine rm_iload dX8_isCalm_15 rfl ?_
    refine rm_aload_n dX8_isCalm_17 rfl rfl ?_
    refine rm_geti 0 (x := nI (k)) dX8_isCalm_18 flX8_78 rfl (hm) ?_
    refine rm_icN_ge (tgt := 77) dX8_isCalm_21 (by decide) (by omega) (by omega) (fun h21 => ?_) (fun h21 => (absurd h21 (by omega)))
    rw [show (is && rm_all (rm_clp a c l) 0 k) = is from Bool.and_true _] at hQ
    exact hQ
  | succ n ih =>
    intro k hk2 is hQ
    refine rm_iload dX8_isCalm_15 rfl ?_
    refine rm_aload_n dX8_isCalm_17 rfl rfl ?_
    refine rm_geti 0 (x := nI (nm)) dX8_isCalm_18 flX8_78 rfl (hm) ?_
    refine rm_icN_ge (tgt := 77) dX8_isCalm_21 (by decide) (by omega) (by omega) (fun h21 => (absurd h21 (by omega))) (fun h21 => ?_)
    refine rm_iload_n dX8_isCalm_24 rfl rfl ?_
    refine rm_ifB_eq (tgt := 69) dX8_isCalm_25 (by decide) (fun h25 => ?_) (fun h25 => ?_)
    · refine rm_iconst (v := nI (0)) dX8_isCalm_69 (by decide) ?_
      refine rm_istore_n (lv' := [.ref 3, .int (nI (c)), .int (nI (0)), .int (nI (l)), .int (nI (k))]) dX8_isCalm_70 rfl (by decide) rfl ?_
      refine rm_iinc (v := nI (k + 1)) (lv' := [.ref 3, .int (nI (c)), .int (nI (0)), .int (nI (l)), .int (nI (k + 1))]) dX8_isCalm_71 rfl (by rw [← nI_1]; rfl) (by decide) rfl ?_
      refine rm_goto (tgt := 15) dX8_isCalm_74 (by decide) ?_
      refine ih (k + 1) (by omega) false ?_
      have h9 : rm_V mX8_isCalm (d + 1) 77 [.ref 3, .int (nI c), .int (rm_b (is && (rm_clp a c l k && rm_all (rm_clp a c l) n (k + 1)))), .int (nI l), .int (nI nm)] [] a Q := hQ
      rw [show rm_b (is && (rm_clp a c l k && rm_all (rm_clp a c l) n (k + 1))) = rm_b (false && rm_all (rm_clp a c l) n (k + 1)) by rw [h25]; rfl] at h9
      exact h9
    · refine rm_aload_n dX8_isCalm_28 rfl rfl ?_
      refine rm_getr 7 (t := 11) dX8_isCalm_29 flX8_19 (by decide) rfl rfl ?_
      refine rm_iload_n dX8_isCalm_32 rfl rfl ?_
      refine rm_iald (f := 7) (j := l) (x := (a 11 (l))) dX8_isCalm_33 rfl (by decide) rfl rfl (rfl) (show l < 200 from by omega) (rfl) ?_
      refine rm_iload_n dX8_isCalm_34 rfl rfl ?_
      refine rm_icmp_ne (tgt := 65) dX8_isCalm_35 (by decide) (fun h35 => ?_) (fun h35 => ?_)
      · refine rm_iconst (v := nI (1)) dX8_isCalm_65 (by decide) ?_
        refine rm_goto (tgt := 70) dX8_isCalm_66 (by decide) ?_
        refine rm_istore_n (lv' := [.ref 3, .int (nI (c)), .int (nI (1)), .int (nI (l)), .int (nI (k))]) dX8_isCalm_70 rfl (by decide) rfl ?_
        refine rm_iinc (v := nI (k + 1)) (lv' := [.ref 3, .int (nI (c)), .int (nI (1)), .int (nI (l)), .int (nI (k + 1))]) dX8_isCalm_71 rfl (by rw [← nI_1]; rfl) (by decide) rfl ?_
        refine rm_goto (tgt := 15) dX8_isCalm_74 (by decide) ?_
        refine ih (k + 1) (by omega) true ?_
        have h9 : rm_V mX8_isCalm (d + 1) 77 [.ref 3, .int (nI c), .int (rm_b (is && (rm_clp a c l k && rm_all (rm_clp a c l) n (k + 1)))), .int (nI l), .int (nI nm)] [] a Q := hQ
        rw [show rm_b (is && (rm_clp a c l k && rm_all (rm_clp a c l) n (k + 1))) = rm_b (true && rm_all (rm_clp a c l) n (k + 1)) by rw [h25, show rm_clp a c l k = true by unfold rm_clp; rw [decide_eq_true h35]; rfl]; rfl] at h9
        exact h9
      · refine rm_aload_n dX8_isCalm_38 rfl rfl ?_
        refine rm_iload dX8_isCalm_39 rfl ?_
        refine rm_iload_n dX8_isCalm_41 rfl rfl ?_
        refine rm_callV (As := [.int (nI (k)), .int (nI (c))]) (st := []) dX8_isCalm_42 cvX8_92 rfl rfl (by decide) (zv_cat_i [nI (k), nI (c)]) (Nat.le_of_ble_eq_true rfl) (cM_isIn (d) a (m := k) (c := c) (by omega)) (fun v b q => ?_)
        obtain ⟨rfl, rfl⟩ := q
        show rm_V _ _ 45 [.ref 3, .int (nI (c)), .int (rm_b (is)), .int (nI (l)), .int (nI (k))] [.int (rm_b (rm_in a k c))] _ _
        refine rm_ifB_eq (tgt := 65) dX8_isCalm_45 (by decide) (fun h45 => ?_) (fun h45 => ?_)
        · refine rm_iconst (v := nI (1)) dX8_isCalm_65 (by decide) ?_
          refine rm_goto (tgt := 70) dX8_isCalm_66 (by decide) ?_
          refine rm_istore_n (lv' := [.ref 3, .int (nI (c)), .int (nI (1)), .int (nI (l)), .int (nI (k))]) dX8_isCalm_70 rfl (by decide) rfl ?_
          refine rm_iinc (v := nI (k + 1)) (lv' := [.ref 3, .int (nI (c)), .int (nI (1)), .int (nI (l)), .int (nI (k + 1))]) dX8_isCalm_71 rfl (by rw [← nI_1]; rfl) (by decide) rfl ?_
          refine rm_goto (tgt := 15) dX8_isCalm_74 (by decide) ?_
          refine ih (k + 1) (by omega) true ?_
          have h9 : rm_V mX8_isCalm (d + 1) 77 [.ref 3, .int (nI c), .int (rm_b (is && (rm_clp a c l k && rm_all (rm_clp a c l) n (k + 1)))), .int (nI l), .int (nI nm)] [] a Q := hQ
          rw [show rm_b (is && (rm_clp a c l k && rm_all (rm_clp a c l) n (k + 1))) = rm_b (true && rm_all (rm_clp a c l) n (k + 1)) by rw [h25, show rm_clp a c l k = true by unfold rm_clp; rw [h45]; exact Bool.or_true _]; rfl] at h9
          exact h9
        · refine rm_aload_n dX8_isCalm_48 rfl rfl ?_
          refine rm_getr 16 (t := 20) dX8_isCalm_49 flX8_46 (by decide) rfl rfl ?_
          refine rm_sipush (v := nI (200)) dX8_isCalm_52 (by decide) ?_
          refine rm_iload dX8_isCalm_55 rfl ?_
          refine rm_imul dX8_isCalm_57 ?_
          refine rm_top (pk_mul (200) (k)) ?_
          refine rm_iload_n dX8_isCalm_58 rfl rfl ?_
          refine rm_iadd dX8_isCalm_59 ?_
          refine rm_top (nI_add (200 * k) (l)) ?_
          refine rm_iald (f := 16) (j := 200 * k + l) (x := (a 20 (200 * k + l))) dX8_isCalm_60 rfl (by decide) rfl rfl (rfl) (show 200 * k + l < 1600 from by omega) (rfl) ?_
          refine rm_iconst (v := nI (3)) dX8_isCalm_61 (by decide) ?_
          refine rm_icmp_ne (tgt := 69) dX8_isCalm_62 (by decide) (fun h62 => ?_) (fun h62 => ?_)
          · refine rm_iconst (v := nI (0)) dX8_isCalm_69 (by decide) ?_
            refine rm_istore_n (lv' := [.ref 3, .int (nI (c)), .int (nI (0)), .int (nI (l)), .int (nI (k))]) dX8_isCalm_70 rfl (by decide) rfl ?_
            refine rm_iinc (v := nI (k + 1)) (lv' := [.ref 3, .int (nI (c)), .int (nI (0)), .int (nI (l)), .int (nI (k + 1))]) dX8_isCalm_71 rfl (by rw [← nI_1]; rfl) (by decide) rfl ?_
            refine rm_goto (tgt := 15) dX8_isCalm_74 (by decide) ?_
            refine ih (k + 1) (by omega) false ?_
            have h9 : rm_V mX8_isCalm (d + 1) 77 [.ref 3, .int (nI c), .int (rm_b (is && (rm_clp a c l k && rm_all (rm_clp a c l) n (k + 1)))), .int (nI l), .int (nI nm)] [] a Q := hQ
            rw [show rm_b (is && (rm_clp a c l k && rm_all (rm_clp a c l) n (k + 1))) = rm_b (false && rm_all (rm_clp a c l) n (k + 1)) by rw [h25, show rm_clp a c l k = false by unfold rm_clp; rw [decide_eq_false (fun q => q h35), h45, decide_eq_false h62]; rfl]; rfl] at h9
            exact h9
          · refine rm_iconst (v := nI (1)) dX8_isCalm_65 (by decide) ?_
            refine rm_goto (tgt := 70) dX8_isCalm_66 (by decide) ?_
            refine rm_istore_n (lv' := [.ref 3, .int (nI (c)), .int (nI (1)), .int (nI (l)), .int (nI (k))]) dX8_isCalm_70 rfl (by decide) rfl ?_
            refine rm_iinc (v := nI (k + 1)) (lv' := [.ref 3, .int (nI (c)), .int (nI (1)), .int (nI (l)), .int (nI (k + 1))]) dX8_isCalm_71 rfl (by rw [← nI_1]; rfl) (by decide) rfl ?_
            refine rm_goto (tgt := 15) dX8_isCalm_74 (by decide) ?_
            refine ih (k + 1) (by omega) true ?_
            have h9 : rm_V mX8_isCalm (d + 1) 77 [.ref 3, .int (nI c), .int (rm_b (is && (rm_clp a c l k && rm_all (rm_clp a c l) n (k + 1)))), .int (nI l), .int (nI nm)] [] a Q := hQ
            rw [show rm_b (is && (rm_clp a c l k && rm_all (rm_clp a c l) n (k + 1))) = rm_b (true && rm_all (rm_clp a c l) n (k + 1)) by rw [h25, show rm_clp a c l k = true by unfold rm_clp; rw [decide_eq_true h62, Bool.or_true]; exact Bool.or_true _]; rfl] at h9
            exact h9
theorem cM_isCalm_l (d : Nat) {a : zv_I} {nm nl c : Nat} (hm : a 3 0 = nI nm) (hmb : nm ≤ 8) (hn : a 3 4 = nI nl) (hnb : nl ≤ 200) (hcc : c < 6) : ∀ n k, k + n = nl → ∀ is rest, rm_V mX8_isCalm (d + 1) 4 ([.ref 3, .int (nI c), .int (rm_b is), .int (nI k)] ++ rest) [] a (rm_p (rm_b (is && rm_all (fun l => rm_all (rm_clp a c l) nm 0) n k)) a) := by
  intro n
  induction n with
  | zero =>
    intro k hk2 is rest
    refine rm_less ⟨rest, rfl⟩ ?_
    have hk3 : k = nl := by omega
    subst hk3
    refine rm_iload_n dX8_isCalm_4 rfl rfl ?_
    refine rm_aload_n dX8_isCalm_5 rfl rfl ?_
    refine rm_geti 4 (x := nI (k)) dX8_isCalm_6 flX8_89 rfl (hn) ?_
    refine rm_icN_ge (tgt := 83) dX8_isCalm_9 (by decide) (by omega) (by omega) (fun h9 => ?_) (fun h9 => (absurd h9 (by omega)))
    refine rm_iload_n dX8_isCalm_83 rfl rfl ?_
    refine rm_iret dX8_isCalm_84 rfl (rm_nb _) ?_
    exact ⟨by rw [show (is && rm_all (fun l => rm_all (rm_clp a c l) nm 0) 0 k) = is from Bool.and_true _], rfl⟩
  | succ n ih =>
    intro k hk2 is rest
    refine rm_less ⟨rest, rfl⟩ ?_
    refine rm_iload_n dX8_isCalm_4 rfl rfl ?_
    refine rm_aload_n dX8_isCalm_5 rfl rfl ?_
    refine rm_geti 4 (x := nI (nl)) dX8_isCalm_6 flX8_89 rfl (hn) ?_
    refine rm_icN_ge (tgt := 83) dX8_isCalm_9 (by decide) (by omega) (by omega) (fun h9 => (absurd h9 (by omega))) (fun h9 => ?_)
    refine rm_iconst (v := nI (0)) dX8_isCalm_12 (by decide) ?_
    refine rm_istore (lv' := [.ref 3, .int (nI (c)), .int (rm_b (is)), .int (nI (k)), .int (nI (0))]) dX8_isCalm_13 (by decide) rfl ?_
    refine cM_isCalm_m d hm hmb hcc (by omega) nm 0 (by omega) is ?_
    refine rm_iinc (v := nI (k + 1)) (lv' := [.ref 3, .int (nI (c)), .int (rm_b (is && rm_all (rm_clp a c k) nm 0)), .int (nI (k + 1)), .int (nI (nm))]) dX8_isCalm_77 rfl (by rw [← nI_1]; rfl) (by decide) rfl ?_
    refine rm_goto (tgt := 4) dX8_isCalm_80 (by decide) ?_
    have h9 := ih (k + 1) (by omega) (is && rm_all (rm_clp a c k) nm 0) [.int (nI nm)]
    rw [Bool.and_assoc] at h9
    exact h9
theorem cM_isCalm (d : Nat) {a : zv_I} {nm nl c : Nat} (hm : a 3 0 = nI nm) (hmb : nm ≤ 8) (hn : a 3 4 = nI nl) (hnb : nl ≤ 200) (hcc : c < 6) : rm_V mX8_isCalm (d + 1) 0 [.ref 3, .int (nI c)] [] a (rm_p (rm_b (rm_cal a nm nl c)) a) := by
  refine rm_iconst (v := nI (1)) dX8_isCalm_0 (by decide) ?_
  refine rm_istore_n (lv' := [.ref 3, .int (nI (c)), .int (nI (1))]) dX8_isCalm_1 rfl (by decide) rfl ?_
  refine rm_iconst (v := nI (0)) dX8_isCalm_2 (by decide) ?_
  refine rm_istore_n (lv' := [.ref 3, .int (nI (c)), .int (nI (1)), .int (nI (0))]) dX8_isCalm_3 rfl (by decide) rfl ?_
  exact cM_isCalm_l d hm hmb hn hnb hcc nl 0 (by omega) true []
def q_ct (a : zv_I) (nm nl c : Nat) : Nat → Int32
  | 0 => a 6 c
  | 1 => nI (rm_el a c)
  | 2 => a 7 c
  | _ => if rm_cal a nm nl c = true then nI 1 else nI 0
def q_cTold (a : zv_I) (nm nc nl : Nat) (c x : Int32) : Int32 := if (rm_lt c nc && rm_lt x 4) = true then q_ct a nm nl (rm_nv c) (rm_nv x) else -1
theorem rm_nz0 {k : Nat} (h : k < 2 ^ 31) (e : ¬ nI k = 0) : k ≠ 0 := fun q => e (by rw [q]; rfl)
theorem cM_circleTold (d : Nat) {a : zv_I} {nm nc nl : Nat} (hm : a 3 0 = nI nm) (hmb : nm ≤ 8) (hc : a 3 1 = nI nc) (hcb : nc ≤ 6) (hn : a 3 4 = nI nl) (hnb : nl ≤ 200) (hes : ∀ c, c < nc → rm_es a c) (c x : Int32) : rm_V mX8_circleTold (d + 3) 0 [.ref 3, .int c, .int x] [] a (rm_p (q_cTold a nm nc nl c x) a) := by
  refine rm_aload_n dX8_circleTold_0 rfl rfl ?_
  refine rm_iload_n dX8_circleTold_1 rfl rfl ?_
  refine rm_callV (As := [.int (c)]) (st := []) dX8_circleTold_2 cvX8_117 rfl rfl (by decide) (zv_cat_i [c]) (Nat.le_of_ble_eq_true rfl) (cM_isCircle (d + 1) hc (by omega) (c)) (fun v b q => ?_)
  obtain ⟨rfl, rfl⟩ := q
  show rm_V _ _ 5 [.ref 3, .int (c), .int (x)] [.int (rm_b (rm_lt (c) nc))] _ _
  refine rm_ifB_eq (tgt := 17) dX8_circleTold_5 (by decide) (fun h5 => ?_) (fun h5 => ?_)
  · refine rm_iconst (v := (-1 : Int32)) dX8_circleTold_17 (by decide) ?_
    refine rm_iret dX8_circleTold_18 rfl rfl ?_
    exact ⟨by unfold q_cTold; rw [h5]; rfl, rfl⟩
  · obtain ⟨c1, hc1, rfl⟩ := rm_lt_t h5 (by omega)
    refine rm_iload_n dX8_circleTold_8 rfl rfl ?_
    refine rm_iconst (v := nI (0)) dX8_circleTold_9 (by decide) ?_
    refine rm_iconst (v := nI (3)) dX8_circleTold_10 (by decide) ?_
    refine rm_callS (As := [.int (x), .int (nI (0)), .int (nI (3))]) (st := []) dX8_circleTold_11 csX8_82 rfl (by decide) (zv_cat_i [x, nI (0), nI (3)]) (Nat.le_of_ble_eq_true rfl) (cM_in (d + 2) (a) (x) (nI 0) (nI 3)) (fun v b q => ?_)
    obtain ⟨rfl, rfl⟩ := q
    rw [rm_in01 _ 3 (by decide)]
    show rm_V _ _ 14 [.ref 3, .int (nI (c1)), .int (x)] [.int (rm_b (rm_lt (x) 4))] _ _
    refine rm_ifB_ne (tgt := 19) dX8_circleTold_14 (by decide) (fun h14 => ?_) (fun h14 => ?_)
    · obtain ⟨x1, hx1, rfl⟩ := rm_lt_t h14 (by omega)
      refine rm_iload_n dX8_circleTold_19 rfl rfl ?_
      refine rm_if_ne (tgt := 32) dX8_circleTold_20 (by decide) (fun h20 => ?_) (fun h20 => ?_)
      · refine rm_iload_n dX8_circleTold_32 rfl rfl ?_
        refine rm_iconst (v := nI (1)) dX8_circleTold_33 (by decide) ?_
        refine rm_icN_ne (tgt := 45) dX8_circleTold_34 (by decide) (by omega) (by omega) (fun h34 => ?_) (fun h34 => ?_)
        · refine rm_iload_n dX8_circleTold_45 rfl rfl ?_
          refine rm_iconst (v := nI (2)) dX8_circleTold_46 (by decide) ?_
          refine rm_icN_ne (tgt := 59) dX8_circleTold_47 (by decide) (by omega) (by omega) (fun h47 => ?_) (fun h47 => ?_)
          · refine rm_aload_n dX8_circleTold_59 rfl rfl ?_
            refine rm_iload_n dX8_circleTold_60 rfl rfl ?_
            refine rm_callV (As := [.int (nI (c1))]) (st := []) dX8_circleTold_61 cvX8_182 rfl rfl (by decide) (zv_cat_i [nI (c1)]) (Nat.le_of_ble_eq_true rfl) (cM_isCalm (d + 1) hm hmb hn hnb (c := c1) (by omega)) (fun v b q => ?_)
            obtain ⟨rfl, rfl⟩ := q
            show rm_V _ _ 64 [.ref 3, .int (nI (c1)), .int (nI (x1))] [.int (rm_b (rm_cal a nm nl c1))] _ _
            refine rm_ifB_eq (tgt := 71) dX8_circleTold_64 (by decide) (fun h64 => ?_) (fun h64 => ?_)
            · refine rm_iconst (v := nI (0)) dX8_circleTold_71 (by decide) ?_
              refine rm_iret dX8_circleTold_72 rfl rfl ?_
              exact ⟨by unfold q_cTold; rw [h5, h14, if_pos (by rfl), rm_nv_n (n := c1) (by omega), rm_nv_n (n := x1) (by omega)]; have := rm_nz0 (by omega) h20; rw [show x1 = 3 from by omega]; show some (Value.int _) = some (Value.int (if rm_cal a nm nl c1 = true then nI 1 else nI 0)); rw [h64]; rfl, rfl⟩
            · refine rm_iconst (v := nI (1)) dX8_circleTold_67 (by decide) ?_
              refine rm_goto (tgt := 72) dX8_circleTold_68 (by decide) ?_
              refine rm_iret dX8_circleTold_72 rfl rfl ?_
              exact ⟨by unfold q_cTold; rw [h5, h14, if_pos (by rfl), rm_nv_n (n := c1) (by omega), rm_nv_n (n := x1) (by omega)]; have := rm_nz0 (by omega) h20; rw [show x1 = 3 from by omega]; show some (Value.int _) = some (Value.int (if rm_cal a nm nl c1 = true then nI 1 else nI 0)); rw [h64]; rfl, rfl⟩
          · refine rm_aload_n dX8_circleTold_50 rfl rfl ?_
            refine rm_getr 3 (t := 7) dX8_circleTold_51 flX8_13 (by decide) rfl rfl ?_
            refine rm_iload_n dX8_circleTold_54 rfl rfl ?_
            refine rm_iald (f := 3) (j := c1) (x := (a 7 (c1))) dX8_circleTold_55 rfl (by decide) rfl rfl (rfl) (show c1 < 6 from by omega) (rfl) ?_
            refine rm_goto (tgt := 72) dX8_circleTold_56 (by decide) ?_
            refine rm_iret dX8_circleTold_72 rfl rfl ?_
            exact ⟨by unfold q_cTold; rw [h5, h14, if_pos (by rfl), rm_nv_n (n := c1) (by omega), rm_nv_n (n := x1) (by omega)]; rw [show x1 = 2 from by omega]; rfl, rfl⟩
        · refine rm_aload_n dX8_circleTold_37 rfl rfl ?_
          refine rm_iload_n dX8_circleTold_38 rfl rfl ?_
          refine rm_callV (As := [.int (nI (c1))]) (st := []) dX8_circleTold_39 cvX8_148 rfl rfl (by decide) (zv_cat_i [nI (c1)]) (Nat.le_of_ble_eq_true rfl) (cM_eldest (d + 1) (c := c1) (by omega) (hes c1 (by omega))) (fun v b q => ?_)
          obtain ⟨rfl, rfl⟩ := q
          show rm_V _ _ 42 [.ref 3, .int (nI (c1)), .int (nI (x1))] [.int (nI (rm_el a c1))] _ _
          refine rm_goto (tgt := 72) dX8_circleTold_42 (by decide) ?_
          refine rm_iret dX8_circleTold_72 rfl rfl ?_
          exact ⟨by unfold q_cTold; rw [h5, h14, if_pos (by rfl), rm_nv_n (n := c1) (by omega), rm_nv_n (n := x1) (by omega)]; rw [show x1 = 1 from by omega]; rfl, rfl⟩
      · refine rm_aload_n dX8_circleTold_23 rfl rfl ?_
        refine rm_getr 2 (t := 6) dX8_circleTold_24 flX8_7 (by decide) rfl rfl ?_
        refine rm_iload_n dX8_circleTold_27 rfl rfl ?_
        refine rm_iald (f := 2) (j := c1) (x := (a 6 (c1))) dX8_circleTold_28 rfl (by decide) rfl rfl (rfl) (show c1 < 6 from by omega) (rfl) ?_
        refine rm_goto (tgt := 72) dX8_circleTold_29 (by decide) ?_
        refine rm_iret dX8_circleTold_72 rfl rfl ?_
        exact ⟨by unfold q_cTold; rw [h5, h14, if_pos (by rfl), rm_nv_n (n := c1) (by omega), rm_nv_n (n := x1) (by omega)]; rw [show x1 = 0 from rm_nz (by omega) h20]; rfl, rfl⟩
    · refine rm_iconst (v := (-1 : Int32)) dX8_circleTold_17 (by decide) ?_
      refine rm_iret dX8_circleTold_18 rfl rfl ?_
      exact ⟨by unfold q_cTold; rw [h14, Bool.and_false]; rfl, rfl⟩
def q_read (a : zv_I) (nm : Nat) (m i : Int32) : Int32 := if rm_lt m nm = true then (if rm_lt i (rm_nv (a 25 (rm_nv m))) = true then a 24 (200 * rm_nv m + rm_nv i) else -1) else -1
theorem cM_read (d : Nat) {a : zv_I} {nm : Nat} (hm : a 3 0 = nI nm) (hmb : nm ≤ 8) (h25 : ∀ m, m < nm → a 25 m = nI (rm_nv (a 25 m)) ∧ rm_nv (a 25 m) ≤ 200) (m i : Int32) : rm_V mX8_read (d + 3) 0 [.ref 3, .int m, .int i] [] a (rm_p (q_read a nm m i) a) := by
  refine rm_aload_n dX8_read_0 rfl rfl ?_
  refine rm_iload_n dX8_read_1 rfl rfl ?_
  refine rm_callV (As := [.int (m)]) (st := []) dX8_read_2 cvX8_113 rfl rfl (by decide) (zv_cat_i [m]) (Nat.le_of_ble_eq_true rfl) (cM_isMember (d + 1) hm (by omega) (m)) (fun v b q => ?_)
  obtain ⟨rfl, rfl⟩ := q
  show rm_V _ _ 5 [.ref 3, .int (m), .int (i)] [.int (rm_b (rm_lt (m) nm))] _ _
  refine rm_ifB_eq (tgt := 39) dX8_read_5 (by decide) (fun h5 => ?_) (fun h5 => ?_)
  · refine rm_iconst (v := (-1 : Int32)) dX8_read_39 (by decide) ?_
    refine rm_iret dX8_read_40 rfl rfl ?_
    exact ⟨by unfold q_read; rw [h5]; rfl, rfl⟩
  · obtain ⟨m1, hm1, rfl⟩ := rm_lt_t h5 (by omega)
    refine rm_iload_n dX8_read_8 rfl rfl ?_
    refine rm_iconst (v := nI (0)) dX8_read_9 (by decide) ?_
    refine rm_aload_n dX8_read_10 rfl rfl ?_
    refine rm_getr 21 (t := 25) dX8_read_11 flX8_61 (by decide) rfl rfl ?_
    refine rm_iload_n dX8_read_14 rfl rfl ?_
    refine rm_iald (f := 21) (j := m1) (x := nI (rm_nv (a 25 m1))) dX8_read_15 rfl (by decide) rfl rfl (rfl) (show m1 < 8 from by omega) ((h25 m1 (by omega)).1) ?_
    refine rm_iconst (v := nI (1)) dX8_read_16 (by decide) ?_
    refine rm_isub dX8_read_17 ?_
    refine rm_top (y := (nI (rm_nv (a 25 m1)) - nI 1)) (rfl) ?_
    refine rm_callS (As := [.int (i), .int (nI (0)), .int ((nI (rm_nv (a 25 m1)) - nI 1))]) (st := []) dX8_read_18 csX8_82 rfl (by decide) (zv_cat_i [i, nI (0), (nI (rm_nv (a 25 m1)) - nI 1)]) (Nat.le_of_ble_eq_true rfl) (cM_in (d + 2) (a) (i) (nI (0)) ((nI (rm_nv (a 25 m1)) - nI 1))) (fun v b q => ?_)
    obtain ⟨rfl, rfl⟩ := q
    rw [rm_in0 i (n := rm_nv (a 25 m1)) (by have := (h25 m1 (by omega)).2; omega)]
    show rm_V _ _ 21 [.ref 3, .int (nI (m1)), .int (i)] [.int (rm_b (rm_lt i (rm_nv (a 25 m1))))] _ _
    refine rm_ifB_eq (tgt := 39) dX8_read_21 (by decide) (fun h21 => ?_) (fun h21 => ?_)
    · refine rm_iconst (v := (-1 : Int32)) dX8_read_39 (by decide) ?_
      refine rm_iret dX8_read_40 rfl rfl ?_
      exact ⟨by unfold q_read; rw [h5, if_pos rfl, rm_nv_n (n := m1) (by omega), h21]; rfl, rfl⟩
    · have hrb := (h25 m1 (by omega)).2
      obtain ⟨i1, hi1, rfl⟩ := rm_lt_t h21 (by omega)
      refine rm_aload_n dX8_read_24 rfl rfl ?_
      refine rm_getr 20 (t := 24) dX8_read_25 flX8_58 (by decide) rfl rfl ?_
      refine rm_sipush (v := nI (200)) dX8_read_28 (by decide) ?_
      refine rm_iload_n dX8_read_31 rfl rfl ?_
      refine rm_imul dX8_read_32 ?_
      refine rm_top (pk_mul (200) (m1)) ?_
      refine rm_iload_n dX8_read_33 rfl rfl ?_
      refine rm_iadd dX8_read_34 ?_
      refine rm_top (nI_add (200 * m1) (i1)) ?_
      refine rm_iald (f := 20) (j := 200 * m1 + i1) (x := (a 24 (200 * m1 + i1))) dX8_read_35 rfl (by decide) rfl rfl (rfl) (show 200 * m1 + i1 < 1600 from by omega) (rfl) ?_
      refine rm_goto (tgt := 40) dX8_read_36 (by decide) ?_
      refine rm_iret dX8_read_40 rfl rfl ?_
      exact ⟨by unfold q_read; rw [h5, if_pos rfl, rm_nv_n (n := m1) (by omega), h21]; rw [if_pos rfl, rm_nv_n (n := i1) (by have := (h25 m1 (by omega)).2; omega)], rfl⟩
def q_wk (a : zv_I) (m l k : Nat) : Nat → Int32
  | 0 => nI (k / 8)
  | 1 => nI (k % 8)
  | _ => rm_lk a m l (k / 8) (k % 8)
def q_wy (a : zv_I) (nc m l x : Nat) : Int32 := match rm_lkg a nc m l with
  | some k => q_wk a m l k x
  | none => if x < 2 then -2 else if rm_hor a m l = true then nI 1 else nI 0
def q_why (a : zv_I) (nm nc nl : Nat) (m l x : Int32) : Int32 := if (rm_lt m nm && (rm_lt l nl && rm_lt x 3)) = true then (if a 20 (200 * rm_nv m + rm_nv l) = nI 2 then q_wy a nc (rm_nv m) (rm_nv l) (rm_nv x) else -1) else -1
theorem cM_why (d : Nat) {a : zv_I} {nm nc nl : Nat} (hm : a 3 0 = nI nm) (hmb : nm ≤ 8) (hc : a 3 1 = nI nc) (hcb : nc ≤ 6) (hn : a 3 4 = nI nl) (hnb : nl ≤ 200) (hlw : ∀ l, l < nl → rm_lw a nc l) (m l x : Int32) : rm_V mX8_why (d + 4) 0 [.ref 3, .int m, .int l, .int x] [] a (rm_p (q_why a nm nc nl m l x) a) := by
  refine rm_aload_n dX8_why_0 rfl rfl ?_
  refine rm_iload_n dX8_why_1 rfl rfl ?_
  refine rm_callV (As := [.int (m)]) (st := []) dX8_why_2 cvX8_113 rfl rfl (by decide) (zv_cat_i [m]) (Nat.le_of_ble_eq_true rfl) (cM_isMember (d + 2) hm (by omega) (m)) (fun v b q => ?_)
  obtain ⟨rfl, rfl⟩ := q
  show rm_V _ _ 5 [.ref 3, .int (m), .int (l), .int (x)] [.int (rm_b (rm_lt (m) nm))] _ _
  refine rm_ifB_eq (tgt := 41) dX8_why_5 (by decide) (fun h5 => ?_) (fun h5 => ?_)
  · refine rm_iconst (v := (-1 : Int32)) dX8_why_41 (by decide) ?_
    refine rm_iret dX8_why_42 rfl rfl ?_
    exact ⟨by unfold q_why; rw [h5]; rw [if_neg (by simp)], rfl⟩
  · obtain ⟨m1, hm1, rfl⟩ := rm_lt_t h5 (by omega)
    refine rm_aload_n dX8_why_8 rfl rfl ?_
    refine rm_iload_n dX8_why_9 rfl rfl ?_
    refine rm_callV (As := [.int (l)]) (st := []) dX8_why_10 cvX8_142 rfl rfl (by decide) (zv_cat_i [l]) (Nat.le_of_ble_eq_true rfl) (cM_isLetter (d + 2) hn (by omega) (l)) (fun v b q => ?_)
    obtain ⟨rfl, rfl⟩ := q
    show rm_V _ _ 13 [.ref 3, .int (nI (m1)), .int (l), .int (x)] [.int (rm_b (rm_lt (l) nl))] _ _
    refine rm_ifB_eq (tgt := 41) dX8_why_13 (by decide) (fun h13 => ?_) (fun h13 => ?_)
    · refine rm_iconst (v := (-1 : Int32)) dX8_why_41 (by decide) ?_
      refine rm_iret dX8_why_42 rfl rfl ?_
      exact ⟨by unfold q_why; rw [h5, h13]; rw [if_neg (by simp)], rfl⟩
    · obtain ⟨l1, hl1, rfl⟩ := rm_lt_t h13 (by omega)
      refine rm_iload_n dX8_why_16 rfl rfl ?_
      refine rm_iconst (v := nI (0)) dX8_why_17 (by decide) ?_
      refine rm_iconst (v := nI (2)) dX8_why_18 (by decide) ?_
      refine rm_callS (As := [.int (x), .int (nI (0)), .int (nI (2))]) (st := []) dX8_why_19 csX8_82 rfl (by decide) (zv_cat_i [x, nI (0), nI (2)]) (Nat.le_of_ble_eq_true rfl) (cM_in (d + 3) (a) (x) (nI 0) (nI 2)) (fun v b q => ?_)
      obtain ⟨rfl, rfl⟩ := q
      rw [rm_in01 _ 2 (by decide)]
      show rm_V _ _ 22 [.ref 3, .int (nI (m1)), .int (nI (l1)), .int (x)] [.int (rm_b (rm_lt (x) 3))] _ _
      refine rm_ifB_eq (tgt := 41) dX8_why_22 (by decide) (fun h22 => ?_) (fun h22 => ?_)
      · refine rm_iconst (v := (-1 : Int32)) dX8_why_41 (by decide) ?_
        refine rm_iret dX8_why_42 rfl rfl ?_
        exact ⟨by unfold q_why; rw [h5, h13, h22]; rw [if_neg (by simp)], rfl⟩
      · obtain ⟨x1, hx1, rfl⟩ := rm_lt_t h22 (by omega)
        refine rm_aload_n dX8_why_25 rfl rfl ?_
        refine rm_getr 16 (t := 20) dX8_why_26 flX8_46 (by decide) rfl rfl ?_
        refine rm_sipush (v := nI (200)) dX8_why_29 (by decide) ?_
        refine rm_iload_n dX8_why_32 rfl rfl ?_
        refine rm_imul dX8_why_33 ?_
        refine rm_top (pk_mul (200) (m1)) ?_
        refine rm_iload_n dX8_why_34 rfl rfl ?_
        refine rm_iadd dX8_why_35 ?_
        refine rm_top (nI_add (200 * m1) (l1)) ?_
        refine rm_iald (f := 16) (j := 200 * m1 + l1) (x := (a 20 (200 * m1 + l1))) dX8_why_36 rfl (by decide) rfl rfl (rfl) (show 200 * m1 + l1 < 1600 from by omega) (rfl) ?_
        refine rm_iconst (v := nI (2)) dX8_why_37 (by decide) ?_
        refine rm_icmp_eq (tgt := 43) dX8_why_38 (by decide) (fun h38 => ?_) (fun h38 => ?_)
        · refine rm_aload_n dX8_why_43 rfl rfl ?_
          refine rm_iload_n dX8_why_44 rfl rfl ?_
          refine rm_iload_n dX8_why_45 rfl rfl ?_
          refine rm_callV (As := [.int (nI (m1)), .int (nI (l1))]) (st := []) dX8_why_46 cvX8_151 rfl rfl (by decide) (zv_cat_i [nI (m1), nI (l1)]) (Nat.le_of_ble_eq_true rfl) (cM_lacking (d + 1) hc hcb (r := m1) (l := l1) (by omega) (by omega)) (fun v b q => ?_)
          obtain ⟨rfl, rfl⟩ := q
          show rm_V _ _ 49 [.ref 3, .int (nI (m1)), .int (nI (l1)), .int (nI (x1))] [.int ((rm_o (rm_lkg a nc m1 l1)))] _ _
          cases hg : rm_lkg a nc m1 l1 with
          | none =>
            refine rm_istore (lv' := [.ref 3, .int (nI (m1)), .int (nI (l1)), .int (nI (x1)), .int ((-1 : Int32))]) dX8_why_49 (by decide) rfl ?_
            refine rm_iload dX8_why_51 rfl ?_
            refine rm_iconst (v := (-1 : Int32)) dX8_why_53 (by decide) ?_
            refine rm_icmp_eq (tgt := 99) dX8_why_54 (by decide) (fun h54 => ?_) (fun h54 => (absurd rfl h54))
            refine rm_iload_n dX8_why_99 rfl rfl ?_
            refine rm_iconst (v := nI (2)) dX8_why_100 (by decide) ?_
            refine rm_icN_ge (tgt := 109) dX8_why_101 (by decide) (by omega) (by omega) (fun h101 => ?_) (fun h101 => ?_)
            · refine rm_aload_n dX8_why_109 rfl rfl ?_
              refine rm_iload_n dX8_why_110 rfl rfl ?_
              refine rm_iload_n dX8_why_111 rfl rfl ?_
              refine rm_callV (As := [.int (nI (m1)), .int (nI (l1))]) (st := []) dX8_why_112 cvX8_155 rfl rfl (by decide) (zv_cat_i [nI (m1), nI (l1)]) (Nat.le_of_ble_eq_true rfl) (cM_hasOrder (d + 1) (nc := nc) hcb (r := m1) (l := l1) (by omega) (by omega) (hlw l1 (by omega))) (fun v b q => ?_)
              obtain ⟨rfl, rfl⟩ := q
              show rm_V _ _ 115 [.ref 3, .int (nI (m1)), .int (nI (l1)), .int (nI (x1)), .int ((-1 : Int32))] [.int (rm_b (rm_hor a m1 l1))] _ _
              refine rm_ifB_eq (tgt := 122) dX8_why_115 (by decide) (fun h115 => ?_) (fun h115 => ?_)
              · refine rm_iconst (v := nI (0)) dX8_why_122 (by decide) ?_
                refine rm_iret dX8_why_123 rfl rfl ?_
                exact ⟨by unfold q_why; rw [h5, h13, h22, if_pos (by rfl), rm_nv_n (n := m1) (by omega), rm_nv_n (n := l1) (by omega), rm_nv_n (n := x1) (by omega), if_pos h38]; unfold q_wy; rw [hg]; show some (Value.int _) = some (Value.int (if x1 < 2 then -2 else if rm_hor a m1 l1 = true then nI 1 else nI 0)); rw [if_neg (by omega), h115]; rfl, rfl⟩
              · refine rm_iconst (v := nI (1)) dX8_why_118 (by decide) ?_
                refine rm_goto (tgt := 123) dX8_why_119 (by decide) ?_
                refine rm_iret dX8_why_123 rfl rfl ?_
                exact ⟨by unfold q_why; rw [h5, h13, h22, if_pos (by rfl), rm_nv_n (n := m1) (by omega), rm_nv_n (n := l1) (by omega), rm_nv_n (n := x1) (by omega), if_pos h38]; unfold q_wy; rw [hg]; show some (Value.int _) = some (Value.int (if x1 < 2 then -2 else if rm_hor a m1 l1 = true then nI 1 else nI 0)); rw [if_neg (by omega), h115]; rfl, rfl⟩
            · refine rm_bipush (v := (-2 : Int32)) dX8_why_104 (by decide) ?_
              refine rm_goto (tgt := 123) dX8_why_106 (by decide) ?_
              refine rm_iret dX8_why_123 rfl rfl ?_
              exact ⟨by unfold q_why; rw [h5, h13, h22, if_pos (by rfl), rm_nv_n (n := m1) (by omega), rm_nv_n (n := l1) (by omega), rm_nv_n (n := x1) (by omega), if_pos h38]; unfold q_wy; rw [hg]; show some (Value.int _) = some (Value.int (if x1 < 2 then -2 else _)); rw [if_pos (by omega)], rfl⟩
          | some k =>
            have hk4 := (rm_fst_some hg).2.1
            refine rm_istore (lv' := [.ref 3, .int (nI (m1)), .int (nI (l1)), .int (nI (x1)), .int (nI (k))]) dX8_why_49 (by decide) rfl ?_
            refine rm_iload dX8_why_51 rfl ?_
            refine rm_iconst (v := (-1 : Int32)) dX8_why_53 (by decide) ?_
            refine rm_icmp_eq (tgt := 99) dX8_why_54 (by decide) (fun h54 => (absurd h54 (rm_ni1 (by omega)))) (fun h54 => ?_)
            refine rm_iload_n dX8_why_57 rfl rfl ?_
            refine rm_if_ne (tgt := 69) dX8_why_58 (by decide) (fun h58 => ?_) (fun h58 => ?_)
            · refine rm_iload_n dX8_why_69 rfl rfl ?_
              refine rm_iconst (v := nI (1)) dX8_why_70 (by decide) ?_
              refine rm_icN_ne (tgt := 82) dX8_why_71 (by decide) (by omega) (by omega) (fun h71 => ?_) (fun h71 => ?_)
              · refine rm_aload_n dX8_why_82 rfl rfl ?_
                refine rm_iload_n dX8_why_83 rfl rfl ?_
                refine rm_iload_n dX8_why_84 rfl rfl ?_
                refine rm_iload dX8_why_85 rfl ?_
                refine rm_bipush (v := nI (8)) dX8_why_87 (by decide) ?_
                refine rm_idiv dX8_why_89 (by decide) ?_
                refine rm_top (pk_div (a := k) (d := 8) (by omega) (by decide) (by decide)) ?_
                refine rm_iload dX8_why_90 rfl ?_
                refine rm_bipush (v := nI (8)) dX8_why_92 (by decide) ?_
                refine rm_irem dX8_why_94 (by decide) ?_
                refine rm_top (pk_rem (a := k) (d := 8) (by omega) (by decide) (by decide)) ?_
                refine rm_callV (As := [.int (nI (m1)), .int (nI (l1)), .int (nI (k / 8)), .int (nI (k % 8))]) (st := []) dX8_why_95 cvX8_145 rfl rfl (by decide) (zv_cat_i [nI (m1), nI (l1), nI (k / 8), nI (k % 8)]) (Nat.le_of_ble_eq_true rfl) (cM_lacks (d + 3) a (r := m1) (l := l1) (e := k / 8) (m := k % 8) (by omega) (by omega) (by omega) (by omega)) (fun v b q => ?_)
                obtain ⟨rfl, rfl⟩ := q
                show rm_V _ _ 98 [.ref 3, .int (nI (m1)), .int (nI (l1)), .int (nI (x1)), .int (nI (k))] [.int (rm_lk a m1 l1 (k / 8) (k % 8))] _ _
                refine rm_iret dX8_why_98 rfl rfl ?_
                exact ⟨by unfold q_why; rw [h5, h13, h22, if_pos (by rfl), rm_nv_n (n := m1) (by omega), rm_nv_n (n := l1) (by omega), rm_nv_n (n := x1) (by omega), if_pos h38]; unfold q_wy; rw [hg]; have := rm_nz0 (by omega) h58; rw [show x1 = 2 from by omega]; rfl, rfl⟩
              · refine rm_iload dX8_why_74 rfl ?_
                refine rm_bipush (v := nI (8)) dX8_why_76 (by decide) ?_
                refine rm_irem dX8_why_78 (by decide) ?_
                refine rm_top (pk_rem (a := k) (d := 8) (by omega) (by decide) (by decide)) ?_
                refine rm_goto (tgt := 98) dX8_why_79 (by decide) ?_
                refine rm_iret dX8_why_98 rfl rfl ?_
                exact ⟨by unfold q_why; rw [h5, h13, h22, if_pos (by rfl), rm_nv_n (n := m1) (by omega), rm_nv_n (n := l1) (by omega), rm_nv_n (n := x1) (by omega), if_pos h38]; unfold q_wy; rw [hg]; rw [show x1 = 1 from by omega]; rfl, rfl⟩
            · refine rm_iload dX8_why_61 rfl ?_
              refine rm_bipush (v := nI (8)) dX8_why_63 (by decide) ?_
              refine rm_idiv dX8_why_65 (by decide) ?_
              refine rm_top (pk_div (a := k) (d := 8) (by omega) (by decide) (by decide)) ?_
              refine rm_goto (tgt := 98) dX8_why_66 (by decide) ?_
              refine rm_iret dX8_why_98 rfl rfl ?_
              exact ⟨by unfold q_why; rw [h5, h13, h22, if_pos (by rfl), rm_nv_n (n := m1) (by omega), rm_nv_n (n := l1) (by omega), rm_nv_n (n := x1) (by omega), if_pos h38]; unfold q_wy; rw [hg]; rw [show x1 = 0 from rm_nz (by omega) h58]; rfl, rfl⟩
        · refine rm_iconst (v := (-1 : Int32)) dX8_why_41 (by decide) ?_
          refine rm_iret dX8_why_42 rfl rfl ?_
          exact ⟨by unfold q_why; rw [h5, h13, h22, if_pos (by rfl), rm_nv_n (n := m1) (by omega), rm_nv_n (n := l1) (by omega), rm_nv_n (n := x1) (by omega), if_neg h38], rfl⟩
end
