section
-- ===== PART A: goes FIRST, ahead of the names: the tables' words, and 'selects' of the private methods out of them =====
/-- a private method of a class that the tables say can be made, by its rows of tables_1 -/
def lw_okq (q : MethodName × Nat) : Prop := (q.1.cls ≠ "java/lang/invoke/MethodHandle" ∧ q.1.cls ≠ "java/lang/invoke/VarHandle") ∧ Cond.instantiable q.1.cls q.2 ∈ tables_1 ∧ Cond.privateMethod q.1 ∈ tables_1 ∧ Cond.instanceMethod q.1 ∈ tables_1
theorem lw_p0 : lw_okq (⟨"CelSheets$Reader", "takes", "(I)Z"⟩, 6) := ⟨⟨by decide +kernel, by decide +kernel⟩, List.mem_of_getElem? (i := 21) (by decide +kernel), List.mem_of_getElem? (i := 293) (by decide +kernel), List.mem_of_getElem? (i := 294) (by decide +kernel)⟩
theorem lw_p1 : lw_okq (⟨"CelSheets$Reader", "takesDrawing", "()Z"⟩, 6) := ⟨⟨by decide +kernel, by decide +kernel⟩, List.mem_of_getElem? (i := 21) (by decide +kernel), List.mem_of_getElem? (i := 297) (by decide +kernel), List.mem_of_getElem? (i := 298) (by decide +kernel)⟩
theorem lw_p2 : lw_okq (⟨"CelSheets$Reader", "takesLevel", "(I)Z"⟩, 6) := ⟨⟨by decide +kernel, by decide +kernel⟩, List.mem_of_getElem? (i := 21) (by decide +kernel), List.mem_of_getElem? (i := 301) (by decide +kernel), List.mem_of_getElem? (i := 302) (by decide +kernel)⟩
theorem lw_p3 : lw_okq (⟨"CelSheets$Reader", "takesWidth", "(I)Z"⟩, 6) := ⟨⟨by decide +kernel, by decide +kernel⟩, List.mem_of_getElem? (i := 21) (by decide +kernel), List.mem_of_getElem? (i := 309) (by decide +kernel), List.mem_of_getElem? (i := 310) (by decide +kernel)⟩
theorem lw_p4 : lw_okq (⟨"CelSheets$Reader", "takesItemOrEnd", "(I)Z"⟩, 6) := ⟨⟨by decide +kernel, by decide +kernel⟩, List.mem_of_getElem? (i := 21) (by decide +kernel), List.mem_of_getElem? (i := 317) (by decide +kernel), List.mem_of_getElem? (i := 318) (by decide +kernel)⟩
theorem lw_p5 : lw_okq (⟨"CelSheets$Reader", "takesItem", "(I)Z"⟩, 6) := ⟨⟨by decide +kernel, by decide +kernel⟩, List.mem_of_getElem? (i := 21) (by decide +kernel), List.mem_of_getElem? (i := 321) (by decide +kernel), List.mem_of_getElem? (i := 322) (by decide +kernel)⟩
theorem lw_p6 : lw_okq (⟨"CelSheets$Reader", "takesOpening", "()Z"⟩, 6) := ⟨⟨by decide +kernel, by decide +kernel⟩, List.mem_of_getElem? (i := 21) (by decide +kernel), List.mem_of_getElem? (i := 325) (by decide +kernel), List.mem_of_getElem? (i := 326) (by decide +kernel)⟩
theorem lw_p7 : lw_okq (⟨"CelSheets$Reader", "takesHold", "(I)Z"⟩, 6) := ⟨⟨by decide +kernel, by decide +kernel⟩, List.mem_of_getElem? (i := 21) (by decide +kernel), List.mem_of_getElem? (i := 333) (by decide +kernel), List.mem_of_getElem? (i := 334) (by decide +kernel)⟩
theorem lw_p8 : lw_okq (⟨"CelSheets$Reel", "append", "(I)V"⟩, 6) := ⟨⟨by decide +kernel, by decide +kernel⟩, List.mem_of_getElem? (i := 27) (by decide +kernel), List.mem_of_getElem? (i := 341) (by decide +kernel), List.mem_of_getElem? (i := 342) (by decide +kernel)⟩
theorem lw_p9 : lw_okq (⟨"CelSheets$Reader", "takesTimes", "(I)Z"⟩, 6) := ⟨⟨by decide +kernel, by decide +kernel⟩, List.mem_of_getElem? (i := 21) (by decide +kernel), List.mem_of_getElem? (i := 345) (by decide +kernel), List.mem_of_getElem? (i := 346) (by decide +kernel)⟩
theorem lw_p10 : lw_okq (⟨"CelSheets", "isDrawing", "(I)Z"⟩, 13) := ⟨⟨by decide +kernel, by decide +kernel⟩, List.mem_of_getElem? (i := 13) (by decide +kernel), List.mem_of_getElem? (i := 386) (by decide +kernel), List.mem_of_getElem? (i := 387) (by decide +kernel)⟩
theorem lw_p11 : lw_okq (⟨"CelSheets$Scene", "findMost", "()V"⟩, 7) := ⟨⟨by decide +kernel, by decide +kernel⟩, List.mem_of_getElem? (i := 86) (by decide +kernel), List.mem_of_getElem? (i := 394) (by decide +kernel), List.mem_of_getElem? (i := 395) (by decide +kernel)⟩
theorem lw_p12 : lw_okq (⟨"CelSheets$Scene", "countDrawing", "(I)V"⟩, 7) := ⟨⟨by decide +kernel, by decide +kernel⟩, List.mem_of_getElem? (i := 86) (by decide +kernel), List.mem_of_getElem? (i := 405) (by decide +kernel), List.mem_of_getElem? (i := 406) (by decide +kernel)⟩
theorem lw_p13 : lw_okq (⟨"CelSheets", "isLevel", "(I)Z"⟩, 13) := ⟨⟨by decide +kernel, by decide +kernel⟩, List.mem_of_getElem? (i := 13) (by decide +kernel), List.mem_of_getElem? (i := 416) (by decide +kernel), List.mem_of_getElem? (i := 417) (by decide +kernel)⟩
theorem lw_p14 : lw_okq (⟨"CelSheets$Shortest", "findLike", "(I)V"⟩, 7) := ⟨⟨by decide +kernel, by decide +kernel⟩, List.mem_of_getElem? (i := 144) (by decide +kernel), List.mem_of_getElem? (i := 432) (by decide +kernel), List.mem_of_getElem? (i := 433) (by decide +kernel)⟩
theorem lw_p15 : lw_okq (⟨"CelSheets$Shortest", "findPlain", "(I)V"⟩, 7) := ⟨⟨by decide +kernel, by decide +kernel⟩, List.mem_of_getElem? (i := 144) (by decide +kernel), List.mem_of_getElem? (i := 436) (by decide +kernel), List.mem_of_getElem? (i := 437) (by decide +kernel)⟩
def lw_privs_1 : List (MethodName × Nat) := [(⟨"CelSheets$Reader", "takes", "(I)Z"⟩, 6), (⟨"CelSheets$Reader", "takesDrawing", "()Z"⟩, 6), (⟨"CelSheets$Reader", "takesLevel", "(I)Z"⟩, 6), (⟨"CelSheets$Reader", "takesWidth", "(I)Z"⟩, 6), (⟨"CelSheets$Reader", "takesItemOrEnd", "(I)Z"⟩, 6), (⟨"CelSheets$Reader", "takesItem", "(I)Z"⟩, 6), (⟨"CelSheets$Reader", "takesOpening", "()Z"⟩, 6), (⟨"CelSheets$Reader", "takesHold", "(I)Z"⟩, 6), (⟨"CelSheets$Reel", "append", "(I)V"⟩, 6), (⟨"CelSheets$Reader", "takesTimes", "(I)Z"⟩, 6), (⟨"CelSheets", "isDrawing", "(I)Z"⟩, 13), (⟨"CelSheets$Scene", "findMost", "()V"⟩, 7), (⟨"CelSheets$Scene", "countDrawing", "(I)V"⟩, 7), (⟨"CelSheets", "isLevel", "(I)Z"⟩, 13), (⟨"CelSheets$Shortest", "findLike", "(I)V"⟩, 7), (⟨"CelSheets$Shortest", "findPlain", "(I)V"⟩, 7)]
theorem lw_r1 : ∀ q ∈ lw_privs_1, lw_okq q := List.forall_mem_cons.mpr ⟨lw_p0, List.forall_mem_cons.mpr ⟨lw_p1, List.forall_mem_cons.mpr ⟨lw_p2, List.forall_mem_cons.mpr ⟨lw_p3, List.forall_mem_cons.mpr ⟨lw_p4, List.forall_mem_cons.mpr ⟨lw_p5, List.forall_mem_cons.mpr ⟨lw_p6, List.forall_mem_cons.mpr ⟨lw_p7, List.forall_mem_cons.mpr ⟨lw_p8, List.forall_mem_cons.mpr ⟨lw_p9, List.forall_mem_cons.mpr ⟨lw_p10, List.forall_mem_cons.mpr ⟨lw_p11, List.forall_mem_cons.mpr ⟨lw_p12, List.forall_mem_cons.mpr ⟨lw_p13, List.forall_mem_cons.mpr ⟨lw_p14, List.forall_mem_cons.mpr ⟨lw_p15, fun _ h => absurd h List.not_mem_nil⟩⟩⟩⟩⟩⟩⟩⟩⟩⟩⟩⟩⟩⟩⟩⟩
theorem lw_p16 : lw_okq (⟨"CelSheets$Shortest", "findItems", "([III)V"⟩, 7) := ⟨⟨by decide +kernel, by decide +kernel⟩, List.mem_of_getElem? (i := 144) (by decide +kernel), List.mem_of_getElem? (i := 440) (by decide +kernel), List.mem_of_getElem? (i := 441) (by decide +kernel)⟩
theorem lw_p17 : lw_okq (⟨"CelSheets$Shortest", "findOnce", "(I)V"⟩, 7) := ⟨⟨by decide +kernel, by decide +kernel⟩, List.mem_of_getElem? (i := 144) (by decide +kernel), List.mem_of_getElem? (i := 444) (by decide +kernel), List.mem_of_getElem? (i := 445) (by decide +kernel)⟩
theorem lw_p18 : lw_okq (⟨"CelSheets$Shortest", "findTwice", "(I)V"⟩, 7) := ⟨⟨by decide +kernel, by decide +kernel⟩, List.mem_of_getElem? (i := 144) (by decide +kernel), List.mem_of_getElem? (i := 448) (by decide +kernel), List.mem_of_getElem? (i := 449) (by decide +kernel)⟩
theorem lw_p19 : lw_okq (⟨"CelSheets", "hasPan", "(I)Z"⟩, 13) := ⟨⟨by decide +kernel, by decide +kernel⟩, List.mem_of_getElem? (i := 13) (by decide +kernel), List.mem_of_getElem? (i := 464) (by decide +kernel), List.mem_of_getElem? (i := 465) (by decide +kernel)⟩
theorem lw_p20 : lw_okq (⟨"CelSheets$Acts", "forgetFirst", "()V"⟩, 2) := ⟨⟨by decide +kernel, by decide +kernel⟩, List.mem_of_getElem? (i := 196) (by decide +kernel), List.mem_of_getElem? (i := 486) (by decide +kernel), List.mem_of_getElem? (i := 487) (by decide +kernel)⟩
theorem lw_p21 : lw_okq (⟨"CelSheets$Scene", "covers", "(IIII)Z"⟩, 7) := ⟨⟨by decide +kernel, by decide +kernel⟩, List.mem_of_getElem? (i := 86) (by decide +kernel), List.mem_of_getElem? (i := 566) (by decide +kernel), List.mem_of_getElem? (i := 567) (by decide +kernel)⟩
theorem lw_p22 : lw_okq (⟨"CelSheets$Scene", "viewBecomes", "(I)Z"⟩, 7) := ⟨⟨by decide +kernel, by decide +kernel⟩, List.mem_of_getElem? (i := 86) (by decide +kernel), List.mem_of_getElem? (i := 579) (by decide +kernel), List.mem_of_getElem? (i := 580) (by decide +kernel)⟩
theorem lw_p23 : lw_okq (⟨"CelSheets", "firstThatCanNotBe", "(IJ)I"⟩, 13) := ⟨⟨by decide +kernel, by decide +kernel⟩, List.mem_of_getElem? (i := 13) (by decide +kernel), List.mem_of_getElem? (i := 594) (by decide +kernel), List.mem_of_getElem? (i := 595) (by decide +kernel)⟩
theorem lw_p24 : lw_okq (⟨"CelSheets", "comesTrue", "(I)Z"⟩, 13) := ⟨⟨by decide +kernel, by decide +kernel⟩, List.mem_of_getElem? (i := 13) (by decide +kernel), List.mem_of_getElem? (i := 598) (by decide +kernel), List.mem_of_getElem? (i := 599) (by decide +kernel)⟩
theorem lw_p25 : lw_okq (⟨"CelSheets", "delayForNow", "(II)Z"⟩, 13) := ⟨⟨by decide +kernel, by decide +kernel⟩, List.mem_of_getElem? (i := 13) (by decide +kernel), List.mem_of_getElem? (i := 602) (by decide +kernel), List.mem_of_getElem? (i := 603) (by decide +kernel)⟩
theorem lw_p26 : lw_okq (⟨"CelSheets", "redrawForNow", "(III)Z"⟩, 13) := ⟨⟨by decide +kernel, by decide +kernel⟩, List.mem_of_getElem? (i := 13) (by decide +kernel), List.mem_of_getElem? (i := 606) (by decide +kernel), List.mem_of_getElem? (i := 607) (by decide +kernel)⟩
theorem lw_p27 : lw_okq (⟨"CelSheets$Scene", "levelCovers", "(III)Z"⟩, 7) := ⟨⟨by decide +kernel, by decide +kernel⟩, List.mem_of_getElem? (i := 86) (by decide +kernel), List.mem_of_getElem? (i := 644) (by decide +kernel), List.mem_of_getElem? (i := 645) (by decide +kernel)⟩
theorem lw_p28 : lw_okq (⟨"CelSheets", "keptIn", "(I)LCelSheets$Setting;"⟩, 13) := ⟨⟨by decide +kernel, by decide +kernel⟩, List.mem_of_getElem? (i := 13) (by decide +kernel), List.mem_of_getElem? (i := 677) (by decide +kernel), List.mem_of_getElem? (i := 678) (by decide +kernel)⟩
theorem lw_p29 : lw_okq (⟨"CelSheetsModel", "readReel", "()I"⟩, 28) := ⟨⟨by decide +kernel, by decide +kernel⟩, List.mem_of_getElem? (i := 689) (by decide +kernel), List.mem_of_getElem? (i := 799) (by decide +kernel), List.mem_of_getElem? (i := 800) (by decide +kernel)⟩
theorem lw_p30 : lw_okq (⟨"CelSheetsModel", "readDrawing", "()Z"⟩, 28) := ⟨⟨by decide +kernel, by decide +kernel⟩, List.mem_of_getElem? (i := 689) (by decide +kernel), List.mem_of_getElem? (i := 803) (by decide +kernel), List.mem_of_getElem? (i := 804) (by decide +kernel)⟩
theorem lw_p31 : lw_okq (⟨"CelSheetsModel", "figure", "(II)I"⟩, 28) := ⟨⟨by decide +kernel, by decide +kernel⟩, List.mem_of_getElem? (i := 689) (by decide +kernel), List.mem_of_getElem? (i := 807) (by decide +kernel), List.mem_of_getElem? (i := 808) (by decide +kernel)⟩
def lw_privs_2 : List (MethodName × Nat) := [(⟨"CelSheets$Shortest", "findItems", "([III)V"⟩, 7), (⟨"CelSheets$Shortest", "findOnce", "(I)V"⟩, 7), (⟨"CelSheets$Shortest", "findTwice", "(I)V"⟩, 7), (⟨"CelSheets", "hasPan", "(I)Z"⟩, 13), (⟨"CelSheets$Acts", "forgetFirst", "()V"⟩, 2), (⟨"CelSheets$Scene", "covers", "(IIII)Z"⟩, 7), (⟨"CelSheets$Scene", "viewBecomes", "(I)Z"⟩, 7), (⟨"CelSheets", "firstThatCanNotBe", "(IJ)I"⟩, 13), (⟨"CelSheets", "comesTrue", "(I)Z"⟩, 13), (⟨"CelSheets", "delayForNow", "(II)Z"⟩, 13), (⟨"CelSheets", "redrawForNow", "(III)Z"⟩, 13), (⟨"CelSheets$Scene", "levelCovers", "(III)Z"⟩, 7), (⟨"CelSheets", "keptIn", "(I)LCelSheets$Setting;"⟩, 13), (⟨"CelSheetsModel", "readReel", "()I"⟩, 28), (⟨"CelSheetsModel", "readDrawing", "()Z"⟩, 28), (⟨"CelSheetsModel", "figure", "(II)I"⟩, 28)]
theorem lw_r2 : ∀ q ∈ lw_privs_2, lw_okq q := List.forall_mem_cons.mpr ⟨lw_p16, List.forall_mem_cons.mpr ⟨lw_p17, List.forall_mem_cons.mpr ⟨lw_p18, List.forall_mem_cons.mpr ⟨lw_p19, List.forall_mem_cons.mpr ⟨lw_p20, List.forall_mem_cons.mpr ⟨lw_p21, List.forall_mem_cons.mpr ⟨lw_p22, List.forall_mem_cons.mpr ⟨lw_p23, List.forall_mem_cons.mpr ⟨lw_p24, List.forall_mem_cons.mpr ⟨lw_p25, List.forall_mem_cons.mpr ⟨lw_p26, List.forall_mem_cons.mpr ⟨lw_p27, List.forall_mem_cons.mpr ⟨lw_p28, List.forall_mem_cons.mpr ⟨lw_p29, List.forall_mem_cons.mpr ⟨lw_p30, List.forall_mem_cons.mpr ⟨lw_p31, fun _ h => absurd h List.not_mem_nil⟩⟩⟩⟩⟩⟩⟩⟩⟩⟩⟩⟩⟩⟩⟩⟩
theorem lw_p32 : lw_okq (⟨"CelSheetsModel", "readSheet", "()Z"⟩, 28) := ⟨⟨by decide +kernel, by decide +kernel⟩, List.mem_of_getElem? (i := 689) (by decide +kernel), List.mem_of_getElem? (i := 811) (by decide +kernel), List.mem_of_getElem? (i := 812) (by decide +kernel)⟩
theorem lw_p33 : lw_okq (⟨"CelSheetsModel", "over", "(II)V"⟩, 28) := ⟨⟨by decide +kernel, by decide +kernel⟩, List.mem_of_getElem? (i := 689) (by decide +kernel), List.mem_of_getElem? (i := 815) (by decide +kernel), List.mem_of_getElem? (i := 816) (by decide +kernel)⟩
theorem lw_p34 : lw_okq (⟨"CelSheetsModel", "spread", "(II)V"⟩, 28) := ⟨⟨by decide +kernel, by decide +kernel⟩, List.mem_of_getElem? (i := 689) (by decide +kernel), List.mem_of_getElem? (i := 819) (by decide +kernel), List.mem_of_getElem? (i := 820) (by decide +kernel)⟩
theorem lw_p35 : lw_okq (⟨"CelSheetsModel", "noDrawing", "(I)Z"⟩, 28) := ⟨⟨by decide +kernel, by decide +kernel⟩, List.mem_of_getElem? (i := 689) (by decide +kernel), List.mem_of_getElem? (i := 831) (by decide +kernel), List.mem_of_getElem? (i := 832) (by decide +kernel)⟩
theorem lw_p36 : lw_okq (⟨"CelSheetsModel", "mostOf", "([II)I"⟩, 28) := ⟨⟨by decide +kernel, by decide +kernel⟩, List.mem_of_getElem? (i := 689) (by decide +kernel), List.mem_of_getElem? (i := 835) (by decide +kernel), List.mem_of_getElem? (i := 836) (by decide +kernel)⟩
theorem lw_p37 : lw_okq (⟨"CelSheetsModel", "exposedOn", "([III)I"⟩, 28) := ⟨⟨by decide +kernel, by decide +kernel⟩, List.mem_of_getElem? (i := 689) (by decide +kernel), List.mem_of_getElem? (i := 839) (by decide +kernel), List.mem_of_getElem? (i := 840) (by decide +kernel)⟩
theorem lw_p38 : lw_okq (⟨"CelSheetsModel", "noLevel", "(I)Z"⟩, 28) := ⟨⟨by decide +kernel, by decide +kernel⟩, List.mem_of_getElem? (i := 689) (by decide +kernel), List.mem_of_getElem? (i := 847) (by decide +kernel), List.mem_of_getElem? (i := 848) (by decide +kernel)⟩
theorem lw_p39 : lw_okq (⟨"CelSheetsModel", "shortest", "(I)I"⟩, 28) := ⟨⟨by decide +kernel, by decide +kernel⟩, List.mem_of_getElem? (i := 689) (by decide +kernel), List.mem_of_getElem? (i := 851) (by decide +kernel), List.mem_of_getElem? (i := 852) (by decide +kernel)⟩
theorem lw_p40 : lw_okq (⟨"CelSheetsModel", "layLike", "(I)V"⟩, 28) := ⟨⟨by decide +kernel, by decide +kernel⟩, List.mem_of_getElem? (i := 689) (by decide +kernel), List.mem_of_getElem? (i := 855) (by decide +kernel), List.mem_of_getElem? (i := 856) (by decide +kernel)⟩
theorem lw_p41 : lw_okq (⟨"CelSheetsModel", "itemOf", "(III)I"⟩, 28) := ⟨⟨by decide +kernel, by decide +kernel⟩, List.mem_of_getElem? (i := 689) (by decide +kernel), List.mem_of_getElem? (i := 859) (by decide +kernel), List.mem_of_getElem? (i := 860) (by decide +kernel)⟩
theorem lw_p42 : lw_okq (⟨"CelSheetsModel", "bestDelay", "(I)I"⟩, 28) := ⟨⟨by decide +kernel, by decide +kernel⟩, List.mem_of_getElem? (i := 689) (by decide +kernel), List.mem_of_getElem? (i := 863) (by decide +kernel), List.mem_of_getElem? (i := 864) (by decide +kernel)⟩
theorem lw_p43 : lw_okq (⟨"CelSheetsModel", "layTrial", "()V"⟩, 28) := ⟨⟨by decide +kernel, by decide +kernel⟩, List.mem_of_getElem? (i := 689) (by decide +kernel), List.mem_of_getElem? (i := 867) (by decide +kernel), List.mem_of_getElem? (i := 868) (by decide +kernel)⟩
theorem lw_p44 : lw_okq (⟨"CelSheetsModel", "cels", "([I)I"⟩, 28) := ⟨⟨by decide +kernel, by decide +kernel⟩, List.mem_of_getElem? (i := 689) (by decide +kernel), List.mem_of_getElem? (i := 871) (by decide +kernel), List.mem_of_getElem? (i := 872) (by decide +kernel)⟩
theorem lw_p45 : lw_okq (⟨"CelSheetsModel", "note", "()V"⟩, 28) := ⟨⟨by decide +kernel, by decide +kernel⟩, List.mem_of_getElem? (i := 689) (by decide +kernel), List.mem_of_getElem? (i := 892) (by decide +kernel), List.mem_of_getElem? (i := 893) (by decide +kernel)⟩
theorem lw_p46 : lw_okq (⟨"CelSheetsModel", "isOrder", "(I)Z"⟩, 28) := ⟨⟨by decide +kernel, by decide +kernel⟩, List.mem_of_getElem? (i := 689) (by decide +kernel), List.mem_of_getElem? (i := 911) (by decide +kernel), List.mem_of_getElem? (i := 912) (by decide +kernel)⟩
theorem lw_p47 : lw_okq (⟨"CelSheetsModel", "every", "()I"⟩, 28) := ⟨⟨by decide +kernel, by decide +kernel⟩, List.mem_of_getElem? (i := 689) (by decide +kernel), List.mem_of_getElem? (i := 918) (by decide +kernel), List.mem_of_getElem? (i := 919) (by decide +kernel)⟩
def lw_privs_3 : List (MethodName × Nat) := [(⟨"CelSheetsModel", "readSheet", "()Z"⟩, 28), (⟨"CelSheetsModel", "over", "(II)V"⟩, 28), (⟨"CelSheetsModel", "spread", "(II)V"⟩, 28), (⟨"CelSheetsModel", "noDrawing", "(I)Z"⟩, 28), (⟨"CelSheetsModel", "mostOf", "([II)I"⟩, 28), (⟨"CelSheetsModel", "exposedOn", "([III)I"⟩, 28), (⟨"CelSheetsModel", "noLevel", "(I)Z"⟩, 28), (⟨"CelSheetsModel", "shortest", "(I)I"⟩, 28), (⟨"CelSheetsModel", "layLike", "(I)V"⟩, 28), (⟨"CelSheetsModel", "itemOf", "(III)I"⟩, 28), (⟨"CelSheetsModel", "bestDelay", "(I)I"⟩, 28), (⟨"CelSheetsModel", "layTrial", "()V"⟩, 28), (⟨"CelSheetsModel", "cels", "([I)I"⟩, 28), (⟨"CelSheetsModel", "note", "()V"⟩, 28), (⟨"CelSheetsModel", "isOrder", "(I)Z"⟩, 28), (⟨"CelSheetsModel", "every", "()I"⟩, 28)]
theorem lw_r3 : ∀ q ∈ lw_privs_3, lw_okq q := List.forall_mem_cons.mpr ⟨lw_p32, List.forall_mem_cons.mpr ⟨lw_p33, List.forall_mem_cons.mpr ⟨lw_p34, List.forall_mem_cons.mpr ⟨lw_p35, List.forall_mem_cons.mpr ⟨lw_p36, List.forall_mem_cons.mpr ⟨lw_p37, List.forall_mem_cons.mpr ⟨lw_p38, List.forall_mem_cons.mpr ⟨lw_p39, List.forall_mem_cons.mpr ⟨lw_p40, List.forall_mem_cons.mpr ⟨lw_p41, List.forall_mem_cons.mpr ⟨lw_p42, List.forall_mem_cons.mpr ⟨lw_p43, List.forall_mem_cons.mpr ⟨lw_p44, List.forall_mem_cons.mpr ⟨lw_p45, List.forall_mem_cons.mpr ⟨lw_p46, List.forall_mem_cons.mpr ⟨lw_p47, fun _ h => absurd h List.not_mem_nil⟩⟩⟩⟩⟩⟩⟩⟩⟩⟩⟩⟩⟩⟩⟩⟩
theorem lw_p48 : lw_okq (⟨"CelSheetsModel", "orderAt", "([II)I"⟩, 28) := ⟨⟨by decide +kernel, by decide +kernel⟩, List.mem_of_getElem? (i := 689) (by decide +kernel), List.mem_of_getElem? (i := 938) (by decide +kernel), List.mem_of_getElem? (i := 939) (by decide +kernel)⟩
theorem lw_p49 : lw_okq (⟨"CelSheetsModel", "firstOrder", "()I"⟩, 28) := ⟨⟨by decide +kernel, by decide +kernel⟩, List.mem_of_getElem? (i := 689) (by decide +kernel), List.mem_of_getElem? (i := 942) (by decide +kernel), List.mem_of_getElem? (i := 943) (by decide +kernel)⟩
theorem lw_p50 : lw_okq (⟨"CelSheetsModel", "lookBy", "([IIIII)I"⟩, 28) := ⟨⟨by decide +kernel, by decide +kernel⟩, List.mem_of_getElem? (i := 689) (by decide +kernel), List.mem_of_getElem? (i := 950) (by decide +kernel), List.mem_of_getElem? (i := 951) (by decide +kernel)⟩
theorem lw_p51 : lw_okq (⟨"CelSheetsModel", "changes", "()I"⟩, 28) := ⟨⟨by decide +kernel, by decide +kernel⟩, List.mem_of_getElem? (i := 689) (by decide +kernel), List.mem_of_getElem? (i := 961) (by decide +kernel), List.mem_of_getElem? (i := 962) (by decide +kernel)⟩
theorem lw_p52 : lw_okq (⟨"CelSheetsModel", "does", "(IIII)Z"⟩, 28) := ⟨⟨by decide +kernel, by decide +kernel⟩, List.mem_of_getElem? (i := 689) (by decide +kernel), List.mem_of_getElem? (i := 974) (by decide +kernel), List.mem_of_getElem? (i := 975) (by decide +kernel)⟩
theorem lw_p53 : lw_okq (⟨"CelSheetsModel", "coveredBy", "(I)I"⟩, 28) := ⟨⟨by decide +kernel, by decide +kernel⟩, List.mem_of_getElem? (i := 689) (by decide +kernel), List.mem_of_getElem? (i := 1001) (by decide +kernel), List.mem_of_getElem? (i := 1002) (by decide +kernel)⟩
def lw_privs_4 : List (MethodName × Nat) := [(⟨"CelSheetsModel", "orderAt", "([II)I"⟩, 28), (⟨"CelSheetsModel", "firstOrder", "()I"⟩, 28), (⟨"CelSheetsModel", "lookBy", "([IIIII)I"⟩, 28), (⟨"CelSheetsModel", "changes", "()I"⟩, 28), (⟨"CelSheetsModel", "does", "(IIII)Z"⟩, 28), (⟨"CelSheetsModel", "coveredBy", "(I)I"⟩, 28)]
theorem lw_r4 : ∀ q ∈ lw_privs_4, lw_okq q := List.forall_mem_cons.mpr ⟨lw_p48, List.forall_mem_cons.mpr ⟨lw_p49, List.forall_mem_cons.mpr ⟨lw_p50, List.forall_mem_cons.mpr ⟨lw_p51, List.forall_mem_cons.mpr ⟨lw_p52, List.forall_mem_cons.mpr ⟨lw_p53, fun _ h => absurd h List.not_mem_nil⟩⟩⟩⟩⟩⟩
def lw_privs : List (MethodName × Nat) := lw_privs_1 ++ (lw_privs_2 ++ (lw_privs_3 ++ (lw_privs_4)))
def lw_tbl : List Cond := k2_sels lw_privs ++ tables_1
theorem lw_privs_ok : ∀ q ∈ lw_privs, lw_okq q := by
  show ∀ q ∈ lw_privs_1 ++ (lw_privs_2 ++ (lw_privs_3 ++ (lw_privs_4))), lw_okq q
  exact List.forall_mem_append.mpr ⟨lw_r1, List.forall_mem_append.mpr ⟨lw_r2, List.forall_mem_append.mpr ⟨lw_r3, lw_r4⟩⟩⟩
-- ===== end of PART A; then your names; then what follows =====
def RX0 : String := "CelSheets$Acts"
def TX0 : u_T := fun k => match k with
  | 0 => ("CelSheets$Acts", "size", "I", false)
  | _ => ("CelSheets$Acts", "row", "[I", true)
def tyX0 : Nat → FieldType := fun k => match k with
  | 0 => .int
  | _ => .array .int
abbrev wsX00 : List Cond := u_ws RX0 TX0 2
theorem nmX0 : ∀ a, a < 2 → ∀ b, b < 2 → a ≠ b → (TX0 a).2.1 ≠ (TX0 b).2.1 := by decide +kernel
theorem tyX0_ok : ∀ k, k < 2 → parseFieldDescriptor (TX0 k).2.2.1 = some (tyX0 k) := by decide +kernel
abbrev cX0_init : ByteArray := prog_2_method_1_code
def yX0_init : MethodName := ⟨RX0, "<init>", "()V"⟩
abbrev cX0_clear : ByteArray := prog_2_method_2_code
def yX0_clear : MethodName := ⟨RX0, "clear", "()V"⟩
abbrev cX0_add : ByteArray := prog_2_method_3_code
def yX0_add : MethodName := ⟨RX0, "add", "(IIIII)V"⟩
abbrev cX0_forgetFirst : ByteArray := prog_2_method_4_code
def yX0_forgetFirst : MethodName := ⟨RX0, "forgetFirst", "()V"⟩
abbrev cX0_takeBackLast : ByteArray := prog_2_method_5_code
def yX0_takeBackLast : MethodName := ⟨RX0, "takeBackLast", "(LCelSheets$Setting;)V"⟩
def RX1 : String := "CelSheets$Reader"
def TX1 : u_T := fun k => match k with
  | 0 => ("CelSheets$Reader", "draft", "LCelSheets$Reel;", true)
  | 1 => ("CelSheets$Reader", "awaited", "I", false)
  | 2 => ("CelSheets$Reader", "depth", "I", false)
  | 3 => ("CelSheets$Reader", "x", "I", false)
  | 4 => ("CelSheets$Reader", "held", "I", false)
  | _ => ("CelSheets$Reader", "openedAt", "[I", true)
def tyX1 : Nat → FieldType := fun k => match k with
  | 0 => .object "CelSheets$Reel"
  | 1 => .int
  | 2 => .int
  | 3 => .int
  | 4 => .int
  | _ => .array .int
abbrev wsX10 : List Cond := u_ws RX1 TX1 6
theorem nmX1 : ∀ a, a < 6 → ∀ b, b < 6 → a ≠ b → (TX1 a).2.1 ≠ (TX1 b).2.1 := by decide +kernel
theorem tyX1_ok : ∀ k, k < 6 → parseFieldDescriptor (TX1 k).2.2.1 = some (tyX1 k) := by decide +kernel
abbrev cX1_init : ByteArray := prog_3_method_1_code
def yX1_init : MethodName := ⟨RX1, "<init>", "()V"⟩
abbrev cX1_firstFault : ByteArray := prog_3_method_2_code
def yX1_firstFault : MethodName := ⟨RX1, "firstFault", "([II)I"⟩
abbrev cX1_takes : ByteArray := prog_3_method_3_code
def yX1_takes : MethodName := ⟨RX1, "takes", "(I)Z"⟩
abbrev cX1_takesDrawing : ByteArray := prog_3_method_4_code
def yX1_takesDrawing : MethodName := ⟨RX1, "takesDrawing", "()Z"⟩
abbrev cX1_takesWidth : ByteArray := prog_3_method_5_code
def yX1_takesWidth : MethodName := ⟨RX1, "takesWidth", "(I)Z"⟩
abbrev cX1_takesLevel : ByteArray := prog_3_method_6_code
def yX1_takesLevel : MethodName := ⟨RX1, "takesLevel", "(I)Z"⟩
abbrev cX1_takesItemOrEnd : ByteArray := prog_3_method_7_code
def yX1_takesItemOrEnd : MethodName := ⟨RX1, "takesItemOrEnd", "(I)Z"⟩
abbrev cX1_takesItem : ByteArray := prog_3_method_8_code
def yX1_takesItem : MethodName := ⟨RX1, "takesItem", "(I)Z"⟩
abbrev cX1_takesOpening : ByteArray := prog_3_method_9_code
def yX1_takesOpening : MethodName := ⟨RX1, "takesOpening", "()Z"⟩
abbrev cX1_takesHold : ByteArray := prog_3_method_10_code
def yX1_takesHold : MethodName := ⟨RX1, "takesHold", "(I)Z"⟩
abbrev cX1_takesTimes : ByteArray := prog_3_method_11_code
def yX1_takesTimes : MethodName := ⟨RX1, "takesTimes", "(I)Z"⟩
def RX2 : String := "CelSheets$Reel"
def TX2 : u_T := fun k => match k with
  | 0 => ("CelSheets$Reel", "drawings", "I", false)
  | 1 => ("CelSheets$Reel", "levels", "I", false)
  | 2 => ("CelSheets$Reel", "firstXs", "[I", true)
  | 3 => ("CelSheets$Reel", "firstWidths", "[I", true)
  | 4 => ("CelSheets$Reel", "longs", "[I", true)
  | _ => ("CelSheets$Reel", "sheets", "[I", true)
def tyX2 : Nat → FieldType := fun k => match k with
  | 0 => .int
  | 1 => .int
  | 2 => .array .int
  | 3 => .array .int
  | 4 => .array .int
  | _ => .array .int
abbrev wsX20 : List Cond := u_ws RX2 TX2 6
theorem nmX2 : ∀ a, a < 6 → ∀ b, b < 6 → a ≠ b → (TX2 a).2.1 ≠ (TX2 b).2.1 := by decide +kernel
theorem tyX2_ok : ∀ k, k < 6 → parseFieldDescriptor (TX2 k).2.2.1 = some (tyX2 k) := by decide +kernel
abbrev cX2_init : ByteArray := prog_4_method_1_code
def yX2_init : MethodName := ⟨RX2, "<init>", "()V"⟩
abbrev cX2_clear : ByteArray := prog_4_method_2_code
def yX2_clear : MethodName := ⟨RX2, "clear", "()V"⟩
abbrev cX2_addDrawing : ByteArray := prog_4_method_3_code
def yX2_addDrawing : MethodName := ⟨RX2, "addDrawing", "(II)V"⟩
abbrev cX2_addLevel : ByteArray := prog_4_method_4_code
def yX2_addLevel : MethodName := ⟨RX2, "addLevel", "()V"⟩
abbrev cX2_lastLong : ByteArray := prog_4_method_5_code
def yX2_lastLong : MethodName := ⟨RX2, "lastLong", "()I"⟩
abbrev cX2_hold : ByteArray := prog_4_method_6_code
def yX2_hold : MethodName := ⟨RX2, "hold", "(II)V"⟩
abbrev cX2_repeatFrom : ByteArray := prog_4_method_7_code
def yX2_repeatFrom : MethodName := ⟨RX2, "repeatFrom", "(II)V"⟩
abbrev cX2_append : ByteArray := prog_4_method_8_code
def yX2_append : MethodName := ⟨RX2, "append", "(I)V"⟩
abbrev cX2_copyFrom : ByteArray := prog_4_method_9_code
def yX2_copyFrom : MethodName := ⟨RX2, "copyFrom", "(LCelSheets$Reel;)V"⟩
def RX3 : String := "CelSheets$Scene"
def TX3 : u_T := fun k => match k with
  | 0 => ("CelSheets$Scene", "reel", "LCelSheets$Reel;", true)
  | 1 => ("CelSheets$Scene", "setting", "LCelSheets$Setting;", true)
  | 2 => ("CelSheets$Scene", "shortest", "LCelSheets$Shortest;", true)
  | 3 => ("CelSheets$Scene", "shorts", "[I", true)
  | 4 => ("CelSheets$Scene", "view", "[I", true)
  | 5 => ("CelSheets$Scene", "atOnce", "[I", true)
  | _ => ("CelSheets$Scene", "most", "[I", true)
def tyX3 : Nat → FieldType := fun k => match k with
  | 0 => .object "CelSheets$Reel"
  | 1 => .object "CelSheets$Setting"
  | 2 => .object "CelSheets$Shortest"
  | 3 => .array .int
  | 4 => .array .int
  | 5 => .array .int
  | _ => .array .int
abbrev wsX30 : List Cond := u_ws RX3 TX3 7
theorem nmX3 : ∀ a, a < 7 → ∀ b, b < 7 → a ≠ b → (TX3 a).2.1 ≠ (TX3 b).2.1 := by decide +kernel
theorem tyX3_ok : ∀ k, k < 7 → parseFieldDescriptor (TX3 k).2.2.1 = some (tyX3 k) := by decide +kernel
abbrev cX3_init : ByteArray := prog_5_method_1_code
def yX3_init : MethodName := ⟨RX3, "<init>", "()V"⟩
abbrev cX3_forgetShorts : ByteArray := prog_5_method_2_code
def yX3_forgetShorts : MethodName := ⟨RX3, "forgetShorts", "()V"⟩
abbrev cX3_drawingOn : ByteArray := prog_5_method_3_code
def yX3_drawingOn : MethodName := ⟨RX3, "drawingOn", "(II)I"⟩
abbrev cX3_isOrder : ByteArray := prog_5_method_4_code
def yX3_isOrder : MethodName := ⟨RX3, "isOrder", "(I)Z"⟩
abbrev cX3_levelInOrder : ByteArray := prog_5_method_5_code
def yX3_levelInOrder : MethodName := ⟨RX3, "levelInOrder", "(II)I"⟩
abbrev cX3_orderAt : ByteArray := prog_5_method_6_code
def yX3_orderAt : MethodName := ⟨RX3, "orderAt", "(I)I"⟩
abbrev cX3_covers : ByteArray := prog_5_method_7_code
def yX3_covers : MethodName := ⟨RX3, "covers", "(IIII)Z"⟩
abbrev cX3_levelCovers : ByteArray := prog_5_method_8_code
def yX3_levelCovers : MethodName := ⟨RX3, "levelCovers", "(III)Z"⟩
abbrev cX3_seenAt : ByteArray := prog_5_method_9_code
def yX3_seenAt : MethodName := ⟨RX3, "seenAt", "(III)I"⟩
abbrev cX3_levelsCovering : ByteArray := prog_5_method_10_code
def yX3_levelsCovering : MethodName := ⟨RX3, "levelsCovering", "(II)I"⟩
abbrev cX3_changes : ByteArray := prog_5_method_11_code
def yX3_changes : MethodName := ⟨RX3, "changes", "()I"⟩
abbrev cX3_viewBecomes : ByteArray := prog_5_method_12_code
def yX3_viewBecomes : MethodName := ⟨RX3, "viewBecomes", "(I)Z"⟩
abbrev cX3_cels : ByteArray := prog_5_method_13_code
def yX3_cels : MethodName := ⟨RX3, "cels", "()I"⟩
abbrev cX3_mostLevelsOf : ByteArray := prog_5_method_14_code
def yX3_mostLevelsOf : MethodName := ⟨RX3, "mostLevelsOf", "(I)I"⟩
abbrev cX3_findMost : ByteArray := prog_5_method_15_code
def yX3_findMost : MethodName := ⟨RX3, "findMost", "()V"⟩
abbrev cX3_countDrawing : ByteArray := prog_5_method_16_code
def yX3_countDrawing : MethodName := ⟨RX3, "countDrawing", "(I)V"⟩
abbrev cX3_clearDrawings : ByteArray := prog_5_method_17_code
def yX3_clearDrawings : MethodName := ⟨RX3, "clearDrawings", "([I)V"⟩
abbrev cX3_shortOf : ByteArray := prog_5_method_18_code
def yX3_shortOf : MethodName := ⟨RX3, "shortOf", "(I)I"⟩
abbrev cX3_bestOf : ByteArray := prog_5_method_19_code
def yX3_bestOf : MethodName := ⟨RX3, "bestOf", "(I)I"⟩
abbrev cX3_shareInTwelfths : ByteArray := prog_5_method_20_code
def yX3_shareInTwelfths : MethodName := ⟨RX3, "shareInTwelfths", "(I)I"⟩
def RX4 : String := "CelSheets$Setting"
def TX4 : u_T := fun k => match k with
  | 0 => ("CelSheets$Setting", "xs", "[I", true)
  | 1 => ("CelSheets$Setting", "widths", "[I", true)
  | 2 => ("CelSheets$Setting", "delays", "[I", true)
  | 3 => ("CelSheets$Setting", "starts", "[I", true)
  | 4 => ("CelSheets$Setting", "bys", "[I", true)
  | 5 => ("CelSheets$Setting", "everies", "[I", true)
  | 6 => ("CelSheets$Setting", "switches", "I", false)
  | 7 => ("CelSheets$Setting", "switchFrames", "[I", true)
  | _ => ("CelSheets$Setting", "switchOrders", "[I", true)
def tyX4 : Nat → FieldType := fun k => match k with
  | 0 => .array .int
  | 1 => .array .int
  | 2 => .array .int
  | 3 => .array .int
  | 4 => .array .int
  | 5 => .array .int
  | 6 => .int
  | 7 => .array .int
  | _ => .array .int
abbrev wsX40 : List Cond := u_ws RX4 TX4 9
theorem nmX4 : ∀ a, a < 9 → ∀ b, b < 9 → a ≠ b → (TX4 a).2.1 ≠ (TX4 b).2.1 := by decide +kernel
theorem tyX4_ok : ∀ k, k < 9 → parseFieldDescriptor (TX4 k).2.2.1 = some (tyX4 k) := by decide +kernel
abbrev cX4_init : ByteArray := prog_6_method_1_code
def yX4_init : MethodName := ⟨RX4, "<init>", "()V"⟩
abbrev cX4_beginWith : ByteArray := prog_6_method_2_code
def yX4_beginWith : MethodName := ⟨RX4, "beginWith", "(LCelSheets$Reel;)V"⟩
abbrev cX4_copyFrom : ByteArray := prog_6_method_3_code
def yX4_copyFrom : MethodName := ⟨RX4, "copyFrom", "(LCelSheets$Setting;)V"⟩
abbrev cX4_tellPan : ByteArray := prog_6_method_4_code
def yX4_tellPan : MethodName := ⟨RX4, "tellPan", "(IIII)V"⟩
abbrev cX4_panAt : ByteArray := prog_6_method_5_code
def yX4_panAt : MethodName := ⟨RX4, "panAt", "(II)I"⟩
abbrev cX4_addSwitch : ByteArray := prog_6_method_6_code
def yX4_addSwitch : MethodName := ⟨RX4, "addSwitch", "(II)V"⟩
abbrev cX4_dropSwitch : ByteArray := prog_6_method_7_code
def yX4_dropSwitch : MethodName := ⟨RX4, "dropSwitch", "()Z"⟩
abbrev cX4_switchFor : ByteArray := prog_6_method_8_code
def yX4_switchFor : MethodName := ⟨RX4, "switchFor", "(I)I"⟩
def RX5 : String := "CelSheets$Shortest"
def TX5 : u_T := fun k => match k with
  | 0 => ("CelSheets$Shortest", "length", "I", false)
  | 1 => ("CelSheets$Shortest", "frames", "[I", true)
  | 2 => ("CelSheets$Shortest", "like", "[I", true)
  | 3 => ("CelSheets$Shortest", "plain", "[I", true)
  | 4 => ("CelSheets$Shortest", "item", "[I", true)
  | 5 => ("CelSheets$Shortest", "once", "[I", true)
  | _ => ("CelSheets$Shortest", "twice", "[I", true)
def tyX5 : Nat → FieldType := fun k => match k with
  | 0 => .int
  | 1 => .array .int
  | 2 => .array .int
  | 3 => .array .int
  | 4 => .array .int
  | 5 => .array .int
  | _ => .array .int
abbrev wsX50 : List Cond := u_ws RX5 TX5 7
theorem nmX5 : ∀ a, a < 7 → ∀ b, b < 7 → a ≠ b → (TX5 a).2.1 ≠ (TX5 b).2.1 := by decide +kernel
theorem tyX5_ok : ∀ k, k < 7 → parseFieldDescriptor (TX5 k).2.2.1 = some (tyX5 k) := by decide +kernel
abbrev cX5_init : ByteArray := prog_7_method_1_code
def yX5_init : MethodName := ⟨RX5, "<init>", "()V"⟩
abbrev cX5_lettersFor : ByteArray := prog_7_method_2_code
def yX5_lettersFor : MethodName := ⟨RX5, "lettersFor", "(LCelSheets$Reel;I)I"⟩
abbrev cX5_findLike : ByteArray := prog_7_method_3_code
def yX5_findLike : MethodName := ⟨RX5, "findLike", "(I)V"⟩
abbrev cX5_findPlain : ByteArray := prog_7_method_4_code
def yX5_findPlain : MethodName := ⟨RX5, "findPlain", "(I)V"⟩
abbrev cX5_findItems : ByteArray := prog_7_method_5_code
def yX5_findItems : MethodName := ⟨RX5, "findItems", "([III)V"⟩
abbrev cX5_findOnce : ByteArray := prog_7_method_6_code
def yX5_findOnce : MethodName := ⟨RX5, "findOnce", "(I)V"⟩
abbrev cX5_findTwice : ByteArray := prog_7_method_7_code
def yX5_findTwice : MethodName := ⟨RX5, "findTwice", "(I)V"⟩
def RX6 : String := "CelSheets$Sightings"
def TX6 : u_T := fun k => match k with
  | 0 => ("CelSheets$Sightings", "size", "I", false)
  | 1 => ("CelSheets$Sightings", "frames", "[I", true)
  | 2 => ("CelSheets$Sightings", "windows", "[I", true)
  | _ => ("CelSheets$Sightings", "values", "[I", true)
def tyX6 : Nat → FieldType := fun k => match k with
  | 0 => .int
  | 1 => .array .int
  | 2 => .array .int
  | _ => .array .int
abbrev wsX60 : List Cond := u_ws RX6 TX6 4
theorem nmX6 : ∀ a, a < 4 → ∀ b, b < 4 → a ≠ b → (TX6 a).2.1 ≠ (TX6 b).2.1 := by decide +kernel
theorem tyX6_ok : ∀ k, k < 4 → parseFieldDescriptor (TX6 k).2.2.1 = some (tyX6 k) := by decide +kernel
abbrev cX6_init : ByteArray := prog_8_method_1_code
def yX6_init : MethodName := ⟨RX6, "<init>", "()V"⟩
abbrev cX6_clear : ByteArray := prog_8_method_2_code
def yX6_clear : MethodName := ⟨RX6, "clear", "()V"⟩
abbrev cX6_add : ByteArray := prog_8_method_3_code
def yX6_add : MethodName := ⟨RX6, "add", "(III)V"⟩
abbrev cX6_allSoWithout : ByteArray := prog_8_method_4_code
def yX6_allSoWithout : MethodName := ⟨RX6, "allSoWithout", "(ILCelSheets$Scene;)Z"⟩
def RX7 : String := "CelSheets"
def TX7 : u_T := fun k => match k with
  | 0 => ("CelSheets", "text", "[I", true)
  | 1 => ("CelSheets", "textLength", "I", false)
  | 2 => ("CelSheets", "reader", "LCelSheets$Reader;", true)
  | 3 => ("CelSheets", "scene", "LCelSheets$Scene;", true)
  | 4 => ("CelSheets", "told", "LCelSheets$Reel;", true)
  | 5 => ("CelSheets", "now", "LCelSheets$Setting;", true)
  | 6 => ("CelSheets", "acts", "LCelSheets$Acts;", true)
  | 7 => ("CelSheets", "sightings", "LCelSheets$Sightings;", true)
  | 8 => ("CelSheets", "spare", "LCelSheets$Setting;", true)
  | 9 => ("CelSheets", "firstKept", "LCelSheets$Setting;", true)
  | 10 => ("CelSheets", "secondKept", "LCelSheets$Setting;", true)
  | 11 => ("CelSheets", "isKept", "[Z", true)
  | _ => ("CelSheets", "seedNow", "J", false)
def tyX7 : Nat → FieldType := fun k => match k with
  | 0 => .array .int
  | 1 => .int
  | 2 => .object "CelSheets$Reader"
  | 3 => .object "CelSheets$Scene"
  | 4 => .object "CelSheets$Reel"
  | 5 => .object "CelSheets$Setting"
  | 6 => .object "CelSheets$Acts"
  | 7 => .object "CelSheets$Sightings"
  | 8 => .object "CelSheets$Setting"
  | 9 => .object "CelSheets$Setting"
  | 10 => .object "CelSheets$Setting"
  | 11 => .array .boolean
  | _ => .long
abbrev wsX70 : List Cond := u_ws RX7 TX7 13
theorem nmX7 : ∀ a, a < 13 → ∀ b, b < 13 → a ≠ b → (TX7 a).2.1 ≠ (TX7 b).2.1 := by decide +kernel
theorem tyX7_ok : ∀ k, k < 13 → parseFieldDescriptor (TX7 k).2.2.1 = some (tyX7 k) := by decide +kernel
abbrev cX7_init : ByteArray := prog_1_method_1_code
def yX7_init : MethodName := ⟨RX7, "<init>", "()V"⟩
abbrev cX7_write : ByteArray := prog_1_method_2_code
def yX7_write : MethodName := ⟨RX7, "write", "(I)I"⟩
abbrev cX7_wipe : ByteArray := prog_1_method_3_code
def yX7_wipe : MethodName := ⟨RX7, "wipe", "()I"⟩
abbrev cX7_fault : ByteArray := prog_1_method_4_code
def yX7_fault : MethodName := ⟨RX7, "fault", "()I"⟩
abbrev cX7_reel : ByteArray := prog_1_method_5_code
def yX7_reel : MethodName := ⟨RX7, "reel", "()I"⟩
abbrev cX7_drawing : ByteArray := prog_1_method_6_code
def yX7_drawing : MethodName := ⟨RX7, "drawing", "(II)I"⟩
abbrev cX7_level : ByteArray := prog_1_method_7_code
def yX7_level : MethodName := ⟨RX7, "level", "(II)I"⟩
abbrev cX7_where : ByteArray := prog_1_method_8_code
def yX7_where : MethodName := ⟨RX7, "where", "(II)I"⟩
abbrev cX7_redraw : ByteArray := prog_1_method_9_code
def yX7_redraw : MethodName := ⟨RX7, "redraw", "(III)I"⟩
abbrev cX7_delay : ByteArray := prog_1_method_10_code
def yX7_delay : MethodName := ⟨RX7, "delay", "(II)I"⟩
abbrev cX7_pan : ByteArray := prog_1_method_11_code
def yX7_pan : MethodName := ⟨RX7, "pan", "(IIII)I"⟩
abbrev cX7_swap : ByteArray := prog_1_method_12_code
def yX7_swap : MethodName := ⟨RX7, "swap", "(II)I"⟩
abbrev cX7_back : ByteArray := prog_1_method_13_code
def yX7_back : MethodName := ⟨RX7, "back", "()I"⟩
abbrev cX7_undo : ByteArray := prog_1_method_14_code
def yX7_undo : MethodName := ⟨RX7, "undo", "()I"⟩
abbrev cX7_exposed : ByteArray := prog_1_method_15_code
def yX7_exposed : MethodName := ⟨RX7, "exposed", "(II)I"⟩
abbrev cX7_order : ByteArray := prog_1_method_16_code
def yX7_order : MethodName := ⟨RX7, "order", "(I)I"⟩
abbrev cX7_look : ByteArray := prog_1_method_17_code
def yX7_look : MethodName := ⟨RX7, "look", "(II)I"⟩
abbrev cX7_ask : ByteArray := prog_1_method_18_code
def yX7_ask : MethodName := ⟨RX7, "ask", "(I)I"⟩
abbrev cX7_judge : ByteArray := prog_1_method_19_code
def yX7_judge : MethodName := ⟨RX7, "judge", "(IJ)I"⟩
abbrev cX7_see : ByteArray := prog_1_method_20_code
def yX7_see : MethodName := ⟨RX7, "see", "(III)I"⟩
abbrev cX7_unsee : ByteArray := prog_1_method_21_code
def yX7_unsee : MethodName := ⟨RX7, "unsee", "()I"⟩
abbrev cX7_which : ByteArray := prog_1_method_22_code
def yX7_which : MethodName := ⟨RX7, "which", "()I"⟩
abbrev cX7_share : ByteArray := prog_1_method_23_code
def yX7_share : MethodName := ⟨RX7, "share", "(IZ)I"⟩
abbrev cX7_lost : ByteArray := prog_1_method_24_code
def yX7_lost : MethodName := ⟨RX7, "lost", "(IIIZ)I"⟩
abbrev cX7_seed : ByteArray := prog_1_method_25_code
def yX7_seed : MethodName := ⟨RX7, "seed", "(J)J"⟩
abbrev cX7_looks : ByteArray := prog_1_method_26_code
def yX7_looks : MethodName := ⟨RX7, "looks", "(I)I"⟩
abbrev cX7_keep : ByteArray := prog_1_method_27_code
def yX7_keep : MethodName := ⟨RX7, "keep", "(I)I"⟩
abbrev cX7_again : ByteArray := prog_1_method_28_code
def yX7_again : MethodName := ⟨RX7, "again", "(I)I"⟩
abbrev cX7_count : ByteArray := prog_1_method_29_code
def yX7_count : MethodName := ⟨RX7, "count", "(I)I"⟩
abbrev cX7_isDrawing : ByteArray := prog_1_method_30_code
def yX7_isDrawing : MethodName := ⟨RX7, "isDrawing", "(I)Z"⟩
abbrev cX7_isLevel : ByteArray := prog_1_method_31_code
def yX7_isLevel : MethodName := ⟨RX7, "isLevel", "(I)Z"⟩
abbrev cX7_hasPan : ByteArray := prog_1_method_32_code
def yX7_hasPan : MethodName := ⟨RX7, "hasPan", "(I)Z"⟩
abbrev cX7_panOf : ByteArray := prog_1_method_33_code
def yX7_panOf : MethodName := ⟨RX7, "panOf", "(I)I"⟩
abbrev cX7_isFrame : ByteArray := prog_1_method_34_code
def yX7_isFrame : MethodName := ⟨RX7, "isFrame", "(I)Z"⟩
abbrev cX7_isWindow : ByteArray := prog_1_method_35_code
def yX7_isWindow : MethodName := ⟨RX7, "isWindow", "(I)Z"⟩
abbrev cX7_keptIn : ByteArray := prog_1_method_36_code
def yX7_keptIn : MethodName := ⟨RX7, "keptIn", "(I)LCelSheets$Setting;"⟩
abbrev cX7_firstThatCanNotBe : ByteArray := prog_1_method_37_code
def yX7_firstThatCanNotBe : MethodName := ⟨RX7, "firstThatCanNotBe", "(IJ)I"⟩
abbrev cX7_comesTrue : ByteArray := prog_1_method_38_code
def yX7_comesTrue : MethodName := ⟨RX7, "comesTrue", "(I)Z"⟩
abbrev cX7_delayForNow : ByteArray := prog_1_method_39_code
def yX7_delayForNow : MethodName := ⟨RX7, "delayForNow", "(II)Z"⟩
abbrev cX7_redrawForNow : ByteArray := prog_1_method_40_code
def yX7_redrawForNow : MethodName := ⟨RX7, "redrawForNow", "(III)Z"⟩
abbrev cX7_fractionPart : ByteArray := prog_1_method_41_code
def yX7_fractionPart : MethodName := ⟨RX7, "fractionPart", "(IIZ)I"⟩
abbrev cX7_commonDivisor : ByteArray := prog_1_method_42_code
def yX7_commonDivisor : MethodName := ⟨RX7, "commonDivisor", "(II)I"⟩
def RX8 : String := "CelSheetsModel"
def TX8 : u_T := fun k => match k with
  | 0 => ("CelSheetsModel", "thrown", "I", false)
  | 1 => ("CelSheetsModel", "text", "[I", true)
  | 2 => ("CelSheetsModel", "textSize", "I", false)
  | 3 => ("CelSheetsModel", "place", "I", false)
  | 4 => ("CelSheetsModel", "drawings", "I", false)
  | 5 => ("CelSheetsModel", "levels", "I", false)
  | 6 => ("CelSheetsModel", "sheets", "[I", true)
  | 7 => ("CelSheetsModel", "longs", "[I", true)
  | 8 => ("CelSheetsModel", "readDrawings", "I", false)
  | 9 => ("CelSheetsModel", "readLevels", "I", false)
  | 10 => ("CelSheetsModel", "readSheets", "[I", true)
  | 11 => ("CelSheetsModel", "readLongs", "[I", true)
  | 12 => ("CelSheetsModel", "readPage", "[I", true)
  | 13 => ("CelSheetsModel", "began", "[I", true)
  | 14 => ("CelSheetsModel", "has", "[Z", true)
  | 15 => ("CelSheetsModel", "page", "[I", true)
  | 16 => ("CelSheetsModel", "trial", "[I", true)
  | 17 => ("CelSheetsModel", "book", "[I", true)
  | 18 => ("CelSheetsModel", "doings", "I", false)
  | 19 => ("CelSheetsModel", "kept", "[I", true)
  | 20 => ("CelSheetsModel", "isKept", "[Z", true)
  | 21 => ("CelSheetsModel", "seen", "I", false)
  | 22 => ("CelSheetsModel", "seenFrame", "[I", true)
  | 23 => ("CelSheetsModel", "seenWindow", "[I", true)
  | 24 => ("CelSheetsModel", "seenWhat", "[I", true)
  | 25 => ("CelSheetsModel", "seed", "J", false)
  | 26 => ("CelSheetsModel", "like", "[I", true)
  | _ => ("CelSheetsModel", "letters", "[I", true)
def tyX8 : Nat → FieldType := fun k => match k with
  | 0 => .int
  | 1 => .array .int
  | 2 => .int
  | 3 => .int
  | 4 => .int
  | 5 => .int
  | 6 => .array .int
  | 7 => .array .int
  | 8 => .int
  | 9 => .int
  | 10 => .array .int
  | 11 => .array .int
  | 12 => .array .int
  | 13 => .array .int
  | 14 => .array .boolean
  | 15 => .array .int
  | 16 => .array .int
  | 17 => .array .int
  | 18 => .int
  | 19 => .array .int
  | 20 => .array .boolean
  | 21 => .int
  | 22 => .array .int
  | 23 => .array .int
  | 24 => .array .int
  | 25 => .long
  | 26 => .array .int
  | _ => .array .int
abbrev wsX80 : List Cond := u_ws RX8 TX8 28
theorem nmX8 : ∀ a, a < 28 → ∀ b, b < 28 → a ≠ b → (TX8 a).2.1 ≠ (TX8 b).2.1 := by decide +kernel
theorem tyX8_ok : ∀ k, k < 28 → parseFieldDescriptor (TX8 k).2.2.1 = some (tyX8 k) := by decide +kernel
abbrev cX8_init : ByteArray := prog_10_method_1_code
def yX8_init : MethodName := ⟨RX8, "<init>", "()V"⟩
abbrev cX8_in : ByteArray := prog_10_method_3_code
def yX8_in : MethodName := ⟨RX8, "in", "(JJJ)Z"⟩
abbrev cX8_has : ByteArray := prog_10_method_4_code
def yX8_has : MethodName := ⟨RX8, "has", "(II)Z"⟩
abbrev cX8_ones : ByteArray := prog_10_method_5_code
def yX8_ones : MethodName := ⟨RX8, "ones", "(I)I"⟩
abbrev cX8_power : ByteArray := prog_10_method_6_code
def yX8_power : MethodName := ⟨RX8, "power", "(II)I"⟩
abbrev cX8_fresh : ByteArray := prog_10_method_7_code
def yX8_fresh : MethodName := ⟨RX8, "fresh", "([I)V"⟩
abbrev cX8_layTrial : ByteArray := prog_10_method_8_code
def yX8_layTrial : MethodName := ⟨RX8, "layTrial", "()V"⟩
abbrev cX8_noLevel : ByteArray := prog_10_method_9_code
def yX8_noLevel : MethodName := ⟨RX8, "noLevel", "(I)Z"⟩
abbrev cX8_noDrawing : ByteArray := prog_10_method_10_code
def yX8_noDrawing : MethodName := ⟨RX8, "noDrawing", "(I)Z"⟩
abbrev cX8_isFrame : ByteArray := prog_10_method_11_code
def yX8_isFrame : MethodName := ⟨RX8, "isFrame", "(I)Z"⟩
abbrev cX8_write : ByteArray := prog_10_method_12_code
def yX8_write : MethodName := ⟨RX8, "write", "(I)I"⟩
abbrev cX8_wipe : ByteArray := prog_10_method_13_code
def yX8_wipe : MethodName := ⟨RX8, "wipe", "()I"⟩
abbrev cX8_figure : ByteArray := prog_10_method_14_code
def yX8_figure : MethodName := ⟨RX8, "figure", "(II)I"⟩
abbrev cX8_readDrawing : ByteArray := prog_10_method_15_code
def yX8_readDrawing : MethodName := ⟨RX8, "readDrawing", "()Z"⟩
abbrev cX8_spread : ByteArray := prog_10_method_16_code
def yX8_spread : MethodName := ⟨RX8, "spread", "(II)V"⟩
abbrev cX8_over : ByteArray := prog_10_method_17_code
def yX8_over : MethodName := ⟨RX8, "over", "(II)V"⟩
abbrev cX8_readSheet : ByteArray := prog_10_method_18_code
def yX8_readSheet : MethodName := ⟨RX8, "readSheet", "()Z"⟩
abbrev cX8_readReel : ByteArray := prog_10_method_19_code
def yX8_readReel : MethodName := ⟨RX8, "readReel", "()I"⟩
abbrev cX8_fault : ByteArray := prog_10_method_20_code
def yX8_fault : MethodName := ⟨RX8, "fault", "()I"⟩
abbrev cX8_reel : ByteArray := prog_10_method_21_code
def yX8_reel : MethodName := ⟨RX8, "reel", "()I"⟩
abbrev cX8_exposedOn : ByteArray := prog_10_method_22_code
def yX8_exposedOn : MethodName := ⟨RX8, "exposedOn", "([III)I"⟩
abbrev cX8_whereIs : ByteArray := prog_10_method_23_code
def yX8_whereIs : MethodName := ⟨RX8, "whereIs", "([III)I"⟩
abbrev cX8_firstOrder : ByteArray := prog_10_method_24_code
def yX8_firstOrder : MethodName := ⟨RX8, "firstOrder", "()I"⟩
abbrev cX8_orderAt : ByteArray := prog_10_method_25_code
def yX8_orderAt : MethodName := ⟨RX8, "orderAt", "([II)I"⟩
abbrev cX8_lookBy : ByteArray := prog_10_method_26_code
def yX8_lookBy : MethodName := ⟨RX8, "lookBy", "([IIIII)I"⟩
abbrev cX8_every : ByteArray := prog_10_method_27_code
def yX8_every : MethodName := ⟨RX8, "every", "()I"⟩
abbrev cX8_mostOf : ByteArray := prog_10_method_28_code
def yX8_mostOf : MethodName := ⟨RX8, "mostOf", "([II)I"⟩
abbrev cX8_cels : ByteArray := prog_10_method_29_code
def yX8_cels : MethodName := ⟨RX8, "cels", "([I)I"⟩
abbrev cX8_changes : ByteArray := prog_10_method_30_code
def yX8_changes : MethodName := ⟨RX8, "changes", "()I"⟩
abbrev cX8_layLike : ByteArray := prog_10_method_31_code
def yX8_layLike : MethodName := ⟨RX8, "layLike", "(I)V"⟩
abbrev cX8_itemOf : ByteArray := prog_10_method_32_code
def yX8_itemOf : MethodName := ⟨RX8, "itemOf", "(III)I"⟩
abbrev cX8_shortest : ByteArray := prog_10_method_33_code
def yX8_shortest : MethodName := ⟨RX8, "shortest", "(I)I"⟩
abbrev cX8_bestDelay : ByteArray := prog_10_method_34_code
def yX8_bestDelay : MethodName := ⟨RX8, "bestDelay", "(I)I"⟩
abbrev cX8_drawing : ByteArray := prog_10_method_35_code
def yX8_drawing : MethodName := ⟨RX8, "drawing", "(II)I"⟩
abbrev cX8_level : ByteArray := prog_10_method_36_code
def yX8_level : MethodName := ⟨RX8, "level", "(II)I"⟩
abbrev cX8_where : ByteArray := prog_10_method_37_code
def yX8_where : MethodName := ⟨RX8, "where", "(II)I"⟩
abbrev cX8_note : ByteArray := prog_10_method_38_code
def yX8_note : MethodName := ⟨RX8, "note", "()V"⟩
abbrev cX8_redraw : ByteArray := prog_10_method_39_code
def yX8_redraw : MethodName := ⟨RX8, "redraw", "(III)I"⟩
abbrev cX8_delay : ByteArray := prog_10_method_40_code
def yX8_delay : MethodName := ⟨RX8, "delay", "(II)I"⟩
abbrev cX8_pan : ByteArray := prog_10_method_41_code
def yX8_pan : MethodName := ⟨RX8, "pan", "(IIII)I"⟩
abbrev cX8_isOrder : ByteArray := prog_10_method_42_code
def yX8_isOrder : MethodName := ⟨RX8, "isOrder", "(I)Z"⟩
abbrev cX8_swap : ByteArray := prog_10_method_43_code
def yX8_swap : MethodName := ⟨RX8, "swap", "(II)I"⟩
abbrev cX8_back : ByteArray := prog_10_method_44_code
def yX8_back : MethodName := ⟨RX8, "back", "()I"⟩
abbrev cX8_undo : ByteArray := prog_10_method_45_code
def yX8_undo : MethodName := ⟨RX8, "undo", "()I"⟩
abbrev cX8_exposed : ByteArray := prog_10_method_46_code
def yX8_exposed : MethodName := ⟨RX8, "exposed", "(II)I"⟩
abbrev cX8_order : ByteArray := prog_10_method_47_code
def yX8_order : MethodName := ⟨RX8, "order", "(I)I"⟩
abbrev cX8_look : ByteArray := prog_10_method_48_code
def yX8_look : MethodName := ⟨RX8, "look", "(II)I"⟩
abbrev cX8_ask : ByteArray := prog_10_method_49_code
def yX8_ask : MethodName := ⟨RX8, "ask", "(I)I"⟩
abbrev cX8_does : ByteArray := prog_10_method_50_code
def yX8_does : MethodName := ⟨RX8, "does", "(IIII)Z"⟩
abbrev cX8_longPower : ByteArray := prog_10_method_51_code
def yX8_longPower : MethodName := ⟨RX8, "longPower", "(JI)J"⟩
abbrev cX8_judge : ByteArray := prog_10_method_52_code
def yX8_judge : MethodName := ⟨RX8, "judge", "(IJ)I"⟩
abbrev cX8_see : ByteArray := prog_10_method_53_code
def yX8_see : MethodName := ⟨RX8, "see", "(III)I"⟩
abbrev cX8_unsee : ByteArray := prog_10_method_54_code
def yX8_unsee : MethodName := ⟨RX8, "unsee", "()I"⟩
abbrev cX8_which : ByteArray := prog_10_method_55_code
def yX8_which : MethodName := ⟨RX8, "which", "()I"⟩
abbrev cX8_divisor : ByteArray := prog_10_method_56_code
def yX8_divisor : MethodName := ⟨RX8, "divisor", "(II)I"⟩
abbrev cX8_fraction : ByteArray := prog_10_method_57_code
def yX8_fraction : MethodName := ⟨RX8, "fraction", "(IIZ)I"⟩
abbrev cX8_factorial : ByteArray := prog_10_method_58_code
def yX8_factorial : MethodName := ⟨RX8, "factorial", "(I)I"⟩
abbrev cX8_coveredBy : ByteArray := prog_10_method_59_code
def yX8_coveredBy : MethodName := ⟨RX8, "coveredBy", "(I)I"⟩
abbrev cX8_share : ByteArray := prog_10_method_60_code
def yX8_share : MethodName := ⟨RX8, "share", "(IZ)I"⟩
abbrev cX8_lost : ByteArray := prog_10_method_61_code
def yX8_lost : MethodName := ⟨RX8, "lost", "(IIIZ)I"⟩
abbrev cX8_seed : ByteArray := prog_10_method_62_code
def yX8_seed : MethodName := ⟨RX8, "seed", "(J)J"⟩
abbrev cX8_looks : ByteArray := prog_10_method_63_code
def yX8_looks : MethodName := ⟨RX8, "looks", "(I)I"⟩
abbrev cX8_keep : ByteArray := prog_10_method_64_code
def yX8_keep : MethodName := ⟨RX8, "keep", "(I)I"⟩
abbrev cX8_again : ByteArray := prog_10_method_65_code
def yX8_again : MethodName := ⟨RX8, "again", "(I)I"⟩
abbrev cX8_count : ByteArray := prog_10_method_66_code
def yX8_count : MethodName := ⟨RX8, "count", "(I)I"⟩
def RJ9 : String := "java/lang/Math"
def TJ9 : u_T := fun k => match k with
  | _ => ("", "", "", false)
def tyJ9 : Nat → FieldType := fun k => match k with
  | _ => .int
abbrev wsJ90 : List Cond := u_ws RJ9 TJ9 0
theorem nmJ9 : ∀ a, a < 0 → ∀ b, b < 0 → a ≠ b → (TJ9 a).2.1 ≠ (TJ9 b).2.1 := by decide +kernel
theorem tyJ9_ok : ∀ k, k < 0 → parseFieldDescriptor (TJ9 k).2.2.1 = some (tyJ9 k) := by decide +kernel
abbrev cJ9_max_7cf53 : ByteArray := prog_11_method_65_code
def yJ9_max_7cf53 : MethodName := ⟨RJ9, "max", "(II)I"⟩
abbrev cJ9_min_7cf53 : ByteArray := prog_11_method_69_code
def yJ9_min_7cf53 : MethodName := ⟨RJ9, "min", "(II)I"⟩
def RJ10 : String := "java/lang/System"
def TJ10 : u_T := fun k => match k with
  | _ => ("", "", "", false)
def tyJ10 : Nat → FieldType := fun k => match k with
  | _ => .int
abbrev wsJ100 : List Cond := u_ws RJ10 TJ10 0
theorem nmJ10 : ∀ a, a < 0 → ∀ b, b < 0 → a ≠ b → (TJ10 a).2.1 ≠ (TJ10 b).2.1 := by decide +kernel
theorem tyJ10_ok : ∀ k, k < 0 → parseFieldDescriptor (TJ10 k).2.2.1 = some (tyJ10 k) := by decide +kernel
def RL : String := "CelSheetsLaw"
abbrev cL_law : ByteArray := code
def yL_law : MethodName := ⟨RL, "law", "([I)Z"⟩
abbrev vwCl : List vw_C := [(RX0, TX0, 2), (RX1, TX1, 6), (RX2, TX2, 6), (RX3, TX3, 7), (RX4, TX4, 9), (RX5, TX5, 7), (RX6, TX6, 4), (RX7, TX7, 13), (RX8, TX8, 28)]
theorem inX0 : ∀ w ∈ u_ws RX0 TX0 2, w ∈ lw_tbl := by decide +kernel
theorem inX1 : ∀ w ∈ u_ws RX1 TX1 6, w ∈ lw_tbl := by decide +kernel
theorem inX2 : ∀ w ∈ u_ws RX2 TX2 6, w ∈ lw_tbl := by decide +kernel
theorem inX3 : ∀ w ∈ u_ws RX3 TX3 7, w ∈ lw_tbl := by decide +kernel
theorem inX4 : ∀ w ∈ u_ws RX4 TX4 9, w ∈ lw_tbl := by decide +kernel
theorem inX5 : ∀ w ∈ u_ws RX5 TX5 7, w ∈ lw_tbl := by decide +kernel
theorem inX6 : ∀ w ∈ u_ws RX6 TX6 4, w ∈ lw_tbl := by decide +kernel
theorem inX7 : ∀ w ∈ u_ws RX7 TX7 13, w ∈ lw_tbl := by decide +kernel
theorem inX8 : ∀ w ∈ u_ws RX8 TX8 28, w ∈ lw_tbl := by decide +kernel
end
section
theorem dX0_init_0 : decode cX0_init 0 = .ok (.aload_n 0, 1) := by decide +kernel
theorem dX0_init_1 : decode cX0_init 1 = .ok (.invokespecial 3, 3) := by decide +kernel
theorem dX0_init_4 : decode cX0_init 4 = .ok (.aload_n 0, 1) := by decide +kernel
theorem dX0_init_5 : decode cX0_init 5 = .ok (.bipush 70, 2) := by decide +kernel
theorem dX0_init_7 : decode cX0_init 7 = .ok (.newarray .int, 2) := by decide +kernel
theorem dX0_init_9 : decode cX0_init 9 = .ok (.putfield 11, 3) := by decide +kernel
theorem dX0_init_12 : decode cX0_init 12 = .ok (.return_, 1) := by decide +kernel
theorem dX0_clear_0 : decode cX0_clear 0 = .ok (.aload_n 0, 1) := by decide +kernel
theorem dX0_clear_1 : decode cX0_clear 1 = .ok (.iconst 0, 1) := by decide +kernel
theorem dX0_clear_2 : decode cX0_clear 2 = .ok (.putfield 15, 3) := by decide +kernel
theorem dX0_clear_5 : decode cX0_clear 5 = .ok (.return_, 1) := by decide +kernel
theorem dX0_add_0 : decode cX0_add 0 = .ok (.aload_n 0, 1) := by decide +kernel
theorem dX0_add_1 : decode cX0_add 1 = .ok (.getfield 15, 3) := by decide +kernel
theorem dX0_add_4 : decode cX0_add 4 = .ok (.bipush 14, 2) := by decide +kernel
theorem dX0_add_6 : decode cX0_add 6 = .ok (.if_icmp .lt 7, 3) := by decide +kernel
theorem dX0_add_9 : decode cX0_add 9 = .ok (.aload_n 0, 1) := by decide +kernel
theorem dX0_add_10 : decode cX0_add 10 = .ok (.invokevirtual 19, 3) := by decide +kernel
theorem dX0_add_13 : decode cX0_add 13 = .ok (.aload_n 0, 1) := by decide +kernel
theorem dX0_add_14 : decode cX0_add 14 = .ok (.getfield 15, 3) := by decide +kernel
theorem dX0_add_17 : decode cX0_add 17 = .ok (.iconst 5, 1) := by decide +kernel
theorem dX0_add_18 : decode cX0_add 18 = .ok (.imul, 1) := by decide +kernel
theorem dX0_add_19 : decode cX0_add 19 = .ok (.istore 6, 2) := by decide +kernel
theorem dX0_add_21 : decode cX0_add 21 = .ok (.aload_n 0, 1) := by decide +kernel
theorem dX0_add_22 : decode cX0_add 22 = .ok (.getfield 11, 3) := by decide +kernel
theorem dX0_add_25 : decode cX0_add 25 = .ok (.iload 6, 2) := by decide +kernel
theorem dX0_add_27 : decode cX0_add 27 = .ok (.iload_n 1, 1) := by decide +kernel
theorem dX0_add_28 : decode cX0_add 28 = .ok (.iastore, 1) := by decide +kernel
theorem dX0_add_29 : decode cX0_add 29 = .ok (.aload_n 0, 1) := by decide +kernel
theorem dX0_add_30 : decode cX0_add 30 = .ok (.getfield 11, 3) := by decide +kernel
theorem dX0_add_33 : decode cX0_add 33 = .ok (.iload 6, 2) := by decide +kernel
theorem dX0_add_35 : decode cX0_add 35 = .ok (.iconst 1, 1) := by decide +kernel
theorem dX0_add_36 : decode cX0_add 36 = .ok (.iadd, 1) := by decide +kernel
theorem dX0_add_37 : decode cX0_add 37 = .ok (.iload_n 2, 1) := by decide +kernel
theorem dX0_add_38 : decode cX0_add 38 = .ok (.iastore, 1) := by decide +kernel
theorem dX0_add_39 : decode cX0_add 39 = .ok (.aload_n 0, 1) := by decide +kernel
theorem dX0_add_40 : decode cX0_add 40 = .ok (.getfield 11, 3) := by decide +kernel
theorem dX0_add_43 : decode cX0_add 43 = .ok (.iload 6, 2) := by decide +kernel
theorem dX0_add_45 : decode cX0_add 45 = .ok (.iconst 2, 1) := by decide +kernel
theorem dX0_add_46 : decode cX0_add 46 = .ok (.iadd, 1) := by decide +kernel
theorem dX0_add_47 : decode cX0_add 47 = .ok (.iload_n 3, 1) := by decide +kernel
theorem dX0_add_48 : decode cX0_add 48 = .ok (.iastore, 1) := by decide +kernel
theorem dX0_add_49 : decode cX0_add 49 = .ok (.aload_n 0, 1) := by decide +kernel
theorem dX0_add_50 : decode cX0_add 50 = .ok (.getfield 11, 3) := by decide +kernel
theorem dX0_add_53 : decode cX0_add 53 = .ok (.iload 6, 2) := by decide +kernel
theorem dX0_add_55 : decode cX0_add 55 = .ok (.iconst 3, 1) := by decide +kernel
theorem dX0_add_56 : decode cX0_add 56 = .ok (.iadd, 1) := by decide +kernel
theorem dX0_add_57 : decode cX0_add 57 = .ok (.iload 4, 2) := by decide +kernel
theorem dX0_add_59 : decode cX0_add 59 = .ok (.iastore, 1) := by decide +kernel
theorem dX0_add_60 : decode cX0_add 60 = .ok (.aload_n 0, 1) := by decide +kernel
theorem dX0_add_61 : decode cX0_add 61 = .ok (.getfield 11, 3) := by decide +kernel
theorem dX0_add_64 : decode cX0_add 64 = .ok (.iload 6, 2) := by decide +kernel
theorem dX0_add_66 : decode cX0_add 66 = .ok (.iconst 4, 1) := by decide +kernel
theorem dX0_add_67 : decode cX0_add 67 = .ok (.iadd, 1) := by decide +kernel
theorem dX0_add_68 : decode cX0_add 68 = .ok (.iload 5, 2) := by decide +kernel
theorem dX0_add_70 : decode cX0_add 70 = .ok (.iastore, 1) := by decide +kernel
theorem dX0_add_71 : decode cX0_add 71 = .ok (.aload_n 0, 1) := by decide +kernel
theorem dX0_add_72 : decode cX0_add 72 = .ok (.dup, 1) := by decide +kernel
theorem dX0_add_73 : decode cX0_add 73 = .ok (.getfield 15, 3) := by decide +kernel
theorem dX0_add_76 : decode cX0_add 76 = .ok (.iconst 1, 1) := by decide +kernel
theorem dX0_add_77 : decode cX0_add 77 = .ok (.iadd, 1) := by decide +kernel
theorem dX0_add_78 : decode cX0_add 78 = .ok (.putfield 15, 3) := by decide +kernel
theorem dX0_add_81 : decode cX0_add 81 = .ok (.return_, 1) := by decide +kernel
theorem dX0_forgetFirst_0 : decode cX0_forgetFirst 0 = .ok (.aload_n 0, 1) := by decide +kernel
theorem dX0_forgetFirst_1 : decode cX0_forgetFirst 1 = .ok (.getfield 11, 3) := by decide +kernel
theorem dX0_forgetFirst_4 : decode cX0_forgetFirst 4 = .ok (.iconst 5, 1) := by decide +kernel
theorem dX0_forgetFirst_5 : decode cX0_forgetFirst 5 = .ok (.aload_n 0, 1) := by decide +kernel
theorem dX0_forgetFirst_6 : decode cX0_forgetFirst 6 = .ok (.getfield 11, 3) := by decide +kernel
theorem dX0_forgetFirst_9 : decode cX0_forgetFirst 9 = .ok (.iconst 0, 1) := by decide +kernel
theorem dX0_forgetFirst_10 : decode cX0_forgetFirst 10 = .ok (.bipush 65, 2) := by decide +kernel
theorem dX0_forgetFirst_12 : decode cX0_forgetFirst 12 = .ok (.invokestatic 22, 3) := by decide +kernel
theorem dX0_forgetFirst_15 : decode cX0_forgetFirst 15 = .ok (.aload_n 0, 1) := by decide +kernel
theorem dX0_forgetFirst_16 : decode cX0_forgetFirst 16 = .ok (.bipush 13, 2) := by decide +kernel
theorem dX0_forgetFirst_18 : decode cX0_forgetFirst 18 = .ok (.putfield 15, 3) := by decide +kernel
theorem dX0_forgetFirst_21 : decode cX0_forgetFirst 21 = .ok (.return_, 1) := by decide +kernel
theorem dX0_takeBackLast_0 : decode cX0_takeBackLast 0 = .ok (.aload_n 0, 1) := by decide +kernel
theorem dX0_takeBackLast_1 : decode cX0_takeBackLast 1 = .ok (.getfield 15, 3) := by decide +kernel
theorem dX0_takeBackLast_4 : decode cX0_takeBackLast 4 = .ok (.iconst 1, 1) := by decide +kernel
theorem dX0_takeBackLast_5 : decode cX0_takeBackLast 5 = .ok (.if_icmp .ge 4, 3) := by decide +kernel
theorem dX0_takeBackLast_8 : decode cX0_takeBackLast 8 = .ok (.return_, 1) := by decide +kernel
theorem dX0_takeBackLast_9 : decode cX0_takeBackLast 9 = .ok (.aload_n 0, 1) := by decide +kernel
theorem dX0_takeBackLast_10 : decode cX0_takeBackLast 10 = .ok (.dup, 1) := by decide +kernel
theorem dX0_takeBackLast_11 : decode cX0_takeBackLast 11 = .ok (.getfield 15, 3) := by decide +kernel
theorem dX0_takeBackLast_14 : decode cX0_takeBackLast 14 = .ok (.iconst 1, 1) := by decide +kernel
theorem dX0_takeBackLast_15 : decode cX0_takeBackLast 15 = .ok (.isub, 1) := by decide +kernel
theorem dX0_takeBackLast_16 : decode cX0_takeBackLast 16 = .ok (.putfield 15, 3) := by decide +kernel
theorem dX0_takeBackLast_19 : decode cX0_takeBackLast 19 = .ok (.aload_n 0, 1) := by decide +kernel
theorem dX0_takeBackLast_20 : decode cX0_takeBackLast 20 = .ok (.getfield 15, 3) := by decide +kernel
theorem dX0_takeBackLast_23 : decode cX0_takeBackLast 23 = .ok (.iconst 5, 1) := by decide +kernel
theorem dX0_takeBackLast_24 : decode cX0_takeBackLast 24 = .ok (.imul, 1) := by decide +kernel
theorem dX0_takeBackLast_25 : decode cX0_takeBackLast 25 = .ok (.istore_n 2, 1) := by decide +kernel
theorem dX0_takeBackLast_26 : decode cX0_takeBackLast 26 = .ok (.aload_n 0, 1) := by decide +kernel
theorem dX0_takeBackLast_27 : decode cX0_takeBackLast 27 = .ok (.getfield 11, 3) := by decide +kernel
theorem dX0_takeBackLast_30 : decode cX0_takeBackLast 30 = .ok (.iload_n 2, 1) := by decide +kernel
theorem dX0_takeBackLast_31 : decode cX0_takeBackLast 31 = .ok (.iconst 1, 1) := by decide +kernel
theorem dX0_takeBackLast_32 : decode cX0_takeBackLast 32 = .ok (.iadd, 1) := by decide +kernel
theorem dX0_takeBackLast_33 : decode cX0_takeBackLast 33 = .ok (.iaload, 1) := by decide +kernel
theorem dX0_takeBackLast_34 : decode cX0_takeBackLast 34 = .ok (.istore_n 3, 1) := by decide +kernel
theorem dX0_takeBackLast_35 : decode cX0_takeBackLast 35 = .ok (.aload_n 0, 1) := by decide +kernel
theorem dX0_takeBackLast_36 : decode cX0_takeBackLast 36 = .ok (.getfield 11, 3) := by decide +kernel
theorem dX0_takeBackLast_39 : decode cX0_takeBackLast 39 = .ok (.iload_n 2, 1) := by decide +kernel
theorem dX0_takeBackLast_40 : decode cX0_takeBackLast 40 = .ok (.iaload, 1) := by decide +kernel
theorem dX0_takeBackLast_41 : decode cX0_takeBackLast 41 = .ok (.tableswitch 119 0 3 #[31, 62, 79, 111], 31) := by decide +kernel
theorem dX0_takeBackLast_72 : decode cX0_takeBackLast 72 = .ok (.aload_n 1, 1) := by decide +kernel
theorem dX0_takeBackLast_73 : decode cX0_takeBackLast 73 = .ok (.getfield 28, 3) := by decide +kernel
theorem dX0_takeBackLast_76 : decode cX0_takeBackLast 76 = .ok (.iload_n 3, 1) := by decide +kernel
theorem dX0_takeBackLast_77 : decode cX0_takeBackLast 77 = .ok (.aload_n 0, 1) := by decide +kernel
theorem dX0_takeBackLast_78 : decode cX0_takeBackLast 78 = .ok (.getfield 11, 3) := by decide +kernel
theorem dX0_takeBackLast_81 : decode cX0_takeBackLast 81 = .ok (.iload_n 2, 1) := by decide +kernel
theorem dX0_takeBackLast_82 : decode cX0_takeBackLast 82 = .ok (.iconst 2, 1) := by decide +kernel
theorem dX0_takeBackLast_83 : decode cX0_takeBackLast 83 = .ok (.iadd, 1) := by decide +kernel
theorem dX0_takeBackLast_84 : decode cX0_takeBackLast 84 = .ok (.iaload, 1) := by decide +kernel
theorem dX0_takeBackLast_85 : decode cX0_takeBackLast 85 = .ok (.iastore, 1) := by decide +kernel
theorem dX0_takeBackLast_86 : decode cX0_takeBackLast 86 = .ok (.aload_n 1, 1) := by decide +kernel
theorem dX0_takeBackLast_87 : decode cX0_takeBackLast 87 = .ok (.getfield 33, 3) := by decide +kernel
theorem dX0_takeBackLast_90 : decode cX0_takeBackLast 90 = .ok (.iload_n 3, 1) := by decide +kernel
theorem dX0_takeBackLast_91 : decode cX0_takeBackLast 91 = .ok (.aload_n 0, 1) := by decide +kernel
theorem dX0_takeBackLast_92 : decode cX0_takeBackLast 92 = .ok (.getfield 11, 3) := by decide +kernel
theorem dX0_takeBackLast_95 : decode cX0_takeBackLast 95 = .ok (.iload_n 2, 1) := by decide +kernel
theorem dX0_takeBackLast_96 : decode cX0_takeBackLast 96 = .ok (.iconst 3, 1) := by decide +kernel
theorem dX0_takeBackLast_97 : decode cX0_takeBackLast 97 = .ok (.iadd, 1) := by decide +kernel
theorem dX0_takeBackLast_98 : decode cX0_takeBackLast 98 = .ok (.iaload, 1) := by decide +kernel
theorem dX0_takeBackLast_99 : decode cX0_takeBackLast 99 = .ok (.iastore, 1) := by decide +kernel
theorem dX0_takeBackLast_100 : decode cX0_takeBackLast 100 = .ok (.goto 80, 3) := by decide +kernel
theorem dX0_takeBackLast_103 : decode cX0_takeBackLast 103 = .ok (.aload_n 1, 1) := by decide +kernel
theorem dX0_takeBackLast_104 : decode cX0_takeBackLast 104 = .ok (.getfield 36, 3) := by decide +kernel
theorem dX0_takeBackLast_107 : decode cX0_takeBackLast 107 = .ok (.iload_n 3, 1) := by decide +kernel
theorem dX0_takeBackLast_108 : decode cX0_takeBackLast 108 = .ok (.aload_n 0, 1) := by decide +kernel
theorem dX0_takeBackLast_109 : decode cX0_takeBackLast 109 = .ok (.getfield 11, 3) := by decide +kernel
theorem dX0_takeBackLast_112 : decode cX0_takeBackLast 112 = .ok (.iload_n 2, 1) := by decide +kernel
theorem dX0_takeBackLast_113 : decode cX0_takeBackLast 113 = .ok (.iconst 2, 1) := by decide +kernel
theorem dX0_takeBackLast_114 : decode cX0_takeBackLast 114 = .ok (.iadd, 1) := by decide +kernel
theorem dX0_takeBackLast_115 : decode cX0_takeBackLast 115 = .ok (.iaload, 1) := by decide +kernel
theorem dX0_takeBackLast_116 : decode cX0_takeBackLast 116 = .ok (.iastore, 1) := by decide +kernel
theorem dX0_takeBackLast_117 : decode cX0_takeBackLast 117 = .ok (.goto 63, 3) := by decide +kernel
theorem dX0_takeBackLast_120 : decode cX0_takeBackLast 120 = .ok (.aload_n 1, 1) := by decide +kernel
theorem dX0_takeBackLast_121 : decode cX0_takeBackLast 121 = .ok (.iload_n 3, 1) := by decide +kernel
theorem dX0_takeBackLast_122 : decode cX0_takeBackLast 122 = .ok (.aload_n 0, 1) := by decide +kernel
theorem dX0_takeBackLast_123 : decode cX0_takeBackLast 123 = .ok (.getfield 11, 3) := by decide +kernel
theorem dX0_takeBackLast_126 : decode cX0_takeBackLast 126 = .ok (.iload_n 2, 1) := by decide +kernel
theorem dX0_takeBackLast_127 : decode cX0_takeBackLast 127 = .ok (.iconst 2, 1) := by decide +kernel
theorem dX0_takeBackLast_128 : decode cX0_takeBackLast 128 = .ok (.iadd, 1) := by decide +kernel
theorem dX0_takeBackLast_129 : decode cX0_takeBackLast 129 = .ok (.iaload, 1) := by decide +kernel
theorem dX0_takeBackLast_130 : decode cX0_takeBackLast 130 = .ok (.aload_n 0, 1) := by decide +kernel
theorem dX0_takeBackLast_131 : decode cX0_takeBackLast 131 = .ok (.getfield 11, 3) := by decide +kernel
theorem dX0_takeBackLast_134 : decode cX0_takeBackLast 134 = .ok (.iload_n 2, 1) := by decide +kernel
theorem dX0_takeBackLast_135 : decode cX0_takeBackLast 135 = .ok (.iconst 3, 1) := by decide +kernel
theorem dX0_takeBackLast_136 : decode cX0_takeBackLast 136 = .ok (.iadd, 1) := by decide +kernel
theorem dX0_takeBackLast_137 : decode cX0_takeBackLast 137 = .ok (.iaload, 1) := by decide +kernel
theorem dX0_takeBackLast_138 : decode cX0_takeBackLast 138 = .ok (.aload_n 0, 1) := by decide +kernel
theorem dX0_takeBackLast_139 : decode cX0_takeBackLast 139 = .ok (.getfield 11, 3) := by decide +kernel
theorem dX0_takeBackLast_142 : decode cX0_takeBackLast 142 = .ok (.iload_n 2, 1) := by decide +kernel
theorem dX0_takeBackLast_143 : decode cX0_takeBackLast 143 = .ok (.iconst 4, 1) := by decide +kernel
theorem dX0_takeBackLast_144 : decode cX0_takeBackLast 144 = .ok (.iadd, 1) := by decide +kernel
theorem dX0_takeBackLast_145 : decode cX0_takeBackLast 145 = .ok (.iaload, 1) := by decide +kernel
theorem dX0_takeBackLast_146 : decode cX0_takeBackLast 146 = .ok (.invokevirtual 39, 3) := by decide +kernel
theorem dX0_takeBackLast_149 : decode cX0_takeBackLast 149 = .ok (.goto 31, 3) := by decide +kernel
theorem dX0_takeBackLast_152 : decode cX0_takeBackLast 152 = .ok (.aload_n 1, 1) := by decide +kernel
theorem dX0_takeBackLast_153 : decode cX0_takeBackLast 153 = .ok (.invokevirtual 43, 3) := by decide +kernel
theorem dX0_takeBackLast_156 : decode cX0_takeBackLast 156 = .ok (.pop, 1) := by decide +kernel
theorem dX0_takeBackLast_157 : decode cX0_takeBackLast 157 = .ok (.goto 23, 3) := by decide +kernel
theorem dX0_takeBackLast_160 : decode cX0_takeBackLast 160 = .ok (.aload_n 1, 1) := by decide +kernel
theorem dX0_takeBackLast_161 : decode cX0_takeBackLast 161 = .ok (.aload_n 0, 1) := by decide +kernel
theorem dX0_takeBackLast_162 : decode cX0_takeBackLast 162 = .ok (.getfield 11, 3) := by decide +kernel
theorem dX0_takeBackLast_165 : decode cX0_takeBackLast 165 = .ok (.iload_n 2, 1) := by decide +kernel
theorem dX0_takeBackLast_166 : decode cX0_takeBackLast 166 = .ok (.iconst 2, 1) := by decide +kernel
theorem dX0_takeBackLast_167 : decode cX0_takeBackLast 167 = .ok (.iadd, 1) := by decide +kernel
theorem dX0_takeBackLast_168 : decode cX0_takeBackLast 168 = .ok (.iaload, 1) := by decide +kernel
theorem dX0_takeBackLast_169 : decode cX0_takeBackLast 169 = .ok (.aload_n 0, 1) := by decide +kernel
theorem dX0_takeBackLast_170 : decode cX0_takeBackLast 170 = .ok (.getfield 11, 3) := by decide +kernel
theorem dX0_takeBackLast_173 : decode cX0_takeBackLast 173 = .ok (.iload_n 2, 1) := by decide +kernel
theorem dX0_takeBackLast_174 : decode cX0_takeBackLast 174 = .ok (.iconst 3, 1) := by decide +kernel
theorem dX0_takeBackLast_175 : decode cX0_takeBackLast 175 = .ok (.iadd, 1) := by decide +kernel
theorem dX0_takeBackLast_176 : decode cX0_takeBackLast 176 = .ok (.iaload, 1) := by decide +kernel
theorem dX0_takeBackLast_177 : decode cX0_takeBackLast 177 = .ok (.invokevirtual 47, 3) := by decide +kernel
theorem dX0_takeBackLast_180 : decode cX0_takeBackLast 180 = .ok (.return_, 1) := by decide +kernel
theorem dX1_init_0 : decode cX1_init 0 = .ok (.aload_n 0, 1) := by decide +kernel
theorem dX1_init_1 : decode cX1_init 1 = .ok (.invokespecial 3, 3) := by decide +kernel
theorem dX1_init_4 : decode cX1_init 4 = .ok (.aload_n 0, 1) := by decide +kernel
theorem dX1_init_5 : decode cX1_init 5 = .ok (.new 9, 3) := by decide +kernel
theorem dX1_init_8 : decode cX1_init 8 = .ok (.dup, 1) := by decide +kernel
theorem dX1_init_9 : decode cX1_init 9 = .ok (.invokespecial 11, 3) := by decide +kernel
theorem dX1_init_12 : decode cX1_init 12 = .ok (.putfield 12, 3) := by decide +kernel
theorem dX1_init_15 : decode cX1_init 15 = .ok (.aload_n 0, 1) := by decide +kernel
theorem dX1_init_16 : decode cX1_init 16 = .ok (.iconst 2, 1) := by decide +kernel
theorem dX1_init_17 : decode cX1_init 17 = .ok (.newarray .int, 2) := by decide +kernel
theorem dX1_init_19 : decode cX1_init 19 = .ok (.putfield 18, 3) := by decide +kernel
theorem dX1_init_22 : decode cX1_init 22 = .ok (.return_, 1) := by decide +kernel
theorem dX1_firstFault_0 : decode cX1_firstFault 0 = .ok (.aload_n 0, 1) := by decide +kernel
theorem dX1_firstFault_1 : decode cX1_firstFault 1 = .ok (.getfield 12, 3) := by decide +kernel
theorem dX1_firstFault_4 : decode cX1_firstFault 4 = .ok (.invokevirtual 22, 3) := by decide +kernel
theorem dX1_firstFault_7 : decode cX1_firstFault 7 = .ok (.aload_n 0, 1) := by decide +kernel
theorem dX1_firstFault_8 : decode cX1_firstFault 8 = .ok (.iconst 0, 1) := by decide +kernel
theorem dX1_firstFault_9 : decode cX1_firstFault 9 = .ok (.putfield 25, 3) := by decide +kernel
theorem dX1_firstFault_12 : decode cX1_firstFault 12 = .ok (.aload_n 0, 1) := by decide +kernel
theorem dX1_firstFault_13 : decode cX1_firstFault 13 = .ok (.iconst 0, 1) := by decide +kernel
theorem dX1_firstFault_14 : decode cX1_firstFault 14 = .ok (.putfield 29, 3) := by decide +kernel
theorem dX1_firstFault_17 : decode cX1_firstFault 17 = .ok (.iconst 0, 1) := by decide +kernel
theorem dX1_firstFault_18 : decode cX1_firstFault 18 = .ok (.istore_n 3, 1) := by decide +kernel
theorem dX1_firstFault_19 : decode cX1_firstFault 19 = .ok (.iload_n 3, 1) := by decide +kernel
theorem dX1_firstFault_20 : decode cX1_firstFault 20 = .ok (.iload_n 2, 1) := by decide +kernel
theorem dX1_firstFault_21 : decode cX1_firstFault 21 = .ok (.if_icmp .ge 27, 3) := by decide +kernel
theorem dX1_firstFault_24 : decode cX1_firstFault 24 = .ok (.iload_n 3, 1) := by decide +kernel
theorem dX1_firstFault_25 : decode cX1_firstFault 25 = .ok (.aload_n 1, 1) := by decide +kernel
theorem dX1_firstFault_26 : decode cX1_firstFault 26 = .ok (.arraylength, 1) := by decide +kernel
theorem dX1_firstFault_27 : decode cX1_firstFault 27 = .ok (.if_icmp .ge 21, 3) := by decide +kernel
theorem dX1_firstFault_30 : decode cX1_firstFault 30 = .ok (.aload_n 0, 1) := by decide +kernel
theorem dX1_firstFault_31 : decode cX1_firstFault 31 = .ok (.aload_n 1, 1) := by decide +kernel
theorem dX1_firstFault_32 : decode cX1_firstFault 32 = .ok (.iload_n 3, 1) := by decide +kernel
theorem dX1_firstFault_33 : decode cX1_firstFault 33 = .ok (.iaload, 1) := by decide +kernel
theorem dX1_firstFault_34 : decode cX1_firstFault 34 = .ok (.invokevirtual 32, 3) := by decide +kernel
theorem dX1_firstFault_37 : decode cX1_firstFault 37 = .ok (.ifCond .ne 5, 3) := by decide +kernel
theorem dX1_firstFault_40 : decode cX1_firstFault 40 = .ok (.iload_n 3, 1) := by decide +kernel
theorem dX1_firstFault_41 : decode cX1_firstFault 41 = .ok (.ireturn, 1) := by decide +kernel
theorem dX1_firstFault_42 : decode cX1_firstFault 42 = .ok (.iinc 3 1, 3) := by decide +kernel
theorem dX1_firstFault_45 : decode cX1_firstFault 45 = .ok (.goto (-26), 3) := by decide +kernel
theorem dX1_firstFault_48 : decode cX1_firstFault 48 = .ok (.aload_n 0, 1) := by decide +kernel
theorem dX1_firstFault_49 : decode cX1_firstFault 49 = .ok (.getfield 25, 3) := by decide +kernel
theorem dX1_firstFault_52 : decode cX1_firstFault 52 = .ok (.iconst 1, 1) := by decide +kernel
theorem dX1_firstFault_53 : decode cX1_firstFault 53 = .ok (.if_icmp .eq 11, 3) := by decide +kernel
theorem dX1_firstFault_56 : decode cX1_firstFault 56 = .ok (.aload_n 0, 1) := by decide +kernel
theorem dX1_firstFault_57 : decode cX1_firstFault 57 = .ok (.getfield 25, 3) := by decide +kernel
theorem dX1_firstFault_60 : decode cX1_firstFault 60 = .ok (.iconst 4, 1) := by decide +kernel
theorem dX1_firstFault_61 : decode cX1_firstFault 61 = .ok (.if_icmp .ne 8, 3) := by decide +kernel
theorem dX1_firstFault_64 : decode cX1_firstFault 64 = .ok (.bipush (-9), 2) := by decide +kernel
theorem dX1_firstFault_66 : decode cX1_firstFault 66 = .ok (.goto 4, 3) := by decide +kernel
theorem dX1_firstFault_69 : decode cX1_firstFault 69 = .ok (.iload_n 2, 1) := by decide +kernel
theorem dX1_firstFault_70 : decode cX1_firstFault 70 = .ok (.ireturn, 1) := by decide +kernel
theorem dX1_takes_0 : decode cX1_takes 0 = .ok (.aload_n 0, 1) := by decide +kernel
theorem dX1_takes_1 : decode cX1_takes 1 = .ok (.getfield 25, 3) := by decide +kernel
theorem dX1_takes_4 : decode cX1_takes 4 = .ok (.tableswitch 168 0 8 #[52, 69, 88, 123, 132, 138, 144, 150, 159], 52) := by decide +kernel
theorem dX1_takes_56 : decode cX1_takes 56 = .ok (.aload_n 0, 1) := by decide +kernel
theorem dX1_takes_57 : decode cX1_takes 57 = .ok (.iconst 1, 1) := by decide +kernel
theorem dX1_takes_58 : decode cX1_takes 58 = .ok (.putfield 25, 3) := by decide +kernel
theorem dX1_takes_61 : decode cX1_takes 61 = .ok (.iload_n 1, 1) := by decide +kernel
theorem dX1_takes_62 : decode cX1_takes 62 = .ok (.bipush 75, 2) := by decide +kernel
theorem dX1_takes_64 : decode cX1_takes 64 = .ok (.if_icmp .ne 7, 3) := by decide +kernel
theorem dX1_takes_67 : decode cX1_takes 67 = .ok (.iconst 1, 1) := by decide +kernel
theorem dX1_takes_68 : decode cX1_takes 68 = .ok (.goto 4, 3) := by decide +kernel
theorem dX1_takes_71 : decode cX1_takes 71 = .ok (.iconst 0, 1) := by decide +kernel
theorem dX1_takes_72 : decode cX1_takes 72 = .ok (.ireturn, 1) := by decide +kernel
theorem dX1_takes_73 : decode cX1_takes 73 = .ok (.iload_n 1, 1) := by decide +kernel
theorem dX1_takes_74 : decode cX1_takes 74 = .ok (.bipush 100, 2) := by decide +kernel
theorem dX1_takes_76 : decode cX1_takes 76 = .ok (.if_icmp .ne 10, 3) := by decide +kernel
theorem dX1_takes_79 : decode cX1_takes 79 = .ok (.aload_n 0, 1) := by decide +kernel
theorem dX1_takes_80 : decode cX1_takes 80 = .ok (.invokevirtual 36, 3) := by decide +kernel
theorem dX1_takes_83 : decode cX1_takes 83 = .ok (.goto 8, 3) := by decide +kernel
theorem dX1_takes_86 : decode cX1_takes 86 = .ok (.aload_n 0, 1) := by decide +kernel
theorem dX1_takes_87 : decode cX1_takes 87 = .ok (.iload_n 1, 1) := by decide +kernel
theorem dX1_takes_88 : decode cX1_takes 88 = .ok (.invokevirtual 40, 3) := by decide +kernel
theorem dX1_takes_91 : decode cX1_takes 91 = .ok (.ireturn, 1) := by decide +kernel
theorem dX1_takes_92 : decode cX1_takes 92 = .ok (.aload_n 0, 1) := by decide +kernel
theorem dX1_takes_93 : decode cX1_takes 93 = .ok (.iload_n 1, 1) := by decide +kernel
theorem dX1_takes_94 : decode cX1_takes 94 = .ok (.bipush 48, 2) := by decide +kernel
theorem dX1_takes_96 : decode cX1_takes 96 = .ok (.isub, 1) := by decide +kernel
theorem dX1_takes_97 : decode cX1_takes 97 = .ok (.putfield 43, 3) := by decide +kernel
theorem dX1_takes_100 : decode cX1_takes 100 = .ok (.aload_n 0, 1) := by decide +kernel
theorem dX1_takes_101 : decode cX1_takes 101 = .ok (.iconst 3, 1) := by decide +kernel
theorem dX1_takes_102 : decode cX1_takes 102 = .ok (.putfield 25, 3) := by decide +kernel
theorem dX1_takes_105 : decode cX1_takes 105 = .ok (.aload_n 0, 1) := by decide +kernel
theorem dX1_takes_106 : decode cX1_takes 106 = .ok (.getfield 43, 3) := by decide +kernel
theorem dX1_takes_109 : decode cX1_takes 109 = .ok (.ifCond .lt 16, 3) := by decide +kernel
theorem dX1_takes_112 : decode cX1_takes 112 = .ok (.aload_n 0, 1) := by decide +kernel
theorem dX1_takes_113 : decode cX1_takes 113 = .ok (.getfield 43, 3) := by decide +kernel
theorem dX1_takes_116 : decode cX1_takes 116 = .ok (.bipush 9, 2) := by decide +kernel
theorem dX1_takes_118 : decode cX1_takes 118 = .ok (.if_icmp .gt 7, 3) := by decide +kernel
theorem dX1_takes_121 : decode cX1_takes 121 = .ok (.iconst 1, 1) := by decide +kernel
theorem dX1_takes_122 : decode cX1_takes 122 = .ok (.goto 4, 3) := by decide +kernel
theorem dX1_takes_125 : decode cX1_takes 125 = .ok (.iconst 0, 1) := by decide +kernel
theorem dX1_takes_126 : decode cX1_takes 126 = .ok (.ireturn, 1) := by decide +kernel
theorem dX1_takes_127 : decode cX1_takes 127 = .ok (.aload_n 0, 1) := by decide +kernel
theorem dX1_takes_128 : decode cX1_takes 128 = .ok (.iload_n 1, 1) := by decide +kernel
theorem dX1_takes_129 : decode cX1_takes 129 = .ok (.bipush 48, 2) := by decide +kernel
theorem dX1_takes_131 : decode cX1_takes 131 = .ok (.isub, 1) := by decide +kernel
theorem dX1_takes_132 : decode cX1_takes 132 = .ok (.invokevirtual 46, 3) := by decide +kernel
theorem dX1_takes_135 : decode cX1_takes 135 = .ok (.ireturn, 1) := by decide +kernel
theorem dX1_takes_136 : decode cX1_takes 136 = .ok (.aload_n 0, 1) := by decide +kernel
theorem dX1_takes_137 : decode cX1_takes 137 = .ok (.iload_n 1, 1) := by decide +kernel
theorem dX1_takes_138 : decode cX1_takes 138 = .ok (.invokevirtual 40, 3) := by decide +kernel
theorem dX1_takes_141 : decode cX1_takes 141 = .ok (.ireturn, 1) := by decide +kernel
theorem dX1_takes_142 : decode cX1_takes 142 = .ok (.aload_n 0, 1) := by decide +kernel
theorem dX1_takes_143 : decode cX1_takes 143 = .ok (.iload_n 1, 1) := by decide +kernel
theorem dX1_takes_144 : decode cX1_takes 144 = .ok (.invokevirtual 49, 3) := by decide +kernel
theorem dX1_takes_147 : decode cX1_takes 147 = .ok (.ireturn, 1) := by decide +kernel
theorem dX1_takes_148 : decode cX1_takes 148 = .ok (.aload_n 0, 1) := by decide +kernel
theorem dX1_takes_149 : decode cX1_takes 149 = .ok (.iload_n 1, 1) := by decide +kernel
theorem dX1_takes_150 : decode cX1_takes 150 = .ok (.invokevirtual 52, 3) := by decide +kernel
theorem dX1_takes_153 : decode cX1_takes 153 = .ok (.ireturn, 1) := by decide +kernel
theorem dX1_takes_154 : decode cX1_takes 154 = .ok (.aload_n 0, 1) := by decide +kernel
theorem dX1_takes_155 : decode cX1_takes 155 = .ok (.iload_n 1, 1) := by decide +kernel
theorem dX1_takes_156 : decode cX1_takes 156 = .ok (.bipush 48, 2) := by decide +kernel
theorem dX1_takes_158 : decode cX1_takes 158 = .ok (.isub, 1) := by decide +kernel
theorem dX1_takes_159 : decode cX1_takes 159 = .ok (.invokevirtual 55, 3) := by decide +kernel
theorem dX1_takes_162 : decode cX1_takes 162 = .ok (.ireturn, 1) := by decide +kernel
theorem dX1_takes_163 : decode cX1_takes 163 = .ok (.aload_n 0, 1) := by decide +kernel
theorem dX1_takes_164 : decode cX1_takes 164 = .ok (.iload_n 1, 1) := by decide +kernel
theorem dX1_takes_165 : decode cX1_takes 165 = .ok (.bipush 48, 2) := by decide +kernel
theorem dX1_takes_167 : decode cX1_takes 167 = .ok (.isub, 1) := by decide +kernel
theorem dX1_takes_168 : decode cX1_takes 168 = .ok (.invokevirtual 58, 3) := by decide +kernel
theorem dX1_takes_171 : decode cX1_takes 171 = .ok (.ireturn, 1) := by decide +kernel
theorem dX1_takes_172 : decode cX1_takes 172 = .ok (.iconst 0, 1) := by decide +kernel
theorem dX1_takes_173 : decode cX1_takes 173 = .ok (.ireturn, 1) := by decide +kernel
theorem dX1_takesDrawing_0 : decode cX1_takesDrawing 0 = .ok (.aload_n 0, 1) := by decide +kernel
theorem dX1_takesDrawing_1 : decode cX1_takesDrawing 1 = .ok (.iconst 2, 1) := by decide +kernel
theorem dX1_takesDrawing_2 : decode cX1_takesDrawing 2 = .ok (.putfield 25, 3) := by decide +kernel
theorem dX1_takesDrawing_5 : decode cX1_takesDrawing 5 = .ok (.aload_n 0, 1) := by decide +kernel
theorem dX1_takesDrawing_6 : decode cX1_takesDrawing 6 = .ok (.getfield 12, 3) := by decide +kernel
theorem dX1_takesDrawing_9 : decode cX1_takesDrawing 9 = .ok (.getfield 61, 3) := by decide +kernel
theorem dX1_takesDrawing_12 : decode cX1_takesDrawing 12 = .ok (.bipush 6, 2) := by decide +kernel
theorem dX1_takesDrawing_14 : decode cX1_takesDrawing 14 = .ok (.if_icmp .ge 7, 3) := by decide +kernel
theorem dX1_takesDrawing_17 : decode cX1_takesDrawing 17 = .ok (.iconst 1, 1) := by decide +kernel
theorem dX1_takesDrawing_18 : decode cX1_takesDrawing 18 = .ok (.goto 4, 3) := by decide +kernel
theorem dX1_takesDrawing_21 : decode cX1_takesDrawing 21 = .ok (.iconst 0, 1) := by decide +kernel
theorem dX1_takesDrawing_22 : decode cX1_takesDrawing 22 = .ok (.ireturn, 1) := by decide +kernel
theorem dX1_takesWidth_0 : decode cX1_takesWidth 0 = .ok (.iload_n 1, 1) := by decide +kernel
theorem dX1_takesWidth_1 : decode cX1_takesWidth 1 = .ok (.iconst 1, 1) := by decide +kernel
theorem dX1_takesWidth_2 : decode cX1_takesWidth 2 = .ok (.if_icmp .lt 8, 3) := by decide +kernel
theorem dX1_takesWidth_5 : decode cX1_takesWidth 5 = .ok (.iload_n 1, 1) := by decide +kernel
theorem dX1_takesWidth_6 : decode cX1_takesWidth 6 = .ok (.iconst 5, 1) := by decide +kernel
theorem dX1_takesWidth_7 : decode cX1_takesWidth 7 = .ok (.if_icmp .le 5, 3) := by decide +kernel
theorem dX1_takesWidth_10 : decode cX1_takesWidth 10 = .ok (.iconst 0, 1) := by decide +kernel
theorem dX1_takesWidth_11 : decode cX1_takesWidth 11 = .ok (.ireturn, 1) := by decide +kernel
theorem dX1_takesWidth_12 : decode cX1_takesWidth 12 = .ok (.aload_n 0, 1) := by decide +kernel
theorem dX1_takesWidth_13 : decode cX1_takesWidth 13 = .ok (.getfield 12, 3) := by decide +kernel
theorem dX1_takesWidth_16 : decode cX1_takesWidth 16 = .ok (.aload_n 0, 1) := by decide +kernel
theorem dX1_takesWidth_17 : decode cX1_takesWidth 17 = .ok (.getfield 43, 3) := by decide +kernel
theorem dX1_takesWidth_20 : decode cX1_takesWidth 20 = .ok (.iload_n 1, 1) := by decide +kernel
theorem dX1_takesWidth_21 : decode cX1_takesWidth 21 = .ok (.invokevirtual 64, 3) := by decide +kernel
theorem dX1_takesWidth_24 : decode cX1_takesWidth 24 = .ok (.aload_n 0, 1) := by decide +kernel
theorem dX1_takesWidth_25 : decode cX1_takesWidth 25 = .ok (.iconst 1, 1) := by decide +kernel
theorem dX1_takesWidth_26 : decode cX1_takesWidth 26 = .ok (.putfield 25, 3) := by decide +kernel
theorem dX1_takesWidth_29 : decode cX1_takesWidth 29 = .ok (.iconst 1, 1) := by decide +kernel
theorem dX1_takesWidth_30 : decode cX1_takesWidth 30 = .ok (.ireturn, 1) := by decide +kernel
theorem dX1_takesLevel_0 : decode cX1_takesLevel 0 = .ok (.iload_n 1, 1) := by decide +kernel
theorem dX1_takesLevel_1 : decode cX1_takesLevel 1 = .ok (.bipush 118, 2) := by decide +kernel
theorem dX1_takesLevel_3 : decode cX1_takesLevel 3 = .ok (.if_icmp .ne 14, 3) := by decide +kernel
theorem dX1_takesLevel_6 : decode cX1_takesLevel 6 = .ok (.aload_n 0, 1) := by decide +kernel
theorem dX1_takesLevel_7 : decode cX1_takesLevel 7 = .ok (.getfield 12, 3) := by decide +kernel
theorem dX1_takesLevel_10 : decode cX1_takesLevel 10 = .ok (.getfield 68, 3) := by decide +kernel
theorem dX1_takesLevel_13 : decode cX1_takesLevel 13 = .ok (.iconst 4, 1) := by decide +kernel
theorem dX1_takesLevel_14 : decode cX1_takesLevel 14 = .ok (.if_icmp .lt 5, 3) := by decide +kernel
theorem dX1_takesLevel_17 : decode cX1_takesLevel 17 = .ok (.iconst 0, 1) := by decide +kernel
theorem dX1_takesLevel_18 : decode cX1_takesLevel 18 = .ok (.ireturn, 1) := by decide +kernel
theorem dX1_takesLevel_19 : decode cX1_takesLevel 19 = .ok (.aload_n 0, 1) := by decide +kernel
theorem dX1_takesLevel_20 : decode cX1_takesLevel 20 = .ok (.getfield 12, 3) := by decide +kernel
theorem dX1_takesLevel_23 : decode cX1_takesLevel 23 = .ok (.invokevirtual 71, 3) := by decide +kernel
theorem dX1_takesLevel_26 : decode cX1_takesLevel 26 = .ok (.aload_n 0, 1) := by decide +kernel
theorem dX1_takesLevel_27 : decode cX1_takesLevel 27 = .ok (.iconst 5, 1) := by decide +kernel
theorem dX1_takesLevel_28 : decode cX1_takesLevel 28 = .ok (.putfield 25, 3) := by decide +kernel
theorem dX1_takesLevel_31 : decode cX1_takesLevel 31 = .ok (.iconst 1, 1) := by decide +kernel
theorem dX1_takesLevel_32 : decode cX1_takesLevel 32 = .ok (.ireturn, 1) := by decide +kernel
theorem dX1_takesItemOrEnd_0 : decode cX1_takesItemOrEnd 0 = .ok (.iload_n 1, 1) := by decide +kernel
theorem dX1_takesItemOrEnd_1 : decode cX1_takesItemOrEnd 1 = .ok (.bipush 46, 2) := by decide +kernel
theorem dX1_takesItemOrEnd_3 : decode cX1_takesItemOrEnd 3 = .ok (.if_icmp .ne 21, 3) := by decide +kernel
theorem dX1_takesItemOrEnd_6 : decode cX1_takesItemOrEnd 6 = .ok (.aload_n 0, 1) := by decide +kernel
theorem dX1_takesItemOrEnd_7 : decode cX1_takesItemOrEnd 7 = .ok (.iconst 4, 1) := by decide +kernel
theorem dX1_takesItemOrEnd_8 : decode cX1_takesItemOrEnd 8 = .ok (.putfield 25, 3) := by decide +kernel
theorem dX1_takesItemOrEnd_11 : decode cX1_takesItemOrEnd 11 = .ok (.aload_n 0, 1) := by decide +kernel
theorem dX1_takesItemOrEnd_12 : decode cX1_takesItemOrEnd 12 = .ok (.getfield 29, 3) := by decide +kernel
theorem dX1_takesItemOrEnd_15 : decode cX1_takesItemOrEnd 15 = .ok (.ifCond .ne 7, 3) := by decide +kernel
theorem dX1_takesItemOrEnd_18 : decode cX1_takesItemOrEnd 18 = .ok (.iconst 1, 1) := by decide +kernel
theorem dX1_takesItemOrEnd_19 : decode cX1_takesItemOrEnd 19 = .ok (.goto 4, 3) := by decide +kernel
theorem dX1_takesItemOrEnd_22 : decode cX1_takesItemOrEnd 22 = .ok (.iconst 0, 1) := by decide +kernel
theorem dX1_takesItemOrEnd_23 : decode cX1_takesItemOrEnd 23 = .ok (.ireturn, 1) := by decide +kernel
theorem dX1_takesItemOrEnd_24 : decode cX1_takesItemOrEnd 24 = .ok (.iload_n 1, 1) := by decide +kernel
theorem dX1_takesItemOrEnd_25 : decode cX1_takesItemOrEnd 25 = .ok (.bipush 41, 2) := by decide +kernel
theorem dX1_takesItemOrEnd_27 : decode cX1_takesItemOrEnd 27 = .ok (.if_icmp .ne 22, 3) := by decide +kernel
theorem dX1_takesItemOrEnd_30 : decode cX1_takesItemOrEnd 30 = .ok (.aload_n 0, 1) := by decide +kernel
theorem dX1_takesItemOrEnd_31 : decode cX1_takesItemOrEnd 31 = .ok (.bipush 8, 2) := by decide +kernel
theorem dX1_takesItemOrEnd_33 : decode cX1_takesItemOrEnd 33 = .ok (.putfield 25, 3) := by decide +kernel
theorem dX1_takesItemOrEnd_36 : decode cX1_takesItemOrEnd 36 = .ok (.aload_n 0, 1) := by decide +kernel
theorem dX1_takesItemOrEnd_37 : decode cX1_takesItemOrEnd 37 = .ok (.getfield 29, 3) := by decide +kernel
theorem dX1_takesItemOrEnd_40 : decode cX1_takesItemOrEnd 40 = .ok (.ifCond .le 7, 3) := by decide +kernel
theorem dX1_takesItemOrEnd_43 : decode cX1_takesItemOrEnd 43 = .ok (.iconst 1, 1) := by decide +kernel
theorem dX1_takesItemOrEnd_44 : decode cX1_takesItemOrEnd 44 = .ok (.goto 4, 3) := by decide +kernel
theorem dX1_takesItemOrEnd_47 : decode cX1_takesItemOrEnd 47 = .ok (.iconst 0, 1) := by decide +kernel
theorem dX1_takesItemOrEnd_48 : decode cX1_takesItemOrEnd 48 = .ok (.ireturn, 1) := by decide +kernel
theorem dX1_takesItemOrEnd_49 : decode cX1_takesItemOrEnd 49 = .ok (.aload_n 0, 1) := by decide +kernel
theorem dX1_takesItemOrEnd_50 : decode cX1_takesItemOrEnd 50 = .ok (.iload_n 1, 1) := by decide +kernel
theorem dX1_takesItemOrEnd_51 : decode cX1_takesItemOrEnd 51 = .ok (.invokevirtual 52, 3) := by decide +kernel
theorem dX1_takesItemOrEnd_54 : decode cX1_takesItemOrEnd 54 = .ok (.ireturn, 1) := by decide +kernel
theorem dX1_takesItem_0 : decode cX1_takesItem 0 = .ok (.iload_n 1, 1) := by decide +kernel
theorem dX1_takesItem_1 : decode cX1_takesItem 1 = .ok (.bipush 40, 2) := by decide +kernel
theorem dX1_takesItem_3 : decode cX1_takesItem 3 = .ok (.if_icmp .ne 8, 3) := by decide +kernel
theorem dX1_takesItem_6 : decode cX1_takesItem 6 = .ok (.aload_n 0, 1) := by decide +kernel
theorem dX1_takesItem_7 : decode cX1_takesItem 7 = .ok (.invokevirtual 74, 3) := by decide +kernel
theorem dX1_takesItem_10 : decode cX1_takesItem 10 = .ok (.ireturn, 1) := by decide +kernel
theorem dX1_takesItem_11 : decode cX1_takesItem 11 = .ok (.iload_n 1, 1) := by decide +kernel
theorem dX1_takesItem_12 : decode cX1_takesItem 12 = .ok (.bipush 97, 2) := by decide +kernel
theorem dX1_takesItem_14 : decode cX1_takesItem 14 = .ok (.isub, 1) := by decide +kernel
theorem dX1_takesItem_15 : decode cX1_takesItem 15 = .ok (.istore_n 2, 1) := by decide +kernel
theorem dX1_takesItem_16 : decode cX1_takesItem 16 = .ok (.iload_n 1, 1) := by decide +kernel
theorem dX1_takesItem_17 : decode cX1_takesItem 17 = .ok (.bipush 45, 2) := by decide +kernel
theorem dX1_takesItem_19 : decode cX1_takesItem 19 = .ok (.if_icmp .ne 12, 3) := by decide +kernel
theorem dX1_takesItem_22 : decode cX1_takesItem 22 = .ok (.aload_n 0, 1) := by decide +kernel
theorem dX1_takesItem_23 : decode cX1_takesItem 23 = .ok (.bipush (-9), 2) := by decide +kernel
theorem dX1_takesItem_25 : decode cX1_takesItem 25 = .ok (.putfield 77, 3) := by decide +kernel
theorem dX1_takesItem_28 : decode cX1_takesItem 28 = .ok (.goto 28, 3) := by decide +kernel
theorem dX1_takesItem_31 : decode cX1_takesItem 31 = .ok (.iload_n 2, 1) := by decide +kernel
theorem dX1_takesItem_32 : decode cX1_takesItem 32 = .ok (.ifCond .lt 22, 3) := by decide +kernel
theorem dX1_takesItem_35 : decode cX1_takesItem 35 = .ok (.iload_n 2, 1) := by decide +kernel
theorem dX1_takesItem_36 : decode cX1_takesItem 36 = .ok (.aload_n 0, 1) := by decide +kernel
theorem dX1_takesItem_37 : decode cX1_takesItem 37 = .ok (.getfield 12, 3) := by decide +kernel
theorem dX1_takesItem_40 : decode cX1_takesItem 40 = .ok (.getfield 61, 3) := by decide +kernel
theorem dX1_takesItem_43 : decode cX1_takesItem 43 = .ok (.if_icmp .ge 11, 3) := by decide +kernel
theorem dX1_takesItem_46 : decode cX1_takesItem 46 = .ok (.aload_n 0, 1) := by decide +kernel
theorem dX1_takesItem_47 : decode cX1_takesItem 47 = .ok (.iload_n 2, 1) := by decide +kernel
theorem dX1_takesItem_48 : decode cX1_takesItem 48 = .ok (.putfield 77, 3) := by decide +kernel
theorem dX1_takesItem_51 : decode cX1_takesItem 51 = .ok (.goto 5, 3) := by decide +kernel
theorem dX1_takesItem_54 : decode cX1_takesItem 54 = .ok (.iconst 0, 1) := by decide +kernel
theorem dX1_takesItem_55 : decode cX1_takesItem 55 = .ok (.ireturn, 1) := by decide +kernel
theorem dX1_takesItem_56 : decode cX1_takesItem 56 = .ok (.aload_n 0, 1) := by decide +kernel
theorem dX1_takesItem_57 : decode cX1_takesItem 57 = .ok (.bipush 7, 2) := by decide +kernel
theorem dX1_takesItem_59 : decode cX1_takesItem 59 = .ok (.putfield 25, 3) := by decide +kernel
theorem dX1_takesItem_62 : decode cX1_takesItem 62 = .ok (.iconst 1, 1) := by decide +kernel
theorem dX1_takesItem_63 : decode cX1_takesItem 63 = .ok (.ireturn, 1) := by decide +kernel
theorem dX1_takesOpening_0 : decode cX1_takesOpening 0 = .ok (.aload_n 0, 1) := by decide +kernel
theorem dX1_takesOpening_1 : decode cX1_takesOpening 1 = .ok (.getfield 29, 3) := by decide +kernel
theorem dX1_takesOpening_4 : decode cX1_takesOpening 4 = .ok (.ifCond .lt 11, 3) := by decide +kernel
theorem dX1_takesOpening_7 : decode cX1_takesOpening 7 = .ok (.aload_n 0, 1) := by decide +kernel
theorem dX1_takesOpening_8 : decode cX1_takesOpening 8 = .ok (.getfield 29, 3) := by decide +kernel
theorem dX1_takesOpening_11 : decode cX1_takesOpening 11 = .ok (.iconst 2, 1) := by decide +kernel
theorem dX1_takesOpening_12 : decode cX1_takesOpening 12 = .ok (.if_icmp .lt 5, 3) := by decide +kernel
theorem dX1_takesOpening_15 : decode cX1_takesOpening 15 = .ok (.iconst 0, 1) := by decide +kernel
theorem dX1_takesOpening_16 : decode cX1_takesOpening 16 = .ok (.ireturn, 1) := by decide +kernel
theorem dX1_takesOpening_17 : decode cX1_takesOpening 17 = .ok (.aload_n 0, 1) := by decide +kernel
theorem dX1_takesOpening_18 : decode cX1_takesOpening 18 = .ok (.getfield 18, 3) := by decide +kernel
theorem dX1_takesOpening_21 : decode cX1_takesOpening 21 = .ok (.aload_n 0, 1) := by decide +kernel
theorem dX1_takesOpening_22 : decode cX1_takesOpening 22 = .ok (.getfield 29, 3) := by decide +kernel
theorem dX1_takesOpening_25 : decode cX1_takesOpening 25 = .ok (.aload_n 0, 1) := by decide +kernel
theorem dX1_takesOpening_26 : decode cX1_takesOpening 26 = .ok (.getfield 12, 3) := by decide +kernel
theorem dX1_takesOpening_29 : decode cX1_takesOpening 29 = .ok (.invokevirtual 80, 3) := by decide +kernel
theorem dX1_takesOpening_32 : decode cX1_takesOpening 32 = .ok (.iastore, 1) := by decide +kernel
theorem dX1_takesOpening_33 : decode cX1_takesOpening 33 = .ok (.aload_n 0, 1) := by decide +kernel
theorem dX1_takesOpening_34 : decode cX1_takesOpening 34 = .ok (.dup, 1) := by decide +kernel
theorem dX1_takesOpening_35 : decode cX1_takesOpening 35 = .ok (.getfield 29, 3) := by decide +kernel
theorem dX1_takesOpening_38 : decode cX1_takesOpening 38 = .ok (.iconst 1, 1) := by decide +kernel
theorem dX1_takesOpening_39 : decode cX1_takesOpening 39 = .ok (.iadd, 1) := by decide +kernel
theorem dX1_takesOpening_40 : decode cX1_takesOpening 40 = .ok (.putfield 29, 3) := by decide +kernel
theorem dX1_takesOpening_43 : decode cX1_takesOpening 43 = .ok (.aload_n 0, 1) := by decide +kernel
theorem dX1_takesOpening_44 : decode cX1_takesOpening 44 = .ok (.bipush 6, 2) := by decide +kernel
theorem dX1_takesOpening_46 : decode cX1_takesOpening 46 = .ok (.putfield 25, 3) := by decide +kernel
theorem dX1_takesOpening_49 : decode cX1_takesOpening 49 = .ok (.iconst 1, 1) := by decide +kernel
theorem dX1_takesOpening_50 : decode cX1_takesOpening 50 = .ok (.ireturn, 1) := by decide +kernel
theorem dX1_takesHold_0 : decode cX1_takesHold 0 = .ok (.iload_n 1, 1) := by decide +kernel
theorem dX1_takesHold_1 : decode cX1_takesHold 1 = .ok (.iconst 1, 1) := by decide +kernel
theorem dX1_takesHold_2 : decode cX1_takesHold 2 = .ok (.if_icmp .lt 9, 3) := by decide +kernel
theorem dX1_takesHold_5 : decode cX1_takesHold 5 = .ok (.iload_n 1, 1) := by decide +kernel
theorem dX1_takesHold_6 : decode cX1_takesHold 6 = .ok (.bipush 9, 2) := by decide +kernel
theorem dX1_takesHold_8 : decode cX1_takesHold 8 = .ok (.if_icmp .le 5, 3) := by decide +kernel
theorem dX1_takesHold_11 : decode cX1_takesHold 11 = .ok (.iconst 0, 1) := by decide +kernel
theorem dX1_takesHold_12 : decode cX1_takesHold 12 = .ok (.ireturn, 1) := by decide +kernel
theorem dX1_takesHold_13 : decode cX1_takesHold 13 = .ok (.aload_n 0, 1) := by decide +kernel
theorem dX1_takesHold_14 : decode cX1_takesHold 14 = .ok (.getfield 12, 3) := by decide +kernel
theorem dX1_takesHold_17 : decode cX1_takesHold 17 = .ok (.aload_n 0, 1) := by decide +kernel
theorem dX1_takesHold_18 : decode cX1_takesHold 18 = .ok (.getfield 77, 3) := by decide +kernel
theorem dX1_takesHold_21 : decode cX1_takesHold 21 = .ok (.iload_n 1, 1) := by decide +kernel
theorem dX1_takesHold_22 : decode cX1_takesHold 22 = .ok (.invokevirtual 84, 3) := by decide +kernel
theorem dX1_takesHold_25 : decode cX1_takesHold 25 = .ok (.aload_n 0, 1) := by decide +kernel
theorem dX1_takesHold_26 : decode cX1_takesHold 26 = .ok (.iconst 5, 1) := by decide +kernel
theorem dX1_takesHold_27 : decode cX1_takesHold 27 = .ok (.putfield 25, 3) := by decide +kernel
theorem dX1_takesHold_30 : decode cX1_takesHold 30 = .ok (.iconst 1, 1) := by decide +kernel
theorem dX1_takesHold_31 : decode cX1_takesHold 31 = .ok (.ireturn, 1) := by decide +kernel
theorem dX1_takesTimes_0 : decode cX1_takesTimes 0 = .ok (.iload_n 1, 1) := by decide +kernel
theorem dX1_takesTimes_1 : decode cX1_takesTimes 1 = .ok (.iconst 2, 1) := by decide +kernel
theorem dX1_takesTimes_2 : decode cX1_takesTimes 2 = .ok (.if_icmp .lt 25, 3) := by decide +kernel
theorem dX1_takesTimes_5 : decode cX1_takesTimes 5 = .ok (.iload_n 1, 1) := by decide +kernel
theorem dX1_takesTimes_6 : decode cX1_takesTimes 6 = .ok (.bipush 9, 2) := by decide +kernel
theorem dX1_takesTimes_8 : decode cX1_takesTimes 8 = .ok (.if_icmp .gt 19, 3) := by decide +kernel
theorem dX1_takesTimes_11 : decode cX1_takesTimes 11 = .ok (.aload_n 0, 1) := by decide +kernel
theorem dX1_takesTimes_12 : decode cX1_takesTimes 12 = .ok (.getfield 29, 3) := by decide +kernel
theorem dX1_takesTimes_15 : decode cX1_takesTimes 15 = .ok (.iconst 1, 1) := by decide +kernel
theorem dX1_takesTimes_16 : decode cX1_takesTimes 16 = .ok (.if_icmp .lt 11, 3) := by decide +kernel
theorem dX1_takesTimes_19 : decode cX1_takesTimes 19 = .ok (.aload_n 0, 1) := by decide +kernel
theorem dX1_takesTimes_20 : decode cX1_takesTimes 20 = .ok (.getfield 29, 3) := by decide +kernel
theorem dX1_takesTimes_23 : decode cX1_takesTimes 23 = .ok (.iconst 2, 1) := by decide +kernel
theorem dX1_takesTimes_24 : decode cX1_takesTimes 24 = .ok (.if_icmp .le 5, 3) := by decide +kernel
theorem dX1_takesTimes_27 : decode cX1_takesTimes 27 = .ok (.iconst 0, 1) := by decide +kernel
theorem dX1_takesTimes_28 : decode cX1_takesTimes 28 = .ok (.ireturn, 1) := by decide +kernel
theorem dX1_takesTimes_29 : decode cX1_takesTimes 29 = .ok (.aload_n 0, 1) := by decide +kernel
theorem dX1_takesTimes_30 : decode cX1_takesTimes 30 = .ok (.dup, 1) := by decide +kernel
theorem dX1_takesTimes_31 : decode cX1_takesTimes 31 = .ok (.getfield 29, 3) := by decide +kernel
theorem dX1_takesTimes_34 : decode cX1_takesTimes 34 = .ok (.iconst 1, 1) := by decide +kernel
theorem dX1_takesTimes_35 : decode cX1_takesTimes 35 = .ok (.isub, 1) := by decide +kernel
theorem dX1_takesTimes_36 : decode cX1_takesTimes 36 = .ok (.putfield 29, 3) := by decide +kernel
theorem dX1_takesTimes_39 : decode cX1_takesTimes 39 = .ok (.aload_n 0, 1) := by decide +kernel
theorem dX1_takesTimes_40 : decode cX1_takesTimes 40 = .ok (.getfield 12, 3) := by decide +kernel
theorem dX1_takesTimes_43 : decode cX1_takesTimes 43 = .ok (.aload_n 0, 1) := by decide +kernel
theorem dX1_takesTimes_44 : decode cX1_takesTimes 44 = .ok (.getfield 18, 3) := by decide +kernel
theorem dX1_takesTimes_47 : decode cX1_takesTimes 47 = .ok (.aload_n 0, 1) := by decide +kernel
theorem dX1_takesTimes_48 : decode cX1_takesTimes 48 = .ok (.getfield 29, 3) := by decide +kernel
theorem dX1_takesTimes_51 : decode cX1_takesTimes 51 = .ok (.iaload, 1) := by decide +kernel
theorem dX1_takesTimes_52 : decode cX1_takesTimes 52 = .ok (.iload_n 1, 1) := by decide +kernel
theorem dX1_takesTimes_53 : decode cX1_takesTimes 53 = .ok (.invokevirtual 87, 3) := by decide +kernel
theorem dX1_takesTimes_56 : decode cX1_takesTimes 56 = .ok (.aload_n 0, 1) := by decide +kernel
theorem dX1_takesTimes_57 : decode cX1_takesTimes 57 = .ok (.iconst 5, 1) := by decide +kernel
theorem dX1_takesTimes_58 : decode cX1_takesTimes 58 = .ok (.putfield 25, 3) := by decide +kernel
theorem dX1_takesTimes_61 : decode cX1_takesTimes 61 = .ok (.iconst 1, 1) := by decide +kernel
theorem dX1_takesTimes_62 : decode cX1_takesTimes 62 = .ok (.ireturn, 1) := by decide +kernel
theorem dX2_init_0 : decode cX2_init 0 = .ok (.aload_n 0, 1) := by decide +kernel
theorem dX2_init_1 : decode cX2_init 1 = .ok (.invokespecial 3, 3) := by decide +kernel
theorem dX2_init_4 : decode cX2_init 4 = .ok (.aload_n 0, 1) := by decide +kernel
theorem dX2_init_5 : decode cX2_init 5 = .ok (.bipush 6, 2) := by decide +kernel
theorem dX2_init_7 : decode cX2_init 7 = .ok (.newarray .int, 2) := by decide +kernel
theorem dX2_init_9 : decode cX2_init 9 = .ok (.putfield 9, 3) := by decide +kernel
theorem dX2_init_12 : decode cX2_init 12 = .ok (.aload_n 0, 1) := by decide +kernel
theorem dX2_init_13 : decode cX2_init 13 = .ok (.bipush 6, 2) := by decide +kernel
theorem dX2_init_15 : decode cX2_init 15 = .ok (.newarray .int, 2) := by decide +kernel
theorem dX2_init_17 : decode cX2_init 17 = .ok (.putfield 15, 3) := by decide +kernel
theorem dX2_init_20 : decode cX2_init 20 = .ok (.aload_n 0, 1) := by decide +kernel
theorem dX2_init_21 : decode cX2_init 21 = .ok (.iconst 4, 1) := by decide +kernel
theorem dX2_init_22 : decode cX2_init 22 = .ok (.newarray .int, 2) := by decide +kernel
theorem dX2_init_24 : decode cX2_init 24 = .ok (.putfield 18, 3) := by decide +kernel
theorem dX2_init_27 : decode cX2_init 27 = .ok (.aload_n 0, 1) := by decide +kernel
theorem dX2_init_28 : decode cX2_init 28 = .ok (.sipush 192, 3) := by decide +kernel
theorem dX2_init_31 : decode cX2_init 31 = .ok (.newarray .int, 2) := by decide +kernel
theorem dX2_init_33 : decode cX2_init 33 = .ok (.putfield 21, 3) := by decide +kernel
theorem dX2_init_36 : decode cX2_init 36 = .ok (.return_, 1) := by decide +kernel
theorem dX2_clear_0 : decode cX2_clear 0 = .ok (.aload_n 0, 1) := by decide +kernel
theorem dX2_clear_1 : decode cX2_clear 1 = .ok (.iconst 0, 1) := by decide +kernel
theorem dX2_clear_2 : decode cX2_clear 2 = .ok (.putfield 24, 3) := by decide +kernel
theorem dX2_clear_5 : decode cX2_clear 5 = .ok (.aload_n 0, 1) := by decide +kernel
theorem dX2_clear_6 : decode cX2_clear 6 = .ok (.iconst 0, 1) := by decide +kernel
theorem dX2_clear_7 : decode cX2_clear 7 = .ok (.putfield 28, 3) := by decide +kernel
theorem dX2_clear_10 : decode cX2_clear 10 = .ok (.return_, 1) := by decide +kernel
theorem dX2_addDrawing_0 : decode cX2_addDrawing 0 = .ok (.aload_n 0, 1) := by decide +kernel
theorem dX2_addDrawing_1 : decode cX2_addDrawing 1 = .ok (.getfield 24, 3) := by decide +kernel
theorem dX2_addDrawing_4 : decode cX2_addDrawing 4 = .ok (.bipush 6, 2) := by decide +kernel
theorem dX2_addDrawing_6 : decode cX2_addDrawing 6 = .ok (.if_icmp .ge 33, 3) := by decide +kernel
theorem dX2_addDrawing_9 : decode cX2_addDrawing 9 = .ok (.aload_n 0, 1) := by decide +kernel
theorem dX2_addDrawing_10 : decode cX2_addDrawing 10 = .ok (.getfield 9, 3) := by decide +kernel
theorem dX2_addDrawing_13 : decode cX2_addDrawing 13 = .ok (.aload_n 0, 1) := by decide +kernel
theorem dX2_addDrawing_14 : decode cX2_addDrawing 14 = .ok (.getfield 24, 3) := by decide +kernel
theorem dX2_addDrawing_17 : decode cX2_addDrawing 17 = .ok (.iload_n 1, 1) := by decide +kernel
theorem dX2_addDrawing_18 : decode cX2_addDrawing 18 = .ok (.iastore, 1) := by decide +kernel
theorem dX2_addDrawing_19 : decode cX2_addDrawing 19 = .ok (.aload_n 0, 1) := by decide +kernel
theorem dX2_addDrawing_20 : decode cX2_addDrawing 20 = .ok (.getfield 15, 3) := by decide +kernel
theorem dX2_addDrawing_23 : decode cX2_addDrawing 23 = .ok (.aload_n 0, 1) := by decide +kernel
theorem dX2_addDrawing_24 : decode cX2_addDrawing 24 = .ok (.getfield 24, 3) := by decide +kernel
theorem dX2_addDrawing_27 : decode cX2_addDrawing 27 = .ok (.iload_n 2, 1) := by decide +kernel
theorem dX2_addDrawing_28 : decode cX2_addDrawing 28 = .ok (.iastore, 1) := by decide +kernel
theorem dX2_addDrawing_29 : decode cX2_addDrawing 29 = .ok (.aload_n 0, 1) := by decide +kernel
theorem dX2_addDrawing_30 : decode cX2_addDrawing 30 = .ok (.dup, 1) := by decide +kernel
theorem dX2_addDrawing_31 : decode cX2_addDrawing 31 = .ok (.getfield 24, 3) := by decide +kernel
theorem dX2_addDrawing_34 : decode cX2_addDrawing 34 = .ok (.iconst 1, 1) := by decide +kernel
theorem dX2_addDrawing_35 : decode cX2_addDrawing 35 = .ok (.iadd, 1) := by decide +kernel
theorem dX2_addDrawing_36 : decode cX2_addDrawing 36 = .ok (.putfield 24, 3) := by decide +kernel
theorem dX2_addDrawing_39 : decode cX2_addDrawing 39 = .ok (.return_, 1) := by decide +kernel
theorem dX2_addLevel_0 : decode cX2_addLevel 0 = .ok (.aload_n 0, 1) := by decide +kernel
theorem dX2_addLevel_1 : decode cX2_addLevel 1 = .ok (.getfield 28, 3) := by decide +kernel
theorem dX2_addLevel_4 : decode cX2_addLevel 4 = .ok (.iconst 4, 1) := by decide +kernel
theorem dX2_addLevel_5 : decode cX2_addLevel 5 = .ok (.if_icmp .ge 23, 3) := by decide +kernel
theorem dX2_addLevel_8 : decode cX2_addLevel 8 = .ok (.aload_n 0, 1) := by decide +kernel
theorem dX2_addLevel_9 : decode cX2_addLevel 9 = .ok (.getfield 18, 3) := by decide +kernel
theorem dX2_addLevel_12 : decode cX2_addLevel 12 = .ok (.aload_n 0, 1) := by decide +kernel
theorem dX2_addLevel_13 : decode cX2_addLevel 13 = .ok (.getfield 28, 3) := by decide +kernel
theorem dX2_addLevel_16 : decode cX2_addLevel 16 = .ok (.iconst 0, 1) := by decide +kernel
theorem dX2_addLevel_17 : decode cX2_addLevel 17 = .ok (.iastore, 1) := by decide +kernel
theorem dX2_addLevel_18 : decode cX2_addLevel 18 = .ok (.aload_n 0, 1) := by decide +kernel
theorem dX2_addLevel_19 : decode cX2_addLevel 19 = .ok (.dup, 1) := by decide +kernel
theorem dX2_addLevel_20 : decode cX2_addLevel 20 = .ok (.getfield 28, 3) := by decide +kernel
theorem dX2_addLevel_23 : decode cX2_addLevel 23 = .ok (.iconst 1, 1) := by decide +kernel
theorem dX2_addLevel_24 : decode cX2_addLevel 24 = .ok (.iadd, 1) := by decide +kernel
theorem dX2_addLevel_25 : decode cX2_addLevel 25 = .ok (.putfield 28, 3) := by decide +kernel
theorem dX2_addLevel_28 : decode cX2_addLevel 28 = .ok (.return_, 1) := by decide +kernel
theorem dX2_lastLong_0 : decode cX2_lastLong 0 = .ok (.aload_n 0, 1) := by decide +kernel
theorem dX2_lastLong_1 : decode cX2_lastLong 1 = .ok (.getfield 28, 3) := by decide +kernel
theorem dX2_lastLong_4 : decode cX2_lastLong 4 = .ok (.iconst 1, 1) := by decide +kernel
theorem dX2_lastLong_5 : decode cX2_lastLong 5 = .ok (.if_icmp .ge 7, 3) := by decide +kernel
theorem dX2_lastLong_8 : decode cX2_lastLong 8 = .ok (.iconst 0, 1) := by decide +kernel
theorem dX2_lastLong_9 : decode cX2_lastLong 9 = .ok (.goto 14, 3) := by decide +kernel
theorem dX2_lastLong_12 : decode cX2_lastLong 12 = .ok (.aload_n 0, 1) := by decide +kernel
theorem dX2_lastLong_13 : decode cX2_lastLong 13 = .ok (.getfield 18, 3) := by decide +kernel
theorem dX2_lastLong_16 : decode cX2_lastLong 16 = .ok (.aload_n 0, 1) := by decide +kernel
theorem dX2_lastLong_17 : decode cX2_lastLong 17 = .ok (.getfield 28, 3) := by decide +kernel
theorem dX2_lastLong_20 : decode cX2_lastLong 20 = .ok (.iconst 1, 1) := by decide +kernel
theorem dX2_lastLong_21 : decode cX2_lastLong 21 = .ok (.isub, 1) := by decide +kernel
theorem dX2_lastLong_22 : decode cX2_lastLong 22 = .ok (.iaload, 1) := by decide +kernel
theorem dX2_lastLong_23 : decode cX2_lastLong 23 = .ok (.ireturn, 1) := by decide +kernel
theorem dX2_hold_0 : decode cX2_hold 0 = .ok (.iconst 0, 1) := by decide +kernel
theorem dX2_hold_1 : decode cX2_hold 1 = .ok (.istore_n 3, 1) := by decide +kernel
theorem dX2_hold_2 : decode cX2_hold 2 = .ok (.iload_n 3, 1) := by decide +kernel
theorem dX2_hold_3 : decode cX2_hold 3 = .ok (.iload_n 2, 1) := by decide +kernel
theorem dX2_hold_4 : decode cX2_hold 4 = .ok (.if_icmp .ge 14, 3) := by decide +kernel
theorem dX2_hold_7 : decode cX2_hold 7 = .ok (.aload_n 0, 1) := by decide +kernel
theorem dX2_hold_8 : decode cX2_hold 8 = .ok (.iload_n 1, 1) := by decide +kernel
theorem dX2_hold_9 : decode cX2_hold 9 = .ok (.invokevirtual 31, 3) := by decide +kernel
theorem dX2_hold_12 : decode cX2_hold 12 = .ok (.iinc 3 1, 3) := by decide +kernel
theorem dX2_hold_15 : decode cX2_hold 15 = .ok (.goto (-13), 3) := by decide +kernel
theorem dX2_hold_18 : decode cX2_hold 18 = .ok (.return_, 1) := by decide +kernel
theorem dX2_repeatFrom_0 : decode cX2_repeatFrom 0 = .ok (.aload_n 0, 1) := by decide +kernel
theorem dX2_repeatFrom_1 : decode cX2_repeatFrom 1 = .ok (.invokevirtual 35, 3) := by decide +kernel
theorem dX2_repeatFrom_4 : decode cX2_repeatFrom 4 = .ok (.istore_n 3, 1) := by decide +kernel
theorem dX2_repeatFrom_5 : decode cX2_repeatFrom 5 = .ok (.aload_n 0, 1) := by decide +kernel
theorem dX2_repeatFrom_6 : decode cX2_repeatFrom 6 = .ok (.getfield 28, 3) := by decide +kernel
theorem dX2_repeatFrom_9 : decode cX2_repeatFrom 9 = .ok (.iconst 1, 1) := by decide +kernel
theorem dX2_repeatFrom_10 : decode cX2_repeatFrom 10 = .ok (.isub, 1) := by decide +kernel
theorem dX2_repeatFrom_11 : decode cX2_repeatFrom 11 = .ok (.bipush 48, 2) := by decide +kernel
theorem dX2_repeatFrom_13 : decode cX2_repeatFrom 13 = .ok (.imul, 1) := by decide +kernel
theorem dX2_repeatFrom_14 : decode cX2_repeatFrom 14 = .ok (.istore 4, 2) := by decide +kernel
theorem dX2_repeatFrom_16 : decode cX2_repeatFrom 16 = .ok (.iload 4, 2) := by decide +kernel
theorem dX2_repeatFrom_18 : decode cX2_repeatFrom 18 = .ok (.ifCond .lt 7, 3) := by decide +kernel
theorem dX2_repeatFrom_21 : decode cX2_repeatFrom 21 = .ok (.iload_n 1, 1) := by decide +kernel
theorem dX2_repeatFrom_22 : decode cX2_repeatFrom 22 = .ok (.ifCond .ge 4, 3) := by decide +kernel
theorem dX2_repeatFrom_25 : decode cX2_repeatFrom 25 = .ok (.return_, 1) := by decide +kernel
theorem dX2_repeatFrom_26 : decode cX2_repeatFrom 26 = .ok (.iconst 1, 1) := by decide +kernel
theorem dX2_repeatFrom_27 : decode cX2_repeatFrom 27 = .ok (.istore 5, 2) := by decide +kernel
theorem dX2_repeatFrom_29 : decode cX2_repeatFrom 29 = .ok (.iload 5, 2) := by decide +kernel
theorem dX2_repeatFrom_31 : decode cX2_repeatFrom 31 = .ok (.iload_n 2, 1) := by decide +kernel
theorem dX2_repeatFrom_32 : decode cX2_repeatFrom 32 = .ok (.if_icmp .ge 38, 3) := by decide +kernel
theorem dX2_repeatFrom_35 : decode cX2_repeatFrom 35 = .ok (.iload_n 1, 1) := by decide +kernel
theorem dX2_repeatFrom_36 : decode cX2_repeatFrom 36 = .ok (.istore 6, 2) := by decide +kernel
theorem dX2_repeatFrom_38 : decode cX2_repeatFrom 38 = .ok (.iload 6, 2) := by decide +kernel
theorem dX2_repeatFrom_40 : decode cX2_repeatFrom 40 = .ok (.iload_n 3, 1) := by decide +kernel
theorem dX2_repeatFrom_41 : decode cX2_repeatFrom 41 = .ok (.if_icmp .ge 23, 3) := by decide +kernel
theorem dX2_repeatFrom_44 : decode cX2_repeatFrom 44 = .ok (.aload_n 0, 1) := by decide +kernel
theorem dX2_repeatFrom_45 : decode cX2_repeatFrom 45 = .ok (.aload_n 0, 1) := by decide +kernel
theorem dX2_repeatFrom_46 : decode cX2_repeatFrom 46 = .ok (.getfield 21, 3) := by decide +kernel
theorem dX2_repeatFrom_49 : decode cX2_repeatFrom 49 = .ok (.iload 4, 2) := by decide +kernel
theorem dX2_repeatFrom_51 : decode cX2_repeatFrom 51 = .ok (.iload 6, 2) := by decide +kernel
theorem dX2_repeatFrom_53 : decode cX2_repeatFrom 53 = .ok (.iadd, 1) := by decide +kernel
theorem dX2_repeatFrom_54 : decode cX2_repeatFrom 54 = .ok (.iaload, 1) := by decide +kernel
theorem dX2_repeatFrom_55 : decode cX2_repeatFrom 55 = .ok (.invokevirtual 31, 3) := by decide +kernel
theorem dX2_repeatFrom_58 : decode cX2_repeatFrom 58 = .ok (.iinc 6 1, 3) := by decide +kernel
theorem dX2_repeatFrom_61 : decode cX2_repeatFrom 61 = .ok (.goto (-23), 3) := by decide +kernel
theorem dX2_repeatFrom_64 : decode cX2_repeatFrom 64 = .ok (.iinc 5 1, 3) := by decide +kernel
theorem dX2_repeatFrom_67 : decode cX2_repeatFrom 67 = .ok (.goto (-38), 3) := by decide +kernel
theorem dX2_repeatFrom_70 : decode cX2_repeatFrom 70 = .ok (.return_, 1) := by decide +kernel
theorem dX2_append_0 : decode cX2_append 0 = .ok (.aload_n 0, 1) := by decide +kernel
theorem dX2_append_1 : decode cX2_append 1 = .ok (.getfield 28, 3) := by decide +kernel
theorem dX2_append_4 : decode cX2_append 4 = .ok (.iconst 1, 1) := by decide +kernel
theorem dX2_append_5 : decode cX2_append 5 = .ok (.isub, 1) := by decide +kernel
theorem dX2_append_6 : decode cX2_append 6 = .ok (.istore_n 2, 1) := by decide +kernel
theorem dX2_append_7 : decode cX2_append 7 = .ok (.iload_n 2, 1) := by decide +kernel
theorem dX2_append_8 : decode cX2_append 8 = .ok (.ifCond .lt 41, 3) := by decide +kernel
theorem dX2_append_11 : decode cX2_append 11 = .ok (.aload_n 0, 1) := by decide +kernel
theorem dX2_append_12 : decode cX2_append 12 = .ok (.getfield 18, 3) := by decide +kernel
theorem dX2_append_15 : decode cX2_append 15 = .ok (.iload_n 2, 1) := by decide +kernel
theorem dX2_append_16 : decode cX2_append 16 = .ok (.iaload, 1) := by decide +kernel
theorem dX2_append_17 : decode cX2_append 17 = .ok (.bipush 48, 2) := by decide +kernel
theorem dX2_append_19 : decode cX2_append 19 = .ok (.if_icmp .ge 30, 3) := by decide +kernel
theorem dX2_append_22 : decode cX2_append 22 = .ok (.aload_n 0, 1) := by decide +kernel
theorem dX2_append_23 : decode cX2_append 23 = .ok (.getfield 21, 3) := by decide +kernel
theorem dX2_append_26 : decode cX2_append 26 = .ok (.iload_n 2, 1) := by decide +kernel
theorem dX2_append_27 : decode cX2_append 27 = .ok (.bipush 48, 2) := by decide +kernel
theorem dX2_append_29 : decode cX2_append 29 = .ok (.imul, 1) := by decide +kernel
theorem dX2_append_30 : decode cX2_append 30 = .ok (.aload_n 0, 1) := by decide +kernel
theorem dX2_append_31 : decode cX2_append 31 = .ok (.getfield 18, 3) := by decide +kernel
theorem dX2_append_34 : decode cX2_append 34 = .ok (.iload_n 2, 1) := by decide +kernel
theorem dX2_append_35 : decode cX2_append 35 = .ok (.iaload, 1) := by decide +kernel
theorem dX2_append_36 : decode cX2_append 36 = .ok (.iadd, 1) := by decide +kernel
theorem dX2_append_37 : decode cX2_append 37 = .ok (.iload_n 1, 1) := by decide +kernel
theorem dX2_append_38 : decode cX2_append 38 = .ok (.iastore, 1) := by decide +kernel
theorem dX2_append_39 : decode cX2_append 39 = .ok (.aload_n 0, 1) := by decide +kernel
theorem dX2_append_40 : decode cX2_append 40 = .ok (.getfield 18, 3) := by decide +kernel
theorem dX2_append_43 : decode cX2_append 43 = .ok (.iload_n 2, 1) := by decide +kernel
theorem dX2_append_44 : decode cX2_append 44 = .ok (.dup2, 1) := by decide +kernel
theorem dX2_append_45 : decode cX2_append 45 = .ok (.iaload, 1) := by decide +kernel
theorem dX2_append_46 : decode cX2_append 46 = .ok (.iconst 1, 1) := by decide +kernel
theorem dX2_append_47 : decode cX2_append 47 = .ok (.iadd, 1) := by decide +kernel
theorem dX2_append_48 : decode cX2_append 48 = .ok (.iastore, 1) := by decide +kernel
theorem dX2_append_49 : decode cX2_append 49 = .ok (.return_, 1) := by decide +kernel
theorem dX2_copyFrom_0 : decode cX2_copyFrom 0 = .ok (.aload_n 0, 1) := by decide +kernel
theorem dX2_copyFrom_1 : decode cX2_copyFrom 1 = .ok (.aload_n 1, 1) := by decide +kernel
theorem dX2_copyFrom_2 : decode cX2_copyFrom 2 = .ok (.getfield 24, 3) := by decide +kernel
theorem dX2_copyFrom_5 : decode cX2_copyFrom 5 = .ok (.putfield 24, 3) := by decide +kernel
theorem dX2_copyFrom_8 : decode cX2_copyFrom 8 = .ok (.aload_n 0, 1) := by decide +kernel
theorem dX2_copyFrom_9 : decode cX2_copyFrom 9 = .ok (.aload_n 1, 1) := by decide +kernel
theorem dX2_copyFrom_10 : decode cX2_copyFrom 10 = .ok (.getfield 28, 3) := by decide +kernel
theorem dX2_copyFrom_13 : decode cX2_copyFrom 13 = .ok (.putfield 28, 3) := by decide +kernel
theorem dX2_copyFrom_16 : decode cX2_copyFrom 16 = .ok (.aload_n 1, 1) := by decide +kernel
theorem dX2_copyFrom_17 : decode cX2_copyFrom 17 = .ok (.getfield 9, 3) := by decide +kernel
theorem dX2_copyFrom_20 : decode cX2_copyFrom 20 = .ok (.iconst 0, 1) := by decide +kernel
theorem dX2_copyFrom_21 : decode cX2_copyFrom 21 = .ok (.aload_n 0, 1) := by decide +kernel
theorem dX2_copyFrom_22 : decode cX2_copyFrom 22 = .ok (.getfield 9, 3) := by decide +kernel
theorem dX2_copyFrom_25 : decode cX2_copyFrom 25 = .ok (.iconst 0, 1) := by decide +kernel
theorem dX2_copyFrom_26 : decode cX2_copyFrom 26 = .ok (.bipush 6, 2) := by decide +kernel
theorem dX2_copyFrom_28 : decode cX2_copyFrom 28 = .ok (.invokestatic 39, 3) := by decide +kernel
theorem dX2_copyFrom_31 : decode cX2_copyFrom 31 = .ok (.aload_n 1, 1) := by decide +kernel
theorem dX2_copyFrom_32 : decode cX2_copyFrom 32 = .ok (.getfield 15, 3) := by decide +kernel
theorem dX2_copyFrom_35 : decode cX2_copyFrom 35 = .ok (.iconst 0, 1) := by decide +kernel
theorem dX2_copyFrom_36 : decode cX2_copyFrom 36 = .ok (.aload_n 0, 1) := by decide +kernel
theorem dX2_copyFrom_37 : decode cX2_copyFrom 37 = .ok (.getfield 15, 3) := by decide +kernel
theorem dX2_copyFrom_40 : decode cX2_copyFrom 40 = .ok (.iconst 0, 1) := by decide +kernel
theorem dX2_copyFrom_41 : decode cX2_copyFrom 41 = .ok (.bipush 6, 2) := by decide +kernel
theorem dX2_copyFrom_43 : decode cX2_copyFrom 43 = .ok (.invokestatic 39, 3) := by decide +kernel
theorem dX2_copyFrom_46 : decode cX2_copyFrom 46 = .ok (.aload_n 1, 1) := by decide +kernel
theorem dX2_copyFrom_47 : decode cX2_copyFrom 47 = .ok (.getfield 18, 3) := by decide +kernel
theorem dX2_copyFrom_50 : decode cX2_copyFrom 50 = .ok (.iconst 0, 1) := by decide +kernel
theorem dX2_copyFrom_51 : decode cX2_copyFrom 51 = .ok (.aload_n 0, 1) := by decide +kernel
theorem dX2_copyFrom_52 : decode cX2_copyFrom 52 = .ok (.getfield 18, 3) := by decide +kernel
theorem dX2_copyFrom_55 : decode cX2_copyFrom 55 = .ok (.iconst 0, 1) := by decide +kernel
theorem dX2_copyFrom_56 : decode cX2_copyFrom 56 = .ok (.iconst 4, 1) := by decide +kernel
theorem dX2_copyFrom_57 : decode cX2_copyFrom 57 = .ok (.invokestatic 39, 3) := by decide +kernel
theorem dX2_copyFrom_60 : decode cX2_copyFrom 60 = .ok (.aload_n 1, 1) := by decide +kernel
theorem dX2_copyFrom_61 : decode cX2_copyFrom 61 = .ok (.getfield 21, 3) := by decide +kernel
theorem dX2_copyFrom_64 : decode cX2_copyFrom 64 = .ok (.iconst 0, 1) := by decide +kernel
theorem dX2_copyFrom_65 : decode cX2_copyFrom 65 = .ok (.aload_n 0, 1) := by decide +kernel
theorem dX2_copyFrom_66 : decode cX2_copyFrom 66 = .ok (.getfield 21, 3) := by decide +kernel
theorem dX2_copyFrom_69 : decode cX2_copyFrom 69 = .ok (.iconst 0, 1) := by decide +kernel
theorem dX2_copyFrom_70 : decode cX2_copyFrom 70 = .ok (.sipush 192, 3) := by decide +kernel
theorem dX2_copyFrom_73 : decode cX2_copyFrom 73 = .ok (.invokestatic 39, 3) := by decide +kernel
theorem dX2_copyFrom_76 : decode cX2_copyFrom 76 = .ok (.return_, 1) := by decide +kernel
theorem dX4_init_0 : decode cX4_init 0 = .ok (.aload_n 0, 1) := by decide +kernel
theorem dX4_init_1 : decode cX4_init 1 = .ok (.invokespecial 3, 3) := by decide +kernel
theorem dX4_init_4 : decode cX4_init 4 = .ok (.aload_n 0, 1) := by decide +kernel
theorem dX4_init_5 : decode cX4_init 5 = .ok (.bipush 6, 2) := by decide +kernel
theorem dX4_init_7 : decode cX4_init 7 = .ok (.newarray .int, 2) := by decide +kernel
theorem dX4_init_9 : decode cX4_init 9 = .ok (.putfield 9, 3) := by decide +kernel
theorem dX4_init_12 : decode cX4_init 12 = .ok (.aload_n 0, 1) := by decide +kernel
theorem dX4_init_13 : decode cX4_init 13 = .ok (.bipush 6, 2) := by decide +kernel
theorem dX4_init_15 : decode cX4_init 15 = .ok (.newarray .int, 2) := by decide +kernel
theorem dX4_init_17 : decode cX4_init 17 = .ok (.putfield 15, 3) := by decide +kernel
theorem dX4_init_20 : decode cX4_init 20 = .ok (.aload_n 0, 1) := by decide +kernel
theorem dX4_init_21 : decode cX4_init 21 = .ok (.iconst 4, 1) := by decide +kernel
theorem dX4_init_22 : decode cX4_init 22 = .ok (.newarray .int, 2) := by decide +kernel
theorem dX4_init_24 : decode cX4_init 24 = .ok (.putfield 18, 3) := by decide +kernel
theorem dX4_init_27 : decode cX4_init 27 = .ok (.aload_n 0, 1) := by decide +kernel
theorem dX4_init_28 : decode cX4_init 28 = .ok (.iconst 5, 1) := by decide +kernel
theorem dX4_init_29 : decode cX4_init 29 = .ok (.newarray .int, 2) := by decide +kernel
theorem dX4_init_31 : decode cX4_init 31 = .ok (.putfield 21, 3) := by decide +kernel
theorem dX4_init_34 : decode cX4_init 34 = .ok (.aload_n 0, 1) := by decide +kernel
theorem dX4_init_35 : decode cX4_init 35 = .ok (.iconst 5, 1) := by decide +kernel
theorem dX4_init_36 : decode cX4_init 36 = .ok (.newarray .int, 2) := by decide +kernel
theorem dX4_init_38 : decode cX4_init 38 = .ok (.putfield 24, 3) := by decide +kernel
theorem dX4_init_41 : decode cX4_init 41 = .ok (.aload_n 0, 1) := by decide +kernel
theorem dX4_init_42 : decode cX4_init 42 = .ok (.iconst 5, 1) := by decide +kernel
theorem dX4_init_43 : decode cX4_init 43 = .ok (.newarray .int, 2) := by decide +kernel
theorem dX4_init_45 : decode cX4_init 45 = .ok (.putfield 27, 3) := by decide +kernel
theorem dX4_init_48 : decode cX4_init 48 = .ok (.aload_n 0, 1) := by decide +kernel
theorem dX4_init_49 : decode cX4_init 49 = .ok (.iconst 4, 1) := by decide +kernel
theorem dX4_init_50 : decode cX4_init 50 = .ok (.newarray .int, 2) := by decide +kernel
theorem dX4_init_52 : decode cX4_init 52 = .ok (.putfield 30, 3) := by decide +kernel
theorem dX4_init_55 : decode cX4_init 55 = .ok (.aload_n 0, 1) := by decide +kernel
theorem dX4_init_56 : decode cX4_init 56 = .ok (.iconst 4, 1) := by decide +kernel
theorem dX4_init_57 : decode cX4_init 57 = .ok (.newarray .int, 2) := by decide +kernel
theorem dX4_init_59 : decode cX4_init 59 = .ok (.putfield 33, 3) := by decide +kernel
theorem dX4_init_62 : decode cX4_init 62 = .ok (.iconst 0, 1) := by decide +kernel
theorem dX4_init_63 : decode cX4_init 63 = .ok (.istore_n 1, 1) := by decide +kernel
theorem dX4_init_64 : decode cX4_init 64 = .ok (.iload_n 1, 1) := by decide +kernel
theorem dX4_init_65 : decode cX4_init 65 = .ok (.iconst 5, 1) := by decide +kernel
theorem dX4_init_66 : decode cX4_init 66 = .ok (.if_icmp .ge 16, 3) := by decide +kernel
theorem dX4_init_69 : decode cX4_init 69 = .ok (.aload_n 0, 1) := by decide +kernel
theorem dX4_init_70 : decode cX4_init 70 = .ok (.getfield 27, 3) := by decide +kernel
theorem dX4_init_73 : decode cX4_init 73 = .ok (.iload_n 1, 1) := by decide +kernel
theorem dX4_init_74 : decode cX4_init 74 = .ok (.iconst 1, 1) := by decide +kernel
theorem dX4_init_75 : decode cX4_init 75 = .ok (.iastore, 1) := by decide +kernel
theorem dX4_init_76 : decode cX4_init 76 = .ok (.iinc 1 1, 3) := by decide +kernel
theorem dX4_init_79 : decode cX4_init 79 = .ok (.goto (-15), 3) := by decide +kernel
theorem dX4_init_82 : decode cX4_init 82 = .ok (.return_, 1) := by decide +kernel
theorem dX4_beginWith_0 : decode cX4_beginWith 0 = .ok (.aload_n 1, 1) := by decide +kernel
theorem dX4_beginWith_1 : decode cX4_beginWith 1 = .ok (.getfield 36, 3) := by decide +kernel
theorem dX4_beginWith_4 : decode cX4_beginWith 4 = .ok (.iconst 0, 1) := by decide +kernel
theorem dX4_beginWith_5 : decode cX4_beginWith 5 = .ok (.aload_n 0, 1) := by decide +kernel
theorem dX4_beginWith_6 : decode cX4_beginWith 6 = .ok (.getfield 9, 3) := by decide +kernel
theorem dX4_beginWith_9 : decode cX4_beginWith 9 = .ok (.iconst 0, 1) := by decide +kernel
theorem dX4_beginWith_10 : decode cX4_beginWith 10 = .ok (.bipush 6, 2) := by decide +kernel
theorem dX4_beginWith_12 : decode cX4_beginWith 12 = .ok (.invokestatic 41, 3) := by decide +kernel
theorem dX4_beginWith_15 : decode cX4_beginWith 15 = .ok (.aload_n 1, 1) := by decide +kernel
theorem dX4_beginWith_16 : decode cX4_beginWith 16 = .ok (.getfield 47, 3) := by decide +kernel
theorem dX4_beginWith_19 : decode cX4_beginWith 19 = .ok (.iconst 0, 1) := by decide +kernel
theorem dX4_beginWith_20 : decode cX4_beginWith 20 = .ok (.aload_n 0, 1) := by decide +kernel
theorem dX4_beginWith_21 : decode cX4_beginWith 21 = .ok (.getfield 15, 3) := by decide +kernel
theorem dX4_beginWith_24 : decode cX4_beginWith 24 = .ok (.iconst 0, 1) := by decide +kernel
theorem dX4_beginWith_25 : decode cX4_beginWith 25 = .ok (.bipush 6, 2) := by decide +kernel
theorem dX4_beginWith_27 : decode cX4_beginWith 27 = .ok (.invokestatic 41, 3) := by decide +kernel
theorem dX4_beginWith_30 : decode cX4_beginWith 30 = .ok (.iconst 0, 1) := by decide +kernel
theorem dX4_beginWith_31 : decode cX4_beginWith 31 = .ok (.istore_n 2, 1) := by decide +kernel
theorem dX4_beginWith_32 : decode cX4_beginWith 32 = .ok (.iload_n 2, 1) := by decide +kernel
theorem dX4_beginWith_33 : decode cX4_beginWith 33 = .ok (.iconst 4, 1) := by decide +kernel
theorem dX4_beginWith_34 : decode cX4_beginWith 34 = .ok (.if_icmp .ge 16, 3) := by decide +kernel
theorem dX4_beginWith_37 : decode cX4_beginWith 37 = .ok (.aload_n 0, 1) := by decide +kernel
theorem dX4_beginWith_38 : decode cX4_beginWith 38 = .ok (.getfield 18, 3) := by decide +kernel
theorem dX4_beginWith_41 : decode cX4_beginWith 41 = .ok (.iload_n 2, 1) := by decide +kernel
theorem dX4_beginWith_42 : decode cX4_beginWith 42 = .ok (.iconst 0, 1) := by decide +kernel
theorem dX4_beginWith_43 : decode cX4_beginWith 43 = .ok (.iastore, 1) := by decide +kernel
theorem dX4_beginWith_44 : decode cX4_beginWith 44 = .ok (.iinc 2 1, 3) := by decide +kernel
theorem dX4_beginWith_47 : decode cX4_beginWith 47 = .ok (.goto (-15), 3) := by decide +kernel
theorem dX4_beginWith_50 : decode cX4_beginWith 50 = .ok (.iconst 0, 1) := by decide +kernel
theorem dX4_beginWith_51 : decode cX4_beginWith 51 = .ok (.istore_n 2, 1) := by decide +kernel
theorem dX4_beginWith_52 : decode cX4_beginWith 52 = .ok (.iload_n 2, 1) := by decide +kernel
theorem dX4_beginWith_53 : decode cX4_beginWith 53 = .ok (.iconst 5, 1) := by decide +kernel
theorem dX4_beginWith_54 : decode cX4_beginWith 54 = .ok (.if_icmp .ge 17, 3) := by decide +kernel
theorem dX4_beginWith_57 : decode cX4_beginWith 57 = .ok (.aload_n 0, 1) := by decide +kernel
theorem dX4_beginWith_58 : decode cX4_beginWith 58 = .ok (.iload_n 2, 1) := by decide +kernel
theorem dX4_beginWith_59 : decode cX4_beginWith 59 = .ok (.iconst 0, 1) := by decide +kernel
theorem dX4_beginWith_60 : decode cX4_beginWith 60 = .ok (.iconst 0, 1) := by decide +kernel
theorem dX4_beginWith_61 : decode cX4_beginWith 61 = .ok (.iconst 1, 1) := by decide +kernel
theorem dX4_beginWith_62 : decode cX4_beginWith 62 = .ok (.invokevirtual 50, 3) := by decide +kernel
theorem dX4_beginWith_65 : decode cX4_beginWith 65 = .ok (.iinc 2 1, 3) := by decide +kernel
theorem dX4_beginWith_68 : decode cX4_beginWith 68 = .ok (.goto (-16), 3) := by decide +kernel
theorem dX4_beginWith_71 : decode cX4_beginWith 71 = .ok (.aload_n 0, 1) := by decide +kernel
theorem dX4_beginWith_72 : decode cX4_beginWith 72 = .ok (.iconst 0, 1) := by decide +kernel
theorem dX4_beginWith_73 : decode cX4_beginWith 73 = .ok (.putfield 54, 3) := by decide +kernel
theorem dX4_beginWith_76 : decode cX4_beginWith 76 = .ok (.return_, 1) := by decide +kernel
theorem dX4_copyFrom_0 : decode cX4_copyFrom 0 = .ok (.aload_n 1, 1) := by decide +kernel
theorem dX4_copyFrom_1 : decode cX4_copyFrom 1 = .ok (.getfield 9, 3) := by decide +kernel
theorem dX4_copyFrom_4 : decode cX4_copyFrom 4 = .ok (.iconst 0, 1) := by decide +kernel
theorem dX4_copyFrom_5 : decode cX4_copyFrom 5 = .ok (.aload_n 0, 1) := by decide +kernel
theorem dX4_copyFrom_6 : decode cX4_copyFrom 6 = .ok (.getfield 9, 3) := by decide +kernel
theorem dX4_copyFrom_9 : decode cX4_copyFrom 9 = .ok (.iconst 0, 1) := by decide +kernel
theorem dX4_copyFrom_10 : decode cX4_copyFrom 10 = .ok (.bipush 6, 2) := by decide +kernel
theorem dX4_copyFrom_12 : decode cX4_copyFrom 12 = .ok (.invokestatic 41, 3) := by decide +kernel
theorem dX4_copyFrom_15 : decode cX4_copyFrom 15 = .ok (.aload_n 1, 1) := by decide +kernel
theorem dX4_copyFrom_16 : decode cX4_copyFrom 16 = .ok (.getfield 15, 3) := by decide +kernel
theorem dX4_copyFrom_19 : decode cX4_copyFrom 19 = .ok (.iconst 0, 1) := by decide +kernel
theorem dX4_copyFrom_20 : decode cX4_copyFrom 20 = .ok (.aload_n 0, 1) := by decide +kernel
theorem dX4_copyFrom_21 : decode cX4_copyFrom 21 = .ok (.getfield 15, 3) := by decide +kernel
theorem dX4_copyFrom_24 : decode cX4_copyFrom 24 = .ok (.iconst 0, 1) := by decide +kernel
theorem dX4_copyFrom_25 : decode cX4_copyFrom 25 = .ok (.bipush 6, 2) := by decide +kernel
theorem dX4_copyFrom_27 : decode cX4_copyFrom 27 = .ok (.invokestatic 41, 3) := by decide +kernel
theorem dX4_copyFrom_30 : decode cX4_copyFrom 30 = .ok (.aload_n 1, 1) := by decide +kernel
theorem dX4_copyFrom_31 : decode cX4_copyFrom 31 = .ok (.getfield 18, 3) := by decide +kernel
theorem dX4_copyFrom_34 : decode cX4_copyFrom 34 = .ok (.iconst 0, 1) := by decide +kernel
theorem dX4_copyFrom_35 : decode cX4_copyFrom 35 = .ok (.aload_n 0, 1) := by decide +kernel
theorem dX4_copyFrom_36 : decode cX4_copyFrom 36 = .ok (.getfield 18, 3) := by decide +kernel
theorem dX4_copyFrom_39 : decode cX4_copyFrom 39 = .ok (.iconst 0, 1) := by decide +kernel
theorem dX4_copyFrom_40 : decode cX4_copyFrom 40 = .ok (.iconst 4, 1) := by decide +kernel
theorem dX4_copyFrom_41 : decode cX4_copyFrom 41 = .ok (.invokestatic 41, 3) := by decide +kernel
theorem dX4_copyFrom_44 : decode cX4_copyFrom 44 = .ok (.aload_n 1, 1) := by decide +kernel
theorem dX4_copyFrom_45 : decode cX4_copyFrom 45 = .ok (.getfield 21, 3) := by decide +kernel
theorem dX4_copyFrom_48 : decode cX4_copyFrom 48 = .ok (.iconst 0, 1) := by decide +kernel
theorem dX4_copyFrom_49 : decode cX4_copyFrom 49 = .ok (.aload_n 0, 1) := by decide +kernel
theorem dX4_copyFrom_50 : decode cX4_copyFrom 50 = .ok (.getfield 21, 3) := by decide +kernel
theorem dX4_copyFrom_53 : decode cX4_copyFrom 53 = .ok (.iconst 0, 1) := by decide +kernel
theorem dX4_copyFrom_54 : decode cX4_copyFrom 54 = .ok (.iconst 5, 1) := by decide +kernel
theorem dX4_copyFrom_55 : decode cX4_copyFrom 55 = .ok (.invokestatic 41, 3) := by decide +kernel
theorem dX4_copyFrom_58 : decode cX4_copyFrom 58 = .ok (.aload_n 1, 1) := by decide +kernel
theorem dX4_copyFrom_59 : decode cX4_copyFrom 59 = .ok (.getfield 24, 3) := by decide +kernel
theorem dX4_copyFrom_62 : decode cX4_copyFrom 62 = .ok (.iconst 0, 1) := by decide +kernel
theorem dX4_copyFrom_63 : decode cX4_copyFrom 63 = .ok (.aload_n 0, 1) := by decide +kernel
theorem dX4_copyFrom_64 : decode cX4_copyFrom 64 = .ok (.getfield 24, 3) := by decide +kernel
theorem dX4_copyFrom_67 : decode cX4_copyFrom 67 = .ok (.iconst 0, 1) := by decide +kernel
theorem dX4_copyFrom_68 : decode cX4_copyFrom 68 = .ok (.iconst 5, 1) := by decide +kernel
theorem dX4_copyFrom_69 : decode cX4_copyFrom 69 = .ok (.invokestatic 41, 3) := by decide +kernel
theorem dX4_copyFrom_72 : decode cX4_copyFrom 72 = .ok (.aload_n 1, 1) := by decide +kernel
theorem dX4_copyFrom_73 : decode cX4_copyFrom 73 = .ok (.getfield 27, 3) := by decide +kernel
theorem dX4_copyFrom_76 : decode cX4_copyFrom 76 = .ok (.iconst 0, 1) := by decide +kernel
theorem dX4_copyFrom_77 : decode cX4_copyFrom 77 = .ok (.aload_n 0, 1) := by decide +kernel
theorem dX4_copyFrom_78 : decode cX4_copyFrom 78 = .ok (.getfield 27, 3) := by decide +kernel
theorem dX4_copyFrom_81 : decode cX4_copyFrom 81 = .ok (.iconst 0, 1) := by decide +kernel
theorem dX4_copyFrom_82 : decode cX4_copyFrom 82 = .ok (.iconst 5, 1) := by decide +kernel
theorem dX4_copyFrom_83 : decode cX4_copyFrom 83 = .ok (.invokestatic 41, 3) := by decide +kernel
theorem dX4_copyFrom_86 : decode cX4_copyFrom 86 = .ok (.aload_n 1, 1) := by decide +kernel
theorem dX4_copyFrom_87 : decode cX4_copyFrom 87 = .ok (.getfield 30, 3) := by decide +kernel
theorem dX4_copyFrom_90 : decode cX4_copyFrom 90 = .ok (.iconst 0, 1) := by decide +kernel
theorem dX4_copyFrom_91 : decode cX4_copyFrom 91 = .ok (.aload_n 0, 1) := by decide +kernel
theorem dX4_copyFrom_92 : decode cX4_copyFrom 92 = .ok (.getfield 30, 3) := by decide +kernel
theorem dX4_copyFrom_95 : decode cX4_copyFrom 95 = .ok (.iconst 0, 1) := by decide +kernel
theorem dX4_copyFrom_96 : decode cX4_copyFrom 96 = .ok (.iconst 4, 1) := by decide +kernel
theorem dX4_copyFrom_97 : decode cX4_copyFrom 97 = .ok (.invokestatic 41, 3) := by decide +kernel
theorem dX4_copyFrom_100 : decode cX4_copyFrom 100 = .ok (.aload_n 1, 1) := by decide +kernel
theorem dX4_copyFrom_101 : decode cX4_copyFrom 101 = .ok (.getfield 33, 3) := by decide +kernel
theorem dX4_copyFrom_104 : decode cX4_copyFrom 104 = .ok (.iconst 0, 1) := by decide +kernel
theorem dX4_copyFrom_105 : decode cX4_copyFrom 105 = .ok (.aload_n 0, 1) := by decide +kernel
theorem dX4_copyFrom_106 : decode cX4_copyFrom 106 = .ok (.getfield 33, 3) := by decide +kernel
theorem dX4_copyFrom_109 : decode cX4_copyFrom 109 = .ok (.iconst 0, 1) := by decide +kernel
theorem dX4_copyFrom_110 : decode cX4_copyFrom 110 = .ok (.iconst 4, 1) := by decide +kernel
theorem dX4_copyFrom_111 : decode cX4_copyFrom 111 = .ok (.invokestatic 41, 3) := by decide +kernel
theorem dX4_copyFrom_114 : decode cX4_copyFrom 114 = .ok (.aload_n 0, 1) := by decide +kernel
theorem dX4_copyFrom_115 : decode cX4_copyFrom 115 = .ok (.aload_n 1, 1) := by decide +kernel
theorem dX4_copyFrom_116 : decode cX4_copyFrom 116 = .ok (.getfield 54, 3) := by decide +kernel
theorem dX4_copyFrom_119 : decode cX4_copyFrom 119 = .ok (.putfield 54, 3) := by decide +kernel
theorem dX4_copyFrom_122 : decode cX4_copyFrom 122 = .ok (.return_, 1) := by decide +kernel
theorem dX4_tellPan_0 : decode cX4_tellPan 0 = .ok (.aload_n 0, 1) := by decide +kernel
theorem dX4_tellPan_1 : decode cX4_tellPan 1 = .ok (.getfield 21, 3) := by decide +kernel
theorem dX4_tellPan_4 : decode cX4_tellPan 4 = .ok (.iload_n 1, 1) := by decide +kernel
theorem dX4_tellPan_5 : decode cX4_tellPan 5 = .ok (.iload_n 2, 1) := by decide +kernel
theorem dX4_tellPan_6 : decode cX4_tellPan 6 = .ok (.iastore, 1) := by decide +kernel
theorem dX4_tellPan_7 : decode cX4_tellPan 7 = .ok (.aload_n 0, 1) := by decide +kernel
theorem dX4_tellPan_8 : decode cX4_tellPan 8 = .ok (.getfield 24, 3) := by decide +kernel
theorem dX4_tellPan_11 : decode cX4_tellPan 11 = .ok (.iload_n 1, 1) := by decide +kernel
theorem dX4_tellPan_12 : decode cX4_tellPan 12 = .ok (.iload_n 3, 1) := by decide +kernel
theorem dX4_tellPan_13 : decode cX4_tellPan 13 = .ok (.iastore, 1) := by decide +kernel
theorem dX4_tellPan_14 : decode cX4_tellPan 14 = .ok (.aload_n 0, 1) := by decide +kernel
theorem dX4_tellPan_15 : decode cX4_tellPan 15 = .ok (.getfield 27, 3) := by decide +kernel
theorem dX4_tellPan_18 : decode cX4_tellPan 18 = .ok (.iload_n 1, 1) := by decide +kernel
theorem dX4_tellPan_19 : decode cX4_tellPan 19 = .ok (.iload 4, 2) := by decide +kernel
theorem dX4_tellPan_21 : decode cX4_tellPan 21 = .ok (.iastore, 1) := by decide +kernel
theorem dX4_tellPan_22 : decode cX4_tellPan 22 = .ok (.return_, 1) := by decide +kernel
theorem dX4_panAt_0 : decode cX4_panAt 0 = .ok (.aload_n 0, 1) := by decide +kernel
theorem dX4_panAt_1 : decode cX4_panAt 1 = .ok (.getfield 27, 3) := by decide +kernel
theorem dX4_panAt_4 : decode cX4_panAt 4 = .ok (.iload_n 1, 1) := by decide +kernel
theorem dX4_panAt_5 : decode cX4_panAt 5 = .ok (.iaload, 1) := by decide +kernel
theorem dX4_panAt_6 : decode cX4_panAt 6 = .ok (.istore_n 3, 1) := by decide +kernel
theorem dX4_panAt_7 : decode cX4_panAt 7 = .ok (.iload_n 3, 1) := by decide +kernel
theorem dX4_panAt_8 : decode cX4_panAt 8 = .ok (.iconst 1, 1) := by decide +kernel
theorem dX4_panAt_9 : decode cX4_panAt 9 = .ok (.if_icmp .ge 12, 3) := by decide +kernel
theorem dX4_panAt_12 : decode cX4_panAt 12 = .ok (.aload_n 0, 1) := by decide +kernel
theorem dX4_panAt_13 : decode cX4_panAt 13 = .ok (.getfield 21, 3) := by decide +kernel
theorem dX4_panAt_16 : decode cX4_panAt 16 = .ok (.iload_n 1, 1) := by decide +kernel
theorem dX4_panAt_17 : decode cX4_panAt 17 = .ok (.iaload, 1) := by decide +kernel
theorem dX4_panAt_18 : decode cX4_panAt 18 = .ok (.goto 20, 3) := by decide +kernel
theorem dX4_panAt_21 : decode cX4_panAt 21 = .ok (.aload_n 0, 1) := by decide +kernel
theorem dX4_panAt_22 : decode cX4_panAt 22 = .ok (.getfield 21, 3) := by decide +kernel
theorem dX4_panAt_25 : decode cX4_panAt 25 = .ok (.iload_n 1, 1) := by decide +kernel
theorem dX4_panAt_26 : decode cX4_panAt 26 = .ok (.iaload, 1) := by decide +kernel
theorem dX4_panAt_27 : decode cX4_panAt 27 = .ok (.aload_n 0, 1) := by decide +kernel
theorem dX4_panAt_28 : decode cX4_panAt 28 = .ok (.getfield 24, 3) := by decide +kernel
theorem dX4_panAt_31 : decode cX4_panAt 31 = .ok (.iload_n 1, 1) := by decide +kernel
theorem dX4_panAt_32 : decode cX4_panAt 32 = .ok (.iaload, 1) := by decide +kernel
theorem dX4_panAt_33 : decode cX4_panAt 33 = .ok (.iload_n 2, 1) := by decide +kernel
theorem dX4_panAt_34 : decode cX4_panAt 34 = .ok (.iload_n 3, 1) := by decide +kernel
theorem dX4_panAt_35 : decode cX4_panAt 35 = .ok (.idiv, 1) := by decide +kernel
theorem dX4_panAt_36 : decode cX4_panAt 36 = .ok (.imul, 1) := by decide +kernel
theorem dX4_panAt_37 : decode cX4_panAt 37 = .ok (.iadd, 1) := by decide +kernel
theorem dX4_panAt_38 : decode cX4_panAt 38 = .ok (.ireturn, 1) := by decide +kernel
theorem dX4_addSwitch_0 : decode cX4_addSwitch 0 = .ok (.aload_n 0, 1) := by decide +kernel
theorem dX4_addSwitch_1 : decode cX4_addSwitch 1 = .ok (.getfield 54, 3) := by decide +kernel
theorem dX4_addSwitch_4 : decode cX4_addSwitch 4 = .ok (.iconst 4, 1) := by decide +kernel
theorem dX4_addSwitch_5 : decode cX4_addSwitch 5 = .ok (.if_icmp .ge 33, 3) := by decide +kernel
theorem dX4_addSwitch_8 : decode cX4_addSwitch 8 = .ok (.aload_n 0, 1) := by decide +kernel
theorem dX4_addSwitch_9 : decode cX4_addSwitch 9 = .ok (.getfield 30, 3) := by decide +kernel
theorem dX4_addSwitch_12 : decode cX4_addSwitch 12 = .ok (.aload_n 0, 1) := by decide +kernel
theorem dX4_addSwitch_13 : decode cX4_addSwitch 13 = .ok (.getfield 54, 3) := by decide +kernel
theorem dX4_addSwitch_16 : decode cX4_addSwitch 16 = .ok (.iload_n 1, 1) := by decide +kernel
theorem dX4_addSwitch_17 : decode cX4_addSwitch 17 = .ok (.iastore, 1) := by decide +kernel
theorem dX4_addSwitch_18 : decode cX4_addSwitch 18 = .ok (.aload_n 0, 1) := by decide +kernel
theorem dX4_addSwitch_19 : decode cX4_addSwitch 19 = .ok (.getfield 33, 3) := by decide +kernel
theorem dX4_addSwitch_22 : decode cX4_addSwitch 22 = .ok (.aload_n 0, 1) := by decide +kernel
theorem dX4_addSwitch_23 : decode cX4_addSwitch 23 = .ok (.getfield 54, 3) := by decide +kernel
theorem dX4_addSwitch_26 : decode cX4_addSwitch 26 = .ok (.iload_n 2, 1) := by decide +kernel
theorem dX4_addSwitch_27 : decode cX4_addSwitch 27 = .ok (.iastore, 1) := by decide +kernel
theorem dX4_addSwitch_28 : decode cX4_addSwitch 28 = .ok (.aload_n 0, 1) := by decide +kernel
theorem dX4_addSwitch_29 : decode cX4_addSwitch 29 = .ok (.dup, 1) := by decide +kernel
theorem dX4_addSwitch_30 : decode cX4_addSwitch 30 = .ok (.getfield 54, 3) := by decide +kernel
theorem dX4_addSwitch_33 : decode cX4_addSwitch 33 = .ok (.iconst 1, 1) := by decide +kernel
theorem dX4_addSwitch_34 : decode cX4_addSwitch 34 = .ok (.iadd, 1) := by decide +kernel
theorem dX4_addSwitch_35 : decode cX4_addSwitch 35 = .ok (.putfield 54, 3) := by decide +kernel
theorem dX4_addSwitch_38 : decode cX4_addSwitch 38 = .ok (.return_, 1) := by decide +kernel
theorem dX4_dropSwitch_0 : decode cX4_dropSwitch 0 = .ok (.aload_n 0, 1) := by decide +kernel
theorem dX4_dropSwitch_1 : decode cX4_dropSwitch 1 = .ok (.getfield 54, 3) := by decide +kernel
theorem dX4_dropSwitch_4 : decode cX4_dropSwitch 4 = .ok (.iconst 1, 1) := by decide +kernel
theorem dX4_dropSwitch_5 : decode cX4_dropSwitch 5 = .ok (.if_icmp .ge 5, 3) := by decide +kernel
theorem dX4_dropSwitch_8 : decode cX4_dropSwitch 8 = .ok (.iconst 0, 1) := by decide +kernel
theorem dX4_dropSwitch_9 : decode cX4_dropSwitch 9 = .ok (.ireturn, 1) := by decide +kernel
theorem dX4_dropSwitch_10 : decode cX4_dropSwitch 10 = .ok (.aload_n 0, 1) := by decide +kernel
theorem dX4_dropSwitch_11 : decode cX4_dropSwitch 11 = .ok (.dup, 1) := by decide +kernel
theorem dX4_dropSwitch_12 : decode cX4_dropSwitch 12 = .ok (.getfield 54, 3) := by decide +kernel
theorem dX4_dropSwitch_15 : decode cX4_dropSwitch 15 = .ok (.iconst 1, 1) := by decide +kernel
theorem dX4_dropSwitch_16 : decode cX4_dropSwitch 16 = .ok (.isub, 1) := by decide +kernel
theorem dX4_dropSwitch_17 : decode cX4_dropSwitch 17 = .ok (.putfield 54, 3) := by decide +kernel
theorem dX4_dropSwitch_20 : decode cX4_dropSwitch 20 = .ok (.iconst 1, 1) := by decide +kernel
theorem dX4_dropSwitch_21 : decode cX4_dropSwitch 21 = .ok (.ireturn, 1) := by decide +kernel
theorem dX4_switchFor_0 : decode cX4_switchFor 0 = .ok (.iconst (-1), 1) := by decide +kernel
theorem dX4_switchFor_1 : decode cX4_switchFor 1 = .ok (.istore_n 2, 1) := by decide +kernel
theorem dX4_switchFor_2 : decode cX4_switchFor 2 = .ok (.iconst 0, 1) := by decide +kernel
theorem dX4_switchFor_3 : decode cX4_switchFor 3 = .ok (.istore_n 3, 1) := by decide +kernel
theorem dX4_switchFor_4 : decode cX4_switchFor 4 = .ok (.iload_n 3, 1) := by decide +kernel
theorem dX4_switchFor_5 : decode cX4_switchFor 5 = .ok (.aload_n 0, 1) := by decide +kernel
theorem dX4_switchFor_6 : decode cX4_switchFor 6 = .ok (.getfield 54, 3) := by decide +kernel
theorem dX4_switchFor_9 : decode cX4_switchFor 9 = .ok (.if_icmp .ge 52, 3) := by decide +kernel
theorem dX4_switchFor_12 : decode cX4_switchFor 12 = .ok (.aload_n 0, 1) := by decide +kernel
theorem dX4_switchFor_13 : decode cX4_switchFor 13 = .ok (.getfield 30, 3) := by decide +kernel
theorem dX4_switchFor_16 : decode cX4_switchFor 16 = .ok (.iload_n 3, 1) := by decide +kernel
theorem dX4_switchFor_17 : decode cX4_switchFor 17 = .ok (.iaload, 1) := by decide +kernel
theorem dX4_switchFor_18 : decode cX4_switchFor 18 = .ok (.iload_n 1, 1) := by decide +kernel
theorem dX4_switchFor_19 : decode cX4_switchFor 19 = .ok (.if_icmp .gt 7, 3) := by decide +kernel
theorem dX4_switchFor_22 : decode cX4_switchFor 22 = .ok (.iconst 1, 1) := by decide +kernel
theorem dX4_switchFor_23 : decode cX4_switchFor 23 = .ok (.goto 4, 3) := by decide +kernel
theorem dX4_switchFor_26 : decode cX4_switchFor 26 = .ok (.iconst 0, 1) := by decide +kernel
theorem dX4_switchFor_27 : decode cX4_switchFor 27 = .ok (.istore 4, 2) := by decide +kernel
theorem dX4_switchFor_29 : decode cX4_switchFor 29 = .ok (.iload 4, 2) := by decide +kernel
theorem dX4_switchFor_31 : decode cX4_switchFor 31 = .ok (.ifCond .eq 24, 3) := by decide +kernel
theorem dX4_switchFor_34 : decode cX4_switchFor 34 = .ok (.iload_n 2, 1) := by decide +kernel
theorem dX4_switchFor_35 : decode cX4_switchFor 35 = .ok (.ifCond .lt 18, 3) := by decide +kernel
theorem dX4_switchFor_38 : decode cX4_switchFor 38 = .ok (.aload_n 0, 1) := by decide +kernel
theorem dX4_switchFor_39 : decode cX4_switchFor 39 = .ok (.getfield 30, 3) := by decide +kernel
theorem dX4_switchFor_42 : decode cX4_switchFor 42 = .ok (.iload_n 3, 1) := by decide +kernel
theorem dX4_switchFor_43 : decode cX4_switchFor 43 = .ok (.iaload, 1) := by decide +kernel
theorem dX4_switchFor_44 : decode cX4_switchFor 44 = .ok (.aload_n 0, 1) := by decide +kernel
theorem dX4_switchFor_45 : decode cX4_switchFor 45 = .ok (.getfield 30, 3) := by decide +kernel
theorem dX4_switchFor_48 : decode cX4_switchFor 48 = .ok (.iload_n 2, 1) := by decide +kernel
theorem dX4_switchFor_49 : decode cX4_switchFor 49 = .ok (.iaload, 1) := by decide +kernel
theorem dX4_switchFor_50 : decode cX4_switchFor 50 = .ok (.if_icmp .lt 5, 3) := by decide +kernel
theorem dX4_switchFor_53 : decode cX4_switchFor 53 = .ok (.iload_n 3, 1) := by decide +kernel
theorem dX4_switchFor_54 : decode cX4_switchFor 54 = .ok (.istore_n 2, 1) := by decide +kernel
theorem dX4_switchFor_55 : decode cX4_switchFor 55 = .ok (.iinc 3 1, 3) := by decide +kernel
theorem dX4_switchFor_58 : decode cX4_switchFor 58 = .ok (.goto (-54), 3) := by decide +kernel
theorem dX4_switchFor_61 : decode cX4_switchFor 61 = .ok (.iload_n 2, 1) := by decide +kernel
theorem dX4_switchFor_62 : decode cX4_switchFor 62 = .ok (.ireturn, 1) := by decide +kernel
theorem dX6_init_0 : decode cX6_init 0 = .ok (.aload_n 0, 1) := by decide +kernel
theorem dX6_init_1 : decode cX6_init 1 = .ok (.invokespecial 3, 3) := by decide +kernel
theorem dX6_init_4 : decode cX6_init 4 = .ok (.aload_n 0, 1) := by decide +kernel
theorem dX6_init_5 : decode cX6_init 5 = .ok (.bipush 6, 2) := by decide +kernel
theorem dX6_init_7 : decode cX6_init 7 = .ok (.newarray .int, 2) := by decide +kernel
theorem dX6_init_9 : decode cX6_init 9 = .ok (.putfield 9, 3) := by decide +kernel
theorem dX6_init_12 : decode cX6_init 12 = .ok (.aload_n 0, 1) := by decide +kernel
theorem dX6_init_13 : decode cX6_init 13 = .ok (.bipush 6, 2) := by decide +kernel
theorem dX6_init_15 : decode cX6_init 15 = .ok (.newarray .int, 2) := by decide +kernel
theorem dX6_init_17 : decode cX6_init 17 = .ok (.putfield 15, 3) := by decide +kernel
theorem dX6_init_20 : decode cX6_init 20 = .ok (.aload_n 0, 1) := by decide +kernel
theorem dX6_init_21 : decode cX6_init 21 = .ok (.bipush 6, 2) := by decide +kernel
theorem dX6_init_23 : decode cX6_init 23 = .ok (.newarray .int, 2) := by decide +kernel
theorem dX6_init_25 : decode cX6_init 25 = .ok (.putfield 18, 3) := by decide +kernel
theorem dX6_init_28 : decode cX6_init 28 = .ok (.return_, 1) := by decide +kernel
theorem dX6_clear_0 : decode cX6_clear 0 = .ok (.aload_n 0, 1) := by decide +kernel
theorem dX6_clear_1 : decode cX6_clear 1 = .ok (.iconst 0, 1) := by decide +kernel
theorem dX6_clear_2 : decode cX6_clear 2 = .ok (.putfield 21, 3) := by decide +kernel
theorem dX6_clear_5 : decode cX6_clear 5 = .ok (.return_, 1) := by decide +kernel
theorem dX6_add_0 : decode cX6_add 0 = .ok (.aload_n 0, 1) := by decide +kernel
theorem dX6_add_1 : decode cX6_add 1 = .ok (.getfield 21, 3) := by decide +kernel
theorem dX6_add_4 : decode cX6_add 4 = .ok (.bipush 6, 2) := by decide +kernel
theorem dX6_add_6 : decode cX6_add 6 = .ok (.if_icmp .ge 43, 3) := by decide +kernel
theorem dX6_add_9 : decode cX6_add 9 = .ok (.aload_n 0, 1) := by decide +kernel
theorem dX6_add_10 : decode cX6_add 10 = .ok (.getfield 9, 3) := by decide +kernel
theorem dX6_add_13 : decode cX6_add 13 = .ok (.aload_n 0, 1) := by decide +kernel
theorem dX6_add_14 : decode cX6_add 14 = .ok (.getfield 21, 3) := by decide +kernel
theorem dX6_add_17 : decode cX6_add 17 = .ok (.iload_n 1, 1) := by decide +kernel
theorem dX6_add_18 : decode cX6_add 18 = .ok (.iastore, 1) := by decide +kernel
theorem dX6_add_19 : decode cX6_add 19 = .ok (.aload_n 0, 1) := by decide +kernel
theorem dX6_add_20 : decode cX6_add 20 = .ok (.getfield 15, 3) := by decide +kernel
theorem dX6_add_23 : decode cX6_add 23 = .ok (.aload_n 0, 1) := by decide +kernel
theorem dX6_add_24 : decode cX6_add 24 = .ok (.getfield 21, 3) := by decide +kernel
theorem dX6_add_27 : decode cX6_add 27 = .ok (.iload_n 2, 1) := by decide +kernel
theorem dX6_add_28 : decode cX6_add 28 = .ok (.iastore, 1) := by decide +kernel
theorem dX6_add_29 : decode cX6_add 29 = .ok (.aload_n 0, 1) := by decide +kernel
theorem dX6_add_30 : decode cX6_add 30 = .ok (.getfield 18, 3) := by decide +kernel
theorem dX6_add_33 : decode cX6_add 33 = .ok (.aload_n 0, 1) := by decide +kernel
theorem dX6_add_34 : decode cX6_add 34 = .ok (.getfield 21, 3) := by decide +kernel
theorem dX6_add_37 : decode cX6_add 37 = .ok (.iload_n 3, 1) := by decide +kernel
theorem dX6_add_38 : decode cX6_add 38 = .ok (.iastore, 1) := by decide +kernel
theorem dX6_add_39 : decode cX6_add 39 = .ok (.aload_n 0, 1) := by decide +kernel
theorem dX6_add_40 : decode cX6_add 40 = .ok (.dup, 1) := by decide +kernel
theorem dX6_add_41 : decode cX6_add 41 = .ok (.getfield 21, 3) := by decide +kernel
theorem dX6_add_44 : decode cX6_add 44 = .ok (.iconst 1, 1) := by decide +kernel
theorem dX6_add_45 : decode cX6_add 45 = .ok (.iadd, 1) := by decide +kernel
theorem dX6_add_46 : decode cX6_add 46 = .ok (.putfield 21, 3) := by decide +kernel
theorem dX6_add_49 : decode cX6_add 49 = .ok (.return_, 1) := by decide +kernel
theorem dX6_allSoWithout_0 : decode cX6_allSoWithout 0 = .ok (.iconst 0, 1) := by decide +kernel
theorem dX6_allSoWithout_1 : decode cX6_allSoWithout 1 = .ok (.istore_n 3, 1) := by decide +kernel
theorem dX6_allSoWithout_2 : decode cX6_allSoWithout 2 = .ok (.iload_n 3, 1) := by decide +kernel
theorem dX6_allSoWithout_3 : decode cX6_allSoWithout 3 = .ok (.aload_n 0, 1) := by decide +kernel
theorem dX6_allSoWithout_4 : decode cX6_allSoWithout 4 = .ok (.getfield 21, 3) := by decide +kernel
theorem dX6_allSoWithout_7 : decode cX6_allSoWithout 7 = .ok (.if_icmp .ge 37, 3) := by decide +kernel
theorem dX6_allSoWithout_10 : decode cX6_allSoWithout 10 = .ok (.aload_n 2, 1) := by decide +kernel
theorem dX6_allSoWithout_11 : decode cX6_allSoWithout 11 = .ok (.aload_n 0, 1) := by decide +kernel
theorem dX6_allSoWithout_12 : decode cX6_allSoWithout 12 = .ok (.getfield 9, 3) := by decide +kernel
theorem dX6_allSoWithout_15 : decode cX6_allSoWithout 15 = .ok (.iload_n 3, 1) := by decide +kernel
theorem dX6_allSoWithout_16 : decode cX6_allSoWithout 16 = .ok (.iaload, 1) := by decide +kernel
theorem dX6_allSoWithout_17 : decode cX6_allSoWithout 17 = .ok (.aload_n 0, 1) := by decide +kernel
theorem dX6_allSoWithout_18 : decode cX6_allSoWithout 18 = .ok (.getfield 15, 3) := by decide +kernel
theorem dX6_allSoWithout_21 : decode cX6_allSoWithout 21 = .ok (.iload_n 3, 1) := by decide +kernel
theorem dX6_allSoWithout_22 : decode cX6_allSoWithout 22 = .ok (.iaload, 1) := by decide +kernel
theorem dX6_allSoWithout_23 : decode cX6_allSoWithout 23 = .ok (.iload_n 1, 1) := by decide +kernel
theorem dX6_allSoWithout_24 : decode cX6_allSoWithout 24 = .ok (.invokevirtual 25, 3) := by decide +kernel
theorem dX6_allSoWithout_27 : decode cX6_allSoWithout 27 = .ok (.aload_n 0, 1) := by decide +kernel
theorem dX6_allSoWithout_28 : decode cX6_allSoWithout 28 = .ok (.getfield 18, 3) := by decide +kernel
theorem dX6_allSoWithout_31 : decode cX6_allSoWithout 31 = .ok (.iload_n 3, 1) := by decide +kernel
theorem dX6_allSoWithout_32 : decode cX6_allSoWithout 32 = .ok (.iaload, 1) := by decide +kernel
theorem dX6_allSoWithout_33 : decode cX6_allSoWithout 33 = .ok (.if_icmp .eq 5, 3) := by decide +kernel
theorem dX6_allSoWithout_36 : decode cX6_allSoWithout 36 = .ok (.iconst 0, 1) := by decide +kernel
theorem dX6_allSoWithout_37 : decode cX6_allSoWithout 37 = .ok (.ireturn, 1) := by decide +kernel
theorem dX6_allSoWithout_38 : decode cX6_allSoWithout 38 = .ok (.iinc 3 1, 3) := by decide +kernel
theorem dX6_allSoWithout_41 : decode cX6_allSoWithout 41 = .ok (.goto (-39), 3) := by decide +kernel
theorem dX6_allSoWithout_44 : decode cX6_allSoWithout 44 = .ok (.iconst 1, 1) := by decide +kernel
theorem dX6_allSoWithout_45 : decode cX6_allSoWithout 45 = .ok (.ireturn, 1) := by decide +kernel
end
section
theorem dX3_init_0 : decode cX3_init 0 = .ok (.aload_n 0, 1) := by decide +kernel
theorem dX3_init_1 : decode cX3_init 1 = .ok (.invokespecial 3, 3) := by decide +kernel
theorem dX3_init_4 : decode cX3_init 4 = .ok (.aload_n 0, 1) := by decide +kernel
theorem dX3_init_5 : decode cX3_init 5 = .ok (.new 9, 3) := by decide +kernel
theorem dX3_init_8 : decode cX3_init 8 = .ok (.dup, 1) := by decide +kernel
theorem dX3_init_9 : decode cX3_init 9 = .ok (.invokespecial 11, 3) := by decide +kernel
theorem dX3_init_12 : decode cX3_init 12 = .ok (.putfield 12, 3) := by decide +kernel
theorem dX3_init_15 : decode cX3_init 15 = .ok (.aload_n 0, 1) := by decide +kernel
theorem dX3_init_16 : decode cX3_init 16 = .ok (.new 18, 3) := by decide +kernel
theorem dX3_init_19 : decode cX3_init 19 = .ok (.dup, 1) := by decide +kernel
theorem dX3_init_20 : decode cX3_init 20 = .ok (.invokespecial 20, 3) := by decide +kernel
theorem dX3_init_23 : decode cX3_init 23 = .ok (.putfield 21, 3) := by decide +kernel
theorem dX3_init_26 : decode cX3_init 26 = .ok (.aload_n 0, 1) := by decide +kernel
theorem dX3_init_27 : decode cX3_init 27 = .ok (.new 25, 3) := by decide +kernel
theorem dX3_init_30 : decode cX3_init 30 = .ok (.dup, 1) := by decide +kernel
theorem dX3_init_31 : decode cX3_init 31 = .ok (.invokespecial 27, 3) := by decide +kernel
theorem dX3_init_34 : decode cX3_init 34 = .ok (.putfield 28, 3) := by decide +kernel
theorem dX3_init_37 : decode cX3_init 37 = .ok (.aload_n 0, 1) := by decide +kernel
theorem dX3_init_38 : decode cX3_init 38 = .ok (.iconst 4, 1) := by decide +kernel
theorem dX3_init_39 : decode cX3_init 39 = .ok (.newarray .int, 2) := by decide +kernel
theorem dX3_init_41 : decode cX3_init 41 = .ok (.putfield 32, 3) := by decide +kernel
theorem dX3_init_44 : decode cX3_init 44 = .ok (.aload_n 0, 1) := by decide +kernel
theorem dX3_init_45 : decode cX3_init 45 = .ok (.bipush 10, 2) := by decide +kernel
theorem dX3_init_47 : decode cX3_init 47 = .ok (.newarray .int, 2) := by decide +kernel
theorem dX3_init_49 : decode cX3_init 49 = .ok (.putfield 36, 3) := by decide +kernel
theorem dX3_init_52 : decode cX3_init 52 = .ok (.aload_n 0, 1) := by decide +kernel
theorem dX3_init_53 : decode cX3_init 53 = .ok (.bipush 6, 2) := by decide +kernel
theorem dX3_init_55 : decode cX3_init 55 = .ok (.newarray .int, 2) := by decide +kernel
theorem dX3_init_57 : decode cX3_init 57 = .ok (.putfield 39, 3) := by decide +kernel
theorem dX3_init_60 : decode cX3_init 60 = .ok (.aload_n 0, 1) := by decide +kernel
theorem dX3_init_61 : decode cX3_init 61 = .ok (.bipush 6, 2) := by decide +kernel
theorem dX3_init_63 : decode cX3_init 63 = .ok (.newarray .int, 2) := by decide +kernel
theorem dX3_init_65 : decode cX3_init 65 = .ok (.putfield 42, 3) := by decide +kernel
theorem dX3_init_68 : decode cX3_init 68 = .ok (.return_, 1) := by decide +kernel
theorem dX3_forgetShorts_0 : decode cX3_forgetShorts 0 = .ok (.iconst 0, 1) := by decide +kernel
theorem dX3_forgetShorts_1 : decode cX3_forgetShorts 1 = .ok (.istore_n 1, 1) := by decide +kernel
theorem dX3_forgetShorts_2 : decode cX3_forgetShorts 2 = .ok (.iload_n 1, 1) := by decide +kernel
theorem dX3_forgetShorts_3 : decode cX3_forgetShorts 3 = .ok (.iconst 4, 1) := by decide +kernel
theorem dX3_forgetShorts_4 : decode cX3_forgetShorts 4 = .ok (.if_icmp .ge 16, 3) := by decide +kernel
theorem dX3_forgetShorts_7 : decode cX3_forgetShorts 7 = .ok (.aload_n 0, 1) := by decide +kernel
theorem dX3_forgetShorts_8 : decode cX3_forgetShorts 8 = .ok (.getfield 32, 3) := by decide +kernel
theorem dX3_forgetShorts_11 : decode cX3_forgetShorts 11 = .ok (.iload_n 1, 1) := by decide +kernel
theorem dX3_forgetShorts_12 : decode cX3_forgetShorts 12 = .ok (.iconst 0, 1) := by decide +kernel
theorem dX3_forgetShorts_13 : decode cX3_forgetShorts 13 = .ok (.iastore, 1) := by decide +kernel
theorem dX3_forgetShorts_14 : decode cX3_forgetShorts 14 = .ok (.iinc 1 1, 3) := by decide +kernel
theorem dX3_forgetShorts_17 : decode cX3_forgetShorts 17 = .ok (.goto (-15), 3) := by decide +kernel
theorem dX3_forgetShorts_20 : decode cX3_forgetShorts 20 = .ok (.return_, 1) := by decide +kernel
theorem dX3_drawingOn_0 : decode cX3_drawingOn 0 = .ok (.iload_n 2, 1) := by decide +kernel
theorem dX3_drawingOn_1 : decode cX3_drawingOn 1 = .ok (.aload_n 0, 1) := by decide +kernel
theorem dX3_drawingOn_2 : decode cX3_drawingOn 2 = .ok (.getfield 21, 3) := by decide +kernel
theorem dX3_drawingOn_5 : decode cX3_drawingOn 5 = .ok (.getfield 45, 3) := by decide +kernel
theorem dX3_drawingOn_8 : decode cX3_drawingOn 8 = .ok (.iload_n 1, 1) := by decide +kernel
theorem dX3_drawingOn_9 : decode cX3_drawingOn 9 = .ok (.iaload, 1) := by decide +kernel
theorem dX3_drawingOn_10 : decode cX3_drawingOn 10 = .ok (.isub, 1) := by decide +kernel
theorem dX3_drawingOn_11 : decode cX3_drawingOn 11 = .ok (.istore_n 3, 1) := by decide +kernel
theorem dX3_drawingOn_12 : decode cX3_drawingOn 12 = .ok (.iload_n 3, 1) := by decide +kernel
theorem dX3_drawingOn_13 : decode cX3_drawingOn 13 = .ok (.ifCond .lt 16, 3) := by decide +kernel
theorem dX3_drawingOn_16 : decode cX3_drawingOn 16 = .ok (.iload_n 3, 1) := by decide +kernel
theorem dX3_drawingOn_17 : decode cX3_drawingOn 17 = .ok (.aload_n 0, 1) := by decide +kernel
theorem dX3_drawingOn_18 : decode cX3_drawingOn 18 = .ok (.getfield 12, 3) := by decide +kernel
theorem dX3_drawingOn_21 : decode cX3_drawingOn 21 = .ok (.getfield 48, 3) := by decide +kernel
theorem dX3_drawingOn_24 : decode cX3_drawingOn 24 = .ok (.iload_n 1, 1) := by decide +kernel
theorem dX3_drawingOn_25 : decode cX3_drawingOn 25 = .ok (.iaload, 1) := by decide +kernel
theorem dX3_drawingOn_26 : decode cX3_drawingOn 26 = .ok (.if_icmp .lt 6, 3) := by decide +kernel
theorem dX3_drawingOn_29 : decode cX3_drawingOn 29 = .ok (.bipush (-9), 2) := by decide +kernel
theorem dX3_drawingOn_31 : decode cX3_drawingOn 31 = .ok (.ireturn, 1) := by decide +kernel
theorem dX3_drawingOn_32 : decode cX3_drawingOn 32 = .ok (.aload_n 0, 1) := by decide +kernel
theorem dX3_drawingOn_33 : decode cX3_drawingOn 33 = .ok (.getfield 12, 3) := by decide +kernel
theorem dX3_drawingOn_36 : decode cX3_drawingOn 36 = .ok (.getfield 51, 3) := by decide +kernel
theorem dX3_drawingOn_39 : decode cX3_drawingOn 39 = .ok (.iload_n 1, 1) := by decide +kernel
theorem dX3_drawingOn_40 : decode cX3_drawingOn 40 = .ok (.bipush 48, 2) := by decide +kernel
theorem dX3_drawingOn_42 : decode cX3_drawingOn 42 = .ok (.imul, 1) := by decide +kernel
theorem dX3_drawingOn_43 : decode cX3_drawingOn 43 = .ok (.iload_n 3, 1) := by decide +kernel
theorem dX3_drawingOn_44 : decode cX3_drawingOn 44 = .ok (.iadd, 1) := by decide +kernel
theorem dX3_drawingOn_45 : decode cX3_drawingOn 45 = .ok (.iaload, 1) := by decide +kernel
theorem dX3_drawingOn_46 : decode cX3_drawingOn 46 = .ok (.ireturn, 1) := by decide +kernel
theorem dX3_isOrder_0 : decode cX3_isOrder 0 = .ok (.iload_n 1, 1) := by decide +kernel
theorem dX3_isOrder_1 : decode cX3_isOrder 1 = .ok (.ifCond .lt 18, 3) := by decide +kernel
theorem dX3_isOrder_4 : decode cX3_isOrder 4 = .ok (.iload_n 1, 1) := by decide +kernel
theorem dX3_isOrder_5 : decode cX3_isOrder 5 = .ok (.getstatic 54, 3) := by decide +kernel
theorem dX3_isOrder_8 : decode cX3_isOrder 8 = .ok (.aload_n 0, 1) := by decide +kernel
theorem dX3_isOrder_9 : decode cX3_isOrder 9 = .ok (.getfield 12, 3) := by decide +kernel
theorem dX3_isOrder_12 : decode cX3_isOrder 12 = .ok (.getfield 57, 3) := by decide +kernel
theorem dX3_isOrder_15 : decode cX3_isOrder 15 = .ok (.iaload, 1) := by decide +kernel
theorem dX3_isOrder_16 : decode cX3_isOrder 16 = .ok (.if_icmp .lt 5, 3) := by decide +kernel
theorem dX3_isOrder_19 : decode cX3_isOrder 19 = .ok (.iconst 0, 1) := by decide +kernel
theorem dX3_isOrder_20 : decode cX3_isOrder 20 = .ok (.ireturn, 1) := by decide +kernel
theorem dX3_isOrder_21 : decode cX3_isOrder 21 = .ok (.iconst 0, 1) := by decide +kernel
theorem dX3_isOrder_22 : decode cX3_isOrder 22 = .ok (.istore_n 2, 1) := by decide +kernel
theorem dX3_isOrder_23 : decode cX3_isOrder 23 = .ok (.iconst 0, 1) := by decide +kernel
theorem dX3_isOrder_24 : decode cX3_isOrder 24 = .ok (.istore_n 3, 1) := by decide +kernel
theorem dX3_isOrder_25 : decode cX3_isOrder 25 = .ok (.iload_n 3, 1) := by decide +kernel
theorem dX3_isOrder_26 : decode cX3_isOrder 26 = .ok (.aload_n 0, 1) := by decide +kernel
theorem dX3_isOrder_27 : decode cX3_isOrder 27 = .ok (.getfield 12, 3) := by decide +kernel
theorem dX3_isOrder_30 : decode cX3_isOrder 30 = .ok (.getfield 57, 3) := by decide +kernel
theorem dX3_isOrder_33 : decode cX3_isOrder 33 = .ok (.if_icmp .ge 20, 3) := by decide +kernel
theorem dX3_isOrder_36 : decode cX3_isOrder 36 = .ok (.iload_n 2, 1) := by decide +kernel
theorem dX3_isOrder_37 : decode cX3_isOrder 37 = .ok (.iconst 1, 1) := by decide +kernel
theorem dX3_isOrder_38 : decode cX3_isOrder 38 = .ok (.aload_n 0, 1) := by decide +kernel
theorem dX3_isOrder_39 : decode cX3_isOrder 39 = .ok (.iload_n 1, 1) := by decide +kernel
theorem dX3_isOrder_40 : decode cX3_isOrder 40 = .ok (.iload_n 3, 1) := by decide +kernel
theorem dX3_isOrder_41 : decode cX3_isOrder 41 = .ok (.invokevirtual 61, 3) := by decide +kernel
theorem dX3_isOrder_44 : decode cX3_isOrder 44 = .ok (.ishl, 1) := by decide +kernel
theorem dX3_isOrder_45 : decode cX3_isOrder 45 = .ok (.ior, 1) := by decide +kernel
theorem dX3_isOrder_46 : decode cX3_isOrder 46 = .ok (.istore_n 2, 1) := by decide +kernel
theorem dX3_isOrder_47 : decode cX3_isOrder 47 = .ok (.iinc 3 1, 3) := by decide +kernel
theorem dX3_isOrder_50 : decode cX3_isOrder 50 = .ok (.goto (-25), 3) := by decide +kernel
theorem dX3_isOrder_53 : decode cX3_isOrder 53 = .ok (.iload_n 2, 1) := by decide +kernel
theorem dX3_isOrder_54 : decode cX3_isOrder 54 = .ok (.iconst 1, 1) := by decide +kernel
theorem dX3_isOrder_55 : decode cX3_isOrder 55 = .ok (.aload_n 0, 1) := by decide +kernel
theorem dX3_isOrder_56 : decode cX3_isOrder 56 = .ok (.getfield 12, 3) := by decide +kernel
theorem dX3_isOrder_59 : decode cX3_isOrder 59 = .ok (.getfield 57, 3) := by decide +kernel
theorem dX3_isOrder_62 : decode cX3_isOrder 62 = .ok (.ishl, 1) := by decide +kernel
theorem dX3_isOrder_63 : decode cX3_isOrder 63 = .ok (.iconst 1, 1) := by decide +kernel
theorem dX3_isOrder_64 : decode cX3_isOrder 64 = .ok (.isub, 1) := by decide +kernel
theorem dX3_isOrder_65 : decode cX3_isOrder 65 = .ok (.if_icmp .ne 7, 3) := by decide +kernel
theorem dX3_isOrder_68 : decode cX3_isOrder 68 = .ok (.iconst 1, 1) := by decide +kernel
theorem dX3_isOrder_69 : decode cX3_isOrder 69 = .ok (.goto 4, 3) := by decide +kernel
theorem dX3_isOrder_72 : decode cX3_isOrder 72 = .ok (.iconst 0, 1) := by decide +kernel
theorem dX3_isOrder_73 : decode cX3_isOrder 73 = .ok (.ireturn, 1) := by decide +kernel
theorem dX3_levelInOrder_0 : decode cX3_levelInOrder 0 = .ok (.aload_n 0, 1) := by decide +kernel
theorem dX3_levelInOrder_1 : decode cX3_levelInOrder 1 = .ok (.getfield 12, 3) := by decide +kernel
theorem dX3_levelInOrder_4 : decode cX3_levelInOrder 4 = .ok (.getfield 57, 3) := by decide +kernel
theorem dX3_levelInOrder_7 : decode cX3_levelInOrder 7 = .ok (.iconst 1, 1) := by decide +kernel
theorem dX3_levelInOrder_8 : decode cX3_levelInOrder 8 = .ok (.isub, 1) := by decide +kernel
theorem dX3_levelInOrder_9 : decode cX3_levelInOrder 9 = .ok (.iload_n 2, 1) := by decide +kernel
theorem dX3_levelInOrder_10 : decode cX3_levelInOrder 10 = .ok (.isub, 1) := by decide +kernel
theorem dX3_levelInOrder_11 : decode cX3_levelInOrder 11 = .ok (.istore_n 3, 1) := by decide +kernel
theorem dX3_levelInOrder_12 : decode cX3_levelInOrder 12 = .ok (.iload_n 3, 1) := by decide +kernel
theorem dX3_levelInOrder_13 : decode cX3_levelInOrder 13 = .ok (.ifCond .lt 11, 3) := by decide +kernel
theorem dX3_levelInOrder_16 : decode cX3_levelInOrder 16 = .ok (.iload_n 3, 1) := by decide +kernel
theorem dX3_levelInOrder_17 : decode cX3_levelInOrder 17 = .ok (.getstatic 54, 3) := by decide +kernel
theorem dX3_levelInOrder_20 : decode cX3_levelInOrder 20 = .ok (.arraylength, 1) := by decide +kernel
theorem dX3_levelInOrder_21 : decode cX3_levelInOrder 21 = .ok (.if_icmp .lt 7, 3) := by decide +kernel
theorem dX3_levelInOrder_24 : decode cX3_levelInOrder 24 = .ok (.iconst 0, 1) := by decide +kernel
theorem dX3_levelInOrder_25 : decode cX3_levelInOrder 25 = .ok (.goto 13, 3) := by decide +kernel
theorem dX3_levelInOrder_28 : decode cX3_levelInOrder 28 = .ok (.iload_n 1, 1) := by decide +kernel
theorem dX3_levelInOrder_29 : decode cX3_levelInOrder 29 = .ok (.getstatic 54, 3) := by decide +kernel
theorem dX3_levelInOrder_32 : decode cX3_levelInOrder 32 = .ok (.iload_n 3, 1) := by decide +kernel
theorem dX3_levelInOrder_33 : decode cX3_levelInOrder 33 = .ok (.iaload, 1) := by decide +kernel
theorem dX3_levelInOrder_34 : decode cX3_levelInOrder 34 = .ok (.idiv, 1) := by decide +kernel
theorem dX3_levelInOrder_35 : decode cX3_levelInOrder 35 = .ok (.bipush 10, 2) := by decide +kernel
theorem dX3_levelInOrder_37 : decode cX3_levelInOrder 37 = .ok (.irem, 1) := by decide +kernel
theorem dX3_levelInOrder_38 : decode cX3_levelInOrder 38 = .ok (.ireturn, 1) := by decide +kernel
theorem dX3_orderAt_0 : decode cX3_orderAt 0 = .ok (.aload_n 0, 1) := by decide +kernel
theorem dX3_orderAt_1 : decode cX3_orderAt 1 = .ok (.getfield 21, 3) := by decide +kernel
theorem dX3_orderAt_4 : decode cX3_orderAt 4 = .ok (.iload_n 1, 1) := by decide +kernel
theorem dX3_orderAt_5 : decode cX3_orderAt 5 = .ok (.invokevirtual 65, 3) := by decide +kernel
theorem dX3_orderAt_8 : decode cX3_orderAt 8 = .ok (.istore_n 2, 1) := by decide +kernel
theorem dX3_orderAt_9 : decode cX3_orderAt 9 = .ok (.iload_n 2, 1) := by decide +kernel
theorem dX3_orderAt_10 : decode cX3_orderAt 10 = .ok (.ifCond .lt 13, 3) := by decide +kernel
theorem dX3_orderAt_13 : decode cX3_orderAt 13 = .ok (.aload_n 0, 1) := by decide +kernel
theorem dX3_orderAt_14 : decode cX3_orderAt 14 = .ok (.getfield 21, 3) := by decide +kernel
theorem dX3_orderAt_17 : decode cX3_orderAt 17 = .ok (.getfield 69, 3) := by decide +kernel
theorem dX3_orderAt_20 : decode cX3_orderAt 20 = .ok (.iload_n 2, 1) := by decide +kernel
theorem dX3_orderAt_21 : decode cX3_orderAt 21 = .ok (.iaload, 1) := by decide +kernel
theorem dX3_orderAt_22 : decode cX3_orderAt 22 = .ok (.ireturn, 1) := by decide +kernel
theorem dX3_orderAt_23 : decode cX3_orderAt 23 = .ok (.iconst 0, 1) := by decide +kernel
theorem dX3_orderAt_24 : decode cX3_orderAt 24 = .ok (.istore_n 3, 1) := by decide +kernel
theorem dX3_orderAt_25 : decode cX3_orderAt 25 = .ok (.iconst 0, 1) := by decide +kernel
theorem dX3_orderAt_26 : decode cX3_orderAt 26 = .ok (.istore 4, 2) := by decide +kernel
theorem dX3_orderAt_28 : decode cX3_orderAt 28 = .ok (.iload 4, 2) := by decide +kernel
theorem dX3_orderAt_30 : decode cX3_orderAt 30 = .ok (.aload_n 0, 1) := by decide +kernel
theorem dX3_orderAt_31 : decode cX3_orderAt 31 = .ok (.getfield 12, 3) := by decide +kernel
theorem dX3_orderAt_34 : decode cX3_orderAt 34 = .ok (.getfield 57, 3) := by decide +kernel
theorem dX3_orderAt_37 : decode cX3_orderAt 37 = .ok (.if_icmp .ge 17, 3) := by decide +kernel
theorem dX3_orderAt_40 : decode cX3_orderAt 40 = .ok (.iload_n 3, 1) := by decide +kernel
theorem dX3_orderAt_41 : decode cX3_orderAt 41 = .ok (.bipush 10, 2) := by decide +kernel
theorem dX3_orderAt_43 : decode cX3_orderAt 43 = .ok (.imul, 1) := by decide +kernel
theorem dX3_orderAt_44 : decode cX3_orderAt 44 = .ok (.iload 4, 2) := by decide +kernel
theorem dX3_orderAt_46 : decode cX3_orderAt 46 = .ok (.iadd, 1) := by decide +kernel
theorem dX3_orderAt_47 : decode cX3_orderAt 47 = .ok (.istore_n 3, 1) := by decide +kernel
theorem dX3_orderAt_48 : decode cX3_orderAt 48 = .ok (.iinc 4 1, 3) := by decide +kernel
theorem dX3_orderAt_51 : decode cX3_orderAt 51 = .ok (.goto (-23), 3) := by decide +kernel
theorem dX3_orderAt_54 : decode cX3_orderAt 54 = .ok (.iload_n 3, 1) := by decide +kernel
theorem dX3_orderAt_55 : decode cX3_orderAt 55 = .ok (.ireturn, 1) := by decide +kernel
theorem dX3_covers_0 : decode cX3_covers 0 = .ok (.iload_n 2, 1) := by decide +kernel
theorem dX3_covers_1 : decode cX3_covers 1 = .ok (.ifCond .lt 14, 3) := by decide +kernel
theorem dX3_covers_4 : decode cX3_covers 4 = .ok (.iload_n 2, 1) := by decide +kernel
theorem dX3_covers_5 : decode cX3_covers 5 = .ok (.aload_n 0, 1) := by decide +kernel
theorem dX3_covers_6 : decode cX3_covers 6 = .ok (.getfield 12, 3) := by decide +kernel
theorem dX3_covers_9 : decode cX3_covers 9 = .ok (.getfield 72, 3) := by decide +kernel
theorem dX3_covers_12 : decode cX3_covers 12 = .ok (.if_icmp .lt 5, 3) := by decide +kernel
theorem dX3_covers_15 : decode cX3_covers 15 = .ok (.iconst 0, 1) := by decide +kernel
theorem dX3_covers_16 : decode cX3_covers 16 = .ok (.ireturn, 1) := by decide +kernel
theorem dX3_covers_17 : decode cX3_covers 17 = .ok (.aload_n 0, 1) := by decide +kernel
theorem dX3_covers_18 : decode cX3_covers 18 = .ok (.getfield 21, 3) := by decide +kernel
theorem dX3_covers_21 : decode cX3_covers 21 = .ok (.getfield 75, 3) := by decide +kernel
theorem dX3_covers_24 : decode cX3_covers 24 = .ok (.iload_n 2, 1) := by decide +kernel
theorem dX3_covers_25 : decode cX3_covers 25 = .ok (.iaload, 1) := by decide +kernel
theorem dX3_covers_26 : decode cX3_covers 26 = .ok (.aload_n 0, 1) := by decide +kernel
theorem dX3_covers_27 : decode cX3_covers 27 = .ok (.getfield 21, 3) := by decide +kernel
theorem dX3_covers_30 : decode cX3_covers 30 = .ok (.iload_n 1, 1) := by decide +kernel
theorem dX3_covers_31 : decode cX3_covers 31 = .ok (.iload_n 3, 1) := by decide +kernel
theorem dX3_covers_32 : decode cX3_covers 32 = .ok (.invokevirtual 78, 3) := by decide +kernel
theorem dX3_covers_35 : decode cX3_covers 35 = .ok (.iadd, 1) := by decide +kernel
theorem dX3_covers_36 : decode cX3_covers 36 = .ok (.istore 5, 2) := by decide +kernel
theorem dX3_covers_38 : decode cX3_covers 38 = .ok (.iload 4, 2) := by decide +kernel
theorem dX3_covers_40 : decode cX3_covers 40 = .ok (.aload_n 0, 1) := by decide +kernel
theorem dX3_covers_41 : decode cX3_covers 41 = .ok (.getfield 21, 3) := by decide +kernel
theorem dX3_covers_44 : decode cX3_covers 44 = .ok (.iconst 4, 1) := by decide +kernel
theorem dX3_covers_45 : decode cX3_covers 45 = .ok (.iload_n 3, 1) := by decide +kernel
theorem dX3_covers_46 : decode cX3_covers 46 = .ok (.invokevirtual 78, 3) := by decide +kernel
theorem dX3_covers_49 : decode cX3_covers 49 = .ok (.iadd, 1) := by decide +kernel
theorem dX3_covers_50 : decode cX3_covers 50 = .ok (.istore 6, 2) := by decide +kernel
theorem dX3_covers_52 : decode cX3_covers 52 = .ok (.iload 6, 2) := by decide +kernel
theorem dX3_covers_54 : decode cX3_covers 54 = .ok (.iload 5, 2) := by decide +kernel
theorem dX3_covers_56 : decode cX3_covers 56 = .ok (.if_icmp .lt 24, 3) := by decide +kernel
theorem dX3_covers_59 : decode cX3_covers 59 = .ok (.iload 6, 2) := by decide +kernel
theorem dX3_covers_61 : decode cX3_covers 61 = .ok (.iload 5, 2) := by decide +kernel
theorem dX3_covers_63 : decode cX3_covers 63 = .ok (.aload_n 0, 1) := by decide +kernel
theorem dX3_covers_64 : decode cX3_covers 64 = .ok (.getfield 21, 3) := by decide +kernel
theorem dX3_covers_67 : decode cX3_covers 67 = .ok (.getfield 81, 3) := by decide +kernel
theorem dX3_covers_70 : decode cX3_covers 70 = .ok (.iload_n 2, 1) := by decide +kernel
theorem dX3_covers_71 : decode cX3_covers 71 = .ok (.iaload, 1) := by decide +kernel
theorem dX3_covers_72 : decode cX3_covers 72 = .ok (.iadd, 1) := by decide +kernel
theorem dX3_covers_73 : decode cX3_covers 73 = .ok (.if_icmp .ge 7, 3) := by decide +kernel
theorem dX3_covers_76 : decode cX3_covers 76 = .ok (.iconst 1, 1) := by decide +kernel
theorem dX3_covers_77 : decode cX3_covers 77 = .ok (.goto 4, 3) := by decide +kernel
theorem dX3_covers_80 : decode cX3_covers 80 = .ok (.iconst 0, 1) := by decide +kernel
theorem dX3_covers_81 : decode cX3_covers 81 = .ok (.ireturn, 1) := by decide +kernel
theorem dX3_levelCovers_0 : decode cX3_levelCovers 0 = .ok (.aload_n 0, 1) := by decide +kernel
theorem dX3_levelCovers_1 : decode cX3_levelCovers 1 = .ok (.iload_n 1, 1) := by decide +kernel
theorem dX3_levelCovers_2 : decode cX3_levelCovers 2 = .ok (.aload_n 0, 1) := by decide +kernel
theorem dX3_levelCovers_3 : decode cX3_levelCovers 3 = .ok (.iload_n 1, 1) := by decide +kernel
theorem dX3_levelCovers_4 : decode cX3_levelCovers 4 = .ok (.iload_n 2, 1) := by decide +kernel
theorem dX3_levelCovers_5 : decode cX3_levelCovers 5 = .ok (.invokevirtual 84, 3) := by decide +kernel
theorem dX3_levelCovers_8 : decode cX3_levelCovers 8 = .ok (.iload_n 2, 1) := by decide +kernel
theorem dX3_levelCovers_9 : decode cX3_levelCovers 9 = .ok (.iload_n 3, 1) := by decide +kernel
theorem dX3_levelCovers_10 : decode cX3_levelCovers 10 = .ok (.invokevirtual 87, 3) := by decide +kernel
theorem dX3_levelCovers_13 : decode cX3_levelCovers 13 = .ok (.ireturn, 1) := by decide +kernel
theorem dX3_seenAt_0 : decode cX3_seenAt 0 = .ok (.aload_n 0, 1) := by decide +kernel
theorem dX3_seenAt_1 : decode cX3_seenAt 1 = .ok (.iload_n 1, 1) := by decide +kernel
theorem dX3_seenAt_2 : decode cX3_seenAt 2 = .ok (.invokevirtual 91, 3) := by decide +kernel
theorem dX3_seenAt_5 : decode cX3_seenAt 5 = .ok (.istore 4, 2) := by decide +kernel
theorem dX3_seenAt_7 : decode cX3_seenAt 7 = .ok (.iconst 0, 1) := by decide +kernel
theorem dX3_seenAt_8 : decode cX3_seenAt 8 = .ok (.istore 5, 2) := by decide +kernel
theorem dX3_seenAt_10 : decode cX3_seenAt 10 = .ok (.iload 5, 2) := by decide +kernel
theorem dX3_seenAt_12 : decode cX3_seenAt 12 = .ok (.aload_n 0, 1) := by decide +kernel
theorem dX3_seenAt_13 : decode cX3_seenAt 13 = .ok (.getfield 12, 3) := by decide +kernel
theorem dX3_seenAt_16 : decode cX3_seenAt 16 = .ok (.getfield 57, 3) := by decide +kernel
theorem dX3_seenAt_19 : decode cX3_seenAt 19 = .ok (.if_icmp .ge 73, 3) := by decide +kernel
theorem dX3_seenAt_22 : decode cX3_seenAt 22 = .ok (.aload_n 0, 1) := by decide +kernel
theorem dX3_seenAt_23 : decode cX3_seenAt 23 = .ok (.iload 4, 2) := by decide +kernel
theorem dX3_seenAt_25 : decode cX3_seenAt 25 = .ok (.iload 5, 2) := by decide +kernel
theorem dX3_seenAt_27 : decode cX3_seenAt 27 = .ok (.invokevirtual 61, 3) := by decide +kernel
theorem dX3_seenAt_30 : decode cX3_seenAt 30 = .ok (.istore 6, 2) := by decide +kernel
theorem dX3_seenAt_32 : decode cX3_seenAt 32 = .ok (.iload 6, 2) := by decide +kernel
theorem dX3_seenAt_34 : decode cX3_seenAt 34 = .ok (.aload_n 0, 1) := by decide +kernel
theorem dX3_seenAt_35 : decode cX3_seenAt 35 = .ok (.getfield 12, 3) := by decide +kernel
theorem dX3_seenAt_38 : decode cX3_seenAt 38 = .ok (.getfield 57, 3) := by decide +kernel
theorem dX3_seenAt_41 : decode cX3_seenAt 41 = .ok (.if_icmp .ge 13, 3) := by decide +kernel
theorem dX3_seenAt_44 : decode cX3_seenAt 44 = .ok (.aload_n 0, 1) := by decide +kernel
theorem dX3_seenAt_45 : decode cX3_seenAt 45 = .ok (.iload 6, 2) := by decide +kernel
theorem dX3_seenAt_47 : decode cX3_seenAt 47 = .ok (.iload_n 1, 1) := by decide +kernel
theorem dX3_seenAt_48 : decode cX3_seenAt 48 = .ok (.invokevirtual 84, 3) := by decide +kernel
theorem dX3_seenAt_51 : decode cX3_seenAt 51 = .ok (.goto 5, 3) := by decide +kernel
theorem dX3_seenAt_54 : decode cX3_seenAt 54 = .ok (.bipush (-9), 2) := by decide +kernel
theorem dX3_seenAt_56 : decode cX3_seenAt 56 = .ok (.istore 7, 2) := by decide +kernel
theorem dX3_seenAt_58 : decode cX3_seenAt 58 = .ok (.iload 7, 2) := by decide +kernel
theorem dX3_seenAt_60 : decode cX3_seenAt 60 = .ok (.iload_n 3, 1) := by decide +kernel
theorem dX3_seenAt_61 : decode cX3_seenAt 61 = .ok (.if_icmp .eq 25, 3) := by decide +kernel
theorem dX3_seenAt_64 : decode cX3_seenAt 64 = .ok (.aload_n 0, 1) := by decide +kernel
theorem dX3_seenAt_65 : decode cX3_seenAt 65 = .ok (.iload 6, 2) := by decide +kernel
theorem dX3_seenAt_67 : decode cX3_seenAt 67 = .ok (.iload 7, 2) := by decide +kernel
theorem dX3_seenAt_69 : decode cX3_seenAt 69 = .ok (.iload_n 1, 1) := by decide +kernel
theorem dX3_seenAt_70 : decode cX3_seenAt 70 = .ok (.iload_n 2, 1) := by decide +kernel
theorem dX3_seenAt_71 : decode cX3_seenAt 71 = .ok (.invokevirtual 87, 3) := by decide +kernel
theorem dX3_seenAt_74 : decode cX3_seenAt 74 = .ok (.ifCond .eq 12, 3) := by decide +kernel
theorem dX3_seenAt_77 : decode cX3_seenAt 77 = .ok (.bipush 10, 2) := by decide +kernel
theorem dX3_seenAt_79 : decode cX3_seenAt 79 = .ok (.iload 6, 2) := by decide +kernel
theorem dX3_seenAt_81 : decode cX3_seenAt 81 = .ok (.imul, 1) := by decide +kernel
theorem dX3_seenAt_82 : decode cX3_seenAt 82 = .ok (.iload 7, 2) := by decide +kernel
theorem dX3_seenAt_84 : decode cX3_seenAt 84 = .ok (.iadd, 1) := by decide +kernel
theorem dX3_seenAt_85 : decode cX3_seenAt 85 = .ok (.ireturn, 1) := by decide +kernel
theorem dX3_seenAt_86 : decode cX3_seenAt 86 = .ok (.iinc 5 1, 3) := by decide +kernel
theorem dX3_seenAt_89 : decode cX3_seenAt 89 = .ok (.goto (-79), 3) := by decide +kernel
theorem dX3_seenAt_92 : decode cX3_seenAt 92 = .ok (.bipush (-9), 2) := by decide +kernel
theorem dX3_seenAt_94 : decode cX3_seenAt 94 = .ok (.ireturn, 1) := by decide +kernel
theorem dX3_levelsCovering_0 : decode cX3_levelsCovering 0 = .ok (.iconst 0, 1) := by decide +kernel
theorem dX3_levelsCovering_1 : decode cX3_levelsCovering 1 = .ok (.istore_n 3, 1) := by decide +kernel
theorem dX3_levelsCovering_2 : decode cX3_levelsCovering 2 = .ok (.iconst 0, 1) := by decide +kernel
theorem dX3_levelsCovering_3 : decode cX3_levelsCovering 3 = .ok (.istore 4, 2) := by decide +kernel
theorem dX3_levelsCovering_5 : decode cX3_levelsCovering 5 = .ok (.iload 4, 2) := by decide +kernel
theorem dX3_levelsCovering_7 : decode cX3_levelsCovering 7 = .ok (.aload_n 0, 1) := by decide +kernel
theorem dX3_levelsCovering_8 : decode cX3_levelsCovering 8 = .ok (.getfield 12, 3) := by decide +kernel
theorem dX3_levelsCovering_11 : decode cX3_levelsCovering 11 = .ok (.getfield 57, 3) := by decide +kernel
theorem dX3_levelsCovering_14 : decode cX3_levelsCovering 14 = .ok (.if_icmp .ge 23, 3) := by decide +kernel
theorem dX3_levelsCovering_17 : decode cX3_levelsCovering 17 = .ok (.aload_n 0, 1) := by decide +kernel
theorem dX3_levelsCovering_18 : decode cX3_levelsCovering 18 = .ok (.iload 4, 2) := by decide +kernel
theorem dX3_levelsCovering_20 : decode cX3_levelsCovering 20 = .ok (.iload_n 1, 1) := by decide +kernel
theorem dX3_levelsCovering_21 : decode cX3_levelsCovering 21 = .ok (.iload_n 2, 1) := by decide +kernel
theorem dX3_levelsCovering_22 : decode cX3_levelsCovering 22 = .ok (.invokevirtual 94, 3) := by decide +kernel
theorem dX3_levelsCovering_25 : decode cX3_levelsCovering 25 = .ok (.ifCond .eq 6, 3) := by decide +kernel
theorem dX3_levelsCovering_28 : decode cX3_levelsCovering 28 = .ok (.iinc 3 1, 3) := by decide +kernel
theorem dX3_levelsCovering_31 : decode cX3_levelsCovering 31 = .ok (.iinc 4 1, 3) := by decide +kernel
theorem dX3_levelsCovering_34 : decode cX3_levelsCovering 34 = .ok (.goto (-29), 3) := by decide +kernel
theorem dX3_levelsCovering_37 : decode cX3_levelsCovering 37 = .ok (.iload_n 3, 1) := by decide +kernel
theorem dX3_levelsCovering_38 : decode cX3_levelsCovering 38 = .ok (.ireturn, 1) := by decide +kernel
theorem dX3_changes_0 : decode cX3_changes 0 = .ok (.iconst 0, 1) := by decide +kernel
theorem dX3_changes_1 : decode cX3_changes 1 = .ok (.istore_n 1, 1) := by decide +kernel
theorem dX3_changes_2 : decode cX3_changes 2 = .ok (.aload_n 0, 1) := by decide +kernel
theorem dX3_changes_3 : decode cX3_changes 3 = .ok (.iconst 0, 1) := by decide +kernel
theorem dX3_changes_4 : decode cX3_changes 4 = .ok (.invokevirtual 98, 3) := by decide +kernel
theorem dX3_changes_7 : decode cX3_changes 7 = .ok (.pop, 1) := by decide +kernel
theorem dX3_changes_8 : decode cX3_changes 8 = .ok (.iconst 1, 1) := by decide +kernel
theorem dX3_changes_9 : decode cX3_changes 9 = .ok (.istore_n 2, 1) := by decide +kernel
theorem dX3_changes_10 : decode cX3_changes 10 = .ok (.iload_n 2, 1) := by decide +kernel
theorem dX3_changes_11 : decode cX3_changes 11 = .ok (.bipush 48, 2) := by decide +kernel
theorem dX3_changes_13 : decode cX3_changes 13 = .ok (.if_icmp .ge 20, 3) := by decide +kernel
theorem dX3_changes_16 : decode cX3_changes 16 = .ok (.aload_n 0, 1) := by decide +kernel
theorem dX3_changes_17 : decode cX3_changes 17 = .ok (.iload_n 2, 1) := by decide +kernel
theorem dX3_changes_18 : decode cX3_changes 18 = .ok (.invokevirtual 98, 3) := by decide +kernel
theorem dX3_changes_21 : decode cX3_changes 21 = .ok (.ifCond .eq 6, 3) := by decide +kernel
theorem dX3_changes_24 : decode cX3_changes 24 = .ok (.iinc 1 1, 3) := by decide +kernel
theorem dX3_changes_27 : decode cX3_changes 27 = .ok (.iinc 2 1, 3) := by decide +kernel
theorem dX3_changes_30 : decode cX3_changes 30 = .ok (.goto (-20), 3) := by decide +kernel
theorem dX3_changes_33 : decode cX3_changes 33 = .ok (.iload_n 1, 1) := by decide +kernel
theorem dX3_changes_34 : decode cX3_changes 34 = .ok (.ireturn, 1) := by decide +kernel
theorem dX3_viewBecomes_0 : decode cX3_viewBecomes 0 = .ok (.iconst 0, 1) := by decide +kernel
theorem dX3_viewBecomes_1 : decode cX3_viewBecomes 1 = .ok (.istore_n 2, 1) := by decide +kernel
theorem dX3_viewBecomes_2 : decode cX3_viewBecomes 2 = .ok (.iconst 0, 1) := by decide +kernel
theorem dX3_viewBecomes_3 : decode cX3_viewBecomes 3 = .ok (.istore_n 3, 1) := by decide +kernel
theorem dX3_viewBecomes_4 : decode cX3_viewBecomes 4 = .ok (.iload_n 3, 1) := by decide +kernel
theorem dX3_viewBecomes_5 : decode cX3_viewBecomes 5 = .ok (.bipush 10, 2) := by decide +kernel
theorem dX3_viewBecomes_7 : decode cX3_viewBecomes 7 = .ok (.if_icmp .ge 47, 3) := by decide +kernel
theorem dX3_viewBecomes_10 : decode cX3_viewBecomes 10 = .ok (.aload_n 0, 1) := by decide +kernel
theorem dX3_viewBecomes_11 : decode cX3_viewBecomes 11 = .ok (.iload_n 1, 1) := by decide +kernel
theorem dX3_viewBecomes_12 : decode cX3_viewBecomes 12 = .ok (.iload_n 3, 1) := by decide +kernel
theorem dX3_viewBecomes_13 : decode cX3_viewBecomes 13 = .ok (.iconst (-1), 1) := by decide +kernel
theorem dX3_viewBecomes_14 : decode cX3_viewBecomes 14 = .ok (.invokevirtual 102, 3) := by decide +kernel
theorem dX3_viewBecomes_17 : decode cX3_viewBecomes 17 = .ok (.istore 4, 2) := by decide +kernel
theorem dX3_viewBecomes_19 : decode cX3_viewBecomes 19 = .ok (.iload_n 2, 1) := by decide +kernel
theorem dX3_viewBecomes_20 : decode cX3_viewBecomes 20 = .ok (.ifCond .ne 14, 3) := by decide +kernel
theorem dX3_viewBecomes_23 : decode cX3_viewBecomes 23 = .ok (.iload 4, 2) := by decide +kernel
theorem dX3_viewBecomes_25 : decode cX3_viewBecomes 25 = .ok (.aload_n 0, 1) := by decide +kernel
theorem dX3_viewBecomes_26 : decode cX3_viewBecomes 26 = .ok (.getfield 36, 3) := by decide +kernel
theorem dX3_viewBecomes_29 : decode cX3_viewBecomes 29 = .ok (.iload_n 3, 1) := by decide +kernel
theorem dX3_viewBecomes_30 : decode cX3_viewBecomes 30 = .ok (.iaload, 1) := by decide +kernel
theorem dX3_viewBecomes_31 : decode cX3_viewBecomes 31 = .ok (.if_icmp .eq 7, 3) := by decide +kernel
theorem dX3_viewBecomes_34 : decode cX3_viewBecomes 34 = .ok (.iconst 1, 1) := by decide +kernel
theorem dX3_viewBecomes_35 : decode cX3_viewBecomes 35 = .ok (.goto 4, 3) := by decide +kernel
theorem dX3_viewBecomes_38 : decode cX3_viewBecomes 38 = .ok (.iconst 0, 1) := by decide +kernel
theorem dX3_viewBecomes_39 : decode cX3_viewBecomes 39 = .ok (.istore_n 2, 1) := by decide +kernel
theorem dX3_viewBecomes_40 : decode cX3_viewBecomes 40 = .ok (.aload_n 0, 1) := by decide +kernel
theorem dX3_viewBecomes_41 : decode cX3_viewBecomes 41 = .ok (.getfield 36, 3) := by decide +kernel
theorem dX3_viewBecomes_44 : decode cX3_viewBecomes 44 = .ok (.iload_n 3, 1) := by decide +kernel
theorem dX3_viewBecomes_45 : decode cX3_viewBecomes 45 = .ok (.iload 4, 2) := by decide +kernel
theorem dX3_viewBecomes_47 : decode cX3_viewBecomes 47 = .ok (.iastore, 1) := by decide +kernel
theorem dX3_viewBecomes_48 : decode cX3_viewBecomes 48 = .ok (.iinc 3 1, 3) := by decide +kernel
theorem dX3_viewBecomes_51 : decode cX3_viewBecomes 51 = .ok (.goto (-47), 3) := by decide +kernel
theorem dX3_viewBecomes_54 : decode cX3_viewBecomes 54 = .ok (.iload_n 2, 1) := by decide +kernel
theorem dX3_viewBecomes_55 : decode cX3_viewBecomes 55 = .ok (.ireturn, 1) := by decide +kernel
theorem dX3_cels_0 : decode cX3_cels 0 = .ok (.aload_n 0, 1) := by decide +kernel
theorem dX3_cels_1 : decode cX3_cels 1 = .ok (.invokevirtual 106, 3) := by decide +kernel
theorem dX3_cels_4 : decode cX3_cels 4 = .ok (.iconst 0, 1) := by decide +kernel
theorem dX3_cels_5 : decode cX3_cels 5 = .ok (.istore_n 1, 1) := by decide +kernel
theorem dX3_cels_6 : decode cX3_cels 6 = .ok (.iconst 0, 1) := by decide +kernel
theorem dX3_cels_7 : decode cX3_cels 7 = .ok (.istore_n 2, 1) := by decide +kernel
theorem dX3_cels_8 : decode cX3_cels 8 = .ok (.iload_n 2, 1) := by decide +kernel
theorem dX3_cels_9 : decode cX3_cels 9 = .ok (.aload_n 0, 1) := by decide +kernel
theorem dX3_cels_10 : decode cX3_cels 10 = .ok (.getfield 12, 3) := by decide +kernel
theorem dX3_cels_13 : decode cX3_cels 13 = .ok (.getfield 72, 3) := by decide +kernel
theorem dX3_cels_16 : decode cX3_cels 16 = .ok (.if_icmp .ge 18, 3) := by decide +kernel
theorem dX3_cels_19 : decode cX3_cels 19 = .ok (.iload_n 1, 1) := by decide +kernel
theorem dX3_cels_20 : decode cX3_cels 20 = .ok (.aload_n 0, 1) := by decide +kernel
theorem dX3_cels_21 : decode cX3_cels 21 = .ok (.getfield 42, 3) := by decide +kernel
theorem dX3_cels_24 : decode cX3_cels 24 = .ok (.iload_n 2, 1) := by decide +kernel
theorem dX3_cels_25 : decode cX3_cels 25 = .ok (.iaload, 1) := by decide +kernel
theorem dX3_cels_26 : decode cX3_cels 26 = .ok (.iadd, 1) := by decide +kernel
theorem dX3_cels_27 : decode cX3_cels 27 = .ok (.istore_n 1, 1) := by decide +kernel
theorem dX3_cels_28 : decode cX3_cels 28 = .ok (.iinc 2 1, 3) := by decide +kernel
theorem dX3_cels_31 : decode cX3_cels 31 = .ok (.goto (-23), 3) := by decide +kernel
theorem dX3_cels_34 : decode cX3_cels 34 = .ok (.iload_n 1, 1) := by decide +kernel
theorem dX3_cels_35 : decode cX3_cels 35 = .ok (.ireturn, 1) := by decide +kernel
theorem dX3_mostLevelsOf_0 : decode cX3_mostLevelsOf 0 = .ok (.aload_n 0, 1) := by decide +kernel
theorem dX3_mostLevelsOf_1 : decode cX3_mostLevelsOf 1 = .ok (.invokevirtual 106, 3) := by decide +kernel
theorem dX3_mostLevelsOf_4 : decode cX3_mostLevelsOf 4 = .ok (.aload_n 0, 1) := by decide +kernel
theorem dX3_mostLevelsOf_5 : decode cX3_mostLevelsOf 5 = .ok (.getfield 42, 3) := by decide +kernel
theorem dX3_mostLevelsOf_8 : decode cX3_mostLevelsOf 8 = .ok (.iload_n 1, 1) := by decide +kernel
theorem dX3_mostLevelsOf_9 : decode cX3_mostLevelsOf 9 = .ok (.iaload, 1) := by decide +kernel
theorem dX3_mostLevelsOf_10 : decode cX3_mostLevelsOf 10 = .ok (.ireturn, 1) := by decide +kernel
theorem dX3_findMost_0 : decode cX3_findMost 0 = .ok (.aload_n 0, 1) := by decide +kernel
theorem dX3_findMost_1 : decode cX3_findMost 1 = .ok (.getfield 42, 3) := by decide +kernel
theorem dX3_findMost_4 : decode cX3_findMost 4 = .ok (.invokestatic 109, 3) := by decide +kernel
theorem dX3_findMost_7 : decode cX3_findMost 7 = .ok (.iconst 0, 1) := by decide +kernel
theorem dX3_findMost_8 : decode cX3_findMost 8 = .ok (.istore_n 1, 1) := by decide +kernel
theorem dX3_findMost_9 : decode cX3_findMost 9 = .ok (.iload_n 1, 1) := by decide +kernel
theorem dX3_findMost_10 : decode cX3_findMost 10 = .ok (.bipush 48, 2) := by decide +kernel
theorem dX3_findMost_12 : decode cX3_findMost 12 = .ok (.if_icmp .ge 45, 3) := by decide +kernel
theorem dX3_findMost_15 : decode cX3_findMost 15 = .ok (.aload_n 0, 1) := by decide +kernel
theorem dX3_findMost_16 : decode cX3_findMost 16 = .ok (.getfield 39, 3) := by decide +kernel
theorem dX3_findMost_19 : decode cX3_findMost 19 = .ok (.invokestatic 109, 3) := by decide +kernel
theorem dX3_findMost_22 : decode cX3_findMost 22 = .ok (.iconst 0, 1) := by decide +kernel
theorem dX3_findMost_23 : decode cX3_findMost 23 = .ok (.istore_n 2, 1) := by decide +kernel
theorem dX3_findMost_24 : decode cX3_findMost 24 = .ok (.iload_n 2, 1) := by decide +kernel
theorem dX3_findMost_25 : decode cX3_findMost 25 = .ok (.aload_n 0, 1) := by decide +kernel
theorem dX3_findMost_26 : decode cX3_findMost 26 = .ok (.getfield 12, 3) := by decide +kernel
theorem dX3_findMost_29 : decode cX3_findMost 29 = .ok (.getfield 57, 3) := by decide +kernel
theorem dX3_findMost_32 : decode cX3_findMost 32 = .ok (.if_icmp .ge 19, 3) := by decide +kernel
theorem dX3_findMost_35 : decode cX3_findMost 35 = .ok (.aload_n 0, 1) := by decide +kernel
theorem dX3_findMost_36 : decode cX3_findMost 36 = .ok (.aload_n 0, 1) := by decide +kernel
theorem dX3_findMost_37 : decode cX3_findMost 37 = .ok (.iload_n 2, 1) := by decide +kernel
theorem dX3_findMost_38 : decode cX3_findMost 38 = .ok (.iload_n 1, 1) := by decide +kernel
theorem dX3_findMost_39 : decode cX3_findMost 39 = .ok (.invokevirtual 84, 3) := by decide +kernel
theorem dX3_findMost_42 : decode cX3_findMost 42 = .ok (.invokevirtual 113, 3) := by decide +kernel
theorem dX3_findMost_45 : decode cX3_findMost 45 = .ok (.iinc 2 1, 3) := by decide +kernel
theorem dX3_findMost_48 : decode cX3_findMost 48 = .ok (.goto (-24), 3) := by decide +kernel
theorem dX3_findMost_51 : decode cX3_findMost 51 = .ok (.iinc 1 1, 3) := by decide +kernel
theorem dX3_findMost_54 : decode cX3_findMost 54 = .ok (.goto (-45), 3) := by decide +kernel
theorem dX3_findMost_57 : decode cX3_findMost 57 = .ok (.return_, 1) := by decide +kernel
theorem dX3_countDrawing_0 : decode cX3_countDrawing 0 = .ok (.iload_n 1, 1) := by decide +kernel
theorem dX3_countDrawing_1 : decode cX3_countDrawing 1 = .ok (.ifCond .lt 40, 3) := by decide +kernel
theorem dX3_countDrawing_4 : decode cX3_countDrawing 4 = .ok (.iload_n 1, 1) := by decide +kernel
theorem dX3_countDrawing_5 : decode cX3_countDrawing 5 = .ok (.bipush 6, 2) := by decide +kernel
theorem dX3_countDrawing_7 : decode cX3_countDrawing 7 = .ok (.if_icmp .ge 34, 3) := by decide +kernel
theorem dX3_countDrawing_10 : decode cX3_countDrawing 10 = .ok (.aload_n 0, 1) := by decide +kernel
theorem dX3_countDrawing_11 : decode cX3_countDrawing 11 = .ok (.getfield 39, 3) := by decide +kernel
theorem dX3_countDrawing_14 : decode cX3_countDrawing 14 = .ok (.iload_n 1, 1) := by decide +kernel
theorem dX3_countDrawing_15 : decode cX3_countDrawing 15 = .ok (.dup2, 1) := by decide +kernel
theorem dX3_countDrawing_16 : decode cX3_countDrawing 16 = .ok (.iaload, 1) := by decide +kernel
theorem dX3_countDrawing_17 : decode cX3_countDrawing 17 = .ok (.iconst 1, 1) := by decide +kernel
theorem dX3_countDrawing_18 : decode cX3_countDrawing 18 = .ok (.iadd, 1) := by decide +kernel
theorem dX3_countDrawing_19 : decode cX3_countDrawing 19 = .ok (.iastore, 1) := by decide +kernel
theorem dX3_countDrawing_20 : decode cX3_countDrawing 20 = .ok (.aload_n 0, 1) := by decide +kernel
theorem dX3_countDrawing_21 : decode cX3_countDrawing 21 = .ok (.getfield 42, 3) := by decide +kernel
theorem dX3_countDrawing_24 : decode cX3_countDrawing 24 = .ok (.iload_n 1, 1) := by decide +kernel
theorem dX3_countDrawing_25 : decode cX3_countDrawing 25 = .ok (.aload_n 0, 1) := by decide +kernel
theorem dX3_countDrawing_26 : decode cX3_countDrawing 26 = .ok (.getfield 42, 3) := by decide +kernel
theorem dX3_countDrawing_29 : decode cX3_countDrawing 29 = .ok (.iload_n 1, 1) := by decide +kernel
theorem dX3_countDrawing_30 : decode cX3_countDrawing 30 = .ok (.iaload, 1) := by decide +kernel
theorem dX3_countDrawing_31 : decode cX3_countDrawing 31 = .ok (.aload_n 0, 1) := by decide +kernel
theorem dX3_countDrawing_32 : decode cX3_countDrawing 32 = .ok (.getfield 39, 3) := by decide +kernel
theorem dX3_countDrawing_35 : decode cX3_countDrawing 35 = .ok (.iload_n 1, 1) := by decide +kernel
theorem dX3_countDrawing_36 : decode cX3_countDrawing 36 = .ok (.iaload, 1) := by decide +kernel
theorem dX3_countDrawing_37 : decode cX3_countDrawing 37 = .ok (.invokestatic 117, 3) := by decide +kernel
theorem dX3_countDrawing_40 : decode cX3_countDrawing 40 = .ok (.iastore, 1) := by decide +kernel
theorem dX3_countDrawing_41 : decode cX3_countDrawing 41 = .ok (.return_, 1) := by decide +kernel
theorem dX3_clearDrawings_0 : decode cX3_clearDrawings 0 = .ok (.iconst 0, 1) := by decide +kernel
theorem dX3_clearDrawings_1 : decode cX3_clearDrawings 1 = .ok (.istore_n 1, 1) := by decide +kernel
theorem dX3_clearDrawings_2 : decode cX3_clearDrawings 2 = .ok (.iload_n 1, 1) := by decide +kernel
theorem dX3_clearDrawings_3 : decode cX3_clearDrawings 3 = .ok (.aload_n 0, 1) := by decide +kernel
theorem dX3_clearDrawings_4 : decode cX3_clearDrawings 4 = .ok (.arraylength, 1) := by decide +kernel
theorem dX3_clearDrawings_5 : decode cX3_clearDrawings 5 = .ok (.if_icmp .ge 13, 3) := by decide +kernel
theorem dX3_clearDrawings_8 : decode cX3_clearDrawings 8 = .ok (.aload_n 0, 1) := by decide +kernel
theorem dX3_clearDrawings_9 : decode cX3_clearDrawings 9 = .ok (.iload_n 1, 1) := by decide +kernel
theorem dX3_clearDrawings_10 : decode cX3_clearDrawings 10 = .ok (.iconst 0, 1) := by decide +kernel
theorem dX3_clearDrawings_11 : decode cX3_clearDrawings 11 = .ok (.iastore, 1) := by decide +kernel
theorem dX3_clearDrawings_12 : decode cX3_clearDrawings 12 = .ok (.iinc 1 1, 3) := by decide +kernel
theorem dX3_clearDrawings_15 : decode cX3_clearDrawings 15 = .ok (.goto (-13), 3) := by decide +kernel
theorem dX3_clearDrawings_18 : decode cX3_clearDrawings 18 = .ok (.return_, 1) := by decide +kernel
theorem dX3_shortOf_0 : decode cX3_shortOf 0 = .ok (.aload_n 0, 1) := by decide +kernel
theorem dX3_shortOf_1 : decode cX3_shortOf 1 = .ok (.getfield 32, 3) := by decide +kernel
theorem dX3_shortOf_4 : decode cX3_shortOf 4 = .ok (.iload_n 1, 1) := by decide +kernel
theorem dX3_shortOf_5 : decode cX3_shortOf 5 = .ok (.iaload, 1) := by decide +kernel
theorem dX3_shortOf_6 : decode cX3_shortOf 6 = .ok (.ifCond .ne 21, 3) := by decide +kernel
theorem dX3_shortOf_9 : decode cX3_shortOf 9 = .ok (.aload_n 0, 1) := by decide +kernel
theorem dX3_shortOf_10 : decode cX3_shortOf 10 = .ok (.getfield 32, 3) := by decide +kernel
theorem dX3_shortOf_13 : decode cX3_shortOf 13 = .ok (.iload_n 1, 1) := by decide +kernel
theorem dX3_shortOf_14 : decode cX3_shortOf 14 = .ok (.aload_n 0, 1) := by decide +kernel
theorem dX3_shortOf_15 : decode cX3_shortOf 15 = .ok (.getfield 28, 3) := by decide +kernel
theorem dX3_shortOf_18 : decode cX3_shortOf 18 = .ok (.aload_n 0, 1) := by decide +kernel
theorem dX3_shortOf_19 : decode cX3_shortOf 19 = .ok (.getfield 12, 3) := by decide +kernel
theorem dX3_shortOf_22 : decode cX3_shortOf 22 = .ok (.iload_n 1, 1) := by decide +kernel
theorem dX3_shortOf_23 : decode cX3_shortOf 23 = .ok (.invokevirtual 122, 3) := by decide +kernel
theorem dX3_shortOf_26 : decode cX3_shortOf 26 = .ok (.iastore, 1) := by decide +kernel
theorem dX3_shortOf_27 : decode cX3_shortOf 27 = .ok (.aload_n 0, 1) := by decide +kernel
theorem dX3_shortOf_28 : decode cX3_shortOf 28 = .ok (.getfield 32, 3) := by decide +kernel
theorem dX3_shortOf_31 : decode cX3_shortOf 31 = .ok (.iload_n 1, 1) := by decide +kernel
theorem dX3_shortOf_32 : decode cX3_shortOf 32 = .ok (.iaload, 1) := by decide +kernel
theorem dX3_shortOf_33 : decode cX3_shortOf 33 = .ok (.ireturn, 1) := by decide +kernel
theorem dX3_bestOf_0 : decode cX3_bestOf 0 = .ok (.aload_n 0, 1) := by decide +kernel
theorem dX3_bestOf_1 : decode cX3_bestOf 1 = .ok (.getfield 21, 3) := by decide +kernel
theorem dX3_bestOf_4 : decode cX3_bestOf 4 = .ok (.getfield 45, 3) := by decide +kernel
theorem dX3_bestOf_7 : decode cX3_bestOf 7 = .ok (.iload_n 1, 1) := by decide +kernel
theorem dX3_bestOf_8 : decode cX3_bestOf 8 = .ok (.iaload, 1) := by decide +kernel
theorem dX3_bestOf_9 : decode cX3_bestOf 9 = .ok (.istore_n 2, 1) := by decide +kernel
theorem dX3_bestOf_10 : decode cX3_bestOf 10 = .ok (.iconst 0, 1) := by decide +kernel
theorem dX3_bestOf_11 : decode cX3_bestOf 11 = .ok (.istore_n 3, 1) := by decide +kernel
theorem dX3_bestOf_12 : decode cX3_bestOf 12 = .ok (.iconst 0, 1) := by decide +kernel
theorem dX3_bestOf_13 : decode cX3_bestOf 13 = .ok (.istore 4, 2) := by decide +kernel
theorem dX3_bestOf_15 : decode cX3_bestOf 15 = .ok (.iconst 0, 1) := by decide +kernel
theorem dX3_bestOf_16 : decode cX3_bestOf 16 = .ok (.istore 5, 2) := by decide +kernel
theorem dX3_bestOf_18 : decode cX3_bestOf 18 = .ok (.iload 5, 2) := by decide +kernel
theorem dX3_bestOf_20 : decode cX3_bestOf 20 = .ok (.bipush 9, 2) := by decide +kernel
theorem dX3_bestOf_22 : decode cX3_bestOf 22 = .ok (.if_icmp .gt 45, 3) := by decide +kernel
theorem dX3_bestOf_25 : decode cX3_bestOf 25 = .ok (.aload_n 0, 1) := by decide +kernel
theorem dX3_bestOf_26 : decode cX3_bestOf 26 = .ok (.getfield 21, 3) := by decide +kernel
theorem dX3_bestOf_29 : decode cX3_bestOf 29 = .ok (.getfield 45, 3) := by decide +kernel
theorem dX3_bestOf_32 : decode cX3_bestOf 32 = .ok (.iload_n 1, 1) := by decide +kernel
theorem dX3_bestOf_33 : decode cX3_bestOf 33 = .ok (.iload 5, 2) := by decide +kernel
theorem dX3_bestOf_35 : decode cX3_bestOf 35 = .ok (.iastore, 1) := by decide +kernel
theorem dX3_bestOf_36 : decode cX3_bestOf 36 = .ok (.aload_n 0, 1) := by decide +kernel
theorem dX3_bestOf_37 : decode cX3_bestOf 37 = .ok (.invokevirtual 126, 3) := by decide +kernel
theorem dX3_bestOf_40 : decode cX3_bestOf 40 = .ok (.istore 6, 2) := by decide +kernel
theorem dX3_bestOf_42 : decode cX3_bestOf 42 = .ok (.iload 5, 2) := by decide +kernel
theorem dX3_bestOf_44 : decode cX3_bestOf 44 = .ok (.ifCond .eq 10, 3) := by decide +kernel
theorem dX3_bestOf_47 : decode cX3_bestOf 47 = .ok (.iload 6, 2) := by decide +kernel
theorem dX3_bestOf_49 : decode cX3_bestOf 49 = .ok (.iload 4, 2) := by decide +kernel
theorem dX3_bestOf_51 : decode cX3_bestOf 51 = .ok (.if_icmp .ge 10, 3) := by decide +kernel
theorem dX3_bestOf_54 : decode cX3_bestOf 54 = .ok (.iload 6, 2) := by decide +kernel
theorem dX3_bestOf_56 : decode cX3_bestOf 56 = .ok (.istore 4, 2) := by decide +kernel
theorem dX3_bestOf_58 : decode cX3_bestOf 58 = .ok (.iload 5, 2) := by decide +kernel
theorem dX3_bestOf_60 : decode cX3_bestOf 60 = .ok (.istore_n 3, 1) := by decide +kernel
theorem dX3_bestOf_61 : decode cX3_bestOf 61 = .ok (.iinc 5 1, 3) := by decide +kernel
theorem dX3_bestOf_64 : decode cX3_bestOf 64 = .ok (.goto (-46), 3) := by decide +kernel
theorem dX3_bestOf_67 : decode cX3_bestOf 67 = .ok (.aload_n 0, 1) := by decide +kernel
theorem dX3_bestOf_68 : decode cX3_bestOf 68 = .ok (.getfield 21, 3) := by decide +kernel
theorem dX3_bestOf_71 : decode cX3_bestOf 71 = .ok (.getfield 45, 3) := by decide +kernel
theorem dX3_bestOf_74 : decode cX3_bestOf 74 = .ok (.iload_n 1, 1) := by decide +kernel
theorem dX3_bestOf_75 : decode cX3_bestOf 75 = .ok (.iload_n 2, 1) := by decide +kernel
theorem dX3_bestOf_76 : decode cX3_bestOf 76 = .ok (.iastore, 1) := by decide +kernel
theorem dX3_bestOf_77 : decode cX3_bestOf 77 = .ok (.iload_n 3, 1) := by decide +kernel
theorem dX3_bestOf_78 : decode cX3_bestOf 78 = .ok (.ireturn, 1) := by decide +kernel
theorem dX3_shareInTwelfths_0 : decode cX3_shareInTwelfths 0 = .ok (.iconst 0, 1) := by decide +kernel
theorem dX3_shareInTwelfths_1 : decode cX3_shareInTwelfths 1 = .ok (.istore_n 2, 1) := by decide +kernel
theorem dX3_shareInTwelfths_2 : decode cX3_shareInTwelfths 2 = .ok (.iconst 0, 1) := by decide +kernel
theorem dX3_shareInTwelfths_3 : decode cX3_shareInTwelfths 3 = .ok (.istore_n 3, 1) := by decide +kernel
theorem dX3_shareInTwelfths_4 : decode cX3_shareInTwelfths 4 = .ok (.iload_n 3, 1) := by decide +kernel
theorem dX3_shareInTwelfths_5 : decode cX3_shareInTwelfths 5 = .ok (.bipush 24, 2) := by decide +kernel
theorem dX3_shareInTwelfths_7 : decode cX3_shareInTwelfths 7 = .ok (.if_icmp .ge 67, 3) := by decide +kernel
theorem dX3_shareInTwelfths_10 : decode cX3_shareInTwelfths 10 = .ok (.iconst 0, 1) := by decide +kernel
theorem dX3_shareInTwelfths_11 : decode cX3_shareInTwelfths 11 = .ok (.istore 4, 2) := by decide +kernel
theorem dX3_shareInTwelfths_13 : decode cX3_shareInTwelfths 13 = .ok (.iload 4, 2) := by decide +kernel
theorem dX3_shareInTwelfths_15 : decode cX3_shareInTwelfths 15 = .ok (.bipush 10, 2) := by decide +kernel
theorem dX3_shareInTwelfths_17 : decode cX3_shareInTwelfths 17 = .ok (.if_icmp .ge 51, 3) := by decide +kernel
theorem dX3_shareInTwelfths_20 : decode cX3_shareInTwelfths 20 = .ok (.aload_n 0, 1) := by decide +kernel
theorem dX3_shareInTwelfths_21 : decode cX3_shareInTwelfths 21 = .ok (.iload_n 1, 1) := by decide +kernel
theorem dX3_shareInTwelfths_22 : decode cX3_shareInTwelfths 22 = .ok (.iload_n 3, 1) := by decide +kernel
theorem dX3_shareInTwelfths_23 : decode cX3_shareInTwelfths 23 = .ok (.iload 4, 2) := by decide +kernel
theorem dX3_shareInTwelfths_25 : decode cX3_shareInTwelfths 25 = .ok (.invokevirtual 94, 3) := by decide +kernel
theorem dX3_shareInTwelfths_28 : decode cX3_shareInTwelfths 28 = .ok (.ifCond .eq 13, 3) := by decide +kernel
theorem dX3_shareInTwelfths_31 : decode cX3_shareInTwelfths 31 = .ok (.aload_n 0, 1) := by decide +kernel
theorem dX3_shareInTwelfths_32 : decode cX3_shareInTwelfths 32 = .ok (.iload_n 3, 1) := by decide +kernel
theorem dX3_shareInTwelfths_33 : decode cX3_shareInTwelfths 33 = .ok (.iload 4, 2) := by decide +kernel
theorem dX3_shareInTwelfths_35 : decode cX3_shareInTwelfths 35 = .ok (.invokevirtual 130, 3) := by decide +kernel
theorem dX3_shareInTwelfths_38 : decode cX3_shareInTwelfths 38 = .ok (.goto 4, 3) := by decide +kernel
theorem dX3_shareInTwelfths_41 : decode cX3_shareInTwelfths 41 = .ok (.iconst 0, 1) := by decide +kernel
theorem dX3_shareInTwelfths_42 : decode cX3_shareInTwelfths 42 = .ok (.istore 5, 2) := by decide +kernel
theorem dX3_shareInTwelfths_44 : decode cX3_shareInTwelfths 44 = .ok (.iload_n 2, 1) := by decide +kernel
theorem dX3_shareInTwelfths_45 : decode cX3_shareInTwelfths 45 = .ok (.iload 5, 2) := by decide +kernel
theorem dX3_shareInTwelfths_47 : decode cX3_shareInTwelfths 47 = .ok (.iconst 1, 1) := by decide +kernel
theorem dX3_shareInTwelfths_48 : decode cX3_shareInTwelfths 48 = .ok (.if_icmp .ge 7, 3) := by decide +kernel
theorem dX3_shareInTwelfths_51 : decode cX3_shareInTwelfths 51 = .ok (.iconst 0, 1) := by decide +kernel
theorem dX3_shareInTwelfths_52 : decode cX3_shareInTwelfths 52 = .ok (.goto 8, 3) := by decide +kernel
theorem dX3_shareInTwelfths_55 : decode cX3_shareInTwelfths 55 = .ok (.bipush 12, 2) := by decide +kernel
theorem dX3_shareInTwelfths_57 : decode cX3_shareInTwelfths 57 = .ok (.iload 5, 2) := by decide +kernel
theorem dX3_shareInTwelfths_59 : decode cX3_shareInTwelfths 59 = .ok (.idiv, 1) := by decide +kernel
theorem dX3_shareInTwelfths_60 : decode cX3_shareInTwelfths 60 = .ok (.iadd, 1) := by decide +kernel
theorem dX3_shareInTwelfths_61 : decode cX3_shareInTwelfths 61 = .ok (.istore_n 2, 1) := by decide +kernel
theorem dX3_shareInTwelfths_62 : decode cX3_shareInTwelfths 62 = .ok (.iinc 4 1, 3) := by decide +kernel
theorem dX3_shareInTwelfths_65 : decode cX3_shareInTwelfths 65 = .ok (.goto (-52), 3) := by decide +kernel
theorem dX3_shareInTwelfths_68 : decode cX3_shareInTwelfths 68 = .ok (.iinc 3 1, 3) := by decide +kernel
theorem dX3_shareInTwelfths_71 : decode cX3_shareInTwelfths 71 = .ok (.goto (-67), 3) := by decide +kernel
theorem dX3_shareInTwelfths_74 : decode cX3_shareInTwelfths 74 = .ok (.iload_n 2, 1) := by decide +kernel
theorem dX3_shareInTwelfths_75 : decode cX3_shareInTwelfths 75 = .ok (.ireturn, 1) := by decide +kernel
theorem dX5_init_0 : decode cX5_init 0 = .ok (.aload_n 0, 1) := by decide +kernel
theorem dX5_init_1 : decode cX5_init 1 = .ok (.invokespecial 3, 3) := by decide +kernel
theorem dX5_init_4 : decode cX5_init 4 = .ok (.aload_n 0, 1) := by decide +kernel
theorem dX5_init_5 : decode cX5_init 5 = .ok (.bipush 48, 2) := by decide +kernel
theorem dX5_init_7 : decode cX5_init 7 = .ok (.newarray .int, 2) := by decide +kernel
theorem dX5_init_9 : decode cX5_init 9 = .ok (.putfield 9, 3) := by decide +kernel
theorem dX5_init_12 : decode cX5_init 12 = .ok (.aload_n 0, 1) := by decide +kernel
theorem dX5_init_13 : decode cX5_init 13 = .ok (.bipush 49, 2) := by decide +kernel
theorem dX5_init_15 : decode cX5_init 15 = .ok (.newarray .int, 2) := by decide +kernel
theorem dX5_init_17 : decode cX5_init 17 = .ok (.putfield 15, 3) := by decide +kernel
theorem dX5_init_20 : decode cX5_init 20 = .ok (.aload_n 0, 1) := by decide +kernel
theorem dX5_init_21 : decode cX5_init 21 = .ok (.bipush 49, 2) := by decide +kernel
theorem dX5_init_23 : decode cX5_init 23 = .ok (.newarray .int, 2) := by decide +kernel
theorem dX5_init_25 : decode cX5_init 25 = .ok (.putfield 18, 3) := by decide +kernel
theorem dX5_init_28 : decode cX5_init 28 = .ok (.aload_n 0, 1) := by decide +kernel
theorem dX5_init_29 : decode cX5_init 29 = .ok (.bipush 49, 2) := by decide +kernel
theorem dX5_init_31 : decode cX5_init 31 = .ok (.newarray .int, 2) := by decide +kernel
theorem dX5_init_33 : decode cX5_init 33 = .ok (.putfield 21, 3) := by decide +kernel
theorem dX5_init_36 : decode cX5_init 36 = .ok (.aload_n 0, 1) := by decide +kernel
theorem dX5_init_37 : decode cX5_init 37 = .ok (.sipush 2401, 3) := by decide +kernel
theorem dX5_init_40 : decode cX5_init 40 = .ok (.newarray .int, 2) := by decide +kernel
theorem dX5_init_42 : decode cX5_init 42 = .ok (.putfield 24, 3) := by decide +kernel
theorem dX5_init_45 : decode cX5_init 45 = .ok (.aload_n 0, 1) := by decide +kernel
theorem dX5_init_46 : decode cX5_init 46 = .ok (.bipush 49, 2) := by decide +kernel
theorem dX5_init_48 : decode cX5_init 48 = .ok (.newarray .int, 2) := by decide +kernel
theorem dX5_init_50 : decode cX5_init 50 = .ok (.putfield 27, 3) := by decide +kernel
theorem dX5_init_53 : decode cX5_init 53 = .ok (.return_, 1) := by decide +kernel
theorem dX5_lettersFor_0 : decode cX5_lettersFor 0 = .ok (.aload_n 0, 1) := by decide +kernel
theorem dX5_lettersFor_1 : decode cX5_lettersFor 1 = .ok (.bipush 48, 2) := by decide +kernel
theorem dX5_lettersFor_3 : decode cX5_lettersFor 3 = .ok (.aload_n 1, 1) := by decide +kernel
theorem dX5_lettersFor_4 : decode cX5_lettersFor 4 = .ok (.getfield 30, 3) := by decide +kernel
theorem dX5_lettersFor_7 : decode cX5_lettersFor 7 = .ok (.iload_n 2, 1) := by decide +kernel
theorem dX5_lettersFor_8 : decode cX5_lettersFor 8 = .ok (.iaload, 1) := by decide +kernel
theorem dX5_lettersFor_9 : decode cX5_lettersFor 9 = .ok (.invokestatic 35, 3) := by decide +kernel
theorem dX5_lettersFor_12 : decode cX5_lettersFor 12 = .ok (.putfield 41, 3) := by decide +kernel
theorem dX5_lettersFor_15 : decode cX5_lettersFor 15 = .ok (.aload_n 1, 1) := by decide +kernel
theorem dX5_lettersFor_16 : decode cX5_lettersFor 16 = .ok (.getfield 45, 3) := by decide +kernel
theorem dX5_lettersFor_19 : decode cX5_lettersFor 19 = .ok (.iload_n 2, 1) := by decide +kernel
theorem dX5_lettersFor_20 : decode cX5_lettersFor 20 = .ok (.bipush 48, 2) := by decide +kernel
theorem dX5_lettersFor_22 : decode cX5_lettersFor 22 = .ok (.imul, 1) := by decide +kernel
theorem dX5_lettersFor_23 : decode cX5_lettersFor 23 = .ok (.aload_n 0, 1) := by decide +kernel
theorem dX5_lettersFor_24 : decode cX5_lettersFor 24 = .ok (.getfield 9, 3) := by decide +kernel
theorem dX5_lettersFor_27 : decode cX5_lettersFor 27 = .ok (.iconst 0, 1) := by decide +kernel
theorem dX5_lettersFor_28 : decode cX5_lettersFor 28 = .ok (.aload_n 0, 1) := by decide +kernel
theorem dX5_lettersFor_29 : decode cX5_lettersFor 29 = .ok (.getfield 41, 3) := by decide +kernel
theorem dX5_lettersFor_32 : decode cX5_lettersFor 32 = .ok (.invokestatic 48, 3) := by decide +kernel
theorem dX5_lettersFor_35 : decode cX5_lettersFor 35 = .ok (.iconst 0, 1) := by decide +kernel
theorem dX5_lettersFor_36 : decode cX5_lettersFor 36 = .ok (.istore_n 3, 1) := by decide +kernel
theorem dX5_lettersFor_37 : decode cX5_lettersFor 37 = .ok (.iload_n 3, 1) := by decide +kernel
theorem dX5_lettersFor_38 : decode cX5_lettersFor 38 = .ok (.bipush 49, 2) := by decide +kernel
theorem dX5_lettersFor_40 : decode cX5_lettersFor 40 = .ok (.if_icmp .ge 16, 3) := by decide +kernel
theorem dX5_lettersFor_43 : decode cX5_lettersFor 43 = .ok (.aload_n 0, 1) := by decide +kernel
theorem dX5_lettersFor_44 : decode cX5_lettersFor 44 = .ok (.getfield 15, 3) := by decide +kernel
theorem dX5_lettersFor_47 : decode cX5_lettersFor 47 = .ok (.iload_n 3, 1) := by decide +kernel
theorem dX5_lettersFor_48 : decode cX5_lettersFor 48 = .ok (.iconst 0, 1) := by decide +kernel
theorem dX5_lettersFor_49 : decode cX5_lettersFor 49 = .ok (.iastore, 1) := by decide +kernel
theorem dX5_lettersFor_50 : decode cX5_lettersFor 50 = .ok (.iinc 3 1, 3) := by decide +kernel
theorem dX5_lettersFor_53 : decode cX5_lettersFor 53 = .ok (.goto (-16), 3) := by decide +kernel
theorem dX5_lettersFor_56 : decode cX5_lettersFor 56 = .ok (.aload_n 0, 1) := by decide +kernel
theorem dX5_lettersFor_57 : decode cX5_lettersFor 57 = .ok (.getfield 27, 3) := by decide +kernel
theorem dX5_lettersFor_60 : decode cX5_lettersFor 60 = .ok (.aload_n 0, 1) := by decide +kernel
theorem dX5_lettersFor_61 : decode cX5_lettersFor 61 = .ok (.getfield 41, 3) := by decide +kernel
theorem dX5_lettersFor_64 : decode cX5_lettersFor 64 = .ok (.iconst 0, 1) := by decide +kernel
theorem dX5_lettersFor_65 : decode cX5_lettersFor 65 = .ok (.iastore, 1) := by decide +kernel
theorem dX5_lettersFor_66 : decode cX5_lettersFor 66 = .ok (.aload_n 0, 1) := by decide +kernel
theorem dX5_lettersFor_67 : decode cX5_lettersFor 67 = .ok (.getfield 24, 3) := by decide +kernel
theorem dX5_lettersFor_70 : decode cX5_lettersFor 70 = .ok (.bipush 49, 2) := by decide +kernel
theorem dX5_lettersFor_72 : decode cX5_lettersFor 72 = .ok (.aload_n 0, 1) := by decide +kernel
theorem dX5_lettersFor_73 : decode cX5_lettersFor 73 = .ok (.getfield 41, 3) := by decide +kernel
theorem dX5_lettersFor_76 : decode cX5_lettersFor 76 = .ok (.imul, 1) := by decide +kernel
theorem dX5_lettersFor_77 : decode cX5_lettersFor 77 = .ok (.iconst 0, 1) := by decide +kernel
theorem dX5_lettersFor_78 : decode cX5_lettersFor 78 = .ok (.iastore, 1) := by decide +kernel
theorem dX5_lettersFor_79 : decode cX5_lettersFor 79 = .ok (.aload_n 0, 1) := by decide +kernel
theorem dX5_lettersFor_80 : decode cX5_lettersFor 80 = .ok (.getfield 41, 3) := by decide +kernel
theorem dX5_lettersFor_83 : decode cX5_lettersFor 83 = .ok (.iconst 1, 1) := by decide +kernel
theorem dX5_lettersFor_84 : decode cX5_lettersFor 84 = .ok (.isub, 1) := by decide +kernel
theorem dX5_lettersFor_85 : decode cX5_lettersFor 85 = .ok (.istore_n 3, 1) := by decide +kernel
theorem dX5_lettersFor_86 : decode cX5_lettersFor 86 = .ok (.iload_n 3, 1) := by decide +kernel
theorem dX5_lettersFor_87 : decode cX5_lettersFor 87 = .ok (.ifCond .lt 62, 3) := by decide +kernel
theorem dX5_lettersFor_90 : decode cX5_lettersFor 90 = .ok (.aload_n 0, 1) := by decide +kernel
theorem dX5_lettersFor_91 : decode cX5_lettersFor 91 = .ok (.iload_n 3, 1) := by decide +kernel
theorem dX5_lettersFor_92 : decode cX5_lettersFor 92 = .ok (.invokevirtual 54, 3) := by decide +kernel
theorem dX5_lettersFor_95 : decode cX5_lettersFor 95 = .ok (.aload_n 0, 1) := by decide +kernel
theorem dX5_lettersFor_96 : decode cX5_lettersFor 96 = .ok (.iload_n 3, 1) := by decide +kernel
theorem dX5_lettersFor_97 : decode cX5_lettersFor 97 = .ok (.invokevirtual 58, 3) := by decide +kernel
theorem dX5_lettersFor_100 : decode cX5_lettersFor 100 = .ok (.aload_n 0, 1) := by decide +kernel
theorem dX5_lettersFor_101 : decode cX5_lettersFor 101 = .ok (.aload_n 0, 1) := by decide +kernel
theorem dX5_lettersFor_102 : decode cX5_lettersFor 102 = .ok (.getfield 18, 3) := by decide +kernel
theorem dX5_lettersFor_105 : decode cX5_lettersFor 105 = .ok (.iconst 0, 1) := by decide +kernel
theorem dX5_lettersFor_106 : decode cX5_lettersFor 106 = .ok (.aload_n 0, 1) := by decide +kernel
theorem dX5_lettersFor_107 : decode cX5_lettersFor 107 = .ok (.getfield 41, 3) := by decide +kernel
theorem dX5_lettersFor_110 : decode cX5_lettersFor 110 = .ok (.iload_n 3, 1) := by decide +kernel
theorem dX5_lettersFor_111 : decode cX5_lettersFor 111 = .ok (.isub, 1) := by decide +kernel
theorem dX5_lettersFor_112 : decode cX5_lettersFor 112 = .ok (.invokevirtual 61, 3) := by decide +kernel
theorem dX5_lettersFor_115 : decode cX5_lettersFor 115 = .ok (.aload_n 0, 1) := by decide +kernel
theorem dX5_lettersFor_116 : decode cX5_lettersFor 116 = .ok (.iload_n 3, 1) := by decide +kernel
theorem dX5_lettersFor_117 : decode cX5_lettersFor 117 = .ok (.invokevirtual 65, 3) := by decide +kernel
theorem dX5_lettersFor_120 : decode cX5_lettersFor 120 = .ok (.aload_n 0, 1) := by decide +kernel
theorem dX5_lettersFor_121 : decode cX5_lettersFor 121 = .ok (.aload_n 0, 1) := by decide +kernel
theorem dX5_lettersFor_122 : decode cX5_lettersFor 122 = .ok (.getfield 24, 3) := by decide +kernel
theorem dX5_lettersFor_125 : decode cX5_lettersFor 125 = .ok (.bipush 49, 2) := by decide +kernel
theorem dX5_lettersFor_127 : decode cX5_lettersFor 127 = .ok (.iload_n 3, 1) := by decide +kernel
theorem dX5_lettersFor_128 : decode cX5_lettersFor 128 = .ok (.imul, 1) := by decide +kernel
theorem dX5_lettersFor_129 : decode cX5_lettersFor 129 = .ok (.aload_n 0, 1) := by decide +kernel
theorem dX5_lettersFor_130 : decode cX5_lettersFor 130 = .ok (.getfield 41, 3) := by decide +kernel
theorem dX5_lettersFor_133 : decode cX5_lettersFor 133 = .ok (.iload_n 3, 1) := by decide +kernel
theorem dX5_lettersFor_134 : decode cX5_lettersFor 134 = .ok (.isub, 1) := by decide +kernel
theorem dX5_lettersFor_135 : decode cX5_lettersFor 135 = .ok (.invokevirtual 61, 3) := by decide +kernel
theorem dX5_lettersFor_138 : decode cX5_lettersFor 138 = .ok (.aload_n 0, 1) := by decide +kernel
theorem dX5_lettersFor_139 : decode cX5_lettersFor 139 = .ok (.iload_n 3, 1) := by decide +kernel
theorem dX5_lettersFor_140 : decode cX5_lettersFor 140 = .ok (.invokevirtual 68, 3) := by decide +kernel
theorem dX5_lettersFor_143 : decode cX5_lettersFor 143 = .ok (.iinc 3 (-1), 3) := by decide +kernel
theorem dX5_lettersFor_146 : decode cX5_lettersFor 146 = .ok (.goto (-60), 3) := by decide +kernel
theorem dX5_lettersFor_149 : decode cX5_lettersFor 149 = .ok (.aload_n 0, 1) := by decide +kernel
theorem dX5_lettersFor_150 : decode cX5_lettersFor 150 = .ok (.getfield 27, 3) := by decide +kernel
theorem dX5_lettersFor_153 : decode cX5_lettersFor 153 = .ok (.iconst 0, 1) := by decide +kernel
theorem dX5_lettersFor_154 : decode cX5_lettersFor 154 = .ok (.iaload, 1) := by decide +kernel
theorem dX5_lettersFor_155 : decode cX5_lettersFor 155 = .ok (.ireturn, 1) := by decide +kernel
theorem dX5_findLike_0 : decode cX5_findLike 0 = .ok (.iconst 1, 1) := by decide +kernel
theorem dX5_findLike_1 : decode cX5_findLike 1 = .ok (.istore_n 2, 1) := by decide +kernel
theorem dX5_findLike_2 : decode cX5_findLike 2 = .ok (.iload_n 1, 1) := by decide +kernel
theorem dX5_findLike_3 : decode cX5_findLike 3 = .ok (.iload_n 2, 1) := by decide +kernel
theorem dX5_findLike_4 : decode cX5_findLike 4 = .ok (.iadd, 1) := by decide +kernel
theorem dX5_findLike_5 : decode cX5_findLike 5 = .ok (.aload_n 0, 1) := by decide +kernel
theorem dX5_findLike_6 : decode cX5_findLike 6 = .ok (.getfield 41, 3) := by decide +kernel
theorem dX5_findLike_9 : decode cX5_findLike 9 = .ok (.if_icmp .ge 44, 3) := by decide +kernel
theorem dX5_findLike_12 : decode cX5_findLike 12 = .ok (.aload_n 0, 1) := by decide +kernel
theorem dX5_findLike_13 : decode cX5_findLike 13 = .ok (.getfield 15, 3) := by decide +kernel
theorem dX5_findLike_16 : decode cX5_findLike 16 = .ok (.iload_n 2, 1) := by decide +kernel
theorem dX5_findLike_17 : decode cX5_findLike 17 = .ok (.aload_n 0, 1) := by decide +kernel
theorem dX5_findLike_18 : decode cX5_findLike 18 = .ok (.getfield 9, 3) := by decide +kernel
theorem dX5_findLike_21 : decode cX5_findLike 21 = .ok (.iload_n 1, 1) := by decide +kernel
theorem dX5_findLike_22 : decode cX5_findLike 22 = .ok (.iaload, 1) := by decide +kernel
theorem dX5_findLike_23 : decode cX5_findLike 23 = .ok (.aload_n 0, 1) := by decide +kernel
theorem dX5_findLike_24 : decode cX5_findLike 24 = .ok (.getfield 9, 3) := by decide +kernel
theorem dX5_findLike_27 : decode cX5_findLike 27 = .ok (.iload_n 1, 1) := by decide +kernel
theorem dX5_findLike_28 : decode cX5_findLike 28 = .ok (.iload_n 2, 1) := by decide +kernel
theorem dX5_findLike_29 : decode cX5_findLike 29 = .ok (.iadd, 1) := by decide +kernel
theorem dX5_findLike_30 : decode cX5_findLike 30 = .ok (.iaload, 1) := by decide +kernel
theorem dX5_findLike_31 : decode cX5_findLike 31 = .ok (.if_icmp .ne 14, 3) := by decide +kernel
theorem dX5_findLike_34 : decode cX5_findLike 34 = .ok (.aload_n 0, 1) := by decide +kernel
theorem dX5_findLike_35 : decode cX5_findLike 35 = .ok (.getfield 15, 3) := by decide +kernel
theorem dX5_findLike_38 : decode cX5_findLike 38 = .ok (.iload_n 2, 1) := by decide +kernel
theorem dX5_findLike_39 : decode cX5_findLike 39 = .ok (.iaload, 1) := by decide +kernel
theorem dX5_findLike_40 : decode cX5_findLike 40 = .ok (.iconst 1, 1) := by decide +kernel
theorem dX5_findLike_41 : decode cX5_findLike 41 = .ok (.iadd, 1) := by decide +kernel
theorem dX5_findLike_42 : decode cX5_findLike 42 = .ok (.goto 4, 3) := by decide +kernel
theorem dX5_findLike_45 : decode cX5_findLike 45 = .ok (.iconst 0, 1) := by decide +kernel
theorem dX5_findLike_46 : decode cX5_findLike 46 = .ok (.iastore, 1) := by decide +kernel
theorem dX5_findLike_47 : decode cX5_findLike 47 = .ok (.iinc 2 1, 3) := by decide +kernel
theorem dX5_findLike_50 : decode cX5_findLike 50 = .ok (.goto (-48), 3) := by decide +kernel
theorem dX5_findLike_53 : decode cX5_findLike 53 = .ok (.return_, 1) := by decide +kernel
theorem dX5_findPlain_0 : decode cX5_findPlain 0 = .ok (.aload_n 0, 1) := by decide +kernel
theorem dX5_findPlain_1 : decode cX5_findPlain 1 = .ok (.getfield 18, 3) := by decide +kernel
theorem dX5_findPlain_4 : decode cX5_findPlain 4 = .ok (.iconst 0, 1) := by decide +kernel
theorem dX5_findPlain_5 : decode cX5_findPlain 5 = .ok (.iconst 0, 1) := by decide +kernel
theorem dX5_findPlain_6 : decode cX5_findPlain 6 = .ok (.iastore, 1) := by decide +kernel
theorem dX5_findPlain_7 : decode cX5_findPlain 7 = .ok (.iconst 0, 1) := by decide +kernel
theorem dX5_findPlain_8 : decode cX5_findPlain 8 = .ok (.istore_n 2, 1) := by decide +kernel
theorem dX5_findPlain_9 : decode cX5_findPlain 9 = .ok (.iconst 1, 1) := by decide +kernel
theorem dX5_findPlain_10 : decode cX5_findPlain 10 = .ok (.istore_n 3, 1) := by decide +kernel
theorem dX5_findPlain_11 : decode cX5_findPlain 11 = .ok (.iload_n 1, 1) := by decide +kernel
theorem dX5_findPlain_12 : decode cX5_findPlain 12 = .ok (.iload_n 3, 1) := by decide +kernel
theorem dX5_findPlain_13 : decode cX5_findPlain 13 = .ok (.iadd, 1) := by decide +kernel
theorem dX5_findPlain_14 : decode cX5_findPlain 14 = .ok (.aload_n 0, 1) := by decide +kernel
theorem dX5_findPlain_15 : decode cX5_findPlain 15 = .ok (.getfield 41, 3) := by decide +kernel
theorem dX5_findPlain_18 : decode cX5_findPlain 18 = .ok (.if_icmp .gt 98, 3) := by decide +kernel
theorem dX5_findPlain_21 : decode cX5_findPlain 21 = .ok (.iload_n 1, 1) := by decide +kernel
theorem dX5_findPlain_22 : decode cX5_findPlain 22 = .ok (.iload_n 3, 1) := by decide +kernel
theorem dX5_findPlain_23 : decode cX5_findPlain 23 = .ok (.iadd, 1) := by decide +kernel
theorem dX5_findPlain_24 : decode cX5_findPlain 24 = .ok (.iconst 1, 1) := by decide +kernel
theorem dX5_findPlain_25 : decode cX5_findPlain 25 = .ok (.isub, 1) := by decide +kernel
theorem dX5_findPlain_26 : decode cX5_findPlain 26 = .ok (.istore 4, 2) := by decide +kernel
theorem dX5_findPlain_28 : decode cX5_findPlain 28 = .ok (.iload_n 3, 1) := by decide +kernel
theorem dX5_findPlain_29 : decode cX5_findPlain 29 = .ok (.iconst 1, 1) := by decide +kernel
theorem dX5_findPlain_30 : decode cX5_findPlain 30 = .ok (.if_icmp .le 32, 3) := by decide +kernel
theorem dX5_findPlain_33 : decode cX5_findPlain 33 = .ok (.iload_n 2, 1) := by decide +kernel
theorem dX5_findPlain_34 : decode cX5_findPlain 34 = .ok (.bipush 9, 2) := by decide +kernel
theorem dX5_findPlain_36 : decode cX5_findPlain 36 = .ok (.if_icmp .ge 26, 3) := by decide +kernel
theorem dX5_findPlain_39 : decode cX5_findPlain 39 = .ok (.aload_n 0, 1) := by decide +kernel
theorem dX5_findPlain_40 : decode cX5_findPlain 40 = .ok (.getfield 9, 3) := by decide +kernel
theorem dX5_findPlain_43 : decode cX5_findPlain 43 = .ok (.iload 4, 2) := by decide +kernel
theorem dX5_findPlain_45 : decode cX5_findPlain 45 = .ok (.iaload, 1) := by decide +kernel
theorem dX5_findPlain_46 : decode cX5_findPlain 46 = .ok (.aload_n 0, 1) := by decide +kernel
theorem dX5_findPlain_47 : decode cX5_findPlain 47 = .ok (.getfield 9, 3) := by decide +kernel
theorem dX5_findPlain_50 : decode cX5_findPlain 50 = .ok (.iload 4, 2) := by decide +kernel
theorem dX5_findPlain_52 : decode cX5_findPlain 52 = .ok (.iconst 1, 1) := by decide +kernel
theorem dX5_findPlain_53 : decode cX5_findPlain 53 = .ok (.isub, 1) := by decide +kernel
theorem dX5_findPlain_54 : decode cX5_findPlain 54 = .ok (.iaload, 1) := by decide +kernel
theorem dX5_findPlain_55 : decode cX5_findPlain 55 = .ok (.if_icmp .ne 7, 3) := by decide +kernel
theorem dX5_findPlain_58 : decode cX5_findPlain 58 = .ok (.iconst 1, 1) := by decide +kernel
theorem dX5_findPlain_59 : decode cX5_findPlain 59 = .ok (.goto 4, 3) := by decide +kernel
theorem dX5_findPlain_62 : decode cX5_findPlain 62 = .ok (.iconst 0, 1) := by decide +kernel
theorem dX5_findPlain_63 : decode cX5_findPlain 63 = .ok (.istore 5, 2) := by decide +kernel
theorem dX5_findPlain_65 : decode cX5_findPlain 65 = .ok (.iload 5, 2) := by decide +kernel
theorem dX5_findPlain_67 : decode cX5_findPlain 67 = .ok (.ifCond .eq 9, 3) := by decide +kernel
theorem dX5_findPlain_70 : decode cX5_findPlain 70 = .ok (.iload_n 2, 1) := by decide +kernel
theorem dX5_findPlain_71 : decode cX5_findPlain 71 = .ok (.iconst 1, 1) := by decide +kernel
theorem dX5_findPlain_72 : decode cX5_findPlain 72 = .ok (.iadd, 1) := by decide +kernel
theorem dX5_findPlain_73 : decode cX5_findPlain 73 = .ok (.goto 4, 3) := by decide +kernel
theorem dX5_findPlain_76 : decode cX5_findPlain 76 = .ok (.iconst 1, 1) := by decide +kernel
theorem dX5_findPlain_77 : decode cX5_findPlain 77 = .ok (.istore_n 2, 1) := by decide +kernel
theorem dX5_findPlain_78 : decode cX5_findPlain 78 = .ok (.aload_n 0, 1) := by decide +kernel
theorem dX5_findPlain_79 : decode cX5_findPlain 79 = .ok (.getfield 18, 3) := by decide +kernel
theorem dX5_findPlain_82 : decode cX5_findPlain 82 = .ok (.iload_n 3, 1) := by decide +kernel
theorem dX5_findPlain_83 : decode cX5_findPlain 83 = .ok (.iload 5, 2) := by decide +kernel
theorem dX5_findPlain_85 : decode cX5_findPlain 85 = .ok (.ifCond .eq 14, 3) := by decide +kernel
theorem dX5_findPlain_88 : decode cX5_findPlain 88 = .ok (.aload_n 0, 1) := by decide +kernel
theorem dX5_findPlain_89 : decode cX5_findPlain 89 = .ok (.getfield 18, 3) := by decide +kernel
theorem dX5_findPlain_92 : decode cX5_findPlain 92 = .ok (.iload_n 3, 1) := by decide +kernel
theorem dX5_findPlain_93 : decode cX5_findPlain 93 = .ok (.iconst 1, 1) := by decide +kernel
theorem dX5_findPlain_94 : decode cX5_findPlain 94 = .ok (.isub, 1) := by decide +kernel
theorem dX5_findPlain_95 : decode cX5_findPlain 95 = .ok (.iaload, 1) := by decide +kernel
theorem dX5_findPlain_96 : decode cX5_findPlain 96 = .ok (.goto 13, 3) := by decide +kernel
theorem dX5_findPlain_99 : decode cX5_findPlain 99 = .ok (.aload_n 0, 1) := by decide +kernel
theorem dX5_findPlain_100 : decode cX5_findPlain 100 = .ok (.getfield 18, 3) := by decide +kernel
theorem dX5_findPlain_103 : decode cX5_findPlain 103 = .ok (.iload_n 3, 1) := by decide +kernel
theorem dX5_findPlain_104 : decode cX5_findPlain 104 = .ok (.iconst 1, 1) := by decide +kernel
theorem dX5_findPlain_105 : decode cX5_findPlain 105 = .ok (.isub, 1) := by decide +kernel
theorem dX5_findPlain_106 : decode cX5_findPlain 106 = .ok (.iaload, 1) := by decide +kernel
theorem dX5_findPlain_107 : decode cX5_findPlain 107 = .ok (.iconst 2, 1) := by decide +kernel
theorem dX5_findPlain_108 : decode cX5_findPlain 108 = .ok (.iadd, 1) := by decide +kernel
theorem dX5_findPlain_109 : decode cX5_findPlain 109 = .ok (.iastore, 1) := by decide +kernel
theorem dX5_findPlain_110 : decode cX5_findPlain 110 = .ok (.iinc 3 1, 3) := by decide +kernel
theorem dX5_findPlain_113 : decode cX5_findPlain 113 = .ok (.goto (-102), 3) := by decide +kernel
theorem dX5_findPlain_116 : decode cX5_findPlain 116 = .ok (.return_, 1) := by decide +kernel
theorem dX5_findItems_0 : decode cX5_findItems 0 = .ok (.iconst 1, 1) := by decide +kernel
theorem dX5_findItems_1 : decode cX5_findItems 1 = .ok (.istore 4, 2) := by decide +kernel
theorem dX5_findItems_3 : decode cX5_findItems 3 = .ok (.iload 4, 2) := by decide +kernel
theorem dX5_findItems_5 : decode cX5_findItems 5 = .ok (.iload_n 3, 1) := by decide +kernel
theorem dX5_findItems_6 : decode cX5_findItems 6 = .ok (.if_icmp .gt 43, 3) := by decide +kernel
theorem dX5_findItems_9 : decode cX5_findItems 9 = .ok (.aload_n 0, 1) := by decide +kernel
theorem dX5_findItems_10 : decode cX5_findItems 10 = .ok (.getfield 21, 3) := by decide +kernel
theorem dX5_findItems_13 : decode cX5_findItems 13 = .ok (.iload 4, 2) := by decide +kernel
theorem dX5_findItems_15 : decode cX5_findItems 15 = .ok (.iload 4, 2) := by decide +kernel
theorem dX5_findItems_17 : decode cX5_findItems 17 = .ok (.bipush 9, 2) := by decide +kernel
theorem dX5_findItems_19 : decode cX5_findItems 19 = .ok (.if_icmp .gt 20, 3) := by decide +kernel
theorem dX5_findItems_22 : decode cX5_findItems 22 = .ok (.aload_n 0, 1) := by decide +kernel
theorem dX5_findItems_23 : decode cX5_findItems 23 = .ok (.getfield 15, 3) := by decide +kernel
theorem dX5_findItems_26 : decode cX5_findItems 26 = .ok (.iconst 1, 1) := by decide +kernel
theorem dX5_findItems_27 : decode cX5_findItems 27 = .ok (.iaload, 1) := by decide +kernel
theorem dX5_findItems_28 : decode cX5_findItems 28 = .ok (.iload 4, 2) := by decide +kernel
theorem dX5_findItems_30 : decode cX5_findItems 30 = .ok (.iconst 1, 1) := by decide +kernel
theorem dX5_findItems_31 : decode cX5_findItems 31 = .ok (.isub, 1) := by decide +kernel
theorem dX5_findItems_32 : decode cX5_findItems 32 = .ok (.if_icmp .lt 7, 3) := by decide +kernel
theorem dX5_findItems_35 : decode cX5_findItems 35 = .ok (.iconst 2, 1) := by decide +kernel
theorem dX5_findItems_36 : decode cX5_findItems 36 = .ok (.goto 6, 3) := by decide +kernel
theorem dX5_findItems_39 : decode cX5_findItems 39 = .ok (.sipush 1000, 3) := by decide +kernel
theorem dX5_findItems_42 : decode cX5_findItems 42 = .ok (.iastore, 1) := by decide +kernel
theorem dX5_findItems_43 : decode cX5_findItems 43 = .ok (.iinc 4 1, 3) := by decide +kernel
theorem dX5_findItems_46 : decode cX5_findItems 46 = .ok (.goto (-43), 3) := by decide +kernel
theorem dX5_findItems_49 : decode cX5_findItems 49 = .ok (.iconst 1, 1) := by decide +kernel
theorem dX5_findItems_50 : decode cX5_findItems 50 = .ok (.istore 4, 2) := by decide +kernel
theorem dX5_findItems_52 : decode cX5_findItems 52 = .ok (.iconst 2, 1) := by decide +kernel
theorem dX5_findItems_53 : decode cX5_findItems 53 = .ok (.iload 4, 2) := by decide +kernel
theorem dX5_findItems_55 : decode cX5_findItems 55 = .ok (.imul, 1) := by decide +kernel
theorem dX5_findItems_56 : decode cX5_findItems 56 = .ok (.iload_n 3, 1) := by decide +kernel
theorem dX5_findItems_57 : decode cX5_findItems 57 = .ok (.if_icmp .gt 86, 3) := by decide +kernel
theorem dX5_findItems_60 : decode cX5_findItems 60 = .ok (.aload_n 1, 1) := by decide +kernel
theorem dX5_findItems_61 : decode cX5_findItems 61 = .ok (.iload_n 2, 1) := by decide +kernel
theorem dX5_findItems_62 : decode cX5_findItems 62 = .ok (.iload 4, 2) := by decide +kernel
theorem dX5_findItems_64 : decode cX5_findItems 64 = .ok (.iadd, 1) := by decide +kernel
theorem dX5_findItems_65 : decode cX5_findItems 65 = .ok (.iaload, 1) := by decide +kernel
theorem dX5_findItems_66 : decode cX5_findItems 66 = .ok (.iconst 3, 1) := by decide +kernel
theorem dX5_findItems_67 : decode cX5_findItems 67 = .ok (.iadd, 1) := by decide +kernel
theorem dX5_findItems_68 : decode cX5_findItems 68 = .ok (.istore 5, 2) := by decide +kernel
theorem dX5_findItems_70 : decode cX5_findItems 70 = .ok (.iconst 2, 1) := by decide +kernel
theorem dX5_findItems_71 : decode cX5_findItems 71 = .ok (.istore 6, 2) := by decide +kernel
theorem dX5_findItems_73 : decode cX5_findItems 73 = .ok (.iload 6, 2) := by decide +kernel
theorem dX5_findItems_75 : decode cX5_findItems 75 = .ok (.bipush 9, 2) := by decide +kernel
theorem dX5_findItems_77 : decode cX5_findItems 77 = .ok (.if_icmp .gt 60, 3) := by decide +kernel
theorem dX5_findItems_80 : decode cX5_findItems 80 = .ok (.iload 6, 2) := by decide +kernel
theorem dX5_findItems_82 : decode cX5_findItems 82 = .ok (.iload 4, 2) := by decide +kernel
theorem dX5_findItems_84 : decode cX5_findItems 84 = .ok (.imul, 1) := by decide +kernel
theorem dX5_findItems_85 : decode cX5_findItems 85 = .ok (.iload_n 3, 1) := by decide +kernel
theorem dX5_findItems_86 : decode cX5_findItems 86 = .ok (.if_icmp .gt 51, 3) := by decide +kernel
theorem dX5_findItems_89 : decode cX5_findItems 89 = .ok (.aload_n 0, 1) := by decide +kernel
theorem dX5_findItems_90 : decode cX5_findItems 90 = .ok (.getfield 15, 3) := by decide +kernel
theorem dX5_findItems_93 : decode cX5_findItems 93 = .ok (.iload 4, 2) := by decide +kernel
theorem dX5_findItems_95 : decode cX5_findItems 95 = .ok (.iaload, 1) := by decide +kernel
theorem dX5_findItems_96 : decode cX5_findItems 96 = .ok (.iload 6, 2) := by decide +kernel
theorem dX5_findItems_98 : decode cX5_findItems 98 = .ok (.iconst 1, 1) := by decide +kernel
theorem dX5_findItems_99 : decode cX5_findItems 99 = .ok (.isub, 1) := by decide +kernel
theorem dX5_findItems_100 : decode cX5_findItems 100 = .ok (.iload 4, 2) := by decide +kernel
theorem dX5_findItems_102 : decode cX5_findItems 102 = .ok (.imul, 1) := by decide +kernel
theorem dX5_findItems_103 : decode cX5_findItems 103 = .ok (.if_icmp .lt 34, 3) := by decide +kernel
theorem dX5_findItems_106 : decode cX5_findItems 106 = .ok (.aload_n 0, 1) := by decide +kernel
theorem dX5_findItems_107 : decode cX5_findItems 107 = .ok (.getfield 21, 3) := by decide +kernel
theorem dX5_findItems_110 : decode cX5_findItems 110 = .ok (.iload 6, 2) := by decide +kernel
theorem dX5_findItems_112 : decode cX5_findItems 112 = .ok (.iload 4, 2) := by decide +kernel
theorem dX5_findItems_114 : decode cX5_findItems 114 = .ok (.imul, 1) := by decide +kernel
theorem dX5_findItems_115 : decode cX5_findItems 115 = .ok (.aload_n 0, 1) := by decide +kernel
theorem dX5_findItems_116 : decode cX5_findItems 116 = .ok (.getfield 21, 3) := by decide +kernel
theorem dX5_findItems_119 : decode cX5_findItems 119 = .ok (.iload 6, 2) := by decide +kernel
theorem dX5_findItems_121 : decode cX5_findItems 121 = .ok (.iload 4, 2) := by decide +kernel
theorem dX5_findItems_123 : decode cX5_findItems 123 = .ok (.imul, 1) := by decide +kernel
theorem dX5_findItems_124 : decode cX5_findItems 124 = .ok (.iaload, 1) := by decide +kernel
theorem dX5_findItems_125 : decode cX5_findItems 125 = .ok (.iload 5, 2) := by decide +kernel
theorem dX5_findItems_127 : decode cX5_findItems 127 = .ok (.invokestatic 35, 3) := by decide +kernel
theorem dX5_findItems_130 : decode cX5_findItems 130 = .ok (.iastore, 1) := by decide +kernel
theorem dX5_findItems_131 : decode cX5_findItems 131 = .ok (.iinc 6 1, 3) := by decide +kernel
theorem dX5_findItems_134 : decode cX5_findItems 134 = .ok (.goto (-61), 3) := by decide +kernel
theorem dX5_findItems_137 : decode cX5_findItems 137 = .ok (.iinc 4 1, 3) := by decide +kernel
theorem dX5_findItems_140 : decode cX5_findItems 140 = .ok (.goto (-88), 3) := by decide +kernel
theorem dX5_findItems_143 : decode cX5_findItems 143 = .ok (.return_, 1) := by decide +kernel
theorem dX5_findOnce_0 : decode cX5_findOnce 0 = .ok (.aload_n 0, 1) := by decide +kernel
theorem dX5_findOnce_1 : decode cX5_findOnce 1 = .ok (.getfield 41, 3) := by decide +kernel
theorem dX5_findOnce_4 : decode cX5_findOnce 4 = .ok (.iload_n 1, 1) := by decide +kernel
theorem dX5_findOnce_5 : decode cX5_findOnce 5 = .ok (.isub, 1) := by decide +kernel
theorem dX5_findOnce_6 : decode cX5_findOnce 6 = .ok (.istore_n 2, 1) := by decide +kernel
theorem dX5_findOnce_7 : decode cX5_findOnce 7 = .ok (.bipush 49, 2) := by decide +kernel
theorem dX5_findOnce_9 : decode cX5_findOnce 9 = .ok (.iload_n 1, 1) := by decide +kernel
theorem dX5_findOnce_10 : decode cX5_findOnce 10 = .ok (.imul, 1) := by decide +kernel
theorem dX5_findOnce_11 : decode cX5_findOnce 11 = .ok (.istore_n 3, 1) := by decide +kernel
theorem dX5_findOnce_12 : decode cX5_findOnce 12 = .ok (.aload_n 0, 1) := by decide +kernel
theorem dX5_findOnce_13 : decode cX5_findOnce 13 = .ok (.getfield 24, 3) := by decide +kernel
theorem dX5_findOnce_16 : decode cX5_findOnce 16 = .ok (.iload_n 3, 1) := by decide +kernel
theorem dX5_findOnce_17 : decode cX5_findOnce 17 = .ok (.iconst 0, 1) := by decide +kernel
theorem dX5_findOnce_18 : decode cX5_findOnce 18 = .ok (.iastore, 1) := by decide +kernel
theorem dX5_findOnce_19 : decode cX5_findOnce 19 = .ok (.iconst 1, 1) := by decide +kernel
theorem dX5_findOnce_20 : decode cX5_findOnce 20 = .ok (.istore 4, 2) := by decide +kernel
theorem dX5_findOnce_22 : decode cX5_findOnce 22 = .ok (.iload 4, 2) := by decide +kernel
theorem dX5_findOnce_24 : decode cX5_findOnce 24 = .ok (.iload_n 2, 1) := by decide +kernel
theorem dX5_findOnce_25 : decode cX5_findOnce 25 = .ok (.if_icmp .gt 21, 3) := by decide +kernel
theorem dX5_findOnce_28 : decode cX5_findOnce 28 = .ok (.aload_n 0, 1) := by decide +kernel
theorem dX5_findOnce_29 : decode cX5_findOnce 29 = .ok (.getfield 24, 3) := by decide +kernel
theorem dX5_findOnce_32 : decode cX5_findOnce 32 = .ok (.iload_n 3, 1) := by decide +kernel
theorem dX5_findOnce_33 : decode cX5_findOnce 33 = .ok (.iload 4, 2) := by decide +kernel
theorem dX5_findOnce_35 : decode cX5_findOnce 35 = .ok (.iadd, 1) := by decide +kernel
theorem dX5_findOnce_36 : decode cX5_findOnce 36 = .ok (.sipush 1000, 3) := by decide +kernel
theorem dX5_findOnce_39 : decode cX5_findOnce 39 = .ok (.iastore, 1) := by decide +kernel
theorem dX5_findOnce_40 : decode cX5_findOnce 40 = .ok (.iinc 4 1, 3) := by decide +kernel
theorem dX5_findOnce_43 : decode cX5_findOnce 43 = .ok (.goto (-21), 3) := by decide +kernel
theorem dX5_findOnce_46 : decode cX5_findOnce 46 = .ok (.iconst 1, 1) := by decide +kernel
theorem dX5_findOnce_47 : decode cX5_findOnce 47 = .ok (.istore 4, 2) := by decide +kernel
theorem dX5_findOnce_49 : decode cX5_findOnce 49 = .ok (.iload 4, 2) := by decide +kernel
theorem dX5_findOnce_51 : decode cX5_findOnce 51 = .ok (.iload_n 2, 1) := by decide +kernel
theorem dX5_findOnce_52 : decode cX5_findOnce 52 = .ok (.if_icmp .gt 89, 3) := by decide +kernel
theorem dX5_findOnce_55 : decode cX5_findOnce 55 = .ok (.bipush 49, 2) := by decide +kernel
theorem dX5_findOnce_57 : decode cX5_findOnce 57 = .ok (.iload_n 1, 1) := by decide +kernel
theorem dX5_findOnce_58 : decode cX5_findOnce 58 = .ok (.iload 4, 2) := by decide +kernel
theorem dX5_findOnce_60 : decode cX5_findOnce 60 = .ok (.iadd, 1) := by decide +kernel
theorem dX5_findOnce_61 : decode cX5_findOnce 61 = .ok (.imul, 1) := by decide +kernel
theorem dX5_findOnce_62 : decode cX5_findOnce 62 = .ok (.istore 5, 2) := by decide +kernel
theorem dX5_findOnce_64 : decode cX5_findOnce 64 = .ok (.iload 4, 2) := by decide +kernel
theorem dX5_findOnce_66 : decode cX5_findOnce 66 = .ok (.istore 6, 2) := by decide +kernel
theorem dX5_findOnce_68 : decode cX5_findOnce 68 = .ok (.aload_n 0, 1) := by decide +kernel
theorem dX5_findOnce_69 : decode cX5_findOnce 69 = .ok (.getfield 21, 3) := by decide +kernel
theorem dX5_findOnce_72 : decode cX5_findOnce 72 = .ok (.iload 4, 2) := by decide +kernel
theorem dX5_findOnce_74 : decode cX5_findOnce 74 = .ok (.iaload, 1) := by decide +kernel
theorem dX5_findOnce_75 : decode cX5_findOnce 75 = .ok (.sipush 1000, 3) := by decide +kernel
theorem dX5_findOnce_78 : decode cX5_findOnce 78 = .ok (.if_icmp .ge 57, 3) := by decide +kernel
theorem dX5_findOnce_81 : decode cX5_findOnce 81 = .ok (.iload 6, 2) := by decide +kernel
theorem dX5_findOnce_83 : decode cX5_findOnce 83 = .ok (.iload_n 2, 1) := by decide +kernel
theorem dX5_findOnce_84 : decode cX5_findOnce 84 = .ok (.if_icmp .gt 51, 3) := by decide +kernel
theorem dX5_findOnce_87 : decode cX5_findOnce 87 = .ok (.aload_n 0, 1) := by decide +kernel
theorem dX5_findOnce_88 : decode cX5_findOnce 88 = .ok (.getfield 24, 3) := by decide +kernel
theorem dX5_findOnce_91 : decode cX5_findOnce 91 = .ok (.iload_n 3, 1) := by decide +kernel
theorem dX5_findOnce_92 : decode cX5_findOnce 92 = .ok (.iload 6, 2) := by decide +kernel
theorem dX5_findOnce_94 : decode cX5_findOnce 94 = .ok (.iadd, 1) := by decide +kernel
theorem dX5_findOnce_95 : decode cX5_findOnce 95 = .ok (.aload_n 0, 1) := by decide +kernel
theorem dX5_findOnce_96 : decode cX5_findOnce 96 = .ok (.getfield 24, 3) := by decide +kernel
theorem dX5_findOnce_99 : decode cX5_findOnce 99 = .ok (.iload_n 3, 1) := by decide +kernel
theorem dX5_findOnce_100 : decode cX5_findOnce 100 = .ok (.iload 6, 2) := by decide +kernel
theorem dX5_findOnce_102 : decode cX5_findOnce 102 = .ok (.iadd, 1) := by decide +kernel
theorem dX5_findOnce_103 : decode cX5_findOnce 103 = .ok (.iaload, 1) := by decide +kernel
theorem dX5_findOnce_104 : decode cX5_findOnce 104 = .ok (.aload_n 0, 1) := by decide +kernel
theorem dX5_findOnce_105 : decode cX5_findOnce 105 = .ok (.getfield 21, 3) := by decide +kernel
theorem dX5_findOnce_108 : decode cX5_findOnce 108 = .ok (.iload 4, 2) := by decide +kernel
theorem dX5_findOnce_110 : decode cX5_findOnce 110 = .ok (.iaload, 1) := by decide +kernel
theorem dX5_findOnce_111 : decode cX5_findOnce 111 = .ok (.aload_n 0, 1) := by decide +kernel
theorem dX5_findOnce_112 : decode cX5_findOnce 112 = .ok (.getfield 24, 3) := by decide +kernel
theorem dX5_findOnce_115 : decode cX5_findOnce 115 = .ok (.iload 5, 2) := by decide +kernel
theorem dX5_findOnce_117 : decode cX5_findOnce 117 = .ok (.iload 6, 2) := by decide +kernel
theorem dX5_findOnce_119 : decode cX5_findOnce 119 = .ok (.iadd, 1) := by decide +kernel
theorem dX5_findOnce_120 : decode cX5_findOnce 120 = .ok (.iload 4, 2) := by decide +kernel
theorem dX5_findOnce_122 : decode cX5_findOnce 122 = .ok (.isub, 1) := by decide +kernel
theorem dX5_findOnce_123 : decode cX5_findOnce 123 = .ok (.iaload, 1) := by decide +kernel
theorem dX5_findOnce_124 : decode cX5_findOnce 124 = .ok (.iadd, 1) := by decide +kernel
theorem dX5_findOnce_125 : decode cX5_findOnce 125 = .ok (.invokestatic 35, 3) := by decide +kernel
theorem dX5_findOnce_128 : decode cX5_findOnce 128 = .ok (.iastore, 1) := by decide +kernel
theorem dX5_findOnce_129 : decode cX5_findOnce 129 = .ok (.iinc 6 1, 3) := by decide +kernel
theorem dX5_findOnce_132 : decode cX5_findOnce 132 = .ok (.goto (-64), 3) := by decide +kernel
theorem dX5_findOnce_135 : decode cX5_findOnce 135 = .ok (.iinc 4 1, 3) := by decide +kernel
theorem dX5_findOnce_138 : decode cX5_findOnce 138 = .ok (.goto (-89), 3) := by decide +kernel
theorem dX5_findOnce_141 : decode cX5_findOnce 141 = .ok (.return_, 1) := by decide +kernel
theorem dX5_findTwice_0 : decode cX5_findTwice 0 = .ok (.aload_n 0, 1) := by decide +kernel
theorem dX5_findTwice_1 : decode cX5_findTwice 1 = .ok (.getfield 27, 3) := by decide +kernel
theorem dX5_findTwice_4 : decode cX5_findTwice 4 = .ok (.iload_n 1, 1) := by decide +kernel
theorem dX5_findTwice_5 : decode cX5_findTwice 5 = .ok (.sipush 1000, 3) := by decide +kernel
theorem dX5_findTwice_8 : decode cX5_findTwice 8 = .ok (.iastore, 1) := by decide +kernel
theorem dX5_findTwice_9 : decode cX5_findTwice 9 = .ok (.iconst 1, 1) := by decide +kernel
theorem dX5_findTwice_10 : decode cX5_findTwice 10 = .ok (.istore_n 2, 1) := by decide +kernel
theorem dX5_findTwice_11 : decode cX5_findTwice 11 = .ok (.iload_n 1, 1) := by decide +kernel
theorem dX5_findTwice_12 : decode cX5_findTwice 12 = .ok (.iload_n 2, 1) := by decide +kernel
theorem dX5_findTwice_13 : decode cX5_findTwice 13 = .ok (.iadd, 1) := by decide +kernel
theorem dX5_findTwice_14 : decode cX5_findTwice 14 = .ok (.aload_n 0, 1) := by decide +kernel
theorem dX5_findTwice_15 : decode cX5_findTwice 15 = .ok (.getfield 41, 3) := by decide +kernel
theorem dX5_findTwice_18 : decode cX5_findTwice 18 = .ok (.if_icmp .gt 39, 3) := by decide +kernel
theorem dX5_findTwice_21 : decode cX5_findTwice 21 = .ok (.aload_n 0, 1) := by decide +kernel
theorem dX5_findTwice_22 : decode cX5_findTwice 22 = .ok (.getfield 27, 3) := by decide +kernel
theorem dX5_findTwice_25 : decode cX5_findTwice 25 = .ok (.iload_n 1, 1) := by decide +kernel
theorem dX5_findTwice_26 : decode cX5_findTwice 26 = .ok (.aload_n 0, 1) := by decide +kernel
theorem dX5_findTwice_27 : decode cX5_findTwice 27 = .ok (.getfield 27, 3) := by decide +kernel
theorem dX5_findTwice_30 : decode cX5_findTwice 30 = .ok (.iload_n 1, 1) := by decide +kernel
theorem dX5_findTwice_31 : decode cX5_findTwice 31 = .ok (.iaload, 1) := by decide +kernel
theorem dX5_findTwice_32 : decode cX5_findTwice 32 = .ok (.aload_n 0, 1) := by decide +kernel
theorem dX5_findTwice_33 : decode cX5_findTwice 33 = .ok (.getfield 21, 3) := by decide +kernel
theorem dX5_findTwice_36 : decode cX5_findTwice 36 = .ok (.iload_n 2, 1) := by decide +kernel
theorem dX5_findTwice_37 : decode cX5_findTwice 37 = .ok (.iaload, 1) := by decide +kernel
theorem dX5_findTwice_38 : decode cX5_findTwice 38 = .ok (.aload_n 0, 1) := by decide +kernel
theorem dX5_findTwice_39 : decode cX5_findTwice 39 = .ok (.getfield 27, 3) := by decide +kernel
theorem dX5_findTwice_42 : decode cX5_findTwice 42 = .ok (.iload_n 1, 1) := by decide +kernel
theorem dX5_findTwice_43 : decode cX5_findTwice 43 = .ok (.iload_n 2, 1) := by decide +kernel
theorem dX5_findTwice_44 : decode cX5_findTwice 44 = .ok (.iadd, 1) := by decide +kernel
theorem dX5_findTwice_45 : decode cX5_findTwice 45 = .ok (.iaload, 1) := by decide +kernel
theorem dX5_findTwice_46 : decode cX5_findTwice 46 = .ok (.iadd, 1) := by decide +kernel
theorem dX5_findTwice_47 : decode cX5_findTwice 47 = .ok (.invokestatic 35, 3) := by decide +kernel
theorem dX5_findTwice_50 : decode cX5_findTwice 50 = .ok (.iastore, 1) := by decide +kernel
theorem dX5_findTwice_51 : decode cX5_findTwice 51 = .ok (.iinc 2 1, 3) := by decide +kernel
theorem dX5_findTwice_54 : decode cX5_findTwice 54 = .ok (.goto (-43), 3) := by decide +kernel
theorem dX5_findTwice_57 : decode cX5_findTwice 57 = .ok (.return_, 1) := by decide +kernel
end
section
theorem dX7_init_0 : decode cX7_init 0 = .ok (.aload_n 0, 1) := by decide +kernel
theorem dX7_init_1 : decode cX7_init 1 = .ok (.invokespecial 1, 3) := by decide +kernel
theorem dX7_init_4 : decode cX7_init 4 = .ok (.aload_n 0, 1) := by decide +kernel
theorem dX7_init_5 : decode cX7_init 5 = .ok (.bipush 80, 2) := by decide +kernel
theorem dX7_init_7 : decode cX7_init 7 = .ok (.newarray .int, 2) := by decide +kernel
theorem dX7_init_9 : decode cX7_init 9 = .ok (.putfield 9, 3) := by decide +kernel
theorem dX7_init_12 : decode cX7_init 12 = .ok (.aload_n 0, 1) := by decide +kernel
theorem dX7_init_13 : decode cX7_init 13 = .ok (.new 13, 3) := by decide +kernel
theorem dX7_init_16 : decode cX7_init 16 = .ok (.dup, 1) := by decide +kernel
theorem dX7_init_17 : decode cX7_init 17 = .ok (.invokespecial 15, 3) := by decide +kernel
theorem dX7_init_20 : decode cX7_init 20 = .ok (.putfield 16, 3) := by decide +kernel
theorem dX7_init_23 : decode cX7_init 23 = .ok (.aload_n 0, 1) := by decide +kernel
theorem dX7_init_24 : decode cX7_init 24 = .ok (.new 20, 3) := by decide +kernel
theorem dX7_init_27 : decode cX7_init 27 = .ok (.dup, 1) := by decide +kernel
theorem dX7_init_28 : decode cX7_init 28 = .ok (.invokespecial 22, 3) := by decide +kernel
theorem dX7_init_31 : decode cX7_init 31 = .ok (.putfield 23, 3) := by decide +kernel
theorem dX7_init_34 : decode cX7_init 34 = .ok (.aload_n 0, 1) := by decide +kernel
theorem dX7_init_35 : decode cX7_init 35 = .ok (.aload_n 0, 1) := by decide +kernel
theorem dX7_init_36 : decode cX7_init 36 = .ok (.getfield 23, 3) := by decide +kernel
theorem dX7_init_39 : decode cX7_init 39 = .ok (.getfield 27, 3) := by decide +kernel
theorem dX7_init_42 : decode cX7_init 42 = .ok (.putfield 31, 3) := by decide +kernel
theorem dX7_init_45 : decode cX7_init 45 = .ok (.aload_n 0, 1) := by decide +kernel
theorem dX7_init_46 : decode cX7_init 46 = .ok (.aload_n 0, 1) := by decide +kernel
theorem dX7_init_47 : decode cX7_init 47 = .ok (.getfield 23, 3) := by decide +kernel
theorem dX7_init_50 : decode cX7_init 50 = .ok (.getfield 34, 3) := by decide +kernel
theorem dX7_init_53 : decode cX7_init 53 = .ok (.putfield 38, 3) := by decide +kernel
theorem dX7_init_56 : decode cX7_init 56 = .ok (.aload_n 0, 1) := by decide +kernel
theorem dX7_init_57 : decode cX7_init 57 = .ok (.new 41, 3) := by decide +kernel
theorem dX7_init_60 : decode cX7_init 60 = .ok (.dup, 1) := by decide +kernel
theorem dX7_init_61 : decode cX7_init 61 = .ok (.invokespecial 43, 3) := by decide +kernel
theorem dX7_init_64 : decode cX7_init 64 = .ok (.putfield 44, 3) := by decide +kernel
theorem dX7_init_67 : decode cX7_init 67 = .ok (.aload_n 0, 1) := by decide +kernel
theorem dX7_init_68 : decode cX7_init 68 = .ok (.new 48, 3) := by decide +kernel
theorem dX7_init_71 : decode cX7_init 71 = .ok (.dup, 1) := by decide +kernel
theorem dX7_init_72 : decode cX7_init 72 = .ok (.invokespecial 50, 3) := by decide +kernel
theorem dX7_init_75 : decode cX7_init 75 = .ok (.putfield 51, 3) := by decide +kernel
theorem dX7_init_78 : decode cX7_init 78 = .ok (.aload_n 0, 1) := by decide +kernel
theorem dX7_init_79 : decode cX7_init 79 = .ok (.new 55, 3) := by decide +kernel
theorem dX7_init_82 : decode cX7_init 82 = .ok (.dup, 1) := by decide +kernel
theorem dX7_init_83 : decode cX7_init 83 = .ok (.invokespecial 57, 3) := by decide +kernel
theorem dX7_init_86 : decode cX7_init 86 = .ok (.putfield 58, 3) := by decide +kernel
theorem dX7_init_89 : decode cX7_init 89 = .ok (.aload_n 0, 1) := by decide +kernel
theorem dX7_init_90 : decode cX7_init 90 = .ok (.new 55, 3) := by decide +kernel
theorem dX7_init_93 : decode cX7_init 93 = .ok (.dup, 1) := by decide +kernel
theorem dX7_init_94 : decode cX7_init 94 = .ok (.invokespecial 57, 3) := by decide +kernel
theorem dX7_init_97 : decode cX7_init 97 = .ok (.putfield 61, 3) := by decide +kernel
theorem dX7_init_100 : decode cX7_init 100 = .ok (.aload_n 0, 1) := by decide +kernel
theorem dX7_init_101 : decode cX7_init 101 = .ok (.new 55, 3) := by decide +kernel
theorem dX7_init_104 : decode cX7_init 104 = .ok (.dup, 1) := by decide +kernel
theorem dX7_init_105 : decode cX7_init 105 = .ok (.invokespecial 57, 3) := by decide +kernel
theorem dX7_init_108 : decode cX7_init 108 = .ok (.putfield 64, 3) := by decide +kernel
theorem dX7_init_111 : decode cX7_init 111 = .ok (.aload_n 0, 1) := by decide +kernel
theorem dX7_init_112 : decode cX7_init 112 = .ok (.iconst 2, 1) := by decide +kernel
theorem dX7_init_113 : decode cX7_init 113 = .ok (.newarray .boolean, 2) := by decide +kernel
theorem dX7_init_115 : decode cX7_init 115 = .ok (.putfield 67, 3) := by decide +kernel
theorem dX7_init_118 : decode cX7_init 118 = .ok (.return_, 1) := by decide +kernel
theorem dX7_write_0 : decode cX7_write 0 = .ok (.iload_n 1, 1) := by decide +kernel
theorem dX7_write_1 : decode cX7_write 1 = .ok (.ifCond .lt 10, 3) := by decide +kernel
theorem dX7_write_4 : decode cX7_write 4 = .ok (.iload_n 1, 1) := by decide +kernel
theorem dX7_write_5 : decode cX7_write 5 = .ok (.sipush 255, 3) := by decide +kernel
theorem dX7_write_8 : decode cX7_write 8 = .ok (.if_icmp .le 6, 3) := by decide +kernel
theorem dX7_write_11 : decode cX7_write 11 = .ok (.bipush (-2), 2) := by decide +kernel
theorem dX7_write_13 : decode cX7_write 13 = .ok (.ireturn, 1) := by decide +kernel
theorem dX7_write_14 : decode cX7_write 14 = .ok (.aload_n 0, 1) := by decide +kernel
theorem dX7_write_15 : decode cX7_write 15 = .ok (.getfield 71, 3) := by decide +kernel
theorem dX7_write_18 : decode cX7_write 18 = .ok (.bipush 80, 2) := by decide +kernel
theorem dX7_write_20 : decode cX7_write 20 = .ok (.if_icmp .lt 6, 3) := by decide +kernel
theorem dX7_write_23 : decode cX7_write 23 = .ok (.bipush (-4), 2) := by decide +kernel
theorem dX7_write_25 : decode cX7_write 25 = .ok (.ireturn, 1) := by decide +kernel
theorem dX7_write_26 : decode cX7_write 26 = .ok (.aload_n 0, 1) := by decide +kernel
theorem dX7_write_27 : decode cX7_write 27 = .ok (.getfield 9, 3) := by decide +kernel
theorem dX7_write_30 : decode cX7_write 30 = .ok (.aload_n 0, 1) := by decide +kernel
theorem dX7_write_31 : decode cX7_write 31 = .ok (.getfield 71, 3) := by decide +kernel
theorem dX7_write_34 : decode cX7_write 34 = .ok (.iload_n 1, 1) := by decide +kernel
theorem dX7_write_35 : decode cX7_write 35 = .ok (.iastore, 1) := by decide +kernel
theorem dX7_write_36 : decode cX7_write 36 = .ok (.aload_n 0, 1) := by decide +kernel
theorem dX7_write_37 : decode cX7_write 37 = .ok (.dup, 1) := by decide +kernel
theorem dX7_write_38 : decode cX7_write 38 = .ok (.getfield 71, 3) := by decide +kernel
theorem dX7_write_41 : decode cX7_write 41 = .ok (.iconst 1, 1) := by decide +kernel
theorem dX7_write_42 : decode cX7_write 42 = .ok (.iadd, 1) := by decide +kernel
theorem dX7_write_43 : decode cX7_write 43 = .ok (.putfield 71, 3) := by decide +kernel
theorem dX7_write_46 : decode cX7_write 46 = .ok (.aload_n 0, 1) := by decide +kernel
theorem dX7_write_47 : decode cX7_write 47 = .ok (.getfield 71, 3) := by decide +kernel
theorem dX7_write_50 : decode cX7_write 50 = .ok (.ireturn, 1) := by decide +kernel
theorem dX7_wipe_0 : decode cX7_wipe 0 = .ok (.aload_n 0, 1) := by decide +kernel
theorem dX7_wipe_1 : decode cX7_wipe 1 = .ok (.getfield 71, 3) := by decide +kernel
theorem dX7_wipe_4 : decode cX7_wipe 4 = .ok (.istore_n 1, 1) := by decide +kernel
theorem dX7_wipe_5 : decode cX7_wipe 5 = .ok (.aload_n 0, 1) := by decide +kernel
theorem dX7_wipe_6 : decode cX7_wipe 6 = .ok (.iconst 0, 1) := by decide +kernel
theorem dX7_wipe_7 : decode cX7_wipe 7 = .ok (.putfield 71, 3) := by decide +kernel
theorem dX7_wipe_10 : decode cX7_wipe 10 = .ok (.iload_n 1, 1) := by decide +kernel
theorem dX7_wipe_11 : decode cX7_wipe 11 = .ok (.ireturn, 1) := by decide +kernel
theorem dX7_fault_0 : decode cX7_fault 0 = .ok (.aload_n 0, 1) := by decide +kernel
theorem dX7_fault_1 : decode cX7_fault 1 = .ok (.getfield 16, 3) := by decide +kernel
theorem dX7_fault_4 : decode cX7_fault 4 = .ok (.aload_n 0, 1) := by decide +kernel
theorem dX7_fault_5 : decode cX7_fault 5 = .ok (.getfield 9, 3) := by decide +kernel
theorem dX7_fault_8 : decode cX7_fault 8 = .ok (.aload_n 0, 1) := by decide +kernel
theorem dX7_fault_9 : decode cX7_fault 9 = .ok (.getfield 71, 3) := by decide +kernel
theorem dX7_fault_12 : decode cX7_fault 12 = .ok (.invokevirtual 75, 3) := by decide +kernel
theorem dX7_fault_15 : decode cX7_fault 15 = .ok (.ireturn, 1) := by decide +kernel
theorem dX7_reel_0 : decode cX7_reel 0 = .ok (.aload_n 0, 1) := by decide +kernel
theorem dX7_reel_1 : decode cX7_reel 1 = .ok (.getfield 16, 3) := by decide +kernel
theorem dX7_reel_4 : decode cX7_reel 4 = .ok (.aload_n 0, 1) := by decide +kernel
theorem dX7_reel_5 : decode cX7_reel 5 = .ok (.getfield 9, 3) := by decide +kernel
theorem dX7_reel_8 : decode cX7_reel 8 = .ok (.aload_n 0, 1) := by decide +kernel
theorem dX7_reel_9 : decode cX7_reel 9 = .ok (.getfield 71, 3) := by decide +kernel
theorem dX7_reel_12 : decode cX7_reel 12 = .ok (.invokevirtual 75, 3) := by decide +kernel
theorem dX7_reel_15 : decode cX7_reel 15 = .ok (.bipush (-9), 2) := by decide +kernel
theorem dX7_reel_17 : decode cX7_reel 17 = .ok (.if_icmp .eq 6, 3) := by decide +kernel
theorem dX7_reel_20 : decode cX7_reel 20 = .ok (.bipush (-3), 2) := by decide +kernel
theorem dX7_reel_22 : decode cX7_reel 22 = .ok (.ireturn, 1) := by decide +kernel
theorem dX7_reel_23 : decode cX7_reel 23 = .ok (.aload_n 0, 1) := by decide +kernel
theorem dX7_reel_24 : decode cX7_reel 24 = .ok (.getfield 31, 3) := by decide +kernel
theorem dX7_reel_27 : decode cX7_reel 27 = .ok (.aload_n 0, 1) := by decide +kernel
theorem dX7_reel_28 : decode cX7_reel 28 = .ok (.getfield 16, 3) := by decide +kernel
theorem dX7_reel_31 : decode cX7_reel 31 = .ok (.getfield 79, 3) := by decide +kernel
theorem dX7_reel_34 : decode cX7_reel 34 = .ok (.invokevirtual 82, 3) := by decide +kernel
theorem dX7_reel_37 : decode cX7_reel 37 = .ok (.aload_n 0, 1) := by decide +kernel
theorem dX7_reel_38 : decode cX7_reel 38 = .ok (.getfield 38, 3) := by decide +kernel
theorem dX7_reel_41 : decode cX7_reel 41 = .ok (.aload_n 0, 1) := by decide +kernel
theorem dX7_reel_42 : decode cX7_reel 42 = .ok (.getfield 31, 3) := by decide +kernel
theorem dX7_reel_45 : decode cX7_reel 45 = .ok (.invokevirtual 88, 3) := by decide +kernel
theorem dX7_reel_48 : decode cX7_reel 48 = .ok (.aload_n 0, 1) := by decide +kernel
theorem dX7_reel_49 : decode cX7_reel 49 = .ok (.getfield 23, 3) := by decide +kernel
theorem dX7_reel_52 : decode cX7_reel 52 = .ok (.invokevirtual 91, 3) := by decide +kernel
theorem dX7_reel_55 : decode cX7_reel 55 = .ok (.aload_n 0, 1) := by decide +kernel
theorem dX7_reel_56 : decode cX7_reel 56 = .ok (.getfield 44, 3) := by decide +kernel
theorem dX7_reel_59 : decode cX7_reel 59 = .ok (.invokevirtual 94, 3) := by decide +kernel
theorem dX7_reel_62 : decode cX7_reel 62 = .ok (.iconst 0, 1) := by decide +kernel
theorem dX7_reel_63 : decode cX7_reel 63 = .ok (.istore_n 1, 1) := by decide +kernel
theorem dX7_reel_64 : decode cX7_reel 64 = .ok (.iload_n 1, 1) := by decide +kernel
theorem dX7_reel_65 : decode cX7_reel 65 = .ok (.iconst 2, 1) := by decide +kernel
theorem dX7_reel_66 : decode cX7_reel 66 = .ok (.if_icmp .ge 16, 3) := by decide +kernel
theorem dX7_reel_69 : decode cX7_reel 69 = .ok (.aload_n 0, 1) := by decide +kernel
theorem dX7_reel_70 : decode cX7_reel 70 = .ok (.getfield 67, 3) := by decide +kernel
theorem dX7_reel_73 : decode cX7_reel 73 = .ok (.iload_n 1, 1) := by decide +kernel
theorem dX7_reel_74 : decode cX7_reel 74 = .ok (.iconst 0, 1) := by decide +kernel
theorem dX7_reel_75 : decode cX7_reel 75 = .ok (.bastore, 1) := by decide +kernel
theorem dX7_reel_76 : decode cX7_reel 76 = .ok (.iinc 1 1, 3) := by decide +kernel
theorem dX7_reel_79 : decode cX7_reel 79 = .ok (.goto (-15), 3) := by decide +kernel
theorem dX7_reel_82 : decode cX7_reel 82 = .ok (.aload_n 0, 1) := by decide +kernel
theorem dX7_reel_83 : decode cX7_reel 83 = .ok (.getfield 31, 3) := by decide +kernel
theorem dX7_reel_86 : decode cX7_reel 86 = .ok (.getfield 97, 3) := by decide +kernel
theorem dX7_reel_89 : decode cX7_reel 89 = .ok (.ireturn, 1) := by decide +kernel
theorem dX7_drawing_0 : decode cX7_drawing 0 = .ok (.aload_n 0, 1) := by decide +kernel
theorem dX7_drawing_1 : decode cX7_drawing 1 = .ok (.iload_n 1, 1) := by decide +kernel
theorem dX7_drawing_2 : decode cX7_drawing 2 = .ok (.invokevirtual 100, 3) := by decide +kernel
theorem dX7_drawing_5 : decode cX7_drawing 5 = .ok (.ifCond .ne 5, 3) := by decide +kernel
theorem dX7_drawing_8 : decode cX7_drawing 8 = .ok (.iconst (-1), 1) := by decide +kernel
theorem dX7_drawing_9 : decode cX7_drawing 9 = .ok (.ireturn, 1) := by decide +kernel
theorem dX7_drawing_10 : decode cX7_drawing 10 = .ok (.iload_n 2, 1) := by decide +kernel
theorem dX7_drawing_11 : decode cX7_drawing 11 = .ok (.tableswitch 54 0 2 #[25, 35, 45], 25) := by decide +kernel
theorem dX7_drawing_36 : decode cX7_drawing 36 = .ok (.aload_n 0, 1) := by decide +kernel
theorem dX7_drawing_37 : decode cX7_drawing 37 = .ok (.getfield 38, 3) := by decide +kernel
theorem dX7_drawing_40 : decode cX7_drawing 40 = .ok (.getfield 104, 3) := by decide +kernel
theorem dX7_drawing_43 : decode cX7_drawing 43 = .ok (.iload_n 1, 1) := by decide +kernel
theorem dX7_drawing_44 : decode cX7_drawing 44 = .ok (.iaload, 1) := by decide +kernel
theorem dX7_drawing_45 : decode cX7_drawing 45 = .ok (.ireturn, 1) := by decide +kernel
theorem dX7_drawing_46 : decode cX7_drawing 46 = .ok (.aload_n 0, 1) := by decide +kernel
theorem dX7_drawing_47 : decode cX7_drawing 47 = .ok (.getfield 38, 3) := by decide +kernel
theorem dX7_drawing_50 : decode cX7_drawing 50 = .ok (.getfield 107, 3) := by decide +kernel
theorem dX7_drawing_53 : decode cX7_drawing 53 = .ok (.iload_n 1, 1) := by decide +kernel
theorem dX7_drawing_54 : decode cX7_drawing 54 = .ok (.iaload, 1) := by decide +kernel
theorem dX7_drawing_55 : decode cX7_drawing 55 = .ok (.ireturn, 1) := by decide +kernel
theorem dX7_drawing_56 : decode cX7_drawing 56 = .ok (.aload_n 0, 1) := by decide +kernel
theorem dX7_drawing_57 : decode cX7_drawing 57 = .ok (.getfield 23, 3) := by decide +kernel
theorem dX7_drawing_60 : decode cX7_drawing 60 = .ok (.iload_n 1, 1) := by decide +kernel
theorem dX7_drawing_61 : decode cX7_drawing 61 = .ok (.invokevirtual 110, 3) := by decide +kernel
theorem dX7_drawing_64 : decode cX7_drawing 64 = .ok (.ireturn, 1) := by decide +kernel
theorem dX7_drawing_65 : decode cX7_drawing 65 = .ok (.bipush (-2), 2) := by decide +kernel
theorem dX7_drawing_67 : decode cX7_drawing 67 = .ok (.ireturn, 1) := by decide +kernel
theorem dX7_level_0 : decode cX7_level 0 = .ok (.aload_n 0, 1) := by decide +kernel
theorem dX7_level_1 : decode cX7_level 1 = .ok (.iload_n 1, 1) := by decide +kernel
theorem dX7_level_2 : decode cX7_level 2 = .ok (.invokevirtual 114, 3) := by decide +kernel
theorem dX7_level_5 : decode cX7_level 5 = .ok (.ifCond .ne 5, 3) := by decide +kernel
theorem dX7_level_8 : decode cX7_level 8 = .ok (.iconst (-1), 1) := by decide +kernel
theorem dX7_level_9 : decode cX7_level 9 = .ok (.ireturn, 1) := by decide +kernel
theorem dX7_level_10 : decode cX7_level 10 = .ok (.iload_n 2, 1) := by decide +kernel
theorem dX7_level_11 : decode cX7_level 11 = .ok (.tableswitch 67 0 3 #[29, 39, 49, 58], 29) := by decide +kernel
theorem dX7_level_40 : decode cX7_level 40 = .ok (.aload_n 0, 1) := by decide +kernel
theorem dX7_level_41 : decode cX7_level 41 = .ok (.getfield 31, 3) := by decide +kernel
theorem dX7_level_44 : decode cX7_level 44 = .ok (.getfield 117, 3) := by decide +kernel
theorem dX7_level_47 : decode cX7_level 47 = .ok (.iload_n 1, 1) := by decide +kernel
theorem dX7_level_48 : decode cX7_level 48 = .ok (.iaload, 1) := by decide +kernel
theorem dX7_level_49 : decode cX7_level 49 = .ok (.ireturn, 1) := by decide +kernel
theorem dX7_level_50 : decode cX7_level 50 = .ok (.aload_n 0, 1) := by decide +kernel
theorem dX7_level_51 : decode cX7_level 51 = .ok (.getfield 38, 3) := by decide +kernel
theorem dX7_level_54 : decode cX7_level 54 = .ok (.getfield 120, 3) := by decide +kernel
theorem dX7_level_57 : decode cX7_level 57 = .ok (.iload_n 1, 1) := by decide +kernel
theorem dX7_level_58 : decode cX7_level 58 = .ok (.iaload, 1) := by decide +kernel
theorem dX7_level_59 : decode cX7_level 59 = .ok (.ireturn, 1) := by decide +kernel
theorem dX7_level_60 : decode cX7_level 60 = .ok (.aload_n 0, 1) := by decide +kernel
theorem dX7_level_61 : decode cX7_level 61 = .ok (.getfield 23, 3) := by decide +kernel
theorem dX7_level_64 : decode cX7_level 64 = .ok (.iload_n 1, 1) := by decide +kernel
theorem dX7_level_65 : decode cX7_level 65 = .ok (.invokevirtual 123, 3) := by decide +kernel
theorem dX7_level_68 : decode cX7_level 68 = .ok (.ireturn, 1) := by decide +kernel
theorem dX7_level_69 : decode cX7_level 69 = .ok (.aload_n 0, 1) := by decide +kernel
theorem dX7_level_70 : decode cX7_level 70 = .ok (.getfield 23, 3) := by decide +kernel
theorem dX7_level_73 : decode cX7_level 73 = .ok (.iload_n 1, 1) := by decide +kernel
theorem dX7_level_74 : decode cX7_level 74 = .ok (.invokevirtual 126, 3) := by decide +kernel
theorem dX7_level_77 : decode cX7_level 77 = .ok (.ireturn, 1) := by decide +kernel
theorem dX7_level_78 : decode cX7_level 78 = .ok (.bipush (-2), 2) := by decide +kernel
theorem dX7_level_80 : decode cX7_level 80 = .ok (.ireturn, 1) := by decide +kernel
theorem dX7_where_0 : decode cX7_where 0 = .ok (.aload_n 0, 1) := by decide +kernel
theorem dX7_where_1 : decode cX7_where 1 = .ok (.iload_n 1, 1) := by decide +kernel
theorem dX7_where_2 : decode cX7_where 2 = .ok (.invokevirtual 129, 3) := by decide +kernel
theorem dX7_where_5 : decode cX7_where 5 = .ok (.ifCond .ne 5, 3) := by decide +kernel
theorem dX7_where_8 : decode cX7_where 8 = .ok (.iconst (-1), 1) := by decide +kernel
theorem dX7_where_9 : decode cX7_where 9 = .ok (.ireturn, 1) := by decide +kernel
theorem dX7_where_10 : decode cX7_where 10 = .ok (.iload_n 2, 1) := by decide +kernel
theorem dX7_where_11 : decode cX7_where 11 = .ok (.invokestatic 132, 3) := by decide +kernel
theorem dX7_where_14 : decode cX7_where 14 = .ok (.ifCond .ne 6, 3) := by decide +kernel
theorem dX7_where_17 : decode cX7_where 17 = .ok (.bipush (-2), 2) := by decide +kernel
theorem dX7_where_19 : decode cX7_where 19 = .ok (.ireturn, 1) := by decide +kernel
theorem dX7_where_20 : decode cX7_where 20 = .ok (.sipush 1000, 3) := by decide +kernel
theorem dX7_where_23 : decode cX7_where 23 = .ok (.aload_n 0, 1) := by decide +kernel
theorem dX7_where_24 : decode cX7_where 24 = .ok (.getfield 38, 3) := by decide +kernel
theorem dX7_where_27 : decode cX7_where 27 = .ok (.iload_n 1, 1) := by decide +kernel
theorem dX7_where_28 : decode cX7_where 28 = .ok (.invokestatic 135, 3) := by decide +kernel
theorem dX7_where_31 : decode cX7_where 31 = .ok (.iload_n 2, 1) := by decide +kernel
theorem dX7_where_32 : decode cX7_where 32 = .ok (.invokevirtual 138, 3) := by decide +kernel
theorem dX7_where_35 : decode cX7_where 35 = .ok (.iadd, 1) := by decide +kernel
theorem dX7_where_36 : decode cX7_where 36 = .ok (.ireturn, 1) := by decide +kernel
theorem dX7_redraw_0 : decode cX7_redraw 0 = .ok (.aload_n 0, 1) := by decide +kernel
theorem dX7_redraw_1 : decode cX7_redraw 1 = .ok (.iload_n 1, 1) := by decide +kernel
theorem dX7_redraw_2 : decode cX7_redraw 2 = .ok (.invokevirtual 100, 3) := by decide +kernel
theorem dX7_redraw_5 : decode cX7_redraw 5 = .ok (.ifCond .ne 5, 3) := by decide +kernel
theorem dX7_redraw_8 : decode cX7_redraw 8 = .ok (.iconst (-1), 1) := by decide +kernel
theorem dX7_redraw_9 : decode cX7_redraw 9 = .ok (.ireturn, 1) := by decide +kernel
theorem dX7_redraw_10 : decode cX7_redraw 10 = .ok (.iload_n 2, 1) := by decide +kernel
theorem dX7_redraw_11 : decode cX7_redraw 11 = .ok (.ifCond .lt 19, 3) := by decide +kernel
theorem dX7_redraw_14 : decode cX7_redraw 14 = .ok (.iload_n 2, 1) := by decide +kernel
theorem dX7_redraw_15 : decode cX7_redraw 15 = .ok (.bipush 9, 2) := by decide +kernel
theorem dX7_redraw_17 : decode cX7_redraw 17 = .ok (.if_icmp .gt 13, 3) := by decide +kernel
theorem dX7_redraw_20 : decode cX7_redraw 20 = .ok (.iload_n 3, 1) := by decide +kernel
theorem dX7_redraw_21 : decode cX7_redraw 21 = .ok (.iconst 1, 1) := by decide +kernel
theorem dX7_redraw_22 : decode cX7_redraw 22 = .ok (.if_icmp .lt 8, 3) := by decide +kernel
theorem dX7_redraw_25 : decode cX7_redraw 25 = .ok (.iload_n 3, 1) := by decide +kernel
theorem dX7_redraw_26 : decode cX7_redraw 26 = .ok (.iconst 5, 1) := by decide +kernel
theorem dX7_redraw_27 : decode cX7_redraw 27 = .ok (.if_icmp .le 6, 3) := by decide +kernel
theorem dX7_redraw_30 : decode cX7_redraw 30 = .ok (.bipush (-2), 2) := by decide +kernel
theorem dX7_redraw_32 : decode cX7_redraw 32 = .ok (.ireturn, 1) := by decide +kernel
theorem dX7_redraw_33 : decode cX7_redraw 33 = .ok (.aload_n 0, 1) := by decide +kernel
theorem dX7_redraw_34 : decode cX7_redraw 34 = .ok (.getfield 38, 3) := by decide +kernel
theorem dX7_redraw_37 : decode cX7_redraw 37 = .ok (.getfield 104, 3) := by decide +kernel
theorem dX7_redraw_40 : decode cX7_redraw 40 = .ok (.iload_n 1, 1) := by decide +kernel
theorem dX7_redraw_41 : decode cX7_redraw 41 = .ok (.iaload, 1) := by decide +kernel
theorem dX7_redraw_42 : decode cX7_redraw 42 = .ok (.istore 4, 2) := by decide +kernel
theorem dX7_redraw_44 : decode cX7_redraw 44 = .ok (.aload_n 0, 1) := by decide +kernel
theorem dX7_redraw_45 : decode cX7_redraw 45 = .ok (.getfield 38, 3) := by decide +kernel
theorem dX7_redraw_48 : decode cX7_redraw 48 = .ok (.getfield 107, 3) := by decide +kernel
theorem dX7_redraw_51 : decode cX7_redraw 51 = .ok (.iload_n 1, 1) := by decide +kernel
theorem dX7_redraw_52 : decode cX7_redraw 52 = .ok (.iaload, 1) := by decide +kernel
theorem dX7_redraw_53 : decode cX7_redraw 53 = .ok (.istore 5, 2) := by decide +kernel
theorem dX7_redraw_55 : decode cX7_redraw 55 = .ok (.aload_n 0, 1) := by decide +kernel
theorem dX7_redraw_56 : decode cX7_redraw 56 = .ok (.getfield 44, 3) := by decide +kernel
theorem dX7_redraw_59 : decode cX7_redraw 59 = .ok (.iconst 0, 1) := by decide +kernel
theorem dX7_redraw_60 : decode cX7_redraw 60 = .ok (.iload_n 1, 1) := by decide +kernel
theorem dX7_redraw_61 : decode cX7_redraw 61 = .ok (.iload 4, 2) := by decide +kernel
theorem dX7_redraw_63 : decode cX7_redraw 63 = .ok (.iload 5, 2) := by decide +kernel
theorem dX7_redraw_65 : decode cX7_redraw 65 = .ok (.iconst 0, 1) := by decide +kernel
theorem dX7_redraw_66 : decode cX7_redraw 66 = .ok (.invokevirtual 142, 3) := by decide +kernel
theorem dX7_redraw_69 : decode cX7_redraw 69 = .ok (.aload_n 0, 1) := by decide +kernel
theorem dX7_redraw_70 : decode cX7_redraw 70 = .ok (.getfield 38, 3) := by decide +kernel
theorem dX7_redraw_73 : decode cX7_redraw 73 = .ok (.getfield 104, 3) := by decide +kernel
theorem dX7_redraw_76 : decode cX7_redraw 76 = .ok (.iload_n 1, 1) := by decide +kernel
theorem dX7_redraw_77 : decode cX7_redraw 77 = .ok (.iload_n 2, 1) := by decide +kernel
theorem dX7_redraw_78 : decode cX7_redraw 78 = .ok (.iastore, 1) := by decide +kernel
theorem dX7_redraw_79 : decode cX7_redraw 79 = .ok (.aload_n 0, 1) := by decide +kernel
theorem dX7_redraw_80 : decode cX7_redraw 80 = .ok (.getfield 38, 3) := by decide +kernel
theorem dX7_redraw_83 : decode cX7_redraw 83 = .ok (.getfield 107, 3) := by decide +kernel
theorem dX7_redraw_86 : decode cX7_redraw 86 = .ok (.iload_n 1, 1) := by decide +kernel
theorem dX7_redraw_87 : decode cX7_redraw 87 = .ok (.iload_n 3, 1) := by decide +kernel
theorem dX7_redraw_88 : decode cX7_redraw 88 = .ok (.iastore, 1) := by decide +kernel
theorem dX7_redraw_89 : decode cX7_redraw 89 = .ok (.bipush 10, 2) := by decide +kernel
theorem dX7_redraw_91 : decode cX7_redraw 91 = .ok (.iload 4, 2) := by decide +kernel
theorem dX7_redraw_93 : decode cX7_redraw 93 = .ok (.imul, 1) := by decide +kernel
theorem dX7_redraw_94 : decode cX7_redraw 94 = .ok (.iload 5, 2) := by decide +kernel
theorem dX7_redraw_96 : decode cX7_redraw 96 = .ok (.iadd, 1) := by decide +kernel
theorem dX7_redraw_97 : decode cX7_redraw 97 = .ok (.ireturn, 1) := by decide +kernel
theorem dX7_delay_0 : decode cX7_delay 0 = .ok (.aload_n 0, 1) := by decide +kernel
theorem dX7_delay_1 : decode cX7_delay 1 = .ok (.iload_n 1, 1) := by decide +kernel
theorem dX7_delay_2 : decode cX7_delay 2 = .ok (.invokevirtual 114, 3) := by decide +kernel
theorem dX7_delay_5 : decode cX7_delay 5 = .ok (.ifCond .ne 5, 3) := by decide +kernel
theorem dX7_delay_8 : decode cX7_delay 8 = .ok (.iconst (-1), 1) := by decide +kernel
theorem dX7_delay_9 : decode cX7_delay 9 = .ok (.ireturn, 1) := by decide +kernel
theorem dX7_delay_10 : decode cX7_delay 10 = .ok (.iload_n 2, 1) := by decide +kernel
theorem dX7_delay_11 : decode cX7_delay 11 = .ok (.ifCond .lt 9, 3) := by decide +kernel
theorem dX7_delay_14 : decode cX7_delay 14 = .ok (.iload_n 2, 1) := by decide +kernel
theorem dX7_delay_15 : decode cX7_delay 15 = .ok (.bipush 9, 2) := by decide +kernel
theorem dX7_delay_17 : decode cX7_delay 17 = .ok (.if_icmp .le 6, 3) := by decide +kernel
theorem dX7_delay_20 : decode cX7_delay 20 = .ok (.bipush (-2), 2) := by decide +kernel
theorem dX7_delay_22 : decode cX7_delay 22 = .ok (.ireturn, 1) := by decide +kernel
theorem dX7_delay_23 : decode cX7_delay 23 = .ok (.aload_n 0, 1) := by decide +kernel
theorem dX7_delay_24 : decode cX7_delay 24 = .ok (.getfield 38, 3) := by decide +kernel
theorem dX7_delay_27 : decode cX7_delay 27 = .ok (.getfield 120, 3) := by decide +kernel
theorem dX7_delay_30 : decode cX7_delay 30 = .ok (.iload_n 1, 1) := by decide +kernel
theorem dX7_delay_31 : decode cX7_delay 31 = .ok (.iaload, 1) := by decide +kernel
theorem dX7_delay_32 : decode cX7_delay 32 = .ok (.istore_n 3, 1) := by decide +kernel
theorem dX7_delay_33 : decode cX7_delay 33 = .ok (.aload_n 0, 1) := by decide +kernel
theorem dX7_delay_34 : decode cX7_delay 34 = .ok (.getfield 44, 3) := by decide +kernel
theorem dX7_delay_37 : decode cX7_delay 37 = .ok (.iconst 1, 1) := by decide +kernel
theorem dX7_delay_38 : decode cX7_delay 38 = .ok (.iload_n 1, 1) := by decide +kernel
theorem dX7_delay_39 : decode cX7_delay 39 = .ok (.iload_n 3, 1) := by decide +kernel
theorem dX7_delay_40 : decode cX7_delay 40 = .ok (.iconst 0, 1) := by decide +kernel
theorem dX7_delay_41 : decode cX7_delay 41 = .ok (.iconst 0, 1) := by decide +kernel
theorem dX7_delay_42 : decode cX7_delay 42 = .ok (.invokevirtual 142, 3) := by decide +kernel
theorem dX7_delay_45 : decode cX7_delay 45 = .ok (.aload_n 0, 1) := by decide +kernel
theorem dX7_delay_46 : decode cX7_delay 46 = .ok (.getfield 38, 3) := by decide +kernel
theorem dX7_delay_49 : decode cX7_delay 49 = .ok (.getfield 120, 3) := by decide +kernel
theorem dX7_delay_52 : decode cX7_delay 52 = .ok (.iload_n 1, 1) := by decide +kernel
theorem dX7_delay_53 : decode cX7_delay 53 = .ok (.iload_n 2, 1) := by decide +kernel
theorem dX7_delay_54 : decode cX7_delay 54 = .ok (.iastore, 1) := by decide +kernel
theorem dX7_delay_55 : decode cX7_delay 55 = .ok (.iload_n 3, 1) := by decide +kernel
theorem dX7_delay_56 : decode cX7_delay 56 = .ok (.ireturn, 1) := by decide +kernel
theorem dX7_pan_0 : decode cX7_pan 0 = .ok (.aload_n 0, 1) := by decide +kernel
theorem dX7_pan_1 : decode cX7_pan 1 = .ok (.iload_n 1, 1) := by decide +kernel
theorem dX7_pan_2 : decode cX7_pan 2 = .ok (.invokevirtual 129, 3) := by decide +kernel
theorem dX7_pan_5 : decode cX7_pan 5 = .ok (.ifCond .ne 5, 3) := by decide +kernel
theorem dX7_pan_8 : decode cX7_pan 8 = .ok (.iconst (-1), 1) := by decide +kernel
theorem dX7_pan_9 : decode cX7_pan 9 = .ok (.ireturn, 1) := by decide +kernel
theorem dX7_pan_10 : decode cX7_pan 10 = .ok (.iload_n 2, 1) := by decide +kernel
theorem dX7_pan_11 : decode cX7_pan 11 = .ok (.bipush (-9), 2) := by decide +kernel
theorem dX7_pan_13 : decode cX7_pan 13 = .ok (.if_icmp .lt 33, 3) := by decide +kernel
theorem dX7_pan_16 : decode cX7_pan 16 = .ok (.iload_n 2, 1) := by decide +kernel
theorem dX7_pan_17 : decode cX7_pan 17 = .ok (.bipush 9, 2) := by decide +kernel
theorem dX7_pan_19 : decode cX7_pan 19 = .ok (.if_icmp .gt 27, 3) := by decide +kernel
theorem dX7_pan_22 : decode cX7_pan 22 = .ok (.iload_n 3, 1) := by decide +kernel
theorem dX7_pan_23 : decode cX7_pan 23 = .ok (.bipush (-3), 2) := by decide +kernel
theorem dX7_pan_25 : decode cX7_pan 25 = .ok (.if_icmp .lt 21, 3) := by decide +kernel
theorem dX7_pan_28 : decode cX7_pan 28 = .ok (.iload_n 3, 1) := by decide +kernel
theorem dX7_pan_29 : decode cX7_pan 29 = .ok (.iconst 3, 1) := by decide +kernel
theorem dX7_pan_30 : decode cX7_pan 30 = .ok (.if_icmp .gt 16, 3) := by decide +kernel
theorem dX7_pan_33 : decode cX7_pan 33 = .ok (.iload 4, 2) := by decide +kernel
theorem dX7_pan_35 : decode cX7_pan 35 = .ok (.iconst 1, 1) := by decide +kernel
theorem dX7_pan_36 : decode cX7_pan 36 = .ok (.if_icmp .lt 10, 3) := by decide +kernel
theorem dX7_pan_39 : decode cX7_pan 39 = .ok (.iload 4, 2) := by decide +kernel
theorem dX7_pan_41 : decode cX7_pan 41 = .ok (.bipush 9, 2) := by decide +kernel
theorem dX7_pan_43 : decode cX7_pan 43 = .ok (.if_icmp .le 6, 3) := by decide +kernel
theorem dX7_pan_46 : decode cX7_pan 46 = .ok (.bipush (-2), 2) := by decide +kernel
theorem dX7_pan_48 : decode cX7_pan 48 = .ok (.ireturn, 1) := by decide +kernel
theorem dX7_pan_49 : decode cX7_pan 49 = .ok (.iload_n 1, 1) := by decide +kernel
theorem dX7_pan_50 : decode cX7_pan 50 = .ok (.invokestatic 135, 3) := by decide +kernel
theorem dX7_pan_53 : decode cX7_pan 53 = .ok (.istore 5, 2) := by decide +kernel
theorem dX7_pan_55 : decode cX7_pan 55 = .ok (.aload_n 0, 1) := by decide +kernel
theorem dX7_pan_56 : decode cX7_pan 56 = .ok (.getfield 44, 3) := by decide +kernel
theorem dX7_pan_59 : decode cX7_pan 59 = .ok (.iconst 2, 1) := by decide +kernel
theorem dX7_pan_60 : decode cX7_pan 60 = .ok (.iload 5, 2) := by decide +kernel
theorem dX7_pan_62 : decode cX7_pan 62 = .ok (.aload_n 0, 1) := by decide +kernel
theorem dX7_pan_63 : decode cX7_pan 63 = .ok (.getfield 38, 3) := by decide +kernel
theorem dX7_pan_66 : decode cX7_pan 66 = .ok (.getfield 146, 3) := by decide +kernel
theorem dX7_pan_69 : decode cX7_pan 69 = .ok (.iload 5, 2) := by decide +kernel
theorem dX7_pan_71 : decode cX7_pan 71 = .ok (.iaload, 1) := by decide +kernel
theorem dX7_pan_72 : decode cX7_pan 72 = .ok (.aload_n 0, 1) := by decide +kernel
theorem dX7_pan_73 : decode cX7_pan 73 = .ok (.getfield 38, 3) := by decide +kernel
theorem dX7_pan_76 : decode cX7_pan 76 = .ok (.getfield 149, 3) := by decide +kernel
theorem dX7_pan_79 : decode cX7_pan 79 = .ok (.iload 5, 2) := by decide +kernel
theorem dX7_pan_81 : decode cX7_pan 81 = .ok (.iaload, 1) := by decide +kernel
theorem dX7_pan_82 : decode cX7_pan 82 = .ok (.aload_n 0, 1) := by decide +kernel
theorem dX7_pan_83 : decode cX7_pan 83 = .ok (.getfield 38, 3) := by decide +kernel
theorem dX7_pan_86 : decode cX7_pan 86 = .ok (.getfield 152, 3) := by decide +kernel
theorem dX7_pan_89 : decode cX7_pan 89 = .ok (.iload 5, 2) := by decide +kernel
theorem dX7_pan_91 : decode cX7_pan 91 = .ok (.iaload, 1) := by decide +kernel
theorem dX7_pan_92 : decode cX7_pan 92 = .ok (.invokevirtual 142, 3) := by decide +kernel
theorem dX7_pan_95 : decode cX7_pan 95 = .ok (.aload_n 0, 1) := by decide +kernel
theorem dX7_pan_96 : decode cX7_pan 96 = .ok (.getfield 38, 3) := by decide +kernel
theorem dX7_pan_99 : decode cX7_pan 99 = .ok (.iload 5, 2) := by decide +kernel
theorem dX7_pan_101 : decode cX7_pan 101 = .ok (.iload_n 2, 1) := by decide +kernel
theorem dX7_pan_102 : decode cX7_pan 102 = .ok (.iload_n 3, 1) := by decide +kernel
theorem dX7_pan_103 : decode cX7_pan 103 = .ok (.iload 4, 2) := by decide +kernel
theorem dX7_pan_105 : decode cX7_pan 105 = .ok (.invokevirtual 155, 3) := by decide +kernel
theorem dX7_pan_108 : decode cX7_pan 108 = .ok (.sipush 1000, 3) := by decide +kernel
theorem dX7_pan_111 : decode cX7_pan 111 = .ok (.aload_n 0, 1) := by decide +kernel
theorem dX7_pan_112 : decode cX7_pan 112 = .ok (.getfield 38, 3) := by decide +kernel
theorem dX7_pan_115 : decode cX7_pan 115 = .ok (.iload 5, 2) := by decide +kernel
theorem dX7_pan_117 : decode cX7_pan 117 = .ok (.bipush 47, 2) := by decide +kernel
theorem dX7_pan_119 : decode cX7_pan 119 = .ok (.invokevirtual 138, 3) := by decide +kernel
theorem dX7_pan_122 : decode cX7_pan 122 = .ok (.iadd, 1) := by decide +kernel
theorem dX7_pan_123 : decode cX7_pan 123 = .ok (.ireturn, 1) := by decide +kernel
theorem dX7_swap_0 : decode cX7_swap 0 = .ok (.iload_n 1, 1) := by decide +kernel
theorem dX7_swap_1 : decode cX7_swap 1 = .ok (.invokestatic 132, 3) := by decide +kernel
theorem dX7_swap_4 : decode cX7_swap 4 = .ok (.ifCond .eq 14, 3) := by decide +kernel
theorem dX7_swap_7 : decode cX7_swap 7 = .ok (.aload_n 0, 1) := by decide +kernel
theorem dX7_swap_8 : decode cX7_swap 8 = .ok (.getfield 23, 3) := by decide +kernel
theorem dX7_swap_11 : decode cX7_swap 11 = .ok (.iload_n 2, 1) := by decide +kernel
theorem dX7_swap_12 : decode cX7_swap 12 = .ok (.invokevirtual 159, 3) := by decide +kernel
theorem dX7_swap_15 : decode cX7_swap 15 = .ok (.ifCond .ne 6, 3) := by decide +kernel
theorem dX7_swap_18 : decode cX7_swap 18 = .ok (.bipush (-2), 2) := by decide +kernel
theorem dX7_swap_20 : decode cX7_swap 20 = .ok (.ireturn, 1) := by decide +kernel
theorem dX7_swap_21 : decode cX7_swap 21 = .ok (.aload_n 0, 1) := by decide +kernel
theorem dX7_swap_22 : decode cX7_swap 22 = .ok (.getfield 38, 3) := by decide +kernel
theorem dX7_swap_25 : decode cX7_swap 25 = .ok (.getfield 162, 3) := by decide +kernel
theorem dX7_swap_28 : decode cX7_swap 28 = .ok (.iconst 4, 1) := by decide +kernel
theorem dX7_swap_29 : decode cX7_swap 29 = .ok (.if_icmp .lt 6, 3) := by decide +kernel
theorem dX7_swap_32 : decode cX7_swap 32 = .ok (.bipush (-4), 2) := by decide +kernel
theorem dX7_swap_34 : decode cX7_swap 34 = .ok (.ireturn, 1) := by decide +kernel
theorem dX7_swap_35 : decode cX7_swap 35 = .ok (.aload_n 0, 1) := by decide +kernel
theorem dX7_swap_36 : decode cX7_swap 36 = .ok (.getfield 44, 3) := by decide +kernel
theorem dX7_swap_39 : decode cX7_swap 39 = .ok (.iconst 3, 1) := by decide +kernel
theorem dX7_swap_40 : decode cX7_swap 40 = .ok (.iconst 0, 1) := by decide +kernel
theorem dX7_swap_41 : decode cX7_swap 41 = .ok (.iconst 0, 1) := by decide +kernel
theorem dX7_swap_42 : decode cX7_swap 42 = .ok (.iconst 0, 1) := by decide +kernel
theorem dX7_swap_43 : decode cX7_swap 43 = .ok (.iconst 0, 1) := by decide +kernel
theorem dX7_swap_44 : decode cX7_swap 44 = .ok (.invokevirtual 142, 3) := by decide +kernel
theorem dX7_swap_47 : decode cX7_swap 47 = .ok (.aload_n 0, 1) := by decide +kernel
theorem dX7_swap_48 : decode cX7_swap 48 = .ok (.getfield 38, 3) := by decide +kernel
theorem dX7_swap_51 : decode cX7_swap 51 = .ok (.iload_n 1, 1) := by decide +kernel
theorem dX7_swap_52 : decode cX7_swap 52 = .ok (.iload_n 2, 1) := by decide +kernel
theorem dX7_swap_53 : decode cX7_swap 53 = .ok (.invokevirtual 165, 3) := by decide +kernel
theorem dX7_swap_56 : decode cX7_swap 56 = .ok (.aload_n 0, 1) := by decide +kernel
theorem dX7_swap_57 : decode cX7_swap 57 = .ok (.getfield 38, 3) := by decide +kernel
theorem dX7_swap_60 : decode cX7_swap 60 = .ok (.getfield 162, 3) := by decide +kernel
theorem dX7_swap_63 : decode cX7_swap 63 = .ok (.ireturn, 1) := by decide +kernel
theorem dX7_back_0 : decode cX7_back 0 = .ok (.aload_n 0, 1) := by decide +kernel
theorem dX7_back_1 : decode cX7_back 1 = .ok (.getfield 38, 3) := by decide +kernel
theorem dX7_back_4 : decode cX7_back 4 = .ok (.getfield 162, 3) := by decide +kernel
theorem dX7_back_7 : decode cX7_back 7 = .ok (.iconst 1, 1) := by decide +kernel
theorem dX7_back_8 : decode cX7_back 8 = .ok (.isub, 1) := by decide +kernel
theorem dX7_back_9 : decode cX7_back 9 = .ok (.istore_n 1, 1) := by decide +kernel
theorem dX7_back_10 : decode cX7_back 10 = .ok (.iload_n 1, 1) := by decide +kernel
theorem dX7_back_11 : decode cX7_back 11 = .ok (.ifCond .ge 6, 3) := by decide +kernel
theorem dX7_back_14 : decode cX7_back 14 = .ok (.bipush (-3), 2) := by decide +kernel
theorem dX7_back_16 : decode cX7_back 16 = .ok (.ireturn, 1) := by decide +kernel
theorem dX7_back_17 : decode cX7_back 17 = .ok (.aload_n 0, 1) := by decide +kernel
theorem dX7_back_18 : decode cX7_back 18 = .ok (.getfield 44, 3) := by decide +kernel
theorem dX7_back_21 : decode cX7_back 21 = .ok (.iconst 4, 1) := by decide +kernel
theorem dX7_back_22 : decode cX7_back 22 = .ok (.iconst 0, 1) := by decide +kernel
theorem dX7_back_23 : decode cX7_back 23 = .ok (.aload_n 0, 1) := by decide +kernel
theorem dX7_back_24 : decode cX7_back 24 = .ok (.getfield 38, 3) := by decide +kernel
theorem dX7_back_27 : decode cX7_back 27 = .ok (.getfield 169, 3) := by decide +kernel
theorem dX7_back_30 : decode cX7_back 30 = .ok (.iload_n 1, 1) := by decide +kernel
theorem dX7_back_31 : decode cX7_back 31 = .ok (.iaload, 1) := by decide +kernel
theorem dX7_back_32 : decode cX7_back 32 = .ok (.aload_n 0, 1) := by decide +kernel
theorem dX7_back_33 : decode cX7_back 33 = .ok (.getfield 38, 3) := by decide +kernel
theorem dX7_back_36 : decode cX7_back 36 = .ok (.getfield 172, 3) := by decide +kernel
theorem dX7_back_39 : decode cX7_back 39 = .ok (.iload_n 1, 1) := by decide +kernel
theorem dX7_back_40 : decode cX7_back 40 = .ok (.iaload, 1) := by decide +kernel
theorem dX7_back_41 : decode cX7_back 41 = .ok (.iconst 0, 1) := by decide +kernel
theorem dX7_back_42 : decode cX7_back 42 = .ok (.invokevirtual 142, 3) := by decide +kernel
theorem dX7_back_45 : decode cX7_back 45 = .ok (.aload_n 0, 1) := by decide +kernel
theorem dX7_back_46 : decode cX7_back 46 = .ok (.getfield 38, 3) := by decide +kernel
theorem dX7_back_49 : decode cX7_back 49 = .ok (.invokevirtual 175, 3) := by decide +kernel
theorem dX7_back_52 : decode cX7_back 52 = .ok (.pop, 1) := by decide +kernel
theorem dX7_back_53 : decode cX7_back 53 = .ok (.aload_n 0, 1) := by decide +kernel
theorem dX7_back_54 : decode cX7_back 54 = .ok (.getfield 38, 3) := by decide +kernel
theorem dX7_back_57 : decode cX7_back 57 = .ok (.getfield 162, 3) := by decide +kernel
theorem dX7_back_60 : decode cX7_back 60 = .ok (.ireturn, 1) := by decide +kernel
theorem dX7_undo_0 : decode cX7_undo 0 = .ok (.aload_n 0, 1) := by decide +kernel
theorem dX7_undo_1 : decode cX7_undo 1 = .ok (.getfield 44, 3) := by decide +kernel
theorem dX7_undo_4 : decode cX7_undo 4 = .ok (.getfield 179, 3) := by decide +kernel
theorem dX7_undo_7 : decode cX7_undo 7 = .ok (.ifCond .ne 6, 3) := by decide +kernel
theorem dX7_undo_10 : decode cX7_undo 10 = .ok (.bipush (-3), 2) := by decide +kernel
theorem dX7_undo_12 : decode cX7_undo 12 = .ok (.ireturn, 1) := by decide +kernel
theorem dX7_undo_13 : decode cX7_undo 13 = .ok (.aload_n 0, 1) := by decide +kernel
theorem dX7_undo_14 : decode cX7_undo 14 = .ok (.getfield 44, 3) := by decide +kernel
theorem dX7_undo_17 : decode cX7_undo 17 = .ok (.aload_n 0, 1) := by decide +kernel
theorem dX7_undo_18 : decode cX7_undo 18 = .ok (.getfield 38, 3) := by decide +kernel
theorem dX7_undo_21 : decode cX7_undo 21 = .ok (.invokevirtual 182, 3) := by decide +kernel
theorem dX7_undo_24 : decode cX7_undo 24 = .ok (.aload_n 0, 1) := by decide +kernel
theorem dX7_undo_25 : decode cX7_undo 25 = .ok (.getfield 44, 3) := by decide +kernel
theorem dX7_undo_28 : decode cX7_undo 28 = .ok (.getfield 179, 3) := by decide +kernel
theorem dX7_undo_31 : decode cX7_undo 31 = .ok (.ireturn, 1) := by decide +kernel
theorem dX7_exposed_0 : decode cX7_exposed 0 = .ok (.aload_n 0, 1) := by decide +kernel
theorem dX7_exposed_1 : decode cX7_exposed 1 = .ok (.iload_n 1, 1) := by decide +kernel
theorem dX7_exposed_2 : decode cX7_exposed 2 = .ok (.invokevirtual 114, 3) := by decide +kernel
theorem dX7_exposed_5 : decode cX7_exposed 5 = .ok (.ifCond .ne 5, 3) := by decide +kernel
theorem dX7_exposed_8 : decode cX7_exposed 8 = .ok (.iconst (-1), 1) := by decide +kernel
theorem dX7_exposed_9 : decode cX7_exposed 9 = .ok (.ireturn, 1) := by decide +kernel
theorem dX7_exposed_10 : decode cX7_exposed 10 = .ok (.iload_n 2, 1) := by decide +kernel
theorem dX7_exposed_11 : decode cX7_exposed 11 = .ok (.invokestatic 132, 3) := by decide +kernel
theorem dX7_exposed_14 : decode cX7_exposed 14 = .ok (.ifCond .ne 6, 3) := by decide +kernel
theorem dX7_exposed_17 : decode cX7_exposed 17 = .ok (.bipush (-2), 2) := by decide +kernel
theorem dX7_exposed_19 : decode cX7_exposed 19 = .ok (.ireturn, 1) := by decide +kernel
theorem dX7_exposed_20 : decode cX7_exposed 20 = .ok (.aload_n 0, 1) := by decide +kernel
theorem dX7_exposed_21 : decode cX7_exposed 21 = .ok (.getfield 23, 3) := by decide +kernel
theorem dX7_exposed_24 : decode cX7_exposed 24 = .ok (.iload_n 1, 1) := by decide +kernel
theorem dX7_exposed_25 : decode cX7_exposed 25 = .ok (.iload_n 2, 1) := by decide +kernel
theorem dX7_exposed_26 : decode cX7_exposed 26 = .ok (.invokevirtual 186, 3) := by decide +kernel
theorem dX7_exposed_29 : decode cX7_exposed 29 = .ok (.ireturn, 1) := by decide +kernel
theorem dX7_order_0 : decode cX7_order 0 = .ok (.iload_n 1, 1) := by decide +kernel
theorem dX7_order_1 : decode cX7_order 1 = .ok (.invokestatic 132, 3) := by decide +kernel
theorem dX7_order_4 : decode cX7_order 4 = .ok (.ifCond .ne 6, 3) := by decide +kernel
theorem dX7_order_7 : decode cX7_order 7 = .ok (.bipush (-2), 2) := by decide +kernel
theorem dX7_order_9 : decode cX7_order 9 = .ok (.ireturn, 1) := by decide +kernel
theorem dX7_order_10 : decode cX7_order 10 = .ok (.aload_n 0, 1) := by decide +kernel
theorem dX7_order_11 : decode cX7_order 11 = .ok (.getfield 23, 3) := by decide +kernel
theorem dX7_order_14 : decode cX7_order 14 = .ok (.iload_n 1, 1) := by decide +kernel
theorem dX7_order_15 : decode cX7_order 15 = .ok (.invokevirtual 189, 3) := by decide +kernel
theorem dX7_order_18 : decode cX7_order 18 = .ok (.ireturn, 1) := by decide +kernel
theorem dX7_look_0 : decode cX7_look 0 = .ok (.iload_n 1, 1) := by decide +kernel
theorem dX7_look_1 : decode cX7_look 1 = .ok (.invokestatic 132, 3) := by decide +kernel
theorem dX7_look_4 : decode cX7_look 4 = .ok (.ifCond .eq 10, 3) := by decide +kernel
theorem dX7_look_7 : decode cX7_look 7 = .ok (.iload_n 2, 1) := by decide +kernel
theorem dX7_look_8 : decode cX7_look 8 = .ok (.invokestatic 192, 3) := by decide +kernel
theorem dX7_look_11 : decode cX7_look 11 = .ok (.ifCond .ne 6, 3) := by decide +kernel
theorem dX7_look_14 : decode cX7_look 14 = .ok (.bipush (-2), 2) := by decide +kernel
theorem dX7_look_16 : decode cX7_look 16 = .ok (.ireturn, 1) := by decide +kernel
theorem dX7_look_17 : decode cX7_look 17 = .ok (.aload_n 0, 1) := by decide +kernel
theorem dX7_look_18 : decode cX7_look 18 = .ok (.getfield 23, 3) := by decide +kernel
theorem dX7_look_21 : decode cX7_look 21 = .ok (.iload_n 1, 1) := by decide +kernel
theorem dX7_look_22 : decode cX7_look 22 = .ok (.iload_n 2, 1) := by decide +kernel
theorem dX7_look_23 : decode cX7_look 23 = .ok (.iconst (-1), 1) := by decide +kernel
theorem dX7_look_24 : decode cX7_look 24 = .ok (.invokevirtual 195, 3) := by decide +kernel
theorem dX7_look_27 : decode cX7_look 27 = .ok (.ireturn, 1) := by decide +kernel
theorem dX7_ask_0 : decode cX7_ask 0 = .ok (.iload_n 1, 1) := by decide +kernel
theorem dX7_ask_1 : decode cX7_ask 1 = .ok (.lookupswitch 43 #[(0, 27), (1, 35)], 27) := by decide +kernel
theorem dX7_ask_28 : decode cX7_ask 28 = .ok (.aload_n 0, 1) := by decide +kernel
theorem dX7_ask_29 : decode cX7_ask 29 = .ok (.getfield 23, 3) := by decide +kernel
theorem dX7_ask_32 : decode cX7_ask 32 = .ok (.invokevirtual 199, 3) := by decide +kernel
theorem dX7_ask_35 : decode cX7_ask 35 = .ok (.ireturn, 1) := by decide +kernel
theorem dX7_ask_36 : decode cX7_ask 36 = .ok (.aload_n 0, 1) := by decide +kernel
theorem dX7_ask_37 : decode cX7_ask 37 = .ok (.getfield 23, 3) := by decide +kernel
theorem dX7_ask_40 : decode cX7_ask 40 = .ok (.invokevirtual 203, 3) := by decide +kernel
theorem dX7_ask_43 : decode cX7_ask 43 = .ok (.ireturn, 1) := by decide +kernel
theorem dX7_ask_44 : decode cX7_ask 44 = .ok (.bipush (-2), 2) := by decide +kernel
theorem dX7_ask_46 : decode cX7_ask 46 = .ok (.ireturn, 1) := by decide +kernel
theorem dX7_judge_0 : decode cX7_judge 0 = .ok (.iload_n 1, 1) := by decide +kernel
theorem dX7_judge_1 : decode cX7_judge 1 = .ok (.iconst 1, 1) := by decide +kernel
theorem dX7_judge_2 : decode cX7_judge 2 = .ok (.if_icmp .lt 14, 3) := by decide +kernel
theorem dX7_judge_5 : decode cX7_judge 5 = .ok (.iload_n 1, 1) := by decide +kernel
theorem dX7_judge_6 : decode cX7_judge 6 = .ok (.iconst 4, 1) := by decide +kernel
theorem dX7_judge_7 : decode cX7_judge 7 = .ok (.if_icmp .gt 9, 3) := by decide +kernel
theorem dX7_judge_10 : decode cX7_judge 10 = .ok (.lload_n 2, 1) := by decide +kernel
theorem dX7_judge_11 : decode cX7_judge 11 = .ok (.lconst 0, 1) := by decide +kernel
theorem dX7_judge_12 : decode cX7_judge 12 = .ok (.lcmp, 1) := by decide +kernel
theorem dX7_judge_13 : decode cX7_judge 13 = .ok (.ifCond .ge 6, 3) := by decide +kernel
theorem dX7_judge_16 : decode cX7_judge 16 = .ok (.bipush (-2), 2) := by decide +kernel
theorem dX7_judge_18 : decode cX7_judge 18 = .ok (.ireturn, 1) := by decide +kernel
theorem dX7_judge_19 : decode cX7_judge 19 = .ok (.lconst 1, 1) := by decide +kernel
theorem dX7_judge_20 : decode cX7_judge 20 = .ok (.lstore 4, 2) := by decide +kernel
theorem dX7_judge_22 : decode cX7_judge 22 = .ok (.iconst 0, 1) := by decide +kernel
theorem dX7_judge_23 : decode cX7_judge 23 = .ok (.istore 6, 2) := by decide +kernel
theorem dX7_judge_25 : decode cX7_judge 25 = .ok (.iload 6, 2) := by decide +kernel
theorem dX7_judge_27 : decode cX7_judge 27 = .ok (.iload_n 1, 1) := by decide +kernel
theorem dX7_judge_28 : decode cX7_judge 28 = .ok (.if_icmp .ge 17, 3) := by decide +kernel
theorem dX7_judge_31 : decode cX7_judge 31 = .ok (.lload 4, 2) := by decide +kernel
theorem dX7_judge_33 : decode cX7_judge 33 = .ok (.ldc2_w 206, 3) := by decide +kernel
theorem dX7_judge_36 : decode cX7_judge 36 = .ok (.lmul, 1) := by decide +kernel
theorem dX7_judge_37 : decode cX7_judge 37 = .ok (.lstore 4, 2) := by decide +kernel
theorem dX7_judge_39 : decode cX7_judge 39 = .ok (.iinc 6 1, 3) := by decide +kernel
theorem dX7_judge_42 : decode cX7_judge 42 = .ok (.goto (-17), 3) := by decide +kernel
theorem dX7_judge_45 : decode cX7_judge 45 = .ok (.lload_n 2, 1) := by decide +kernel
theorem dX7_judge_46 : decode cX7_judge 46 = .ok (.lload 4, 2) := by decide +kernel
theorem dX7_judge_48 : decode cX7_judge 48 = .ok (.lcmp, 1) := by decide +kernel
theorem dX7_judge_49 : decode cX7_judge 49 = .ok (.ifCond .lt 6, 3) := by decide +kernel
theorem dX7_judge_52 : decode cX7_judge 52 = .ok (.bipush (-2), 2) := by decide +kernel
theorem dX7_judge_54 : decode cX7_judge 54 = .ok (.ireturn, 1) := by decide +kernel
theorem dX7_judge_55 : decode cX7_judge 55 = .ok (.aload_n 0, 1) := by decide +kernel
theorem dX7_judge_56 : decode cX7_judge 56 = .ok (.getfield 58, 3) := by decide +kernel
theorem dX7_judge_59 : decode cX7_judge 59 = .ok (.aload_n 0, 1) := by decide +kernel
theorem dX7_judge_60 : decode cX7_judge 60 = .ok (.getfield 38, 3) := by decide +kernel
theorem dX7_judge_63 : decode cX7_judge 63 = .ok (.invokevirtual 208, 3) := by decide +kernel
theorem dX7_judge_66 : decode cX7_judge 66 = .ok (.aload_n 0, 1) := by decide +kernel
theorem dX7_judge_67 : decode cX7_judge 67 = .ok (.iload_n 1, 1) := by decide +kernel
theorem dX7_judge_68 : decode cX7_judge 68 = .ok (.lload_n 2, 1) := by decide +kernel
theorem dX7_judge_69 : decode cX7_judge 69 = .ok (.invokevirtual 210, 3) := by decide +kernel
theorem dX7_judge_72 : decode cX7_judge 72 = .ok (.istore 6, 2) := by decide +kernel
theorem dX7_judge_74 : decode cX7_judge 74 = .ok (.aload_n 0, 1) := by decide +kernel
theorem dX7_judge_75 : decode cX7_judge 75 = .ok (.getfield 38, 3) := by decide +kernel
theorem dX7_judge_78 : decode cX7_judge 78 = .ok (.aload_n 0, 1) := by decide +kernel
theorem dX7_judge_79 : decode cX7_judge 79 = .ok (.getfield 58, 3) := by decide +kernel
theorem dX7_judge_82 : decode cX7_judge 82 = .ok (.invokevirtual 208, 3) := by decide +kernel
theorem dX7_judge_85 : decode cX7_judge 85 = .ok (.iload 6, 2) := by decide +kernel
theorem dX7_judge_87 : decode cX7_judge 87 = .ok (.ireturn, 1) := by decide +kernel
theorem dX7_see_0 : decode cX7_see 0 = .ok (.iload_n 1, 1) := by decide +kernel
theorem dX7_see_1 : decode cX7_see 1 = .ok (.invokestatic 132, 3) := by decide +kernel
theorem dX7_see_4 : decode cX7_see 4 = .ok (.ifCond .eq 26, 3) := by decide +kernel
theorem dX7_see_7 : decode cX7_see 7 = .ok (.iload_n 2, 1) := by decide +kernel
theorem dX7_see_8 : decode cX7_see 8 = .ok (.invokestatic 192, 3) := by decide +kernel
theorem dX7_see_11 : decode cX7_see 11 = .ok (.ifCond .eq 19, 3) := by decide +kernel
theorem dX7_see_14 : decode cX7_see 14 = .ok (.iload_n 3, 1) := by decide +kernel
theorem dX7_see_15 : decode cX7_see 15 = .ok (.bipush (-9), 2) := by decide +kernel
theorem dX7_see_17 : decode cX7_see 17 = .ok (.if_icmp .eq 16, 3) := by decide +kernel
theorem dX7_see_20 : decode cX7_see 20 = .ok (.iload_n 3, 1) := by decide +kernel
theorem dX7_see_21 : decode cX7_see 21 = .ok (.ifCond .lt 9, 3) := by decide +kernel
theorem dX7_see_24 : decode cX7_see 24 = .ok (.iload_n 3, 1) := by decide +kernel
theorem dX7_see_25 : decode cX7_see 25 = .ok (.bipush 39, 2) := by decide +kernel
theorem dX7_see_27 : decode cX7_see 27 = .ok (.if_icmp .le 6, 3) := by decide +kernel
theorem dX7_see_30 : decode cX7_see 30 = .ok (.bipush (-2), 2) := by decide +kernel
theorem dX7_see_32 : decode cX7_see 32 = .ok (.ireturn, 1) := by decide +kernel
theorem dX7_see_33 : decode cX7_see 33 = .ok (.aload_n 0, 1) := by decide +kernel
theorem dX7_see_34 : decode cX7_see 34 = .ok (.getfield 51, 3) := by decide +kernel
theorem dX7_see_37 : decode cX7_see 37 = .ok (.getfield 214, 3) := by decide +kernel
theorem dX7_see_40 : decode cX7_see 40 = .ok (.bipush 6, 2) := by decide +kernel
theorem dX7_see_42 : decode cX7_see 42 = .ok (.if_icmp .lt 6, 3) := by decide +kernel
theorem dX7_see_45 : decode cX7_see 45 = .ok (.bipush (-4), 2) := by decide +kernel
theorem dX7_see_47 : decode cX7_see 47 = .ok (.ireturn, 1) := by decide +kernel
theorem dX7_see_48 : decode cX7_see 48 = .ok (.aload_n 0, 1) := by decide +kernel
theorem dX7_see_49 : decode cX7_see 49 = .ok (.getfield 51, 3) := by decide +kernel
theorem dX7_see_52 : decode cX7_see 52 = .ok (.iload_n 1, 1) := by decide +kernel
theorem dX7_see_53 : decode cX7_see 53 = .ok (.iload_n 2, 1) := by decide +kernel
theorem dX7_see_54 : decode cX7_see 54 = .ok (.iload_n 3, 1) := by decide +kernel
theorem dX7_see_55 : decode cX7_see 55 = .ok (.invokevirtual 215, 3) := by decide +kernel
theorem dX7_see_58 : decode cX7_see 58 = .ok (.aload_n 0, 1) := by decide +kernel
theorem dX7_see_59 : decode cX7_see 59 = .ok (.getfield 51, 3) := by decide +kernel
theorem dX7_see_62 : decode cX7_see 62 = .ok (.getfield 214, 3) := by decide +kernel
theorem dX7_see_65 : decode cX7_see 65 = .ok (.ireturn, 1) := by decide +kernel
theorem dX7_unsee_0 : decode cX7_unsee 0 = .ok (.aload_n 0, 1) := by decide +kernel
theorem dX7_unsee_1 : decode cX7_unsee 1 = .ok (.getfield 51, 3) := by decide +kernel
theorem dX7_unsee_4 : decode cX7_unsee 4 = .ok (.getfield 214, 3) := by decide +kernel
theorem dX7_unsee_7 : decode cX7_unsee 7 = .ok (.istore_n 1, 1) := by decide +kernel
theorem dX7_unsee_8 : decode cX7_unsee 8 = .ok (.aload_n 0, 1) := by decide +kernel
theorem dX7_unsee_9 : decode cX7_unsee 9 = .ok (.getfield 51, 3) := by decide +kernel
theorem dX7_unsee_12 : decode cX7_unsee 12 = .ok (.invokevirtual 218, 3) := by decide +kernel
theorem dX7_unsee_15 : decode cX7_unsee 15 = .ok (.iload_n 1, 1) := by decide +kernel
theorem dX7_unsee_16 : decode cX7_unsee 16 = .ok (.ireturn, 1) := by decide +kernel
theorem dX7_which_0 : decode cX7_which 0 = .ok (.iconst 0, 1) := by decide +kernel
theorem dX7_which_1 : decode cX7_which 1 = .ok (.istore_n 1, 1) := by decide +kernel
theorem dX7_which_2 : decode cX7_which 2 = .ok (.iconst 0, 1) := by decide +kernel
theorem dX7_which_3 : decode cX7_which 3 = .ok (.istore_n 2, 1) := by decide +kernel
theorem dX7_which_4 : decode cX7_which 4 = .ok (.iload_n 2, 1) := by decide +kernel
theorem dX7_which_5 : decode cX7_which 5 = .ok (.aload_n 0, 1) := by decide +kernel
theorem dX7_which_6 : decode cX7_which 6 = .ok (.getfield 31, 3) := by decide +kernel
theorem dX7_which_9 : decode cX7_which 9 = .ok (.getfield 219, 3) := by decide +kernel
theorem dX7_which_12 : decode cX7_which 12 = .ok (.if_icmp .ge 30, 3) := by decide +kernel
theorem dX7_which_15 : decode cX7_which 15 = .ok (.aload_n 0, 1) := by decide +kernel
theorem dX7_which_16 : decode cX7_which 16 = .ok (.getfield 51, 3) := by decide +kernel
theorem dX7_which_19 : decode cX7_which 19 = .ok (.iload_n 2, 1) := by decide +kernel
theorem dX7_which_20 : decode cX7_which 20 = .ok (.aload_n 0, 1) := by decide +kernel
theorem dX7_which_21 : decode cX7_which 21 = .ok (.getfield 23, 3) := by decide +kernel
theorem dX7_which_24 : decode cX7_which 24 = .ok (.invokevirtual 222, 3) := by decide +kernel
theorem dX7_which_27 : decode cX7_which 27 = .ok (.ifCond .eq 9, 3) := by decide +kernel
theorem dX7_which_30 : decode cX7_which 30 = .ok (.iload_n 1, 1) := by decide +kernel
theorem dX7_which_31 : decode cX7_which 31 = .ok (.iconst 1, 1) := by decide +kernel
theorem dX7_which_32 : decode cX7_which 32 = .ok (.iload_n 2, 1) := by decide +kernel
theorem dX7_which_33 : decode cX7_which 33 = .ok (.ishl, 1) := by decide +kernel
theorem dX7_which_34 : decode cX7_which 34 = .ok (.ior, 1) := by decide +kernel
theorem dX7_which_35 : decode cX7_which 35 = .ok (.istore_n 1, 1) := by decide +kernel
theorem dX7_which_36 : decode cX7_which 36 = .ok (.iinc 2 1, 3) := by decide +kernel
theorem dX7_which_39 : decode cX7_which 39 = .ok (.goto (-35), 3) := by decide +kernel
theorem dX7_which_42 : decode cX7_which 42 = .ok (.iload_n 1, 1) := by decide +kernel
theorem dX7_which_43 : decode cX7_which 43 = .ok (.ireturn, 1) := by decide +kernel
theorem dX7_share_0 : decode cX7_share 0 = .ok (.aload_n 0, 1) := by decide +kernel
theorem dX7_share_1 : decode cX7_share 1 = .ok (.iload_n 1, 1) := by decide +kernel
theorem dX7_share_2 : decode cX7_share 2 = .ok (.invokevirtual 114, 3) := by decide +kernel
theorem dX7_share_5 : decode cX7_share 5 = .ok (.ifCond .ne 5, 3) := by decide +kernel
theorem dX7_share_8 : decode cX7_share 8 = .ok (.iconst (-1), 1) := by decide +kernel
theorem dX7_share_9 : decode cX7_share 9 = .ok (.ireturn, 1) := by decide +kernel
theorem dX7_share_10 : decode cX7_share 10 = .ok (.aload_n 0, 1) := by decide +kernel
theorem dX7_share_11 : decode cX7_share 11 = .ok (.getfield 23, 3) := by decide +kernel
theorem dX7_share_14 : decode cX7_share 14 = .ok (.iload_n 1, 1) := by decide +kernel
theorem dX7_share_15 : decode cX7_share 15 = .ok (.invokevirtual 226, 3) := by decide +kernel
theorem dX7_share_18 : decode cX7_share 18 = .ok (.bipush 12, 2) := by decide +kernel
theorem dX7_share_20 : decode cX7_share 20 = .ok (.iload_n 2, 1) := by decide +kernel
theorem dX7_share_21 : decode cX7_share 21 = .ok (.invokestatic 229, 3) := by decide +kernel
theorem dX7_share_24 : decode cX7_share 24 = .ok (.ireturn, 1) := by decide +kernel
theorem dX7_lost_0 : decode cX7_lost 0 = .ok (.iload_n 1, 1) := by decide +kernel
theorem dX7_lost_1 : decode cX7_lost 1 = .ok (.invokestatic 132, 3) := by decide +kernel
theorem dX7_lost_4 : decode cX7_lost 4 = .ok (.ifCond .eq 20, 3) := by decide +kernel
theorem dX7_lost_7 : decode cX7_lost 7 = .ok (.iload_n 2, 1) := by decide +kernel
theorem dX7_lost_8 : decode cX7_lost 8 = .ok (.invokestatic 192, 3) := by decide +kernel
theorem dX7_lost_11 : decode cX7_lost 11 = .ok (.ifCond .eq 13, 3) := by decide +kernel
theorem dX7_lost_14 : decode cX7_lost 14 = .ok (.iload_n 3, 1) := by decide +kernel
theorem dX7_lost_15 : decode cX7_lost 15 = .ok (.ifCond .lt 9, 3) := by decide +kernel
theorem dX7_lost_18 : decode cX7_lost 18 = .ok (.iload_n 3, 1) := by decide +kernel
theorem dX7_lost_19 : decode cX7_lost 19 = .ok (.bipush 10, 2) := by decide +kernel
theorem dX7_lost_21 : decode cX7_lost 21 = .ok (.if_icmp .le 6, 3) := by decide +kernel
theorem dX7_lost_24 : decode cX7_lost 24 = .ok (.bipush (-2), 2) := by decide +kernel
theorem dX7_lost_26 : decode cX7_lost 26 = .ok (.ireturn, 1) := by decide +kernel
theorem dX7_lost_27 : decode cX7_lost 27 = .ok (.aload_n 0, 1) := by decide +kernel
theorem dX7_lost_28 : decode cX7_lost 28 = .ok (.getfield 23, 3) := by decide +kernel
theorem dX7_lost_31 : decode cX7_lost 31 = .ok (.iload_n 1, 1) := by decide +kernel
theorem dX7_lost_32 : decode cX7_lost 32 = .ok (.iload_n 2, 1) := by decide +kernel
theorem dX7_lost_33 : decode cX7_lost 33 = .ok (.invokevirtual 233, 3) := by decide +kernel
theorem dX7_lost_36 : decode cX7_lost 36 = .ok (.istore 5, 2) := by decide +kernel
theorem dX7_lost_38 : decode cX7_lost 38 = .ok (.iconst 1, 1) := by decide +kernel
theorem dX7_lost_39 : decode cX7_lost 39 = .ok (.istore 6, 2) := by decide +kernel
theorem dX7_lost_41 : decode cX7_lost 41 = .ok (.iconst 1, 1) := by decide +kernel
theorem dX7_lost_42 : decode cX7_lost 42 = .ok (.istore 7, 2) := by decide +kernel
theorem dX7_lost_44 : decode cX7_lost 44 = .ok (.iconst 0, 1) := by decide +kernel
theorem dX7_lost_45 : decode cX7_lost 45 = .ok (.istore 8, 2) := by decide +kernel
theorem dX7_lost_47 : decode cX7_lost 47 = .ok (.iload 8, 2) := by decide +kernel
theorem dX7_lost_49 : decode cX7_lost 49 = .ok (.iload 5, 2) := by decide +kernel
theorem dX7_lost_51 : decode cX7_lost 51 = .ok (.if_icmp .ge 22, 3) := by decide +kernel
theorem dX7_lost_54 : decode cX7_lost 54 = .ok (.iload 6, 2) := by decide +kernel
theorem dX7_lost_56 : decode cX7_lost 56 = .ok (.bipush 10, 2) := by decide +kernel
theorem dX7_lost_58 : decode cX7_lost 58 = .ok (.imul, 1) := by decide +kernel
theorem dX7_lost_59 : decode cX7_lost 59 = .ok (.istore 6, 2) := by decide +kernel
theorem dX7_lost_61 : decode cX7_lost 61 = .ok (.iload 7, 2) := by decide +kernel
theorem dX7_lost_63 : decode cX7_lost 63 = .ok (.iload_n 3, 1) := by decide +kernel
theorem dX7_lost_64 : decode cX7_lost 64 = .ok (.imul, 1) := by decide +kernel
theorem dX7_lost_65 : decode cX7_lost 65 = .ok (.istore 7, 2) := by decide +kernel
theorem dX7_lost_67 : decode cX7_lost 67 = .ok (.iinc 8 1, 3) := by decide +kernel
theorem dX7_lost_70 : decode cX7_lost 70 = .ok (.goto (-23), 3) := by decide +kernel
theorem dX7_lost_73 : decode cX7_lost 73 = .ok (.iload 6, 2) := by decide +kernel
theorem dX7_lost_75 : decode cX7_lost 75 = .ok (.iload 7, 2) := by decide +kernel
theorem dX7_lost_77 : decode cX7_lost 77 = .ok (.isub, 1) := by decide +kernel
theorem dX7_lost_78 : decode cX7_lost 78 = .ok (.iload 6, 2) := by decide +kernel
theorem dX7_lost_80 : decode cX7_lost 80 = .ok (.iload 4, 2) := by decide +kernel
theorem dX7_lost_82 : decode cX7_lost 82 = .ok (.invokestatic 229, 3) := by decide +kernel
theorem dX7_lost_85 : decode cX7_lost 85 = .ok (.ireturn, 1) := by decide +kernel
theorem dX7_seed_0 : decode cX7_seed 0 = .ok (.aload_n 0, 1) := by decide +kernel
theorem dX7_seed_1 : decode cX7_seed 1 = .ok (.getfield 236, 3) := by decide +kernel
theorem dX7_seed_4 : decode cX7_seed 4 = .ok (.lstore_n 3, 1) := by decide +kernel
theorem dX7_seed_5 : decode cX7_seed 5 = .ok (.aload_n 0, 1) := by decide +kernel
theorem dX7_seed_6 : decode cX7_seed 6 = .ok (.lload_n 1, 1) := by decide +kernel
theorem dX7_seed_7 : decode cX7_seed 7 = .ok (.putfield 236, 3) := by decide +kernel
theorem dX7_seed_10 : decode cX7_seed 10 = .ok (.lload_n 3, 1) := by decide +kernel
theorem dX7_seed_11 : decode cX7_seed 11 = .ok (.lreturn, 1) := by decide +kernel
theorem dX7_looks_0 : decode cX7_looks 0 = .ok (.iload_n 1, 1) := by decide +kernel
theorem dX7_looks_1 : decode cX7_looks 1 = .ok (.iconst 1, 1) := by decide +kernel
theorem dX7_looks_2 : decode cX7_looks 2 = .ok (.if_icmp .lt 9, 3) := by decide +kernel
theorem dX7_looks_5 : decode cX7_looks 5 = .ok (.iload_n 1, 1) := by decide +kernel
theorem dX7_looks_6 : decode cX7_looks 6 = .ok (.bipush 40, 2) := by decide +kernel
theorem dX7_looks_8 : decode cX7_looks 8 = .ok (.if_icmp .le 6, 3) := by decide +kernel
theorem dX7_looks_11 : decode cX7_looks 11 = .ok (.bipush (-2), 2) := by decide +kernel
theorem dX7_looks_13 : decode cX7_looks 13 = .ok (.ireturn, 1) := by decide +kernel
theorem dX7_looks_14 : decode cX7_looks 14 = .ok (.iconst 0, 1) := by decide +kernel
theorem dX7_looks_15 : decode cX7_looks 15 = .ok (.istore_n 2, 1) := by decide +kernel
theorem dX7_looks_16 : decode cX7_looks 16 = .ok (.iconst 0, 1) := by decide +kernel
theorem dX7_looks_17 : decode cX7_looks 17 = .ok (.istore_n 3, 1) := by decide +kernel
theorem dX7_looks_18 : decode cX7_looks 18 = .ok (.iload_n 3, 1) := by decide +kernel
theorem dX7_looks_19 : decode cX7_looks 19 = .ok (.iload_n 1, 1) := by decide +kernel
theorem dX7_looks_20 : decode cX7_looks 20 = .ok (.if_icmp .ge 64, 3) := by decide +kernel
theorem dX7_looks_23 : decode cX7_looks 23 = .ok (.aload_n 0, 1) := by decide +kernel
theorem dX7_looks_24 : decode cX7_looks 24 = .ok (.aload_n 0, 1) := by decide +kernel
theorem dX7_looks_25 : decode cX7_looks 25 = .ok (.getfield 236, 3) := by decide +kernel
theorem dX7_looks_28 : decode cX7_looks 28 = .ok (.ldc2_w 240, 3) := by decide +kernel
theorem dX7_looks_31 : decode cX7_looks 31 = .ok (.lmul, 1) := by decide +kernel
theorem dX7_looks_32 : decode cX7_looks 32 = .ok (.ldc2_w 242, 3) := by decide +kernel
theorem dX7_looks_35 : decode cX7_looks 35 = .ok (.ladd, 1) := by decide +kernel
theorem dX7_looks_36 : decode cX7_looks 36 = .ok (.putfield 236, 3) := by decide +kernel
theorem dX7_looks_39 : decode cX7_looks 39 = .ok (.aload_n 0, 1) := by decide +kernel
theorem dX7_looks_40 : decode cX7_looks 40 = .ok (.getfield 236, 3) := by decide +kernel
theorem dX7_looks_43 : decode cX7_looks 43 = .ok (.bipush 33, 2) := by decide +kernel
theorem dX7_looks_45 : decode cX7_looks 45 = .ok (.lushr, 1) := by decide +kernel
theorem dX7_looks_46 : decode cX7_looks 46 = .ok (.l2i, 1) := by decide +kernel
theorem dX7_looks_47 : decode cX7_looks 47 = .ok (.istore 4, 2) := by decide +kernel
theorem dX7_looks_49 : decode cX7_looks 49 = .ok (.aload_n 0, 1) := by decide +kernel
theorem dX7_looks_50 : decode cX7_looks 50 = .ok (.getfield 23, 3) := by decide +kernel
theorem dX7_looks_53 : decode cX7_looks 53 = .ok (.iload 4, 2) := by decide +kernel
theorem dX7_looks_55 : decode cX7_looks 55 = .ok (.bipush 48, 2) := by decide +kernel
theorem dX7_looks_57 : decode cX7_looks 57 = .ok (.irem, 1) := by decide +kernel
theorem dX7_looks_58 : decode cX7_looks 58 = .ok (.iload 4, 2) := by decide +kernel
theorem dX7_looks_60 : decode cX7_looks 60 = .ok (.bipush 48, 2) := by decide +kernel
theorem dX7_looks_62 : decode cX7_looks 62 = .ok (.idiv, 1) := by decide +kernel
theorem dX7_looks_63 : decode cX7_looks 63 = .ok (.bipush 10, 2) := by decide +kernel
theorem dX7_looks_65 : decode cX7_looks 65 = .ok (.irem, 1) := by decide +kernel
theorem dX7_looks_66 : decode cX7_looks 66 = .ok (.iconst (-1), 1) := by decide +kernel
theorem dX7_looks_67 : decode cX7_looks 67 = .ok (.invokevirtual 195, 3) := by decide +kernel
theorem dX7_looks_70 : decode cX7_looks 70 = .ok (.bipush (-9), 2) := by decide +kernel
theorem dX7_looks_72 : decode cX7_looks 72 = .ok (.if_icmp .eq 6, 3) := by decide +kernel
theorem dX7_looks_75 : decode cX7_looks 75 = .ok (.iinc 2 1, 3) := by decide +kernel
theorem dX7_looks_78 : decode cX7_looks 78 = .ok (.iinc 3 1, 3) := by decide +kernel
theorem dX7_looks_81 : decode cX7_looks 81 = .ok (.goto (-63), 3) := by decide +kernel
theorem dX7_looks_84 : decode cX7_looks 84 = .ok (.iload_n 2, 1) := by decide +kernel
theorem dX7_looks_85 : decode cX7_looks 85 = .ok (.ireturn, 1) := by decide +kernel
theorem dX7_keep_0 : decode cX7_keep 0 = .ok (.iload_n 1, 1) := by decide +kernel
theorem dX7_keep_1 : decode cX7_keep 1 = .ok (.ifCond .lt 8, 3) := by decide +kernel
theorem dX7_keep_4 : decode cX7_keep 4 = .ok (.iload_n 1, 1) := by decide +kernel
theorem dX7_keep_5 : decode cX7_keep 5 = .ok (.iconst 2, 1) := by decide +kernel
theorem dX7_keep_6 : decode cX7_keep 6 = .ok (.if_icmp .lt 5, 3) := by decide +kernel
theorem dX7_keep_9 : decode cX7_keep 9 = .ok (.iconst (-1), 1) := by decide +kernel
theorem dX7_keep_10 : decode cX7_keep 10 = .ok (.ireturn, 1) := by decide +kernel
theorem dX7_keep_11 : decode cX7_keep 11 = .ok (.aload_n 0, 1) := by decide +kernel
theorem dX7_keep_12 : decode cX7_keep 12 = .ok (.iload_n 1, 1) := by decide +kernel
theorem dX7_keep_13 : decode cX7_keep 13 = .ok (.invokevirtual 244, 3) := by decide +kernel
theorem dX7_keep_16 : decode cX7_keep 16 = .ok (.aload_n 0, 1) := by decide +kernel
theorem dX7_keep_17 : decode cX7_keep 17 = .ok (.getfield 38, 3) := by decide +kernel
theorem dX7_keep_20 : decode cX7_keep 20 = .ok (.invokevirtual 208, 3) := by decide +kernel
theorem dX7_keep_23 : decode cX7_keep 23 = .ok (.aload_n 0, 1) := by decide +kernel
theorem dX7_keep_24 : decode cX7_keep 24 = .ok (.getfield 67, 3) := by decide +kernel
theorem dX7_keep_27 : decode cX7_keep 27 = .ok (.iload_n 1, 1) := by decide +kernel
theorem dX7_keep_28 : decode cX7_keep 28 = .ok (.iconst 1, 1) := by decide +kernel
theorem dX7_keep_29 : decode cX7_keep 29 = .ok (.bastore, 1) := by decide +kernel
theorem dX7_keep_30 : decode cX7_keep 30 = .ok (.aload_n 0, 1) := by decide +kernel
theorem dX7_keep_31 : decode cX7_keep 31 = .ok (.getfield 38, 3) := by decide +kernel
theorem dX7_keep_34 : decode cX7_keep 34 = .ok (.getfield 162, 3) := by decide +kernel
theorem dX7_keep_37 : decode cX7_keep 37 = .ok (.ireturn, 1) := by decide +kernel
theorem dX7_again_0 : decode cX7_again 0 = .ok (.iload_n 1, 1) := by decide +kernel
theorem dX7_again_1 : decode cX7_again 1 = .ok (.ifCond .lt 8, 3) := by decide +kernel
theorem dX7_again_4 : decode cX7_again 4 = .ok (.iload_n 1, 1) := by decide +kernel
theorem dX7_again_5 : decode cX7_again 5 = .ok (.iconst 2, 1) := by decide +kernel
theorem dX7_again_6 : decode cX7_again 6 = .ok (.if_icmp .lt 5, 3) := by decide +kernel
theorem dX7_again_9 : decode cX7_again 9 = .ok (.iconst (-1), 1) := by decide +kernel
theorem dX7_again_10 : decode cX7_again 10 = .ok (.ireturn, 1) := by decide +kernel
theorem dX7_again_11 : decode cX7_again 11 = .ok (.aload_n 0, 1) := by decide +kernel
theorem dX7_again_12 : decode cX7_again 12 = .ok (.getfield 67, 3) := by decide +kernel
theorem dX7_again_15 : decode cX7_again 15 = .ok (.iload_n 1, 1) := by decide +kernel
theorem dX7_again_16 : decode cX7_again 16 = .ok (.baload, 1) := by decide +kernel
theorem dX7_again_17 : decode cX7_again 17 = .ok (.ifCond .ne 6, 3) := by decide +kernel
theorem dX7_again_20 : decode cX7_again 20 = .ok (.bipush (-3), 2) := by decide +kernel
theorem dX7_again_22 : decode cX7_again 22 = .ok (.ireturn, 1) := by decide +kernel
theorem dX7_again_23 : decode cX7_again 23 = .ok (.aload_n 0, 1) := by decide +kernel
theorem dX7_again_24 : decode cX7_again 24 = .ok (.getfield 38, 3) := by decide +kernel
theorem dX7_again_27 : decode cX7_again 27 = .ok (.aload_n 0, 1) := by decide +kernel
theorem dX7_again_28 : decode cX7_again 28 = .ok (.iload_n 1, 1) := by decide +kernel
theorem dX7_again_29 : decode cX7_again 29 = .ok (.invokevirtual 244, 3) := by decide +kernel
theorem dX7_again_32 : decode cX7_again 32 = .ok (.invokevirtual 208, 3) := by decide +kernel
theorem dX7_again_35 : decode cX7_again 35 = .ok (.aload_n 0, 1) := by decide +kernel
theorem dX7_again_36 : decode cX7_again 36 = .ok (.getfield 44, 3) := by decide +kernel
theorem dX7_again_39 : decode cX7_again 39 = .ok (.invokevirtual 94, 3) := by decide +kernel
theorem dX7_again_42 : decode cX7_again 42 = .ok (.aload_n 0, 1) := by decide +kernel
theorem dX7_again_43 : decode cX7_again 43 = .ok (.getfield 38, 3) := by decide +kernel
theorem dX7_again_46 : decode cX7_again 46 = .ok (.getfield 162, 3) := by decide +kernel
theorem dX7_again_49 : decode cX7_again 49 = .ok (.ireturn, 1) := by decide +kernel
theorem dX7_count_0 : decode cX7_count 0 = .ok (.iload_n 1, 1) := by decide +kernel
theorem dX7_count_1 : decode cX7_count 1 = .ok (.tableswitch 84 0 5 #[39, 44, 52, 60, 68, 76], 39) := by decide +kernel
theorem dX7_count_40 : decode cX7_count 40 = .ok (.aload_n 0, 1) := by decide +kernel
theorem dX7_count_41 : decode cX7_count 41 = .ok (.getfield 71, 3) := by decide +kernel
theorem dX7_count_44 : decode cX7_count 44 = .ok (.ireturn, 1) := by decide +kernel
theorem dX7_count_45 : decode cX7_count 45 = .ok (.aload_n 0, 1) := by decide +kernel
theorem dX7_count_46 : decode cX7_count 46 = .ok (.getfield 31, 3) := by decide +kernel
theorem dX7_count_49 : decode cX7_count 49 = .ok (.getfield 219, 3) := by decide +kernel
theorem dX7_count_52 : decode cX7_count 52 = .ok (.ireturn, 1) := by decide +kernel
theorem dX7_count_53 : decode cX7_count 53 = .ok (.aload_n 0, 1) := by decide +kernel
theorem dX7_count_54 : decode cX7_count 54 = .ok (.getfield 31, 3) := by decide +kernel
theorem dX7_count_57 : decode cX7_count 57 = .ok (.getfield 97, 3) := by decide +kernel
theorem dX7_count_60 : decode cX7_count 60 = .ok (.ireturn, 1) := by decide +kernel
theorem dX7_count_61 : decode cX7_count 61 = .ok (.aload_n 0, 1) := by decide +kernel
theorem dX7_count_62 : decode cX7_count 62 = .ok (.getfield 38, 3) := by decide +kernel
theorem dX7_count_65 : decode cX7_count 65 = .ok (.getfield 162, 3) := by decide +kernel
theorem dX7_count_68 : decode cX7_count 68 = .ok (.ireturn, 1) := by decide +kernel
theorem dX7_count_69 : decode cX7_count 69 = .ok (.aload_n 0, 1) := by decide +kernel
theorem dX7_count_70 : decode cX7_count 70 = .ok (.getfield 44, 3) := by decide +kernel
theorem dX7_count_73 : decode cX7_count 73 = .ok (.getfield 179, 3) := by decide +kernel
theorem dX7_count_76 : decode cX7_count 76 = .ok (.ireturn, 1) := by decide +kernel
theorem dX7_count_77 : decode cX7_count 77 = .ok (.aload_n 0, 1) := by decide +kernel
theorem dX7_count_78 : decode cX7_count 78 = .ok (.getfield 51, 3) := by decide +kernel
theorem dX7_count_81 : decode cX7_count 81 = .ok (.getfield 214, 3) := by decide +kernel
theorem dX7_count_84 : decode cX7_count 84 = .ok (.ireturn, 1) := by decide +kernel
theorem dX7_count_85 : decode cX7_count 85 = .ok (.bipush (-2), 2) := by decide +kernel
theorem dX7_count_87 : decode cX7_count 87 = .ok (.ireturn, 1) := by decide +kernel
theorem dX7_isDrawing_0 : decode cX7_isDrawing 0 = .ok (.iload_n 1, 1) := by decide +kernel
theorem dX7_isDrawing_1 : decode cX7_isDrawing 1 = .ok (.ifCond .lt 18, 3) := by decide +kernel
theorem dX7_isDrawing_4 : decode cX7_isDrawing 4 = .ok (.iload_n 1, 1) := by decide +kernel
theorem dX7_isDrawing_5 : decode cX7_isDrawing 5 = .ok (.aload_n 0, 1) := by decide +kernel
theorem dX7_isDrawing_6 : decode cX7_isDrawing 6 = .ok (.getfield 31, 3) := by decide +kernel
theorem dX7_isDrawing_9 : decode cX7_isDrawing 9 = .ok (.getfield 219, 3) := by decide +kernel
theorem dX7_isDrawing_12 : decode cX7_isDrawing 12 = .ok (.if_icmp .ge 7, 3) := by decide +kernel
theorem dX7_isDrawing_15 : decode cX7_isDrawing 15 = .ok (.iconst 1, 1) := by decide +kernel
theorem dX7_isDrawing_16 : decode cX7_isDrawing 16 = .ok (.goto 4, 3) := by decide +kernel
theorem dX7_isDrawing_19 : decode cX7_isDrawing 19 = .ok (.iconst 0, 1) := by decide +kernel
theorem dX7_isDrawing_20 : decode cX7_isDrawing 20 = .ok (.ireturn, 1) := by decide +kernel
theorem dX7_isLevel_0 : decode cX7_isLevel 0 = .ok (.iload_n 1, 1) := by decide +kernel
theorem dX7_isLevel_1 : decode cX7_isLevel 1 = .ok (.ifCond .lt 18, 3) := by decide +kernel
theorem dX7_isLevel_4 : decode cX7_isLevel 4 = .ok (.iload_n 1, 1) := by decide +kernel
theorem dX7_isLevel_5 : decode cX7_isLevel 5 = .ok (.aload_n 0, 1) := by decide +kernel
theorem dX7_isLevel_6 : decode cX7_isLevel 6 = .ok (.getfield 31, 3) := by decide +kernel
theorem dX7_isLevel_9 : decode cX7_isLevel 9 = .ok (.getfield 97, 3) := by decide +kernel
theorem dX7_isLevel_12 : decode cX7_isLevel 12 = .ok (.if_icmp .ge 7, 3) := by decide +kernel
theorem dX7_isLevel_15 : decode cX7_isLevel 15 = .ok (.iconst 1, 1) := by decide +kernel
theorem dX7_isLevel_16 : decode cX7_isLevel 16 = .ok (.goto 4, 3) := by decide +kernel
theorem dX7_isLevel_19 : decode cX7_isLevel 19 = .ok (.iconst 0, 1) := by decide +kernel
theorem dX7_isLevel_20 : decode cX7_isLevel 20 = .ok (.ireturn, 1) := by decide +kernel
theorem dX7_hasPan_0 : decode cX7_hasPan 0 = .ok (.iload_n 1, 1) := by decide +kernel
theorem dX7_hasPan_1 : decode cX7_hasPan 1 = .ok (.bipush 9, 2) := by decide +kernel
theorem dX7_hasPan_3 : decode cX7_hasPan 3 = .ok (.if_icmp .eq 11, 3) := by decide +kernel
theorem dX7_hasPan_6 : decode cX7_hasPan 6 = .ok (.aload_n 0, 1) := by decide +kernel
theorem dX7_hasPan_7 : decode cX7_hasPan 7 = .ok (.iload_n 1, 1) := by decide +kernel
theorem dX7_hasPan_8 : decode cX7_hasPan 8 = .ok (.invokevirtual 114, 3) := by decide +kernel
theorem dX7_hasPan_11 : decode cX7_hasPan 11 = .ok (.ifCond .eq 7, 3) := by decide +kernel
theorem dX7_hasPan_14 : decode cX7_hasPan 14 = .ok (.iconst 1, 1) := by decide +kernel
theorem dX7_hasPan_15 : decode cX7_hasPan 15 = .ok (.goto 4, 3) := by decide +kernel
theorem dX7_hasPan_18 : decode cX7_hasPan 18 = .ok (.iconst 0, 1) := by decide +kernel
theorem dX7_hasPan_19 : decode cX7_hasPan 19 = .ok (.ireturn, 1) := by decide +kernel
theorem dX7_panOf_0 : decode cX7_panOf 0 = .ok (.iload_n 0, 1) := by decide +kernel
theorem dX7_panOf_1 : decode cX7_panOf 1 = .ok (.bipush 9, 2) := by decide +kernel
theorem dX7_panOf_3 : decode cX7_panOf 3 = .ok (.if_icmp .ne 7, 3) := by decide +kernel
theorem dX7_panOf_6 : decode cX7_panOf 6 = .ok (.iconst 4, 1) := by decide +kernel
theorem dX7_panOf_7 : decode cX7_panOf 7 = .ok (.goto 4, 3) := by decide +kernel
theorem dX7_panOf_10 : decode cX7_panOf 10 = .ok (.iload_n 0, 1) := by decide +kernel
theorem dX7_panOf_11 : decode cX7_panOf 11 = .ok (.ireturn, 1) := by decide +kernel
theorem dX7_isFrame_0 : decode cX7_isFrame 0 = .ok (.iload_n 0, 1) := by decide +kernel
theorem dX7_isFrame_1 : decode cX7_isFrame 1 = .ok (.ifCond .lt 13, 3) := by decide +kernel
theorem dX7_isFrame_4 : decode cX7_isFrame 4 = .ok (.iload_n 0, 1) := by decide +kernel
theorem dX7_isFrame_5 : decode cX7_isFrame 5 = .ok (.bipush 48, 2) := by decide +kernel
theorem dX7_isFrame_7 : decode cX7_isFrame 7 = .ok (.if_icmp .ge 7, 3) := by decide +kernel
theorem dX7_isFrame_10 : decode cX7_isFrame 10 = .ok (.iconst 1, 1) := by decide +kernel
theorem dX7_isFrame_11 : decode cX7_isFrame 11 = .ok (.goto 4, 3) := by decide +kernel
theorem dX7_isFrame_14 : decode cX7_isFrame 14 = .ok (.iconst 0, 1) := by decide +kernel
theorem dX7_isFrame_15 : decode cX7_isFrame 15 = .ok (.ireturn, 1) := by decide +kernel
theorem dX7_isWindow_0 : decode cX7_isWindow 0 = .ok (.iload_n 0, 1) := by decide +kernel
theorem dX7_isWindow_1 : decode cX7_isWindow 1 = .ok (.ifCond .lt 13, 3) := by decide +kernel
theorem dX7_isWindow_4 : decode cX7_isWindow 4 = .ok (.iload_n 0, 1) := by decide +kernel
theorem dX7_isWindow_5 : decode cX7_isWindow 5 = .ok (.bipush 10, 2) := by decide +kernel
theorem dX7_isWindow_7 : decode cX7_isWindow 7 = .ok (.if_icmp .ge 7, 3) := by decide +kernel
theorem dX7_isWindow_10 : decode cX7_isWindow 10 = .ok (.iconst 1, 1) := by decide +kernel
theorem dX7_isWindow_11 : decode cX7_isWindow 11 = .ok (.goto 4, 3) := by decide +kernel
theorem dX7_isWindow_14 : decode cX7_isWindow 14 = .ok (.iconst 0, 1) := by decide +kernel
theorem dX7_isWindow_15 : decode cX7_isWindow 15 = .ok (.ireturn, 1) := by decide +kernel
theorem dX7_keptIn_0 : decode cX7_keptIn 0 = .ok (.iload_n 1, 1) := by decide +kernel
theorem dX7_keptIn_1 : decode cX7_keptIn 1 = .ok (.ifCond .ne 10, 3) := by decide +kernel
theorem dX7_keptIn_4 : decode cX7_keptIn 4 = .ok (.aload_n 0, 1) := by decide +kernel
theorem dX7_keptIn_5 : decode cX7_keptIn 5 = .ok (.getfield 61, 3) := by decide +kernel
theorem dX7_keptIn_8 : decode cX7_keptIn 8 = .ok (.goto 7, 3) := by decide +kernel
theorem dX7_keptIn_11 : decode cX7_keptIn 11 = .ok (.aload_n 0, 1) := by decide +kernel
theorem dX7_keptIn_12 : decode cX7_keptIn 12 = .ok (.getfield 64, 3) := by decide +kernel
theorem dX7_keptIn_15 : decode cX7_keptIn 15 = .ok (.areturn, 1) := by decide +kernel
theorem dX7_firstThatCanNotBe_0 : decode cX7_firstThatCanNotBe 0 = .ok (.lconst 1, 1) := by decide +kernel
theorem dX7_firstThatCanNotBe_1 : decode cX7_firstThatCanNotBe 1 = .ok (.lstore 4, 2) := by decide +kernel
theorem dX7_firstThatCanNotBe_3 : decode cX7_firstThatCanNotBe 3 = .ok (.iconst 1, 1) := by decide +kernel
theorem dX7_firstThatCanNotBe_4 : decode cX7_firstThatCanNotBe 4 = .ok (.istore 6, 2) := by decide +kernel
theorem dX7_firstThatCanNotBe_6 : decode cX7_firstThatCanNotBe 6 = .ok (.iload 6, 2) := by decide +kernel
theorem dX7_firstThatCanNotBe_8 : decode cX7_firstThatCanNotBe 8 = .ok (.iload_n 1, 1) := by decide +kernel
theorem dX7_firstThatCanNotBe_9 : decode cX7_firstThatCanNotBe 9 = .ok (.if_icmp .ge 17, 3) := by decide +kernel
theorem dX7_firstThatCanNotBe_12 : decode cX7_firstThatCanNotBe 12 = .ok (.lload 4, 2) := by decide +kernel
theorem dX7_firstThatCanNotBe_14 : decode cX7_firstThatCanNotBe 14 = .ok (.ldc2_w 206, 3) := by decide +kernel
theorem dX7_firstThatCanNotBe_17 : decode cX7_firstThatCanNotBe 17 = .ok (.lmul, 1) := by decide +kernel
theorem dX7_firstThatCanNotBe_18 : decode cX7_firstThatCanNotBe 18 = .ok (.lstore 4, 2) := by decide +kernel
theorem dX7_firstThatCanNotBe_20 : decode cX7_firstThatCanNotBe 20 = .ok (.iinc 6 1, 3) := by decide +kernel
theorem dX7_firstThatCanNotBe_23 : decode cX7_firstThatCanNotBe 23 = .ok (.goto (-17), 3) := by decide +kernel
theorem dX7_firstThatCanNotBe_26 : decode cX7_firstThatCanNotBe 26 = .ok (.iconst 0, 1) := by decide +kernel
theorem dX7_firstThatCanNotBe_27 : decode cX7_firstThatCanNotBe 27 = .ok (.istore 6, 2) := by decide +kernel
theorem dX7_firstThatCanNotBe_29 : decode cX7_firstThatCanNotBe 29 = .ok (.iload 6, 2) := by decide +kernel
theorem dX7_firstThatCanNotBe_31 : decode cX7_firstThatCanNotBe 31 = .ok (.iload_n 1, 1) := by decide +kernel
theorem dX7_firstThatCanNotBe_32 : decode cX7_firstThatCanNotBe 32 = .ok (.if_icmp .ge 43, 3) := by decide +kernel
theorem dX7_firstThatCanNotBe_35 : decode cX7_firstThatCanNotBe 35 = .ok (.lload 4, 2) := by decide +kernel
theorem dX7_firstThatCanNotBe_37 : decode cX7_firstThatCanNotBe 37 = .ok (.lconst 1, 1) := by decide +kernel
theorem dX7_firstThatCanNotBe_38 : decode cX7_firstThatCanNotBe 38 = .ok (.lcmp, 1) := by decide +kernel
theorem dX7_firstThatCanNotBe_39 : decode cX7_firstThatCanNotBe 39 = .ok (.ifCond .lt 19, 3) := by decide +kernel
theorem dX7_firstThatCanNotBe_42 : decode cX7_firstThatCanNotBe 42 = .ok (.aload_n 0, 1) := by decide +kernel
theorem dX7_firstThatCanNotBe_43 : decode cX7_firstThatCanNotBe 43 = .ok (.lload_n 2, 1) := by decide +kernel
theorem dX7_firstThatCanNotBe_44 : decode cX7_firstThatCanNotBe 44 = .ok (.lload 4, 2) := by decide +kernel
theorem dX7_firstThatCanNotBe_46 : decode cX7_firstThatCanNotBe 46 = .ok (.ldiv, 1) := by decide +kernel
theorem dX7_firstThatCanNotBe_47 : decode cX7_firstThatCanNotBe 47 = .ok (.ldc2_w 206, 3) := by decide +kernel
theorem dX7_firstThatCanNotBe_50 : decode cX7_firstThatCanNotBe 50 = .ok (.lrem, 1) := by decide +kernel
theorem dX7_firstThatCanNotBe_51 : decode cX7_firstThatCanNotBe 51 = .ok (.l2i, 1) := by decide +kernel
theorem dX7_firstThatCanNotBe_52 : decode cX7_firstThatCanNotBe 52 = .ok (.invokevirtual 248, 3) := by decide +kernel
theorem dX7_firstThatCanNotBe_55 : decode cX7_firstThatCanNotBe 55 = .ok (.ifCond .ne 6, 3) := by decide +kernel
theorem dX7_firstThatCanNotBe_58 : decode cX7_firstThatCanNotBe 58 = .ok (.iload 6, 2) := by decide +kernel
theorem dX7_firstThatCanNotBe_60 : decode cX7_firstThatCanNotBe 60 = .ok (.ireturn, 1) := by decide +kernel
theorem dX7_firstThatCanNotBe_61 : decode cX7_firstThatCanNotBe 61 = .ok (.lload 4, 2) := by decide +kernel
theorem dX7_firstThatCanNotBe_63 : decode cX7_firstThatCanNotBe 63 = .ok (.ldc2_w 206, 3) := by decide +kernel
theorem dX7_firstThatCanNotBe_66 : decode cX7_firstThatCanNotBe 66 = .ok (.ldiv, 1) := by decide +kernel
theorem dX7_firstThatCanNotBe_67 : decode cX7_firstThatCanNotBe 67 = .ok (.lstore 4, 2) := by decide +kernel
theorem dX7_firstThatCanNotBe_69 : decode cX7_firstThatCanNotBe 69 = .ok (.iinc 6 1, 3) := by decide +kernel
theorem dX7_firstThatCanNotBe_72 : decode cX7_firstThatCanNotBe 72 = .ok (.goto (-43), 3) := by decide +kernel
theorem dX7_firstThatCanNotBe_75 : decode cX7_firstThatCanNotBe 75 = .ok (.bipush (-9), 2) := by decide +kernel
theorem dX7_firstThatCanNotBe_77 : decode cX7_firstThatCanNotBe 77 = .ok (.ireturn, 1) := by decide +kernel
theorem dX7_comesTrue_0 : decode cX7_comesTrue 0 = .ok (.iload_n 1, 1) := by decide +kernel
theorem dX7_comesTrue_1 : decode cX7_comesTrue 1 = .ok (.bipush 100, 2) := by decide +kernel
theorem dX7_comesTrue_3 : decode cX7_comesTrue 3 = .ok (.idiv, 1) := by decide +kernel
theorem dX7_comesTrue_4 : decode cX7_comesTrue 4 = .ok (.bipush 10, 2) := by decide +kernel
theorem dX7_comesTrue_6 : decode cX7_comesTrue 6 = .ok (.irem, 1) := by decide +kernel
theorem dX7_comesTrue_7 : decode cX7_comesTrue 7 = .ok (.istore_n 2, 1) := by decide +kernel
theorem dX7_comesTrue_8 : decode cX7_comesTrue 8 = .ok (.iload_n 1, 1) := by decide +kernel
theorem dX7_comesTrue_9 : decode cX7_comesTrue 9 = .ok (.bipush 10, 2) := by decide +kernel
theorem dX7_comesTrue_11 : decode cX7_comesTrue 11 = .ok (.idiv, 1) := by decide +kernel
theorem dX7_comesTrue_12 : decode cX7_comesTrue 12 = .ok (.bipush 10, 2) := by decide +kernel
theorem dX7_comesTrue_14 : decode cX7_comesTrue 14 = .ok (.irem, 1) := by decide +kernel
theorem dX7_comesTrue_15 : decode cX7_comesTrue 15 = .ok (.istore_n 3, 1) := by decide +kernel
theorem dX7_comesTrue_16 : decode cX7_comesTrue 16 = .ok (.iload_n 1, 1) := by decide +kernel
theorem dX7_comesTrue_17 : decode cX7_comesTrue 17 = .ok (.bipush 10, 2) := by decide +kernel
theorem dX7_comesTrue_19 : decode cX7_comesTrue 19 = .ok (.irem, 1) := by decide +kernel
theorem dX7_comesTrue_20 : decode cX7_comesTrue 20 = .ok (.istore 4, 2) := by decide +kernel
theorem dX7_comesTrue_22 : decode cX7_comesTrue 22 = .ok (.iload_n 1, 1) := by decide +kernel
theorem dX7_comesTrue_23 : decode cX7_comesTrue 23 = .ok (.bipush 10, 2) := by decide +kernel
theorem dX7_comesTrue_25 : decode cX7_comesTrue 25 = .ok (.idiv, 1) := by decide +kernel
theorem dX7_comesTrue_26 : decode cX7_comesTrue 26 = .ok (.bipush 100, 2) := by decide +kernel
theorem dX7_comesTrue_28 : decode cX7_comesTrue 28 = .ok (.irem, 1) := by decide +kernel
theorem dX7_comesTrue_29 : decode cX7_comesTrue 29 = .ok (.istore 5, 2) := by decide +kernel
theorem dX7_comesTrue_31 : decode cX7_comesTrue 31 = .ok (.iload_n 1, 1) := by decide +kernel
theorem dX7_comesTrue_32 : decode cX7_comesTrue 32 = .ok (.sipush 1000, 3) := by decide +kernel
theorem dX7_comesTrue_35 : decode cX7_comesTrue 35 = .ok (.idiv, 1) := by decide +kernel
theorem dX7_comesTrue_36 : decode cX7_comesTrue 36 = .ok (.tableswitch 235 1 7 #[44, 64, 103, 134, 143, 167, 212], 44) := by decide +kernel
theorem dX7_comesTrue_80 : decode cX7_comesTrue 80 = .ok (.iload_n 3, 1) := by decide +kernel
theorem dX7_comesTrue_81 : decode cX7_comesTrue 81 = .ok (.ifCond .ne 17, 3) := by decide +kernel
theorem dX7_comesTrue_84 : decode cX7_comesTrue 84 = .ok (.aload_n 0, 1) := by decide +kernel
theorem dX7_comesTrue_85 : decode cX7_comesTrue 85 = .ok (.iload_n 2, 1) := by decide +kernel
theorem dX7_comesTrue_86 : decode cX7_comesTrue 86 = .ok (.iload 4, 2) := by decide +kernel
theorem dX7_comesTrue_88 : decode cX7_comesTrue 88 = .ok (.invokevirtual 251, 3) := by decide +kernel
theorem dX7_comesTrue_91 : decode cX7_comesTrue 91 = .ok (.ifCond .eq 7, 3) := by decide +kernel
theorem dX7_comesTrue_94 : decode cX7_comesTrue 94 = .ok (.iconst 1, 1) := by decide +kernel
theorem dX7_comesTrue_95 : decode cX7_comesTrue 95 = .ok (.goto 4, 3) := by decide +kernel
theorem dX7_comesTrue_98 : decode cX7_comesTrue 98 = .ok (.iconst 0, 1) := by decide +kernel
theorem dX7_comesTrue_99 : decode cX7_comesTrue 99 = .ok (.ireturn, 1) := by decide +kernel
theorem dX7_comesTrue_100 : decode cX7_comesTrue 100 = .ok (.iload 5, 2) := by decide +kernel
theorem dX7_comesTrue_102 : decode cX7_comesTrue 102 = .ok (.invokestatic 132, 3) := by decide +kernel
theorem dX7_comesTrue_105 : decode cX7_comesTrue 105 = .ok (.ifCond .eq 32, 3) := by decide +kernel
theorem dX7_comesTrue_108 : decode cX7_comesTrue 108 = .ok (.aload_n 0, 1) := by decide +kernel
theorem dX7_comesTrue_109 : decode cX7_comesTrue 109 = .ok (.iload 4, 2) := by decide +kernel
theorem dX7_comesTrue_111 : decode cX7_comesTrue 111 = .ok (.invokevirtual 114, 3) := by decide +kernel
theorem dX7_comesTrue_114 : decode cX7_comesTrue 114 = .ok (.ifCond .eq 23, 3) := by decide +kernel
theorem dX7_comesTrue_117 : decode cX7_comesTrue 117 = .ok (.aload_n 0, 1) := by decide +kernel
theorem dX7_comesTrue_118 : decode cX7_comesTrue 118 = .ok (.getfield 23, 3) := by decide +kernel
theorem dX7_comesTrue_121 : decode cX7_comesTrue 121 = .ok (.iload 4, 2) := by decide +kernel
theorem dX7_comesTrue_123 : decode cX7_comesTrue 123 = .ok (.iload 5, 2) := by decide +kernel
theorem dX7_comesTrue_125 : decode cX7_comesTrue 125 = .ok (.invokevirtual 186, 3) := by decide +kernel
theorem dX7_comesTrue_128 : decode cX7_comesTrue 128 = .ok (.bipush (-9), 2) := by decide +kernel
theorem dX7_comesTrue_130 : decode cX7_comesTrue 130 = .ok (.if_icmp .eq 7, 3) := by decide +kernel
theorem dX7_comesTrue_133 : decode cX7_comesTrue 133 = .ok (.iconst 1, 1) := by decide +kernel
theorem dX7_comesTrue_134 : decode cX7_comesTrue 134 = .ok (.goto 4, 3) := by decide +kernel
theorem dX7_comesTrue_137 : decode cX7_comesTrue 137 = .ok (.iconst 0, 1) := by decide +kernel
theorem dX7_comesTrue_138 : decode cX7_comesTrue 138 = .ok (.ireturn, 1) := by decide +kernel
theorem dX7_comesTrue_139 : decode cX7_comesTrue 139 = .ok (.iload 5, 2) := by decide +kernel
theorem dX7_comesTrue_141 : decode cX7_comesTrue 141 = .ok (.invokestatic 132, 3) := by decide +kernel
theorem dX7_comesTrue_144 : decode cX7_comesTrue 144 = .ok (.ifCond .eq 24, 3) := by decide +kernel
theorem dX7_comesTrue_147 : decode cX7_comesTrue 147 = .ok (.aload_n 0, 1) := by decide +kernel
theorem dX7_comesTrue_148 : decode cX7_comesTrue 148 = .ok (.getfield 23, 3) := by decide +kernel
theorem dX7_comesTrue_151 : decode cX7_comesTrue 151 = .ok (.iload 5, 2) := by decide +kernel
theorem dX7_comesTrue_153 : decode cX7_comesTrue 153 = .ok (.iload 4, 2) := by decide +kernel
theorem dX7_comesTrue_155 : decode cX7_comesTrue 155 = .ok (.iconst (-1), 1) := by decide +kernel
theorem dX7_comesTrue_156 : decode cX7_comesTrue 156 = .ok (.invokevirtual 195, 3) := by decide +kernel
theorem dX7_comesTrue_159 : decode cX7_comesTrue 159 = .ok (.bipush (-9), 2) := by decide +kernel
theorem dX7_comesTrue_161 : decode cX7_comesTrue 161 = .ok (.if_icmp .eq 7, 3) := by decide +kernel
theorem dX7_comesTrue_164 : decode cX7_comesTrue 164 = .ok (.iconst 1, 1) := by decide +kernel
theorem dX7_comesTrue_165 : decode cX7_comesTrue 165 = .ok (.goto 4, 3) := by decide +kernel
theorem dX7_comesTrue_168 : decode cX7_comesTrue 168 = .ok (.iconst 0, 1) := by decide +kernel
theorem dX7_comesTrue_169 : decode cX7_comesTrue 169 = .ok (.ireturn, 1) := by decide +kernel
theorem dX7_comesTrue_170 : decode cX7_comesTrue 170 = .ok (.aload_n 0, 1) := by decide +kernel
theorem dX7_comesTrue_171 : decode cX7_comesTrue 171 = .ok (.iload_n 2, 1) := by decide +kernel
theorem dX7_comesTrue_172 : decode cX7_comesTrue 172 = .ok (.iload_n 3, 1) := by decide +kernel
theorem dX7_comesTrue_173 : decode cX7_comesTrue 173 = .ok (.iload 4, 2) := by decide +kernel
theorem dX7_comesTrue_175 : decode cX7_comesTrue 175 = .ok (.invokevirtual 255, 3) := by decide +kernel
theorem dX7_comesTrue_178 : decode cX7_comesTrue 178 = .ok (.ireturn, 1) := by decide +kernel
theorem dX7_comesTrue_179 : decode cX7_comesTrue 179 = .ok (.iload_n 2, 1) := by decide +kernel
theorem dX7_comesTrue_180 : decode cX7_comesTrue 180 = .ok (.ifCond .ne 21, 3) := by decide +kernel
theorem dX7_comesTrue_183 : decode cX7_comesTrue 183 = .ok (.aload_n 0, 1) := by decide +kernel
theorem dX7_comesTrue_184 : decode cX7_comesTrue 184 = .ok (.getfield 23, 3) := by decide +kernel
theorem dX7_comesTrue_187 : decode cX7_comesTrue 187 = .ok (.invokevirtual 203, 3) := by decide +kernel
theorem dX7_comesTrue_190 : decode cX7_comesTrue 190 = .ok (.iload_n 1, 1) := by decide +kernel
theorem dX7_comesTrue_191 : decode cX7_comesTrue 191 = .ok (.bipush 100, 2) := by decide +kernel
theorem dX7_comesTrue_193 : decode cX7_comesTrue 193 = .ok (.irem, 1) := by decide +kernel
theorem dX7_comesTrue_194 : decode cX7_comesTrue 194 = .ok (.if_icmp .ne 7, 3) := by decide +kernel
theorem dX7_comesTrue_197 : decode cX7_comesTrue 197 = .ok (.iconst 1, 1) := by decide +kernel
theorem dX7_comesTrue_198 : decode cX7_comesTrue 198 = .ok (.goto 4, 3) := by decide +kernel
theorem dX7_comesTrue_201 : decode cX7_comesTrue 201 = .ok (.iconst 0, 1) := by decide +kernel
theorem dX7_comesTrue_202 : decode cX7_comesTrue 202 = .ok (.ireturn, 1) := by decide +kernel
theorem dX7_comesTrue_203 : decode cX7_comesTrue 203 = .ok (.iload 5, 2) := by decide +kernel
theorem dX7_comesTrue_205 : decode cX7_comesTrue 205 = .ok (.invokestatic 132, 3) := by decide +kernel
theorem dX7_comesTrue_208 : decode cX7_comesTrue 208 = .ok (.ifCond .eq 38, 3) := by decide +kernel
theorem dX7_comesTrue_211 : decode cX7_comesTrue 211 = .ok (.aload_n 0, 1) := by decide +kernel
theorem dX7_comesTrue_212 : decode cX7_comesTrue 212 = .ok (.iload 4, 2) := by decide +kernel
theorem dX7_comesTrue_214 : decode cX7_comesTrue 214 = .ok (.invokevirtual 114, 3) := by decide +kernel
theorem dX7_comesTrue_217 : decode cX7_comesTrue 217 = .ok (.ifCond .eq 29, 3) := by decide +kernel
theorem dX7_comesTrue_220 : decode cX7_comesTrue 220 = .ok (.aload_n 0, 1) := by decide +kernel
theorem dX7_comesTrue_221 : decode cX7_comesTrue 221 = .ok (.getfield 23, 3) := by decide +kernel
theorem dX7_comesTrue_224 : decode cX7_comesTrue 224 = .ok (.aload_n 0, 1) := by decide +kernel
theorem dX7_comesTrue_225 : decode cX7_comesTrue 225 = .ok (.getfield 23, 3) := by decide +kernel
theorem dX7_comesTrue_228 : decode cX7_comesTrue 228 = .ok (.iload 5, 2) := by decide +kernel
theorem dX7_comesTrue_230 : decode cX7_comesTrue 230 = .ok (.invokevirtual 189, 3) := by decide +kernel
theorem dX7_comesTrue_233 : decode cX7_comesTrue 233 = .ok (.iconst 0, 1) := by decide +kernel
theorem dX7_comesTrue_234 : decode cX7_comesTrue 234 = .ok (.invokevirtual 259, 3) := by decide +kernel
theorem dX7_comesTrue_237 : decode cX7_comesTrue 237 = .ok (.iload 4, 2) := by decide +kernel
theorem dX7_comesTrue_239 : decode cX7_comesTrue 239 = .ok (.if_icmp .ne 7, 3) := by decide +kernel
theorem dX7_comesTrue_242 : decode cX7_comesTrue 242 = .ok (.iconst 1, 1) := by decide +kernel
theorem dX7_comesTrue_243 : decode cX7_comesTrue 243 = .ok (.goto 4, 3) := by decide +kernel
theorem dX7_comesTrue_246 : decode cX7_comesTrue 246 = .ok (.iconst 0, 1) := by decide +kernel
theorem dX7_comesTrue_247 : decode cX7_comesTrue 247 = .ok (.ireturn, 1) := by decide +kernel
theorem dX7_comesTrue_248 : decode cX7_comesTrue 248 = .ok (.iload_n 1, 1) := by decide +kernel
theorem dX7_comesTrue_249 : decode cX7_comesTrue 249 = .ok (.sipush 7000, 3) := by decide +kernel
theorem dX7_comesTrue_252 : decode cX7_comesTrue 252 = .ok (.if_icmp .ne 17, 3) := by decide +kernel
theorem dX7_comesTrue_255 : decode cX7_comesTrue 255 = .ok (.aload_n 0, 1) := by decide +kernel
theorem dX7_comesTrue_256 : decode cX7_comesTrue 256 = .ok (.getfield 38, 3) := by decide +kernel
theorem dX7_comesTrue_259 : decode cX7_comesTrue 259 = .ok (.invokevirtual 175, 3) := by decide +kernel
theorem dX7_comesTrue_262 : decode cX7_comesTrue 262 = .ok (.ifCond .eq 7, 3) := by decide +kernel
theorem dX7_comesTrue_265 : decode cX7_comesTrue 265 = .ok (.iconst 1, 1) := by decide +kernel
theorem dX7_comesTrue_266 : decode cX7_comesTrue 266 = .ok (.goto 4, 3) := by decide +kernel
theorem dX7_comesTrue_269 : decode cX7_comesTrue 269 = .ok (.iconst 0, 1) := by decide +kernel
theorem dX7_comesTrue_270 : decode cX7_comesTrue 270 = .ok (.ireturn, 1) := by decide +kernel
theorem dX7_comesTrue_271 : decode cX7_comesTrue 271 = .ok (.iconst 0, 1) := by decide +kernel
theorem dX7_comesTrue_272 : decode cX7_comesTrue 272 = .ok (.ireturn, 1) := by decide +kernel
theorem dX7_delayForNow_0 : decode cX7_delayForNow 0 = .ok (.aload_n 0, 1) := by decide +kernel
theorem dX7_delayForNow_1 : decode cX7_delayForNow 1 = .ok (.iload_n 1, 1) := by decide +kernel
theorem dX7_delayForNow_2 : decode cX7_delayForNow 2 = .ok (.invokevirtual 114, 3) := by decide +kernel
theorem dX7_delayForNow_5 : decode cX7_delayForNow 5 = .ok (.ifCond .ne 5, 3) := by decide +kernel
theorem dX7_delayForNow_8 : decode cX7_delayForNow 8 = .ok (.iconst 0, 1) := by decide +kernel
theorem dX7_delayForNow_9 : decode cX7_delayForNow 9 = .ok (.ireturn, 1) := by decide +kernel
theorem dX7_delayForNow_10 : decode cX7_delayForNow 10 = .ok (.aload_n 0, 1) := by decide +kernel
theorem dX7_delayForNow_11 : decode cX7_delayForNow 11 = .ok (.getfield 38, 3) := by decide +kernel
theorem dX7_delayForNow_14 : decode cX7_delayForNow 14 = .ok (.getfield 120, 3) := by decide +kernel
theorem dX7_delayForNow_17 : decode cX7_delayForNow 17 = .ok (.iload_n 1, 1) := by decide +kernel
theorem dX7_delayForNow_18 : decode cX7_delayForNow 18 = .ok (.iload_n 2, 1) := by decide +kernel
theorem dX7_delayForNow_19 : decode cX7_delayForNow 19 = .ok (.iastore, 1) := by decide +kernel
theorem dX7_delayForNow_20 : decode cX7_delayForNow 20 = .ok (.iconst 1, 1) := by decide +kernel
theorem dX7_delayForNow_21 : decode cX7_delayForNow 21 = .ok (.ireturn, 1) := by decide +kernel
theorem dX7_redrawForNow_0 : decode cX7_redrawForNow 0 = .ok (.aload_n 0, 1) := by decide +kernel
theorem dX7_redrawForNow_1 : decode cX7_redrawForNow 1 = .ok (.iload_n 1, 1) := by decide +kernel
theorem dX7_redrawForNow_2 : decode cX7_redrawForNow 2 = .ok (.invokevirtual 100, 3) := by decide +kernel
theorem dX7_redrawForNow_5 : decode cX7_redrawForNow 5 = .ok (.ifCond .eq 13, 3) := by decide +kernel
theorem dX7_redrawForNow_8 : decode cX7_redrawForNow 8 = .ok (.iload_n 3, 1) := by decide +kernel
theorem dX7_redrawForNow_9 : decode cX7_redrawForNow 9 = .ok (.iconst 1, 1) := by decide +kernel
theorem dX7_redrawForNow_10 : decode cX7_redrawForNow 10 = .ok (.if_icmp .lt 8, 3) := by decide +kernel
theorem dX7_redrawForNow_13 : decode cX7_redrawForNow 13 = .ok (.iload_n 3, 1) := by decide +kernel
theorem dX7_redrawForNow_14 : decode cX7_redrawForNow 14 = .ok (.iconst 5, 1) := by decide +kernel
theorem dX7_redrawForNow_15 : decode cX7_redrawForNow 15 = .ok (.if_icmp .le 5, 3) := by decide +kernel
theorem dX7_redrawForNow_18 : decode cX7_redrawForNow 18 = .ok (.iconst 0, 1) := by decide +kernel
theorem dX7_redrawForNow_19 : decode cX7_redrawForNow 19 = .ok (.ireturn, 1) := by decide +kernel
theorem dX7_redrawForNow_20 : decode cX7_redrawForNow 20 = .ok (.aload_n 0, 1) := by decide +kernel
theorem dX7_redrawForNow_21 : decode cX7_redrawForNow 21 = .ok (.getfield 38, 3) := by decide +kernel
theorem dX7_redrawForNow_24 : decode cX7_redrawForNow 24 = .ok (.getfield 104, 3) := by decide +kernel
theorem dX7_redrawForNow_27 : decode cX7_redrawForNow 27 = .ok (.iload_n 1, 1) := by decide +kernel
theorem dX7_redrawForNow_28 : decode cX7_redrawForNow 28 = .ok (.iload_n 2, 1) := by decide +kernel
theorem dX7_redrawForNow_29 : decode cX7_redrawForNow 29 = .ok (.iastore, 1) := by decide +kernel
theorem dX7_redrawForNow_30 : decode cX7_redrawForNow 30 = .ok (.aload_n 0, 1) := by decide +kernel
theorem dX7_redrawForNow_31 : decode cX7_redrawForNow 31 = .ok (.getfield 38, 3) := by decide +kernel
theorem dX7_redrawForNow_34 : decode cX7_redrawForNow 34 = .ok (.getfield 107, 3) := by decide +kernel
theorem dX7_redrawForNow_37 : decode cX7_redrawForNow 37 = .ok (.iload_n 1, 1) := by decide +kernel
theorem dX7_redrawForNow_38 : decode cX7_redrawForNow 38 = .ok (.iload_n 3, 1) := by decide +kernel
theorem dX7_redrawForNow_39 : decode cX7_redrawForNow 39 = .ok (.iastore, 1) := by decide +kernel
theorem dX7_redrawForNow_40 : decode cX7_redrawForNow 40 = .ok (.iconst 1, 1) := by decide +kernel
theorem dX7_redrawForNow_41 : decode cX7_redrawForNow 41 = .ok (.ireturn, 1) := by decide +kernel
theorem dX7_fractionPart_0 : decode cX7_fractionPart 0 = .ok (.iload_n 2, 1) := by decide +kernel
theorem dX7_fractionPart_1 : decode cX7_fractionPart 1 = .ok (.ifCond .eq 7, 3) := by decide +kernel
theorem dX7_fractionPart_4 : decode cX7_fractionPart 4 = .ok (.iload_n 0, 1) := by decide +kernel
theorem dX7_fractionPart_5 : decode cX7_fractionPart 5 = .ok (.goto 4, 3) := by decide +kernel
theorem dX7_fractionPart_8 : decode cX7_fractionPart 8 = .ok (.iload_n 1, 1) := by decide +kernel
theorem dX7_fractionPart_9 : decode cX7_fractionPart 9 = .ok (.istore_n 3, 1) := by decide +kernel
theorem dX7_fractionPart_10 : decode cX7_fractionPart 10 = .ok (.iload_n 0, 1) := by decide +kernel
theorem dX7_fractionPart_11 : decode cX7_fractionPart 11 = .ok (.iload_n 1, 1) := by decide +kernel
theorem dX7_fractionPart_12 : decode cX7_fractionPart 12 = .ok (.invokestatic 262, 3) := by decide +kernel
theorem dX7_fractionPart_15 : decode cX7_fractionPart 15 = .ok (.istore 4, 2) := by decide +kernel
theorem dX7_fractionPart_17 : decode cX7_fractionPart 17 = .ok (.iload 4, 2) := by decide +kernel
theorem dX7_fractionPart_19 : decode cX7_fractionPart 19 = .ok (.iconst 1, 1) := by decide +kernel
theorem dX7_fractionPart_20 : decode cX7_fractionPart 20 = .ok (.if_icmp .ge 7, 3) := by decide +kernel
theorem dX7_fractionPart_23 : decode cX7_fractionPart 23 = .ok (.iload_n 3, 1) := by decide +kernel
theorem dX7_fractionPart_24 : decode cX7_fractionPart 24 = .ok (.goto 7, 3) := by decide +kernel
theorem dX7_fractionPart_27 : decode cX7_fractionPart 27 = .ok (.iload_n 3, 1) := by decide +kernel
theorem dX7_fractionPart_28 : decode cX7_fractionPart 28 = .ok (.iload 4, 2) := by decide +kernel
theorem dX7_fractionPart_30 : decode cX7_fractionPart 30 = .ok (.idiv, 1) := by decide +kernel
theorem dX7_fractionPart_31 : decode cX7_fractionPart 31 = .ok (.ireturn, 1) := by decide +kernel
theorem dX7_commonDivisor_0 : decode cX7_commonDivisor 0 = .ok (.iload_n 0, 1) := by decide +kernel
theorem dX7_commonDivisor_1 : decode cX7_commonDivisor 1 = .ok (.istore_n 2, 1) := by decide +kernel
theorem dX7_commonDivisor_2 : decode cX7_commonDivisor 2 = .ok (.iload_n 1, 1) := by decide +kernel
theorem dX7_commonDivisor_3 : decode cX7_commonDivisor 3 = .ok (.istore_n 3, 1) := by decide +kernel
theorem dX7_commonDivisor_4 : decode cX7_commonDivisor 4 = .ok (.iconst 0, 1) := by decide +kernel
theorem dX7_commonDivisor_5 : decode cX7_commonDivisor 5 = .ok (.istore 4, 2) := by decide +kernel
theorem dX7_commonDivisor_7 : decode cX7_commonDivisor 7 = .ok (.iload 4, 2) := by decide +kernel
theorem dX7_commonDivisor_9 : decode cX7_commonDivisor 9 = .ok (.bipush 64, 2) := by decide +kernel
theorem dX7_commonDivisor_11 : decode cX7_commonDivisor 11 = .ok (.if_icmp .ge 23, 3) := by decide +kernel
theorem dX7_commonDivisor_14 : decode cX7_commonDivisor 14 = .ok (.iload_n 3, 1) := by decide +kernel
theorem dX7_commonDivisor_15 : decode cX7_commonDivisor 15 = .ok (.ifCond .eq 19, 3) := by decide +kernel
theorem dX7_commonDivisor_18 : decode cX7_commonDivisor 18 = .ok (.iload_n 2, 1) := by decide +kernel
theorem dX7_commonDivisor_19 : decode cX7_commonDivisor 19 = .ok (.iload_n 3, 1) := by decide +kernel
theorem dX7_commonDivisor_20 : decode cX7_commonDivisor 20 = .ok (.irem, 1) := by decide +kernel
theorem dX7_commonDivisor_21 : decode cX7_commonDivisor 21 = .ok (.istore 5, 2) := by decide +kernel
theorem dX7_commonDivisor_23 : decode cX7_commonDivisor 23 = .ok (.iload_n 3, 1) := by decide +kernel
theorem dX7_commonDivisor_24 : decode cX7_commonDivisor 24 = .ok (.istore_n 2, 1) := by decide +kernel
theorem dX7_commonDivisor_25 : decode cX7_commonDivisor 25 = .ok (.iload 5, 2) := by decide +kernel
theorem dX7_commonDivisor_27 : decode cX7_commonDivisor 27 = .ok (.istore_n 3, 1) := by decide +kernel
theorem dX7_commonDivisor_28 : decode cX7_commonDivisor 28 = .ok (.iinc 4 1, 3) := by decide +kernel
theorem dX7_commonDivisor_31 : decode cX7_commonDivisor 31 = .ok (.goto (-24), 3) := by decide +kernel
theorem dX7_commonDivisor_34 : decode cX7_commonDivisor 34 = .ok (.iload_n 2, 1) := by decide +kernel
theorem dX7_commonDivisor_35 : decode cX7_commonDivisor 35 = .ok (.ireturn, 1) := by decide +kernel
end
section
theorem dX8_init_0 : decode cX8_init 0 = .ok (.aload_n 0, 1) := by decide +kernel
theorem dX8_init_1 : decode cX8_init 1 = .ok (.invokespecial 1, 3) := by decide +kernel
theorem dX8_init_4 : decode cX8_init 4 = .ok (.aload_n 0, 1) := by decide +kernel
theorem dX8_init_5 : decode cX8_init 5 = .ok (.bipush 80, 2) := by decide +kernel
theorem dX8_init_7 : decode cX8_init 7 = .ok (.newarray .int, 2) := by decide +kernel
theorem dX8_init_9 : decode cX8_init 9 = .ok (.putfield 7, 3) := by decide +kernel
theorem dX8_init_12 : decode cX8_init 12 = .ok (.aload_n 0, 1) := by decide +kernel
theorem dX8_init_13 : decode cX8_init 13 = .ok (.sipush 192, 3) := by decide +kernel
theorem dX8_init_16 : decode cX8_init 16 = .ok (.newarray .int, 2) := by decide +kernel
theorem dX8_init_18 : decode cX8_init 18 = .ok (.putfield 13, 3) := by decide +kernel
theorem dX8_init_21 : decode cX8_init 21 = .ok (.aload_n 0, 1) := by decide +kernel
theorem dX8_init_22 : decode cX8_init 22 = .ok (.iconst 4, 1) := by decide +kernel
theorem dX8_init_23 : decode cX8_init 23 = .ok (.newarray .int, 2) := by decide +kernel
theorem dX8_init_25 : decode cX8_init 25 = .ok (.putfield 16, 3) := by decide +kernel
theorem dX8_init_28 : decode cX8_init 28 = .ok (.aload_n 0, 1) := by decide +kernel
theorem dX8_init_29 : decode cX8_init 29 = .ok (.sipush 192, 3) := by decide +kernel
theorem dX8_init_32 : decode cX8_init 32 = .ok (.newarray .int, 2) := by decide +kernel
theorem dX8_init_34 : decode cX8_init 34 = .ok (.putfield 19, 3) := by decide +kernel
theorem dX8_init_37 : decode cX8_init 37 = .ok (.aload_n 0, 1) := by decide +kernel
theorem dX8_init_38 : decode cX8_init 38 = .ok (.iconst 4, 1) := by decide +kernel
theorem dX8_init_39 : decode cX8_init 39 = .ok (.newarray .int, 2) := by decide +kernel
theorem dX8_init_41 : decode cX8_init 41 = .ok (.putfield 22, 3) := by decide +kernel
theorem dX8_init_44 : decode cX8_init 44 = .ok (.aload_n 0, 1) := by decide +kernel
theorem dX8_init_45 : decode cX8_init 45 = .ok (.bipush 40, 2) := by decide +kernel
theorem dX8_init_47 : decode cX8_init 47 = .ok (.newarray .int, 2) := by decide +kernel
theorem dX8_init_49 : decode cX8_init 49 = .ok (.putfield 25, 3) := by decide +kernel
theorem dX8_init_52 : decode cX8_init 52 = .ok (.aload_n 0, 1) := by decide +kernel
theorem dX8_init_53 : decode cX8_init 53 = .ok (.iconst 3, 1) := by decide +kernel
theorem dX8_init_54 : decode cX8_init 54 = .ok (.newarray .int, 2) := by decide +kernel
theorem dX8_init_56 : decode cX8_init 56 = .ok (.putfield 28, 3) := by decide +kernel
theorem dX8_init_59 : decode cX8_init 59 = .ok (.aload_n 0, 1) := by decide +kernel
theorem dX8_init_60 : decode cX8_init 60 = .ok (.iconst 3, 1) := by decide +kernel
theorem dX8_init_61 : decode cX8_init 61 = .ok (.newarray .boolean, 2) := by decide +kernel
theorem dX8_init_63 : decode cX8_init 63 = .ok (.putfield 31, 3) := by decide +kernel
theorem dX8_init_66 : decode cX8_init 66 = .ok (.aload_n 0, 1) := by decide +kernel
theorem dX8_init_67 : decode cX8_init 67 = .ok (.bipush 40, 2) := by decide +kernel
theorem dX8_init_69 : decode cX8_init 69 = .ok (.newarray .int, 2) := by decide +kernel
theorem dX8_init_71 : decode cX8_init 71 = .ok (.putfield 35, 3) := by decide +kernel
theorem dX8_init_74 : decode cX8_init 74 = .ok (.aload_n 0, 1) := by decide +kernel
theorem dX8_init_75 : decode cX8_init 75 = .ok (.bipush 40, 2) := by decide +kernel
theorem dX8_init_77 : decode cX8_init 77 = .ok (.newarray .int, 2) := by decide +kernel
theorem dX8_init_79 : decode cX8_init 79 = .ok (.putfield 38, 3) := by decide +kernel
theorem dX8_init_82 : decode cX8_init 82 = .ok (.aload_n 0, 1) := by decide +kernel
theorem dX8_init_83 : decode cX8_init 83 = .ok (.sipush 560, 3) := by decide +kernel
theorem dX8_init_86 : decode cX8_init 86 = .ok (.newarray .int, 2) := by decide +kernel
theorem dX8_init_88 : decode cX8_init 88 = .ok (.putfield 41, 3) := by decide +kernel
theorem dX8_init_91 : decode cX8_init 91 = .ok (.aload_n 0, 1) := by decide +kernel
theorem dX8_init_92 : decode cX8_init 92 = .ok (.bipush 80, 2) := by decide +kernel
theorem dX8_init_94 : decode cX8_init 94 = .ok (.newarray .int, 2) := by decide +kernel
theorem dX8_init_96 : decode cX8_init 96 = .ok (.putfield 44, 3) := by decide +kernel
theorem dX8_init_99 : decode cX8_init 99 = .ok (.aload_n 0, 1) := by decide +kernel
theorem dX8_init_100 : decode cX8_init 100 = .ok (.iconst 2, 1) := by decide +kernel
theorem dX8_init_101 : decode cX8_init 101 = .ok (.newarray .boolean, 2) := by decide +kernel
theorem dX8_init_103 : decode cX8_init 103 = .ok (.putfield 47, 3) := by decide +kernel
theorem dX8_init_106 : decode cX8_init 106 = .ok (.aload_n 0, 1) := by decide +kernel
theorem dX8_init_107 : decode cX8_init 107 = .ok (.bipush 6, 2) := by decide +kernel
theorem dX8_init_109 : decode cX8_init 109 = .ok (.newarray .int, 2) := by decide +kernel
theorem dX8_init_111 : decode cX8_init 111 = .ok (.putfield 50, 3) := by decide +kernel
theorem dX8_init_114 : decode cX8_init 114 = .ok (.aload_n 0, 1) := by decide +kernel
theorem dX8_init_115 : decode cX8_init 115 = .ok (.bipush 6, 2) := by decide +kernel
theorem dX8_init_117 : decode cX8_init 117 = .ok (.newarray .int, 2) := by decide +kernel
theorem dX8_init_119 : decode cX8_init 119 = .ok (.putfield 53, 3) := by decide +kernel
theorem dX8_init_122 : decode cX8_init 122 = .ok (.aload_n 0, 1) := by decide +kernel
theorem dX8_init_123 : decode cX8_init 123 = .ok (.bipush 6, 2) := by decide +kernel
theorem dX8_init_125 : decode cX8_init 125 = .ok (.newarray .int, 2) := by decide +kernel
theorem dX8_init_127 : decode cX8_init 127 = .ok (.putfield 56, 3) := by decide +kernel
theorem dX8_init_130 : decode cX8_init 130 = .ok (.aload_n 0, 1) := by decide +kernel
theorem dX8_init_131 : decode cX8_init 131 = .ok (.sipush 2401, 3) := by decide +kernel
theorem dX8_init_134 : decode cX8_init 134 = .ok (.newarray .int, 2) := by decide +kernel
theorem dX8_init_136 : decode cX8_init 136 = .ok (.putfield 59, 3) := by decide +kernel
theorem dX8_init_139 : decode cX8_init 139 = .ok (.aload_n 0, 1) := by decide +kernel
theorem dX8_init_140 : decode cX8_init 140 = .ok (.sipush 7203, 3) := by decide +kernel
theorem dX8_init_143 : decode cX8_init 143 = .ok (.newarray .int, 2) := by decide +kernel
theorem dX8_init_145 : decode cX8_init 145 = .ok (.putfield 62, 3) := by decide +kernel
theorem dX8_init_148 : decode cX8_init 148 = .ok (.aload_n 0, 1) := by decide +kernel
theorem dX8_init_149 : decode cX8_init 149 = .ok (.getfield 35, 3) := by decide +kernel
theorem dX8_init_152 : decode cX8_init 152 = .ok (.invokestatic 65, 3) := by decide +kernel
theorem dX8_init_155 : decode cX8_init 155 = .ok (.return_, 1) := by decide +kernel
theorem dX8_in_0 : decode cX8_in 0 = .ok (.lload_n 0, 1) := by decide +kernel
theorem dX8_in_1 : decode cX8_in 1 = .ok (.lload_n 2, 1) := by decide +kernel
theorem dX8_in_2 : decode cX8_in 2 = .ok (.lcmp, 1) := by decide +kernel
theorem dX8_in_3 : decode cX8_in 3 = .ok (.ifCond .lt 14, 3) := by decide +kernel
theorem dX8_in_6 : decode cX8_in 6 = .ok (.lload_n 0, 1) := by decide +kernel
theorem dX8_in_7 : decode cX8_in 7 = .ok (.lload 4, 2) := by decide +kernel
theorem dX8_in_9 : decode cX8_in 9 = .ok (.lcmp, 1) := by decide +kernel
theorem dX8_in_10 : decode cX8_in 10 = .ok (.ifCond .gt 7, 3) := by decide +kernel
theorem dX8_in_13 : decode cX8_in 13 = .ok (.iconst 1, 1) := by decide +kernel
theorem dX8_in_14 : decode cX8_in 14 = .ok (.goto 4, 3) := by decide +kernel
theorem dX8_in_17 : decode cX8_in 17 = .ok (.iconst 0, 1) := by decide +kernel
theorem dX8_in_18 : decode cX8_in 18 = .ok (.ireturn, 1) := by decide +kernel
theorem dX8_has_0 : decode cX8_has 0 = .ok (.iload_n 0, 1) := by decide +kernel
theorem dX8_has_1 : decode cX8_has 1 = .ok (.iload_n 1, 1) := by decide +kernel
theorem dX8_has_2 : decode cX8_has 2 = .ok (.ishr, 1) := by decide +kernel
theorem dX8_has_3 : decode cX8_has 3 = .ok (.iconst 1, 1) := by decide +kernel
theorem dX8_has_4 : decode cX8_has 4 = .ok (.iand, 1) := by decide +kernel
theorem dX8_has_5 : decode cX8_has 5 = .ok (.iconst 1, 1) := by decide +kernel
theorem dX8_has_6 : decode cX8_has 6 = .ok (.if_icmp .ne 7, 3) := by decide +kernel
theorem dX8_has_9 : decode cX8_has 9 = .ok (.iconst 1, 1) := by decide +kernel
theorem dX8_has_10 : decode cX8_has 10 = .ok (.goto 4, 3) := by decide +kernel
theorem dX8_has_13 : decode cX8_has 13 = .ok (.iconst 0, 1) := by decide +kernel
theorem dX8_has_14 : decode cX8_has 14 = .ok (.ireturn, 1) := by decide +kernel
theorem dX8_ones_0 : decode cX8_ones 0 = .ok (.iconst 0, 1) := by decide +kernel
theorem dX8_ones_1 : decode cX8_ones 1 = .ok (.istore_n 1, 1) := by decide +kernel
theorem dX8_ones_2 : decode cX8_ones 2 = .ok (.iconst 0, 1) := by decide +kernel
theorem dX8_ones_3 : decode cX8_ones 3 = .ok (.istore_n 2, 1) := by decide +kernel
theorem dX8_ones_4 : decode cX8_ones 4 = .ok (.iload_n 2, 1) := by decide +kernel
theorem dX8_ones_5 : decode cX8_ones 5 = .ok (.bipush 6, 2) := by decide +kernel
theorem dX8_ones_7 : decode cX8_ones 7 = .ok (.if_icmp .ge 17, 3) := by decide +kernel
theorem dX8_ones_10 : decode cX8_ones 10 = .ok (.iload_n 1, 1) := by decide +kernel
theorem dX8_ones_11 : decode cX8_ones 11 = .ok (.iload_n 0, 1) := by decide +kernel
theorem dX8_ones_12 : decode cX8_ones 12 = .ok (.iload_n 2, 1) := by decide +kernel
theorem dX8_ones_13 : decode cX8_ones 13 = .ok (.ishr, 1) := by decide +kernel
theorem dX8_ones_14 : decode cX8_ones 14 = .ok (.iconst 1, 1) := by decide +kernel
theorem dX8_ones_15 : decode cX8_ones 15 = .ok (.iand, 1) := by decide +kernel
theorem dX8_ones_16 : decode cX8_ones 16 = .ok (.iadd, 1) := by decide +kernel
theorem dX8_ones_17 : decode cX8_ones 17 = .ok (.istore_n 1, 1) := by decide +kernel
theorem dX8_ones_18 : decode cX8_ones 18 = .ok (.iinc 2 1, 3) := by decide +kernel
theorem dX8_ones_21 : decode cX8_ones 21 = .ok (.goto (-17), 3) := by decide +kernel
theorem dX8_ones_24 : decode cX8_ones 24 = .ok (.iload_n 1, 1) := by decide +kernel
theorem dX8_ones_25 : decode cX8_ones 25 = .ok (.ireturn, 1) := by decide +kernel
theorem dX8_power_0 : decode cX8_power 0 = .ok (.iconst 1, 1) := by decide +kernel
theorem dX8_power_1 : decode cX8_power 1 = .ok (.istore_n 2, 1) := by decide +kernel
theorem dX8_power_2 : decode cX8_power 2 = .ok (.iconst 0, 1) := by decide +kernel
theorem dX8_power_3 : decode cX8_power 3 = .ok (.istore_n 3, 1) := by decide +kernel
theorem dX8_power_4 : decode cX8_power 4 = .ok (.iload_n 3, 1) := by decide +kernel
theorem dX8_power_5 : decode cX8_power 5 = .ok (.iload_n 1, 1) := by decide +kernel
theorem dX8_power_6 : decode cX8_power 6 = .ok (.if_icmp .ge 13, 3) := by decide +kernel
theorem dX8_power_9 : decode cX8_power 9 = .ok (.iload_n 2, 1) := by decide +kernel
theorem dX8_power_10 : decode cX8_power 10 = .ok (.iload_n 0, 1) := by decide +kernel
theorem dX8_power_11 : decode cX8_power 11 = .ok (.imul, 1) := by decide +kernel
theorem dX8_power_12 : decode cX8_power 12 = .ok (.istore_n 2, 1) := by decide +kernel
theorem dX8_power_13 : decode cX8_power 13 = .ok (.iinc 3 1, 3) := by decide +kernel
theorem dX8_power_16 : decode cX8_power 16 = .ok (.goto (-12), 3) := by decide +kernel
theorem dX8_power_19 : decode cX8_power 19 = .ok (.iload_n 2, 1) := by decide +kernel
theorem dX8_power_20 : decode cX8_power 20 = .ok (.ireturn, 1) := by decide +kernel
theorem dX8_fresh_0 : decode cX8_fresh 0 = .ok (.iconst 0, 1) := by decide +kernel
theorem dX8_fresh_1 : decode cX8_fresh 1 = .ok (.istore_n 1, 1) := by decide +kernel
theorem dX8_fresh_2 : decode cX8_fresh 2 = .ok (.iload_n 1, 1) := by decide +kernel
theorem dX8_fresh_3 : decode cX8_fresh 3 = .ok (.bipush 40, 2) := by decide +kernel
theorem dX8_fresh_5 : decode cX8_fresh 5 = .ok (.if_icmp .ge 39, 3) := by decide +kernel
theorem dX8_fresh_8 : decode cX8_fresh 8 = .ok (.aload_n 0, 1) := by decide +kernel
theorem dX8_fresh_9 : decode cX8_fresh 9 = .ok (.iload_n 1, 1) := by decide +kernel
theorem dX8_fresh_10 : decode cX8_fresh 10 = .ok (.iload_n 1, 1) := by decide +kernel
theorem dX8_fresh_11 : decode cX8_fresh 11 = .ok (.bipush 16, 2) := by decide +kernel
theorem dX8_fresh_13 : decode cX8_fresh 13 = .ok (.if_icmp .lt 23, 3) := by decide +kernel
theorem dX8_fresh_16 : decode cX8_fresh 16 = .ok (.iload_n 1, 1) := by decide +kernel
theorem dX8_fresh_17 : decode cX8_fresh 17 = .ok (.bipush 31, 2) := by decide +kernel
theorem dX8_fresh_19 : decode cX8_fresh 19 = .ok (.if_icmp .ge 17, 3) := by decide +kernel
theorem dX8_fresh_22 : decode cX8_fresh 22 = .ok (.iload_n 1, 1) := by decide +kernel
theorem dX8_fresh_23 : decode cX8_fresh 23 = .ok (.bipush 16, 2) := by decide +kernel
theorem dX8_fresh_25 : decode cX8_fresh 25 = .ok (.isub, 1) := by decide +kernel
theorem dX8_fresh_26 : decode cX8_fresh 26 = .ok (.iconst 3, 1) := by decide +kernel
theorem dX8_fresh_27 : decode cX8_fresh 27 = .ok (.irem, 1) := by decide +kernel
theorem dX8_fresh_28 : decode cX8_fresh 28 = .ok (.iconst 2, 1) := by decide +kernel
theorem dX8_fresh_29 : decode cX8_fresh 29 = .ok (.if_icmp .ne 7, 3) := by decide +kernel
theorem dX8_fresh_32 : decode cX8_fresh 32 = .ok (.iconst 1, 1) := by decide +kernel
theorem dX8_fresh_33 : decode cX8_fresh 33 = .ok (.goto 4, 3) := by decide +kernel
theorem dX8_fresh_36 : decode cX8_fresh 36 = .ok (.iconst 0, 1) := by decide +kernel
theorem dX8_fresh_37 : decode cX8_fresh 37 = .ok (.iastore, 1) := by decide +kernel
theorem dX8_fresh_38 : decode cX8_fresh 38 = .ok (.iinc 1 1, 3) := by decide +kernel
theorem dX8_fresh_41 : decode cX8_fresh 41 = .ok (.goto (-39), 3) := by decide +kernel
theorem dX8_fresh_44 : decode cX8_fresh 44 = .ok (.return_, 1) := by decide +kernel
theorem dX8_layTrial_0 : decode cX8_layTrial 0 = .ok (.iconst 0, 1) := by decide +kernel
theorem dX8_layTrial_1 : decode cX8_layTrial 1 = .ok (.istore_n 1, 1) := by decide +kernel
theorem dX8_layTrial_2 : decode cX8_layTrial 2 = .ok (.iload_n 1, 1) := by decide +kernel
theorem dX8_layTrial_3 : decode cX8_layTrial 3 = .ok (.bipush 40, 2) := by decide +kernel
theorem dX8_layTrial_5 : decode cX8_layTrial 5 = .ok (.if_icmp .ge 21, 3) := by decide +kernel
theorem dX8_layTrial_8 : decode cX8_layTrial 8 = .ok (.aload_n 0, 1) := by decide +kernel
theorem dX8_layTrial_9 : decode cX8_layTrial 9 = .ok (.getfield 38, 3) := by decide +kernel
theorem dX8_layTrial_12 : decode cX8_layTrial 12 = .ok (.iload_n 1, 1) := by decide +kernel
theorem dX8_layTrial_13 : decode cX8_layTrial 13 = .ok (.aload_n 0, 1) := by decide +kernel
theorem dX8_layTrial_14 : decode cX8_layTrial 14 = .ok (.getfield 35, 3) := by decide +kernel
theorem dX8_layTrial_17 : decode cX8_layTrial 17 = .ok (.iload_n 1, 1) := by decide +kernel
theorem dX8_layTrial_18 : decode cX8_layTrial 18 = .ok (.iaload, 1) := by decide +kernel
theorem dX8_layTrial_19 : decode cX8_layTrial 19 = .ok (.iastore, 1) := by decide +kernel
theorem dX8_layTrial_20 : decode cX8_layTrial 20 = .ok (.iinc 1 1, 3) := by decide +kernel
theorem dX8_layTrial_23 : decode cX8_layTrial 23 = .ok (.goto (-21), 3) := by decide +kernel
theorem dX8_layTrial_26 : decode cX8_layTrial 26 = .ok (.return_, 1) := by decide +kernel
theorem dX8_noLevel_0 : decode cX8_noLevel 0 = .ok (.iload_n 1, 1) := by decide +kernel
theorem dX8_noLevel_1 : decode cX8_noLevel 1 = .ok (.i2l, 1) := by decide +kernel
theorem dX8_noLevel_2 : decode cX8_noLevel 2 = .ok (.lconst 0, 1) := by decide +kernel
theorem dX8_noLevel_3 : decode cX8_noLevel 3 = .ok (.aload_n 0, 1) := by decide +kernel
theorem dX8_noLevel_4 : decode cX8_noLevel 4 = .ok (.getfield 73, 3) := by decide +kernel
theorem dX8_noLevel_7 : decode cX8_noLevel 7 = .ok (.iconst 1, 1) := by decide +kernel
theorem dX8_noLevel_8 : decode cX8_noLevel 8 = .ok (.isub, 1) := by decide +kernel
theorem dX8_noLevel_9 : decode cX8_noLevel 9 = .ok (.i2l, 1) := by decide +kernel
theorem dX8_noLevel_10 : decode cX8_noLevel 10 = .ok (.invokestatic 76, 3) := by decide +kernel
theorem dX8_noLevel_13 : decode cX8_noLevel 13 = .ok (.ifCond .ne 7, 3) := by decide +kernel
theorem dX8_noLevel_16 : decode cX8_noLevel 16 = .ok (.iconst 1, 1) := by decide +kernel
theorem dX8_noLevel_17 : decode cX8_noLevel 17 = .ok (.goto 4, 3) := by decide +kernel
theorem dX8_noLevel_20 : decode cX8_noLevel 20 = .ok (.iconst 0, 1) := by decide +kernel
theorem dX8_noLevel_21 : decode cX8_noLevel 21 = .ok (.ireturn, 1) := by decide +kernel
theorem dX8_noDrawing_0 : decode cX8_noDrawing 0 = .ok (.iload_n 1, 1) := by decide +kernel
theorem dX8_noDrawing_1 : decode cX8_noDrawing 1 = .ok (.i2l, 1) := by decide +kernel
theorem dX8_noDrawing_2 : decode cX8_noDrawing 2 = .ok (.lconst 0, 1) := by decide +kernel
theorem dX8_noDrawing_3 : decode cX8_noDrawing 3 = .ok (.aload_n 0, 1) := by decide +kernel
theorem dX8_noDrawing_4 : decode cX8_noDrawing 4 = .ok (.getfield 80, 3) := by decide +kernel
theorem dX8_noDrawing_7 : decode cX8_noDrawing 7 = .ok (.iconst 1, 1) := by decide +kernel
theorem dX8_noDrawing_8 : decode cX8_noDrawing 8 = .ok (.isub, 1) := by decide +kernel
theorem dX8_noDrawing_9 : decode cX8_noDrawing 9 = .ok (.i2l, 1) := by decide +kernel
theorem dX8_noDrawing_10 : decode cX8_noDrawing 10 = .ok (.invokestatic 76, 3) := by decide +kernel
theorem dX8_noDrawing_13 : decode cX8_noDrawing 13 = .ok (.ifCond .ne 7, 3) := by decide +kernel
theorem dX8_noDrawing_16 : decode cX8_noDrawing 16 = .ok (.iconst 1, 1) := by decide +kernel
theorem dX8_noDrawing_17 : decode cX8_noDrawing 17 = .ok (.goto 4, 3) := by decide +kernel
theorem dX8_noDrawing_20 : decode cX8_noDrawing 20 = .ok (.iconst 0, 1) := by decide +kernel
theorem dX8_noDrawing_21 : decode cX8_noDrawing 21 = .ok (.ireturn, 1) := by decide +kernel
theorem dX8_isFrame_0 : decode cX8_isFrame 0 = .ok (.iload_n 0, 1) := by decide +kernel
theorem dX8_isFrame_1 : decode cX8_isFrame 1 = .ok (.i2l, 1) := by decide +kernel
theorem dX8_isFrame_2 : decode cX8_isFrame 2 = .ok (.lconst 0, 1) := by decide +kernel
theorem dX8_isFrame_3 : decode cX8_isFrame 3 = .ok (.ldc2_w 83, 3) := by decide +kernel
theorem dX8_isFrame_6 : decode cX8_isFrame 6 = .ok (.invokestatic 76, 3) := by decide +kernel
theorem dX8_isFrame_9 : decode cX8_isFrame 9 = .ok (.ireturn, 1) := by decide +kernel
theorem dX8_write_0 : decode cX8_write 0 = .ok (.aload_n 0, 1) := by decide +kernel
theorem dX8_write_1 : decode cX8_write 1 = .ok (.iconst 0, 1) := by decide +kernel
theorem dX8_write_2 : decode cX8_write 2 = .ok (.putfield 69, 3) := by decide +kernel
theorem dX8_write_5 : decode cX8_write 5 = .ok (.iload_n 1, 1) := by decide +kernel
theorem dX8_write_6 : decode cX8_write 6 = .ok (.i2l, 1) := by decide +kernel
theorem dX8_write_7 : decode cX8_write 7 = .ok (.lconst 0, 1) := by decide +kernel
theorem dX8_write_8 : decode cX8_write 8 = .ok (.ldc2_w 85, 3) := by decide +kernel
theorem dX8_write_11 : decode cX8_write 11 = .ok (.invokestatic 76, 3) := by decide +kernel
theorem dX8_write_14 : decode cX8_write 14 = .ok (.ifCond .ne 6, 3) := by decide +kernel
theorem dX8_write_17 : decode cX8_write 17 = .ok (.bipush (-2), 2) := by decide +kernel
theorem dX8_write_19 : decode cX8_write 19 = .ok (.ireturn, 1) := by decide +kernel
theorem dX8_write_20 : decode cX8_write 20 = .ok (.aload_n 0, 1) := by decide +kernel
theorem dX8_write_21 : decode cX8_write 21 = .ok (.getfield 87, 3) := by decide +kernel
theorem dX8_write_24 : decode cX8_write 24 = .ok (.bipush 80, 2) := by decide +kernel
theorem dX8_write_26 : decode cX8_write 26 = .ok (.if_icmp .ne 6, 3) := by decide +kernel
theorem dX8_write_29 : decode cX8_write 29 = .ok (.bipush (-4), 2) := by decide +kernel
theorem dX8_write_31 : decode cX8_write 31 = .ok (.ireturn, 1) := by decide +kernel
theorem dX8_write_32 : decode cX8_write 32 = .ok (.aload_n 0, 1) := by decide +kernel
theorem dX8_write_33 : decode cX8_write 33 = .ok (.getfield 7, 3) := by decide +kernel
theorem dX8_write_36 : decode cX8_write 36 = .ok (.aload_n 0, 1) := by decide +kernel
theorem dX8_write_37 : decode cX8_write 37 = .ok (.getfield 87, 3) := by decide +kernel
theorem dX8_write_40 : decode cX8_write 40 = .ok (.iload_n 1, 1) := by decide +kernel
theorem dX8_write_41 : decode cX8_write 41 = .ok (.iastore, 1) := by decide +kernel
theorem dX8_write_42 : decode cX8_write 42 = .ok (.aload_n 0, 1) := by decide +kernel
theorem dX8_write_43 : decode cX8_write 43 = .ok (.dup, 1) := by decide +kernel
theorem dX8_write_44 : decode cX8_write 44 = .ok (.getfield 87, 3) := by decide +kernel
theorem dX8_write_47 : decode cX8_write 47 = .ok (.iconst 1, 1) := by decide +kernel
theorem dX8_write_48 : decode cX8_write 48 = .ok (.iadd, 1) := by decide +kernel
theorem dX8_write_49 : decode cX8_write 49 = .ok (.putfield 87, 3) := by decide +kernel
theorem dX8_write_52 : decode cX8_write 52 = .ok (.aload_n 0, 1) := by decide +kernel
theorem dX8_write_53 : decode cX8_write 53 = .ok (.getfield 87, 3) := by decide +kernel
theorem dX8_write_56 : decode cX8_write 56 = .ok (.ireturn, 1) := by decide +kernel
theorem dX8_wipe_0 : decode cX8_wipe 0 = .ok (.aload_n 0, 1) := by decide +kernel
theorem dX8_wipe_1 : decode cX8_wipe 1 = .ok (.iconst 0, 1) := by decide +kernel
theorem dX8_wipe_2 : decode cX8_wipe 2 = .ok (.putfield 69, 3) := by decide +kernel
theorem dX8_wipe_5 : decode cX8_wipe 5 = .ok (.aload_n 0, 1) := by decide +kernel
theorem dX8_wipe_6 : decode cX8_wipe 6 = .ok (.getfield 87, 3) := by decide +kernel
theorem dX8_wipe_9 : decode cX8_wipe 9 = .ok (.istore_n 1, 1) := by decide +kernel
theorem dX8_wipe_10 : decode cX8_wipe 10 = .ok (.aload_n 0, 1) := by decide +kernel
theorem dX8_wipe_11 : decode cX8_wipe 11 = .ok (.iconst 0, 1) := by decide +kernel
theorem dX8_wipe_12 : decode cX8_wipe 12 = .ok (.putfield 87, 3) := by decide +kernel
theorem dX8_wipe_15 : decode cX8_wipe 15 = .ok (.iload_n 1, 1) := by decide +kernel
theorem dX8_wipe_16 : decode cX8_wipe 16 = .ok (.ireturn, 1) := by decide +kernel
theorem dX8_figure_0 : decode cX8_figure 0 = .ok (.aload_n 0, 1) := by decide +kernel
theorem dX8_figure_1 : decode cX8_figure 1 = .ok (.getfield 90, 3) := by decide +kernel
theorem dX8_figure_4 : decode cX8_figure 4 = .ok (.aload_n 0, 1) := by decide +kernel
theorem dX8_figure_5 : decode cX8_figure 5 = .ok (.getfield 87, 3) := by decide +kernel
theorem dX8_figure_8 : decode cX8_figure 8 = .ok (.if_icmp .ge 18, 3) := by decide +kernel
theorem dX8_figure_11 : decode cX8_figure 11 = .ok (.aload_n 0, 1) := by decide +kernel
theorem dX8_figure_12 : decode cX8_figure 12 = .ok (.getfield 7, 3) := by decide +kernel
theorem dX8_figure_15 : decode cX8_figure 15 = .ok (.aload_n 0, 1) := by decide +kernel
theorem dX8_figure_16 : decode cX8_figure 16 = .ok (.getfield 90, 3) := by decide +kernel
theorem dX8_figure_19 : decode cX8_figure 19 = .ok (.iaload, 1) := by decide +kernel
theorem dX8_figure_20 : decode cX8_figure 20 = .ok (.bipush 48, 2) := by decide +kernel
theorem dX8_figure_22 : decode cX8_figure 22 = .ok (.isub, 1) := by decide +kernel
theorem dX8_figure_23 : decode cX8_figure 23 = .ok (.goto 5, 3) := by decide +kernel
theorem dX8_figure_26 : decode cX8_figure 26 = .ok (.bipush (-9), 2) := by decide +kernel
theorem dX8_figure_28 : decode cX8_figure 28 = .ok (.istore_n 3, 1) := by decide +kernel
theorem dX8_figure_29 : decode cX8_figure 29 = .ok (.iload_n 3, 1) := by decide +kernel
theorem dX8_figure_30 : decode cX8_figure 30 = .ok (.i2l, 1) := by decide +kernel
theorem dX8_figure_31 : decode cX8_figure 31 = .ok (.iload_n 1, 1) := by decide +kernel
theorem dX8_figure_32 : decode cX8_figure 32 = .ok (.i2l, 1) := by decide +kernel
theorem dX8_figure_33 : decode cX8_figure 33 = .ok (.iload_n 2, 1) := by decide +kernel
theorem dX8_figure_34 : decode cX8_figure 34 = .ok (.i2l, 1) := by decide +kernel
theorem dX8_figure_35 : decode cX8_figure 35 = .ok (.invokestatic 76, 3) := by decide +kernel
theorem dX8_figure_38 : decode cX8_figure 38 = .ok (.ifCond .ne 6, 3) := by decide +kernel
theorem dX8_figure_41 : decode cX8_figure 41 = .ok (.bipush (-9), 2) := by decide +kernel
theorem dX8_figure_43 : decode cX8_figure 43 = .ok (.ireturn, 1) := by decide +kernel
theorem dX8_figure_44 : decode cX8_figure 44 = .ok (.aload_n 0, 1) := by decide +kernel
theorem dX8_figure_45 : decode cX8_figure 45 = .ok (.dup, 1) := by decide +kernel
theorem dX8_figure_46 : decode cX8_figure 46 = .ok (.getfield 90, 3) := by decide +kernel
theorem dX8_figure_49 : decode cX8_figure 49 = .ok (.iconst 1, 1) := by decide +kernel
theorem dX8_figure_50 : decode cX8_figure 50 = .ok (.iadd, 1) := by decide +kernel
theorem dX8_figure_51 : decode cX8_figure 51 = .ok (.putfield 90, 3) := by decide +kernel
theorem dX8_figure_54 : decode cX8_figure 54 = .ok (.iload_n 3, 1) := by decide +kernel
theorem dX8_figure_55 : decode cX8_figure 55 = .ok (.ireturn, 1) := by decide +kernel
theorem dX8_readDrawing_0 : decode cX8_readDrawing 0 = .ok (.aload_n 0, 1) := by decide +kernel
theorem dX8_readDrawing_1 : decode cX8_readDrawing 1 = .ok (.getfield 93, 3) := by decide +kernel
theorem dX8_readDrawing_4 : decode cX8_readDrawing 4 = .ok (.bipush 6, 2) := by decide +kernel
theorem dX8_readDrawing_6 : decode cX8_readDrawing 6 = .ok (.if_icmp .ne 5, 3) := by decide +kernel
theorem dX8_readDrawing_9 : decode cX8_readDrawing 9 = .ok (.iconst 0, 1) := by decide +kernel
theorem dX8_readDrawing_10 : decode cX8_readDrawing 10 = .ok (.ireturn, 1) := by decide +kernel
theorem dX8_readDrawing_11 : decode cX8_readDrawing 11 = .ok (.aload_n 0, 1) := by decide +kernel
theorem dX8_readDrawing_12 : decode cX8_readDrawing 12 = .ok (.dup, 1) := by decide +kernel
theorem dX8_readDrawing_13 : decode cX8_readDrawing 13 = .ok (.getfield 90, 3) := by decide +kernel
theorem dX8_readDrawing_16 : decode cX8_readDrawing 16 = .ok (.iconst 1, 1) := by decide +kernel
theorem dX8_readDrawing_17 : decode cX8_readDrawing 17 = .ok (.iadd, 1) := by decide +kernel
theorem dX8_readDrawing_18 : decode cX8_readDrawing 18 = .ok (.putfield 90, 3) := by decide +kernel
theorem dX8_readDrawing_21 : decode cX8_readDrawing 21 = .ok (.aload_n 0, 1) := by decide +kernel
theorem dX8_readDrawing_22 : decode cX8_readDrawing 22 = .ok (.iconst 0, 1) := by decide +kernel
theorem dX8_readDrawing_23 : decode cX8_readDrawing 23 = .ok (.bipush 9, 2) := by decide +kernel
theorem dX8_readDrawing_25 : decode cX8_readDrawing 25 = .ok (.invokevirtual 96, 3) := by decide +kernel
theorem dX8_readDrawing_28 : decode cX8_readDrawing 28 = .ok (.istore_n 1, 1) := by decide +kernel
theorem dX8_readDrawing_29 : decode cX8_readDrawing 29 = .ok (.iload_n 1, 1) := by decide +kernel
theorem dX8_readDrawing_30 : decode cX8_readDrawing 30 = .ok (.bipush (-9), 2) := by decide +kernel
theorem dX8_readDrawing_32 : decode cX8_readDrawing 32 = .ok (.if_icmp .ne 8, 3) := by decide +kernel
theorem dX8_readDrawing_35 : decode cX8_readDrawing 35 = .ok (.bipush (-9), 2) := by decide +kernel
theorem dX8_readDrawing_37 : decode cX8_readDrawing 37 = .ok (.goto 9, 3) := by decide +kernel
theorem dX8_readDrawing_40 : decode cX8_readDrawing 40 = .ok (.aload_n 0, 1) := by decide +kernel
theorem dX8_readDrawing_41 : decode cX8_readDrawing 41 = .ok (.iconst 1, 1) := by decide +kernel
theorem dX8_readDrawing_42 : decode cX8_readDrawing 42 = .ok (.iconst 5, 1) := by decide +kernel
theorem dX8_readDrawing_43 : decode cX8_readDrawing 43 = .ok (.invokevirtual 96, 3) := by decide +kernel
theorem dX8_readDrawing_46 : decode cX8_readDrawing 46 = .ok (.istore_n 2, 1) := by decide +kernel
theorem dX8_readDrawing_47 : decode cX8_readDrawing 47 = .ok (.iload_n 2, 1) := by decide +kernel
theorem dX8_readDrawing_48 : decode cX8_readDrawing 48 = .ok (.bipush (-9), 2) := by decide +kernel
theorem dX8_readDrawing_50 : decode cX8_readDrawing 50 = .ok (.if_icmp .ne 5, 3) := by decide +kernel
theorem dX8_readDrawing_53 : decode cX8_readDrawing 53 = .ok (.iconst 0, 1) := by decide +kernel
theorem dX8_readDrawing_54 : decode cX8_readDrawing 54 = .ok (.ireturn, 1) := by decide +kernel
theorem dX8_readDrawing_55 : decode cX8_readDrawing 55 = .ok (.aload_n 0, 1) := by decide +kernel
theorem dX8_readDrawing_56 : decode cX8_readDrawing 56 = .ok (.getfield 25, 3) := by decide +kernel
theorem dX8_readDrawing_59 : decode cX8_readDrawing 59 = .ok (.iconst 0, 1) := by decide +kernel
theorem dX8_readDrawing_60 : decode cX8_readDrawing 60 = .ok (.aload_n 0, 1) := by decide +kernel
theorem dX8_readDrawing_61 : decode cX8_readDrawing 61 = .ok (.getfield 93, 3) := by decide +kernel
theorem dX8_readDrawing_64 : decode cX8_readDrawing 64 = .ok (.iadd, 1) := by decide +kernel
theorem dX8_readDrawing_65 : decode cX8_readDrawing 65 = .ok (.iload_n 1, 1) := by decide +kernel
theorem dX8_readDrawing_66 : decode cX8_readDrawing 66 = .ok (.iastore, 1) := by decide +kernel
theorem dX8_readDrawing_67 : decode cX8_readDrawing 67 = .ok (.aload_n 0, 1) := by decide +kernel
theorem dX8_readDrawing_68 : decode cX8_readDrawing 68 = .ok (.getfield 25, 3) := by decide +kernel
theorem dX8_readDrawing_71 : decode cX8_readDrawing 71 = .ok (.bipush 6, 2) := by decide +kernel
theorem dX8_readDrawing_73 : decode cX8_readDrawing 73 = .ok (.aload_n 0, 1) := by decide +kernel
theorem dX8_readDrawing_74 : decode cX8_readDrawing 74 = .ok (.getfield 93, 3) := by decide +kernel
theorem dX8_readDrawing_77 : decode cX8_readDrawing 77 = .ok (.iadd, 1) := by decide +kernel
theorem dX8_readDrawing_78 : decode cX8_readDrawing 78 = .ok (.iload_n 2, 1) := by decide +kernel
theorem dX8_readDrawing_79 : decode cX8_readDrawing 79 = .ok (.iastore, 1) := by decide +kernel
theorem dX8_readDrawing_80 : decode cX8_readDrawing 80 = .ok (.aload_n 0, 1) := by decide +kernel
theorem dX8_readDrawing_81 : decode cX8_readDrawing 81 = .ok (.dup, 1) := by decide +kernel
theorem dX8_readDrawing_82 : decode cX8_readDrawing 82 = .ok (.getfield 93, 3) := by decide +kernel
theorem dX8_readDrawing_85 : decode cX8_readDrawing 85 = .ok (.iconst 1, 1) := by decide +kernel
theorem dX8_readDrawing_86 : decode cX8_readDrawing 86 = .ok (.iadd, 1) := by decide +kernel
theorem dX8_readDrawing_87 : decode cX8_readDrawing 87 = .ok (.putfield 93, 3) := by decide +kernel
theorem dX8_readDrawing_90 : decode cX8_readDrawing 90 = .ok (.iconst 1, 1) := by decide +kernel
theorem dX8_readDrawing_91 : decode cX8_readDrawing 91 = .ok (.ireturn, 1) := by decide +kernel
theorem dX8_spread_0 : decode cX8_spread 0 = .ok (.iconst 0, 1) := by decide +kernel
theorem dX8_spread_1 : decode cX8_spread 1 = .ok (.istore_n 3, 1) := by decide +kernel
theorem dX8_spread_2 : decode cX8_spread 2 = .ok (.iload_n 3, 1) := by decide +kernel
theorem dX8_spread_3 : decode cX8_spread 3 = .ok (.iload_n 2, 1) := by decide +kernel
theorem dX8_spread_4 : decode cX8_spread 4 = .ok (.if_icmp .ge 59, 3) := by decide +kernel
theorem dX8_spread_7 : decode cX8_spread 7 = .ok (.aload_n 0, 1) := by decide +kernel
theorem dX8_spread_8 : decode cX8_spread 8 = .ok (.getfield 22, 3) := by decide +kernel
theorem dX8_spread_11 : decode cX8_spread 11 = .ok (.aload_n 0, 1) := by decide +kernel
theorem dX8_spread_12 : decode cX8_spread 12 = .ok (.getfield 100, 3) := by decide +kernel
theorem dX8_spread_15 : decode cX8_spread 15 = .ok (.iaload, 1) := by decide +kernel
theorem dX8_spread_16 : decode cX8_spread 16 = .ok (.bipush 48, 2) := by decide +kernel
theorem dX8_spread_18 : decode cX8_spread 18 = .ok (.if_icmp .ge 45, 3) := by decide +kernel
theorem dX8_spread_21 : decode cX8_spread 21 = .ok (.aload_n 0, 1) := by decide +kernel
theorem dX8_spread_22 : decode cX8_spread 22 = .ok (.getfield 19, 3) := by decide +kernel
theorem dX8_spread_25 : decode cX8_spread 25 = .ok (.bipush 48, 2) := by decide +kernel
theorem dX8_spread_27 : decode cX8_spread 27 = .ok (.aload_n 0, 1) := by decide +kernel
theorem dX8_spread_28 : decode cX8_spread 28 = .ok (.getfield 100, 3) := by decide +kernel
theorem dX8_spread_31 : decode cX8_spread 31 = .ok (.imul, 1) := by decide +kernel
theorem dX8_spread_32 : decode cX8_spread 32 = .ok (.aload_n 0, 1) := by decide +kernel
theorem dX8_spread_33 : decode cX8_spread 33 = .ok (.getfield 22, 3) := by decide +kernel
theorem dX8_spread_36 : decode cX8_spread 36 = .ok (.aload_n 0, 1) := by decide +kernel
theorem dX8_spread_37 : decode cX8_spread 37 = .ok (.getfield 100, 3) := by decide +kernel
theorem dX8_spread_40 : decode cX8_spread 40 = .ok (.iaload, 1) := by decide +kernel
theorem dX8_spread_41 : decode cX8_spread 41 = .ok (.iadd, 1) := by decide +kernel
theorem dX8_spread_42 : decode cX8_spread 42 = .ok (.iload_n 1, 1) := by decide +kernel
theorem dX8_spread_43 : decode cX8_spread 43 = .ok (.iastore, 1) := by decide +kernel
theorem dX8_spread_44 : decode cX8_spread 44 = .ok (.aload_n 0, 1) := by decide +kernel
theorem dX8_spread_45 : decode cX8_spread 45 = .ok (.getfield 22, 3) := by decide +kernel
theorem dX8_spread_48 : decode cX8_spread 48 = .ok (.aload_n 0, 1) := by decide +kernel
theorem dX8_spread_49 : decode cX8_spread 49 = .ok (.getfield 100, 3) := by decide +kernel
theorem dX8_spread_52 : decode cX8_spread 52 = .ok (.dup2, 1) := by decide +kernel
theorem dX8_spread_53 : decode cX8_spread 53 = .ok (.iaload, 1) := by decide +kernel
theorem dX8_spread_54 : decode cX8_spread 54 = .ok (.iconst 1, 1) := by decide +kernel
theorem dX8_spread_55 : decode cX8_spread 55 = .ok (.iadd, 1) := by decide +kernel
theorem dX8_spread_56 : decode cX8_spread 56 = .ok (.iastore, 1) := by decide +kernel
theorem dX8_spread_57 : decode cX8_spread 57 = .ok (.iinc 3 1, 3) := by decide +kernel
theorem dX8_spread_60 : decode cX8_spread 60 = .ok (.goto (-58), 3) := by decide +kernel
theorem dX8_spread_63 : decode cX8_spread 63 = .ok (.return_, 1) := by decide +kernel
theorem dX8_over_0 : decode cX8_over 0 = .ok (.aload_n 0, 1) := by decide +kernel
theorem dX8_over_1 : decode cX8_over 1 = .ok (.getfield 22, 3) := by decide +kernel
theorem dX8_over_4 : decode cX8_over 4 = .ok (.aload_n 0, 1) := by decide +kernel
theorem dX8_over_5 : decode cX8_over 5 = .ok (.getfield 100, 3) := by decide +kernel
theorem dX8_over_8 : decode cX8_over 8 = .ok (.iaload, 1) := by decide +kernel
theorem dX8_over_9 : decode cX8_over 9 = .ok (.istore_n 3, 1) := by decide +kernel
theorem dX8_over_10 : decode cX8_over 10 = .ok (.iconst 1, 1) := by decide +kernel
theorem dX8_over_11 : decode cX8_over 11 = .ok (.istore 4, 2) := by decide +kernel
theorem dX8_over_13 : decode cX8_over 13 = .ok (.iload 4, 2) := by decide +kernel
theorem dX8_over_15 : decode cX8_over 15 = .ok (.iload_n 2, 1) := by decide +kernel
theorem dX8_over_16 : decode cX8_over 16 = .ok (.if_icmp .ge 44, 3) := by decide +kernel
theorem dX8_over_19 : decode cX8_over 19 = .ok (.iload_n 1, 1) := by decide +kernel
theorem dX8_over_20 : decode cX8_over 20 = .ok (.istore 5, 2) := by decide +kernel
theorem dX8_over_22 : decode cX8_over 22 = .ok (.iload 5, 2) := by decide +kernel
theorem dX8_over_24 : decode cX8_over 24 = .ok (.iload_n 3, 1) := by decide +kernel
theorem dX8_over_25 : decode cX8_over 25 = .ok (.if_icmp .ge 29, 3) := by decide +kernel
theorem dX8_over_28 : decode cX8_over 28 = .ok (.aload_n 0, 1) := by decide +kernel
theorem dX8_over_29 : decode cX8_over 29 = .ok (.aload_n 0, 1) := by decide +kernel
theorem dX8_over_30 : decode cX8_over 30 = .ok (.getfield 19, 3) := by decide +kernel
theorem dX8_over_33 : decode cX8_over 33 = .ok (.bipush 48, 2) := by decide +kernel
theorem dX8_over_35 : decode cX8_over 35 = .ok (.aload_n 0, 1) := by decide +kernel
theorem dX8_over_36 : decode cX8_over 36 = .ok (.getfield 100, 3) := by decide +kernel
theorem dX8_over_39 : decode cX8_over 39 = .ok (.imul, 1) := by decide +kernel
theorem dX8_over_40 : decode cX8_over 40 = .ok (.iload 5, 2) := by decide +kernel
theorem dX8_over_42 : decode cX8_over 42 = .ok (.iadd, 1) := by decide +kernel
theorem dX8_over_43 : decode cX8_over 43 = .ok (.iaload, 1) := by decide +kernel
theorem dX8_over_44 : decode cX8_over 44 = .ok (.iconst 1, 1) := by decide +kernel
theorem dX8_over_45 : decode cX8_over 45 = .ok (.invokevirtual 103, 3) := by decide +kernel
theorem dX8_over_48 : decode cX8_over 48 = .ok (.iinc 5 1, 3) := by decide +kernel
theorem dX8_over_51 : decode cX8_over 51 = .ok (.goto (-29), 3) := by decide +kernel
theorem dX8_over_54 : decode cX8_over 54 = .ok (.iinc 4 1, 3) := by decide +kernel
theorem dX8_over_57 : decode cX8_over 57 = .ok (.goto (-44), 3) := by decide +kernel
theorem dX8_over_60 : decode cX8_over 60 = .ok (.return_, 1) := by decide +kernel
theorem dX8_readSheet_0 : decode cX8_readSheet 0 = .ok (.iconst 0, 1) := by decide +kernel
theorem dX8_readSheet_1 : decode cX8_readSheet 1 = .ok (.istore_n 1, 1) := by decide +kernel
theorem dX8_readSheet_2 : decode cX8_readSheet 2 = .ok (.aload_n 0, 1) := by decide +kernel
theorem dX8_readSheet_3 : decode cX8_readSheet 3 = .ok (.getfield 31, 3) := by decide +kernel
theorem dX8_readSheet_6 : decode cX8_readSheet 6 = .ok (.iconst 0, 1) := by decide +kernel
theorem dX8_readSheet_7 : decode cX8_readSheet 7 = .ok (.iconst 0, 1) := by decide +kernel
theorem dX8_readSheet_8 : decode cX8_readSheet 8 = .ok (.bastore, 1) := by decide +kernel
theorem dX8_readSheet_9 : decode cX8_readSheet 9 = .ok (.aload_n 0, 1) := by decide +kernel
theorem dX8_readSheet_10 : decode cX8_readSheet 10 = .ok (.getfield 22, 3) := by decide +kernel
theorem dX8_readSheet_13 : decode cX8_readSheet 13 = .ok (.aload_n 0, 1) := by decide +kernel
theorem dX8_readSheet_14 : decode cX8_readSheet 14 = .ok (.getfield 100, 3) := by decide +kernel
theorem dX8_readSheet_17 : decode cX8_readSheet 17 = .ok (.iconst 0, 1) := by decide +kernel
theorem dX8_readSheet_18 : decode cX8_readSheet 18 = .ok (.iastore, 1) := by decide +kernel
theorem dX8_readSheet_19 : decode cX8_readSheet 19 = .ok (.aload_n 0, 1) := by decide +kernel
theorem dX8_readSheet_20 : decode cX8_readSheet 20 = .ok (.getfield 90, 3) := by decide +kernel
theorem dX8_readSheet_23 : decode cX8_readSheet 23 = .ok (.aload_n 0, 1) := by decide +kernel
theorem dX8_readSheet_24 : decode cX8_readSheet 24 = .ok (.getfield 87, 3) := by decide +kernel
theorem dX8_readSheet_27 : decode cX8_readSheet 27 = .ok (.if_icmp .ge 252, 3) := by decide +kernel
theorem dX8_readSheet_30 : decode cX8_readSheet 30 = .ok (.aload_n 0, 1) := by decide +kernel
theorem dX8_readSheet_31 : decode cX8_readSheet 31 = .ok (.getfield 7, 3) := by decide +kernel
theorem dX8_readSheet_34 : decode cX8_readSheet 34 = .ok (.aload_n 0, 1) := by decide +kernel
theorem dX8_readSheet_35 : decode cX8_readSheet 35 = .ok (.getfield 90, 3) := by decide +kernel
theorem dX8_readSheet_38 : decode cX8_readSheet 38 = .ok (.iaload, 1) := by decide +kernel
theorem dX8_readSheet_39 : decode cX8_readSheet 39 = .ok (.istore_n 2, 1) := by decide +kernel
theorem dX8_readSheet_40 : decode cX8_readSheet 40 = .ok (.iload_n 2, 1) := by decide +kernel
theorem dX8_readSheet_41 : decode cX8_readSheet 41 = .ok (.bipush 46, 2) := by decide +kernel
theorem dX8_readSheet_43 : decode cX8_readSheet 43 = .ok (.if_icmp .ne 31, 3) := by decide +kernel
theorem dX8_readSheet_46 : decode cX8_readSheet 46 = .ok (.aload_n 0, 1) := by decide +kernel
theorem dX8_readSheet_47 : decode cX8_readSheet 47 = .ok (.dup, 1) := by decide +kernel
theorem dX8_readSheet_48 : decode cX8_readSheet 48 = .ok (.getfield 90, 3) := by decide +kernel
theorem dX8_readSheet_51 : decode cX8_readSheet 51 = .ok (.iload_n 1, 1) := by decide +kernel
theorem dX8_readSheet_52 : decode cX8_readSheet 52 = .ok (.ifCond .ne 7, 3) := by decide +kernel
theorem dX8_readSheet_55 : decode cX8_readSheet 55 = .ok (.iconst 1, 1) := by decide +kernel
theorem dX8_readSheet_56 : decode cX8_readSheet 56 = .ok (.goto 4, 3) := by decide +kernel
theorem dX8_readSheet_59 : decode cX8_readSheet 59 = .ok (.iconst 0, 1) := by decide +kernel
theorem dX8_readSheet_60 : decode cX8_readSheet 60 = .ok (.iadd, 1) := by decide +kernel
theorem dX8_readSheet_61 : decode cX8_readSheet 61 = .ok (.putfield 90, 3) := by decide +kernel
theorem dX8_readSheet_64 : decode cX8_readSheet 64 = .ok (.iload_n 1, 1) := by decide +kernel
theorem dX8_readSheet_65 : decode cX8_readSheet 65 = .ok (.ifCond .ne 7, 3) := by decide +kernel
theorem dX8_readSheet_68 : decode cX8_readSheet 68 = .ok (.iconst 1, 1) := by decide +kernel
theorem dX8_readSheet_69 : decode cX8_readSheet 69 = .ok (.goto 4, 3) := by decide +kernel
theorem dX8_readSheet_72 : decode cX8_readSheet 72 = .ok (.iconst 0, 1) := by decide +kernel
theorem dX8_readSheet_73 : decode cX8_readSheet 73 = .ok (.ireturn, 1) := by decide +kernel
theorem dX8_readSheet_74 : decode cX8_readSheet 74 = .ok (.iload_n 2, 1) := by decide +kernel
theorem dX8_readSheet_75 : decode cX8_readSheet 75 = .ok (.bipush 40, 2) := by decide +kernel
theorem dX8_readSheet_77 : decode cX8_readSheet 77 = .ok (.if_icmp .ne 48, 3) := by decide +kernel
theorem dX8_readSheet_80 : decode cX8_readSheet 80 = .ok (.iload_n 1, 1) := by decide +kernel
theorem dX8_readSheet_81 : decode cX8_readSheet 81 = .ok (.iconst 2, 1) := by decide +kernel
theorem dX8_readSheet_82 : decode cX8_readSheet 82 = .ok (.if_icmp .ne 5, 3) := by decide +kernel
theorem dX8_readSheet_85 : decode cX8_readSheet 85 = .ok (.iconst 0, 1) := by decide +kernel
theorem dX8_readSheet_86 : decode cX8_readSheet 86 = .ok (.ireturn, 1) := by decide +kernel
theorem dX8_readSheet_87 : decode cX8_readSheet 87 = .ok (.iinc 1 1, 3) := by decide +kernel
theorem dX8_readSheet_90 : decode cX8_readSheet 90 = .ok (.aload_n 0, 1) := by decide +kernel
theorem dX8_readSheet_91 : decode cX8_readSheet 91 = .ok (.getfield 28, 3) := by decide +kernel
theorem dX8_readSheet_94 : decode cX8_readSheet 94 = .ok (.iload_n 1, 1) := by decide +kernel
theorem dX8_readSheet_95 : decode cX8_readSheet 95 = .ok (.aload_n 0, 1) := by decide +kernel
theorem dX8_readSheet_96 : decode cX8_readSheet 96 = .ok (.getfield 22, 3) := by decide +kernel
theorem dX8_readSheet_99 : decode cX8_readSheet 99 = .ok (.aload_n 0, 1) := by decide +kernel
theorem dX8_readSheet_100 : decode cX8_readSheet 100 = .ok (.getfield 100, 3) := by decide +kernel
theorem dX8_readSheet_103 : decode cX8_readSheet 103 = .ok (.iaload, 1) := by decide +kernel
theorem dX8_readSheet_104 : decode cX8_readSheet 104 = .ok (.iastore, 1) := by decide +kernel
theorem dX8_readSheet_105 : decode cX8_readSheet 105 = .ok (.aload_n 0, 1) := by decide +kernel
theorem dX8_readSheet_106 : decode cX8_readSheet 106 = .ok (.getfield 31, 3) := by decide +kernel
theorem dX8_readSheet_109 : decode cX8_readSheet 109 = .ok (.iload_n 1, 1) := by decide +kernel
theorem dX8_readSheet_110 : decode cX8_readSheet 110 = .ok (.iconst 0, 1) := by decide +kernel
theorem dX8_readSheet_111 : decode cX8_readSheet 111 = .ok (.bastore, 1) := by decide +kernel
theorem dX8_readSheet_112 : decode cX8_readSheet 112 = .ok (.aload_n 0, 1) := by decide +kernel
theorem dX8_readSheet_113 : decode cX8_readSheet 113 = .ok (.dup, 1) := by decide +kernel
theorem dX8_readSheet_114 : decode cX8_readSheet 114 = .ok (.getfield 90, 3) := by decide +kernel
theorem dX8_readSheet_117 : decode cX8_readSheet 117 = .ok (.iconst 1, 1) := by decide +kernel
theorem dX8_readSheet_118 : decode cX8_readSheet 118 = .ok (.iadd, 1) := by decide +kernel
theorem dX8_readSheet_119 : decode cX8_readSheet 119 = .ok (.putfield 90, 3) := by decide +kernel
theorem dX8_readSheet_122 : decode cX8_readSheet 122 = .ok (.goto 154, 3) := by decide +kernel
theorem dX8_readSheet_125 : decode cX8_readSheet 125 = .ok (.iload_n 2, 1) := by decide +kernel
theorem dX8_readSheet_126 : decode cX8_readSheet 126 = .ok (.bipush 41, 2) := by decide +kernel
theorem dX8_readSheet_128 : decode cX8_readSheet 128 = .ok (.if_icmp .ne 68, 3) := by decide +kernel
theorem dX8_readSheet_131 : decode cX8_readSheet 131 = .ok (.iload_n 1, 1) := by decide +kernel
theorem dX8_readSheet_132 : decode cX8_readSheet 132 = .ok (.ifCond .eq 12, 3) := by decide +kernel
theorem dX8_readSheet_135 : decode cX8_readSheet 135 = .ok (.aload_n 0, 1) := by decide +kernel
theorem dX8_readSheet_136 : decode cX8_readSheet 136 = .ok (.getfield 31, 3) := by decide +kernel
theorem dX8_readSheet_139 : decode cX8_readSheet 139 = .ok (.iload_n 1, 1) := by decide +kernel
theorem dX8_readSheet_140 : decode cX8_readSheet 140 = .ok (.baload, 1) := by decide +kernel
theorem dX8_readSheet_141 : decode cX8_readSheet 141 = .ok (.ifCond .ne 5, 3) := by decide +kernel
theorem dX8_readSheet_144 : decode cX8_readSheet 144 = .ok (.iconst 0, 1) := by decide +kernel
theorem dX8_readSheet_145 : decode cX8_readSheet 145 = .ok (.ireturn, 1) := by decide +kernel
theorem dX8_readSheet_146 : decode cX8_readSheet 146 = .ok (.aload_n 0, 1) := by decide +kernel
theorem dX8_readSheet_147 : decode cX8_readSheet 147 = .ok (.dup, 1) := by decide +kernel
theorem dX8_readSheet_148 : decode cX8_readSheet 148 = .ok (.getfield 90, 3) := by decide +kernel
theorem dX8_readSheet_151 : decode cX8_readSheet 151 = .ok (.iconst 1, 1) := by decide +kernel
theorem dX8_readSheet_152 : decode cX8_readSheet 152 = .ok (.iadd, 1) := by decide +kernel
theorem dX8_readSheet_153 : decode cX8_readSheet 153 = .ok (.putfield 90, 3) := by decide +kernel
theorem dX8_readSheet_156 : decode cX8_readSheet 156 = .ok (.aload_n 0, 1) := by decide +kernel
theorem dX8_readSheet_157 : decode cX8_readSheet 157 = .ok (.iconst 2, 1) := by decide +kernel
theorem dX8_readSheet_158 : decode cX8_readSheet 158 = .ok (.bipush 9, 2) := by decide +kernel
theorem dX8_readSheet_160 : decode cX8_readSheet 160 = .ok (.invokevirtual 96, 3) := by decide +kernel
theorem dX8_readSheet_163 : decode cX8_readSheet 163 = .ok (.istore_n 3, 1) := by decide +kernel
theorem dX8_readSheet_164 : decode cX8_readSheet 164 = .ok (.iload_n 3, 1) := by decide +kernel
theorem dX8_readSheet_165 : decode cX8_readSheet 165 = .ok (.bipush (-9), 2) := by decide +kernel
theorem dX8_readSheet_167 : decode cX8_readSheet 167 = .ok (.if_icmp .ne 5, 3) := by decide +kernel
theorem dX8_readSheet_170 : decode cX8_readSheet 170 = .ok (.iconst 0, 1) := by decide +kernel
theorem dX8_readSheet_171 : decode cX8_readSheet 171 = .ok (.ireturn, 1) := by decide +kernel
theorem dX8_readSheet_172 : decode cX8_readSheet 172 = .ok (.aload_n 0, 1) := by decide +kernel
theorem dX8_readSheet_173 : decode cX8_readSheet 173 = .ok (.aload_n 0, 1) := by decide +kernel
theorem dX8_readSheet_174 : decode cX8_readSheet 174 = .ok (.getfield 28, 3) := by decide +kernel
theorem dX8_readSheet_177 : decode cX8_readSheet 177 = .ok (.iload_n 1, 1) := by decide +kernel
theorem dX8_readSheet_178 : decode cX8_readSheet 178 = .ok (.iaload, 1) := by decide +kernel
theorem dX8_readSheet_179 : decode cX8_readSheet 179 = .ok (.iload_n 3, 1) := by decide +kernel
theorem dX8_readSheet_180 : decode cX8_readSheet 180 = .ok (.invokevirtual 107, 3) := by decide +kernel
theorem dX8_readSheet_183 : decode cX8_readSheet 183 = .ok (.iinc 1 (-1), 3) := by decide +kernel
theorem dX8_readSheet_186 : decode cX8_readSheet 186 = .ok (.aload_n 0, 1) := by decide +kernel
theorem dX8_readSheet_187 : decode cX8_readSheet 187 = .ok (.getfield 31, 3) := by decide +kernel
theorem dX8_readSheet_190 : decode cX8_readSheet 190 = .ok (.iload_n 1, 1) := by decide +kernel
theorem dX8_readSheet_191 : decode cX8_readSheet 191 = .ok (.iconst 1, 1) := by decide +kernel
theorem dX8_readSheet_192 : decode cX8_readSheet 192 = .ok (.bastore, 1) := by decide +kernel
theorem dX8_readSheet_193 : decode cX8_readSheet 193 = .ok (.goto 83, 3) := by decide +kernel
theorem dX8_readSheet_196 : decode cX8_readSheet 196 = .ok (.iload_n 2, 1) := by decide +kernel
theorem dX8_readSheet_197 : decode cX8_readSheet 197 = .ok (.bipush 45, 2) := by decide +kernel
theorem dX8_readSheet_199 : decode cX8_readSheet 199 = .ok (.if_icmp .eq 24, 3) := by decide +kernel
theorem dX8_readSheet_202 : decode cX8_readSheet 202 = .ok (.iload_n 2, 1) := by decide +kernel
theorem dX8_readSheet_203 : decode cX8_readSheet 203 = .ok (.bipush 97, 2) := by decide +kernel
theorem dX8_readSheet_205 : decode cX8_readSheet 205 = .ok (.isub, 1) := by decide +kernel
theorem dX8_readSheet_206 : decode cX8_readSheet 206 = .ok (.i2l, 1) := by decide +kernel
theorem dX8_readSheet_207 : decode cX8_readSheet 207 = .ok (.lconst 0, 1) := by decide +kernel
theorem dX8_readSheet_208 : decode cX8_readSheet 208 = .ok (.aload_n 0, 1) := by decide +kernel
theorem dX8_readSheet_209 : decode cX8_readSheet 209 = .ok (.getfield 93, 3) := by decide +kernel
theorem dX8_readSheet_212 : decode cX8_readSheet 212 = .ok (.iconst 1, 1) := by decide +kernel
theorem dX8_readSheet_213 : decode cX8_readSheet 213 = .ok (.isub, 1) := by decide +kernel
theorem dX8_readSheet_214 : decode cX8_readSheet 214 = .ok (.i2l, 1) := by decide +kernel
theorem dX8_readSheet_215 : decode cX8_readSheet 215 = .ok (.invokestatic 76, 3) := by decide +kernel
theorem dX8_readSheet_218 : decode cX8_readSheet 218 = .ok (.ifCond .ne 5, 3) := by decide +kernel
theorem dX8_readSheet_221 : decode cX8_readSheet 221 = .ok (.iconst 0, 1) := by decide +kernel
theorem dX8_readSheet_222 : decode cX8_readSheet 222 = .ok (.ireturn, 1) := by decide +kernel
theorem dX8_readSheet_223 : decode cX8_readSheet 223 = .ok (.aload_n 0, 1) := by decide +kernel
theorem dX8_readSheet_224 : decode cX8_readSheet 224 = .ok (.dup, 1) := by decide +kernel
theorem dX8_readSheet_225 : decode cX8_readSheet 225 = .ok (.getfield 90, 3) := by decide +kernel
theorem dX8_readSheet_228 : decode cX8_readSheet 228 = .ok (.iconst 1, 1) := by decide +kernel
theorem dX8_readSheet_229 : decode cX8_readSheet 229 = .ok (.iadd, 1) := by decide +kernel
theorem dX8_readSheet_230 : decode cX8_readSheet 230 = .ok (.putfield 90, 3) := by decide +kernel
theorem dX8_readSheet_233 : decode cX8_readSheet 233 = .ok (.aload_n 0, 1) := by decide +kernel
theorem dX8_readSheet_234 : decode cX8_readSheet 234 = .ok (.iconst 1, 1) := by decide +kernel
theorem dX8_readSheet_235 : decode cX8_readSheet 235 = .ok (.bipush 9, 2) := by decide +kernel
theorem dX8_readSheet_237 : decode cX8_readSheet 237 = .ok (.invokevirtual 96, 3) := by decide +kernel
theorem dX8_readSheet_240 : decode cX8_readSheet 240 = .ok (.istore_n 3, 1) := by decide +kernel
theorem dX8_readSheet_241 : decode cX8_readSheet 241 = .ok (.iload_n 3, 1) := by decide +kernel
theorem dX8_readSheet_242 : decode cX8_readSheet 242 = .ok (.bipush (-9), 2) := by decide +kernel
theorem dX8_readSheet_244 : decode cX8_readSheet 244 = .ok (.if_icmp .ne 5, 3) := by decide +kernel
theorem dX8_readSheet_247 : decode cX8_readSheet 247 = .ok (.iconst 0, 1) := by decide +kernel
theorem dX8_readSheet_248 : decode cX8_readSheet 248 = .ok (.ireturn, 1) := by decide +kernel
theorem dX8_readSheet_249 : decode cX8_readSheet 249 = .ok (.aload_n 0, 1) := by decide +kernel
theorem dX8_readSheet_250 : decode cX8_readSheet 250 = .ok (.iload_n 2, 1) := by decide +kernel
theorem dX8_readSheet_251 : decode cX8_readSheet 251 = .ok (.bipush 45, 2) := by decide +kernel
theorem dX8_readSheet_253 : decode cX8_readSheet 253 = .ok (.if_icmp .ne 8, 3) := by decide +kernel
theorem dX8_readSheet_256 : decode cX8_readSheet 256 = .ok (.bipush (-9), 2) := by decide +kernel
theorem dX8_readSheet_258 : decode cX8_readSheet 258 = .ok (.goto 7, 3) := by decide +kernel
theorem dX8_readSheet_261 : decode cX8_readSheet 261 = .ok (.iload_n 2, 1) := by decide +kernel
theorem dX8_readSheet_262 : decode cX8_readSheet 262 = .ok (.bipush 97, 2) := by decide +kernel
theorem dX8_readSheet_264 : decode cX8_readSheet 264 = .ok (.isub, 1) := by decide +kernel
theorem dX8_readSheet_265 : decode cX8_readSheet 265 = .ok (.iload_n 3, 1) := by decide +kernel
theorem dX8_readSheet_266 : decode cX8_readSheet 266 = .ok (.invokevirtual 103, 3) := by decide +kernel
theorem dX8_readSheet_269 : decode cX8_readSheet 269 = .ok (.aload_n 0, 1) := by decide +kernel
theorem dX8_readSheet_270 : decode cX8_readSheet 270 = .ok (.getfield 31, 3) := by decide +kernel
theorem dX8_readSheet_273 : decode cX8_readSheet 273 = .ok (.iload_n 1, 1) := by decide +kernel
theorem dX8_readSheet_274 : decode cX8_readSheet 274 = .ok (.iconst 1, 1) := by decide +kernel
theorem dX8_readSheet_275 : decode cX8_readSheet 275 = .ok (.bastore, 1) := by decide +kernel
theorem dX8_readSheet_276 : decode cX8_readSheet 276 = .ok (.goto (-257), 3) := by decide +kernel
theorem dX8_readSheet_279 : decode cX8_readSheet 279 = .ok (.iconst 0, 1) := by decide +kernel
theorem dX8_readSheet_280 : decode cX8_readSheet 280 = .ok (.ireturn, 1) := by decide +kernel
theorem dX8_readReel_0 : decode cX8_readReel 0 = .ok (.aload_n 0, 1) := by decide +kernel
theorem dX8_readReel_1 : decode cX8_readReel 1 = .ok (.iconst 0, 1) := by decide +kernel
theorem dX8_readReel_2 : decode cX8_readReel 2 = .ok (.putfield 90, 3) := by decide +kernel
theorem dX8_readReel_5 : decode cX8_readReel 5 = .ok (.aload_n 0, 1) := by decide +kernel
theorem dX8_readReel_6 : decode cX8_readReel 6 = .ok (.iconst 0, 1) := by decide +kernel
theorem dX8_readReel_7 : decode cX8_readReel 7 = .ok (.putfield 93, 3) := by decide +kernel
theorem dX8_readReel_10 : decode cX8_readReel 10 = .ok (.aload_n 0, 1) := by decide +kernel
theorem dX8_readReel_11 : decode cX8_readReel 11 = .ok (.iconst 0, 1) := by decide +kernel
theorem dX8_readReel_12 : decode cX8_readReel 12 = .ok (.putfield 100, 3) := by decide +kernel
theorem dX8_readReel_15 : decode cX8_readReel 15 = .ok (.aload_n 0, 1) := by decide +kernel
theorem dX8_readReel_16 : decode cX8_readReel 16 = .ok (.getfield 25, 3) := by decide +kernel
theorem dX8_readReel_19 : decode cX8_readReel 19 = .ok (.invokestatic 65, 3) := by decide +kernel
theorem dX8_readReel_22 : decode cX8_readReel 22 = .ok (.aload_n 0, 1) := by decide +kernel
theorem dX8_readReel_23 : decode cX8_readReel 23 = .ok (.getfield 87, 3) := by decide +kernel
theorem dX8_readReel_26 : decode cX8_readReel 26 = .ok (.ifCond .eq 14, 3) := by decide +kernel
theorem dX8_readReel_29 : decode cX8_readReel 29 = .ok (.aload_n 0, 1) := by decide +kernel
theorem dX8_readReel_30 : decode cX8_readReel 30 = .ok (.getfield 7, 3) := by decide +kernel
theorem dX8_readReel_33 : decode cX8_readReel 33 = .ok (.iconst 0, 1) := by decide +kernel
theorem dX8_readReel_34 : decode cX8_readReel 34 = .ok (.iaload, 1) := by decide +kernel
theorem dX8_readReel_35 : decode cX8_readReel 35 = .ok (.bipush 75, 2) := by decide +kernel
theorem dX8_readReel_37 : decode cX8_readReel 37 = .ok (.if_icmp .eq 5, 3) := by decide +kernel
theorem dX8_readReel_40 : decode cX8_readReel 40 = .ok (.iconst 0, 1) := by decide +kernel
theorem dX8_readReel_41 : decode cX8_readReel 41 = .ok (.ireturn, 1) := by decide +kernel
theorem dX8_readReel_42 : decode cX8_readReel 42 = .ok (.aload_n 0, 1) := by decide +kernel
theorem dX8_readReel_43 : decode cX8_readReel 43 = .ok (.iconst 1, 1) := by decide +kernel
theorem dX8_readReel_44 : decode cX8_readReel 44 = .ok (.putfield 90, 3) := by decide +kernel
theorem dX8_readReel_47 : decode cX8_readReel 47 = .ok (.aload_n 0, 1) := by decide +kernel
theorem dX8_readReel_48 : decode cX8_readReel 48 = .ok (.getfield 90, 3) := by decide +kernel
theorem dX8_readReel_51 : decode cX8_readReel 51 = .ok (.aload_n 0, 1) := by decide +kernel
theorem dX8_readReel_52 : decode cX8_readReel 52 = .ok (.getfield 87, 3) := by decide +kernel
theorem dX8_readReel_55 : decode cX8_readReel 55 = .ok (.if_icmp .ge 29, 3) := by decide +kernel
theorem dX8_readReel_58 : decode cX8_readReel 58 = .ok (.aload_n 0, 1) := by decide +kernel
theorem dX8_readReel_59 : decode cX8_readReel 59 = .ok (.getfield 7, 3) := by decide +kernel
theorem dX8_readReel_62 : decode cX8_readReel 62 = .ok (.aload_n 0, 1) := by decide +kernel
theorem dX8_readReel_63 : decode cX8_readReel 63 = .ok (.getfield 90, 3) := by decide +kernel
theorem dX8_readReel_66 : decode cX8_readReel 66 = .ok (.iaload, 1) := by decide +kernel
theorem dX8_readReel_67 : decode cX8_readReel 67 = .ok (.bipush 100, 2) := by decide +kernel
theorem dX8_readReel_69 : decode cX8_readReel 69 = .ok (.if_icmp .ne 15, 3) := by decide +kernel
theorem dX8_readReel_72 : decode cX8_readReel 72 = .ok (.aload_n 0, 1) := by decide +kernel
theorem dX8_readReel_73 : decode cX8_readReel 73 = .ok (.invokevirtual 110, 3) := by decide +kernel
theorem dX8_readReel_76 : decode cX8_readReel 76 = .ok (.ifCond .ne (-29), 3) := by decide +kernel
theorem dX8_readReel_79 : decode cX8_readReel 79 = .ok (.aload_n 0, 1) := by decide +kernel
theorem dX8_readReel_80 : decode cX8_readReel 80 = .ok (.getfield 90, 3) := by decide +kernel
theorem dX8_readReel_83 : decode cX8_readReel 83 = .ok (.ireturn, 1) := by decide +kernel
theorem dX8_readReel_84 : decode cX8_readReel 84 = .ok (.aload_n 0, 1) := by decide +kernel
theorem dX8_readReel_85 : decode cX8_readReel 85 = .ok (.getfield 90, 3) := by decide +kernel
theorem dX8_readReel_88 : decode cX8_readReel 88 = .ok (.aload_n 0, 1) := by decide +kernel
theorem dX8_readReel_89 : decode cX8_readReel 89 = .ok (.getfield 87, 3) := by decide +kernel
theorem dX8_readReel_92 : decode cX8_readReel 92 = .ok (.if_icmp .ge 65, 3) := by decide +kernel
theorem dX8_readReel_95 : decode cX8_readReel 95 = .ok (.aload_n 0, 1) := by decide +kernel
theorem dX8_readReel_96 : decode cX8_readReel 96 = .ok (.getfield 7, 3) := by decide +kernel
theorem dX8_readReel_99 : decode cX8_readReel 99 = .ok (.aload_n 0, 1) := by decide +kernel
theorem dX8_readReel_100 : decode cX8_readReel 100 = .ok (.getfield 90, 3) := by decide +kernel
theorem dX8_readReel_103 : decode cX8_readReel 103 = .ok (.iaload, 1) := by decide +kernel
theorem dX8_readReel_104 : decode cX8_readReel 104 = .ok (.bipush 118, 2) := by decide +kernel
theorem dX8_readReel_106 : decode cX8_readReel 106 = .ok (.if_icmp .ne 11, 3) := by decide +kernel
theorem dX8_readReel_109 : decode cX8_readReel 109 = .ok (.aload_n 0, 1) := by decide +kernel
theorem dX8_readReel_110 : decode cX8_readReel 110 = .ok (.getfield 100, 3) := by decide +kernel
theorem dX8_readReel_113 : decode cX8_readReel 113 = .ok (.iconst 4, 1) := by decide +kernel
theorem dX8_readReel_114 : decode cX8_readReel 114 = .ok (.if_icmp .ne 8, 3) := by decide +kernel
theorem dX8_readReel_117 : decode cX8_readReel 117 = .ok (.aload_n 0, 1) := by decide +kernel
theorem dX8_readReel_118 : decode cX8_readReel 118 = .ok (.getfield 90, 3) := by decide +kernel
theorem dX8_readReel_121 : decode cX8_readReel 121 = .ok (.ireturn, 1) := by decide +kernel
theorem dX8_readReel_122 : decode cX8_readReel 122 = .ok (.aload_n 0, 1) := by decide +kernel
theorem dX8_readReel_123 : decode cX8_readReel 123 = .ok (.dup, 1) := by decide +kernel
theorem dX8_readReel_124 : decode cX8_readReel 124 = .ok (.getfield 90, 3) := by decide +kernel
theorem dX8_readReel_127 : decode cX8_readReel 127 = .ok (.iconst 1, 1) := by decide +kernel
theorem dX8_readReel_128 : decode cX8_readReel 128 = .ok (.iadd, 1) := by decide +kernel
theorem dX8_readReel_129 : decode cX8_readReel 129 = .ok (.putfield 90, 3) := by decide +kernel
theorem dX8_readReel_132 : decode cX8_readReel 132 = .ok (.aload_n 0, 1) := by decide +kernel
theorem dX8_readReel_133 : decode cX8_readReel 133 = .ok (.invokevirtual 114, 3) := by decide +kernel
theorem dX8_readReel_136 : decode cX8_readReel 136 = .ok (.ifCond .ne 8, 3) := by decide +kernel
theorem dX8_readReel_139 : decode cX8_readReel 139 = .ok (.aload_n 0, 1) := by decide +kernel
theorem dX8_readReel_140 : decode cX8_readReel 140 = .ok (.getfield 90, 3) := by decide +kernel
theorem dX8_readReel_143 : decode cX8_readReel 143 = .ok (.ireturn, 1) := by decide +kernel
theorem dX8_readReel_144 : decode cX8_readReel 144 = .ok (.aload_n 0, 1) := by decide +kernel
theorem dX8_readReel_145 : decode cX8_readReel 145 = .ok (.dup, 1) := by decide +kernel
theorem dX8_readReel_146 : decode cX8_readReel 146 = .ok (.getfield 100, 3) := by decide +kernel
theorem dX8_readReel_149 : decode cX8_readReel 149 = .ok (.iconst 1, 1) := by decide +kernel
theorem dX8_readReel_150 : decode cX8_readReel 150 = .ok (.iadd, 1) := by decide +kernel
theorem dX8_readReel_151 : decode cX8_readReel 151 = .ok (.putfield 100, 3) := by decide +kernel
theorem dX8_readReel_154 : decode cX8_readReel 154 = .ok (.goto (-70), 3) := by decide +kernel
theorem dX8_readReel_157 : decode cX8_readReel 157 = .ok (.bipush (-9), 2) := by decide +kernel
theorem dX8_readReel_159 : decode cX8_readReel 159 = .ok (.ireturn, 1) := by decide +kernel
theorem dX8_fault_0 : decode cX8_fault 0 = .ok (.aload_n 0, 1) := by decide +kernel
theorem dX8_fault_1 : decode cX8_fault 1 = .ok (.iconst 0, 1) := by decide +kernel
theorem dX8_fault_2 : decode cX8_fault 2 = .ok (.putfield 69, 3) := by decide +kernel
theorem dX8_fault_5 : decode cX8_fault 5 = .ok (.aload_n 0, 1) := by decide +kernel
theorem dX8_fault_6 : decode cX8_fault 6 = .ok (.invokevirtual 117, 3) := by decide +kernel
theorem dX8_fault_9 : decode cX8_fault 9 = .ok (.ireturn, 1) := by decide +kernel
theorem dX8_reel_0 : decode cX8_reel 0 = .ok (.aload_n 0, 1) := by decide +kernel
theorem dX8_reel_1 : decode cX8_reel 1 = .ok (.iconst 0, 1) := by decide +kernel
theorem dX8_reel_2 : decode cX8_reel 2 = .ok (.putfield 69, 3) := by decide +kernel
theorem dX8_reel_5 : decode cX8_reel 5 = .ok (.aload_n 0, 1) := by decide +kernel
theorem dX8_reel_6 : decode cX8_reel 6 = .ok (.invokevirtual 117, 3) := by decide +kernel
theorem dX8_reel_9 : decode cX8_reel 9 = .ok (.bipush (-9), 2) := by decide +kernel
theorem dX8_reel_11 : decode cX8_reel 11 = .ok (.if_icmp .eq 6, 3) := by decide +kernel
theorem dX8_reel_14 : decode cX8_reel 14 = .ok (.bipush (-3), 2) := by decide +kernel
theorem dX8_reel_16 : decode cX8_reel 16 = .ok (.ireturn, 1) := by decide +kernel
theorem dX8_reel_17 : decode cX8_reel 17 = .ok (.aload_n 0, 1) := by decide +kernel
theorem dX8_reel_18 : decode cX8_reel 18 = .ok (.aload_n 0, 1) := by decide +kernel
theorem dX8_reel_19 : decode cX8_reel 19 = .ok (.getfield 93, 3) := by decide +kernel
theorem dX8_reel_22 : decode cX8_reel 22 = .ok (.putfield 80, 3) := by decide +kernel
theorem dX8_reel_25 : decode cX8_reel 25 = .ok (.aload_n 0, 1) := by decide +kernel
theorem dX8_reel_26 : decode cX8_reel 26 = .ok (.aload_n 0, 1) := by decide +kernel
theorem dX8_reel_27 : decode cX8_reel 27 = .ok (.getfield 100, 3) := by decide +kernel
theorem dX8_reel_30 : decode cX8_reel 30 = .ok (.putfield 73, 3) := by decide +kernel
theorem dX8_reel_33 : decode cX8_reel 33 = .ok (.iconst 0, 1) := by decide +kernel
theorem dX8_reel_34 : decode cX8_reel 34 = .ok (.istore_n 1, 1) := by decide +kernel
theorem dX8_reel_35 : decode cX8_reel 35 = .ok (.iload_n 1, 1) := by decide +kernel
theorem dX8_reel_36 : decode cX8_reel 36 = .ok (.sipush 192, 3) := by decide +kernel
theorem dX8_reel_39 : decode cX8_reel 39 = .ok (.if_icmp .ge 21, 3) := by decide +kernel
theorem dX8_reel_42 : decode cX8_reel 42 = .ok (.aload_n 0, 1) := by decide +kernel
theorem dX8_reel_43 : decode cX8_reel 43 = .ok (.getfield 13, 3) := by decide +kernel
theorem dX8_reel_46 : decode cX8_reel 46 = .ok (.iload_n 1, 1) := by decide +kernel
theorem dX8_reel_47 : decode cX8_reel 47 = .ok (.aload_n 0, 1) := by decide +kernel
theorem dX8_reel_48 : decode cX8_reel 48 = .ok (.getfield 19, 3) := by decide +kernel
theorem dX8_reel_51 : decode cX8_reel 51 = .ok (.iload_n 1, 1) := by decide +kernel
theorem dX8_reel_52 : decode cX8_reel 52 = .ok (.iaload, 1) := by decide +kernel
theorem dX8_reel_53 : decode cX8_reel 53 = .ok (.iastore, 1) := by decide +kernel
theorem dX8_reel_54 : decode cX8_reel 54 = .ok (.iinc 1 1, 3) := by decide +kernel
theorem dX8_reel_57 : decode cX8_reel 57 = .ok (.goto (-22), 3) := by decide +kernel
theorem dX8_reel_60 : decode cX8_reel 60 = .ok (.iconst 0, 1) := by decide +kernel
theorem dX8_reel_61 : decode cX8_reel 61 = .ok (.istore_n 1, 1) := by decide +kernel
theorem dX8_reel_62 : decode cX8_reel 62 = .ok (.iload_n 1, 1) := by decide +kernel
theorem dX8_reel_63 : decode cX8_reel 63 = .ok (.iconst 4, 1) := by decide +kernel
theorem dX8_reel_64 : decode cX8_reel 64 = .ok (.if_icmp .ge 21, 3) := by decide +kernel
theorem dX8_reel_67 : decode cX8_reel 67 = .ok (.aload_n 0, 1) := by decide +kernel
theorem dX8_reel_68 : decode cX8_reel 68 = .ok (.getfield 16, 3) := by decide +kernel
theorem dX8_reel_71 : decode cX8_reel 71 = .ok (.iload_n 1, 1) := by decide +kernel
theorem dX8_reel_72 : decode cX8_reel 72 = .ok (.aload_n 0, 1) := by decide +kernel
theorem dX8_reel_73 : decode cX8_reel 73 = .ok (.getfield 22, 3) := by decide +kernel
theorem dX8_reel_76 : decode cX8_reel 76 = .ok (.iload_n 1, 1) := by decide +kernel
theorem dX8_reel_77 : decode cX8_reel 77 = .ok (.iaload, 1) := by decide +kernel
theorem dX8_reel_78 : decode cX8_reel 78 = .ok (.iastore, 1) := by decide +kernel
theorem dX8_reel_79 : decode cX8_reel 79 = .ok (.iinc 1 1, 3) := by decide +kernel
theorem dX8_reel_82 : decode cX8_reel 82 = .ok (.goto (-20), 3) := by decide +kernel
theorem dX8_reel_85 : decode cX8_reel 85 = .ok (.iconst 0, 1) := by decide +kernel
theorem dX8_reel_86 : decode cX8_reel 86 = .ok (.istore_n 1, 1) := by decide +kernel
theorem dX8_reel_87 : decode cX8_reel 87 = .ok (.iload_n 1, 1) := by decide +kernel
theorem dX8_reel_88 : decode cX8_reel 88 = .ok (.bipush 40, 2) := by decide +kernel
theorem dX8_reel_90 : decode cX8_reel 90 = .ok (.if_icmp .ge 21, 3) := by decide +kernel
theorem dX8_reel_93 : decode cX8_reel 93 = .ok (.aload_n 0, 1) := by decide +kernel
theorem dX8_reel_94 : decode cX8_reel 94 = .ok (.getfield 35, 3) := by decide +kernel
theorem dX8_reel_97 : decode cX8_reel 97 = .ok (.iload_n 1, 1) := by decide +kernel
theorem dX8_reel_98 : decode cX8_reel 98 = .ok (.aload_n 0, 1) := by decide +kernel
theorem dX8_reel_99 : decode cX8_reel 99 = .ok (.getfield 25, 3) := by decide +kernel
theorem dX8_reel_102 : decode cX8_reel 102 = .ok (.iload_n 1, 1) := by decide +kernel
theorem dX8_reel_103 : decode cX8_reel 103 = .ok (.iaload, 1) := by decide +kernel
theorem dX8_reel_104 : decode cX8_reel 104 = .ok (.iastore, 1) := by decide +kernel
theorem dX8_reel_105 : decode cX8_reel 105 = .ok (.iinc 1 1, 3) := by decide +kernel
theorem dX8_reel_108 : decode cX8_reel 108 = .ok (.goto (-21), 3) := by decide +kernel
theorem dX8_reel_111 : decode cX8_reel 111 = .ok (.aload_n 0, 1) := by decide +kernel
theorem dX8_reel_112 : decode cX8_reel 112 = .ok (.iconst 0, 1) := by decide +kernel
theorem dX8_reel_113 : decode cX8_reel 113 = .ok (.putfield 121, 3) := by decide +kernel
theorem dX8_reel_116 : decode cX8_reel 116 = .ok (.aload_n 0, 1) := by decide +kernel
theorem dX8_reel_117 : decode cX8_reel 117 = .ok (.getfield 47, 3) := by decide +kernel
theorem dX8_reel_120 : decode cX8_reel 120 = .ok (.iconst 0, 1) := by decide +kernel
theorem dX8_reel_121 : decode cX8_reel 121 = .ok (.iconst 0, 1) := by decide +kernel
theorem dX8_reel_122 : decode cX8_reel 122 = .ok (.bastore, 1) := by decide +kernel
theorem dX8_reel_123 : decode cX8_reel 123 = .ok (.aload_n 0, 1) := by decide +kernel
theorem dX8_reel_124 : decode cX8_reel 124 = .ok (.getfield 47, 3) := by decide +kernel
theorem dX8_reel_127 : decode cX8_reel 127 = .ok (.iconst 1, 1) := by decide +kernel
theorem dX8_reel_128 : decode cX8_reel 128 = .ok (.iconst 0, 1) := by decide +kernel
theorem dX8_reel_129 : decode cX8_reel 129 = .ok (.bastore, 1) := by decide +kernel
theorem dX8_reel_130 : decode cX8_reel 130 = .ok (.aload_n 0, 1) := by decide +kernel
theorem dX8_reel_131 : decode cX8_reel 131 = .ok (.getfield 73, 3) := by decide +kernel
theorem dX8_reel_134 : decode cX8_reel 134 = .ok (.ireturn, 1) := by decide +kernel
theorem dX8_exposedOn_0 : decode cX8_exposedOn 0 = .ok (.iload_n 3, 1) := by decide +kernel
theorem dX8_exposedOn_1 : decode cX8_exposedOn 1 = .ok (.aload_n 1, 1) := by decide +kernel
theorem dX8_exposedOn_2 : decode cX8_exposedOn 2 = .ok (.bipush 12, 2) := by decide +kernel
theorem dX8_exposedOn_4 : decode cX8_exposedOn 4 = .ok (.iload_n 2, 1) := by decide +kernel
theorem dX8_exposedOn_5 : decode cX8_exposedOn 5 = .ok (.iadd, 1) := by decide +kernel
theorem dX8_exposedOn_6 : decode cX8_exposedOn 6 = .ok (.iaload, 1) := by decide +kernel
theorem dX8_exposedOn_7 : decode cX8_exposedOn 7 = .ok (.isub, 1) := by decide +kernel
theorem dX8_exposedOn_8 : decode cX8_exposedOn 8 = .ok (.istore 4, 2) := by decide +kernel
theorem dX8_exposedOn_10 : decode cX8_exposedOn 10 = .ok (.iload 4, 2) := by decide +kernel
theorem dX8_exposedOn_12 : decode cX8_exposedOn 12 = .ok (.i2l, 1) := by decide +kernel
theorem dX8_exposedOn_13 : decode cX8_exposedOn 13 = .ok (.lconst 0, 1) := by decide +kernel
theorem dX8_exposedOn_14 : decode cX8_exposedOn 14 = .ok (.aload_n 0, 1) := by decide +kernel
theorem dX8_exposedOn_15 : decode cX8_exposedOn 15 = .ok (.getfield 16, 3) := by decide +kernel
theorem dX8_exposedOn_18 : decode cX8_exposedOn 18 = .ok (.iload_n 2, 1) := by decide +kernel
theorem dX8_exposedOn_19 : decode cX8_exposedOn 19 = .ok (.iaload, 1) := by decide +kernel
theorem dX8_exposedOn_20 : decode cX8_exposedOn 20 = .ok (.iconst 1, 1) := by decide +kernel
theorem dX8_exposedOn_21 : decode cX8_exposedOn 21 = .ok (.isub, 1) := by decide +kernel
theorem dX8_exposedOn_22 : decode cX8_exposedOn 22 = .ok (.i2l, 1) := by decide +kernel
theorem dX8_exposedOn_23 : decode cX8_exposedOn 23 = .ok (.invokestatic 76, 3) := by decide +kernel
theorem dX8_exposedOn_26 : decode cX8_exposedOn 26 = .ok (.ifCond .eq 18, 3) := by decide +kernel
theorem dX8_exposedOn_29 : decode cX8_exposedOn 29 = .ok (.aload_n 0, 1) := by decide +kernel
theorem dX8_exposedOn_30 : decode cX8_exposedOn 30 = .ok (.getfield 13, 3) := by decide +kernel
theorem dX8_exposedOn_33 : decode cX8_exposedOn 33 = .ok (.bipush 48, 2) := by decide +kernel
theorem dX8_exposedOn_35 : decode cX8_exposedOn 35 = .ok (.iload_n 2, 1) := by decide +kernel
theorem dX8_exposedOn_36 : decode cX8_exposedOn 36 = .ok (.imul, 1) := by decide +kernel
theorem dX8_exposedOn_37 : decode cX8_exposedOn 37 = .ok (.iload 4, 2) := by decide +kernel
theorem dX8_exposedOn_39 : decode cX8_exposedOn 39 = .ok (.iadd, 1) := by decide +kernel
theorem dX8_exposedOn_40 : decode cX8_exposedOn 40 = .ok (.iaload, 1) := by decide +kernel
theorem dX8_exposedOn_41 : decode cX8_exposedOn 41 = .ok (.goto 5, 3) := by decide +kernel
theorem dX8_exposedOn_44 : decode cX8_exposedOn 44 = .ok (.bipush (-9), 2) := by decide +kernel
theorem dX8_exposedOn_46 : decode cX8_exposedOn 46 = .ok (.ireturn, 1) := by decide +kernel
theorem dX8_whereIs_0 : decode cX8_whereIs 0 = .ok (.bipush 16, 2) := by decide +kernel
theorem dX8_whereIs_2 : decode cX8_whereIs 2 = .ok (.iconst 3, 1) := by decide +kernel
theorem dX8_whereIs_3 : decode cX8_whereIs 3 = .ok (.iload_n 1, 1) := by decide +kernel
theorem dX8_whereIs_4 : decode cX8_whereIs 4 = .ok (.imul, 1) := by decide +kernel
theorem dX8_whereIs_5 : decode cX8_whereIs 5 = .ok (.iadd, 1) := by decide +kernel
theorem dX8_whereIs_6 : decode cX8_whereIs 6 = .ok (.istore_n 3, 1) := by decide +kernel
theorem dX8_whereIs_7 : decode cX8_whereIs 7 = .ok (.aload_n 0, 1) := by decide +kernel
theorem dX8_whereIs_8 : decode cX8_whereIs 8 = .ok (.iload_n 3, 1) := by decide +kernel
theorem dX8_whereIs_9 : decode cX8_whereIs 9 = .ok (.iaload, 1) := by decide +kernel
theorem dX8_whereIs_10 : decode cX8_whereIs 10 = .ok (.aload_n 0, 1) := by decide +kernel
theorem dX8_whereIs_11 : decode cX8_whereIs 11 = .ok (.iload_n 3, 1) := by decide +kernel
theorem dX8_whereIs_12 : decode cX8_whereIs 12 = .ok (.iconst 1, 1) := by decide +kernel
theorem dX8_whereIs_13 : decode cX8_whereIs 13 = .ok (.iadd, 1) := by decide +kernel
theorem dX8_whereIs_14 : decode cX8_whereIs 14 = .ok (.iaload, 1) := by decide +kernel
theorem dX8_whereIs_15 : decode cX8_whereIs 15 = .ok (.iload_n 2, 1) := by decide +kernel
theorem dX8_whereIs_16 : decode cX8_whereIs 16 = .ok (.aload_n 0, 1) := by decide +kernel
theorem dX8_whereIs_17 : decode cX8_whereIs 17 = .ok (.iload_n 3, 1) := by decide +kernel
theorem dX8_whereIs_18 : decode cX8_whereIs 18 = .ok (.iconst 2, 1) := by decide +kernel
theorem dX8_whereIs_19 : decode cX8_whereIs 19 = .ok (.iadd, 1) := by decide +kernel
theorem dX8_whereIs_20 : decode cX8_whereIs 20 = .ok (.iaload, 1) := by decide +kernel
theorem dX8_whereIs_21 : decode cX8_whereIs 21 = .ok (.idiv, 1) := by decide +kernel
theorem dX8_whereIs_22 : decode cX8_whereIs 22 = .ok (.imul, 1) := by decide +kernel
theorem dX8_whereIs_23 : decode cX8_whereIs 23 = .ok (.iadd, 1) := by decide +kernel
theorem dX8_whereIs_24 : decode cX8_whereIs 24 = .ok (.ireturn, 1) := by decide +kernel
theorem dX8_firstOrder_0 : decode cX8_firstOrder 0 = .ok (.iconst 0, 1) := by decide +kernel
theorem dX8_firstOrder_1 : decode cX8_firstOrder 1 = .ok (.istore_n 1, 1) := by decide +kernel
theorem dX8_firstOrder_2 : decode cX8_firstOrder 2 = .ok (.iconst 0, 1) := by decide +kernel
theorem dX8_firstOrder_3 : decode cX8_firstOrder 3 = .ok (.istore_n 2, 1) := by decide +kernel
theorem dX8_firstOrder_4 : decode cX8_firstOrder 4 = .ok (.iload_n 2, 1) := by decide +kernel
theorem dX8_firstOrder_5 : decode cX8_firstOrder 5 = .ok (.aload_n 0, 1) := by decide +kernel
theorem dX8_firstOrder_6 : decode cX8_firstOrder 6 = .ok (.getfield 73, 3) := by decide +kernel
theorem dX8_firstOrder_9 : decode cX8_firstOrder 9 = .ok (.if_icmp .ge 16, 3) := by decide +kernel
theorem dX8_firstOrder_12 : decode cX8_firstOrder 12 = .ok (.bipush 10, 2) := by decide +kernel
theorem dX8_firstOrder_14 : decode cX8_firstOrder 14 = .ok (.iload_n 1, 1) := by decide +kernel
theorem dX8_firstOrder_15 : decode cX8_firstOrder 15 = .ok (.imul, 1) := by decide +kernel
theorem dX8_firstOrder_16 : decode cX8_firstOrder 16 = .ok (.iload_n 2, 1) := by decide +kernel
theorem dX8_firstOrder_17 : decode cX8_firstOrder 17 = .ok (.iadd, 1) := by decide +kernel
theorem dX8_firstOrder_18 : decode cX8_firstOrder 18 = .ok (.istore_n 1, 1) := by decide +kernel
theorem dX8_firstOrder_19 : decode cX8_firstOrder 19 = .ok (.iinc 2 1, 3) := by decide +kernel
theorem dX8_firstOrder_22 : decode cX8_firstOrder 22 = .ok (.goto (-18), 3) := by decide +kernel
theorem dX8_firstOrder_25 : decode cX8_firstOrder 25 = .ok (.iload_n 1, 1) := by decide +kernel
theorem dX8_firstOrder_26 : decode cX8_firstOrder 26 = .ok (.ireturn, 1) := by decide +kernel
theorem dX8_orderAt_0 : decode cX8_orderAt 0 = .ok (.aload_n 0, 1) := by decide +kernel
theorem dX8_orderAt_1 : decode cX8_orderAt 1 = .ok (.invokevirtual 124, 3) := by decide +kernel
theorem dX8_orderAt_4 : decode cX8_orderAt 4 = .ok (.istore_n 3, 1) := by decide +kernel
theorem dX8_orderAt_5 : decode cX8_orderAt 5 = .ok (.iconst (-1), 1) := by decide +kernel
theorem dX8_orderAt_6 : decode cX8_orderAt 6 = .ok (.istore 4, 2) := by decide +kernel
theorem dX8_orderAt_8 : decode cX8_orderAt 8 = .ok (.iconst 0, 1) := by decide +kernel
theorem dX8_orderAt_9 : decode cX8_orderAt 9 = .ok (.istore 5, 2) := by decide +kernel
theorem dX8_orderAt_11 : decode cX8_orderAt 11 = .ok (.iload 5, 2) := by decide +kernel
theorem dX8_orderAt_13 : decode cX8_orderAt 13 = .ok (.aload_n 1, 1) := by decide +kernel
theorem dX8_orderAt_14 : decode cX8_orderAt 14 = .ok (.bipush 31, 2) := by decide +kernel
theorem dX8_orderAt_16 : decode cX8_orderAt 16 = .ok (.iaload, 1) := by decide +kernel
theorem dX8_orderAt_17 : decode cX8_orderAt 17 = .ok (.if_icmp .ge 49, 3) := by decide +kernel
theorem dX8_orderAt_20 : decode cX8_orderAt 20 = .ok (.aload_n 1, 1) := by decide +kernel
theorem dX8_orderAt_21 : decode cX8_orderAt 21 = .ok (.bipush 32, 2) := by decide +kernel
theorem dX8_orderAt_23 : decode cX8_orderAt 23 = .ok (.iload 5, 2) := by decide +kernel
theorem dX8_orderAt_25 : decode cX8_orderAt 25 = .ok (.iadd, 1) := by decide +kernel
theorem dX8_orderAt_26 : decode cX8_orderAt 26 = .ok (.iaload, 1) := by decide +kernel
theorem dX8_orderAt_27 : decode cX8_orderAt 27 = .ok (.iload_n 2, 1) := by decide +kernel
theorem dX8_orderAt_28 : decode cX8_orderAt 28 = .ok (.if_icmp .gt 32, 3) := by decide +kernel
theorem dX8_orderAt_31 : decode cX8_orderAt 31 = .ok (.aload_n 1, 1) := by decide +kernel
theorem dX8_orderAt_32 : decode cX8_orderAt 32 = .ok (.bipush 32, 2) := by decide +kernel
theorem dX8_orderAt_34 : decode cX8_orderAt 34 = .ok (.iload 5, 2) := by decide +kernel
theorem dX8_orderAt_36 : decode cX8_orderAt 36 = .ok (.iadd, 1) := by decide +kernel
theorem dX8_orderAt_37 : decode cX8_orderAt 37 = .ok (.iaload, 1) := by decide +kernel
theorem dX8_orderAt_38 : decode cX8_orderAt 38 = .ok (.iload 4, 2) := by decide +kernel
theorem dX8_orderAt_40 : decode cX8_orderAt 40 = .ok (.if_icmp .lt 20, 3) := by decide +kernel
theorem dX8_orderAt_43 : decode cX8_orderAt 43 = .ok (.aload_n 1, 1) := by decide +kernel
theorem dX8_orderAt_44 : decode cX8_orderAt 44 = .ok (.bipush 32, 2) := by decide +kernel
theorem dX8_orderAt_46 : decode cX8_orderAt 46 = .ok (.iload 5, 2) := by decide +kernel
theorem dX8_orderAt_48 : decode cX8_orderAt 48 = .ok (.iadd, 1) := by decide +kernel
theorem dX8_orderAt_49 : decode cX8_orderAt 49 = .ok (.iaload, 1) := by decide +kernel
theorem dX8_orderAt_50 : decode cX8_orderAt 50 = .ok (.istore 4, 2) := by decide +kernel
theorem dX8_orderAt_52 : decode cX8_orderAt 52 = .ok (.aload_n 1, 1) := by decide +kernel
theorem dX8_orderAt_53 : decode cX8_orderAt 53 = .ok (.bipush 36, 2) := by decide +kernel
theorem dX8_orderAt_55 : decode cX8_orderAt 55 = .ok (.iload 5, 2) := by decide +kernel
theorem dX8_orderAt_57 : decode cX8_orderAt 57 = .ok (.iadd, 1) := by decide +kernel
theorem dX8_orderAt_58 : decode cX8_orderAt 58 = .ok (.iaload, 1) := by decide +kernel
theorem dX8_orderAt_59 : decode cX8_orderAt 59 = .ok (.istore_n 3, 1) := by decide +kernel
theorem dX8_orderAt_60 : decode cX8_orderAt 60 = .ok (.iinc 5 1, 3) := by decide +kernel
theorem dX8_orderAt_63 : decode cX8_orderAt 63 = .ok (.goto (-52), 3) := by decide +kernel
theorem dX8_orderAt_66 : decode cX8_orderAt 66 = .ok (.iload_n 3, 1) := by decide +kernel
theorem dX8_orderAt_67 : decode cX8_orderAt 67 = .ok (.ireturn, 1) := by decide +kernel
theorem dX8_lookBy_0 : decode cX8_lookBy 0 = .ok (.aload_n 0, 1) := by decide +kernel
theorem dX8_lookBy_1 : decode cX8_lookBy 1 = .ok (.aload_n 1, 1) := by decide +kernel
theorem dX8_lookBy_2 : decode cX8_lookBy 2 = .ok (.iload_n 2, 1) := by decide +kernel
theorem dX8_lookBy_3 : decode cX8_lookBy 3 = .ok (.invokevirtual 127, 3) := by decide +kernel
theorem dX8_lookBy_6 : decode cX8_lookBy 6 = .ok (.istore 6, 2) := by decide +kernel
theorem dX8_lookBy_8 : decode cX8_lookBy 8 = .ok (.iload_n 3, 1) := by decide +kernel
theorem dX8_lookBy_9 : decode cX8_lookBy 9 = .ok (.aload_n 1, 1) := by decide +kernel
theorem dX8_lookBy_10 : decode cX8_lookBy 10 = .ok (.iconst 4, 1) := by decide +kernel
theorem dX8_lookBy_11 : decode cX8_lookBy 11 = .ok (.iload_n 2, 1) := by decide +kernel
theorem dX8_lookBy_12 : decode cX8_lookBy 12 = .ok (.invokestatic 131, 3) := by decide +kernel
theorem dX8_lookBy_15 : decode cX8_lookBy 15 = .ok (.iadd, 1) := by decide +kernel
theorem dX8_lookBy_16 : decode cX8_lookBy 16 = .ok (.istore 7, 2) := by decide +kernel
theorem dX8_lookBy_18 : decode cX8_lookBy 18 = .ok (.iconst 0, 1) := by decide +kernel
theorem dX8_lookBy_19 : decode cX8_lookBy 19 = .ok (.istore 8, 2) := by decide +kernel
theorem dX8_lookBy_21 : decode cX8_lookBy 21 = .ok (.iload 8, 2) := by decide +kernel
theorem dX8_lookBy_23 : decode cX8_lookBy 23 = .ok (.aload_n 0, 1) := by decide +kernel
theorem dX8_lookBy_24 : decode cX8_lookBy 24 = .ok (.getfield 73, 3) := by decide +kernel
theorem dX8_lookBy_27 : decode cX8_lookBy 27 = .ok (.if_icmp .ge 115, 3) := by decide +kernel
theorem dX8_lookBy_30 : decode cX8_lookBy 30 = .ok (.iload 6, 2) := by decide +kernel
theorem dX8_lookBy_32 : decode cX8_lookBy 32 = .ok (.bipush 10, 2) := by decide +kernel
theorem dX8_lookBy_34 : decode cX8_lookBy 34 = .ok (.aload_n 0, 1) := by decide +kernel
theorem dX8_lookBy_35 : decode cX8_lookBy 35 = .ok (.getfield 73, 3) := by decide +kernel
theorem dX8_lookBy_38 : decode cX8_lookBy 38 = .ok (.iconst 1, 1) := by decide +kernel
theorem dX8_lookBy_39 : decode cX8_lookBy 39 = .ok (.isub, 1) := by decide +kernel
theorem dX8_lookBy_40 : decode cX8_lookBy 40 = .ok (.iload 8, 2) := by decide +kernel
theorem dX8_lookBy_42 : decode cX8_lookBy 42 = .ok (.isub, 1) := by decide +kernel
theorem dX8_lookBy_43 : decode cX8_lookBy 43 = .ok (.invokestatic 135, 3) := by decide +kernel
theorem dX8_lookBy_46 : decode cX8_lookBy 46 = .ok (.idiv, 1) := by decide +kernel
theorem dX8_lookBy_47 : decode cX8_lookBy 47 = .ok (.bipush 10, 2) := by decide +kernel
theorem dX8_lookBy_49 : decode cX8_lookBy 49 = .ok (.irem, 1) := by decide +kernel
theorem dX8_lookBy_50 : decode cX8_lookBy 50 = .ok (.istore 9, 2) := by decide +kernel
theorem dX8_lookBy_52 : decode cX8_lookBy 52 = .ok (.aload_n 0, 1) := by decide +kernel
theorem dX8_lookBy_53 : decode cX8_lookBy 53 = .ok (.aload_n 1, 1) := by decide +kernel
theorem dX8_lookBy_54 : decode cX8_lookBy 54 = .ok (.iload 9, 2) := by decide +kernel
theorem dX8_lookBy_56 : decode cX8_lookBy 56 = .ok (.iload_n 2, 1) := by decide +kernel
theorem dX8_lookBy_57 : decode cX8_lookBy 57 = .ok (.invokevirtual 138, 3) := by decide +kernel
theorem dX8_lookBy_60 : decode cX8_lookBy 60 = .ok (.istore 10, 2) := by decide +kernel
theorem dX8_lookBy_62 : decode cX8_lookBy 62 = .ok (.iload 10, 2) := by decide +kernel
theorem dX8_lookBy_64 : decode cX8_lookBy 64 = .ok (.bipush (-9), 2) := by decide +kernel
theorem dX8_lookBy_66 : decode cX8_lookBy 66 = .ok (.if_icmp .eq 70, 3) := by decide +kernel
theorem dX8_lookBy_69 : decode cX8_lookBy 69 = .ok (.iload 10, 2) := by decide +kernel
theorem dX8_lookBy_71 : decode cX8_lookBy 71 = .ok (.iload 5, 2) := by decide +kernel
theorem dX8_lookBy_73 : decode cX8_lookBy 73 = .ok (.if_icmp .eq 63, 3) := by decide +kernel
theorem dX8_lookBy_76 : decode cX8_lookBy 76 = .ok (.iload 4, 2) := by decide +kernel
theorem dX8_lookBy_78 : decode cX8_lookBy 78 = .ok (.iload 9, 2) := by decide +kernel
theorem dX8_lookBy_80 : decode cX8_lookBy 80 = .ok (.invokestatic 141, 3) := by decide +kernel
theorem dX8_lookBy_83 : decode cX8_lookBy 83 = .ok (.ifCond .eq 53, 3) := by decide +kernel
theorem dX8_lookBy_86 : decode cX8_lookBy 86 = .ok (.aload_n 1, 1) := by decide +kernel
theorem dX8_lookBy_87 : decode cX8_lookBy 87 = .ok (.iconst 0, 1) := by decide +kernel
theorem dX8_lookBy_88 : decode cX8_lookBy 88 = .ok (.iload 10, 2) := by decide +kernel
theorem dX8_lookBy_90 : decode cX8_lookBy 90 = .ok (.iadd, 1) := by decide +kernel
theorem dX8_lookBy_91 : decode cX8_lookBy 91 = .ok (.iaload, 1) := by decide +kernel
theorem dX8_lookBy_92 : decode cX8_lookBy 92 = .ok (.aload_n 1, 1) := by decide +kernel
theorem dX8_lookBy_93 : decode cX8_lookBy 93 = .ok (.iload 9, 2) := by decide +kernel
theorem dX8_lookBy_95 : decode cX8_lookBy 95 = .ok (.iload_n 2, 1) := by decide +kernel
theorem dX8_lookBy_96 : decode cX8_lookBy 96 = .ok (.invokestatic 131, 3) := by decide +kernel
theorem dX8_lookBy_99 : decode cX8_lookBy 99 = .ok (.iadd, 1) := by decide +kernel
theorem dX8_lookBy_100 : decode cX8_lookBy 100 = .ok (.istore 11, 2) := by decide +kernel
theorem dX8_lookBy_102 : decode cX8_lookBy 102 = .ok (.iload 7, 2) := by decide +kernel
theorem dX8_lookBy_104 : decode cX8_lookBy 104 = .ok (.i2l, 1) := by decide +kernel
theorem dX8_lookBy_105 : decode cX8_lookBy 105 = .ok (.iload 11, 2) := by decide +kernel
theorem dX8_lookBy_107 : decode cX8_lookBy 107 = .ok (.i2l, 1) := by decide +kernel
theorem dX8_lookBy_108 : decode cX8_lookBy 108 = .ok (.iload 11, 2) := by decide +kernel
theorem dX8_lookBy_110 : decode cX8_lookBy 110 = .ok (.aload_n 1, 1) := by decide +kernel
theorem dX8_lookBy_111 : decode cX8_lookBy 111 = .ok (.bipush 6, 2) := by decide +kernel
theorem dX8_lookBy_113 : decode cX8_lookBy 113 = .ok (.iload 10, 2) := by decide +kernel
theorem dX8_lookBy_115 : decode cX8_lookBy 115 = .ok (.iadd, 1) := by decide +kernel
theorem dX8_lookBy_116 : decode cX8_lookBy 116 = .ok (.iaload, 1) := by decide +kernel
theorem dX8_lookBy_117 : decode cX8_lookBy 117 = .ok (.iadd, 1) := by decide +kernel
theorem dX8_lookBy_118 : decode cX8_lookBy 118 = .ok (.iconst 1, 1) := by decide +kernel
theorem dX8_lookBy_119 : decode cX8_lookBy 119 = .ok (.isub, 1) := by decide +kernel
theorem dX8_lookBy_120 : decode cX8_lookBy 120 = .ok (.i2l, 1) := by decide +kernel
theorem dX8_lookBy_121 : decode cX8_lookBy 121 = .ok (.invokestatic 76, 3) := by decide +kernel
theorem dX8_lookBy_124 : decode cX8_lookBy 124 = .ok (.ifCond .eq 12, 3) := by decide +kernel
theorem dX8_lookBy_127 : decode cX8_lookBy 127 = .ok (.bipush 10, 2) := by decide +kernel
theorem dX8_lookBy_129 : decode cX8_lookBy 129 = .ok (.iload 9, 2) := by decide +kernel
theorem dX8_lookBy_131 : decode cX8_lookBy 131 = .ok (.imul, 1) := by decide +kernel
theorem dX8_lookBy_132 : decode cX8_lookBy 132 = .ok (.iload 10, 2) := by decide +kernel
theorem dX8_lookBy_134 : decode cX8_lookBy 134 = .ok (.iadd, 1) := by decide +kernel
theorem dX8_lookBy_135 : decode cX8_lookBy 135 = .ok (.ireturn, 1) := by decide +kernel
theorem dX8_lookBy_136 : decode cX8_lookBy 136 = .ok (.iinc 8 1, 3) := by decide +kernel
theorem dX8_lookBy_139 : decode cX8_lookBy 139 = .ok (.goto (-118), 3) := by decide +kernel
theorem dX8_lookBy_142 : decode cX8_lookBy 142 = .ok (.bipush (-9), 2) := by decide +kernel
theorem dX8_lookBy_144 : decode cX8_lookBy 144 = .ok (.ireturn, 1) := by decide +kernel
theorem dX8_every_0 : decode cX8_every 0 = .ok (.iconst 1, 1) := by decide +kernel
theorem dX8_every_1 : decode cX8_every 1 = .ok (.aload_n 0, 1) := by decide +kernel
theorem dX8_every_2 : decode cX8_every 2 = .ok (.getfield 73, 3) := by decide +kernel
theorem dX8_every_5 : decode cX8_every 5 = .ok (.ishl, 1) := by decide +kernel
theorem dX8_every_6 : decode cX8_every 6 = .ok (.iconst 1, 1) := by decide +kernel
theorem dX8_every_7 : decode cX8_every 7 = .ok (.isub, 1) := by decide +kernel
theorem dX8_every_8 : decode cX8_every 8 = .ok (.ireturn, 1) := by decide +kernel
theorem dX8_mostOf_0 : decode cX8_mostOf 0 = .ok (.iconst 0, 1) := by decide +kernel
theorem dX8_mostOf_1 : decode cX8_mostOf 1 = .ok (.istore_n 3, 1) := by decide +kernel
theorem dX8_mostOf_2 : decode cX8_mostOf 2 = .ok (.iconst 0, 1) := by decide +kernel
theorem dX8_mostOf_3 : decode cX8_mostOf 3 = .ok (.istore 4, 2) := by decide +kernel
theorem dX8_mostOf_5 : decode cX8_mostOf 5 = .ok (.iload 4, 2) := by decide +kernel
theorem dX8_mostOf_7 : decode cX8_mostOf 7 = .ok (.bipush 48, 2) := by decide +kernel
theorem dX8_mostOf_9 : decode cX8_mostOf 9 = .ok (.if_icmp .ge 66, 3) := by decide +kernel
theorem dX8_mostOf_12 : decode cX8_mostOf 12 = .ok (.iconst 0, 1) := by decide +kernel
theorem dX8_mostOf_13 : decode cX8_mostOf 13 = .ok (.istore 5, 2) := by decide +kernel
theorem dX8_mostOf_15 : decode cX8_mostOf 15 = .ok (.iconst 0, 1) := by decide +kernel
theorem dX8_mostOf_16 : decode cX8_mostOf 16 = .ok (.istore 6, 2) := by decide +kernel
theorem dX8_mostOf_18 : decode cX8_mostOf 18 = .ok (.iload 6, 2) := by decide +kernel
theorem dX8_mostOf_20 : decode cX8_mostOf 20 = .ok (.aload_n 0, 1) := by decide +kernel
theorem dX8_mostOf_21 : decode cX8_mostOf 21 = .ok (.getfield 73, 3) := by decide +kernel
theorem dX8_mostOf_24 : decode cX8_mostOf 24 = .ok (.if_icmp .ge 32, 3) := by decide +kernel
theorem dX8_mostOf_27 : decode cX8_mostOf 27 = .ok (.iload 5, 2) := by decide +kernel
theorem dX8_mostOf_29 : decode cX8_mostOf 29 = .ok (.aload_n 0, 1) := by decide +kernel
theorem dX8_mostOf_30 : decode cX8_mostOf 30 = .ok (.aload_n 1, 1) := by decide +kernel
theorem dX8_mostOf_31 : decode cX8_mostOf 31 = .ok (.iload 6, 2) := by decide +kernel
theorem dX8_mostOf_33 : decode cX8_mostOf 33 = .ok (.iload 4, 2) := by decide +kernel
theorem dX8_mostOf_35 : decode cX8_mostOf 35 = .ok (.invokevirtual 138, 3) := by decide +kernel
theorem dX8_mostOf_38 : decode cX8_mostOf 38 = .ok (.iload_n 2, 1) := by decide +kernel
theorem dX8_mostOf_39 : decode cX8_mostOf 39 = .ok (.if_icmp .ne 7, 3) := by decide +kernel
theorem dX8_mostOf_42 : decode cX8_mostOf 42 = .ok (.iconst 1, 1) := by decide +kernel
theorem dX8_mostOf_43 : decode cX8_mostOf 43 = .ok (.goto 4, 3) := by decide +kernel
theorem dX8_mostOf_46 : decode cX8_mostOf 46 = .ok (.iconst 0, 1) := by decide +kernel
theorem dX8_mostOf_47 : decode cX8_mostOf 47 = .ok (.iadd, 1) := by decide +kernel
theorem dX8_mostOf_48 : decode cX8_mostOf 48 = .ok (.istore 5, 2) := by decide +kernel
theorem dX8_mostOf_50 : decode cX8_mostOf 50 = .ok (.iinc 6 1, 3) := by decide +kernel
theorem dX8_mostOf_53 : decode cX8_mostOf 53 = .ok (.goto (-35), 3) := by decide +kernel
theorem dX8_mostOf_56 : decode cX8_mostOf 56 = .ok (.iload 5, 2) := by decide +kernel
theorem dX8_mostOf_58 : decode cX8_mostOf 58 = .ok (.iload_n 3, 1) := by decide +kernel
theorem dX8_mostOf_59 : decode cX8_mostOf 59 = .ok (.if_icmp .le 8, 3) := by decide +kernel
theorem dX8_mostOf_62 : decode cX8_mostOf 62 = .ok (.iload 5, 2) := by decide +kernel
theorem dX8_mostOf_64 : decode cX8_mostOf 64 = .ok (.goto 4, 3) := by decide +kernel
theorem dX8_mostOf_67 : decode cX8_mostOf 67 = .ok (.iload_n 3, 1) := by decide +kernel
theorem dX8_mostOf_68 : decode cX8_mostOf 68 = .ok (.istore_n 3, 1) := by decide +kernel
theorem dX8_mostOf_69 : decode cX8_mostOf 69 = .ok (.iinc 4 1, 3) := by decide +kernel
theorem dX8_mostOf_72 : decode cX8_mostOf 72 = .ok (.goto (-67), 3) := by decide +kernel
theorem dX8_mostOf_75 : decode cX8_mostOf 75 = .ok (.iload_n 3, 1) := by decide +kernel
theorem dX8_mostOf_76 : decode cX8_mostOf 76 = .ok (.ireturn, 1) := by decide +kernel
theorem dX8_cels_0 : decode cX8_cels 0 = .ok (.iconst 0, 1) := by decide +kernel
theorem dX8_cels_1 : decode cX8_cels 1 = .ok (.istore_n 2, 1) := by decide +kernel
theorem dX8_cels_2 : decode cX8_cels 2 = .ok (.iconst 0, 1) := by decide +kernel
theorem dX8_cels_3 : decode cX8_cels 3 = .ok (.istore_n 3, 1) := by decide +kernel
theorem dX8_cels_4 : decode cX8_cels 4 = .ok (.iload_n 3, 1) := by decide +kernel
theorem dX8_cels_5 : decode cX8_cels 5 = .ok (.aload_n 0, 1) := by decide +kernel
theorem dX8_cels_6 : decode cX8_cels 6 = .ok (.getfield 80, 3) := by decide +kernel
theorem dX8_cels_9 : decode cX8_cels 9 = .ok (.if_icmp .ge 18, 3) := by decide +kernel
theorem dX8_cels_12 : decode cX8_cels 12 = .ok (.iload_n 2, 1) := by decide +kernel
theorem dX8_cels_13 : decode cX8_cels 13 = .ok (.aload_n 0, 1) := by decide +kernel
theorem dX8_cels_14 : decode cX8_cels 14 = .ok (.aload_n 1, 1) := by decide +kernel
theorem dX8_cels_15 : decode cX8_cels 15 = .ok (.iload_n 3, 1) := by decide +kernel
theorem dX8_cels_16 : decode cX8_cels 16 = .ok (.invokevirtual 144, 3) := by decide +kernel
theorem dX8_cels_19 : decode cX8_cels 19 = .ok (.iadd, 1) := by decide +kernel
theorem dX8_cels_20 : decode cX8_cels 20 = .ok (.istore_n 2, 1) := by decide +kernel
theorem dX8_cels_21 : decode cX8_cels 21 = .ok (.iinc 3 1, 3) := by decide +kernel
theorem dX8_cels_24 : decode cX8_cels 24 = .ok (.goto (-20), 3) := by decide +kernel
theorem dX8_cels_27 : decode cX8_cels 27 = .ok (.iload_n 2, 1) := by decide +kernel
theorem dX8_cels_28 : decode cX8_cels 28 = .ok (.ireturn, 1) := by decide +kernel
theorem dX8_changes_0 : decode cX8_changes 0 = .ok (.iconst 0, 1) := by decide +kernel
theorem dX8_changes_1 : decode cX8_changes 1 = .ok (.istore_n 1, 1) := by decide +kernel
theorem dX8_changes_2 : decode cX8_changes 2 = .ok (.iconst 1, 1) := by decide +kernel
theorem dX8_changes_3 : decode cX8_changes 3 = .ok (.istore_n 2, 1) := by decide +kernel
theorem dX8_changes_4 : decode cX8_changes 4 = .ok (.iload_n 2, 1) := by decide +kernel
theorem dX8_changes_5 : decode cX8_changes 5 = .ok (.bipush 48, 2) := by decide +kernel
theorem dX8_changes_7 : decode cX8_changes 7 = .ok (.if_icmp .ge 88, 3) := by decide +kernel
theorem dX8_changes_10 : decode cX8_changes 10 = .ok (.iconst 0, 1) := by decide +kernel
theorem dX8_changes_11 : decode cX8_changes 11 = .ok (.istore_n 3, 1) := by decide +kernel
theorem dX8_changes_12 : decode cX8_changes 12 = .ok (.iconst 0, 1) := by decide +kernel
theorem dX8_changes_13 : decode cX8_changes 13 = .ok (.istore 4, 2) := by decide +kernel
theorem dX8_changes_15 : decode cX8_changes 15 = .ok (.iload 4, 2) := by decide +kernel
theorem dX8_changes_17 : decode cX8_changes 17 = .ok (.bipush 10, 2) := by decide +kernel
theorem dX8_changes_19 : decode cX8_changes 19 = .ok (.if_icmp .ge 58, 3) := by decide +kernel
theorem dX8_changes_22 : decode cX8_changes 22 = .ok (.iload_n 3, 1) := by decide +kernel
theorem dX8_changes_23 : decode cX8_changes 23 = .ok (.ifCond .ne 42, 3) := by decide +kernel
theorem dX8_changes_26 : decode cX8_changes 26 = .ok (.aload_n 0, 1) := by decide +kernel
theorem dX8_changes_27 : decode cX8_changes 27 = .ok (.aload_n 0, 1) := by decide +kernel
theorem dX8_changes_28 : decode cX8_changes 28 = .ok (.getfield 35, 3) := by decide +kernel
theorem dX8_changes_31 : decode cX8_changes 31 = .ok (.iload_n 2, 1) := by decide +kernel
theorem dX8_changes_32 : decode cX8_changes 32 = .ok (.iload 4, 2) := by decide +kernel
theorem dX8_changes_34 : decode cX8_changes 34 = .ok (.aload_n 0, 1) := by decide +kernel
theorem dX8_changes_35 : decode cX8_changes 35 = .ok (.invokevirtual 147, 3) := by decide +kernel
theorem dX8_changes_38 : decode cX8_changes 38 = .ok (.bipush (-9), 2) := by decide +kernel
theorem dX8_changes_40 : decode cX8_changes 40 = .ok (.invokevirtual 150, 3) := by decide +kernel
theorem dX8_changes_43 : decode cX8_changes 43 = .ok (.aload_n 0, 1) := by decide +kernel
theorem dX8_changes_44 : decode cX8_changes 44 = .ok (.aload_n 0, 1) := by decide +kernel
theorem dX8_changes_45 : decode cX8_changes 45 = .ok (.getfield 35, 3) := by decide +kernel
theorem dX8_changes_48 : decode cX8_changes 48 = .ok (.iload_n 2, 1) := by decide +kernel
theorem dX8_changes_49 : decode cX8_changes 49 = .ok (.iconst 1, 1) := by decide +kernel
theorem dX8_changes_50 : decode cX8_changes 50 = .ok (.isub, 1) := by decide +kernel
theorem dX8_changes_51 : decode cX8_changes 51 = .ok (.iload 4, 2) := by decide +kernel
theorem dX8_changes_53 : decode cX8_changes 53 = .ok (.aload_n 0, 1) := by decide +kernel
theorem dX8_changes_54 : decode cX8_changes 54 = .ok (.invokevirtual 147, 3) := by decide +kernel
theorem dX8_changes_57 : decode cX8_changes 57 = .ok (.bipush (-9), 2) := by decide +kernel
theorem dX8_changes_59 : decode cX8_changes 59 = .ok (.invokevirtual 150, 3) := by decide +kernel
theorem dX8_changes_62 : decode cX8_changes 62 = .ok (.if_icmp .eq 7, 3) := by decide +kernel
theorem dX8_changes_65 : decode cX8_changes 65 = .ok (.iconst 1, 1) := by decide +kernel
theorem dX8_changes_66 : decode cX8_changes 66 = .ok (.goto 4, 3) := by decide +kernel
theorem dX8_changes_69 : decode cX8_changes 69 = .ok (.iconst 0, 1) := by decide +kernel
theorem dX8_changes_70 : decode cX8_changes 70 = .ok (.istore_n 3, 1) := by decide +kernel
theorem dX8_changes_71 : decode cX8_changes 71 = .ok (.iinc 4 1, 3) := by decide +kernel
theorem dX8_changes_74 : decode cX8_changes 74 = .ok (.goto (-59), 3) := by decide +kernel
theorem dX8_changes_77 : decode cX8_changes 77 = .ok (.iload_n 1, 1) := by decide +kernel
theorem dX8_changes_78 : decode cX8_changes 78 = .ok (.iload_n 3, 1) := by decide +kernel
theorem dX8_changes_79 : decode cX8_changes 79 = .ok (.ifCond .eq 7, 3) := by decide +kernel
theorem dX8_changes_82 : decode cX8_changes 82 = .ok (.iconst 1, 1) := by decide +kernel
theorem dX8_changes_83 : decode cX8_changes 83 = .ok (.goto 4, 3) := by decide +kernel
theorem dX8_changes_86 : decode cX8_changes 86 = .ok (.iconst 0, 1) := by decide +kernel
theorem dX8_changes_87 : decode cX8_changes 87 = .ok (.iadd, 1) := by decide +kernel
theorem dX8_changes_88 : decode cX8_changes 88 = .ok (.istore_n 1, 1) := by decide +kernel
theorem dX8_changes_89 : decode cX8_changes 89 = .ok (.iinc 2 1, 3) := by decide +kernel
theorem dX8_changes_92 : decode cX8_changes 92 = .ok (.goto (-88), 3) := by decide +kernel
theorem dX8_changes_95 : decode cX8_changes 95 = .ok (.iload_n 1, 1) := by decide +kernel
theorem dX8_changes_96 : decode cX8_changes 96 = .ok (.ireturn, 1) := by decide +kernel
theorem dX8_layLike_0 : decode cX8_layLike 0 = .ok (.bipush 48, 2) := by decide +kernel
theorem dX8_layLike_2 : decode cX8_layLike 2 = .ok (.istore_n 2, 1) := by decide +kernel
theorem dX8_layLike_3 : decode cX8_layLike 3 = .ok (.iload_n 2, 1) := by decide +kernel
theorem dX8_layLike_4 : decode cX8_layLike 4 = .ok (.ifCond .lt 111, 3) := by decide +kernel
theorem dX8_layLike_7 : decode cX8_layLike 7 = .ok (.bipush 48, 2) := by decide +kernel
theorem dX8_layLike_9 : decode cX8_layLike 9 = .ok (.istore_n 3, 1) := by decide +kernel
theorem dX8_layLike_10 : decode cX8_layLike 10 = .ok (.iload_n 3, 1) := by decide +kernel
theorem dX8_layLike_11 : decode cX8_layLike 11 = .ok (.ifCond .lt 98, 3) := by decide +kernel
theorem dX8_layLike_14 : decode cX8_layLike 14 = .ok (.iload_n 2, 1) := by decide +kernel
theorem dX8_layLike_15 : decode cX8_layLike 15 = .ok (.aload_n 0, 1) := by decide +kernel
theorem dX8_layLike_16 : decode cX8_layLike 16 = .ok (.getfield 16, 3) := by decide +kernel
theorem dX8_layLike_19 : decode cX8_layLike 19 = .ok (.iload_n 1, 1) := by decide +kernel
theorem dX8_layLike_20 : decode cX8_layLike 20 = .ok (.iaload, 1) := by decide +kernel
theorem dX8_layLike_21 : decode cX8_layLike 21 = .ok (.if_icmp .ge 42, 3) := by decide +kernel
theorem dX8_layLike_24 : decode cX8_layLike 24 = .ok (.iload_n 3, 1) := by decide +kernel
theorem dX8_layLike_25 : decode cX8_layLike 25 = .ok (.aload_n 0, 1) := by decide +kernel
theorem dX8_layLike_26 : decode cX8_layLike 26 = .ok (.getfield 16, 3) := by decide +kernel
theorem dX8_layLike_29 : decode cX8_layLike 29 = .ok (.iload_n 1, 1) := by decide +kernel
theorem dX8_layLike_30 : decode cX8_layLike 30 = .ok (.iaload, 1) := by decide +kernel
theorem dX8_layLike_31 : decode cX8_layLike 31 = .ok (.if_icmp .ge 32, 3) := by decide +kernel
theorem dX8_layLike_34 : decode cX8_layLike 34 = .ok (.aload_n 0, 1) := by decide +kernel
theorem dX8_layLike_35 : decode cX8_layLike 35 = .ok (.getfield 13, 3) := by decide +kernel
theorem dX8_layLike_38 : decode cX8_layLike 38 = .ok (.bipush 48, 2) := by decide +kernel
theorem dX8_layLike_40 : decode cX8_layLike 40 = .ok (.iload_n 1, 1) := by decide +kernel
theorem dX8_layLike_41 : decode cX8_layLike 41 = .ok (.imul, 1) := by decide +kernel
theorem dX8_layLike_42 : decode cX8_layLike 42 = .ok (.iload_n 2, 1) := by decide +kernel
theorem dX8_layLike_43 : decode cX8_layLike 43 = .ok (.iadd, 1) := by decide +kernel
theorem dX8_layLike_44 : decode cX8_layLike 44 = .ok (.iaload, 1) := by decide +kernel
theorem dX8_layLike_45 : decode cX8_layLike 45 = .ok (.aload_n 0, 1) := by decide +kernel
theorem dX8_layLike_46 : decode cX8_layLike 46 = .ok (.getfield 13, 3) := by decide +kernel
theorem dX8_layLike_49 : decode cX8_layLike 49 = .ok (.bipush 48, 2) := by decide +kernel
theorem dX8_layLike_51 : decode cX8_layLike 51 = .ok (.iload_n 1, 1) := by decide +kernel
theorem dX8_layLike_52 : decode cX8_layLike 52 = .ok (.imul, 1) := by decide +kernel
theorem dX8_layLike_53 : decode cX8_layLike 53 = .ok (.iload_n 3, 1) := by decide +kernel
theorem dX8_layLike_54 : decode cX8_layLike 54 = .ok (.iadd, 1) := by decide +kernel
theorem dX8_layLike_55 : decode cX8_layLike 55 = .ok (.iaload, 1) := by decide +kernel
theorem dX8_layLike_56 : decode cX8_layLike 56 = .ok (.if_icmp .ne 7, 3) := by decide +kernel
theorem dX8_layLike_59 : decode cX8_layLike 59 = .ok (.iconst 1, 1) := by decide +kernel
theorem dX8_layLike_60 : decode cX8_layLike 60 = .ok (.goto 4, 3) := by decide +kernel
theorem dX8_layLike_63 : decode cX8_layLike 63 = .ok (.iconst 0, 1) := by decide +kernel
theorem dX8_layLike_64 : decode cX8_layLike 64 = .ok (.istore 4, 2) := by decide +kernel
theorem dX8_layLike_66 : decode cX8_layLike 66 = .ok (.aload_n 0, 1) := by decide +kernel
theorem dX8_layLike_67 : decode cX8_layLike 67 = .ok (.getfield 59, 3) := by decide +kernel
theorem dX8_layLike_70 : decode cX8_layLike 70 = .ok (.bipush 49, 2) := by decide +kernel
theorem dX8_layLike_72 : decode cX8_layLike 72 = .ok (.iload_n 2, 1) := by decide +kernel
theorem dX8_layLike_73 : decode cX8_layLike 73 = .ok (.imul, 1) := by decide +kernel
theorem dX8_layLike_74 : decode cX8_layLike 74 = .ok (.iload_n 3, 1) := by decide +kernel
theorem dX8_layLike_75 : decode cX8_layLike 75 = .ok (.iadd, 1) := by decide +kernel
theorem dX8_layLike_76 : decode cX8_layLike 76 = .ok (.iload 4, 2) := by decide +kernel
theorem dX8_layLike_78 : decode cX8_layLike 78 = .ok (.ifCond .eq 23, 3) := by decide +kernel
theorem dX8_layLike_81 : decode cX8_layLike 81 = .ok (.aload_n 0, 1) := by decide +kernel
theorem dX8_layLike_82 : decode cX8_layLike 82 = .ok (.getfield 59, 3) := by decide +kernel
theorem dX8_layLike_85 : decode cX8_layLike 85 = .ok (.bipush 49, 2) := by decide +kernel
theorem dX8_layLike_87 : decode cX8_layLike 87 = .ok (.iload_n 2, 1) := by decide +kernel
theorem dX8_layLike_88 : decode cX8_layLike 88 = .ok (.iconst 1, 1) := by decide +kernel
theorem dX8_layLike_89 : decode cX8_layLike 89 = .ok (.iadd, 1) := by decide +kernel
theorem dX8_layLike_90 : decode cX8_layLike 90 = .ok (.imul, 1) := by decide +kernel
theorem dX8_layLike_91 : decode cX8_layLike 91 = .ok (.iload_n 3, 1) := by decide +kernel
theorem dX8_layLike_92 : decode cX8_layLike 92 = .ok (.iadd, 1) := by decide +kernel
theorem dX8_layLike_93 : decode cX8_layLike 93 = .ok (.iconst 1, 1) := by decide +kernel
theorem dX8_layLike_94 : decode cX8_layLike 94 = .ok (.iadd, 1) := by decide +kernel
theorem dX8_layLike_95 : decode cX8_layLike 95 = .ok (.iaload, 1) := by decide +kernel
theorem dX8_layLike_96 : decode cX8_layLike 96 = .ok (.iconst 1, 1) := by decide +kernel
theorem dX8_layLike_97 : decode cX8_layLike 97 = .ok (.iadd, 1) := by decide +kernel
theorem dX8_layLike_98 : decode cX8_layLike 98 = .ok (.goto 4, 3) := by decide +kernel
theorem dX8_layLike_101 : decode cX8_layLike 101 = .ok (.iconst 0, 1) := by decide +kernel
theorem dX8_layLike_102 : decode cX8_layLike 102 = .ok (.iastore, 1) := by decide +kernel
theorem dX8_layLike_103 : decode cX8_layLike 103 = .ok (.iinc 3 (-1), 3) := by decide +kernel
theorem dX8_layLike_106 : decode cX8_layLike 106 = .ok (.goto (-96), 3) := by decide +kernel
theorem dX8_layLike_109 : decode cX8_layLike 109 = .ok (.iinc 2 (-1), 3) := by decide +kernel
theorem dX8_layLike_112 : decode cX8_layLike 112 = .ok (.goto (-109), 3) := by decide +kernel
theorem dX8_layLike_115 : decode cX8_layLike 115 = .ok (.return_, 1) := by decide +kernel
theorem dX8_itemOf_0 : decode cX8_itemOf 0 = .ok (.iload_n 2, 1) := by decide +kernel
theorem dX8_itemOf_1 : decode cX8_itemOf 1 = .ok (.iload_n 1, 1) := by decide +kernel
theorem dX8_itemOf_2 : decode cX8_itemOf 2 = .ok (.isub, 1) := by decide +kernel
theorem dX8_itemOf_3 : decode cX8_itemOf 3 = .ok (.istore 4, 2) := by decide +kernel
theorem dX8_itemOf_5 : decode cX8_itemOf 5 = .ok (.iload 4, 2) := by decide +kernel
theorem dX8_itemOf_7 : decode cX8_itemOf 7 = .ok (.bipush 10, 2) := by decide +kernel
theorem dX8_itemOf_9 : decode cX8_itemOf 9 = .ok (.if_icmp .ge 33, 3) := by decide +kernel
theorem dX8_itemOf_12 : decode cX8_itemOf 12 = .ok (.iload 4, 2) := by decide +kernel
theorem dX8_itemOf_14 : decode cX8_itemOf 14 = .ok (.iconst 1, 1) := by decide +kernel
theorem dX8_itemOf_15 : decode cX8_itemOf 15 = .ok (.if_icmp .eq 23, 3) := by decide +kernel
theorem dX8_itemOf_18 : decode cX8_itemOf 18 = .ok (.aload_n 0, 1) := by decide +kernel
theorem dX8_itemOf_19 : decode cX8_itemOf 19 = .ok (.getfield 59, 3) := by decide +kernel
theorem dX8_itemOf_22 : decode cX8_itemOf 22 = .ok (.bipush 49, 2) := by decide +kernel
theorem dX8_itemOf_24 : decode cX8_itemOf 24 = .ok (.iload_n 1, 1) := by decide +kernel
theorem dX8_itemOf_25 : decode cX8_itemOf 25 = .ok (.imul, 1) := by decide +kernel
theorem dX8_itemOf_26 : decode cX8_itemOf 26 = .ok (.iload_n 1, 1) := by decide +kernel
theorem dX8_itemOf_27 : decode cX8_itemOf 27 = .ok (.iadd, 1) := by decide +kernel
theorem dX8_itemOf_28 : decode cX8_itemOf 28 = .ok (.iconst 1, 1) := by decide +kernel
theorem dX8_itemOf_29 : decode cX8_itemOf 29 = .ok (.iadd, 1) := by decide +kernel
theorem dX8_itemOf_30 : decode cX8_itemOf 30 = .ok (.iaload, 1) := by decide +kernel
theorem dX8_itemOf_31 : decode cX8_itemOf 31 = .ok (.iload 4, 2) := by decide +kernel
theorem dX8_itemOf_33 : decode cX8_itemOf 33 = .ok (.iconst 1, 1) := by decide +kernel
theorem dX8_itemOf_34 : decode cX8_itemOf 34 = .ok (.isub, 1) := by decide +kernel
theorem dX8_itemOf_35 : decode cX8_itemOf 35 = .ok (.if_icmp .lt 7, 3) := by decide +kernel
theorem dX8_itemOf_38 : decode cX8_itemOf 38 = .ok (.iconst 2, 1) := by decide +kernel
theorem dX8_itemOf_39 : decode cX8_itemOf 39 = .ok (.goto 5, 3) := by decide +kernel
theorem dX8_itemOf_42 : decode cX8_itemOf 42 = .ok (.bipush (-9), 2) := by decide +kernel
theorem dX8_itemOf_44 : decode cX8_itemOf 44 = .ok (.istore 5, 2) := by decide +kernel
theorem dX8_itemOf_46 : decode cX8_itemOf 46 = .ok (.iconst 2, 1) := by decide +kernel
theorem dX8_itemOf_47 : decode cX8_itemOf 47 = .ok (.istore 6, 2) := by decide +kernel
theorem dX8_itemOf_49 : decode cX8_itemOf 49 = .ok (.iload 6, 2) := by decide +kernel
theorem dX8_itemOf_51 : decode cX8_itemOf 51 = .ok (.bipush 10, 2) := by decide +kernel
theorem dX8_itemOf_53 : decode cX8_itemOf 53 = .ok (.if_icmp .ge 99, 3) := by decide +kernel
theorem dX8_itemOf_56 : decode cX8_itemOf 56 = .ok (.iload_n 3, 1) := by decide +kernel
theorem dX8_itemOf_57 : decode cX8_itemOf 57 = .ok (.ifCond .le 95, 3) := by decide +kernel
theorem dX8_itemOf_60 : decode cX8_itemOf 60 = .ok (.iload 4, 2) := by decide +kernel
theorem dX8_itemOf_62 : decode cX8_itemOf 62 = .ok (.iload 6, 2) := by decide +kernel
theorem dX8_itemOf_64 : decode cX8_itemOf 64 = .ok (.idiv, 1) := by decide +kernel
theorem dX8_itemOf_65 : decode cX8_itemOf 65 = .ok (.istore 7, 2) := by decide +kernel
theorem dX8_itemOf_67 : decode cX8_itemOf 67 = .ok (.iload 4, 2) := by decide +kernel
theorem dX8_itemOf_69 : decode cX8_itemOf 69 = .ok (.iload 6, 2) := by decide +kernel
theorem dX8_itemOf_71 : decode cX8_itemOf 71 = .ok (.irem, 1) := by decide +kernel
theorem dX8_itemOf_72 : decode cX8_itemOf 72 = .ok (.ifCond .ne 74, 3) := by decide +kernel
theorem dX8_itemOf_75 : decode cX8_itemOf 75 = .ok (.aload_n 0, 1) := by decide +kernel
theorem dX8_itemOf_76 : decode cX8_itemOf 76 = .ok (.getfield 59, 3) := by decide +kernel
theorem dX8_itemOf_79 : decode cX8_itemOf 79 = .ok (.bipush 49, 2) := by decide +kernel
theorem dX8_itemOf_81 : decode cX8_itemOf 81 = .ok (.iload_n 1, 1) := by decide +kernel
theorem dX8_itemOf_82 : decode cX8_itemOf 82 = .ok (.imul, 1) := by decide +kernel
theorem dX8_itemOf_83 : decode cX8_itemOf 83 = .ok (.iload_n 1, 1) := by decide +kernel
theorem dX8_itemOf_84 : decode cX8_itemOf 84 = .ok (.iadd, 1) := by decide +kernel
theorem dX8_itemOf_85 : decode cX8_itemOf 85 = .ok (.iload 7, 2) := by decide +kernel
theorem dX8_itemOf_87 : decode cX8_itemOf 87 = .ok (.iadd, 1) := by decide +kernel
theorem dX8_itemOf_88 : decode cX8_itemOf 88 = .ok (.iaload, 1) := by decide +kernel
theorem dX8_itemOf_89 : decode cX8_itemOf 89 = .ok (.iload 4, 2) := by decide +kernel
theorem dX8_itemOf_91 : decode cX8_itemOf 91 = .ok (.iload 7, 2) := by decide +kernel
theorem dX8_itemOf_93 : decode cX8_itemOf 93 = .ok (.isub, 1) := by decide +kernel
theorem dX8_itemOf_94 : decode cX8_itemOf 94 = .ok (.if_icmp .lt 52, 3) := by decide +kernel
theorem dX8_itemOf_97 : decode cX8_itemOf 97 = .ok (.iconst 3, 1) := by decide +kernel
theorem dX8_itemOf_98 : decode cX8_itemOf 98 = .ok (.aload_n 0, 1) := by decide +kernel
theorem dX8_itemOf_99 : decode cX8_itemOf 99 = .ok (.getfield 62, 3) := by decide +kernel
theorem dX8_itemOf_102 : decode cX8_itemOf 102 = .ok (.sipush 2401, 3) := by decide +kernel
theorem dX8_itemOf_105 : decode cX8_itemOf 105 = .ok (.iload_n 3, 1) := by decide +kernel
theorem dX8_itemOf_106 : decode cX8_itemOf 106 = .ok (.iconst 1, 1) := by decide +kernel
theorem dX8_itemOf_107 : decode cX8_itemOf 107 = .ok (.isub, 1) := by decide +kernel
theorem dX8_itemOf_108 : decode cX8_itemOf 108 = .ok (.imul, 1) := by decide +kernel
theorem dX8_itemOf_109 : decode cX8_itemOf 109 = .ok (.bipush 49, 2) := by decide +kernel
theorem dX8_itemOf_111 : decode cX8_itemOf 111 = .ok (.iload_n 1, 1) := by decide +kernel
theorem dX8_itemOf_112 : decode cX8_itemOf 112 = .ok (.imul, 1) := by decide +kernel
theorem dX8_itemOf_113 : decode cX8_itemOf 113 = .ok (.iadd, 1) := by decide +kernel
theorem dX8_itemOf_114 : decode cX8_itemOf 114 = .ok (.iload_n 1, 1) := by decide +kernel
theorem dX8_itemOf_115 : decode cX8_itemOf 115 = .ok (.iadd, 1) := by decide +kernel
theorem dX8_itemOf_116 : decode cX8_itemOf 116 = .ok (.iload 7, 2) := by decide +kernel
theorem dX8_itemOf_118 : decode cX8_itemOf 118 = .ok (.iadd, 1) := by decide +kernel
theorem dX8_itemOf_119 : decode cX8_itemOf 119 = .ok (.iaload, 1) := by decide +kernel
theorem dX8_itemOf_120 : decode cX8_itemOf 120 = .ok (.iadd, 1) := by decide +kernel
theorem dX8_itemOf_121 : decode cX8_itemOf 121 = .ok (.istore 8, 2) := by decide +kernel
theorem dX8_itemOf_123 : decode cX8_itemOf 123 = .ok (.iload 5, 2) := by decide +kernel
theorem dX8_itemOf_125 : decode cX8_itemOf 125 = .ok (.bipush (-9), 2) := by decide +kernel
theorem dX8_itemOf_127 : decode cX8_itemOf 127 = .ok (.if_icmp .eq 10, 3) := by decide +kernel
theorem dX8_itemOf_130 : decode cX8_itemOf 130 = .ok (.iload 8, 2) := by decide +kernel
theorem dX8_itemOf_132 : decode cX8_itemOf 132 = .ok (.iload 5, 2) := by decide +kernel
theorem dX8_itemOf_134 : decode cX8_itemOf 134 = .ok (.if_icmp .ge 8, 3) := by decide +kernel
theorem dX8_itemOf_137 : decode cX8_itemOf 137 = .ok (.iload 8, 2) := by decide +kernel
theorem dX8_itemOf_139 : decode cX8_itemOf 139 = .ok (.goto 5, 3) := by decide +kernel
theorem dX8_itemOf_142 : decode cX8_itemOf 142 = .ok (.iload 5, 2) := by decide +kernel
theorem dX8_itemOf_144 : decode cX8_itemOf 144 = .ok (.istore 5, 2) := by decide +kernel
theorem dX8_itemOf_146 : decode cX8_itemOf 146 = .ok (.iinc 6 1, 3) := by decide +kernel
theorem dX8_itemOf_149 : decode cX8_itemOf 149 = .ok (.goto (-100), 3) := by decide +kernel
theorem dX8_itemOf_152 : decode cX8_itemOf 152 = .ok (.iload 5, 2) := by decide +kernel
theorem dX8_itemOf_154 : decode cX8_itemOf 154 = .ok (.ireturn, 1) := by decide +kernel
theorem dX8_shortest_0 : decode cX8_shortest 0 = .ok (.aload_n 0, 1) := by decide +kernel
theorem dX8_shortest_1 : decode cX8_shortest 1 = .ok (.getfield 16, 3) := by decide +kernel
theorem dX8_shortest_4 : decode cX8_shortest 4 = .ok (.iload_n 1, 1) := by decide +kernel
theorem dX8_shortest_5 : decode cX8_shortest 5 = .ok (.iaload, 1) := by decide +kernel
theorem dX8_shortest_6 : decode cX8_shortest 6 = .ok (.istore_n 2, 1) := by decide +kernel
theorem dX8_shortest_7 : decode cX8_shortest 7 = .ok (.aload_n 0, 1) := by decide +kernel
theorem dX8_shortest_8 : decode cX8_shortest 8 = .ok (.iload_n 1, 1) := by decide +kernel
theorem dX8_shortest_9 : decode cX8_shortest 9 = .ok (.invokevirtual 154, 3) := by decide +kernel
theorem dX8_shortest_12 : decode cX8_shortest 12 = .ok (.iconst 0, 1) := by decide +kernel
theorem dX8_shortest_13 : decode cX8_shortest 13 = .ok (.istore_n 3, 1) := by decide +kernel
theorem dX8_shortest_14 : decode cX8_shortest 14 = .ok (.iload_n 3, 1) := by decide +kernel
theorem dX8_shortest_15 : decode cX8_shortest 15 = .ok (.iconst 3, 1) := by decide +kernel
theorem dX8_shortest_16 : decode cX8_shortest 16 = .ok (.if_icmp .ge 168, 3) := by decide +kernel
theorem dX8_shortest_19 : decode cX8_shortest 19 = .ok (.sipush 2401, 3) := by decide +kernel
theorem dX8_shortest_22 : decode cX8_shortest 22 = .ok (.iload_n 3, 1) := by decide +kernel
theorem dX8_shortest_23 : decode cX8_shortest 23 = .ok (.imul, 1) := by decide +kernel
theorem dX8_shortest_24 : decode cX8_shortest 24 = .ok (.istore 4, 2) := by decide +kernel
theorem dX8_shortest_26 : decode cX8_shortest 26 = .ok (.iconst 0, 1) := by decide +kernel
theorem dX8_shortest_27 : decode cX8_shortest 27 = .ok (.istore 5, 2) := by decide +kernel
theorem dX8_shortest_29 : decode cX8_shortest 29 = .ok (.iload 5, 2) := by decide +kernel
theorem dX8_shortest_31 : decode cX8_shortest 31 = .ok (.iload_n 2, 1) := by decide +kernel
theorem dX8_shortest_32 : decode cX8_shortest 32 = .ok (.if_icmp .gt 146, 3) := by decide +kernel
theorem dX8_shortest_35 : decode cX8_shortest 35 = .ok (.aload_n 0, 1) := by decide +kernel
theorem dX8_shortest_36 : decode cX8_shortest 36 = .ok (.getfield 62, 3) := by decide +kernel
theorem dX8_shortest_39 : decode cX8_shortest 39 = .ok (.iload 4, 2) := by decide +kernel
theorem dX8_shortest_41 : decode cX8_shortest 41 = .ok (.bipush 49, 2) := by decide +kernel
theorem dX8_shortest_43 : decode cX8_shortest 43 = .ok (.iload 5, 2) := by decide +kernel
theorem dX8_shortest_45 : decode cX8_shortest 45 = .ok (.imul, 1) := by decide +kernel
theorem dX8_shortest_46 : decode cX8_shortest 46 = .ok (.iadd, 1) := by decide +kernel
theorem dX8_shortest_47 : decode cX8_shortest 47 = .ok (.iload 5, 2) := by decide +kernel
theorem dX8_shortest_49 : decode cX8_shortest 49 = .ok (.iadd, 1) := by decide +kernel
theorem dX8_shortest_50 : decode cX8_shortest 50 = .ok (.iconst 0, 1) := by decide +kernel
theorem dX8_shortest_51 : decode cX8_shortest 51 = .ok (.iastore, 1) := by decide +kernel
theorem dX8_shortest_52 : decode cX8_shortest 52 = .ok (.iload 5, 2) := by decide +kernel
theorem dX8_shortest_54 : decode cX8_shortest 54 = .ok (.iconst 1, 1) := by decide +kernel
theorem dX8_shortest_55 : decode cX8_shortest 55 = .ok (.isub, 1) := by decide +kernel
theorem dX8_shortest_56 : decode cX8_shortest 56 = .ok (.istore 6, 2) := by decide +kernel
theorem dX8_shortest_58 : decode cX8_shortest 58 = .ok (.iload 6, 2) := by decide +kernel
theorem dX8_shortest_60 : decode cX8_shortest 60 = .ok (.ifCond .lt 112, 3) := by decide +kernel
theorem dX8_shortest_63 : decode cX8_shortest 63 = .ok (.bipush (-9), 2) := by decide +kernel
theorem dX8_shortest_65 : decode cX8_shortest 65 = .ok (.istore 7, 2) := by decide +kernel
theorem dX8_shortest_67 : decode cX8_shortest 67 = .ok (.iload 6, 2) := by decide +kernel
theorem dX8_shortest_69 : decode cX8_shortest 69 = .ok (.iconst 1, 1) := by decide +kernel
theorem dX8_shortest_70 : decode cX8_shortest 70 = .ok (.iadd, 1) := by decide +kernel
theorem dX8_shortest_71 : decode cX8_shortest 71 = .ok (.istore 8, 2) := by decide +kernel
theorem dX8_shortest_73 : decode cX8_shortest 73 = .ok (.iload 8, 2) := by decide +kernel
theorem dX8_shortest_75 : decode cX8_shortest 75 = .ok (.iload 5, 2) := by decide +kernel
theorem dX8_shortest_77 : decode cX8_shortest 77 = .ok (.if_icmp .gt 71, 3) := by decide +kernel
theorem dX8_shortest_80 : decode cX8_shortest 80 = .ok (.aload_n 0, 1) := by decide +kernel
theorem dX8_shortest_81 : decode cX8_shortest 81 = .ok (.iload 6, 2) := by decide +kernel
theorem dX8_shortest_83 : decode cX8_shortest 83 = .ok (.iload 8, 2) := by decide +kernel
theorem dX8_shortest_85 : decode cX8_shortest 85 = .ok (.iload_n 3, 1) := by decide +kernel
theorem dX8_shortest_86 : decode cX8_shortest 86 = .ok (.invokevirtual 158, 3) := by decide +kernel
theorem dX8_shortest_89 : decode cX8_shortest 89 = .ok (.istore 9, 2) := by decide +kernel
theorem dX8_shortest_91 : decode cX8_shortest 91 = .ok (.iload 9, 2) := by decide +kernel
theorem dX8_shortest_93 : decode cX8_shortest 93 = .ok (.aload_n 0, 1) := by decide +kernel
theorem dX8_shortest_94 : decode cX8_shortest 94 = .ok (.getfield 62, 3) := by decide +kernel
theorem dX8_shortest_97 : decode cX8_shortest 97 = .ok (.iload 4, 2) := by decide +kernel
theorem dX8_shortest_99 : decode cX8_shortest 99 = .ok (.bipush 49, 2) := by decide +kernel
theorem dX8_shortest_101 : decode cX8_shortest 101 = .ok (.iload 8, 2) := by decide +kernel
theorem dX8_shortest_103 : decode cX8_shortest 103 = .ok (.imul, 1) := by decide +kernel
theorem dX8_shortest_104 : decode cX8_shortest 104 = .ok (.iadd, 1) := by decide +kernel
theorem dX8_shortest_105 : decode cX8_shortest 105 = .ok (.iload 5, 2) := by decide +kernel
theorem dX8_shortest_107 : decode cX8_shortest 107 = .ok (.iadd, 1) := by decide +kernel
theorem dX8_shortest_108 : decode cX8_shortest 108 = .ok (.iaload, 1) := by decide +kernel
theorem dX8_shortest_109 : decode cX8_shortest 109 = .ok (.iadd, 1) := by decide +kernel
theorem dX8_shortest_110 : decode cX8_shortest 110 = .ok (.istore 10, 2) := by decide +kernel
theorem dX8_shortest_112 : decode cX8_shortest 112 = .ok (.iload 9, 2) := by decide +kernel
theorem dX8_shortest_114 : decode cX8_shortest 114 = .ok (.bipush (-9), 2) := by decide +kernel
theorem dX8_shortest_116 : decode cX8_shortest 116 = .ok (.if_icmp .eq 22, 3) := by decide +kernel
theorem dX8_shortest_119 : decode cX8_shortest 119 = .ok (.iload 7, 2) := by decide +kernel
theorem dX8_shortest_121 : decode cX8_shortest 121 = .ok (.bipush (-9), 2) := by decide +kernel
theorem dX8_shortest_123 : decode cX8_shortest 123 = .ok (.if_icmp .eq 10, 3) := by decide +kernel
theorem dX8_shortest_126 : decode cX8_shortest 126 = .ok (.iload 10, 2) := by decide +kernel
theorem dX8_shortest_128 : decode cX8_shortest 128 = .ok (.iload 7, 2) := by decide +kernel
theorem dX8_shortest_130 : decode cX8_shortest 130 = .ok (.if_icmp .ge 8, 3) := by decide +kernel
theorem dX8_shortest_133 : decode cX8_shortest 133 = .ok (.iload 10, 2) := by decide +kernel
theorem dX8_shortest_135 : decode cX8_shortest 135 = .ok (.goto 5, 3) := by decide +kernel
theorem dX8_shortest_138 : decode cX8_shortest 138 = .ok (.iload 7, 2) := by decide +kernel
theorem dX8_shortest_140 : decode cX8_shortest 140 = .ok (.istore 7, 2) := by decide +kernel
theorem dX8_shortest_142 : decode cX8_shortest 142 = .ok (.iinc 8 1, 3) := by decide +kernel
theorem dX8_shortest_145 : decode cX8_shortest 145 = .ok (.goto (-72), 3) := by decide +kernel
theorem dX8_shortest_148 : decode cX8_shortest 148 = .ok (.aload_n 0, 1) := by decide +kernel
theorem dX8_shortest_149 : decode cX8_shortest 149 = .ok (.getfield 62, 3) := by decide +kernel
theorem dX8_shortest_152 : decode cX8_shortest 152 = .ok (.iload 4, 2) := by decide +kernel
theorem dX8_shortest_154 : decode cX8_shortest 154 = .ok (.bipush 49, 2) := by decide +kernel
theorem dX8_shortest_156 : decode cX8_shortest 156 = .ok (.iload 6, 2) := by decide +kernel
theorem dX8_shortest_158 : decode cX8_shortest 158 = .ok (.imul, 1) := by decide +kernel
theorem dX8_shortest_159 : decode cX8_shortest 159 = .ok (.iadd, 1) := by decide +kernel
theorem dX8_shortest_160 : decode cX8_shortest 160 = .ok (.iload 5, 2) := by decide +kernel
theorem dX8_shortest_162 : decode cX8_shortest 162 = .ok (.iadd, 1) := by decide +kernel
theorem dX8_shortest_163 : decode cX8_shortest 163 = .ok (.iload 7, 2) := by decide +kernel
theorem dX8_shortest_165 : decode cX8_shortest 165 = .ok (.iastore, 1) := by decide +kernel
theorem dX8_shortest_166 : decode cX8_shortest 166 = .ok (.iinc 6 (-1), 3) := by decide +kernel
theorem dX8_shortest_169 : decode cX8_shortest 169 = .ok (.goto (-111), 3) := by decide +kernel
theorem dX8_shortest_172 : decode cX8_shortest 172 = .ok (.iinc 5 1, 3) := by decide +kernel
theorem dX8_shortest_175 : decode cX8_shortest 175 = .ok (.goto (-146), 3) := by decide +kernel
theorem dX8_shortest_178 : decode cX8_shortest 178 = .ok (.iinc 3 1, 3) := by decide +kernel
theorem dX8_shortest_181 : decode cX8_shortest 181 = .ok (.goto (-167), 3) := by decide +kernel
theorem dX8_shortest_184 : decode cX8_shortest 184 = .ok (.aload_n 0, 1) := by decide +kernel
theorem dX8_shortest_185 : decode cX8_shortest 185 = .ok (.getfield 62, 3) := by decide +kernel
theorem dX8_shortest_188 : decode cX8_shortest 188 = .ok (.sipush 4802, 3) := by decide +kernel
theorem dX8_shortest_191 : decode cX8_shortest 191 = .ok (.iload_n 2, 1) := by decide +kernel
theorem dX8_shortest_192 : decode cX8_shortest 192 = .ok (.iadd, 1) := by decide +kernel
theorem dX8_shortest_193 : decode cX8_shortest 193 = .ok (.iaload, 1) := by decide +kernel
theorem dX8_shortest_194 : decode cX8_shortest 194 = .ok (.ireturn, 1) := by decide +kernel
theorem dX8_bestDelay_0 : decode cX8_bestDelay 0 = .ok (.iconst 0, 1) := by decide +kernel
theorem dX8_bestDelay_1 : decode cX8_bestDelay 1 = .ok (.istore_n 2, 1) := by decide +kernel
theorem dX8_bestDelay_2 : decode cX8_bestDelay 2 = .ok (.iconst 0, 1) := by decide +kernel
theorem dX8_bestDelay_3 : decode cX8_bestDelay 3 = .ok (.istore_n 3, 1) := by decide +kernel
theorem dX8_bestDelay_4 : decode cX8_bestDelay 4 = .ok (.iconst 0, 1) := by decide +kernel
theorem dX8_bestDelay_5 : decode cX8_bestDelay 5 = .ok (.istore 4, 2) := by decide +kernel
theorem dX8_bestDelay_7 : decode cX8_bestDelay 7 = .ok (.iload 4, 2) := by decide +kernel
end
section
theorem dX8_bestDelay_9 : decode cX8_bestDelay 9 = .ok (.bipush 10, 2) := by decide +kernel
theorem dX8_bestDelay_11 : decode cX8_bestDelay 11 = .ok (.if_icmp .ge 51, 3) := by decide +kernel
theorem dX8_bestDelay_14 : decode cX8_bestDelay 14 = .ok (.aload_n 0, 1) := by decide +kernel
theorem dX8_bestDelay_15 : decode cX8_bestDelay 15 = .ok (.invokevirtual 162, 3) := by decide +kernel
theorem dX8_bestDelay_18 : decode cX8_bestDelay 18 = .ok (.aload_n 0, 1) := by decide +kernel
theorem dX8_bestDelay_19 : decode cX8_bestDelay 19 = .ok (.getfield 38, 3) := by decide +kernel
theorem dX8_bestDelay_22 : decode cX8_bestDelay 22 = .ok (.bipush 12, 2) := by decide +kernel
theorem dX8_bestDelay_24 : decode cX8_bestDelay 24 = .ok (.iload_n 1, 1) := by decide +kernel
theorem dX8_bestDelay_25 : decode cX8_bestDelay 25 = .ok (.iadd, 1) := by decide +kernel
theorem dX8_bestDelay_26 : decode cX8_bestDelay 26 = .ok (.iload 4, 2) := by decide +kernel
theorem dX8_bestDelay_28 : decode cX8_bestDelay 28 = .ok (.iastore, 1) := by decide +kernel
theorem dX8_bestDelay_29 : decode cX8_bestDelay 29 = .ok (.aload_n 0, 1) := by decide +kernel
theorem dX8_bestDelay_30 : decode cX8_bestDelay 30 = .ok (.aload_n 0, 1) := by decide +kernel
theorem dX8_bestDelay_31 : decode cX8_bestDelay 31 = .ok (.getfield 38, 3) := by decide +kernel
theorem dX8_bestDelay_34 : decode cX8_bestDelay 34 = .ok (.invokevirtual 165, 3) := by decide +kernel
theorem dX8_bestDelay_37 : decode cX8_bestDelay 37 = .ok (.istore 5, 2) := by decide +kernel
theorem dX8_bestDelay_39 : decode cX8_bestDelay 39 = .ok (.iload 4, 2) := by decide +kernel
theorem dX8_bestDelay_41 : decode cX8_bestDelay 41 = .ok (.ifCond .eq 9, 3) := by decide +kernel
theorem dX8_bestDelay_44 : decode cX8_bestDelay 44 = .ok (.iload 5, 2) := by decide +kernel
theorem dX8_bestDelay_46 : decode cX8_bestDelay 46 = .ok (.iload_n 3, 1) := by decide +kernel
theorem dX8_bestDelay_47 : decode cX8_bestDelay 47 = .ok (.if_icmp .ge 9, 3) := by decide +kernel
theorem dX8_bestDelay_50 : decode cX8_bestDelay 50 = .ok (.iload 4, 2) := by decide +kernel
theorem dX8_bestDelay_52 : decode cX8_bestDelay 52 = .ok (.istore_n 2, 1) := by decide +kernel
theorem dX8_bestDelay_53 : decode cX8_bestDelay 53 = .ok (.iload 5, 2) := by decide +kernel
theorem dX8_bestDelay_55 : decode cX8_bestDelay 55 = .ok (.istore_n 3, 1) := by decide +kernel
theorem dX8_bestDelay_56 : decode cX8_bestDelay 56 = .ok (.iinc 4 1, 3) := by decide +kernel
theorem dX8_bestDelay_59 : decode cX8_bestDelay 59 = .ok (.goto (-52), 3) := by decide +kernel
theorem dX8_bestDelay_62 : decode cX8_bestDelay 62 = .ok (.iload_n 2, 1) := by decide +kernel
theorem dX8_bestDelay_63 : decode cX8_bestDelay 63 = .ok (.ireturn, 1) := by decide +kernel
theorem dX8_drawing_0 : decode cX8_drawing 0 = .ok (.aload_n 0, 1) := by decide +kernel
theorem dX8_drawing_1 : decode cX8_drawing 1 = .ok (.iconst 0, 1) := by decide +kernel
theorem dX8_drawing_2 : decode cX8_drawing 2 = .ok (.putfield 69, 3) := by decide +kernel
theorem dX8_drawing_5 : decode cX8_drawing 5 = .ok (.aload_n 0, 1) := by decide +kernel
theorem dX8_drawing_6 : decode cX8_drawing 6 = .ok (.iload_n 1, 1) := by decide +kernel
theorem dX8_drawing_7 : decode cX8_drawing 7 = .ok (.invokevirtual 169, 3) := by decide +kernel
theorem dX8_drawing_10 : decode cX8_drawing 10 = .ok (.ifCond .eq 5, 3) := by decide +kernel
theorem dX8_drawing_13 : decode cX8_drawing 13 = .ok (.iconst (-1), 1) := by decide +kernel
theorem dX8_drawing_14 : decode cX8_drawing 14 = .ok (.ireturn, 1) := by decide +kernel
theorem dX8_drawing_15 : decode cX8_drawing 15 = .ok (.iload_n 2, 1) := by decide +kernel
theorem dX8_drawing_16 : decode cX8_drawing 16 = .ok (.tableswitch 57 0 2 #[28, 37, 47], 28) := by decide +kernel
theorem dX8_drawing_44 : decode cX8_drawing 44 = .ok (.aload_n 0, 1) := by decide +kernel
theorem dX8_drawing_45 : decode cX8_drawing 45 = .ok (.getfield 35, 3) := by decide +kernel
theorem dX8_drawing_48 : decode cX8_drawing 48 = .ok (.iconst 0, 1) := by decide +kernel
theorem dX8_drawing_49 : decode cX8_drawing 49 = .ok (.iload_n 1, 1) := by decide +kernel
theorem dX8_drawing_50 : decode cX8_drawing 50 = .ok (.iadd, 1) := by decide +kernel
theorem dX8_drawing_51 : decode cX8_drawing 51 = .ok (.iaload, 1) := by decide +kernel
theorem dX8_drawing_52 : decode cX8_drawing 52 = .ok (.ireturn, 1) := by decide +kernel
theorem dX8_drawing_53 : decode cX8_drawing 53 = .ok (.aload_n 0, 1) := by decide +kernel
theorem dX8_drawing_54 : decode cX8_drawing 54 = .ok (.getfield 35, 3) := by decide +kernel
theorem dX8_drawing_57 : decode cX8_drawing 57 = .ok (.bipush 6, 2) := by decide +kernel
theorem dX8_drawing_59 : decode cX8_drawing 59 = .ok (.iload_n 1, 1) := by decide +kernel
theorem dX8_drawing_60 : decode cX8_drawing 60 = .ok (.iadd, 1) := by decide +kernel
theorem dX8_drawing_61 : decode cX8_drawing 61 = .ok (.iaload, 1) := by decide +kernel
theorem dX8_drawing_62 : decode cX8_drawing 62 = .ok (.ireturn, 1) := by decide +kernel
theorem dX8_drawing_63 : decode cX8_drawing 63 = .ok (.aload_n 0, 1) := by decide +kernel
theorem dX8_drawing_64 : decode cX8_drawing 64 = .ok (.aload_n 0, 1) := by decide +kernel
theorem dX8_drawing_65 : decode cX8_drawing 65 = .ok (.getfield 35, 3) := by decide +kernel
theorem dX8_drawing_68 : decode cX8_drawing 68 = .ok (.iload_n 1, 1) := by decide +kernel
theorem dX8_drawing_69 : decode cX8_drawing 69 = .ok (.invokevirtual 144, 3) := by decide +kernel
theorem dX8_drawing_72 : decode cX8_drawing 72 = .ok (.ireturn, 1) := by decide +kernel
theorem dX8_drawing_73 : decode cX8_drawing 73 = .ok (.bipush (-2), 2) := by decide +kernel
theorem dX8_drawing_75 : decode cX8_drawing 75 = .ok (.ireturn, 1) := by decide +kernel
theorem dX8_level_0 : decode cX8_level 0 = .ok (.aload_n 0, 1) := by decide +kernel
theorem dX8_level_1 : decode cX8_level 1 = .ok (.iconst 0, 1) := by decide +kernel
theorem dX8_level_2 : decode cX8_level 2 = .ok (.putfield 69, 3) := by decide +kernel
theorem dX8_level_5 : decode cX8_level 5 = .ok (.aload_n 0, 1) := by decide +kernel
theorem dX8_level_6 : decode cX8_level 6 = .ok (.iload_n 1, 1) := by decide +kernel
theorem dX8_level_7 : decode cX8_level 7 = .ok (.invokevirtual 173, 3) := by decide +kernel
theorem dX8_level_10 : decode cX8_level 10 = .ok (.ifCond .eq 5, 3) := by decide +kernel
theorem dX8_level_13 : decode cX8_level 13 = .ok (.iconst (-1), 1) := by decide +kernel
theorem dX8_level_14 : decode cX8_level 14 = .ok (.ireturn, 1) := by decide +kernel
theorem dX8_level_15 : decode cX8_level 15 = .ok (.iload_n 2, 1) := by decide +kernel
theorem dX8_level_16 : decode cX8_level 16 = .ok (.tableswitch 61 0 3 #[32, 39, 49, 55], 32) := by decide +kernel
theorem dX8_level_48 : decode cX8_level 48 = .ok (.aload_n 0, 1) := by decide +kernel
theorem dX8_level_49 : decode cX8_level 49 = .ok (.getfield 16, 3) := by decide +kernel
theorem dX8_level_52 : decode cX8_level 52 = .ok (.iload_n 1, 1) := by decide +kernel
theorem dX8_level_53 : decode cX8_level 53 = .ok (.iaload, 1) := by decide +kernel
theorem dX8_level_54 : decode cX8_level 54 = .ok (.ireturn, 1) := by decide +kernel
theorem dX8_level_55 : decode cX8_level 55 = .ok (.aload_n 0, 1) := by decide +kernel
theorem dX8_level_56 : decode cX8_level 56 = .ok (.getfield 35, 3) := by decide +kernel
theorem dX8_level_59 : decode cX8_level 59 = .ok (.bipush 12, 2) := by decide +kernel
theorem dX8_level_61 : decode cX8_level 61 = .ok (.iload_n 1, 1) := by decide +kernel
theorem dX8_level_62 : decode cX8_level 62 = .ok (.iadd, 1) := by decide +kernel
theorem dX8_level_63 : decode cX8_level 63 = .ok (.iaload, 1) := by decide +kernel
theorem dX8_level_64 : decode cX8_level 64 = .ok (.ireturn, 1) := by decide +kernel
theorem dX8_level_65 : decode cX8_level 65 = .ok (.aload_n 0, 1) := by decide +kernel
theorem dX8_level_66 : decode cX8_level 66 = .ok (.iload_n 1, 1) := by decide +kernel
theorem dX8_level_67 : decode cX8_level 67 = .ok (.invokevirtual 176, 3) := by decide +kernel
theorem dX8_level_70 : decode cX8_level 70 = .ok (.ireturn, 1) := by decide +kernel
theorem dX8_level_71 : decode cX8_level 71 = .ok (.aload_n 0, 1) := by decide +kernel
theorem dX8_level_72 : decode cX8_level 72 = .ok (.iload_n 1, 1) := by decide +kernel
theorem dX8_level_73 : decode cX8_level 73 = .ok (.invokevirtual 180, 3) := by decide +kernel
theorem dX8_level_76 : decode cX8_level 76 = .ok (.ireturn, 1) := by decide +kernel
theorem dX8_level_77 : decode cX8_level 77 = .ok (.bipush (-2), 2) := by decide +kernel
theorem dX8_level_79 : decode cX8_level 79 = .ok (.ireturn, 1) := by decide +kernel
theorem dX8_where_0 : decode cX8_where 0 = .ok (.aload_n 0, 1) := by decide +kernel
theorem dX8_where_1 : decode cX8_where 1 = .ok (.iconst 0, 1) := by decide +kernel
theorem dX8_where_2 : decode cX8_where 2 = .ok (.putfield 69, 3) := by decide +kernel
theorem dX8_where_5 : decode cX8_where 5 = .ok (.iload_n 1, 1) := by decide +kernel
theorem dX8_where_6 : decode cX8_where 6 = .ok (.bipush 9, 2) := by decide +kernel
theorem dX8_where_8 : decode cX8_where 8 = .ok (.if_icmp .eq 13, 3) := by decide +kernel
theorem dX8_where_11 : decode cX8_where 11 = .ok (.aload_n 0, 1) := by decide +kernel
theorem dX8_where_12 : decode cX8_where 12 = .ok (.iload_n 1, 1) := by decide +kernel
theorem dX8_where_13 : decode cX8_where 13 = .ok (.invokevirtual 173, 3) := by decide +kernel
theorem dX8_where_16 : decode cX8_where 16 = .ok (.ifCond .eq 5, 3) := by decide +kernel
theorem dX8_where_19 : decode cX8_where 19 = .ok (.iconst (-1), 1) := by decide +kernel
theorem dX8_where_20 : decode cX8_where 20 = .ok (.ireturn, 1) := by decide +kernel
theorem dX8_where_21 : decode cX8_where 21 = .ok (.iload_n 2, 1) := by decide +kernel
theorem dX8_where_22 : decode cX8_where 22 = .ok (.invokestatic 183, 3) := by decide +kernel
theorem dX8_where_25 : decode cX8_where 25 = .ok (.ifCond .eq 29, 3) := by decide +kernel
theorem dX8_where_28 : decode cX8_where 28 = .ok (.aload_n 0, 1) := by decide +kernel
theorem dX8_where_29 : decode cX8_where 29 = .ok (.getfield 35, 3) := by decide +kernel
theorem dX8_where_32 : decode cX8_where 32 = .ok (.iload_n 1, 1) := by decide +kernel
theorem dX8_where_33 : decode cX8_where 33 = .ok (.bipush 9, 2) := by decide +kernel
theorem dX8_where_35 : decode cX8_where 35 = .ok (.if_icmp .ne 7, 3) := by decide +kernel
theorem dX8_where_38 : decode cX8_where 38 = .ok (.iconst 4, 1) := by decide +kernel
theorem dX8_where_39 : decode cX8_where 39 = .ok (.goto 4, 3) := by decide +kernel
theorem dX8_where_42 : decode cX8_where 42 = .ok (.iload_n 1, 1) := by decide +kernel
theorem dX8_where_43 : decode cX8_where 43 = .ok (.iload_n 2, 1) := by decide +kernel
theorem dX8_where_44 : decode cX8_where 44 = .ok (.invokestatic 131, 3) := by decide +kernel
theorem dX8_where_47 : decode cX8_where 47 = .ok (.sipush 1000, 3) := by decide +kernel
theorem dX8_where_50 : decode cX8_where 50 = .ok (.iadd, 1) := by decide +kernel
theorem dX8_where_51 : decode cX8_where 51 = .ok (.goto 5, 3) := by decide +kernel
theorem dX8_where_54 : decode cX8_where 54 = .ok (.bipush (-2), 2) := by decide +kernel
theorem dX8_where_56 : decode cX8_where 56 = .ok (.ireturn, 1) := by decide +kernel
theorem dX8_note_0 : decode cX8_note 0 = .ok (.aload_n 0, 1) := by decide +kernel
theorem dX8_note_1 : decode cX8_note 1 = .ok (.getfield 121, 3) := by decide +kernel
theorem dX8_note_4 : decode cX8_note 4 = .ok (.bipush 14, 2) := by decide +kernel
theorem dX8_note_6 : decode cX8_note 6 = .ok (.if_icmp .ne 43, 3) := by decide +kernel
theorem dX8_note_9 : decode cX8_note 9 = .ok (.iconst 0, 1) := by decide +kernel
theorem dX8_note_10 : decode cX8_note 10 = .ok (.istore_n 1, 1) := by decide +kernel
theorem dX8_note_11 : decode cX8_note 11 = .ok (.iload_n 1, 1) := by decide +kernel
theorem dX8_note_12 : decode cX8_note 12 = .ok (.sipush 520, 3) := by decide +kernel
theorem dX8_note_15 : decode cX8_note 15 = .ok (.if_icmp .ge 24, 3) := by decide +kernel
theorem dX8_note_18 : decode cX8_note 18 = .ok (.aload_n 0, 1) := by decide +kernel
theorem dX8_note_19 : decode cX8_note 19 = .ok (.getfield 41, 3) := by decide +kernel
theorem dX8_note_22 : decode cX8_note 22 = .ok (.iload_n 1, 1) := by decide +kernel
theorem dX8_note_23 : decode cX8_note 23 = .ok (.aload_n 0, 1) := by decide +kernel
theorem dX8_note_24 : decode cX8_note 24 = .ok (.getfield 41, 3) := by decide +kernel
theorem dX8_note_27 : decode cX8_note 27 = .ok (.iload_n 1, 1) := by decide +kernel
theorem dX8_note_28 : decode cX8_note 28 = .ok (.bipush 40, 2) := by decide +kernel
theorem dX8_note_30 : decode cX8_note 30 = .ok (.iadd, 1) := by decide +kernel
theorem dX8_note_31 : decode cX8_note 31 = .ok (.iaload, 1) := by decide +kernel
theorem dX8_note_32 : decode cX8_note 32 = .ok (.iastore, 1) := by decide +kernel
theorem dX8_note_33 : decode cX8_note 33 = .ok (.iinc 1 1, 3) := by decide +kernel
theorem dX8_note_36 : decode cX8_note 36 = .ok (.goto (-25), 3) := by decide +kernel
theorem dX8_note_39 : decode cX8_note 39 = .ok (.aload_n 0, 1) := by decide +kernel
theorem dX8_note_40 : decode cX8_note 40 = .ok (.dup, 1) := by decide +kernel
theorem dX8_note_41 : decode cX8_note 41 = .ok (.getfield 121, 3) := by decide +kernel
theorem dX8_note_44 : decode cX8_note 44 = .ok (.iconst 1, 1) := by decide +kernel
theorem dX8_note_45 : decode cX8_note 45 = .ok (.isub, 1) := by decide +kernel
theorem dX8_note_46 : decode cX8_note 46 = .ok (.putfield 121, 3) := by decide +kernel
theorem dX8_note_49 : decode cX8_note 49 = .ok (.iconst 0, 1) := by decide +kernel
theorem dX8_note_50 : decode cX8_note 50 = .ok (.istore_n 1, 1) := by decide +kernel
theorem dX8_note_51 : decode cX8_note 51 = .ok (.iload_n 1, 1) := by decide +kernel
theorem dX8_note_52 : decode cX8_note 52 = .ok (.bipush 40, 2) := by decide +kernel
theorem dX8_note_54 : decode cX8_note 54 = .ok (.if_icmp .ge 29, 3) := by decide +kernel
theorem dX8_note_57 : decode cX8_note 57 = .ok (.aload_n 0, 1) := by decide +kernel
theorem dX8_note_58 : decode cX8_note 58 = .ok (.getfield 41, 3) := by decide +kernel
theorem dX8_note_61 : decode cX8_note 61 = .ok (.bipush 40, 2) := by decide +kernel
theorem dX8_note_63 : decode cX8_note 63 = .ok (.aload_n 0, 1) := by decide +kernel
theorem dX8_note_64 : decode cX8_note 64 = .ok (.getfield 121, 3) := by decide +kernel
theorem dX8_note_67 : decode cX8_note 67 = .ok (.imul, 1) := by decide +kernel
theorem dX8_note_68 : decode cX8_note 68 = .ok (.iload_n 1, 1) := by decide +kernel
theorem dX8_note_69 : decode cX8_note 69 = .ok (.iadd, 1) := by decide +kernel
theorem dX8_note_70 : decode cX8_note 70 = .ok (.aload_n 0, 1) := by decide +kernel
theorem dX8_note_71 : decode cX8_note 71 = .ok (.getfield 35, 3) := by decide +kernel
theorem dX8_note_74 : decode cX8_note 74 = .ok (.iload_n 1, 1) := by decide +kernel
theorem dX8_note_75 : decode cX8_note 75 = .ok (.iaload, 1) := by decide +kernel
theorem dX8_note_76 : decode cX8_note 76 = .ok (.iastore, 1) := by decide +kernel
theorem dX8_note_77 : decode cX8_note 77 = .ok (.iinc 1 1, 3) := by decide +kernel
theorem dX8_note_80 : decode cX8_note 80 = .ok (.goto (-29), 3) := by decide +kernel
theorem dX8_note_83 : decode cX8_note 83 = .ok (.aload_n 0, 1) := by decide +kernel
theorem dX8_note_84 : decode cX8_note 84 = .ok (.dup, 1) := by decide +kernel
theorem dX8_note_85 : decode cX8_note 85 = .ok (.getfield 121, 3) := by decide +kernel
theorem dX8_note_88 : decode cX8_note 88 = .ok (.iconst 1, 1) := by decide +kernel
theorem dX8_note_89 : decode cX8_note 89 = .ok (.iadd, 1) := by decide +kernel
theorem dX8_note_90 : decode cX8_note 90 = .ok (.putfield 121, 3) := by decide +kernel
theorem dX8_note_93 : decode cX8_note 93 = .ok (.return_, 1) := by decide +kernel
theorem dX8_redraw_0 : decode cX8_redraw 0 = .ok (.aload_n 0, 1) := by decide +kernel
theorem dX8_redraw_1 : decode cX8_redraw 1 = .ok (.iconst 0, 1) := by decide +kernel
theorem dX8_redraw_2 : decode cX8_redraw 2 = .ok (.putfield 69, 3) := by decide +kernel
theorem dX8_redraw_5 : decode cX8_redraw 5 = .ok (.aload_n 0, 1) := by decide +kernel
theorem dX8_redraw_6 : decode cX8_redraw 6 = .ok (.iload_n 1, 1) := by decide +kernel
theorem dX8_redraw_7 : decode cX8_redraw 7 = .ok (.invokevirtual 169, 3) := by decide +kernel
theorem dX8_redraw_10 : decode cX8_redraw 10 = .ok (.ifCond .eq 5, 3) := by decide +kernel
theorem dX8_redraw_13 : decode cX8_redraw 13 = .ok (.iconst (-1), 1) := by decide +kernel
theorem dX8_redraw_14 : decode cX8_redraw 14 = .ok (.ireturn, 1) := by decide +kernel
theorem dX8_redraw_15 : decode cX8_redraw 15 = .ok (.iload_n 2, 1) := by decide +kernel
theorem dX8_redraw_16 : decode cX8_redraw 16 = .ok (.i2l, 1) := by decide +kernel
theorem dX8_redraw_17 : decode cX8_redraw 17 = .ok (.lconst 0, 1) := by decide +kernel
theorem dX8_redraw_18 : decode cX8_redraw 18 = .ok (.ldc2_w 186, 3) := by decide +kernel
theorem dX8_redraw_21 : decode cX8_redraw 21 = .ok (.invokestatic 76, 3) := by decide +kernel
theorem dX8_redraw_24 : decode cX8_redraw 24 = .ok (.ifCond .eq 15, 3) := by decide +kernel
theorem dX8_redraw_27 : decode cX8_redraw 27 = .ok (.iload_n 3, 1) := by decide +kernel
theorem dX8_redraw_28 : decode cX8_redraw 28 = .ok (.i2l, 1) := by decide +kernel
theorem dX8_redraw_29 : decode cX8_redraw 29 = .ok (.lconst 1, 1) := by decide +kernel
theorem dX8_redraw_30 : decode cX8_redraw 30 = .ok (.ldc2_w 188, 3) := by decide +kernel
theorem dX8_redraw_33 : decode cX8_redraw 33 = .ok (.invokestatic 76, 3) := by decide +kernel
theorem dX8_redraw_36 : decode cX8_redraw 36 = .ok (.ifCond .ne 6, 3) := by decide +kernel
theorem dX8_redraw_39 : decode cX8_redraw 39 = .ok (.bipush (-2), 2) := by decide +kernel
theorem dX8_redraw_41 : decode cX8_redraw 41 = .ok (.ireturn, 1) := by decide +kernel
theorem dX8_redraw_42 : decode cX8_redraw 42 = .ok (.aload_n 0, 1) := by decide +kernel
theorem dX8_redraw_43 : decode cX8_redraw 43 = .ok (.invokevirtual 190, 3) := by decide +kernel
theorem dX8_redraw_46 : decode cX8_redraw 46 = .ok (.bipush 10, 2) := by decide +kernel
theorem dX8_redraw_48 : decode cX8_redraw 48 = .ok (.aload_n 0, 1) := by decide +kernel
theorem dX8_redraw_49 : decode cX8_redraw 49 = .ok (.getfield 35, 3) := by decide +kernel
theorem dX8_redraw_52 : decode cX8_redraw 52 = .ok (.iconst 0, 1) := by decide +kernel
theorem dX8_redraw_53 : decode cX8_redraw 53 = .ok (.iload_n 1, 1) := by decide +kernel
theorem dX8_redraw_54 : decode cX8_redraw 54 = .ok (.iadd, 1) := by decide +kernel
theorem dX8_redraw_55 : decode cX8_redraw 55 = .ok (.iaload, 1) := by decide +kernel
theorem dX8_redraw_56 : decode cX8_redraw 56 = .ok (.imul, 1) := by decide +kernel
theorem dX8_redraw_57 : decode cX8_redraw 57 = .ok (.aload_n 0, 1) := by decide +kernel
theorem dX8_redraw_58 : decode cX8_redraw 58 = .ok (.getfield 35, 3) := by decide +kernel
theorem dX8_redraw_61 : decode cX8_redraw 61 = .ok (.bipush 6, 2) := by decide +kernel
theorem dX8_redraw_63 : decode cX8_redraw 63 = .ok (.iload_n 1, 1) := by decide +kernel
theorem dX8_redraw_64 : decode cX8_redraw 64 = .ok (.iadd, 1) := by decide +kernel
theorem dX8_redraw_65 : decode cX8_redraw 65 = .ok (.iaload, 1) := by decide +kernel
theorem dX8_redraw_66 : decode cX8_redraw 66 = .ok (.iadd, 1) := by decide +kernel
theorem dX8_redraw_67 : decode cX8_redraw 67 = .ok (.istore 4, 2) := by decide +kernel
theorem dX8_redraw_69 : decode cX8_redraw 69 = .ok (.aload_n 0, 1) := by decide +kernel
theorem dX8_redraw_70 : decode cX8_redraw 70 = .ok (.getfield 35, 3) := by decide +kernel
theorem dX8_redraw_73 : decode cX8_redraw 73 = .ok (.iconst 0, 1) := by decide +kernel
theorem dX8_redraw_74 : decode cX8_redraw 74 = .ok (.iload_n 1, 1) := by decide +kernel
theorem dX8_redraw_75 : decode cX8_redraw 75 = .ok (.iadd, 1) := by decide +kernel
theorem dX8_redraw_76 : decode cX8_redraw 76 = .ok (.iload_n 2, 1) := by decide +kernel
theorem dX8_redraw_77 : decode cX8_redraw 77 = .ok (.iastore, 1) := by decide +kernel
theorem dX8_redraw_78 : decode cX8_redraw 78 = .ok (.aload_n 0, 1) := by decide +kernel
theorem dX8_redraw_79 : decode cX8_redraw 79 = .ok (.getfield 35, 3) := by decide +kernel
theorem dX8_redraw_82 : decode cX8_redraw 82 = .ok (.bipush 6, 2) := by decide +kernel
theorem dX8_redraw_84 : decode cX8_redraw 84 = .ok (.iload_n 1, 1) := by decide +kernel
theorem dX8_redraw_85 : decode cX8_redraw 85 = .ok (.iadd, 1) := by decide +kernel
theorem dX8_redraw_86 : decode cX8_redraw 86 = .ok (.iload_n 3, 1) := by decide +kernel
theorem dX8_redraw_87 : decode cX8_redraw 87 = .ok (.iastore, 1) := by decide +kernel
theorem dX8_redraw_88 : decode cX8_redraw 88 = .ok (.iload 4, 2) := by decide +kernel
theorem dX8_redraw_90 : decode cX8_redraw 90 = .ok (.ireturn, 1) := by decide +kernel
theorem dX8_delay_0 : decode cX8_delay 0 = .ok (.aload_n 0, 1) := by decide +kernel
theorem dX8_delay_1 : decode cX8_delay 1 = .ok (.iconst 0, 1) := by decide +kernel
theorem dX8_delay_2 : decode cX8_delay 2 = .ok (.putfield 69, 3) := by decide +kernel
theorem dX8_delay_5 : decode cX8_delay 5 = .ok (.aload_n 0, 1) := by decide +kernel
theorem dX8_delay_6 : decode cX8_delay 6 = .ok (.iload_n 1, 1) := by decide +kernel
theorem dX8_delay_7 : decode cX8_delay 7 = .ok (.invokevirtual 173, 3) := by decide +kernel
theorem dX8_delay_10 : decode cX8_delay 10 = .ok (.ifCond .eq 5, 3) := by decide +kernel
theorem dX8_delay_13 : decode cX8_delay 13 = .ok (.iconst (-1), 1) := by decide +kernel
theorem dX8_delay_14 : decode cX8_delay 14 = .ok (.ireturn, 1) := by decide +kernel
theorem dX8_delay_15 : decode cX8_delay 15 = .ok (.iload_n 2, 1) := by decide +kernel
theorem dX8_delay_16 : decode cX8_delay 16 = .ok (.i2l, 1) := by decide +kernel
theorem dX8_delay_17 : decode cX8_delay 17 = .ok (.lconst 0, 1) := by decide +kernel
theorem dX8_delay_18 : decode cX8_delay 18 = .ok (.ldc2_w 186, 3) := by decide +kernel
theorem dX8_delay_21 : decode cX8_delay 21 = .ok (.invokestatic 76, 3) := by decide +kernel
theorem dX8_delay_24 : decode cX8_delay 24 = .ok (.ifCond .ne 6, 3) := by decide +kernel
theorem dX8_delay_27 : decode cX8_delay 27 = .ok (.bipush (-2), 2) := by decide +kernel
theorem dX8_delay_29 : decode cX8_delay 29 = .ok (.ireturn, 1) := by decide +kernel
theorem dX8_delay_30 : decode cX8_delay 30 = .ok (.aload_n 0, 1) := by decide +kernel
theorem dX8_delay_31 : decode cX8_delay 31 = .ok (.invokevirtual 190, 3) := by decide +kernel
theorem dX8_delay_34 : decode cX8_delay 34 = .ok (.aload_n 0, 1) := by decide +kernel
theorem dX8_delay_35 : decode cX8_delay 35 = .ok (.getfield 35, 3) := by decide +kernel
theorem dX8_delay_38 : decode cX8_delay 38 = .ok (.bipush 12, 2) := by decide +kernel
theorem dX8_delay_40 : decode cX8_delay 40 = .ok (.iload_n 1, 1) := by decide +kernel
theorem dX8_delay_41 : decode cX8_delay 41 = .ok (.iadd, 1) := by decide +kernel
theorem dX8_delay_42 : decode cX8_delay 42 = .ok (.iaload, 1) := by decide +kernel
theorem dX8_delay_43 : decode cX8_delay 43 = .ok (.istore_n 3, 1) := by decide +kernel
theorem dX8_delay_44 : decode cX8_delay 44 = .ok (.aload_n 0, 1) := by decide +kernel
theorem dX8_delay_45 : decode cX8_delay 45 = .ok (.getfield 35, 3) := by decide +kernel
theorem dX8_delay_48 : decode cX8_delay 48 = .ok (.bipush 12, 2) := by decide +kernel
theorem dX8_delay_50 : decode cX8_delay 50 = .ok (.iload_n 1, 1) := by decide +kernel
theorem dX8_delay_51 : decode cX8_delay 51 = .ok (.iadd, 1) := by decide +kernel
theorem dX8_delay_52 : decode cX8_delay 52 = .ok (.iload_n 2, 1) := by decide +kernel
theorem dX8_delay_53 : decode cX8_delay 53 = .ok (.iastore, 1) := by decide +kernel
theorem dX8_delay_54 : decode cX8_delay 54 = .ok (.iload_n 3, 1) := by decide +kernel
theorem dX8_delay_55 : decode cX8_delay 55 = .ok (.ireturn, 1) := by decide +kernel
theorem dX8_pan_0 : decode cX8_pan 0 = .ok (.aload_n 0, 1) := by decide +kernel
theorem dX8_pan_1 : decode cX8_pan 1 = .ok (.iconst 0, 1) := by decide +kernel
theorem dX8_pan_2 : decode cX8_pan 2 = .ok (.putfield 69, 3) := by decide +kernel
theorem dX8_pan_5 : decode cX8_pan 5 = .ok (.iload_n 1, 1) := by decide +kernel
theorem dX8_pan_6 : decode cX8_pan 6 = .ok (.bipush 9, 2) := by decide +kernel
theorem dX8_pan_8 : decode cX8_pan 8 = .ok (.if_icmp .eq 13, 3) := by decide +kernel
theorem dX8_pan_11 : decode cX8_pan 11 = .ok (.aload_n 0, 1) := by decide +kernel
theorem dX8_pan_12 : decode cX8_pan 12 = .ok (.iload_n 1, 1) := by decide +kernel
theorem dX8_pan_13 : decode cX8_pan 13 = .ok (.invokevirtual 173, 3) := by decide +kernel
theorem dX8_pan_16 : decode cX8_pan 16 = .ok (.ifCond .eq 5, 3) := by decide +kernel
theorem dX8_pan_19 : decode cX8_pan 19 = .ok (.iconst (-1), 1) := by decide +kernel
theorem dX8_pan_20 : decode cX8_pan 20 = .ok (.ireturn, 1) := by decide +kernel
theorem dX8_pan_21 : decode cX8_pan 21 = .ok (.iload_n 2, 1) := by decide +kernel
theorem dX8_pan_22 : decode cX8_pan 22 = .ok (.i2l, 1) := by decide +kernel
theorem dX8_pan_23 : decode cX8_pan 23 = .ok (.ldc2_w 193, 3) := by decide +kernel
theorem dX8_pan_26 : decode cX8_pan 26 = .ok (.ldc2_w 186, 3) := by decide +kernel
theorem dX8_pan_29 : decode cX8_pan 29 = .ok (.invokestatic 76, 3) := by decide +kernel
theorem dX8_pan_32 : decode cX8_pan 32 = .ok (.ifCond .eq 30, 3) := by decide +kernel
theorem dX8_pan_35 : decode cX8_pan 35 = .ok (.iload_n 3, 1) := by decide +kernel
theorem dX8_pan_36 : decode cX8_pan 36 = .ok (.i2l, 1) := by decide +kernel
theorem dX8_pan_37 : decode cX8_pan 37 = .ok (.ldc2_w 195, 3) := by decide +kernel
theorem dX8_pan_40 : decode cX8_pan 40 = .ok (.ldc2_w 197, 3) := by decide +kernel
theorem dX8_pan_43 : decode cX8_pan 43 = .ok (.invokestatic 76, 3) := by decide +kernel
theorem dX8_pan_46 : decode cX8_pan 46 = .ok (.ifCond .eq 16, 3) := by decide +kernel
theorem dX8_pan_49 : decode cX8_pan 49 = .ok (.iload 4, 2) := by decide +kernel
theorem dX8_pan_51 : decode cX8_pan 51 = .ok (.i2l, 1) := by decide +kernel
theorem dX8_pan_52 : decode cX8_pan 52 = .ok (.lconst 1, 1) := by decide +kernel
theorem dX8_pan_53 : decode cX8_pan 53 = .ok (.ldc2_w 186, 3) := by decide +kernel
theorem dX8_pan_56 : decode cX8_pan 56 = .ok (.invokestatic 76, 3) := by decide +kernel
theorem dX8_pan_59 : decode cX8_pan 59 = .ok (.ifCond .ne 6, 3) := by decide +kernel
theorem dX8_pan_62 : decode cX8_pan 62 = .ok (.bipush (-2), 2) := by decide +kernel
theorem dX8_pan_64 : decode cX8_pan 64 = .ok (.ireturn, 1) := by decide +kernel
theorem dX8_pan_65 : decode cX8_pan 65 = .ok (.aload_n 0, 1) := by decide +kernel
theorem dX8_pan_66 : decode cX8_pan 66 = .ok (.invokevirtual 190, 3) := by decide +kernel
theorem dX8_pan_69 : decode cX8_pan 69 = .ok (.iload_n 1, 1) := by decide +kernel
theorem dX8_pan_70 : decode cX8_pan 70 = .ok (.bipush 9, 2) := by decide +kernel
theorem dX8_pan_72 : decode cX8_pan 72 = .ok (.if_icmp .ne 7, 3) := by decide +kernel
theorem dX8_pan_75 : decode cX8_pan 75 = .ok (.iconst 4, 1) := by decide +kernel
theorem dX8_pan_76 : decode cX8_pan 76 = .ok (.goto 4, 3) := by decide +kernel
theorem dX8_pan_79 : decode cX8_pan 79 = .ok (.iload_n 1, 1) := by decide +kernel
theorem dX8_pan_80 : decode cX8_pan 80 = .ok (.istore 5, 2) := by decide +kernel
theorem dX8_pan_82 : decode cX8_pan 82 = .ok (.aload_n 0, 1) := by decide +kernel
theorem dX8_pan_83 : decode cX8_pan 83 = .ok (.getfield 35, 3) := by decide +kernel
theorem dX8_pan_86 : decode cX8_pan 86 = .ok (.bipush 16, 2) := by decide +kernel
theorem dX8_pan_88 : decode cX8_pan 88 = .ok (.iconst 3, 1) := by decide +kernel
theorem dX8_pan_89 : decode cX8_pan 89 = .ok (.iload 5, 2) := by decide +kernel
theorem dX8_pan_91 : decode cX8_pan 91 = .ok (.imul, 1) := by decide +kernel
theorem dX8_pan_92 : decode cX8_pan 92 = .ok (.iadd, 1) := by decide +kernel
theorem dX8_pan_93 : decode cX8_pan 93 = .ok (.iload_n 2, 1) := by decide +kernel
theorem dX8_pan_94 : decode cX8_pan 94 = .ok (.iastore, 1) := by decide +kernel
theorem dX8_pan_95 : decode cX8_pan 95 = .ok (.aload_n 0, 1) := by decide +kernel
theorem dX8_pan_96 : decode cX8_pan 96 = .ok (.getfield 35, 3) := by decide +kernel
theorem dX8_pan_99 : decode cX8_pan 99 = .ok (.bipush 16, 2) := by decide +kernel
theorem dX8_pan_101 : decode cX8_pan 101 = .ok (.iconst 3, 1) := by decide +kernel
theorem dX8_pan_102 : decode cX8_pan 102 = .ok (.iload 5, 2) := by decide +kernel
theorem dX8_pan_104 : decode cX8_pan 104 = .ok (.imul, 1) := by decide +kernel
theorem dX8_pan_105 : decode cX8_pan 105 = .ok (.iadd, 1) := by decide +kernel
theorem dX8_pan_106 : decode cX8_pan 106 = .ok (.iconst 1, 1) := by decide +kernel
theorem dX8_pan_107 : decode cX8_pan 107 = .ok (.iadd, 1) := by decide +kernel
theorem dX8_pan_108 : decode cX8_pan 108 = .ok (.iload_n 3, 1) := by decide +kernel
theorem dX8_pan_109 : decode cX8_pan 109 = .ok (.iastore, 1) := by decide +kernel
theorem dX8_pan_110 : decode cX8_pan 110 = .ok (.aload_n 0, 1) := by decide +kernel
theorem dX8_pan_111 : decode cX8_pan 111 = .ok (.getfield 35, 3) := by decide +kernel
theorem dX8_pan_114 : decode cX8_pan 114 = .ok (.bipush 16, 2) := by decide +kernel
theorem dX8_pan_116 : decode cX8_pan 116 = .ok (.iconst 3, 1) := by decide +kernel
theorem dX8_pan_117 : decode cX8_pan 117 = .ok (.iload 5, 2) := by decide +kernel
theorem dX8_pan_119 : decode cX8_pan 119 = .ok (.imul, 1) := by decide +kernel
theorem dX8_pan_120 : decode cX8_pan 120 = .ok (.iadd, 1) := by decide +kernel
theorem dX8_pan_121 : decode cX8_pan 121 = .ok (.iconst 2, 1) := by decide +kernel
theorem dX8_pan_122 : decode cX8_pan 122 = .ok (.iadd, 1) := by decide +kernel
theorem dX8_pan_123 : decode cX8_pan 123 = .ok (.iload 4, 2) := by decide +kernel
theorem dX8_pan_125 : decode cX8_pan 125 = .ok (.iastore, 1) := by decide +kernel
theorem dX8_pan_126 : decode cX8_pan 126 = .ok (.aload_n 0, 1) := by decide +kernel
theorem dX8_pan_127 : decode cX8_pan 127 = .ok (.getfield 35, 3) := by decide +kernel
theorem dX8_pan_130 : decode cX8_pan 130 = .ok (.iload 5, 2) := by decide +kernel
theorem dX8_pan_132 : decode cX8_pan 132 = .ok (.bipush 47, 2) := by decide +kernel
theorem dX8_pan_134 : decode cX8_pan 134 = .ok (.invokestatic 131, 3) := by decide +kernel
theorem dX8_pan_137 : decode cX8_pan 137 = .ok (.sipush 1000, 3) := by decide +kernel
theorem dX8_pan_140 : decode cX8_pan 140 = .ok (.iadd, 1) := by decide +kernel
theorem dX8_pan_141 : decode cX8_pan 141 = .ok (.ireturn, 1) := by decide +kernel
theorem dX8_isOrder_0 : decode cX8_isOrder 0 = .ok (.iload_n 1, 1) := by decide +kernel
theorem dX8_isOrder_1 : decode cX8_isOrder 1 = .ok (.i2l, 1) := by decide +kernel
theorem dX8_isOrder_2 : decode cX8_isOrder 2 = .ok (.lconst 0, 1) := by decide +kernel
theorem dX8_isOrder_3 : decode cX8_isOrder 3 = .ok (.bipush 10, 2) := by decide +kernel
theorem dX8_isOrder_5 : decode cX8_isOrder 5 = .ok (.aload_n 0, 1) := by decide +kernel
theorem dX8_isOrder_6 : decode cX8_isOrder 6 = .ok (.getfield 73, 3) := by decide +kernel
theorem dX8_isOrder_9 : decode cX8_isOrder 9 = .ok (.invokestatic 135, 3) := by decide +kernel
theorem dX8_isOrder_12 : decode cX8_isOrder 12 = .ok (.iconst 1, 1) := by decide +kernel
theorem dX8_isOrder_13 : decode cX8_isOrder 13 = .ok (.isub, 1) := by decide +kernel
theorem dX8_isOrder_14 : decode cX8_isOrder 14 = .ok (.i2l, 1) := by decide +kernel
theorem dX8_isOrder_15 : decode cX8_isOrder 15 = .ok (.invokestatic 76, 3) := by decide +kernel
theorem dX8_isOrder_18 : decode cX8_isOrder 18 = .ok (.ifCond .ne 5, 3) := by decide +kernel
theorem dX8_isOrder_21 : decode cX8_isOrder 21 = .ok (.iconst 0, 1) := by decide +kernel
theorem dX8_isOrder_22 : decode cX8_isOrder 22 = .ok (.ireturn, 1) := by decide +kernel
theorem dX8_isOrder_23 : decode cX8_isOrder 23 = .ok (.iconst 0, 1) := by decide +kernel
theorem dX8_isOrder_24 : decode cX8_isOrder 24 = .ok (.istore_n 2, 1) := by decide +kernel
theorem dX8_isOrder_25 : decode cX8_isOrder 25 = .ok (.iconst 0, 1) := by decide +kernel
theorem dX8_isOrder_26 : decode cX8_isOrder 26 = .ok (.istore_n 3, 1) := by decide +kernel
theorem dX8_isOrder_27 : decode cX8_isOrder 27 = .ok (.iload_n 3, 1) := by decide +kernel
theorem dX8_isOrder_28 : decode cX8_isOrder 28 = .ok (.aload_n 0, 1) := by decide +kernel
theorem dX8_isOrder_29 : decode cX8_isOrder 29 = .ok (.getfield 73, 3) := by decide +kernel
theorem dX8_isOrder_32 : decode cX8_isOrder 32 = .ok (.if_icmp .ge 25, 3) := by decide +kernel
theorem dX8_isOrder_35 : decode cX8_isOrder 35 = .ok (.iload_n 2, 1) := by decide +kernel
theorem dX8_isOrder_36 : decode cX8_isOrder 36 = .ok (.iconst 1, 1) := by decide +kernel
theorem dX8_isOrder_37 : decode cX8_isOrder 37 = .ok (.iload_n 1, 1) := by decide +kernel
theorem dX8_isOrder_38 : decode cX8_isOrder 38 = .ok (.bipush 10, 2) := by decide +kernel
theorem dX8_isOrder_40 : decode cX8_isOrder 40 = .ok (.iload_n 3, 1) := by decide +kernel
theorem dX8_isOrder_41 : decode cX8_isOrder 41 = .ok (.invokestatic 135, 3) := by decide +kernel
theorem dX8_isOrder_44 : decode cX8_isOrder 44 = .ok (.idiv, 1) := by decide +kernel
theorem dX8_isOrder_45 : decode cX8_isOrder 45 = .ok (.bipush 10, 2) := by decide +kernel
theorem dX8_isOrder_47 : decode cX8_isOrder 47 = .ok (.irem, 1) := by decide +kernel
theorem dX8_isOrder_48 : decode cX8_isOrder 48 = .ok (.ishl, 1) := by decide +kernel
theorem dX8_isOrder_49 : decode cX8_isOrder 49 = .ok (.ior, 1) := by decide +kernel
theorem dX8_isOrder_50 : decode cX8_isOrder 50 = .ok (.istore_n 2, 1) := by decide +kernel
theorem dX8_isOrder_51 : decode cX8_isOrder 51 = .ok (.iinc 3 1, 3) := by decide +kernel
theorem dX8_isOrder_54 : decode cX8_isOrder 54 = .ok (.goto (-27), 3) := by decide +kernel
theorem dX8_isOrder_57 : decode cX8_isOrder 57 = .ok (.iload_n 2, 1) := by decide +kernel
theorem dX8_isOrder_58 : decode cX8_isOrder 58 = .ok (.aload_n 0, 1) := by decide +kernel
theorem dX8_isOrder_59 : decode cX8_isOrder 59 = .ok (.invokevirtual 147, 3) := by decide +kernel
theorem dX8_isOrder_62 : decode cX8_isOrder 62 = .ok (.if_icmp .ne 7, 3) := by decide +kernel
theorem dX8_isOrder_65 : decode cX8_isOrder 65 = .ok (.iconst 1, 1) := by decide +kernel
theorem dX8_isOrder_66 : decode cX8_isOrder 66 = .ok (.goto 4, 3) := by decide +kernel
theorem dX8_isOrder_69 : decode cX8_isOrder 69 = .ok (.iconst 0, 1) := by decide +kernel
theorem dX8_isOrder_70 : decode cX8_isOrder 70 = .ok (.ireturn, 1) := by decide +kernel
theorem dX8_swap_0 : decode cX8_swap 0 = .ok (.aload_n 0, 1) := by decide +kernel
theorem dX8_swap_1 : decode cX8_swap 1 = .ok (.iconst 0, 1) := by decide +kernel
theorem dX8_swap_2 : decode cX8_swap 2 = .ok (.putfield 69, 3) := by decide +kernel
theorem dX8_swap_5 : decode cX8_swap 5 = .ok (.iload_n 1, 1) := by decide +kernel
theorem dX8_swap_6 : decode cX8_swap 6 = .ok (.invokestatic 183, 3) := by decide +kernel
theorem dX8_swap_9 : decode cX8_swap 9 = .ok (.ifCond .eq 11, 3) := by decide +kernel
theorem dX8_swap_12 : decode cX8_swap 12 = .ok (.aload_n 0, 1) := by decide +kernel
theorem dX8_swap_13 : decode cX8_swap 13 = .ok (.iload_n 2, 1) := by decide +kernel
theorem dX8_swap_14 : decode cX8_swap 14 = .ok (.invokevirtual 199, 3) := by decide +kernel
theorem dX8_swap_17 : decode cX8_swap 17 = .ok (.ifCond .ne 6, 3) := by decide +kernel
theorem dX8_swap_20 : decode cX8_swap 20 = .ok (.bipush (-2), 2) := by decide +kernel
theorem dX8_swap_22 : decode cX8_swap 22 = .ok (.ireturn, 1) := by decide +kernel
theorem dX8_swap_23 : decode cX8_swap 23 = .ok (.aload_n 0, 1) := by decide +kernel
theorem dX8_swap_24 : decode cX8_swap 24 = .ok (.getfield 35, 3) := by decide +kernel
theorem dX8_swap_27 : decode cX8_swap 27 = .ok (.bipush 31, 2) := by decide +kernel
theorem dX8_swap_29 : decode cX8_swap 29 = .ok (.iaload, 1) := by decide +kernel
theorem dX8_swap_30 : decode cX8_swap 30 = .ok (.iconst 4, 1) := by decide +kernel
theorem dX8_swap_31 : decode cX8_swap 31 = .ok (.if_icmp .ne 6, 3) := by decide +kernel
theorem dX8_swap_34 : decode cX8_swap 34 = .ok (.bipush (-4), 2) := by decide +kernel
theorem dX8_swap_36 : decode cX8_swap 36 = .ok (.ireturn, 1) := by decide +kernel
theorem dX8_swap_37 : decode cX8_swap 37 = .ok (.aload_n 0, 1) := by decide +kernel
theorem dX8_swap_38 : decode cX8_swap 38 = .ok (.invokevirtual 190, 3) := by decide +kernel
theorem dX8_swap_41 : decode cX8_swap 41 = .ok (.aload_n 0, 1) := by decide +kernel
theorem dX8_swap_42 : decode cX8_swap 42 = .ok (.getfield 35, 3) := by decide +kernel
theorem dX8_swap_45 : decode cX8_swap 45 = .ok (.bipush 32, 2) := by decide +kernel
theorem dX8_swap_47 : decode cX8_swap 47 = .ok (.aload_n 0, 1) := by decide +kernel
theorem dX8_swap_48 : decode cX8_swap 48 = .ok (.getfield 35, 3) := by decide +kernel
theorem dX8_swap_51 : decode cX8_swap 51 = .ok (.bipush 31, 2) := by decide +kernel
theorem dX8_swap_53 : decode cX8_swap 53 = .ok (.iaload, 1) := by decide +kernel
theorem dX8_swap_54 : decode cX8_swap 54 = .ok (.iadd, 1) := by decide +kernel
theorem dX8_swap_55 : decode cX8_swap 55 = .ok (.iload_n 1, 1) := by decide +kernel
theorem dX8_swap_56 : decode cX8_swap 56 = .ok (.iastore, 1) := by decide +kernel
theorem dX8_swap_57 : decode cX8_swap 57 = .ok (.aload_n 0, 1) := by decide +kernel
theorem dX8_swap_58 : decode cX8_swap 58 = .ok (.getfield 35, 3) := by decide +kernel
theorem dX8_swap_61 : decode cX8_swap 61 = .ok (.bipush 36, 2) := by decide +kernel
theorem dX8_swap_63 : decode cX8_swap 63 = .ok (.aload_n 0, 1) := by decide +kernel
theorem dX8_swap_64 : decode cX8_swap 64 = .ok (.getfield 35, 3) := by decide +kernel
theorem dX8_swap_67 : decode cX8_swap 67 = .ok (.bipush 31, 2) := by decide +kernel
theorem dX8_swap_69 : decode cX8_swap 69 = .ok (.iaload, 1) := by decide +kernel
theorem dX8_swap_70 : decode cX8_swap 70 = .ok (.iadd, 1) := by decide +kernel
theorem dX8_swap_71 : decode cX8_swap 71 = .ok (.iload_n 2, 1) := by decide +kernel
theorem dX8_swap_72 : decode cX8_swap 72 = .ok (.iastore, 1) := by decide +kernel
theorem dX8_swap_73 : decode cX8_swap 73 = .ok (.aload_n 0, 1) := by decide +kernel
theorem dX8_swap_74 : decode cX8_swap 74 = .ok (.getfield 35, 3) := by decide +kernel
theorem dX8_swap_77 : decode cX8_swap 77 = .ok (.bipush 31, 2) := by decide +kernel
theorem dX8_swap_79 : decode cX8_swap 79 = .ok (.dup2, 1) := by decide +kernel
theorem dX8_swap_80 : decode cX8_swap 80 = .ok (.iaload, 1) := by decide +kernel
theorem dX8_swap_81 : decode cX8_swap 81 = .ok (.iconst 1, 1) := by decide +kernel
theorem dX8_swap_82 : decode cX8_swap 82 = .ok (.iadd, 1) := by decide +kernel
theorem dX8_swap_83 : decode cX8_swap 83 = .ok (.iastore, 1) := by decide +kernel
theorem dX8_swap_84 : decode cX8_swap 84 = .ok (.aload_n 0, 1) := by decide +kernel
theorem dX8_swap_85 : decode cX8_swap 85 = .ok (.getfield 35, 3) := by decide +kernel
theorem dX8_swap_88 : decode cX8_swap 88 = .ok (.bipush 31, 2) := by decide +kernel
theorem dX8_swap_90 : decode cX8_swap 90 = .ok (.iaload, 1) := by decide +kernel
theorem dX8_swap_91 : decode cX8_swap 91 = .ok (.ireturn, 1) := by decide +kernel
theorem dX8_back_0 : decode cX8_back 0 = .ok (.aload_n 0, 1) := by decide +kernel
theorem dX8_back_1 : decode cX8_back 1 = .ok (.iconst 0, 1) := by decide +kernel
theorem dX8_back_2 : decode cX8_back 2 = .ok (.putfield 69, 3) := by decide +kernel
theorem dX8_back_5 : decode cX8_back 5 = .ok (.aload_n 0, 1) := by decide +kernel
theorem dX8_back_6 : decode cX8_back 6 = .ok (.getfield 35, 3) := by decide +kernel
theorem dX8_back_9 : decode cX8_back 9 = .ok (.bipush 31, 2) := by decide +kernel
theorem dX8_back_11 : decode cX8_back 11 = .ok (.iaload, 1) := by decide +kernel
theorem dX8_back_12 : decode cX8_back 12 = .ok (.ifCond .ne 6, 3) := by decide +kernel
theorem dX8_back_15 : decode cX8_back 15 = .ok (.bipush (-3), 2) := by decide +kernel
theorem dX8_back_17 : decode cX8_back 17 = .ok (.ireturn, 1) := by decide +kernel
theorem dX8_back_18 : decode cX8_back 18 = .ok (.aload_n 0, 1) := by decide +kernel
theorem dX8_back_19 : decode cX8_back 19 = .ok (.invokevirtual 190, 3) := by decide +kernel
theorem dX8_back_22 : decode cX8_back 22 = .ok (.aload_n 0, 1) := by decide +kernel
theorem dX8_back_23 : decode cX8_back 23 = .ok (.getfield 35, 3) := by decide +kernel
theorem dX8_back_26 : decode cX8_back 26 = .ok (.bipush 31, 2) := by decide +kernel
theorem dX8_back_28 : decode cX8_back 28 = .ok (.dup2, 1) := by decide +kernel
theorem dX8_back_29 : decode cX8_back 29 = .ok (.iaload, 1) := by decide +kernel
theorem dX8_back_30 : decode cX8_back 30 = .ok (.iconst 1, 1) := by decide +kernel
theorem dX8_back_31 : decode cX8_back 31 = .ok (.isub, 1) := by decide +kernel
theorem dX8_back_32 : decode cX8_back 32 = .ok (.iastore, 1) := by decide +kernel
theorem dX8_back_33 : decode cX8_back 33 = .ok (.aload_n 0, 1) := by decide +kernel
theorem dX8_back_34 : decode cX8_back 34 = .ok (.getfield 35, 3) := by decide +kernel
theorem dX8_back_37 : decode cX8_back 37 = .ok (.bipush 31, 2) := by decide +kernel
theorem dX8_back_39 : decode cX8_back 39 = .ok (.iaload, 1) := by decide +kernel
theorem dX8_back_40 : decode cX8_back 40 = .ok (.ireturn, 1) := by decide +kernel
theorem dX8_undo_0 : decode cX8_undo 0 = .ok (.aload_n 0, 1) := by decide +kernel
theorem dX8_undo_1 : decode cX8_undo 1 = .ok (.iconst 0, 1) := by decide +kernel
theorem dX8_undo_2 : decode cX8_undo 2 = .ok (.putfield 69, 3) := by decide +kernel
theorem dX8_undo_5 : decode cX8_undo 5 = .ok (.aload_n 0, 1) := by decide +kernel
theorem dX8_undo_6 : decode cX8_undo 6 = .ok (.getfield 121, 3) := by decide +kernel
theorem dX8_undo_9 : decode cX8_undo 9 = .ok (.ifCond .ne 6, 3) := by decide +kernel
theorem dX8_undo_12 : decode cX8_undo 12 = .ok (.bipush (-3), 2) := by decide +kernel
theorem dX8_undo_14 : decode cX8_undo 14 = .ok (.ireturn, 1) := by decide +kernel
theorem dX8_undo_15 : decode cX8_undo 15 = .ok (.aload_n 0, 1) := by decide +kernel
theorem dX8_undo_16 : decode cX8_undo 16 = .ok (.dup, 1) := by decide +kernel
theorem dX8_undo_17 : decode cX8_undo 17 = .ok (.getfield 121, 3) := by decide +kernel
theorem dX8_undo_20 : decode cX8_undo 20 = .ok (.iconst 1, 1) := by decide +kernel
theorem dX8_undo_21 : decode cX8_undo 21 = .ok (.isub, 1) := by decide +kernel
theorem dX8_undo_22 : decode cX8_undo 22 = .ok (.putfield 121, 3) := by decide +kernel
theorem dX8_undo_25 : decode cX8_undo 25 = .ok (.iconst 0, 1) := by decide +kernel
theorem dX8_undo_26 : decode cX8_undo 26 = .ok (.istore_n 1, 1) := by decide +kernel
theorem dX8_undo_27 : decode cX8_undo 27 = .ok (.iload_n 1, 1) := by decide +kernel
theorem dX8_undo_28 : decode cX8_undo 28 = .ok (.bipush 40, 2) := by decide +kernel
theorem dX8_undo_30 : decode cX8_undo 30 = .ok (.if_icmp .ge 29, 3) := by decide +kernel
theorem dX8_undo_33 : decode cX8_undo 33 = .ok (.aload_n 0, 1) := by decide +kernel
theorem dX8_undo_34 : decode cX8_undo 34 = .ok (.getfield 35, 3) := by decide +kernel
theorem dX8_undo_37 : decode cX8_undo 37 = .ok (.iload_n 1, 1) := by decide +kernel
theorem dX8_undo_38 : decode cX8_undo 38 = .ok (.aload_n 0, 1) := by decide +kernel
theorem dX8_undo_39 : decode cX8_undo 39 = .ok (.getfield 41, 3) := by decide +kernel
theorem dX8_undo_42 : decode cX8_undo 42 = .ok (.bipush 40, 2) := by decide +kernel
theorem dX8_undo_44 : decode cX8_undo 44 = .ok (.aload_n 0, 1) := by decide +kernel
theorem dX8_undo_45 : decode cX8_undo 45 = .ok (.getfield 121, 3) := by decide +kernel
theorem dX8_undo_48 : decode cX8_undo 48 = .ok (.imul, 1) := by decide +kernel
theorem dX8_undo_49 : decode cX8_undo 49 = .ok (.iload_n 1, 1) := by decide +kernel
theorem dX8_undo_50 : decode cX8_undo 50 = .ok (.iadd, 1) := by decide +kernel
theorem dX8_undo_51 : decode cX8_undo 51 = .ok (.iaload, 1) := by decide +kernel
theorem dX8_undo_52 : decode cX8_undo 52 = .ok (.iastore, 1) := by decide +kernel
theorem dX8_undo_53 : decode cX8_undo 53 = .ok (.iinc 1 1, 3) := by decide +kernel
theorem dX8_undo_56 : decode cX8_undo 56 = .ok (.goto (-29), 3) := by decide +kernel
theorem dX8_undo_59 : decode cX8_undo 59 = .ok (.aload_n 0, 1) := by decide +kernel
theorem dX8_undo_60 : decode cX8_undo 60 = .ok (.getfield 121, 3) := by decide +kernel
theorem dX8_undo_63 : decode cX8_undo 63 = .ok (.ireturn, 1) := by decide +kernel
theorem dX8_exposed_0 : decode cX8_exposed 0 = .ok (.aload_n 0, 1) := by decide +kernel
theorem dX8_exposed_1 : decode cX8_exposed 1 = .ok (.iconst 0, 1) := by decide +kernel
theorem dX8_exposed_2 : decode cX8_exposed 2 = .ok (.putfield 69, 3) := by decide +kernel
theorem dX8_exposed_5 : decode cX8_exposed 5 = .ok (.aload_n 0, 1) := by decide +kernel
theorem dX8_exposed_6 : decode cX8_exposed 6 = .ok (.iload_n 1, 1) := by decide +kernel
theorem dX8_exposed_7 : decode cX8_exposed 7 = .ok (.invokevirtual 173, 3) := by decide +kernel
theorem dX8_exposed_10 : decode cX8_exposed 10 = .ok (.ifCond .eq 5, 3) := by decide +kernel
theorem dX8_exposed_13 : decode cX8_exposed 13 = .ok (.iconst (-1), 1) := by decide +kernel
theorem dX8_exposed_14 : decode cX8_exposed 14 = .ok (.ireturn, 1) := by decide +kernel
theorem dX8_exposed_15 : decode cX8_exposed 15 = .ok (.iload_n 2, 1) := by decide +kernel
theorem dX8_exposed_16 : decode cX8_exposed 16 = .ok (.invokestatic 183, 3) := by decide +kernel
theorem dX8_exposed_19 : decode cX8_exposed 19 = .ok (.ifCond .eq 16, 3) := by decide +kernel
theorem dX8_exposed_22 : decode cX8_exposed 22 = .ok (.aload_n 0, 1) := by decide +kernel
theorem dX8_exposed_23 : decode cX8_exposed 23 = .ok (.aload_n 0, 1) := by decide +kernel
theorem dX8_exposed_24 : decode cX8_exposed 24 = .ok (.getfield 35, 3) := by decide +kernel
theorem dX8_exposed_27 : decode cX8_exposed 27 = .ok (.iload_n 1, 1) := by decide +kernel
theorem dX8_exposed_28 : decode cX8_exposed 28 = .ok (.iload_n 2, 1) := by decide +kernel
theorem dX8_exposed_29 : decode cX8_exposed 29 = .ok (.invokevirtual 138, 3) := by decide +kernel
theorem dX8_exposed_32 : decode cX8_exposed 32 = .ok (.goto 5, 3) := by decide +kernel
theorem dX8_exposed_35 : decode cX8_exposed 35 = .ok (.bipush (-2), 2) := by decide +kernel
theorem dX8_exposed_37 : decode cX8_exposed 37 = .ok (.ireturn, 1) := by decide +kernel
theorem dX8_order_0 : decode cX8_order 0 = .ok (.aload_n 0, 1) := by decide +kernel
theorem dX8_order_1 : decode cX8_order 1 = .ok (.iconst 0, 1) := by decide +kernel
theorem dX8_order_2 : decode cX8_order 2 = .ok (.putfield 69, 3) := by decide +kernel
theorem dX8_order_5 : decode cX8_order 5 = .ok (.iload_n 1, 1) := by decide +kernel
theorem dX8_order_6 : decode cX8_order 6 = .ok (.invokestatic 183, 3) := by decide +kernel
theorem dX8_order_9 : decode cX8_order 9 = .ok (.ifCond .eq 15, 3) := by decide +kernel
theorem dX8_order_12 : decode cX8_order 12 = .ok (.aload_n 0, 1) := by decide +kernel
theorem dX8_order_13 : decode cX8_order 13 = .ok (.aload_n 0, 1) := by decide +kernel
theorem dX8_order_14 : decode cX8_order 14 = .ok (.getfield 35, 3) := by decide +kernel
theorem dX8_order_17 : decode cX8_order 17 = .ok (.iload_n 1, 1) := by decide +kernel
theorem dX8_order_18 : decode cX8_order 18 = .ok (.invokevirtual 127, 3) := by decide +kernel
theorem dX8_order_21 : decode cX8_order 21 = .ok (.goto 5, 3) := by decide +kernel
theorem dX8_order_24 : decode cX8_order 24 = .ok (.bipush (-2), 2) := by decide +kernel
theorem dX8_order_26 : decode cX8_order 26 = .ok (.ireturn, 1) := by decide +kernel
theorem dX8_look_0 : decode cX8_look 0 = .ok (.aload_n 0, 1) := by decide +kernel
theorem dX8_look_1 : decode cX8_look 1 = .ok (.iconst 0, 1) := by decide +kernel
theorem dX8_look_2 : decode cX8_look 2 = .ok (.putfield 69, 3) := by decide +kernel
theorem dX8_look_5 : decode cX8_look 5 = .ok (.iload_n 1, 1) := by decide +kernel
theorem dX8_look_6 : decode cX8_look 6 = .ok (.invokestatic 183, 3) := by decide +kernel
theorem dX8_look_9 : decode cX8_look 9 = .ok (.ifCond .eq 34, 3) := by decide +kernel
theorem dX8_look_12 : decode cX8_look 12 = .ok (.iload_n 2, 1) := by decide +kernel
theorem dX8_look_13 : decode cX8_look 13 = .ok (.i2l, 1) := by decide +kernel
theorem dX8_look_14 : decode cX8_look 14 = .ok (.lconst 0, 1) := by decide +kernel
theorem dX8_look_15 : decode cX8_look 15 = .ok (.ldc2_w 186, 3) := by decide +kernel
theorem dX8_look_18 : decode cX8_look 18 = .ok (.invokestatic 76, 3) := by decide +kernel
theorem dX8_look_21 : decode cX8_look 21 = .ok (.ifCond .eq 22, 3) := by decide +kernel
theorem dX8_look_24 : decode cX8_look 24 = .ok (.aload_n 0, 1) := by decide +kernel
theorem dX8_look_25 : decode cX8_look 25 = .ok (.aload_n 0, 1) := by decide +kernel
theorem dX8_look_26 : decode cX8_look 26 = .ok (.getfield 35, 3) := by decide +kernel
theorem dX8_look_29 : decode cX8_look 29 = .ok (.iload_n 1, 1) := by decide +kernel
theorem dX8_look_30 : decode cX8_look 30 = .ok (.iload_n 2, 1) := by decide +kernel
theorem dX8_look_31 : decode cX8_look 31 = .ok (.aload_n 0, 1) := by decide +kernel
theorem dX8_look_32 : decode cX8_look 32 = .ok (.invokevirtual 147, 3) := by decide +kernel
theorem dX8_look_35 : decode cX8_look 35 = .ok (.bipush (-9), 2) := by decide +kernel
theorem dX8_look_37 : decode cX8_look 37 = .ok (.invokevirtual 150, 3) := by decide +kernel
theorem dX8_look_40 : decode cX8_look 40 = .ok (.goto 5, 3) := by decide +kernel
theorem dX8_look_43 : decode cX8_look 43 = .ok (.bipush (-2), 2) := by decide +kernel
theorem dX8_look_45 : decode cX8_look 45 = .ok (.ireturn, 1) := by decide +kernel
theorem dX8_ask_0 : decode cX8_ask 0 = .ok (.aload_n 0, 1) := by decide +kernel
theorem dX8_ask_1 : decode cX8_ask 1 = .ok (.iconst 0, 1) := by decide +kernel
theorem dX8_ask_2 : decode cX8_ask 2 = .ok (.putfield 69, 3) := by decide +kernel
theorem dX8_ask_5 : decode cX8_ask 5 = .ok (.iload_n 1, 1) := by decide +kernel
theorem dX8_ask_6 : decode cX8_ask 6 = .ok (.ifCond .ne 10, 3) := by decide +kernel
theorem dX8_ask_9 : decode cX8_ask 9 = .ok (.aload_n 0, 1) := by decide +kernel
theorem dX8_ask_10 : decode cX8_ask 10 = .ok (.invokevirtual 202, 3) := by decide +kernel
theorem dX8_ask_13 : decode cX8_ask 13 = .ok (.goto 21, 3) := by decide +kernel
theorem dX8_ask_16 : decode cX8_ask 16 = .ok (.iload_n 1, 1) := by decide +kernel
theorem dX8_ask_17 : decode cX8_ask 17 = .ok (.iconst 1, 1) := by decide +kernel
theorem dX8_ask_18 : decode cX8_ask 18 = .ok (.if_icmp .ne 14, 3) := by decide +kernel
theorem dX8_ask_21 : decode cX8_ask 21 = .ok (.aload_n 0, 1) := by decide +kernel
theorem dX8_ask_22 : decode cX8_ask 22 = .ok (.aload_n 0, 1) := by decide +kernel
theorem dX8_ask_23 : decode cX8_ask 23 = .ok (.getfield 35, 3) := by decide +kernel
theorem dX8_ask_26 : decode cX8_ask 26 = .ok (.invokevirtual 165, 3) := by decide +kernel
theorem dX8_ask_29 : decode cX8_ask 29 = .ok (.goto 5, 3) := by decide +kernel
theorem dX8_ask_32 : decode cX8_ask 32 = .ok (.bipush (-2), 2) := by decide +kernel
theorem dX8_ask_34 : decode cX8_ask 34 = .ok (.ireturn, 1) := by decide +kernel
theorem dX8_does_0 : decode cX8_does 0 = .ok (.bipush 10, 2) := by decide +kernel
theorem dX8_does_2 : decode cX8_does 2 = .ok (.iload_n 2, 1) := by decide +kernel
theorem dX8_does_3 : decode cX8_does 3 = .ok (.imul, 1) := by decide +kernel
theorem dX8_does_4 : decode cX8_does 4 = .ok (.iload_n 3, 1) := by decide +kernel
theorem dX8_does_5 : decode cX8_does 5 = .ok (.iadd, 1) := by decide +kernel
theorem dX8_does_6 : decode cX8_does 6 = .ok (.istore 5, 2) := by decide +kernel
theorem dX8_does_8 : decode cX8_does 8 = .ok (.iload_n 1, 1) := by decide +kernel
theorem dX8_does_9 : decode cX8_does 9 = .ok (.tableswitch 308 1 7 #[43, 70, 110, 147, 192, 220, 270], 43) := by decide +kernel
theorem dX8_does_52 : decode cX8_does 52 = .ok (.aload_n 0, 1) := by decide +kernel
theorem dX8_does_53 : decode cX8_does 53 = .ok (.iload_n 2, 1) := by decide +kernel
theorem dX8_does_54 : decode cX8_does 54 = .ok (.invokevirtual 173, 3) := by decide +kernel
theorem dX8_does_57 : decode cX8_does 57 = .ok (.ifCond .ne 7, 3) := by decide +kernel
theorem dX8_does_60 : decode cX8_does 60 = .ok (.iload_n 3, 1) := by decide +kernel
theorem dX8_does_61 : decode cX8_does 61 = .ok (.ifCond .eq 5, 3) := by decide +kernel
theorem dX8_does_64 : decode cX8_does 64 = .ok (.iconst 0, 1) := by decide +kernel
theorem dX8_does_65 : decode cX8_does 65 = .ok (.ireturn, 1) := by decide +kernel
theorem dX8_does_66 : decode cX8_does 66 = .ok (.aload_n 0, 1) := by decide +kernel
theorem dX8_does_67 : decode cX8_does 67 = .ok (.getfield 38, 3) := by decide +kernel
theorem dX8_does_70 : decode cX8_does 70 = .ok (.bipush 12, 2) := by decide +kernel
theorem dX8_does_72 : decode cX8_does 72 = .ok (.iload_n 2, 1) := by decide +kernel
theorem dX8_does_73 : decode cX8_does 73 = .ok (.iadd, 1) := by decide +kernel
theorem dX8_does_74 : decode cX8_does 74 = .ok (.iload 4, 2) := by decide +kernel
theorem dX8_does_76 : decode cX8_does 76 = .ok (.iastore, 1) := by decide +kernel
theorem dX8_does_77 : decode cX8_does 77 = .ok (.iconst 1, 1) := by decide +kernel
theorem dX8_does_78 : decode cX8_does 78 = .ok (.ireturn, 1) := by decide +kernel
theorem dX8_does_79 : decode cX8_does 79 = .ok (.iload 5, 2) := by decide +kernel
theorem dX8_does_81 : decode cX8_does 81 = .ok (.invokestatic 183, 3) := by decide +kernel
theorem dX8_does_84 : decode cX8_does 84 = .ok (.ifCond .eq 33, 3) := by decide +kernel
theorem dX8_does_87 : decode cX8_does 87 = .ok (.aload_n 0, 1) := by decide +kernel
theorem dX8_does_88 : decode cX8_does 88 = .ok (.iload 4, 2) := by decide +kernel
theorem dX8_does_90 : decode cX8_does 90 = .ok (.invokevirtual 173, 3) := by decide +kernel
theorem dX8_does_93 : decode cX8_does 93 = .ok (.ifCond .ne 24, 3) := by decide +kernel
theorem dX8_does_96 : decode cX8_does 96 = .ok (.aload_n 0, 1) := by decide +kernel
theorem dX8_does_97 : decode cX8_does 97 = .ok (.aload_n 0, 1) := by decide +kernel
theorem dX8_does_98 : decode cX8_does 98 = .ok (.getfield 38, 3) := by decide +kernel
theorem dX8_does_101 : decode cX8_does 101 = .ok (.iload 4, 2) := by decide +kernel
theorem dX8_does_103 : decode cX8_does 103 = .ok (.iload 5, 2) := by decide +kernel
theorem dX8_does_105 : decode cX8_does 105 = .ok (.invokevirtual 138, 3) := by decide +kernel
theorem dX8_does_108 : decode cX8_does 108 = .ok (.bipush (-9), 2) := by decide +kernel
theorem dX8_does_110 : decode cX8_does 110 = .ok (.if_icmp .eq 7, 3) := by decide +kernel
theorem dX8_does_113 : decode cX8_does 113 = .ok (.iconst 1, 1) := by decide +kernel
theorem dX8_does_114 : decode cX8_does 114 = .ok (.goto 4, 3) := by decide +kernel
theorem dX8_does_117 : decode cX8_does 117 = .ok (.iconst 0, 1) := by decide +kernel
theorem dX8_does_118 : decode cX8_does 118 = .ok (.ireturn, 1) := by decide +kernel
theorem dX8_does_119 : decode cX8_does 119 = .ok (.iload 5, 2) := by decide +kernel
theorem dX8_does_121 : decode cX8_does 121 = .ok (.invokestatic 183, 3) := by decide +kernel
theorem dX8_does_124 : decode cX8_does 124 = .ok (.ifCond .eq 30, 3) := by decide +kernel
theorem dX8_does_127 : decode cX8_does 127 = .ok (.aload_n 0, 1) := by decide +kernel
theorem dX8_does_128 : decode cX8_does 128 = .ok (.aload_n 0, 1) := by decide +kernel
theorem dX8_does_129 : decode cX8_does 129 = .ok (.getfield 38, 3) := by decide +kernel
theorem dX8_does_132 : decode cX8_does 132 = .ok (.iload 5, 2) := by decide +kernel
theorem dX8_does_134 : decode cX8_does 134 = .ok (.iload 4, 2) := by decide +kernel
theorem dX8_does_136 : decode cX8_does 136 = .ok (.aload_n 0, 1) := by decide +kernel
theorem dX8_does_137 : decode cX8_does 137 = .ok (.invokevirtual 147, 3) := by decide +kernel
theorem dX8_does_140 : decode cX8_does 140 = .ok (.bipush (-9), 2) := by decide +kernel
theorem dX8_does_142 : decode cX8_does 142 = .ok (.invokevirtual 150, 3) := by decide +kernel
theorem dX8_does_145 : decode cX8_does 145 = .ok (.bipush (-9), 2) := by decide +kernel
theorem dX8_does_147 : decode cX8_does 147 = .ok (.if_icmp .eq 7, 3) := by decide +kernel
theorem dX8_does_150 : decode cX8_does 150 = .ok (.iconst 1, 1) := by decide +kernel
theorem dX8_does_151 : decode cX8_does 151 = .ok (.goto 4, 3) := by decide +kernel
theorem dX8_does_154 : decode cX8_does 154 = .ok (.iconst 0, 1) := by decide +kernel
theorem dX8_does_155 : decode cX8_does 155 = .ok (.ireturn, 1) := by decide +kernel
theorem dX8_does_156 : decode cX8_does 156 = .ok (.aload_n 0, 1) := by decide +kernel
theorem dX8_does_157 : decode cX8_does 157 = .ok (.iload_n 2, 1) := by decide +kernel
theorem dX8_does_158 : decode cX8_does 158 = .ok (.invokevirtual 169, 3) := by decide +kernel
theorem dX8_does_161 : decode cX8_does 161 = .ok (.ifCond .ne 16, 3) := by decide +kernel
theorem dX8_does_164 : decode cX8_does 164 = .ok (.iload 4, 2) := by decide +kernel
theorem dX8_does_166 : decode cX8_does 166 = .ok (.i2l, 1) := by decide +kernel
theorem dX8_does_167 : decode cX8_does 167 = .ok (.lconst 1, 1) := by decide +kernel
theorem dX8_does_168 : decode cX8_does 168 = .ok (.ldc2_w 188, 3) := by decide +kernel
theorem dX8_does_171 : decode cX8_does 171 = .ok (.invokestatic 76, 3) := by decide +kernel
theorem dX8_does_174 : decode cX8_does 174 = .ok (.ifCond .ne 5, 3) := by decide +kernel
theorem dX8_does_177 : decode cX8_does 177 = .ok (.iconst 0, 1) := by decide +kernel
theorem dX8_does_178 : decode cX8_does 178 = .ok (.ireturn, 1) := by decide +kernel
theorem dX8_does_179 : decode cX8_does 179 = .ok (.aload_n 0, 1) := by decide +kernel
theorem dX8_does_180 : decode cX8_does 180 = .ok (.getfield 38, 3) := by decide +kernel
theorem dX8_does_183 : decode cX8_does 183 = .ok (.iconst 0, 1) := by decide +kernel
theorem dX8_does_184 : decode cX8_does 184 = .ok (.iload_n 2, 1) := by decide +kernel
theorem dX8_does_185 : decode cX8_does 185 = .ok (.iadd, 1) := by decide +kernel
theorem dX8_does_186 : decode cX8_does 186 = .ok (.iload_n 3, 1) := by decide +kernel
theorem dX8_does_187 : decode cX8_does 187 = .ok (.iastore, 1) := by decide +kernel
theorem dX8_does_188 : decode cX8_does 188 = .ok (.aload_n 0, 1) := by decide +kernel
theorem dX8_does_189 : decode cX8_does 189 = .ok (.getfield 38, 3) := by decide +kernel
theorem dX8_does_192 : decode cX8_does 192 = .ok (.bipush 6, 2) := by decide +kernel
theorem dX8_does_194 : decode cX8_does 194 = .ok (.iload_n 2, 1) := by decide +kernel
theorem dX8_does_195 : decode cX8_does 195 = .ok (.iadd, 1) := by decide +kernel
theorem dX8_does_196 : decode cX8_does 196 = .ok (.iload 4, 2) := by decide +kernel
theorem dX8_does_198 : decode cX8_does 198 = .ok (.iastore, 1) := by decide +kernel
theorem dX8_does_199 : decode cX8_does 199 = .ok (.iconst 1, 1) := by decide +kernel
theorem dX8_does_200 : decode cX8_does 200 = .ok (.ireturn, 1) := by decide +kernel
theorem dX8_does_201 : decode cX8_does 201 = .ok (.iload_n 2, 1) := by decide +kernel
theorem dX8_does_202 : decode cX8_does 202 = .ok (.ifCond .ne 25, 3) := by decide +kernel
theorem dX8_does_205 : decode cX8_does 205 = .ok (.aload_n 0, 1) := by decide +kernel
theorem dX8_does_206 : decode cX8_does 206 = .ok (.aload_n 0, 1) := by decide +kernel
theorem dX8_does_207 : decode cX8_does 207 = .ok (.getfield 38, 3) := by decide +kernel
theorem dX8_does_210 : decode cX8_does 210 = .ok (.invokevirtual 165, 3) := by decide +kernel
theorem dX8_does_213 : decode cX8_does 213 = .ok (.bipush 10, 2) := by decide +kernel
theorem dX8_does_215 : decode cX8_does 215 = .ok (.iload_n 3, 1) := by decide +kernel
theorem dX8_does_216 : decode cX8_does 216 = .ok (.imul, 1) := by decide +kernel
theorem dX8_does_217 : decode cX8_does 217 = .ok (.iload 4, 2) := by decide +kernel
theorem dX8_does_219 : decode cX8_does 219 = .ok (.iadd, 1) := by decide +kernel
theorem dX8_does_220 : decode cX8_does 220 = .ok (.if_icmp .ne 7, 3) := by decide +kernel
theorem dX8_does_223 : decode cX8_does 223 = .ok (.iconst 1, 1) := by decide +kernel
theorem dX8_does_224 : decode cX8_does 224 = .ok (.goto 4, 3) := by decide +kernel
theorem dX8_does_227 : decode cX8_does 227 = .ok (.iconst 0, 1) := by decide +kernel
theorem dX8_does_228 : decode cX8_does 228 = .ok (.ireturn, 1) := by decide +kernel
theorem dX8_does_229 : decode cX8_does 229 = .ok (.iload 5, 2) := by decide +kernel
theorem dX8_does_231 : decode cX8_does 231 = .ok (.invokestatic 183, 3) := by decide +kernel
theorem dX8_does_234 : decode cX8_does 234 = .ok (.ifCond .eq 43, 3) := by decide +kernel
theorem dX8_does_237 : decode cX8_does 237 = .ok (.aload_n 0, 1) := by decide +kernel
theorem dX8_does_238 : decode cX8_does 238 = .ok (.iload 4, 2) := by decide +kernel
theorem dX8_does_240 : decode cX8_does 240 = .ok (.invokevirtual 173, 3) := by decide +kernel
theorem dX8_does_243 : decode cX8_does 243 = .ok (.ifCond .ne 34, 3) := by decide +kernel
theorem dX8_does_246 : decode cX8_does 246 = .ok (.aload_n 0, 1) := by decide +kernel
theorem dX8_does_247 : decode cX8_does 247 = .ok (.aload_n 0, 1) := by decide +kernel
theorem dX8_does_248 : decode cX8_does 248 = .ok (.getfield 38, 3) := by decide +kernel
theorem dX8_does_251 : decode cX8_does 251 = .ok (.iload 5, 2) := by decide +kernel
theorem dX8_does_253 : decode cX8_does 253 = .ok (.invokevirtual 127, 3) := by decide +kernel
theorem dX8_does_256 : decode cX8_does 256 = .ok (.bipush 10, 2) := by decide +kernel
theorem dX8_does_258 : decode cX8_does 258 = .ok (.aload_n 0, 1) := by decide +kernel
theorem dX8_does_259 : decode cX8_does 259 = .ok (.getfield 73, 3) := by decide +kernel
theorem dX8_does_262 : decode cX8_does 262 = .ok (.iconst 1, 1) := by decide +kernel
theorem dX8_does_263 : decode cX8_does 263 = .ok (.isub, 1) := by decide +kernel
theorem dX8_does_264 : decode cX8_does 264 = .ok (.invokestatic 135, 3) := by decide +kernel
theorem dX8_does_267 : decode cX8_does 267 = .ok (.idiv, 1) := by decide +kernel
theorem dX8_does_268 : decode cX8_does 268 = .ok (.iload 4, 2) := by decide +kernel
theorem dX8_does_270 : decode cX8_does 270 = .ok (.if_icmp .ne 7, 3) := by decide +kernel
theorem dX8_does_273 : decode cX8_does 273 = .ok (.iconst 1, 1) := by decide +kernel
theorem dX8_does_274 : decode cX8_does 274 = .ok (.goto 4, 3) := by decide +kernel
theorem dX8_does_277 : decode cX8_does 277 = .ok (.iconst 0, 1) := by decide +kernel
theorem dX8_does_278 : decode cX8_does 278 = .ok (.ireturn, 1) := by decide +kernel
theorem dX8_does_279 : decode cX8_does 279 = .ok (.iload_n 2, 1) := by decide +kernel
theorem dX8_does_280 : decode cX8_does 280 = .ok (.ifCond .ne 22, 3) := by decide +kernel
theorem dX8_does_283 : decode cX8_does 283 = .ok (.iload_n 3, 1) := by decide +kernel
theorem dX8_does_284 : decode cX8_does 284 = .ok (.ifCond .ne 18, 3) := by decide +kernel
theorem dX8_does_287 : decode cX8_does 287 = .ok (.iload 4, 2) := by decide +kernel
theorem dX8_does_289 : decode cX8_does 289 = .ok (.ifCond .ne 13, 3) := by decide +kernel
theorem dX8_does_292 : decode cX8_does 292 = .ok (.aload_n 0, 1) := by decide +kernel
theorem dX8_does_293 : decode cX8_does 293 = .ok (.getfield 38, 3) := by decide +kernel
theorem dX8_does_296 : decode cX8_does 296 = .ok (.bipush 31, 2) := by decide +kernel
theorem dX8_does_298 : decode cX8_does 298 = .ok (.iaload, 1) := by decide +kernel
theorem dX8_does_299 : decode cX8_does 299 = .ok (.ifCond .ne 5, 3) := by decide +kernel
theorem dX8_does_302 : decode cX8_does 302 = .ok (.iconst 0, 1) := by decide +kernel
theorem dX8_does_303 : decode cX8_does 303 = .ok (.ireturn, 1) := by decide +kernel
theorem dX8_does_304 : decode cX8_does 304 = .ok (.aload_n 0, 1) := by decide +kernel
theorem dX8_does_305 : decode cX8_does 305 = .ok (.getfield 38, 3) := by decide +kernel
theorem dX8_does_308 : decode cX8_does 308 = .ok (.bipush 31, 2) := by decide +kernel
theorem dX8_does_310 : decode cX8_does 310 = .ok (.dup2, 1) := by decide +kernel
theorem dX8_does_311 : decode cX8_does 311 = .ok (.iaload, 1) := by decide +kernel
theorem dX8_does_312 : decode cX8_does 312 = .ok (.iconst 1, 1) := by decide +kernel
theorem dX8_does_313 : decode cX8_does 313 = .ok (.isub, 1) := by decide +kernel
theorem dX8_does_314 : decode cX8_does 314 = .ok (.iastore, 1) := by decide +kernel
theorem dX8_does_315 : decode cX8_does 315 = .ok (.iconst 1, 1) := by decide +kernel
theorem dX8_does_316 : decode cX8_does 316 = .ok (.ireturn, 1) := by decide +kernel
theorem dX8_does_317 : decode cX8_does 317 = .ok (.iconst 0, 1) := by decide +kernel
theorem dX8_does_318 : decode cX8_does 318 = .ok (.ireturn, 1) := by decide +kernel
theorem dX8_longPower_0 : decode cX8_longPower 0 = .ok (.lconst 1, 1) := by decide +kernel
theorem dX8_longPower_1 : decode cX8_longPower 1 = .ok (.lstore_n 3, 1) := by decide +kernel
theorem dX8_longPower_2 : decode cX8_longPower 2 = .ok (.iconst 0, 1) := by decide +kernel
theorem dX8_longPower_3 : decode cX8_longPower 3 = .ok (.istore 5, 2) := by decide +kernel
theorem dX8_longPower_5 : decode cX8_longPower 5 = .ok (.iload 5, 2) := by decide +kernel
theorem dX8_longPower_7 : decode cX8_longPower 7 = .ok (.iload_n 2, 1) := by decide +kernel
theorem dX8_longPower_8 : decode cX8_longPower 8 = .ok (.if_icmp .ge 13, 3) := by decide +kernel
theorem dX8_longPower_11 : decode cX8_longPower 11 = .ok (.lload_n 3, 1) := by decide +kernel
theorem dX8_longPower_12 : decode cX8_longPower 12 = .ok (.lload_n 0, 1) := by decide +kernel
theorem dX8_longPower_13 : decode cX8_longPower 13 = .ok (.lmul, 1) := by decide +kernel
theorem dX8_longPower_14 : decode cX8_longPower 14 = .ok (.lstore_n 3, 1) := by decide +kernel
theorem dX8_longPower_15 : decode cX8_longPower 15 = .ok (.iinc 5 1, 3) := by decide +kernel
theorem dX8_longPower_18 : decode cX8_longPower 18 = .ok (.goto (-13), 3) := by decide +kernel
theorem dX8_longPower_21 : decode cX8_longPower 21 = .ok (.lload_n 3, 1) := by decide +kernel
theorem dX8_longPower_22 : decode cX8_longPower 22 = .ok (.lreturn, 1) := by decide +kernel
theorem dX8_judge_0 : decode cX8_judge 0 = .ok (.aload_n 0, 1) := by decide +kernel
theorem dX8_judge_1 : decode cX8_judge 1 = .ok (.iconst 0, 1) := by decide +kernel
theorem dX8_judge_2 : decode cX8_judge 2 = .ok (.putfield 69, 3) := by decide +kernel
theorem dX8_judge_5 : decode cX8_judge 5 = .ok (.iload_n 1, 1) := by decide +kernel
theorem dX8_judge_6 : decode cX8_judge 6 = .ok (.i2l, 1) := by decide +kernel
theorem dX8_judge_7 : decode cX8_judge 7 = .ok (.lconst 1, 1) := by decide +kernel
theorem dX8_judge_8 : decode cX8_judge 8 = .ok (.ldc2_w 205, 3) := by decide +kernel
theorem dX8_judge_11 : decode cX8_judge 11 = .ok (.invokestatic 76, 3) := by decide +kernel
theorem dX8_judge_14 : decode cX8_judge 14 = .ok (.ifCond .eq 20, 3) := by decide +kernel
theorem dX8_judge_17 : decode cX8_judge 17 = .ok (.lload_n 2, 1) := by decide +kernel
theorem dX8_judge_18 : decode cX8_judge 18 = .ok (.lconst 0, 1) := by decide +kernel
theorem dX8_judge_19 : decode cX8_judge 19 = .ok (.ldc2_w 207, 3) := by decide +kernel
theorem dX8_judge_22 : decode cX8_judge 22 = .ok (.iload_n 1, 1) := by decide +kernel
theorem dX8_judge_23 : decode cX8_judge 23 = .ok (.invokestatic 209, 3) := by decide +kernel
theorem dX8_judge_26 : decode cX8_judge 26 = .ok (.lconst 1, 1) := by decide +kernel
theorem dX8_judge_27 : decode cX8_judge 27 = .ok (.lsub, 1) := by decide +kernel
theorem dX8_judge_28 : decode cX8_judge 28 = .ok (.invokestatic 76, 3) := by decide +kernel
theorem dX8_judge_31 : decode cX8_judge 31 = .ok (.ifCond .ne 6, 3) := by decide +kernel
theorem dX8_judge_34 : decode cX8_judge 34 = .ok (.bipush (-2), 2) := by decide +kernel
theorem dX8_judge_36 : decode cX8_judge 36 = .ok (.ireturn, 1) := by decide +kernel
theorem dX8_judge_37 : decode cX8_judge 37 = .ok (.aload_n 0, 1) := by decide +kernel
theorem dX8_judge_38 : decode cX8_judge 38 = .ok (.invokevirtual 162, 3) := by decide +kernel
theorem dX8_judge_41 : decode cX8_judge 41 = .ok (.iconst 0, 1) := by decide +kernel
theorem dX8_judge_42 : decode cX8_judge 42 = .ok (.istore 4, 2) := by decide +kernel
theorem dX8_judge_44 : decode cX8_judge 44 = .ok (.iload 4, 2) := by decide +kernel
theorem dX8_judge_46 : decode cX8_judge 46 = .ok (.iload_n 1, 1) := by decide +kernel
theorem dX8_judge_47 : decode cX8_judge 47 = .ok (.if_icmp .ge 67, 3) := by decide +kernel
theorem dX8_judge_50 : decode cX8_judge 50 = .ok (.lload_n 2, 1) := by decide +kernel
theorem dX8_judge_51 : decode cX8_judge 51 = .ok (.ldc2_w 207, 3) := by decide +kernel
theorem dX8_judge_54 : decode cX8_judge 54 = .ok (.iload_n 1, 1) := by decide +kernel
theorem dX8_judge_55 : decode cX8_judge 55 = .ok (.iconst 1, 1) := by decide +kernel
theorem dX8_judge_56 : decode cX8_judge 56 = .ok (.isub, 1) := by decide +kernel
theorem dX8_judge_57 : decode cX8_judge 57 = .ok (.iload 4, 2) := by decide +kernel
theorem dX8_judge_59 : decode cX8_judge 59 = .ok (.isub, 1) := by decide +kernel
theorem dX8_judge_60 : decode cX8_judge 60 = .ok (.invokestatic 209, 3) := by decide +kernel
theorem dX8_judge_63 : decode cX8_judge 63 = .ok (.ldiv, 1) := by decide +kernel
theorem dX8_judge_64 : decode cX8_judge 64 = .ok (.ldc2_w 207, 3) := by decide +kernel
theorem dX8_judge_67 : decode cX8_judge 67 = .ok (.lrem, 1) := by decide +kernel
theorem dX8_judge_68 : decode cX8_judge 68 = .ok (.l2i, 1) := by decide +kernel
theorem dX8_judge_69 : decode cX8_judge 69 = .ok (.istore 5, 2) := by decide +kernel
theorem dX8_judge_71 : decode cX8_judge 71 = .ok (.aload_n 0, 1) := by decide +kernel
theorem dX8_judge_72 : decode cX8_judge 72 = .ok (.iload 5, 2) := by decide +kernel
theorem dX8_judge_74 : decode cX8_judge 74 = .ok (.sipush 1000, 3) := by decide +kernel
theorem dX8_judge_77 : decode cX8_judge 77 = .ok (.idiv, 1) := by decide +kernel
theorem dX8_judge_78 : decode cX8_judge 78 = .ok (.iload 5, 2) := by decide +kernel
theorem dX8_judge_80 : decode cX8_judge 80 = .ok (.bipush 100, 2) := by decide +kernel
theorem dX8_judge_82 : decode cX8_judge 82 = .ok (.idiv, 1) := by decide +kernel
theorem dX8_judge_83 : decode cX8_judge 83 = .ok (.bipush 10, 2) := by decide +kernel
theorem dX8_judge_85 : decode cX8_judge 85 = .ok (.irem, 1) := by decide +kernel
theorem dX8_judge_86 : decode cX8_judge 86 = .ok (.iload 5, 2) := by decide +kernel
theorem dX8_judge_88 : decode cX8_judge 88 = .ok (.bipush 10, 2) := by decide +kernel
theorem dX8_judge_90 : decode cX8_judge 90 = .ok (.idiv, 1) := by decide +kernel
theorem dX8_judge_91 : decode cX8_judge 91 = .ok (.bipush 10, 2) := by decide +kernel
theorem dX8_judge_93 : decode cX8_judge 93 = .ok (.irem, 1) := by decide +kernel
theorem dX8_judge_94 : decode cX8_judge 94 = .ok (.iload 5, 2) := by decide +kernel
theorem dX8_judge_96 : decode cX8_judge 96 = .ok (.bipush 10, 2) := by decide +kernel
theorem dX8_judge_98 : decode cX8_judge 98 = .ok (.irem, 1) := by decide +kernel
theorem dX8_judge_99 : decode cX8_judge 99 = .ok (.invokevirtual 213, 3) := by decide +kernel
theorem dX8_judge_102 : decode cX8_judge 102 = .ok (.ifCond .ne 6, 3) := by decide +kernel
theorem dX8_judge_105 : decode cX8_judge 105 = .ok (.iload 4, 2) := by decide +kernel
theorem dX8_judge_107 : decode cX8_judge 107 = .ok (.ireturn, 1) := by decide +kernel
theorem dX8_judge_108 : decode cX8_judge 108 = .ok (.iinc 4 1, 3) := by decide +kernel
theorem dX8_judge_111 : decode cX8_judge 111 = .ok (.goto (-67), 3) := by decide +kernel
theorem dX8_judge_114 : decode cX8_judge 114 = .ok (.bipush (-9), 2) := by decide +kernel
theorem dX8_judge_116 : decode cX8_judge 116 = .ok (.ireturn, 1) := by decide +kernel
theorem dX8_see_0 : decode cX8_see 0 = .ok (.aload_n 0, 1) := by decide +kernel
theorem dX8_see_1 : decode cX8_see 1 = .ok (.iconst 0, 1) := by decide +kernel
theorem dX8_see_2 : decode cX8_see 2 = .ok (.putfield 69, 3) := by decide +kernel
theorem dX8_see_5 : decode cX8_see 5 = .ok (.iload_n 1, 1) := by decide +kernel
theorem dX8_see_6 : decode cX8_see 6 = .ok (.invokestatic 183, 3) := by decide +kernel
theorem dX8_see_9 : decode cX8_see 9 = .ok (.ifCond .eq 33, 3) := by decide +kernel
theorem dX8_see_12 : decode cX8_see 12 = .ok (.iload_n 2, 1) := by decide +kernel
theorem dX8_see_13 : decode cX8_see 13 = .ok (.i2l, 1) := by decide +kernel
theorem dX8_see_14 : decode cX8_see 14 = .ok (.lconst 0, 1) := by decide +kernel
theorem dX8_see_15 : decode cX8_see 15 = .ok (.ldc2_w 186, 3) := by decide +kernel
theorem dX8_see_18 : decode cX8_see 18 = .ok (.invokestatic 76, 3) := by decide +kernel
theorem dX8_see_21 : decode cX8_see 21 = .ok (.ifCond .eq 21, 3) := by decide +kernel
theorem dX8_see_24 : decode cX8_see 24 = .ok (.iload_n 3, 1) := by decide +kernel
theorem dX8_see_25 : decode cX8_see 25 = .ok (.bipush (-9), 2) := by decide +kernel
theorem dX8_see_27 : decode cX8_see 27 = .ok (.if_icmp .eq 18, 3) := by decide +kernel
theorem dX8_see_30 : decode cX8_see 30 = .ok (.iload_n 3, 1) := by decide +kernel
theorem dX8_see_31 : decode cX8_see 31 = .ok (.i2l, 1) := by decide +kernel
theorem dX8_see_32 : decode cX8_see 32 = .ok (.lconst 0, 1) := by decide +kernel
theorem dX8_see_33 : decode cX8_see 33 = .ok (.ldc2_w 217, 3) := by decide +kernel
theorem dX8_see_36 : decode cX8_see 36 = .ok (.invokestatic 76, 3) := by decide +kernel
theorem dX8_see_39 : decode cX8_see 39 = .ok (.ifCond .ne 6, 3) := by decide +kernel
theorem dX8_see_42 : decode cX8_see 42 = .ok (.bipush (-2), 2) := by decide +kernel
theorem dX8_see_44 : decode cX8_see 44 = .ok (.ireturn, 1) := by decide +kernel
theorem dX8_see_45 : decode cX8_see 45 = .ok (.aload_n 0, 1) := by decide +kernel
theorem dX8_see_46 : decode cX8_see 46 = .ok (.getfield 219, 3) := by decide +kernel
theorem dX8_see_49 : decode cX8_see 49 = .ok (.bipush 6, 2) := by decide +kernel
theorem dX8_see_51 : decode cX8_see 51 = .ok (.if_icmp .ne 6, 3) := by decide +kernel
theorem dX8_see_54 : decode cX8_see 54 = .ok (.bipush (-4), 2) := by decide +kernel
theorem dX8_see_56 : decode cX8_see 56 = .ok (.ireturn, 1) := by decide +kernel
theorem dX8_see_57 : decode cX8_see 57 = .ok (.aload_n 0, 1) := by decide +kernel
theorem dX8_see_58 : decode cX8_see 58 = .ok (.getfield 50, 3) := by decide +kernel
theorem dX8_see_61 : decode cX8_see 61 = .ok (.aload_n 0, 1) := by decide +kernel
theorem dX8_see_62 : decode cX8_see 62 = .ok (.getfield 219, 3) := by decide +kernel
theorem dX8_see_65 : decode cX8_see 65 = .ok (.iload_n 1, 1) := by decide +kernel
theorem dX8_see_66 : decode cX8_see 66 = .ok (.iastore, 1) := by decide +kernel
theorem dX8_see_67 : decode cX8_see 67 = .ok (.aload_n 0, 1) := by decide +kernel
theorem dX8_see_68 : decode cX8_see 68 = .ok (.getfield 53, 3) := by decide +kernel
theorem dX8_see_71 : decode cX8_see 71 = .ok (.aload_n 0, 1) := by decide +kernel
theorem dX8_see_72 : decode cX8_see 72 = .ok (.getfield 219, 3) := by decide +kernel
theorem dX8_see_75 : decode cX8_see 75 = .ok (.iload_n 2, 1) := by decide +kernel
theorem dX8_see_76 : decode cX8_see 76 = .ok (.iastore, 1) := by decide +kernel
theorem dX8_see_77 : decode cX8_see 77 = .ok (.aload_n 0, 1) := by decide +kernel
theorem dX8_see_78 : decode cX8_see 78 = .ok (.getfield 56, 3) := by decide +kernel
theorem dX8_see_81 : decode cX8_see 81 = .ok (.aload_n 0, 1) := by decide +kernel
theorem dX8_see_82 : decode cX8_see 82 = .ok (.getfield 219, 3) := by decide +kernel
theorem dX8_see_85 : decode cX8_see 85 = .ok (.iload_n 3, 1) := by decide +kernel
theorem dX8_see_86 : decode cX8_see 86 = .ok (.iastore, 1) := by decide +kernel
theorem dX8_see_87 : decode cX8_see 87 = .ok (.aload_n 0, 1) := by decide +kernel
theorem dX8_see_88 : decode cX8_see 88 = .ok (.dup, 1) := by decide +kernel
theorem dX8_see_89 : decode cX8_see 89 = .ok (.getfield 219, 3) := by decide +kernel
theorem dX8_see_92 : decode cX8_see 92 = .ok (.iconst 1, 1) := by decide +kernel
theorem dX8_see_93 : decode cX8_see 93 = .ok (.iadd, 1) := by decide +kernel
theorem dX8_see_94 : decode cX8_see 94 = .ok (.putfield 219, 3) := by decide +kernel
theorem dX8_see_97 : decode cX8_see 97 = .ok (.aload_n 0, 1) := by decide +kernel
theorem dX8_see_98 : decode cX8_see 98 = .ok (.getfield 219, 3) := by decide +kernel
theorem dX8_see_101 : decode cX8_see 101 = .ok (.ireturn, 1) := by decide +kernel
theorem dX8_unsee_0 : decode cX8_unsee 0 = .ok (.aload_n 0, 1) := by decide +kernel
theorem dX8_unsee_1 : decode cX8_unsee 1 = .ok (.iconst 0, 1) := by decide +kernel
theorem dX8_unsee_2 : decode cX8_unsee 2 = .ok (.putfield 69, 3) := by decide +kernel
theorem dX8_unsee_5 : decode cX8_unsee 5 = .ok (.aload_n 0, 1) := by decide +kernel
theorem dX8_unsee_6 : decode cX8_unsee 6 = .ok (.getfield 219, 3) := by decide +kernel
theorem dX8_unsee_9 : decode cX8_unsee 9 = .ok (.istore_n 1, 1) := by decide +kernel
theorem dX8_unsee_10 : decode cX8_unsee 10 = .ok (.aload_n 0, 1) := by decide +kernel
theorem dX8_unsee_11 : decode cX8_unsee 11 = .ok (.iconst 0, 1) := by decide +kernel
theorem dX8_unsee_12 : decode cX8_unsee 12 = .ok (.putfield 219, 3) := by decide +kernel
theorem dX8_unsee_15 : decode cX8_unsee 15 = .ok (.iload_n 1, 1) := by decide +kernel
theorem dX8_unsee_16 : decode cX8_unsee 16 = .ok (.ireturn, 1) := by decide +kernel
theorem dX8_which_0 : decode cX8_which 0 = .ok (.aload_n 0, 1) := by decide +kernel
theorem dX8_which_1 : decode cX8_which 1 = .ok (.iconst 0, 1) := by decide +kernel
theorem dX8_which_2 : decode cX8_which 2 = .ok (.putfield 69, 3) := by decide +kernel
theorem dX8_which_5 : decode cX8_which 5 = .ok (.iconst 0, 1) := by decide +kernel
theorem dX8_which_6 : decode cX8_which 6 = .ok (.istore_n 1, 1) := by decide +kernel
theorem dX8_which_7 : decode cX8_which 7 = .ok (.iconst 0, 1) := by decide +kernel
theorem dX8_which_8 : decode cX8_which 8 = .ok (.istore_n 2, 1) := by decide +kernel
theorem dX8_which_9 : decode cX8_which 9 = .ok (.iload_n 2, 1) := by decide +kernel
theorem dX8_which_10 : decode cX8_which 10 = .ok (.aload_n 0, 1) := by decide +kernel
theorem dX8_which_11 : decode cX8_which 11 = .ok (.getfield 80, 3) := by decide +kernel
theorem dX8_which_14 : decode cX8_which 14 = .ok (.if_icmp .ge 90, 3) := by decide +kernel
theorem dX8_which_17 : decode cX8_which 17 = .ok (.iconst 1, 1) := by decide +kernel
theorem dX8_which_18 : decode cX8_which 18 = .ok (.istore_n 3, 1) := by decide +kernel
theorem dX8_which_19 : decode cX8_which 19 = .ok (.iconst 0, 1) := by decide +kernel
theorem dX8_which_20 : decode cX8_which 20 = .ok (.istore 4, 2) := by decide +kernel
theorem dX8_which_22 : decode cX8_which 22 = .ok (.iload 4, 2) := by decide +kernel
theorem dX8_which_24 : decode cX8_which 24 = .ok (.aload_n 0, 1) := by decide +kernel
theorem dX8_which_25 : decode cX8_which 25 = .ok (.getfield 219, 3) := by decide +kernel
theorem dX8_which_28 : decode cX8_which 28 = .ok (.if_icmp .ge 56, 3) := by decide +kernel
theorem dX8_which_31 : decode cX8_which 31 = .ok (.iload_n 3, 1) := by decide +kernel
theorem dX8_which_32 : decode cX8_which 32 = .ok (.ifCond .eq 44, 3) := by decide +kernel
theorem dX8_which_35 : decode cX8_which 35 = .ok (.aload_n 0, 1) := by decide +kernel
theorem dX8_which_36 : decode cX8_which 36 = .ok (.aload_n 0, 1) := by decide +kernel
theorem dX8_which_37 : decode cX8_which 37 = .ok (.getfield 35, 3) := by decide +kernel
theorem dX8_which_40 : decode cX8_which 40 = .ok (.aload_n 0, 1) := by decide +kernel
theorem dX8_which_41 : decode cX8_which 41 = .ok (.getfield 50, 3) := by decide +kernel
theorem dX8_which_44 : decode cX8_which 44 = .ok (.iload 4, 2) := by decide +kernel
theorem dX8_which_46 : decode cX8_which 46 = .ok (.iaload, 1) := by decide +kernel
theorem dX8_which_47 : decode cX8_which 47 = .ok (.aload_n 0, 1) := by decide +kernel
theorem dX8_which_48 : decode cX8_which 48 = .ok (.getfield 53, 3) := by decide +kernel
theorem dX8_which_51 : decode cX8_which 51 = .ok (.iload 4, 2) := by decide +kernel
theorem dX8_which_53 : decode cX8_which 53 = .ok (.iaload, 1) := by decide +kernel
theorem dX8_which_54 : decode cX8_which 54 = .ok (.aload_n 0, 1) := by decide +kernel
theorem dX8_which_55 : decode cX8_which 55 = .ok (.invokevirtual 147, 3) := by decide +kernel
theorem dX8_which_58 : decode cX8_which 58 = .ok (.iload_n 2, 1) := by decide +kernel
theorem dX8_which_59 : decode cX8_which 59 = .ok (.invokevirtual 150, 3) := by decide +kernel
theorem dX8_which_62 : decode cX8_which 62 = .ok (.aload_n 0, 1) := by decide +kernel
theorem dX8_which_63 : decode cX8_which 63 = .ok (.getfield 56, 3) := by decide +kernel
theorem dX8_which_66 : decode cX8_which 66 = .ok (.iload 4, 2) := by decide +kernel
theorem dX8_which_68 : decode cX8_which 68 = .ok (.iaload, 1) := by decide +kernel
theorem dX8_which_69 : decode cX8_which 69 = .ok (.if_icmp .ne 7, 3) := by decide +kernel
theorem dX8_which_72 : decode cX8_which 72 = .ok (.iconst 1, 1) := by decide +kernel
theorem dX8_which_73 : decode cX8_which 73 = .ok (.goto 4, 3) := by decide +kernel
theorem dX8_which_76 : decode cX8_which 76 = .ok (.iconst 0, 1) := by decide +kernel
theorem dX8_which_77 : decode cX8_which 77 = .ok (.istore_n 3, 1) := by decide +kernel
theorem dX8_which_78 : decode cX8_which 78 = .ok (.iinc 4 1, 3) := by decide +kernel
theorem dX8_which_81 : decode cX8_which 81 = .ok (.goto (-59), 3) := by decide +kernel
theorem dX8_which_84 : decode cX8_which 84 = .ok (.iload_n 1, 1) := by decide +kernel
theorem dX8_which_85 : decode cX8_which 85 = .ok (.iload_n 3, 1) := by decide +kernel
theorem dX8_which_86 : decode cX8_which 86 = .ok (.ifCond .eq 9, 3) := by decide +kernel
theorem dX8_which_89 : decode cX8_which 89 = .ok (.iconst 1, 1) := by decide +kernel
theorem dX8_which_90 : decode cX8_which 90 = .ok (.iload_n 2, 1) := by decide +kernel
theorem dX8_which_91 : decode cX8_which 91 = .ok (.ishl, 1) := by decide +kernel
theorem dX8_which_92 : decode cX8_which 92 = .ok (.goto 4, 3) := by decide +kernel
theorem dX8_which_95 : decode cX8_which 95 = .ok (.iconst 0, 1) := by decide +kernel
theorem dX8_which_96 : decode cX8_which 96 = .ok (.ior, 1) := by decide +kernel
theorem dX8_which_97 : decode cX8_which 97 = .ok (.istore_n 1, 1) := by decide +kernel
theorem dX8_which_98 : decode cX8_which 98 = .ok (.iinc 2 1, 3) := by decide +kernel
theorem dX8_which_101 : decode cX8_which 101 = .ok (.goto (-92), 3) := by decide +kernel
theorem dX8_which_104 : decode cX8_which 104 = .ok (.iload_n 1, 1) := by decide +kernel
theorem dX8_which_105 : decode cX8_which 105 = .ok (.ireturn, 1) := by decide +kernel
theorem dX8_divisor_0 : decode cX8_divisor 0 = .ok (.iload_n 0, 1) := by decide +kernel
theorem dX8_divisor_1 : decode cX8_divisor 1 = .ok (.ifCond .ge 8, 3) := by decide +kernel
theorem dX8_divisor_4 : decode cX8_divisor 4 = .ok (.iload_n 0, 1) := by decide +kernel
theorem dX8_divisor_5 : decode cX8_divisor 5 = .ok (.ineg, 1) := by decide +kernel
theorem dX8_divisor_6 : decode cX8_divisor 6 = .ok (.goto 4, 3) := by decide +kernel
theorem dX8_divisor_9 : decode cX8_divisor 9 = .ok (.iload_n 0, 1) := by decide +kernel
theorem dX8_divisor_10 : decode cX8_divisor 10 = .ok (.istore_n 2, 1) := by decide +kernel
theorem dX8_divisor_11 : decode cX8_divisor 11 = .ok (.iload_n 1, 1) := by decide +kernel
theorem dX8_divisor_12 : decode cX8_divisor 12 = .ok (.istore_n 3, 1) := by decide +kernel
theorem dX8_divisor_13 : decode cX8_divisor 13 = .ok (.iload_n 3, 1) := by decide +kernel
theorem dX8_divisor_14 : decode cX8_divisor 14 = .ok (.ifCond .eq 16, 3) := by decide +kernel
theorem dX8_divisor_17 : decode cX8_divisor 17 = .ok (.iload_n 2, 1) := by decide +kernel
theorem dX8_divisor_18 : decode cX8_divisor 18 = .ok (.iload_n 3, 1) := by decide +kernel
theorem dX8_divisor_19 : decode cX8_divisor 19 = .ok (.irem, 1) := by decide +kernel
theorem dX8_divisor_20 : decode cX8_divisor 20 = .ok (.istore 4, 2) := by decide +kernel
theorem dX8_divisor_22 : decode cX8_divisor 22 = .ok (.iload_n 3, 1) := by decide +kernel
theorem dX8_divisor_23 : decode cX8_divisor 23 = .ok (.istore_n 2, 1) := by decide +kernel
theorem dX8_divisor_24 : decode cX8_divisor 24 = .ok (.iload 4, 2) := by decide +kernel
theorem dX8_divisor_26 : decode cX8_divisor 26 = .ok (.istore_n 3, 1) := by decide +kernel
theorem dX8_divisor_27 : decode cX8_divisor 27 = .ok (.goto (-14), 3) := by decide +kernel
theorem dX8_divisor_30 : decode cX8_divisor 30 = .ok (.iload_n 2, 1) := by decide +kernel
theorem dX8_divisor_31 : decode cX8_divisor 31 = .ok (.ireturn, 1) := by decide +kernel
theorem dX8_fraction_0 : decode cX8_fraction 0 = .ok (.iload_n 0, 1) := by decide +kernel
theorem dX8_fraction_1 : decode cX8_fraction 1 = .ok (.iload_n 1, 1) := by decide +kernel
theorem dX8_fraction_2 : decode cX8_fraction 2 = .ok (.invokestatic 222, 3) := by decide +kernel
theorem dX8_fraction_5 : decode cX8_fraction 5 = .ok (.istore_n 3, 1) := by decide +kernel
theorem dX8_fraction_6 : decode cX8_fraction 6 = .ok (.iload_n 2, 1) := by decide +kernel
theorem dX8_fraction_7 : decode cX8_fraction 7 = .ok (.ifCond .eq 9, 3) := by decide +kernel
theorem dX8_fraction_10 : decode cX8_fraction 10 = .ok (.iload_n 0, 1) := by decide +kernel
theorem dX8_fraction_11 : decode cX8_fraction 11 = .ok (.iload_n 3, 1) := by decide +kernel
theorem dX8_fraction_12 : decode cX8_fraction 12 = .ok (.idiv, 1) := by decide +kernel
theorem dX8_fraction_13 : decode cX8_fraction 13 = .ok (.goto 6, 3) := by decide +kernel
theorem dX8_fraction_16 : decode cX8_fraction 16 = .ok (.iload_n 1, 1) := by decide +kernel
theorem dX8_fraction_17 : decode cX8_fraction 17 = .ok (.iload_n 3, 1) := by decide +kernel
theorem dX8_fraction_18 : decode cX8_fraction 18 = .ok (.idiv, 1) := by decide +kernel
theorem dX8_fraction_19 : decode cX8_fraction 19 = .ok (.ireturn, 1) := by decide +kernel
theorem dX8_factorial_0 : decode cX8_factorial 0 = .ok (.iconst 1, 1) := by decide +kernel
theorem dX8_factorial_1 : decode cX8_factorial 1 = .ok (.istore_n 1, 1) := by decide +kernel
theorem dX8_factorial_2 : decode cX8_factorial 2 = .ok (.iconst 2, 1) := by decide +kernel
theorem dX8_factorial_3 : decode cX8_factorial 3 = .ok (.istore_n 2, 1) := by decide +kernel
theorem dX8_factorial_4 : decode cX8_factorial 4 = .ok (.iload_n 2, 1) := by decide +kernel
theorem dX8_factorial_5 : decode cX8_factorial 5 = .ok (.iload_n 0, 1) := by decide +kernel
theorem dX8_factorial_6 : decode cX8_factorial 6 = .ok (.if_icmp .gt 13, 3) := by decide +kernel
theorem dX8_factorial_9 : decode cX8_factorial 9 = .ok (.iload_n 1, 1) := by decide +kernel
theorem dX8_factorial_10 : decode cX8_factorial 10 = .ok (.iload_n 2, 1) := by decide +kernel
theorem dX8_factorial_11 : decode cX8_factorial 11 = .ok (.imul, 1) := by decide +kernel
theorem dX8_factorial_12 : decode cX8_factorial 12 = .ok (.istore_n 1, 1) := by decide +kernel
theorem dX8_factorial_13 : decode cX8_factorial 13 = .ok (.iinc 2 1, 3) := by decide +kernel
theorem dX8_factorial_16 : decode cX8_factorial 16 = .ok (.goto (-12), 3) := by decide +kernel
theorem dX8_factorial_19 : decode cX8_factorial 19 = .ok (.iload_n 1, 1) := by decide +kernel
theorem dX8_factorial_20 : decode cX8_factorial 20 = .ok (.ireturn, 1) := by decide +kernel
theorem dX8_coveredBy_0 : decode cX8_coveredBy 0 = .ok (.iconst 0, 1) := by decide +kernel
theorem dX8_coveredBy_1 : decode cX8_coveredBy 1 = .ok (.istore_n 2, 1) := by decide +kernel
theorem dX8_coveredBy_2 : decode cX8_coveredBy 2 = .ok (.iconst 0, 1) := by decide +kernel
theorem dX8_coveredBy_3 : decode cX8_coveredBy 3 = .ok (.istore_n 3, 1) := by decide +kernel
theorem dX8_coveredBy_4 : decode cX8_coveredBy 4 = .ok (.iload_n 3, 1) := by decide +kernel
theorem dX8_coveredBy_5 : decode cX8_coveredBy 5 = .ok (.bipush 24, 2) := by decide +kernel
theorem dX8_coveredBy_7 : decode cX8_coveredBy 7 = .ok (.if_icmp .ge 52, 3) := by decide +kernel
theorem dX8_coveredBy_10 : decode cX8_coveredBy 10 = .ok (.iconst 0, 1) := by decide +kernel
theorem dX8_coveredBy_11 : decode cX8_coveredBy 11 = .ok (.istore 4, 2) := by decide +kernel
theorem dX8_coveredBy_13 : decode cX8_coveredBy 13 = .ok (.iload 4, 2) := by decide +kernel
theorem dX8_coveredBy_15 : decode cX8_coveredBy 15 = .ok (.bipush 10, 2) := by decide +kernel
theorem dX8_coveredBy_17 : decode cX8_coveredBy 17 = .ok (.if_icmp .ge 36, 3) := by decide +kernel
theorem dX8_coveredBy_20 : decode cX8_coveredBy 20 = .ok (.iload_n 2, 1) := by decide +kernel
theorem dX8_coveredBy_21 : decode cX8_coveredBy 21 = .ok (.aload_n 0, 1) := by decide +kernel
theorem dX8_coveredBy_22 : decode cX8_coveredBy 22 = .ok (.aload_n 0, 1) := by decide +kernel
theorem dX8_coveredBy_23 : decode cX8_coveredBy 23 = .ok (.getfield 35, 3) := by decide +kernel
theorem dX8_coveredBy_26 : decode cX8_coveredBy 26 = .ok (.iload_n 3, 1) := by decide +kernel
theorem dX8_coveredBy_27 : decode cX8_coveredBy 27 = .ok (.iload 4, 2) := by decide +kernel
theorem dX8_coveredBy_29 : decode cX8_coveredBy 29 = .ok (.iload_n 1, 1) := by decide +kernel
theorem dX8_coveredBy_30 : decode cX8_coveredBy 30 = .ok (.bipush (-9), 2) := by decide +kernel
theorem dX8_coveredBy_32 : decode cX8_coveredBy 32 = .ok (.invokevirtual 150, 3) := by decide +kernel
theorem dX8_coveredBy_35 : decode cX8_coveredBy 35 = .ok (.bipush (-9), 2) := by decide +kernel
theorem dX8_coveredBy_37 : decode cX8_coveredBy 37 = .ok (.if_icmp .eq 7, 3) := by decide +kernel
theorem dX8_coveredBy_40 : decode cX8_coveredBy 40 = .ok (.iconst 1, 1) := by decide +kernel
theorem dX8_coveredBy_41 : decode cX8_coveredBy 41 = .ok (.goto 4, 3) := by decide +kernel
theorem dX8_coveredBy_44 : decode cX8_coveredBy 44 = .ok (.iconst 0, 1) := by decide +kernel
theorem dX8_coveredBy_45 : decode cX8_coveredBy 45 = .ok (.iadd, 1) := by decide +kernel
theorem dX8_coveredBy_46 : decode cX8_coveredBy 46 = .ok (.istore_n 2, 1) := by decide +kernel
theorem dX8_coveredBy_47 : decode cX8_coveredBy 47 = .ok (.iinc 4 1, 3) := by decide +kernel
theorem dX8_coveredBy_50 : decode cX8_coveredBy 50 = .ok (.goto (-37), 3) := by decide +kernel
theorem dX8_coveredBy_53 : decode cX8_coveredBy 53 = .ok (.iinc 3 1, 3) := by decide +kernel
theorem dX8_coveredBy_56 : decode cX8_coveredBy 56 = .ok (.goto (-52), 3) := by decide +kernel
theorem dX8_coveredBy_59 : decode cX8_coveredBy 59 = .ok (.iload_n 2, 1) := by decide +kernel
theorem dX8_coveredBy_60 : decode cX8_coveredBy 60 = .ok (.ireturn, 1) := by decide +kernel
theorem dX8_share_0 : decode cX8_share 0 = .ok (.aload_n 0, 1) := by decide +kernel
theorem dX8_share_1 : decode cX8_share 1 = .ok (.iconst 0, 1) := by decide +kernel
theorem dX8_share_2 : decode cX8_share 2 = .ok (.putfield 69, 3) := by decide +kernel
theorem dX8_share_5 : decode cX8_share 5 = .ok (.aload_n 0, 1) := by decide +kernel
theorem dX8_share_6 : decode cX8_share 6 = .ok (.iload_n 1, 1) := by decide +kernel
theorem dX8_share_7 : decode cX8_share 7 = .ok (.invokevirtual 173, 3) := by decide +kernel
theorem dX8_share_10 : decode cX8_share 10 = .ok (.ifCond .eq 5, 3) := by decide +kernel
theorem dX8_share_13 : decode cX8_share 13 = .ok (.iconst (-1), 1) := by decide +kernel
theorem dX8_share_14 : decode cX8_share 14 = .ok (.ireturn, 1) := by decide +kernel
theorem dX8_share_15 : decode cX8_share 15 = .ok (.iconst 0, 1) := by decide +kernel
theorem dX8_share_16 : decode cX8_share 16 = .ok (.istore_n 3, 1) := by decide +kernel
theorem dX8_share_17 : decode cX8_share 17 = .ok (.iconst 0, 1) := by decide +kernel
theorem dX8_share_18 : decode cX8_share 18 = .ok (.istore 4, 2) := by decide +kernel
theorem dX8_share_20 : decode cX8_share 20 = .ok (.iload 4, 2) := by decide +kernel
theorem dX8_share_22 : decode cX8_share 22 = .ok (.aload_n 0, 1) := by decide +kernel
theorem dX8_share_23 : decode cX8_share 23 = .ok (.invokevirtual 147, 3) := by decide +kernel
theorem dX8_share_26 : decode cX8_share 26 = .ok (.if_icmp .gt 68, 3) := by decide +kernel
theorem dX8_share_29 : decode cX8_share 29 = .ok (.iload 4, 2) := by decide +kernel
theorem dX8_share_31 : decode cX8_share 31 = .ok (.invokestatic 225, 3) := by decide +kernel
theorem dX8_share_34 : decode cX8_share 34 = .ok (.istore 5, 2) := by decide +kernel
theorem dX8_share_36 : decode cX8_share 36 = .ok (.iload_n 3, 1) := by decide +kernel
theorem dX8_share_37 : decode cX8_share 37 = .ok (.iload 4, 2) := by decide +kernel
theorem dX8_share_39 : decode cX8_share 39 = .ok (.iload_n 1, 1) := by decide +kernel
theorem dX8_share_40 : decode cX8_share 40 = .ok (.invokestatic 141, 3) := by decide +kernel
theorem dX8_share_43 : decode cX8_share 43 = .ok (.ifCond .eq 7, 3) := by decide +kernel
theorem dX8_share_46 : decode cX8_share 46 = .ok (.iconst 0, 1) := by decide +kernel
theorem dX8_share_47 : decode cX8_share 47 = .ok (.goto 39, 3) := by decide +kernel
theorem dX8_share_50 : decode cX8_share 50 = .ok (.iload 5, 2) := by decide +kernel
theorem dX8_share_52 : decode cX8_share 52 = .ok (.invokestatic 228, 3) := by decide +kernel
theorem dX8_share_55 : decode cX8_share 55 = .ok (.aload_n 0, 1) := by decide +kernel
theorem dX8_share_56 : decode cX8_share 56 = .ok (.getfield 73, 3) := by decide +kernel
theorem dX8_share_59 : decode cX8_share 59 = .ok (.iconst 1, 1) := by decide +kernel
theorem dX8_share_60 : decode cX8_share 60 = .ok (.isub, 1) := by decide +kernel
theorem dX8_share_61 : decode cX8_share 61 = .ok (.iload 5, 2) := by decide +kernel
theorem dX8_share_63 : decode cX8_share 63 = .ok (.isub, 1) := by decide +kernel
theorem dX8_share_64 : decode cX8_share 64 = .ok (.invokestatic 228, 3) := by decide +kernel
theorem dX8_share_67 : decode cX8_share 67 = .ok (.imul, 1) := by decide +kernel
theorem dX8_share_68 : decode cX8_share 68 = .ok (.aload_n 0, 1) := by decide +kernel
theorem dX8_share_69 : decode cX8_share 69 = .ok (.iload 4, 2) := by decide +kernel
theorem dX8_share_71 : decode cX8_share 71 = .ok (.iconst 1, 1) := by decide +kernel
theorem dX8_share_72 : decode cX8_share 72 = .ok (.iload_n 1, 1) := by decide +kernel
theorem dX8_share_73 : decode cX8_share 73 = .ok (.ishl, 1) := by decide +kernel
theorem dX8_share_74 : decode cX8_share 74 = .ok (.ior, 1) := by decide +kernel
theorem dX8_share_75 : decode cX8_share 75 = .ok (.invokevirtual 231, 3) := by decide +kernel
theorem dX8_share_78 : decode cX8_share 78 = .ok (.aload_n 0, 1) := by decide +kernel
theorem dX8_share_79 : decode cX8_share 79 = .ok (.iload 4, 2) := by decide +kernel
theorem dX8_share_81 : decode cX8_share 81 = .ok (.invokevirtual 231, 3) := by decide +kernel
theorem dX8_share_84 : decode cX8_share 84 = .ok (.isub, 1) := by decide +kernel
theorem dX8_share_85 : decode cX8_share 85 = .ok (.imul, 1) := by decide +kernel
theorem dX8_share_86 : decode cX8_share 86 = .ok (.iadd, 1) := by decide +kernel
theorem dX8_share_87 : decode cX8_share 87 = .ok (.istore_n 3, 1) := by decide +kernel
theorem dX8_share_88 : decode cX8_share 88 = .ok (.iinc 4 1, 3) := by decide +kernel
theorem dX8_share_91 : decode cX8_share 91 = .ok (.goto (-71), 3) := by decide +kernel
theorem dX8_share_94 : decode cX8_share 94 = .ok (.iload_n 3, 1) := by decide +kernel
theorem dX8_share_95 : decode cX8_share 95 = .ok (.aload_n 0, 1) := by decide +kernel
theorem dX8_share_96 : decode cX8_share 96 = .ok (.getfield 73, 3) := by decide +kernel
theorem dX8_share_99 : decode cX8_share 99 = .ok (.invokestatic 228, 3) := by decide +kernel
theorem dX8_share_102 : decode cX8_share 102 = .ok (.iload_n 2, 1) := by decide +kernel
theorem dX8_share_103 : decode cX8_share 103 = .ok (.invokestatic 234, 3) := by decide +kernel
theorem dX8_share_106 : decode cX8_share 106 = .ok (.ireturn, 1) := by decide +kernel
theorem dX8_lost_0 : decode cX8_lost 0 = .ok (.aload_n 0, 1) := by decide +kernel
theorem dX8_lost_1 : decode cX8_lost 1 = .ok (.iconst 0, 1) := by decide +kernel
theorem dX8_lost_2 : decode cX8_lost 2 = .ok (.putfield 69, 3) := by decide +kernel
theorem dX8_lost_5 : decode cX8_lost 5 = .ok (.iload_n 1, 1) := by decide +kernel
theorem dX8_lost_6 : decode cX8_lost 6 = .ok (.invokestatic 183, 3) := by decide +kernel
theorem dX8_lost_9 : decode cX8_lost 9 = .ok (.ifCond .eq 27, 3) := by decide +kernel
theorem dX8_lost_12 : decode cX8_lost 12 = .ok (.iload_n 2, 1) := by decide +kernel
theorem dX8_lost_13 : decode cX8_lost 13 = .ok (.i2l, 1) := by decide +kernel
theorem dX8_lost_14 : decode cX8_lost 14 = .ok (.lconst 0, 1) := by decide +kernel
theorem dX8_lost_15 : decode cX8_lost 15 = .ok (.ldc2_w 186, 3) := by decide +kernel
theorem dX8_lost_18 : decode cX8_lost 18 = .ok (.invokestatic 76, 3) := by decide +kernel
theorem dX8_lost_21 : decode cX8_lost 21 = .ok (.ifCond .eq 15, 3) := by decide +kernel
theorem dX8_lost_24 : decode cX8_lost 24 = .ok (.iload_n 3, 1) := by decide +kernel
theorem dX8_lost_25 : decode cX8_lost 25 = .ok (.i2l, 1) := by decide +kernel
theorem dX8_lost_26 : decode cX8_lost 26 = .ok (.lconst 0, 1) := by decide +kernel
theorem dX8_lost_27 : decode cX8_lost 27 = .ok (.ldc2_w 238, 3) := by decide +kernel
theorem dX8_lost_30 : decode cX8_lost 30 = .ok (.invokestatic 76, 3) := by decide +kernel
theorem dX8_lost_33 : decode cX8_lost 33 = .ok (.ifCond .ne 6, 3) := by decide +kernel
theorem dX8_lost_36 : decode cX8_lost 36 = .ok (.bipush (-2), 2) := by decide +kernel
theorem dX8_lost_38 : decode cX8_lost 38 = .ok (.ireturn, 1) := by decide +kernel
theorem dX8_lost_39 : decode cX8_lost 39 = .ok (.iconst 0, 1) := by decide +kernel
theorem dX8_lost_40 : decode cX8_lost 40 = .ok (.istore 5, 2) := by decide +kernel
theorem dX8_lost_42 : decode cX8_lost 42 = .ok (.iconst 0, 1) := by decide +kernel
theorem dX8_lost_43 : decode cX8_lost 43 = .ok (.istore 6, 2) := by decide +kernel
theorem dX8_lost_45 : decode cX8_lost 45 = .ok (.iload 6, 2) := by decide +kernel
theorem dX8_lost_47 : decode cX8_lost 47 = .ok (.aload_n 0, 1) := by decide +kernel
theorem dX8_lost_48 : decode cX8_lost 48 = .ok (.invokevirtual 147, 3) := by decide +kernel
theorem dX8_lost_51 : decode cX8_lost 51 = .ok (.if_icmp .gt 64, 3) := by decide +kernel
theorem dX8_lost_54 : decode cX8_lost 54 = .ok (.iload 5, 2) := by decide +kernel
theorem dX8_lost_56 : decode cX8_lost 56 = .ok (.aload_n 0, 1) := by decide +kernel
theorem dX8_lost_57 : decode cX8_lost 57 = .ok (.aload_n 0, 1) := by decide +kernel
theorem dX8_lost_58 : decode cX8_lost 58 = .ok (.getfield 35, 3) := by decide +kernel
theorem dX8_lost_61 : decode cX8_lost 61 = .ok (.iload_n 1, 1) := by decide +kernel
theorem dX8_lost_62 : decode cX8_lost 62 = .ok (.iload_n 2, 1) := by decide +kernel
theorem dX8_lost_63 : decode cX8_lost 63 = .ok (.iload 6, 2) := by decide +kernel
theorem dX8_lost_65 : decode cX8_lost 65 = .ok (.bipush (-9), 2) := by decide +kernel
theorem dX8_lost_67 : decode cX8_lost 67 = .ok (.invokevirtual 150, 3) := by decide +kernel
theorem dX8_lost_70 : decode cX8_lost 70 = .ok (.bipush (-9), 2) := by decide +kernel
theorem dX8_lost_72 : decode cX8_lost 72 = .ok (.if_icmp .eq 33, 3) := by decide +kernel
theorem dX8_lost_75 : decode cX8_lost 75 = .ok (.bipush 10, 2) := by decide +kernel
theorem dX8_lost_77 : decode cX8_lost 77 = .ok (.iload_n 3, 1) := by decide +kernel
theorem dX8_lost_78 : decode cX8_lost 78 = .ok (.isub, 1) := by decide +kernel
theorem dX8_lost_79 : decode cX8_lost 79 = .ok (.iload 6, 2) := by decide +kernel
theorem dX8_lost_81 : decode cX8_lost 81 = .ok (.invokestatic 225, 3) := by decide +kernel
theorem dX8_lost_84 : decode cX8_lost 84 = .ok (.invokestatic 135, 3) := by decide +kernel
theorem dX8_lost_87 : decode cX8_lost 87 = .ok (.iload_n 3, 1) := by decide +kernel
theorem dX8_lost_88 : decode cX8_lost 88 = .ok (.aload_n 0, 1) := by decide +kernel
theorem dX8_lost_89 : decode cX8_lost 89 = .ok (.getfield 73, 3) := by decide +kernel
theorem dX8_lost_92 : decode cX8_lost 92 = .ok (.iload 6, 2) := by decide +kernel
theorem dX8_lost_94 : decode cX8_lost 94 = .ok (.invokestatic 225, 3) := by decide +kernel
theorem dX8_lost_97 : decode cX8_lost 97 = .ok (.isub, 1) := by decide +kernel
theorem dX8_lost_98 : decode cX8_lost 98 = .ok (.invokestatic 135, 3) := by decide +kernel
theorem dX8_lost_101 : decode cX8_lost 101 = .ok (.imul, 1) := by decide +kernel
theorem dX8_lost_102 : decode cX8_lost 102 = .ok (.goto 4, 3) := by decide +kernel
theorem dX8_lost_105 : decode cX8_lost 105 = .ok (.iconst 0, 1) := by decide +kernel
theorem dX8_lost_106 : decode cX8_lost 106 = .ok (.iadd, 1) := by decide +kernel
theorem dX8_lost_107 : decode cX8_lost 107 = .ok (.istore 5, 2) := by decide +kernel
theorem dX8_lost_109 : decode cX8_lost 109 = .ok (.iinc 6 1, 3) := by decide +kernel
theorem dX8_lost_112 : decode cX8_lost 112 = .ok (.goto (-67), 3) := by decide +kernel
theorem dX8_lost_115 : decode cX8_lost 115 = .ok (.iload 5, 2) := by decide +kernel
theorem dX8_lost_117 : decode cX8_lost 117 = .ok (.bipush 10, 2) := by decide +kernel
theorem dX8_lost_119 : decode cX8_lost 119 = .ok (.aload_n 0, 1) := by decide +kernel
theorem dX8_lost_120 : decode cX8_lost 120 = .ok (.getfield 73, 3) := by decide +kernel
theorem dX8_lost_123 : decode cX8_lost 123 = .ok (.invokestatic 135, 3) := by decide +kernel
theorem dX8_lost_126 : decode cX8_lost 126 = .ok (.iload 4, 2) := by decide +kernel
theorem dX8_lost_128 : decode cX8_lost 128 = .ok (.invokestatic 234, 3) := by decide +kernel
theorem dX8_lost_131 : decode cX8_lost 131 = .ok (.ireturn, 1) := by decide +kernel
theorem dX8_seed_0 : decode cX8_seed 0 = .ok (.aload_n 0, 1) := by decide +kernel
theorem dX8_seed_1 : decode cX8_seed 1 = .ok (.iconst 0, 1) := by decide +kernel
theorem dX8_seed_2 : decode cX8_seed 2 = .ok (.putfield 69, 3) := by decide +kernel
theorem dX8_seed_5 : decode cX8_seed 5 = .ok (.aload_n 0, 1) := by decide +kernel
theorem dX8_seed_6 : decode cX8_seed 6 = .ok (.getfield 240, 3) := by decide +kernel
theorem dX8_seed_9 : decode cX8_seed 9 = .ok (.lstore_n 3, 1) := by decide +kernel
theorem dX8_seed_10 : decode cX8_seed 10 = .ok (.aload_n 0, 1) := by decide +kernel
theorem dX8_seed_11 : decode cX8_seed 11 = .ok (.lload_n 1, 1) := by decide +kernel
theorem dX8_seed_12 : decode cX8_seed 12 = .ok (.putfield 240, 3) := by decide +kernel
theorem dX8_seed_15 : decode cX8_seed 15 = .ok (.lload_n 3, 1) := by decide +kernel
theorem dX8_seed_16 : decode cX8_seed 16 = .ok (.lreturn, 1) := by decide +kernel
theorem dX8_looks_0 : decode cX8_looks 0 = .ok (.aload_n 0, 1) := by decide +kernel
theorem dX8_looks_1 : decode cX8_looks 1 = .ok (.iconst 0, 1) := by decide +kernel
theorem dX8_looks_2 : decode cX8_looks 2 = .ok (.putfield 69, 3) := by decide +kernel
theorem dX8_looks_5 : decode cX8_looks 5 = .ok (.iload_n 1, 1) := by decide +kernel
theorem dX8_looks_6 : decode cX8_looks 6 = .ok (.i2l, 1) := by decide +kernel
theorem dX8_looks_7 : decode cX8_looks 7 = .ok (.lconst 1, 1) := by decide +kernel
theorem dX8_looks_8 : decode cX8_looks 8 = .ok (.ldc2_w 244, 3) := by decide +kernel
theorem dX8_looks_11 : decode cX8_looks 11 = .ok (.invokestatic 76, 3) := by decide +kernel
theorem dX8_looks_14 : decode cX8_looks 14 = .ok (.ifCond .ne 6, 3) := by decide +kernel
theorem dX8_looks_17 : decode cX8_looks 17 = .ok (.bipush (-2), 2) := by decide +kernel
theorem dX8_looks_19 : decode cX8_looks 19 = .ok (.ireturn, 1) := by decide +kernel
theorem dX8_looks_20 : decode cX8_looks 20 = .ok (.iconst 0, 1) := by decide +kernel
theorem dX8_looks_21 : decode cX8_looks 21 = .ok (.istore_n 2, 1) := by decide +kernel
theorem dX8_looks_22 : decode cX8_looks 22 = .ok (.iconst 0, 1) := by decide +kernel
theorem dX8_looks_23 : decode cX8_looks 23 = .ok (.istore_n 3, 1) := by decide +kernel
theorem dX8_looks_24 : decode cX8_looks 24 = .ok (.iload_n 3, 1) := by decide +kernel
theorem dX8_looks_25 : decode cX8_looks 25 = .ok (.iload_n 1, 1) := by decide +kernel
theorem dX8_looks_26 : decode cX8_looks 26 = .ok (.if_icmp .ge 75, 3) := by decide +kernel
theorem dX8_looks_29 : decode cX8_looks 29 = .ok (.aload_n 0, 1) := by decide +kernel
theorem dX8_looks_30 : decode cX8_looks 30 = .ok (.aload_n 0, 1) := by decide +kernel
theorem dX8_looks_31 : decode cX8_looks 31 = .ok (.getfield 240, 3) := by decide +kernel
theorem dX8_looks_34 : decode cX8_looks 34 = .ok (.ldc2_w 246, 3) := by decide +kernel
theorem dX8_looks_37 : decode cX8_looks 37 = .ok (.lmul, 1) := by decide +kernel
theorem dX8_looks_38 : decode cX8_looks 38 = .ok (.ldc2_w 248, 3) := by decide +kernel
theorem dX8_looks_41 : decode cX8_looks 41 = .ok (.ladd, 1) := by decide +kernel
theorem dX8_looks_42 : decode cX8_looks 42 = .ok (.putfield 240, 3) := by decide +kernel
theorem dX8_looks_45 : decode cX8_looks 45 = .ok (.aload_n 0, 1) := by decide +kernel
theorem dX8_looks_46 : decode cX8_looks 46 = .ok (.getfield 240, 3) := by decide +kernel
theorem dX8_looks_49 : decode cX8_looks 49 = .ok (.bipush 33, 2) := by decide +kernel
theorem dX8_looks_51 : decode cX8_looks 51 = .ok (.lushr, 1) := by decide +kernel
theorem dX8_looks_52 : decode cX8_looks 52 = .ok (.l2i, 1) := by decide +kernel
theorem dX8_looks_53 : decode cX8_looks 53 = .ok (.istore 4, 2) := by decide +kernel
theorem dX8_looks_55 : decode cX8_looks 55 = .ok (.iload_n 2, 1) := by decide +kernel
theorem dX8_looks_56 : decode cX8_looks 56 = .ok (.aload_n 0, 1) := by decide +kernel
theorem dX8_looks_57 : decode cX8_looks 57 = .ok (.aload_n 0, 1) := by decide +kernel
theorem dX8_looks_58 : decode cX8_looks 58 = .ok (.getfield 35, 3) := by decide +kernel
theorem dX8_looks_61 : decode cX8_looks 61 = .ok (.iload 4, 2) := by decide +kernel
theorem dX8_looks_63 : decode cX8_looks 63 = .ok (.bipush 48, 2) := by decide +kernel
theorem dX8_looks_65 : decode cX8_looks 65 = .ok (.irem, 1) := by decide +kernel
theorem dX8_looks_66 : decode cX8_looks 66 = .ok (.iload 4, 2) := by decide +kernel
theorem dX8_looks_68 : decode cX8_looks 68 = .ok (.bipush 48, 2) := by decide +kernel
theorem dX8_looks_70 : decode cX8_looks 70 = .ok (.idiv, 1) := by decide +kernel
theorem dX8_looks_71 : decode cX8_looks 71 = .ok (.bipush 10, 2) := by decide +kernel
theorem dX8_looks_73 : decode cX8_looks 73 = .ok (.irem, 1) := by decide +kernel
theorem dX8_looks_74 : decode cX8_looks 74 = .ok (.aload_n 0, 1) := by decide +kernel
theorem dX8_looks_75 : decode cX8_looks 75 = .ok (.invokevirtual 147, 3) := by decide +kernel
theorem dX8_looks_78 : decode cX8_looks 78 = .ok (.bipush (-9), 2) := by decide +kernel
theorem dX8_looks_80 : decode cX8_looks 80 = .ok (.invokevirtual 150, 3) := by decide +kernel
theorem dX8_looks_83 : decode cX8_looks 83 = .ok (.bipush (-9), 2) := by decide +kernel
theorem dX8_looks_85 : decode cX8_looks 85 = .ok (.if_icmp .eq 7, 3) := by decide +kernel
theorem dX8_looks_88 : decode cX8_looks 88 = .ok (.iconst 1, 1) := by decide +kernel
theorem dX8_looks_89 : decode cX8_looks 89 = .ok (.goto 4, 3) := by decide +kernel
theorem dX8_looks_92 : decode cX8_looks 92 = .ok (.iconst 0, 1) := by decide +kernel
theorem dX8_looks_93 : decode cX8_looks 93 = .ok (.iadd, 1) := by decide +kernel
theorem dX8_looks_94 : decode cX8_looks 94 = .ok (.istore_n 2, 1) := by decide +kernel
theorem dX8_looks_95 : decode cX8_looks 95 = .ok (.iinc 3 1, 3) := by decide +kernel
theorem dX8_looks_98 : decode cX8_looks 98 = .ok (.goto (-74), 3) := by decide +kernel
theorem dX8_looks_101 : decode cX8_looks 101 = .ok (.iload_n 2, 1) := by decide +kernel
theorem dX8_looks_102 : decode cX8_looks 102 = .ok (.ireturn, 1) := by decide +kernel
theorem dX8_keep_0 : decode cX8_keep 0 = .ok (.aload_n 0, 1) := by decide +kernel
theorem dX8_keep_1 : decode cX8_keep 1 = .ok (.iconst 0, 1) := by decide +kernel
theorem dX8_keep_2 : decode cX8_keep 2 = .ok (.putfield 69, 3) := by decide +kernel
theorem dX8_keep_5 : decode cX8_keep 5 = .ok (.iload_n 1, 1) := by decide +kernel
theorem dX8_keep_6 : decode cX8_keep 6 = .ok (.i2l, 1) := by decide +kernel
theorem dX8_keep_7 : decode cX8_keep 7 = .ok (.lconst 0, 1) := by decide +kernel
theorem dX8_keep_8 : decode cX8_keep 8 = .ok (.lconst 1, 1) := by decide +kernel
theorem dX8_keep_9 : decode cX8_keep 9 = .ok (.invokestatic 76, 3) := by decide +kernel
theorem dX8_keep_12 : decode cX8_keep 12 = .ok (.ifCond .ne 5, 3) := by decide +kernel
theorem dX8_keep_15 : decode cX8_keep 15 = .ok (.iconst (-1), 1) := by decide +kernel
theorem dX8_keep_16 : decode cX8_keep 16 = .ok (.ireturn, 1) := by decide +kernel
theorem dX8_keep_17 : decode cX8_keep 17 = .ok (.aload_n 0, 1) := by decide +kernel
theorem dX8_keep_18 : decode cX8_keep 18 = .ok (.getfield 47, 3) := by decide +kernel
theorem dX8_keep_21 : decode cX8_keep 21 = .ok (.iload_n 1, 1) := by decide +kernel
theorem dX8_keep_22 : decode cX8_keep 22 = .ok (.iconst 1, 1) := by decide +kernel
theorem dX8_keep_23 : decode cX8_keep 23 = .ok (.bastore, 1) := by decide +kernel
theorem dX8_keep_24 : decode cX8_keep 24 = .ok (.iconst 0, 1) := by decide +kernel
theorem dX8_keep_25 : decode cX8_keep 25 = .ok (.istore_n 2, 1) := by decide +kernel
theorem dX8_keep_26 : decode cX8_keep 26 = .ok (.iload_n 2, 1) := by decide +kernel
theorem dX8_keep_27 : decode cX8_keep 27 = .ok (.bipush 40, 2) := by decide +kernel
theorem dX8_keep_29 : decode cX8_keep 29 = .ok (.if_icmp .ge 26, 3) := by decide +kernel
theorem dX8_keep_32 : decode cX8_keep 32 = .ok (.aload_n 0, 1) := by decide +kernel
theorem dX8_keep_33 : decode cX8_keep 33 = .ok (.getfield 44, 3) := by decide +kernel
theorem dX8_keep_36 : decode cX8_keep 36 = .ok (.bipush 40, 2) := by decide +kernel
theorem dX8_keep_38 : decode cX8_keep 38 = .ok (.iload_n 1, 1) := by decide +kernel
theorem dX8_keep_39 : decode cX8_keep 39 = .ok (.imul, 1) := by decide +kernel
theorem dX8_keep_40 : decode cX8_keep 40 = .ok (.iload_n 2, 1) := by decide +kernel
theorem dX8_keep_41 : decode cX8_keep 41 = .ok (.iadd, 1) := by decide +kernel
theorem dX8_keep_42 : decode cX8_keep 42 = .ok (.aload_n 0, 1) := by decide +kernel
theorem dX8_keep_43 : decode cX8_keep 43 = .ok (.getfield 35, 3) := by decide +kernel
theorem dX8_keep_46 : decode cX8_keep 46 = .ok (.iload_n 2, 1) := by decide +kernel
theorem dX8_keep_47 : decode cX8_keep 47 = .ok (.iaload, 1) := by decide +kernel
theorem dX8_keep_48 : decode cX8_keep 48 = .ok (.iastore, 1) := by decide +kernel
theorem dX8_keep_49 : decode cX8_keep 49 = .ok (.iinc 2 1, 3) := by decide +kernel
theorem dX8_keep_52 : decode cX8_keep 52 = .ok (.goto (-26), 3) := by decide +kernel
theorem dX8_keep_55 : decode cX8_keep 55 = .ok (.aload_n 0, 1) := by decide +kernel
theorem dX8_keep_56 : decode cX8_keep 56 = .ok (.getfield 35, 3) := by decide +kernel
theorem dX8_keep_59 : decode cX8_keep 59 = .ok (.bipush 31, 2) := by decide +kernel
theorem dX8_keep_61 : decode cX8_keep 61 = .ok (.iaload, 1) := by decide +kernel
theorem dX8_keep_62 : decode cX8_keep 62 = .ok (.ireturn, 1) := by decide +kernel
theorem dX8_again_0 : decode cX8_again 0 = .ok (.aload_n 0, 1) := by decide +kernel
theorem dX8_again_1 : decode cX8_again 1 = .ok (.iconst 0, 1) := by decide +kernel
theorem dX8_again_2 : decode cX8_again 2 = .ok (.putfield 69, 3) := by decide +kernel
theorem dX8_again_5 : decode cX8_again 5 = .ok (.iload_n 1, 1) := by decide +kernel
theorem dX8_again_6 : decode cX8_again 6 = .ok (.i2l, 1) := by decide +kernel
theorem dX8_again_7 : decode cX8_again 7 = .ok (.lconst 0, 1) := by decide +kernel
theorem dX8_again_8 : decode cX8_again 8 = .ok (.lconst 1, 1) := by decide +kernel
theorem dX8_again_9 : decode cX8_again 9 = .ok (.invokestatic 76, 3) := by decide +kernel
theorem dX8_again_12 : decode cX8_again 12 = .ok (.ifCond .ne 5, 3) := by decide +kernel
theorem dX8_again_15 : decode cX8_again 15 = .ok (.iconst (-1), 1) := by decide +kernel
theorem dX8_again_16 : decode cX8_again 16 = .ok (.ireturn, 1) := by decide +kernel
theorem dX8_again_17 : decode cX8_again 17 = .ok (.aload_n 0, 1) := by decide +kernel
theorem dX8_again_18 : decode cX8_again 18 = .ok (.getfield 47, 3) := by decide +kernel
theorem dX8_again_21 : decode cX8_again 21 = .ok (.iload_n 1, 1) := by decide +kernel
theorem dX8_again_22 : decode cX8_again 22 = .ok (.baload, 1) := by decide +kernel
theorem dX8_again_23 : decode cX8_again 23 = .ok (.ifCond .ne 6, 3) := by decide +kernel
theorem dX8_again_26 : decode cX8_again 26 = .ok (.bipush (-3), 2) := by decide +kernel
theorem dX8_again_28 : decode cX8_again 28 = .ok (.ireturn, 1) := by decide +kernel
theorem dX8_again_29 : decode cX8_again 29 = .ok (.iconst 0, 1) := by decide +kernel
theorem dX8_again_30 : decode cX8_again 30 = .ok (.istore_n 2, 1) := by decide +kernel
theorem dX8_again_31 : decode cX8_again 31 = .ok (.iload_n 2, 1) := by decide +kernel
theorem dX8_again_32 : decode cX8_again 32 = .ok (.bipush 40, 2) := by decide +kernel
theorem dX8_again_34 : decode cX8_again 34 = .ok (.if_icmp .ge 26, 3) := by decide +kernel
theorem dX8_again_37 : decode cX8_again 37 = .ok (.aload_n 0, 1) := by decide +kernel
theorem dX8_again_38 : decode cX8_again 38 = .ok (.getfield 35, 3) := by decide +kernel
theorem dX8_again_41 : decode cX8_again 41 = .ok (.iload_n 2, 1) := by decide +kernel
theorem dX8_again_42 : decode cX8_again 42 = .ok (.aload_n 0, 1) := by decide +kernel
theorem dX8_again_43 : decode cX8_again 43 = .ok (.getfield 44, 3) := by decide +kernel
theorem dX8_again_46 : decode cX8_again 46 = .ok (.bipush 40, 2) := by decide +kernel
theorem dX8_again_48 : decode cX8_again 48 = .ok (.iload_n 1, 1) := by decide +kernel
theorem dX8_again_49 : decode cX8_again 49 = .ok (.imul, 1) := by decide +kernel
theorem dX8_again_50 : decode cX8_again 50 = .ok (.iload_n 2, 1) := by decide +kernel
theorem dX8_again_51 : decode cX8_again 51 = .ok (.iadd, 1) := by decide +kernel
theorem dX8_again_52 : decode cX8_again 52 = .ok (.iaload, 1) := by decide +kernel
theorem dX8_again_53 : decode cX8_again 53 = .ok (.iastore, 1) := by decide +kernel
theorem dX8_again_54 : decode cX8_again 54 = .ok (.iinc 2 1, 3) := by decide +kernel
theorem dX8_again_57 : decode cX8_again 57 = .ok (.goto (-26), 3) := by decide +kernel
theorem dX8_again_60 : decode cX8_again 60 = .ok (.aload_n 0, 1) := by decide +kernel
theorem dX8_again_61 : decode cX8_again 61 = .ok (.iconst 0, 1) := by decide +kernel
theorem dX8_again_62 : decode cX8_again 62 = .ok (.putfield 121, 3) := by decide +kernel
theorem dX8_again_65 : decode cX8_again 65 = .ok (.aload_n 0, 1) := by decide +kernel
theorem dX8_again_66 : decode cX8_again 66 = .ok (.getfield 35, 3) := by decide +kernel
theorem dX8_again_69 : decode cX8_again 69 = .ok (.bipush 31, 2) := by decide +kernel
theorem dX8_again_71 : decode cX8_again 71 = .ok (.iaload, 1) := by decide +kernel
theorem dX8_again_72 : decode cX8_again 72 = .ok (.ireturn, 1) := by decide +kernel
theorem dX8_count_0 : decode cX8_count 0 = .ok (.aload_n 0, 1) := by decide +kernel
theorem dX8_count_1 : decode cX8_count 1 = .ok (.iconst 0, 1) := by decide +kernel
theorem dX8_count_2 : decode cX8_count 2 = .ok (.putfield 69, 3) := by decide +kernel
theorem dX8_count_5 : decode cX8_count 5 = .ok (.iload_n 1, 1) := by decide +kernel
theorem dX8_count_6 : decode cX8_count 6 = .ok (.tableswitch 71 0 5 #[38, 43, 48, 53, 61, 66], 38) := by decide +kernel
theorem dX8_count_44 : decode cX8_count 44 = .ok (.aload_n 0, 1) := by decide +kernel
theorem dX8_count_45 : decode cX8_count 45 = .ok (.getfield 87, 3) := by decide +kernel
theorem dX8_count_48 : decode cX8_count 48 = .ok (.ireturn, 1) := by decide +kernel
theorem dX8_count_49 : decode cX8_count 49 = .ok (.aload_n 0, 1) := by decide +kernel
theorem dX8_count_50 : decode cX8_count 50 = .ok (.getfield 80, 3) := by decide +kernel
theorem dX8_count_53 : decode cX8_count 53 = .ok (.ireturn, 1) := by decide +kernel
theorem dX8_count_54 : decode cX8_count 54 = .ok (.aload_n 0, 1) := by decide +kernel
theorem dX8_count_55 : decode cX8_count 55 = .ok (.getfield 73, 3) := by decide +kernel
theorem dX8_count_58 : decode cX8_count 58 = .ok (.ireturn, 1) := by decide +kernel
theorem dX8_count_59 : decode cX8_count 59 = .ok (.aload_n 0, 1) := by decide +kernel
theorem dX8_count_60 : decode cX8_count 60 = .ok (.getfield 35, 3) := by decide +kernel
theorem dX8_count_63 : decode cX8_count 63 = .ok (.bipush 31, 2) := by decide +kernel
theorem dX8_count_65 : decode cX8_count 65 = .ok (.iaload, 1) := by decide +kernel
theorem dX8_count_66 : decode cX8_count 66 = .ok (.ireturn, 1) := by decide +kernel
theorem dX8_count_67 : decode cX8_count 67 = .ok (.aload_n 0, 1) := by decide +kernel
theorem dX8_count_68 : decode cX8_count 68 = .ok (.getfield 121, 3) := by decide +kernel
theorem dX8_count_71 : decode cX8_count 71 = .ok (.ireturn, 1) := by decide +kernel
theorem dX8_count_72 : decode cX8_count 72 = .ok (.aload_n 0, 1) := by decide +kernel
theorem dX8_count_73 : decode cX8_count 73 = .ok (.getfield 219, 3) := by decide +kernel
theorem dX8_count_76 : decode cX8_count 76 = .ok (.ireturn, 1) := by decide +kernel
theorem dX8_count_77 : decode cX8_count 77 = .ok (.bipush (-2), 2) := by decide +kernel
theorem dX8_count_79 : decode cX8_count 79 = .ok (.ireturn, 1) := by decide +kernel
end
section
theorem dL_law_0 : decode cL_law 0 = .ok (.new 7, 3) := by decide +kernel
theorem dL_law_3 : decode cL_law 3 = .ok (.dup, 1) := by decide +kernel
theorem dL_law_4 : decode cL_law 4 = .ok (.invokespecial 9, 3) := by decide +kernel
theorem dL_law_7 : decode cL_law 7 = .ok (.astore_n 1, 1) := by decide +kernel
theorem dL_law_8 : decode cL_law 8 = .ok (.new 10, 3) := by decide +kernel
theorem dL_law_11 : decode cL_law 11 = .ok (.dup, 1) := by decide +kernel
theorem dL_law_12 : decode cL_law 12 = .ok (.invokespecial 12, 3) := by decide +kernel
theorem dL_law_15 : decode cL_law 15 = .ok (.astore_n 2, 1) := by decide +kernel
theorem dL_law_16 : decode cL_law 16 = .ok (.iconst 0, 1) := by decide +kernel
theorem dL_law_17 : decode cL_law 17 = .ok (.istore_n 3, 1) := by decide +kernel
theorem dL_law_18 : decode cL_law 18 = .ok (.iload_n 3, 1) := by decide +kernel
theorem dL_law_19 : decode cL_law 19 = .ok (.aload_n 0, 1) := by decide +kernel
theorem dL_law_20 : decode cL_law 20 = .ok (.arraylength, 1) := by decide +kernel
theorem dL_law_21 : decode cL_law 21 = .ok (.iconst 5, 1) := by decide +kernel
theorem dL_law_22 : decode cL_law 22 = .ok (.isub, 1) := by decide +kernel
theorem dL_law_23 : decode cL_law 23 = .ok (.if_icmp .gt 1000, 3) := by decide +kernel
theorem dL_law_26 : decode cL_law 26 = .ok (.aload_n 0, 1) := by decide +kernel
theorem dL_law_27 : decode cL_law 27 = .ok (.iload_n 3, 1) := by decide +kernel
theorem dL_law_28 : decode cL_law 28 = .ok (.iaload, 1) := by decide +kernel
theorem dL_law_29 : decode cL_law 29 = .ok (.bipush 31, 2) := by decide +kernel
theorem dL_law_31 : decode cL_law 31 = .ok (.iand, 1) := by decide +kernel
theorem dL_law_32 : decode cL_law 32 = .ok (.tableswitch 985 0 27 #[128, 151, 164, 177, 190, 223, 256, 289, 332, 365, 418, 451, 464, 477, 510, 533, 566, 589, 652, 695, 708, 721, 770, 839, 893, 916, 939, 962], 128) := by decide +kernel
theorem dL_law_160 : decode cL_law 160 = .ok (.aload_n 1, 1) := by decide +kernel
theorem dL_law_161 : decode cL_law 161 = .ok (.aload_n 0, 1) := by decide +kernel
theorem dL_law_162 : decode cL_law 162 = .ok (.iload_n 3, 1) := by decide +kernel
theorem dL_law_163 : decode cL_law 163 = .ok (.iconst 1, 1) := by decide +kernel
theorem dL_law_164 : decode cL_law 164 = .ok (.iadd, 1) := by decide +kernel
theorem dL_law_165 : decode cL_law 165 = .ok (.iaload, 1) := by decide +kernel
theorem dL_law_166 : decode cL_law 166 = .ok (.invokevirtual 13, 3) := by decide +kernel
theorem dL_law_169 : decode cL_law 169 = .ok (.aload_n 2, 1) := by decide +kernel
theorem dL_law_170 : decode cL_law 170 = .ok (.aload_n 0, 1) := by decide +kernel
theorem dL_law_171 : decode cL_law 171 = .ok (.iload_n 3, 1) := by decide +kernel
theorem dL_law_172 : decode cL_law 172 = .ok (.iconst 1, 1) := by decide +kernel
theorem dL_law_173 : decode cL_law 173 = .ok (.iadd, 1) := by decide +kernel
theorem dL_law_174 : decode cL_law 174 = .ok (.iaload, 1) := by decide +kernel
theorem dL_law_175 : decode cL_law 175 = .ok (.invokevirtual 17, 3) := by decide +kernel
theorem dL_law_178 : decode cL_law 178 = .ok (.if_icmp .eq 839, 3) := by decide +kernel
theorem dL_law_181 : decode cL_law 181 = .ok (.iconst 0, 1) := by decide +kernel
theorem dL_law_182 : decode cL_law 182 = .ok (.ireturn, 1) := by decide +kernel
theorem dL_law_183 : decode cL_law 183 = .ok (.aload_n 1, 1) := by decide +kernel
theorem dL_law_184 : decode cL_law 184 = .ok (.invokevirtual 18, 3) := by decide +kernel
theorem dL_law_187 : decode cL_law 187 = .ok (.aload_n 2, 1) := by decide +kernel
theorem dL_law_188 : decode cL_law 188 = .ok (.invokevirtual 22, 3) := by decide +kernel
theorem dL_law_191 : decode cL_law 191 = .ok (.if_icmp .eq 826, 3) := by decide +kernel
theorem dL_law_194 : decode cL_law 194 = .ok (.iconst 0, 1) := by decide +kernel
theorem dL_law_195 : decode cL_law 195 = .ok (.ireturn, 1) := by decide +kernel
theorem dL_law_196 : decode cL_law 196 = .ok (.aload_n 1, 1) := by decide +kernel
theorem dL_law_197 : decode cL_law 197 = .ok (.invokevirtual 23, 3) := by decide +kernel
theorem dL_law_200 : decode cL_law 200 = .ok (.aload_n 2, 1) := by decide +kernel
theorem dL_law_201 : decode cL_law 201 = .ok (.invokevirtual 26, 3) := by decide +kernel
theorem dL_law_204 : decode cL_law 204 = .ok (.if_icmp .eq 813, 3) := by decide +kernel
theorem dL_law_207 : decode cL_law 207 = .ok (.iconst 0, 1) := by decide +kernel
theorem dL_law_208 : decode cL_law 208 = .ok (.ireturn, 1) := by decide +kernel
theorem dL_law_209 : decode cL_law 209 = .ok (.aload_n 1, 1) := by decide +kernel
theorem dL_law_210 : decode cL_law 210 = .ok (.invokevirtual 27, 3) := by decide +kernel
theorem dL_law_213 : decode cL_law 213 = .ok (.aload_n 2, 1) := by decide +kernel
theorem dL_law_214 : decode cL_law 214 = .ok (.invokevirtual 30, 3) := by decide +kernel
theorem dL_law_217 : decode cL_law 217 = .ok (.if_icmp .eq 800, 3) := by decide +kernel
theorem dL_law_220 : decode cL_law 220 = .ok (.iconst 0, 1) := by decide +kernel
theorem dL_law_221 : decode cL_law 221 = .ok (.ireturn, 1) := by decide +kernel
theorem dL_law_222 : decode cL_law 222 = .ok (.aload_n 1, 1) := by decide +kernel
theorem dL_law_223 : decode cL_law 223 = .ok (.aload_n 0, 1) := by decide +kernel
theorem dL_law_224 : decode cL_law 224 = .ok (.iload_n 3, 1) := by decide +kernel
theorem dL_law_225 : decode cL_law 225 = .ok (.iconst 1, 1) := by decide +kernel
theorem dL_law_226 : decode cL_law 226 = .ok (.iadd, 1) := by decide +kernel
theorem dL_law_227 : decode cL_law 227 = .ok (.iaload, 1) := by decide +kernel
theorem dL_law_228 : decode cL_law 228 = .ok (.aload_n 0, 1) := by decide +kernel
theorem dL_law_229 : decode cL_law 229 = .ok (.iload_n 3, 1) := by decide +kernel
theorem dL_law_230 : decode cL_law 230 = .ok (.iconst 2, 1) := by decide +kernel
theorem dL_law_231 : decode cL_law 231 = .ok (.iadd, 1) := by decide +kernel
theorem dL_law_232 : decode cL_law 232 = .ok (.iaload, 1) := by decide +kernel
theorem dL_law_233 : decode cL_law 233 = .ok (.invokevirtual 31, 3) := by decide +kernel
theorem dL_law_236 : decode cL_law 236 = .ok (.aload_n 2, 1) := by decide +kernel
theorem dL_law_237 : decode cL_law 237 = .ok (.aload_n 0, 1) := by decide +kernel
theorem dL_law_238 : decode cL_law 238 = .ok (.iload_n 3, 1) := by decide +kernel
theorem dL_law_239 : decode cL_law 239 = .ok (.iconst 1, 1) := by decide +kernel
theorem dL_law_240 : decode cL_law 240 = .ok (.iadd, 1) := by decide +kernel
theorem dL_law_241 : decode cL_law 241 = .ok (.iaload, 1) := by decide +kernel
theorem dL_law_242 : decode cL_law 242 = .ok (.aload_n 0, 1) := by decide +kernel
theorem dL_law_243 : decode cL_law 243 = .ok (.iload_n 3, 1) := by decide +kernel
theorem dL_law_244 : decode cL_law 244 = .ok (.iconst 2, 1) := by decide +kernel
theorem dL_law_245 : decode cL_law 245 = .ok (.iadd, 1) := by decide +kernel
theorem dL_law_246 : decode cL_law 246 = .ok (.iaload, 1) := by decide +kernel
theorem dL_law_247 : decode cL_law 247 = .ok (.invokevirtual 35, 3) := by decide +kernel
theorem dL_law_250 : decode cL_law 250 = .ok (.if_icmp .eq 767, 3) := by decide +kernel
theorem dL_law_253 : decode cL_law 253 = .ok (.iconst 0, 1) := by decide +kernel
theorem dL_law_254 : decode cL_law 254 = .ok (.ireturn, 1) := by decide +kernel
theorem dL_law_255 : decode cL_law 255 = .ok (.aload_n 1, 1) := by decide +kernel
theorem dL_law_256 : decode cL_law 256 = .ok (.aload_n 0, 1) := by decide +kernel
theorem dL_law_257 : decode cL_law 257 = .ok (.iload_n 3, 1) := by decide +kernel
theorem dL_law_258 : decode cL_law 258 = .ok (.iconst 1, 1) := by decide +kernel
theorem dL_law_259 : decode cL_law 259 = .ok (.iadd, 1) := by decide +kernel
theorem dL_law_260 : decode cL_law 260 = .ok (.iaload, 1) := by decide +kernel
theorem dL_law_261 : decode cL_law 261 = .ok (.aload_n 0, 1) := by decide +kernel
theorem dL_law_262 : decode cL_law 262 = .ok (.iload_n 3, 1) := by decide +kernel
theorem dL_law_263 : decode cL_law 263 = .ok (.iconst 2, 1) := by decide +kernel
theorem dL_law_264 : decode cL_law 264 = .ok (.iadd, 1) := by decide +kernel
theorem dL_law_265 : decode cL_law 265 = .ok (.iaload, 1) := by decide +kernel
theorem dL_law_266 : decode cL_law 266 = .ok (.invokevirtual 36, 3) := by decide +kernel
theorem dL_law_269 : decode cL_law 269 = .ok (.aload_n 2, 1) := by decide +kernel
theorem dL_law_270 : decode cL_law 270 = .ok (.aload_n 0, 1) := by decide +kernel
theorem dL_law_271 : decode cL_law 271 = .ok (.iload_n 3, 1) := by decide +kernel
theorem dL_law_272 : decode cL_law 272 = .ok (.iconst 1, 1) := by decide +kernel
theorem dL_law_273 : decode cL_law 273 = .ok (.iadd, 1) := by decide +kernel
theorem dL_law_274 : decode cL_law 274 = .ok (.iaload, 1) := by decide +kernel
theorem dL_law_275 : decode cL_law 275 = .ok (.aload_n 0, 1) := by decide +kernel
theorem dL_law_276 : decode cL_law 276 = .ok (.iload_n 3, 1) := by decide +kernel
theorem dL_law_277 : decode cL_law 277 = .ok (.iconst 2, 1) := by decide +kernel
theorem dL_law_278 : decode cL_law 278 = .ok (.iadd, 1) := by decide +kernel
theorem dL_law_279 : decode cL_law 279 = .ok (.iaload, 1) := by decide +kernel
theorem dL_law_280 : decode cL_law 280 = .ok (.invokevirtual 39, 3) := by decide +kernel
theorem dL_law_283 : decode cL_law 283 = .ok (.if_icmp .eq 734, 3) := by decide +kernel
theorem dL_law_286 : decode cL_law 286 = .ok (.iconst 0, 1) := by decide +kernel
theorem dL_law_287 : decode cL_law 287 = .ok (.ireturn, 1) := by decide +kernel
theorem dL_law_288 : decode cL_law 288 = .ok (.aload_n 1, 1) := by decide +kernel
theorem dL_law_289 : decode cL_law 289 = .ok (.aload_n 0, 1) := by decide +kernel
theorem dL_law_290 : decode cL_law 290 = .ok (.iload_n 3, 1) := by decide +kernel
theorem dL_law_291 : decode cL_law 291 = .ok (.iconst 1, 1) := by decide +kernel
theorem dL_law_292 : decode cL_law 292 = .ok (.iadd, 1) := by decide +kernel
theorem dL_law_293 : decode cL_law 293 = .ok (.iaload, 1) := by decide +kernel
theorem dL_law_294 : decode cL_law 294 = .ok (.aload_n 0, 1) := by decide +kernel
theorem dL_law_295 : decode cL_law 295 = .ok (.iload_n 3, 1) := by decide +kernel
theorem dL_law_296 : decode cL_law 296 = .ok (.iconst 2, 1) := by decide +kernel
theorem dL_law_297 : decode cL_law 297 = .ok (.iadd, 1) := by decide +kernel
theorem dL_law_298 : decode cL_law 298 = .ok (.iaload, 1) := by decide +kernel
theorem dL_law_299 : decode cL_law 299 = .ok (.invokevirtual 40, 3) := by decide +kernel
theorem dL_law_302 : decode cL_law 302 = .ok (.aload_n 2, 1) := by decide +kernel
theorem dL_law_303 : decode cL_law 303 = .ok (.aload_n 0, 1) := by decide +kernel
theorem dL_law_304 : decode cL_law 304 = .ok (.iload_n 3, 1) := by decide +kernel
theorem dL_law_305 : decode cL_law 305 = .ok (.iconst 1, 1) := by decide +kernel
theorem dL_law_306 : decode cL_law 306 = .ok (.iadd, 1) := by decide +kernel
theorem dL_law_307 : decode cL_law 307 = .ok (.iaload, 1) := by decide +kernel
theorem dL_law_308 : decode cL_law 308 = .ok (.aload_n 0, 1) := by decide +kernel
theorem dL_law_309 : decode cL_law 309 = .ok (.iload_n 3, 1) := by decide +kernel
theorem dL_law_310 : decode cL_law 310 = .ok (.iconst 2, 1) := by decide +kernel
theorem dL_law_311 : decode cL_law 311 = .ok (.iadd, 1) := by decide +kernel
theorem dL_law_312 : decode cL_law 312 = .ok (.iaload, 1) := by decide +kernel
theorem dL_law_313 : decode cL_law 313 = .ok (.invokevirtual 43, 3) := by decide +kernel
theorem dL_law_316 : decode cL_law 316 = .ok (.if_icmp .eq 701, 3) := by decide +kernel
theorem dL_law_319 : decode cL_law 319 = .ok (.iconst 0, 1) := by decide +kernel
theorem dL_law_320 : decode cL_law 320 = .ok (.ireturn, 1) := by decide +kernel
theorem dL_law_321 : decode cL_law 321 = .ok (.aload_n 1, 1) := by decide +kernel
theorem dL_law_322 : decode cL_law 322 = .ok (.aload_n 0, 1) := by decide +kernel
theorem dL_law_323 : decode cL_law 323 = .ok (.iload_n 3, 1) := by decide +kernel
theorem dL_law_324 : decode cL_law 324 = .ok (.iconst 1, 1) := by decide +kernel
theorem dL_law_325 : decode cL_law 325 = .ok (.iadd, 1) := by decide +kernel
theorem dL_law_326 : decode cL_law 326 = .ok (.iaload, 1) := by decide +kernel
theorem dL_law_327 : decode cL_law 327 = .ok (.aload_n 0, 1) := by decide +kernel
theorem dL_law_328 : decode cL_law 328 = .ok (.iload_n 3, 1) := by decide +kernel
theorem dL_law_329 : decode cL_law 329 = .ok (.iconst 2, 1) := by decide +kernel
theorem dL_law_330 : decode cL_law 330 = .ok (.iadd, 1) := by decide +kernel
theorem dL_law_331 : decode cL_law 331 = .ok (.iaload, 1) := by decide +kernel
theorem dL_law_332 : decode cL_law 332 = .ok (.aload_n 0, 1) := by decide +kernel
theorem dL_law_333 : decode cL_law 333 = .ok (.iload_n 3, 1) := by decide +kernel
theorem dL_law_334 : decode cL_law 334 = .ok (.iconst 3, 1) := by decide +kernel
theorem dL_law_335 : decode cL_law 335 = .ok (.iadd, 1) := by decide +kernel
theorem dL_law_336 : decode cL_law 336 = .ok (.iaload, 1) := by decide +kernel
theorem dL_law_337 : decode cL_law 337 = .ok (.invokevirtual 44, 3) := by decide +kernel
theorem dL_law_340 : decode cL_law 340 = .ok (.aload_n 2, 1) := by decide +kernel
theorem dL_law_341 : decode cL_law 341 = .ok (.aload_n 0, 1) := by decide +kernel
theorem dL_law_342 : decode cL_law 342 = .ok (.iload_n 3, 1) := by decide +kernel
theorem dL_law_343 : decode cL_law 343 = .ok (.iconst 1, 1) := by decide +kernel
theorem dL_law_344 : decode cL_law 344 = .ok (.iadd, 1) := by decide +kernel
theorem dL_law_345 : decode cL_law 345 = .ok (.iaload, 1) := by decide +kernel
theorem dL_law_346 : decode cL_law 346 = .ok (.aload_n 0, 1) := by decide +kernel
theorem dL_law_347 : decode cL_law 347 = .ok (.iload_n 3, 1) := by decide +kernel
theorem dL_law_348 : decode cL_law 348 = .ok (.iconst 2, 1) := by decide +kernel
theorem dL_law_349 : decode cL_law 349 = .ok (.iadd, 1) := by decide +kernel
theorem dL_law_350 : decode cL_law 350 = .ok (.iaload, 1) := by decide +kernel
theorem dL_law_351 : decode cL_law 351 = .ok (.aload_n 0, 1) := by decide +kernel
theorem dL_law_352 : decode cL_law 352 = .ok (.iload_n 3, 1) := by decide +kernel
theorem dL_law_353 : decode cL_law 353 = .ok (.iconst 3, 1) := by decide +kernel
theorem dL_law_354 : decode cL_law 354 = .ok (.iadd, 1) := by decide +kernel
theorem dL_law_355 : decode cL_law 355 = .ok (.iaload, 1) := by decide +kernel
theorem dL_law_356 : decode cL_law 356 = .ok (.invokevirtual 48, 3) := by decide +kernel
theorem dL_law_359 : decode cL_law 359 = .ok (.if_icmp .eq 658, 3) := by decide +kernel
theorem dL_law_362 : decode cL_law 362 = .ok (.iconst 0, 1) := by decide +kernel
theorem dL_law_363 : decode cL_law 363 = .ok (.ireturn, 1) := by decide +kernel
theorem dL_law_364 : decode cL_law 364 = .ok (.aload_n 1, 1) := by decide +kernel
theorem dL_law_365 : decode cL_law 365 = .ok (.aload_n 0, 1) := by decide +kernel
theorem dL_law_366 : decode cL_law 366 = .ok (.iload_n 3, 1) := by decide +kernel
theorem dL_law_367 : decode cL_law 367 = .ok (.iconst 1, 1) := by decide +kernel
theorem dL_law_368 : decode cL_law 368 = .ok (.iadd, 1) := by decide +kernel
theorem dL_law_369 : decode cL_law 369 = .ok (.iaload, 1) := by decide +kernel
theorem dL_law_370 : decode cL_law 370 = .ok (.aload_n 0, 1) := by decide +kernel
theorem dL_law_371 : decode cL_law 371 = .ok (.iload_n 3, 1) := by decide +kernel
theorem dL_law_372 : decode cL_law 372 = .ok (.iconst 2, 1) := by decide +kernel
theorem dL_law_373 : decode cL_law 373 = .ok (.iadd, 1) := by decide +kernel
theorem dL_law_374 : decode cL_law 374 = .ok (.iaload, 1) := by decide +kernel
theorem dL_law_375 : decode cL_law 375 = .ok (.invokevirtual 49, 3) := by decide +kernel
theorem dL_law_378 : decode cL_law 378 = .ok (.aload_n 2, 1) := by decide +kernel
theorem dL_law_379 : decode cL_law 379 = .ok (.aload_n 0, 1) := by decide +kernel
theorem dL_law_380 : decode cL_law 380 = .ok (.iload_n 3, 1) := by decide +kernel
theorem dL_law_381 : decode cL_law 381 = .ok (.iconst 1, 1) := by decide +kernel
theorem dL_law_382 : decode cL_law 382 = .ok (.iadd, 1) := by decide +kernel
theorem dL_law_383 : decode cL_law 383 = .ok (.iaload, 1) := by decide +kernel
theorem dL_law_384 : decode cL_law 384 = .ok (.aload_n 0, 1) := by decide +kernel
theorem dL_law_385 : decode cL_law 385 = .ok (.iload_n 3, 1) := by decide +kernel
theorem dL_law_386 : decode cL_law 386 = .ok (.iconst 2, 1) := by decide +kernel
theorem dL_law_387 : decode cL_law 387 = .ok (.iadd, 1) := by decide +kernel
theorem dL_law_388 : decode cL_law 388 = .ok (.iaload, 1) := by decide +kernel
theorem dL_law_389 : decode cL_law 389 = .ok (.invokevirtual 52, 3) := by decide +kernel
theorem dL_law_392 : decode cL_law 392 = .ok (.if_icmp .eq 625, 3) := by decide +kernel
theorem dL_law_395 : decode cL_law 395 = .ok (.iconst 0, 1) := by decide +kernel
theorem dL_law_396 : decode cL_law 396 = .ok (.ireturn, 1) := by decide +kernel
theorem dL_law_397 : decode cL_law 397 = .ok (.aload_n 1, 1) := by decide +kernel
theorem dL_law_398 : decode cL_law 398 = .ok (.aload_n 0, 1) := by decide +kernel
theorem dL_law_399 : decode cL_law 399 = .ok (.iload_n 3, 1) := by decide +kernel
theorem dL_law_400 : decode cL_law 400 = .ok (.iconst 1, 1) := by decide +kernel
theorem dL_law_401 : decode cL_law 401 = .ok (.iadd, 1) := by decide +kernel
theorem dL_law_402 : decode cL_law 402 = .ok (.iaload, 1) := by decide +kernel
theorem dL_law_403 : decode cL_law 403 = .ok (.aload_n 0, 1) := by decide +kernel
theorem dL_law_404 : decode cL_law 404 = .ok (.iload_n 3, 1) := by decide +kernel
theorem dL_law_405 : decode cL_law 405 = .ok (.iconst 2, 1) := by decide +kernel
theorem dL_law_406 : decode cL_law 406 = .ok (.iadd, 1) := by decide +kernel
theorem dL_law_407 : decode cL_law 407 = .ok (.iaload, 1) := by decide +kernel
theorem dL_law_408 : decode cL_law 408 = .ok (.aload_n 0, 1) := by decide +kernel
theorem dL_law_409 : decode cL_law 409 = .ok (.iload_n 3, 1) := by decide +kernel
theorem dL_law_410 : decode cL_law 410 = .ok (.iconst 3, 1) := by decide +kernel
theorem dL_law_411 : decode cL_law 411 = .ok (.iadd, 1) := by decide +kernel
theorem dL_law_412 : decode cL_law 412 = .ok (.iaload, 1) := by decide +kernel
theorem dL_law_413 : decode cL_law 413 = .ok (.aload_n 0, 1) := by decide +kernel
theorem dL_law_414 : decode cL_law 414 = .ok (.iload_n 3, 1) := by decide +kernel
theorem dL_law_415 : decode cL_law 415 = .ok (.iconst 4, 1) := by decide +kernel
theorem dL_law_416 : decode cL_law 416 = .ok (.iadd, 1) := by decide +kernel
theorem dL_law_417 : decode cL_law 417 = .ok (.iaload, 1) := by decide +kernel
theorem dL_law_418 : decode cL_law 418 = .ok (.invokevirtual 53, 3) := by decide +kernel
theorem dL_law_421 : decode cL_law 421 = .ok (.aload_n 2, 1) := by decide +kernel
theorem dL_law_422 : decode cL_law 422 = .ok (.aload_n 0, 1) := by decide +kernel
theorem dL_law_423 : decode cL_law 423 = .ok (.iload_n 3, 1) := by decide +kernel
theorem dL_law_424 : decode cL_law 424 = .ok (.iconst 1, 1) := by decide +kernel
theorem dL_law_425 : decode cL_law 425 = .ok (.iadd, 1) := by decide +kernel
theorem dL_law_426 : decode cL_law 426 = .ok (.iaload, 1) := by decide +kernel
theorem dL_law_427 : decode cL_law 427 = .ok (.aload_n 0, 1) := by decide +kernel
theorem dL_law_428 : decode cL_law 428 = .ok (.iload_n 3, 1) := by decide +kernel
theorem dL_law_429 : decode cL_law 429 = .ok (.iconst 2, 1) := by decide +kernel
theorem dL_law_430 : decode cL_law 430 = .ok (.iadd, 1) := by decide +kernel
theorem dL_law_431 : decode cL_law 431 = .ok (.iaload, 1) := by decide +kernel
theorem dL_law_432 : decode cL_law 432 = .ok (.aload_n 0, 1) := by decide +kernel
theorem dL_law_433 : decode cL_law 433 = .ok (.iload_n 3, 1) := by decide +kernel
theorem dL_law_434 : decode cL_law 434 = .ok (.iconst 3, 1) := by decide +kernel
theorem dL_law_435 : decode cL_law 435 = .ok (.iadd, 1) := by decide +kernel
theorem dL_law_436 : decode cL_law 436 = .ok (.iaload, 1) := by decide +kernel
theorem dL_law_437 : decode cL_law 437 = .ok (.aload_n 0, 1) := by decide +kernel
theorem dL_law_438 : decode cL_law 438 = .ok (.iload_n 3, 1) := by decide +kernel
theorem dL_law_439 : decode cL_law 439 = .ok (.iconst 4, 1) := by decide +kernel
theorem dL_law_440 : decode cL_law 440 = .ok (.iadd, 1) := by decide +kernel
theorem dL_law_441 : decode cL_law 441 = .ok (.iaload, 1) := by decide +kernel
theorem dL_law_442 : decode cL_law 442 = .ok (.invokevirtual 57, 3) := by decide +kernel
theorem dL_law_445 : decode cL_law 445 = .ok (.if_icmp .eq 572, 3) := by decide +kernel
theorem dL_law_448 : decode cL_law 448 = .ok (.iconst 0, 1) := by decide +kernel
theorem dL_law_449 : decode cL_law 449 = .ok (.ireturn, 1) := by decide +kernel
theorem dL_law_450 : decode cL_law 450 = .ok (.aload_n 1, 1) := by decide +kernel
theorem dL_law_451 : decode cL_law 451 = .ok (.aload_n 0, 1) := by decide +kernel
theorem dL_law_452 : decode cL_law 452 = .ok (.iload_n 3, 1) := by decide +kernel
theorem dL_law_453 : decode cL_law 453 = .ok (.iconst 1, 1) := by decide +kernel
theorem dL_law_454 : decode cL_law 454 = .ok (.iadd, 1) := by decide +kernel
theorem dL_law_455 : decode cL_law 455 = .ok (.iaload, 1) := by decide +kernel
theorem dL_law_456 : decode cL_law 456 = .ok (.aload_n 0, 1) := by decide +kernel
theorem dL_law_457 : decode cL_law 457 = .ok (.iload_n 3, 1) := by decide +kernel
theorem dL_law_458 : decode cL_law 458 = .ok (.iconst 2, 1) := by decide +kernel
theorem dL_law_459 : decode cL_law 459 = .ok (.iadd, 1) := by decide +kernel
theorem dL_law_460 : decode cL_law 460 = .ok (.iaload, 1) := by decide +kernel
theorem dL_law_461 : decode cL_law 461 = .ok (.invokevirtual 58, 3) := by decide +kernel
theorem dL_law_464 : decode cL_law 464 = .ok (.aload_n 2, 1) := by decide +kernel
theorem dL_law_465 : decode cL_law 465 = .ok (.aload_n 0, 1) := by decide +kernel
theorem dL_law_466 : decode cL_law 466 = .ok (.iload_n 3, 1) := by decide +kernel
theorem dL_law_467 : decode cL_law 467 = .ok (.iconst 1, 1) := by decide +kernel
theorem dL_law_468 : decode cL_law 468 = .ok (.iadd, 1) := by decide +kernel
theorem dL_law_469 : decode cL_law 469 = .ok (.iaload, 1) := by decide +kernel
theorem dL_law_470 : decode cL_law 470 = .ok (.aload_n 0, 1) := by decide +kernel
theorem dL_law_471 : decode cL_law 471 = .ok (.iload_n 3, 1) := by decide +kernel
theorem dL_law_472 : decode cL_law 472 = .ok (.iconst 2, 1) := by decide +kernel
theorem dL_law_473 : decode cL_law 473 = .ok (.iadd, 1) := by decide +kernel
theorem dL_law_474 : decode cL_law 474 = .ok (.iaload, 1) := by decide +kernel
theorem dL_law_475 : decode cL_law 475 = .ok (.invokevirtual 61, 3) := by decide +kernel
theorem dL_law_478 : decode cL_law 478 = .ok (.if_icmp .eq 539, 3) := by decide +kernel
theorem dL_law_481 : decode cL_law 481 = .ok (.iconst 0, 1) := by decide +kernel
theorem dL_law_482 : decode cL_law 482 = .ok (.ireturn, 1) := by decide +kernel
theorem dL_law_483 : decode cL_law 483 = .ok (.aload_n 1, 1) := by decide +kernel
theorem dL_law_484 : decode cL_law 484 = .ok (.invokevirtual 62, 3) := by decide +kernel
theorem dL_law_487 : decode cL_law 487 = .ok (.aload_n 2, 1) := by decide +kernel
theorem dL_law_488 : decode cL_law 488 = .ok (.invokevirtual 65, 3) := by decide +kernel
theorem dL_law_491 : decode cL_law 491 = .ok (.if_icmp .eq 526, 3) := by decide +kernel
theorem dL_law_494 : decode cL_law 494 = .ok (.iconst 0, 1) := by decide +kernel
theorem dL_law_495 : decode cL_law 495 = .ok (.ireturn, 1) := by decide +kernel
theorem dL_law_496 : decode cL_law 496 = .ok (.aload_n 1, 1) := by decide +kernel
theorem dL_law_497 : decode cL_law 497 = .ok (.invokevirtual 66, 3) := by decide +kernel
theorem dL_law_500 : decode cL_law 500 = .ok (.aload_n 2, 1) := by decide +kernel
theorem dL_law_501 : decode cL_law 501 = .ok (.invokevirtual 69, 3) := by decide +kernel
theorem dL_law_504 : decode cL_law 504 = .ok (.if_icmp .eq 513, 3) := by decide +kernel
theorem dL_law_507 : decode cL_law 507 = .ok (.iconst 0, 1) := by decide +kernel
theorem dL_law_508 : decode cL_law 508 = .ok (.ireturn, 1) := by decide +kernel
theorem dL_law_509 : decode cL_law 509 = .ok (.aload_n 1, 1) := by decide +kernel
theorem dL_law_510 : decode cL_law 510 = .ok (.aload_n 0, 1) := by decide +kernel
theorem dL_law_511 : decode cL_law 511 = .ok (.iload_n 3, 1) := by decide +kernel
theorem dL_law_512 : decode cL_law 512 = .ok (.iconst 1, 1) := by decide +kernel
theorem dL_law_513 : decode cL_law 513 = .ok (.iadd, 1) := by decide +kernel
theorem dL_law_514 : decode cL_law 514 = .ok (.iaload, 1) := by decide +kernel
theorem dL_law_515 : decode cL_law 515 = .ok (.aload_n 0, 1) := by decide +kernel
theorem dL_law_516 : decode cL_law 516 = .ok (.iload_n 3, 1) := by decide +kernel
theorem dL_law_517 : decode cL_law 517 = .ok (.iconst 2, 1) := by decide +kernel
theorem dL_law_518 : decode cL_law 518 = .ok (.iadd, 1) := by decide +kernel
theorem dL_law_519 : decode cL_law 519 = .ok (.iaload, 1) := by decide +kernel
theorem dL_law_520 : decode cL_law 520 = .ok (.invokevirtual 70, 3) := by decide +kernel
theorem dL_law_523 : decode cL_law 523 = .ok (.aload_n 2, 1) := by decide +kernel
theorem dL_law_524 : decode cL_law 524 = .ok (.aload_n 0, 1) := by decide +kernel
theorem dL_law_525 : decode cL_law 525 = .ok (.iload_n 3, 1) := by decide +kernel
theorem dL_law_526 : decode cL_law 526 = .ok (.iconst 1, 1) := by decide +kernel
theorem dL_law_527 : decode cL_law 527 = .ok (.iadd, 1) := by decide +kernel
theorem dL_law_528 : decode cL_law 528 = .ok (.iaload, 1) := by decide +kernel
theorem dL_law_529 : decode cL_law 529 = .ok (.aload_n 0, 1) := by decide +kernel
theorem dL_law_530 : decode cL_law 530 = .ok (.iload_n 3, 1) := by decide +kernel
theorem dL_law_531 : decode cL_law 531 = .ok (.iconst 2, 1) := by decide +kernel
theorem dL_law_532 : decode cL_law 532 = .ok (.iadd, 1) := by decide +kernel
theorem dL_law_533 : decode cL_law 533 = .ok (.iaload, 1) := by decide +kernel
theorem dL_law_534 : decode cL_law 534 = .ok (.invokevirtual 73, 3) := by decide +kernel
theorem dL_law_537 : decode cL_law 537 = .ok (.if_icmp .eq 480, 3) := by decide +kernel
theorem dL_law_540 : decode cL_law 540 = .ok (.iconst 0, 1) := by decide +kernel
theorem dL_law_541 : decode cL_law 541 = .ok (.ireturn, 1) := by decide +kernel
theorem dL_law_542 : decode cL_law 542 = .ok (.aload_n 1, 1) := by decide +kernel
theorem dL_law_543 : decode cL_law 543 = .ok (.aload_n 0, 1) := by decide +kernel
theorem dL_law_544 : decode cL_law 544 = .ok (.iload_n 3, 1) := by decide +kernel
theorem dL_law_545 : decode cL_law 545 = .ok (.iconst 1, 1) := by decide +kernel
theorem dL_law_546 : decode cL_law 546 = .ok (.iadd, 1) := by decide +kernel
theorem dL_law_547 : decode cL_law 547 = .ok (.iaload, 1) := by decide +kernel
theorem dL_law_548 : decode cL_law 548 = .ok (.invokevirtual 74, 3) := by decide +kernel
theorem dL_law_551 : decode cL_law 551 = .ok (.aload_n 2, 1) := by decide +kernel
theorem dL_law_552 : decode cL_law 552 = .ok (.aload_n 0, 1) := by decide +kernel
theorem dL_law_553 : decode cL_law 553 = .ok (.iload_n 3, 1) := by decide +kernel
theorem dL_law_554 : decode cL_law 554 = .ok (.iconst 1, 1) := by decide +kernel
theorem dL_law_555 : decode cL_law 555 = .ok (.iadd, 1) := by decide +kernel
theorem dL_law_556 : decode cL_law 556 = .ok (.iaload, 1) := by decide +kernel
theorem dL_law_557 : decode cL_law 557 = .ok (.invokevirtual 77, 3) := by decide +kernel
theorem dL_law_560 : decode cL_law 560 = .ok (.if_icmp .eq 457, 3) := by decide +kernel
theorem dL_law_563 : decode cL_law 563 = .ok (.iconst 0, 1) := by decide +kernel
theorem dL_law_564 : decode cL_law 564 = .ok (.ireturn, 1) := by decide +kernel
theorem dL_law_565 : decode cL_law 565 = .ok (.aload_n 1, 1) := by decide +kernel
theorem dL_law_566 : decode cL_law 566 = .ok (.aload_n 0, 1) := by decide +kernel
theorem dL_law_567 : decode cL_law 567 = .ok (.iload_n 3, 1) := by decide +kernel
theorem dL_law_568 : decode cL_law 568 = .ok (.iconst 1, 1) := by decide +kernel
theorem dL_law_569 : decode cL_law 569 = .ok (.iadd, 1) := by decide +kernel
theorem dL_law_570 : decode cL_law 570 = .ok (.iaload, 1) := by decide +kernel
theorem dL_law_571 : decode cL_law 571 = .ok (.aload_n 0, 1) := by decide +kernel
theorem dL_law_572 : decode cL_law 572 = .ok (.iload_n 3, 1) := by decide +kernel
theorem dL_law_573 : decode cL_law 573 = .ok (.iconst 2, 1) := by decide +kernel
theorem dL_law_574 : decode cL_law 574 = .ok (.iadd, 1) := by decide +kernel
theorem dL_law_575 : decode cL_law 575 = .ok (.iaload, 1) := by decide +kernel
theorem dL_law_576 : decode cL_law 576 = .ok (.invokevirtual 78, 3) := by decide +kernel
theorem dL_law_579 : decode cL_law 579 = .ok (.aload_n 2, 1) := by decide +kernel
theorem dL_law_580 : decode cL_law 580 = .ok (.aload_n 0, 1) := by decide +kernel
theorem dL_law_581 : decode cL_law 581 = .ok (.iload_n 3, 1) := by decide +kernel
theorem dL_law_582 : decode cL_law 582 = .ok (.iconst 1, 1) := by decide +kernel
theorem dL_law_583 : decode cL_law 583 = .ok (.iadd, 1) := by decide +kernel
theorem dL_law_584 : decode cL_law 584 = .ok (.iaload, 1) := by decide +kernel
theorem dL_law_585 : decode cL_law 585 = .ok (.aload_n 0, 1) := by decide +kernel
theorem dL_law_586 : decode cL_law 586 = .ok (.iload_n 3, 1) := by decide +kernel
theorem dL_law_587 : decode cL_law 587 = .ok (.iconst 2, 1) := by decide +kernel
theorem dL_law_588 : decode cL_law 588 = .ok (.iadd, 1) := by decide +kernel
theorem dL_law_589 : decode cL_law 589 = .ok (.iaload, 1) := by decide +kernel
theorem dL_law_590 : decode cL_law 590 = .ok (.invokevirtual 81, 3) := by decide +kernel
theorem dL_law_593 : decode cL_law 593 = .ok (.if_icmp .eq 424, 3) := by decide +kernel
theorem dL_law_596 : decode cL_law 596 = .ok (.iconst 0, 1) := by decide +kernel
theorem dL_law_597 : decode cL_law 597 = .ok (.ireturn, 1) := by decide +kernel
theorem dL_law_598 : decode cL_law 598 = .ok (.aload_n 1, 1) := by decide +kernel
theorem dL_law_599 : decode cL_law 599 = .ok (.aload_n 0, 1) := by decide +kernel
theorem dL_law_600 : decode cL_law 600 = .ok (.iload_n 3, 1) := by decide +kernel
theorem dL_law_601 : decode cL_law 601 = .ok (.iconst 1, 1) := by decide +kernel
theorem dL_law_602 : decode cL_law 602 = .ok (.iadd, 1) := by decide +kernel
theorem dL_law_603 : decode cL_law 603 = .ok (.iaload, 1) := by decide +kernel
theorem dL_law_604 : decode cL_law 604 = .ok (.invokevirtual 82, 3) := by decide +kernel
theorem dL_law_607 : decode cL_law 607 = .ok (.aload_n 2, 1) := by decide +kernel
theorem dL_law_608 : decode cL_law 608 = .ok (.aload_n 0, 1) := by decide +kernel
theorem dL_law_609 : decode cL_law 609 = .ok (.iload_n 3, 1) := by decide +kernel
theorem dL_law_610 : decode cL_law 610 = .ok (.iconst 1, 1) := by decide +kernel
theorem dL_law_611 : decode cL_law 611 = .ok (.iadd, 1) := by decide +kernel
theorem dL_law_612 : decode cL_law 612 = .ok (.iaload, 1) := by decide +kernel
theorem dL_law_613 : decode cL_law 613 = .ok (.invokevirtual 85, 3) := by decide +kernel
theorem dL_law_616 : decode cL_law 616 = .ok (.if_icmp .eq 401, 3) := by decide +kernel
theorem dL_law_619 : decode cL_law 619 = .ok (.iconst 0, 1) := by decide +kernel
theorem dL_law_620 : decode cL_law 620 = .ok (.ireturn, 1) := by decide +kernel
theorem dL_law_621 : decode cL_law 621 = .ok (.aload_n 1, 1) := by decide +kernel
theorem dL_law_622 : decode cL_law 622 = .ok (.aload_n 0, 1) := by decide +kernel
theorem dL_law_623 : decode cL_law 623 = .ok (.iload_n 3, 1) := by decide +kernel
theorem dL_law_624 : decode cL_law 624 = .ok (.iconst 1, 1) := by decide +kernel
theorem dL_law_625 : decode cL_law 625 = .ok (.iadd, 1) := by decide +kernel
theorem dL_law_626 : decode cL_law 626 = .ok (.iaload, 1) := by decide +kernel
theorem dL_law_627 : decode cL_law 627 = .ok (.aload_n 0, 1) := by decide +kernel
theorem dL_law_628 : decode cL_law 628 = .ok (.iload_n 3, 1) := by decide +kernel
theorem dL_law_629 : decode cL_law 629 = .ok (.iconst 2, 1) := by decide +kernel
theorem dL_law_630 : decode cL_law 630 = .ok (.iadd, 1) := by decide +kernel
theorem dL_law_631 : decode cL_law 631 = .ok (.iaload, 1) := by decide +kernel
theorem dL_law_632 : decode cL_law 632 = .ok (.i2l, 1) := by decide +kernel
theorem dL_law_633 : decode cL_law 633 = .ok (.bipush 32, 2) := by decide +kernel
theorem dL_law_635 : decode cL_law 635 = .ok (.lshl, 1) := by decide +kernel
theorem dL_law_636 : decode cL_law 636 = .ok (.aload_n 0, 1) := by decide +kernel
theorem dL_law_637 : decode cL_law 637 = .ok (.iload_n 3, 1) := by decide +kernel
theorem dL_law_638 : decode cL_law 638 = .ok (.iconst 3, 1) := by decide +kernel
theorem dL_law_639 : decode cL_law 639 = .ok (.iadd, 1) := by decide +kernel
theorem dL_law_640 : decode cL_law 640 = .ok (.iaload, 1) := by decide +kernel
theorem dL_law_641 : decode cL_law 641 = .ok (.i2l, 1) := by decide +kernel
theorem dL_law_642 : decode cL_law 642 = .ok (.ldc2_w 86, 3) := by decide +kernel
theorem dL_law_645 : decode cL_law 645 = .ok (.land, 1) := by decide +kernel
theorem dL_law_646 : decode cL_law 646 = .ok (.lor, 1) := by decide +kernel
theorem dL_law_647 : decode cL_law 647 = .ok (.invokevirtual 88, 3) := by decide +kernel
theorem dL_law_650 : decode cL_law 650 = .ok (.aload_n 2, 1) := by decide +kernel
theorem dL_law_651 : decode cL_law 651 = .ok (.aload_n 0, 1) := by decide +kernel
theorem dL_law_652 : decode cL_law 652 = .ok (.iload_n 3, 1) := by decide +kernel
theorem dL_law_653 : decode cL_law 653 = .ok (.iconst 1, 1) := by decide +kernel
theorem dL_law_654 : decode cL_law 654 = .ok (.iadd, 1) := by decide +kernel
theorem dL_law_655 : decode cL_law 655 = .ok (.iaload, 1) := by decide +kernel
theorem dL_law_656 : decode cL_law 656 = .ok (.aload_n 0, 1) := by decide +kernel
theorem dL_law_657 : decode cL_law 657 = .ok (.iload_n 3, 1) := by decide +kernel
theorem dL_law_658 : decode cL_law 658 = .ok (.iconst 2, 1) := by decide +kernel
theorem dL_law_659 : decode cL_law 659 = .ok (.iadd, 1) := by decide +kernel
theorem dL_law_660 : decode cL_law 660 = .ok (.iaload, 1) := by decide +kernel
theorem dL_law_661 : decode cL_law 661 = .ok (.i2l, 1) := by decide +kernel
theorem dL_law_662 : decode cL_law 662 = .ok (.bipush 32, 2) := by decide +kernel
theorem dL_law_664 : decode cL_law 664 = .ok (.lshl, 1) := by decide +kernel
theorem dL_law_665 : decode cL_law 665 = .ok (.aload_n 0, 1) := by decide +kernel
theorem dL_law_666 : decode cL_law 666 = .ok (.iload_n 3, 1) := by decide +kernel
theorem dL_law_667 : decode cL_law 667 = .ok (.iconst 3, 1) := by decide +kernel
theorem dL_law_668 : decode cL_law 668 = .ok (.iadd, 1) := by decide +kernel
theorem dL_law_669 : decode cL_law 669 = .ok (.iaload, 1) := by decide +kernel
theorem dL_law_670 : decode cL_law 670 = .ok (.i2l, 1) := by decide +kernel
theorem dL_law_671 : decode cL_law 671 = .ok (.ldc2_w 86, 3) := by decide +kernel
theorem dL_law_674 : decode cL_law 674 = .ok (.land, 1) := by decide +kernel
theorem dL_law_675 : decode cL_law 675 = .ok (.lor, 1) := by decide +kernel
theorem dL_law_676 : decode cL_law 676 = .ok (.invokevirtual 92, 3) := by decide +kernel
theorem dL_law_679 : decode cL_law 679 = .ok (.if_icmp .eq 338, 3) := by decide +kernel
theorem dL_law_682 : decode cL_law 682 = .ok (.iconst 0, 1) := by decide +kernel
theorem dL_law_683 : decode cL_law 683 = .ok (.ireturn, 1) := by decide +kernel
theorem dL_law_684 : decode cL_law 684 = .ok (.aload_n 1, 1) := by decide +kernel
theorem dL_law_685 : decode cL_law 685 = .ok (.aload_n 0, 1) := by decide +kernel
theorem dL_law_686 : decode cL_law 686 = .ok (.iload_n 3, 1) := by decide +kernel
theorem dL_law_687 : decode cL_law 687 = .ok (.iconst 1, 1) := by decide +kernel
theorem dL_law_688 : decode cL_law 688 = .ok (.iadd, 1) := by decide +kernel
theorem dL_law_689 : decode cL_law 689 = .ok (.iaload, 1) := by decide +kernel
theorem dL_law_690 : decode cL_law 690 = .ok (.aload_n 0, 1) := by decide +kernel
theorem dL_law_691 : decode cL_law 691 = .ok (.iload_n 3, 1) := by decide +kernel
theorem dL_law_692 : decode cL_law 692 = .ok (.iconst 2, 1) := by decide +kernel
theorem dL_law_693 : decode cL_law 693 = .ok (.iadd, 1) := by decide +kernel
theorem dL_law_694 : decode cL_law 694 = .ok (.iaload, 1) := by decide +kernel
theorem dL_law_695 : decode cL_law 695 = .ok (.aload_n 0, 1) := by decide +kernel
theorem dL_law_696 : decode cL_law 696 = .ok (.iload_n 3, 1) := by decide +kernel
theorem dL_law_697 : decode cL_law 697 = .ok (.iconst 3, 1) := by decide +kernel
theorem dL_law_698 : decode cL_law 698 = .ok (.iadd, 1) := by decide +kernel
theorem dL_law_699 : decode cL_law 699 = .ok (.iaload, 1) := by decide +kernel
theorem dL_law_700 : decode cL_law 700 = .ok (.invokevirtual 93, 3) := by decide +kernel
theorem dL_law_703 : decode cL_law 703 = .ok (.aload_n 2, 1) := by decide +kernel
theorem dL_law_704 : decode cL_law 704 = .ok (.aload_n 0, 1) := by decide +kernel
theorem dL_law_705 : decode cL_law 705 = .ok (.iload_n 3, 1) := by decide +kernel
theorem dL_law_706 : decode cL_law 706 = .ok (.iconst 1, 1) := by decide +kernel
theorem dL_law_707 : decode cL_law 707 = .ok (.iadd, 1) := by decide +kernel
theorem dL_law_708 : decode cL_law 708 = .ok (.iaload, 1) := by decide +kernel
theorem dL_law_709 : decode cL_law 709 = .ok (.aload_n 0, 1) := by decide +kernel
theorem dL_law_710 : decode cL_law 710 = .ok (.iload_n 3, 1) := by decide +kernel
theorem dL_law_711 : decode cL_law 711 = .ok (.iconst 2, 1) := by decide +kernel
theorem dL_law_712 : decode cL_law 712 = .ok (.iadd, 1) := by decide +kernel
theorem dL_law_713 : decode cL_law 713 = .ok (.iaload, 1) := by decide +kernel
theorem dL_law_714 : decode cL_law 714 = .ok (.aload_n 0, 1) := by decide +kernel
theorem dL_law_715 : decode cL_law 715 = .ok (.iload_n 3, 1) := by decide +kernel
theorem dL_law_716 : decode cL_law 716 = .ok (.iconst 3, 1) := by decide +kernel
theorem dL_law_717 : decode cL_law 717 = .ok (.iadd, 1) := by decide +kernel
theorem dL_law_718 : decode cL_law 718 = .ok (.iaload, 1) := by decide +kernel
theorem dL_law_719 : decode cL_law 719 = .ok (.invokevirtual 96, 3) := by decide +kernel
theorem dL_law_722 : decode cL_law 722 = .ok (.if_icmp .eq 295, 3) := by decide +kernel
theorem dL_law_725 : decode cL_law 725 = .ok (.iconst 0, 1) := by decide +kernel
theorem dL_law_726 : decode cL_law 726 = .ok (.ireturn, 1) := by decide +kernel
theorem dL_law_727 : decode cL_law 727 = .ok (.aload_n 1, 1) := by decide +kernel
theorem dL_law_728 : decode cL_law 728 = .ok (.invokevirtual 97, 3) := by decide +kernel
theorem dL_law_731 : decode cL_law 731 = .ok (.aload_n 2, 1) := by decide +kernel
theorem dL_law_732 : decode cL_law 732 = .ok (.invokevirtual 100, 3) := by decide +kernel
theorem dL_law_735 : decode cL_law 735 = .ok (.if_icmp .eq 282, 3) := by decide +kernel
theorem dL_law_738 : decode cL_law 738 = .ok (.iconst 0, 1) := by decide +kernel
theorem dL_law_739 : decode cL_law 739 = .ok (.ireturn, 1) := by decide +kernel
theorem dL_law_740 : decode cL_law 740 = .ok (.aload_n 1, 1) := by decide +kernel
theorem dL_law_741 : decode cL_law 741 = .ok (.invokevirtual 101, 3) := by decide +kernel
theorem dL_law_744 : decode cL_law 744 = .ok (.aload_n 2, 1) := by decide +kernel
theorem dL_law_745 : decode cL_law 745 = .ok (.invokevirtual 104, 3) := by decide +kernel
theorem dL_law_748 : decode cL_law 748 = .ok (.if_icmp .eq 269, 3) := by decide +kernel
theorem dL_law_751 : decode cL_law 751 = .ok (.iconst 0, 1) := by decide +kernel
theorem dL_law_752 : decode cL_law 752 = .ok (.ireturn, 1) := by decide +kernel
theorem dL_law_753 : decode cL_law 753 = .ok (.aload_n 1, 1) := by decide +kernel
theorem dL_law_754 : decode cL_law 754 = .ok (.aload_n 0, 1) := by decide +kernel
theorem dL_law_755 : decode cL_law 755 = .ok (.iload_n 3, 1) := by decide +kernel
theorem dL_law_756 : decode cL_law 756 = .ok (.iconst 1, 1) := by decide +kernel
theorem dL_law_757 : decode cL_law 757 = .ok (.iadd, 1) := by decide +kernel
theorem dL_law_758 : decode cL_law 758 = .ok (.iaload, 1) := by decide +kernel
theorem dL_law_759 : decode cL_law 759 = .ok (.aload_n 0, 1) := by decide +kernel
theorem dL_law_760 : decode cL_law 760 = .ok (.iload_n 3, 1) := by decide +kernel
theorem dL_law_761 : decode cL_law 761 = .ok (.iconst 2, 1) := by decide +kernel
theorem dL_law_762 : decode cL_law 762 = .ok (.iadd, 1) := by decide +kernel
theorem dL_law_763 : decode cL_law 763 = .ok (.iaload, 1) := by decide +kernel
theorem dL_law_764 : decode cL_law 764 = .ok (.ifCond .eq 7, 3) := by decide +kernel
theorem dL_law_767 : decode cL_law 767 = .ok (.iconst 1, 1) := by decide +kernel
theorem dL_law_768 : decode cL_law 768 = .ok (.goto 4, 3) := by decide +kernel
theorem dL_law_771 : decode cL_law 771 = .ok (.iconst 0, 1) := by decide +kernel
theorem dL_law_772 : decode cL_law 772 = .ok (.invokevirtual 105, 3) := by decide +kernel
theorem dL_law_775 : decode cL_law 775 = .ok (.aload_n 2, 1) := by decide +kernel
theorem dL_law_776 : decode cL_law 776 = .ok (.aload_n 0, 1) := by decide +kernel
theorem dL_law_777 : decode cL_law 777 = .ok (.iload_n 3, 1) := by decide +kernel
theorem dL_law_778 : decode cL_law 778 = .ok (.iconst 1, 1) := by decide +kernel
theorem dL_law_779 : decode cL_law 779 = .ok (.iadd, 1) := by decide +kernel
theorem dL_law_780 : decode cL_law 780 = .ok (.iaload, 1) := by decide +kernel
theorem dL_law_781 : decode cL_law 781 = .ok (.aload_n 0, 1) := by decide +kernel
theorem dL_law_782 : decode cL_law 782 = .ok (.iload_n 3, 1) := by decide +kernel
theorem dL_law_783 : decode cL_law 783 = .ok (.iconst 2, 1) := by decide +kernel
theorem dL_law_784 : decode cL_law 784 = .ok (.iadd, 1) := by decide +kernel
theorem dL_law_785 : decode cL_law 785 = .ok (.iaload, 1) := by decide +kernel
theorem dL_law_786 : decode cL_law 786 = .ok (.ifCond .eq 7, 3) := by decide +kernel
theorem dL_law_789 : decode cL_law 789 = .ok (.iconst 1, 1) := by decide +kernel
theorem dL_law_790 : decode cL_law 790 = .ok (.goto 4, 3) := by decide +kernel
theorem dL_law_793 : decode cL_law 793 = .ok (.iconst 0, 1) := by decide +kernel
theorem dL_law_794 : decode cL_law 794 = .ok (.invokevirtual 109, 3) := by decide +kernel
theorem dL_law_797 : decode cL_law 797 = .ok (.if_icmp .eq 220, 3) := by decide +kernel
theorem dL_law_800 : decode cL_law 800 = .ok (.iconst 0, 1) := by decide +kernel
theorem dL_law_801 : decode cL_law 801 = .ok (.ireturn, 1) := by decide +kernel
theorem dL_law_802 : decode cL_law 802 = .ok (.aload_n 1, 1) := by decide +kernel
theorem dL_law_803 : decode cL_law 803 = .ok (.aload_n 0, 1) := by decide +kernel
theorem dL_law_804 : decode cL_law 804 = .ok (.iload_n 3, 1) := by decide +kernel
theorem dL_law_805 : decode cL_law 805 = .ok (.iconst 1, 1) := by decide +kernel
theorem dL_law_806 : decode cL_law 806 = .ok (.iadd, 1) := by decide +kernel
theorem dL_law_807 : decode cL_law 807 = .ok (.iaload, 1) := by decide +kernel
theorem dL_law_808 : decode cL_law 808 = .ok (.aload_n 0, 1) := by decide +kernel
theorem dL_law_809 : decode cL_law 809 = .ok (.iload_n 3, 1) := by decide +kernel
theorem dL_law_810 : decode cL_law 810 = .ok (.iconst 2, 1) := by decide +kernel
theorem dL_law_811 : decode cL_law 811 = .ok (.iadd, 1) := by decide +kernel
theorem dL_law_812 : decode cL_law 812 = .ok (.iaload, 1) := by decide +kernel
theorem dL_law_813 : decode cL_law 813 = .ok (.aload_n 0, 1) := by decide +kernel
theorem dL_law_814 : decode cL_law 814 = .ok (.iload_n 3, 1) := by decide +kernel
theorem dL_law_815 : decode cL_law 815 = .ok (.iconst 3, 1) := by decide +kernel
theorem dL_law_816 : decode cL_law 816 = .ok (.iadd, 1) := by decide +kernel
theorem dL_law_817 : decode cL_law 817 = .ok (.iaload, 1) := by decide +kernel
theorem dL_law_818 : decode cL_law 818 = .ok (.aload_n 0, 1) := by decide +kernel
theorem dL_law_819 : decode cL_law 819 = .ok (.iload_n 3, 1) := by decide +kernel
theorem dL_law_820 : decode cL_law 820 = .ok (.iconst 4, 1) := by decide +kernel
theorem dL_law_821 : decode cL_law 821 = .ok (.iadd, 1) := by decide +kernel
theorem dL_law_822 : decode cL_law 822 = .ok (.iaload, 1) := by decide +kernel
theorem dL_law_823 : decode cL_law 823 = .ok (.ifCond .eq 7, 3) := by decide +kernel
theorem dL_law_826 : decode cL_law 826 = .ok (.iconst 1, 1) := by decide +kernel
theorem dL_law_827 : decode cL_law 827 = .ok (.goto 4, 3) := by decide +kernel
theorem dL_law_830 : decode cL_law 830 = .ok (.iconst 0, 1) := by decide +kernel
theorem dL_law_831 : decode cL_law 831 = .ok (.invokevirtual 110, 3) := by decide +kernel
theorem dL_law_834 : decode cL_law 834 = .ok (.aload_n 2, 1) := by decide +kernel
theorem dL_law_835 : decode cL_law 835 = .ok (.aload_n 0, 1) := by decide +kernel
theorem dL_law_836 : decode cL_law 836 = .ok (.iload_n 3, 1) := by decide +kernel
theorem dL_law_837 : decode cL_law 837 = .ok (.iconst 1, 1) := by decide +kernel
theorem dL_law_838 : decode cL_law 838 = .ok (.iadd, 1) := by decide +kernel
theorem dL_law_839 : decode cL_law 839 = .ok (.iaload, 1) := by decide +kernel
theorem dL_law_840 : decode cL_law 840 = .ok (.aload_n 0, 1) := by decide +kernel
theorem dL_law_841 : decode cL_law 841 = .ok (.iload_n 3, 1) := by decide +kernel
theorem dL_law_842 : decode cL_law 842 = .ok (.iconst 2, 1) := by decide +kernel
theorem dL_law_843 : decode cL_law 843 = .ok (.iadd, 1) := by decide +kernel
theorem dL_law_844 : decode cL_law 844 = .ok (.iaload, 1) := by decide +kernel
theorem dL_law_845 : decode cL_law 845 = .ok (.aload_n 0, 1) := by decide +kernel
theorem dL_law_846 : decode cL_law 846 = .ok (.iload_n 3, 1) := by decide +kernel
theorem dL_law_847 : decode cL_law 847 = .ok (.iconst 3, 1) := by decide +kernel
theorem dL_law_848 : decode cL_law 848 = .ok (.iadd, 1) := by decide +kernel
theorem dL_law_849 : decode cL_law 849 = .ok (.iaload, 1) := by decide +kernel
theorem dL_law_850 : decode cL_law 850 = .ok (.aload_n 0, 1) := by decide +kernel
theorem dL_law_851 : decode cL_law 851 = .ok (.iload_n 3, 1) := by decide +kernel
theorem dL_law_852 : decode cL_law 852 = .ok (.iconst 4, 1) := by decide +kernel
theorem dL_law_853 : decode cL_law 853 = .ok (.iadd, 1) := by decide +kernel
theorem dL_law_854 : decode cL_law 854 = .ok (.iaload, 1) := by decide +kernel
theorem dL_law_855 : decode cL_law 855 = .ok (.ifCond .eq 7, 3) := by decide +kernel
theorem dL_law_858 : decode cL_law 858 = .ok (.iconst 1, 1) := by decide +kernel
theorem dL_law_859 : decode cL_law 859 = .ok (.goto 4, 3) := by decide +kernel
theorem dL_law_862 : decode cL_law 862 = .ok (.iconst 0, 1) := by decide +kernel
theorem dL_law_863 : decode cL_law 863 = .ok (.invokevirtual 114, 3) := by decide +kernel
theorem dL_law_866 : decode cL_law 866 = .ok (.if_icmp .eq 151, 3) := by decide +kernel
theorem dL_law_869 : decode cL_law 869 = .ok (.iconst 0, 1) := by decide +kernel
theorem dL_law_870 : decode cL_law 870 = .ok (.ireturn, 1) := by decide +kernel
theorem dL_law_871 : decode cL_law 871 = .ok (.aload_n 1, 1) := by decide +kernel
theorem dL_law_872 : decode cL_law 872 = .ok (.aload_n 0, 1) := by decide +kernel
theorem dL_law_873 : decode cL_law 873 = .ok (.iload_n 3, 1) := by decide +kernel
theorem dL_law_874 : decode cL_law 874 = .ok (.iconst 1, 1) := by decide +kernel
theorem dL_law_875 : decode cL_law 875 = .ok (.iadd, 1) := by decide +kernel
theorem dL_law_876 : decode cL_law 876 = .ok (.iaload, 1) := by decide +kernel
theorem dL_law_877 : decode cL_law 877 = .ok (.i2l, 1) := by decide +kernel
theorem dL_law_878 : decode cL_law 878 = .ok (.bipush 32, 2) := by decide +kernel
theorem dL_law_880 : decode cL_law 880 = .ok (.lshl, 1) := by decide +kernel
theorem dL_law_881 : decode cL_law 881 = .ok (.aload_n 0, 1) := by decide +kernel
theorem dL_law_882 : decode cL_law 882 = .ok (.iload_n 3, 1) := by decide +kernel
theorem dL_law_883 : decode cL_law 883 = .ok (.iconst 2, 1) := by decide +kernel
theorem dL_law_884 : decode cL_law 884 = .ok (.iadd, 1) := by decide +kernel
theorem dL_law_885 : decode cL_law 885 = .ok (.iaload, 1) := by decide +kernel
theorem dL_law_886 : decode cL_law 886 = .ok (.i2l, 1) := by decide +kernel
theorem dL_law_887 : decode cL_law 887 = .ok (.ldc2_w 86, 3) := by decide +kernel
theorem dL_law_890 : decode cL_law 890 = .ok (.land, 1) := by decide +kernel
theorem dL_law_891 : decode cL_law 891 = .ok (.lor, 1) := by decide +kernel
theorem dL_law_892 : decode cL_law 892 = .ok (.invokevirtual 115, 3) := by decide +kernel
theorem dL_law_895 : decode cL_law 895 = .ok (.aload_n 2, 1) := by decide +kernel
theorem dL_law_896 : decode cL_law 896 = .ok (.aload_n 0, 1) := by decide +kernel
theorem dL_law_897 : decode cL_law 897 = .ok (.iload_n 3, 1) := by decide +kernel
theorem dL_law_898 : decode cL_law 898 = .ok (.iconst 1, 1) := by decide +kernel
theorem dL_law_899 : decode cL_law 899 = .ok (.iadd, 1) := by decide +kernel
theorem dL_law_900 : decode cL_law 900 = .ok (.iaload, 1) := by decide +kernel
theorem dL_law_901 : decode cL_law 901 = .ok (.i2l, 1) := by decide +kernel
theorem dL_law_902 : decode cL_law 902 = .ok (.bipush 32, 2) := by decide +kernel
theorem dL_law_904 : decode cL_law 904 = .ok (.lshl, 1) := by decide +kernel
theorem dL_law_905 : decode cL_law 905 = .ok (.aload_n 0, 1) := by decide +kernel
theorem dL_law_906 : decode cL_law 906 = .ok (.iload_n 3, 1) := by decide +kernel
theorem dL_law_907 : decode cL_law 907 = .ok (.iconst 2, 1) := by decide +kernel
theorem dL_law_908 : decode cL_law 908 = .ok (.iadd, 1) := by decide +kernel
theorem dL_law_909 : decode cL_law 909 = .ok (.iaload, 1) := by decide +kernel
theorem dL_law_910 : decode cL_law 910 = .ok (.i2l, 1) := by decide +kernel
theorem dL_law_911 : decode cL_law 911 = .ok (.ldc2_w 86, 3) := by decide +kernel
theorem dL_law_914 : decode cL_law 914 = .ok (.land, 1) := by decide +kernel
theorem dL_law_915 : decode cL_law 915 = .ok (.lor, 1) := by decide +kernel
theorem dL_law_916 : decode cL_law 916 = .ok (.invokevirtual 119, 3) := by decide +kernel
theorem dL_law_919 : decode cL_law 919 = .ok (.lcmp, 1) := by decide +kernel
theorem dL_law_920 : decode cL_law 920 = .ok (.ifCond .eq 97, 3) := by decide +kernel
theorem dL_law_923 : decode cL_law 923 = .ok (.iconst 0, 1) := by decide +kernel
theorem dL_law_924 : decode cL_law 924 = .ok (.ireturn, 1) := by decide +kernel
theorem dL_law_925 : decode cL_law 925 = .ok (.aload_n 1, 1) := by decide +kernel
theorem dL_law_926 : decode cL_law 926 = .ok (.aload_n 0, 1) := by decide +kernel
theorem dL_law_927 : decode cL_law 927 = .ok (.iload_n 3, 1) := by decide +kernel
theorem dL_law_928 : decode cL_law 928 = .ok (.iconst 1, 1) := by decide +kernel
theorem dL_law_929 : decode cL_law 929 = .ok (.iadd, 1) := by decide +kernel
theorem dL_law_930 : decode cL_law 930 = .ok (.iaload, 1) := by decide +kernel
theorem dL_law_931 : decode cL_law 931 = .ok (.invokevirtual 120, 3) := by decide +kernel
theorem dL_law_934 : decode cL_law 934 = .ok (.aload_n 2, 1) := by decide +kernel
theorem dL_law_935 : decode cL_law 935 = .ok (.aload_n 0, 1) := by decide +kernel
theorem dL_law_936 : decode cL_law 936 = .ok (.iload_n 3, 1) := by decide +kernel
theorem dL_law_937 : decode cL_law 937 = .ok (.iconst 1, 1) := by decide +kernel
theorem dL_law_938 : decode cL_law 938 = .ok (.iadd, 1) := by decide +kernel
theorem dL_law_939 : decode cL_law 939 = .ok (.iaload, 1) := by decide +kernel
theorem dL_law_940 : decode cL_law 940 = .ok (.invokevirtual 123, 3) := by decide +kernel
theorem dL_law_943 : decode cL_law 943 = .ok (.if_icmp .eq 74, 3) := by decide +kernel
theorem dL_law_946 : decode cL_law 946 = .ok (.iconst 0, 1) := by decide +kernel
theorem dL_law_947 : decode cL_law 947 = .ok (.ireturn, 1) := by decide +kernel
theorem dL_law_948 : decode cL_law 948 = .ok (.aload_n 1, 1) := by decide +kernel
theorem dL_law_949 : decode cL_law 949 = .ok (.aload_n 0, 1) := by decide +kernel
theorem dL_law_950 : decode cL_law 950 = .ok (.iload_n 3, 1) := by decide +kernel
theorem dL_law_951 : decode cL_law 951 = .ok (.iconst 1, 1) := by decide +kernel
theorem dL_law_952 : decode cL_law 952 = .ok (.iadd, 1) := by decide +kernel
theorem dL_law_953 : decode cL_law 953 = .ok (.iaload, 1) := by decide +kernel
theorem dL_law_954 : decode cL_law 954 = .ok (.invokevirtual 124, 3) := by decide +kernel
theorem dL_law_957 : decode cL_law 957 = .ok (.aload_n 2, 1) := by decide +kernel
theorem dL_law_958 : decode cL_law 958 = .ok (.aload_n 0, 1) := by decide +kernel
theorem dL_law_959 : decode cL_law 959 = .ok (.iload_n 3, 1) := by decide +kernel
theorem dL_law_960 : decode cL_law 960 = .ok (.iconst 1, 1) := by decide +kernel
theorem dL_law_961 : decode cL_law 961 = .ok (.iadd, 1) := by decide +kernel
theorem dL_law_962 : decode cL_law 962 = .ok (.iaload, 1) := by decide +kernel
theorem dL_law_963 : decode cL_law 963 = .ok (.invokevirtual 127, 3) := by decide +kernel
theorem dL_law_966 : decode cL_law 966 = .ok (.if_icmp .eq 51, 3) := by decide +kernel
theorem dL_law_969 : decode cL_law 969 = .ok (.iconst 0, 1) := by decide +kernel
theorem dL_law_970 : decode cL_law 970 = .ok (.ireturn, 1) := by decide +kernel
theorem dL_law_971 : decode cL_law 971 = .ok (.aload_n 1, 1) := by decide +kernel
theorem dL_law_972 : decode cL_law 972 = .ok (.aload_n 0, 1) := by decide +kernel
theorem dL_law_973 : decode cL_law 973 = .ok (.iload_n 3, 1) := by decide +kernel
theorem dL_law_974 : decode cL_law 974 = .ok (.iconst 1, 1) := by decide +kernel
theorem dL_law_975 : decode cL_law 975 = .ok (.iadd, 1) := by decide +kernel
theorem dL_law_976 : decode cL_law 976 = .ok (.iaload, 1) := by decide +kernel
theorem dL_law_977 : decode cL_law 977 = .ok (.invokevirtual 128, 3) := by decide +kernel
theorem dL_law_980 : decode cL_law 980 = .ok (.aload_n 2, 1) := by decide +kernel
theorem dL_law_981 : decode cL_law 981 = .ok (.aload_n 0, 1) := by decide +kernel
theorem dL_law_982 : decode cL_law 982 = .ok (.iload_n 3, 1) := by decide +kernel
theorem dL_law_983 : decode cL_law 983 = .ok (.iconst 1, 1) := by decide +kernel
theorem dL_law_984 : decode cL_law 984 = .ok (.iadd, 1) := by decide +kernel
theorem dL_law_985 : decode cL_law 985 = .ok (.iaload, 1) := by decide +kernel
theorem dL_law_986 : decode cL_law 986 = .ok (.invokevirtual 131, 3) := by decide +kernel
theorem dL_law_989 : decode cL_law 989 = .ok (.if_icmp .eq 28, 3) := by decide +kernel
theorem dL_law_992 : decode cL_law 992 = .ok (.iconst 0, 1) := by decide +kernel
theorem dL_law_993 : decode cL_law 993 = .ok (.ireturn, 1) := by decide +kernel
theorem dL_law_994 : decode cL_law 994 = .ok (.aload_n 1, 1) := by decide +kernel
theorem dL_law_995 : decode cL_law 995 = .ok (.aload_n 0, 1) := by decide +kernel
theorem dL_law_996 : decode cL_law 996 = .ok (.iload_n 3, 1) := by decide +kernel
theorem dL_law_997 : decode cL_law 997 = .ok (.iconst 1, 1) := by decide +kernel
theorem dL_law_998 : decode cL_law 998 = .ok (.iadd, 1) := by decide +kernel
theorem dL_law_999 : decode cL_law 999 = .ok (.iaload, 1) := by decide +kernel
theorem dL_law_1000 : decode cL_law 1000 = .ok (.invokevirtual 132, 3) := by decide +kernel
theorem dL_law_1003 : decode cL_law 1003 = .ok (.aload_n 2, 1) := by decide +kernel
theorem dL_law_1004 : decode cL_law 1004 = .ok (.aload_n 0, 1) := by decide +kernel
theorem dL_law_1005 : decode cL_law 1005 = .ok (.iload_n 3, 1) := by decide +kernel
theorem dL_law_1006 : decode cL_law 1006 = .ok (.iconst 1, 1) := by decide +kernel
theorem dL_law_1007 : decode cL_law 1007 = .ok (.iadd, 1) := by decide +kernel
theorem dL_law_1008 : decode cL_law 1008 = .ok (.iaload, 1) := by decide +kernel
theorem dL_law_1009 : decode cL_law 1009 = .ok (.invokevirtual 135, 3) := by decide +kernel
theorem dL_law_1012 : decode cL_law 1012 = .ok (.if_icmp .eq 5, 3) := by decide +kernel
theorem dL_law_1015 : decode cL_law 1015 = .ok (.iconst 0, 1) := by decide +kernel
theorem dL_law_1016 : decode cL_law 1016 = .ok (.ireturn, 1) := by decide +kernel
theorem dL_law_1017 : decode cL_law 1017 = .ok (.iinc 3 5, 3) := by decide +kernel
theorem dL_law_1020 : decode cL_law 1020 = .ok (.goto (-1002), 3) := by decide +kernel
theorem dL_law_1023 : decode cL_law 1023 = .ok (.iconst 1, 1) := by decide +kernel
theorem dL_law_1024 : decode cL_law 1024 = .ok (.ireturn, 1) := by decide +kernel
end
section
/-- the words that keep over calls -/
def gj_tb : List Cond := lw_tbl.filter goodWord
def gj_isN : Cond → Bool
  | .fieldLinkNest _ _ _ _ _ _ => true
  | .methodLinkNest _ _ _ _ => true
  | _ => false
def gj_nb : List Cond := lw_tbl.filter gj_isN
theorem gj_nb_warm {s U : State} (hW : s.WarmedH U.vm) {w : Cond} (h : w ∈ gj_nb) (hs : va_Nw w s) : va_Nw w U := by
  have hn := (List.mem_filter.mp h).2
  cases w <;> first | exact va_Nw.warmF hW hs | exact va_Nw.warmM hW hs | (simp [gj_isN] at hn)
theorem gj_nb_same {s U : State} (hv : s.vm = U.vm) {w : Cond} (h : w ∈ gj_nb) (hs : va_Nw w s) : va_Nw w U := by
  have hn := (List.mem_filter.mp h).2
  refine va_Nw.same ?_ hv hs
  cases w <;> first | rfl | (simp [gj_isN] at hn)
theorem gj_tb_in {w : Cond} (h : w ∈ gj_tb) : w ∈ lw_tbl := (List.mem_filter.mp h).1
/-! values, memory, shapes: a world of cells by handles; a handle's address is a variable -/
abbrev gj_V : Type := Int ⊕ (Int ⊕ Option Nat)
abbrev gj_M : Type := Nat → Int → Int
abbrev gj_H : Type := (Nat × List Nat) ⊕ (Bool × Nat)
abbrev gj_Y : Type := MethodName × ByteArray × Nat × Option FieldType × Room
def gI (a : Int) : gj_V := .inl a
def gL (a : Int) : gj_V := .inr (.inl a)
def gR (h : Nat) : gj_V := .inr (.inr (some h))
def gj_c (ad : Nat → Nat) : gj_V → Value
  | .inl a => .int (Int32.ofInt a)
  | .inr (.inl a) => .long (Int64.ofInt a)
  | .inr (.inr (some h)) => .ref (ad h)
  | .inr (.inr none) => .null
def gj_fv (ad : Nat → Nat) (M : gj_M) (h k : Nat) : Nat → Value
  | 0 => .int (Int32.ofInt (M h k))
  | 1 => .long (Int64.ofInt (M (h + 5000) k))
  | 2 => .null
  | g + 3 => .ref (ad g)
def gj_fs (ad : Nat → Nat) (M : gj_M) (h : Nat) : Nat → List Nat → List Value
  | _, [] => []
  | k, f :: fs => gj_fv ad M h k f :: gj_fs ad M h (k + 1) fs
def gj_e (ad : Nat → Nat) (cA cZ : ClassId) (M : gj_M) (h : Nat) : gj_H → va_E
  | .inl o => .inr (o.1, gj_fs ad M h 0 o.2)
  | .inr a => .inl (cond a.1 cZ cA, a.2, .inl (fun i => Int32.ofInt (M h i)))
def gj_w (ad : Nat → Nat) (cA cZ : ClassId) (M : gj_M) : Nat → List gj_H → va_W
  | _, [] => []
  | h, x :: xs => (ad h, gj_e ad cA cZ M h x) :: gj_w ad cA cZ M (h + 1) xs
def gj_u (M : gj_M) (h : Nat) (i v : Int) : gj_M := fun h' i' => if h' = h ∧ i' = i then v else M h' i'
abbrev gj_in (a : Int) : Prop := -2147483648 ≤ a ∧ a ≤ 2147483647
abbrev gj_in6 (a : Int) : Prop := -9223372036854775808 ≤ a ∧ a ≤ 9223372036854775807
def gj_R (M : gj_M) : Prop := ∀ h : Nat, h < 5000 → ∀ i : Int, gj_in (M h i)
theorem gj_R.u {M : gj_M} (hR : gj_R M) (h : Nat) (i : Int) {v : Int} (hv : gj_in v) : gj_R (gj_u M h i v) := by
  intro h' hh i'
  unfold gj_u
  split
  · exact hv
  · exact hR h' hh i'
theorem gj_R.uL {M : gj_M} (hR : gj_R M) (h : Nat) (i v : Int) : gj_R (gj_u M (h + 5000) i v) := by
  intro h' hh i'
  unfold gj_u
  rw [if_neg (fun q => by omega)]
  exact hR h' hh i'
theorem gj_fs_get (ad : Nat → Nat) (M : gj_M) (h : Nat) : ∀ (fs : List Nat) (n k : Nat), (gj_fs ad M h n fs)[k]? = (fs[k]?).map (gj_fv ad M h (n + k)) := by
  intro fs
  induction fs with
  | nil => intro n k; simp [gj_fs]
  | cons f fs ih =>
    intro n k
    cases k with
    | zero => simp [gj_fs]
    | succ k =>
      simp only [gj_fs, List.getElem?_cons_succ]
      rw [ih]
      congr 2
      omega
theorem gj_fs_len (ad : Nat → Nat) (M : gj_M) (h : Nat) : ∀ (fs : List Nat) (n : Nat), (gj_fs ad M h n fs).length = fs.length := by
  intro fs
  induction fs with
  | nil => intro n; rfl
  | cons f fs ih => intro n; simp [gj_fs, ih]
theorem gj_w_get (ad : Nat → Nat) (cA cZ : ClassId) (M : gj_M) : ∀ (S : List gj_H) (n k : Nat), (gj_w ad cA cZ M n S)[k]? = (S[k]?).map (fun x => (ad (n + k), gj_e ad cA cZ M (n + k) x)) := by
  intro S
  induction S with
  | nil => intro n k; simp [gj_w]
  | cons x S ih =>
    intro n k
    cases k with
    | zero => simp [gj_w]
    | succ k =>
      simp only [gj_w, List.getElem?_cons_succ]
      rw [ih]
      have e : n + 1 + k = n + (k + 1) := by omega
      rw [e]
theorem gj_w_at {ad : Nat → Nat} {cA cZ : ClassId} {M : gj_M} {S : List gj_H} {h : Nat} {x : gj_H} (hs : S[h]? = some x) : (gj_w ad cA cZ M 0 S)[h]? = some (ad h, gj_e ad cA cZ M h x) := by
  rw [gj_w_get, hs, Nat.zero_add]
  rfl
theorem gj_w_len (ad : Nat → Nat) (cA cZ : ClassId) (M : gj_M) : ∀ (S : List gj_H) (n : Nat), (gj_w ad cA cZ M n S).length = S.length := by
  intro S
  induction S with
  | nil => intro n; rfl
  | cons x S ih => intro n; simp [gj_w, ih]
/-- the world with another memory, that differs at one handle alone -/
theorem gj_w_set {ad : Nat → Nat} {cA cZ : ClassId} {M M' : gj_M} {S : List gj_H} {h : Nat} {x : gj_H} {y : va_E} (hs : S[h]? = some x) (hy : gj_e ad cA cZ M' h x = y) (ho : ∀ (j : Nat) (z : gj_H), j ≠ h → S[j]? = some z → gj_e ad cA cZ M' j z = gj_e ad cA cZ M j z) : (gj_w ad cA cZ M 0 S).set h (ad h, y) = gj_w ad cA cZ M' 0 S := by
  apply List.ext_getElem?
  intro k
  rw [gj_w_get]
  by_cases hk : k = h
  · subst hk
    rw [List.getElem?_set_self (by rw [gj_w_len]; exact (List.getElem?_eq_some_iff.mp hs).1), hs, Nat.zero_add]
    simp [hy]
  · rw [List.getElem?_set_ne (Ne.symm hk), gj_w_get]
    cases hz : S[k]? with
    | none => rfl
    | some z => simp [ho k z hk hz]
theorem gj_e_o {ad : Nat → Nat} {cA cZ : ClassId} {M M' : gj_M} {j : Nat} {z : gj_H} (h0 : ∀ i, M' j i = M j i) (h5 : ∀ i, M' (j + 5000) i = M (j + 5000) i) : gj_e ad cA cZ M' j z = gj_e ad cA cZ M j z := by
  have hf : ∀ (fs : List Nat) (n : Nat), gj_fs ad M' j n fs = gj_fs ad M j n fs := by
    intro fs
    induction fs with
    | nil => intro n; rfl
    | cons f fs ih =>
      intro n
      simp only [gj_fs, ih]
      congr 1
      match f with
      | 0 => simp [gj_fv, h0]
      | 1 => simp [gj_fv, h5]
      | 2 => rfl
      | g + 3 => rfl
  match z with
  | .inl o => simp [gj_e, hf]
  | .inr a => simp [gj_e, h0]
theorem gj_fs_set {ad : Nat → Nat} {M M' : gj_M} {h : Nat} {v : Value} : ∀ (fs : List Nat) (n k : Nat) {f : Nat}, fs[k]? = some f → gj_fv ad M' h (n + k) f = v → (∀ (j g : Nat), j ≠ n + k → fs[j - n]? = some g → n ≤ j → gj_fv ad M' h j g = gj_fv ad M h j g) → (gj_fs ad M h n fs).set k v = gj_fs ad M' h n fs := by
  intro fs n k f hk hv ho
  apply List.ext_getElem?
  intro j
  rw [gj_fs_get]
  by_cases hj : j = k
  · subst hj
    rw [List.getElem?_set_self (by rw [gj_fs_len]; exact (List.getElem?_eq_some_iff.mp hk).1), hk]
    simp [hv]
  · rw [List.getElem?_set_ne (Ne.symm hj), gj_fs_get]
    cases hz : fs[j]? with
    | none => rfl
    | some z =>
      have := ho (n + j) z (by omega) (by rw [Nat.add_sub_cancel_left]; exact hz) (by omega)
      simp [this]
/-! the locals -/
def gj_dr : Option gj_V → Option gj_V
  | some (.inr (.inl _)) => none
  | x => x
def gj_s1 : List (Option gj_V) → Nat → gj_V → List (Option gj_V)
  | [], _, _ => []
  | _ :: t, 0, v => some v :: t
  | a :: t, 1, v => gj_dr a :: gj_s1 t 0 v
  | a :: t, n + 2, v => a :: gj_s1 t (n + 1) v
def gj_s2 : List (Option gj_V) → Nat → gj_V → List (Option gj_V)
  | [], _, _ => []
  | _ :: t, 0, v => some v :: (match t with | [] => [] | _ :: t => none :: t)
  | a :: t, 1, v => gj_dr a :: gj_s2 t 0 v
  | a :: t, n + 2, v => a :: gj_s2 t (n + 1) v
def gj_l (ad : Nat → Nat) (ls : Array Slot) (nL : Nat) (lv : List (Option gj_V)) : Prop := ls.size = nL ∧ lv_wf ls ∧ ∀ (i : Nat) (v : gj_V), lv[i]? = some (some v) → ls[i]? = some (.val (gj_c ad v))
def gj_as (ad : Nat → Nat) : Nat → List (Option gj_V) → List (Nat × Value)
  | _, [] => []
  | n, some v :: t => (n, gj_c ad v) :: gj_as ad (n + 1) t
  | n, none :: t => gj_as ad (n + 1) t
theorem gj_as_mem {ad : Nat → Nat} : ∀ (lv : List (Option gj_V)) (n : Nat) (q : Nat × Value), q ∈ gj_as ad n lv ↔ ∃ (j : Nat) (v : gj_V), lv[j]? = some (some v) ∧ q = (n + j, gj_c ad v) := by
  intro lv
  induction lv with
  | nil => intro n q; simp [gj_as]
  | cons a t ih =>
    intro n q
    have step : (∃ (j : Nat) (v : gj_V), (a :: t)[j]? = some (some v) ∧ q = (n + j, gj_c ad v)) ↔ (∃ v, a = some v ∧ q = (n, gj_c ad v)) ∨ ∃ (j : Nat) (v : gj_V), t[j]? = some (some v) ∧ q = (n + 1 + j, gj_c ad v) := by
      constructor
      · rintro ⟨j, v, h1, h2⟩
        cases j with
        | zero => exact Or.inl ⟨v, by simpa using h1, by simpa using h2⟩
        | succ j => exact Or.inr ⟨j, v, by simpa using h1, by rw [h2]; congr 1; omega⟩
      · rintro (⟨v, h1, h2⟩ | ⟨j, v, h1, h2⟩)
        · exact ⟨0, v, by simp [h1], by simpa using h2⟩
        · exact ⟨j + 1, v, by simpa using h1, by rw [h2]; congr 1; omega⟩
    rw [step]
    cases a with
    | none => simp [gj_as, ih]
    | some v => simp [gj_as, ih]
theorem gj_l.has {ad : Nat → Nat} {ls : Array Slot} {nL : Nat} {lv : List (Option gj_V)} (h : gj_l ad ls nL lv) : lv_has ls nL (gj_as ad 0 lv) := by
  refine ⟨h.1, h.2.1, fun q hq => ?_⟩
  obtain ⟨j, v, h1, rfl⟩ := (gj_as_mem lv 0 q).mp hq
  simpa using h.2.2 j v h1
theorem gj_s1_get : ∀ (lv : List (Option gj_V)) (i : Nat) (v : gj_V) (j : Nat) (w : gj_V), (gj_s1 lv i v)[j]? = some (some w) → (j = i ∧ w = v) ∨ (j ≠ i ∧ lv[j]? = some (some w) ∧ ¬ (j + 1 = i ∧ ∃ a, w = gL a)) := by
  intro lv
  induction lv with
  | nil => intro i v j w h; simp [gj_s1] at h
  | cons a t ih =>
    intro i v j w h
    match i, j, h with
    | 0, 0, h => simp [gj_s1] at h; exact Or.inl ⟨rfl, h.symm⟩
    | 0, j + 1, h => simp [gj_s1] at h; exact Or.inr ⟨by omega, by simpa using h, by omega⟩
    | 1, 0, h =>
      simp only [gj_s1, List.getElem?_cons_zero, Option.some.injEq] at h
      refine Or.inr ⟨by omega, ?_, ?_⟩
      · match a, h with
        | some (.inl x), h => simpa [gj_dr] using h
        | some (.inr (.inr x)), h => simpa [gj_dr] using h
      · rintro ⟨-, x, hx⟩
        subst hx
        match a, h with
        | some (.inl x), h => simp [gj_dr, gL] at h
        | some (.inr (.inr x)), h => simp [gj_dr, gL] at h
    | 1, j + 1, h =>
      simp only [gj_s1, List.getElem?_cons_succ] at h
      rcases ih 0 v j w h with ⟨h1, h2⟩ | ⟨h1, h2, h3⟩
      · exact Or.inl ⟨by omega, h2⟩
      · exact Or.inr ⟨by omega, by simpa using h2, by omega⟩
    | n + 2, 0, h =>
      simp only [gj_s1, List.getElem?_cons_zero] at h
      exact Or.inr ⟨by omega, by simpa using h, by omega⟩
    | n + 2, j + 1, h =>
      simp only [gj_s1, List.getElem?_cons_succ] at h
      rcases ih (n + 1) v j w h with ⟨h1, h2⟩ | ⟨h1, h2, h3⟩
      · exact Or.inl ⟨by omega, h2⟩
      · exact Or.inr ⟨by omega, by simpa using h2, fun q => h3 ⟨by omega, q.2⟩⟩
theorem gj_s2_get : ∀ (lv : List (Option gj_V)) (i : Nat) (v : gj_V) (j : Nat) (w : gj_V), (gj_s2 lv i v)[j]? = some (some w) → (j = i ∧ w = v) ∨ (j ≠ i ∧ j ≠ i + 1 ∧ lv[j]? = some (some w) ∧ ¬ (j + 1 = i ∧ ∃ a, w = gL a)) := by
  intro lv
  induction lv with
  | nil => intro i v j w h; simp [gj_s2] at h
  | cons a t ih =>
    intro i v j w h
    match i, j, h with
    | 0, 0, h => simp [gj_s2] at h; exact Or.inl ⟨rfl, h.symm⟩
    | 0, j + 1, h =>
      cases t with
      | nil => simp [gj_s2] at h
      | cons b t =>
        cases j with
        | zero => simp [gj_s2] at h
        | succ j => simp [gj_s2] at h; exact Or.inr ⟨by omega, by omega, by simpa using h, by omega⟩
    | 1, 0, h =>
      simp only [gj_s2, List.getElem?_cons_zero, Option.some.injEq] at h
      refine Or.inr ⟨by omega, by omega, ?_, ?_⟩
      · match a, h with
        | some (.inl x), h => simpa [gj_dr] using h
        | some (.inr (.inr x)), h => simpa [gj_dr] using h
      · rintro ⟨-, x, hx⟩
        subst hx
        match a, h with
        | some (.inl x), h => simp [gj_dr, gL] at h
        | some (.inr (.inr x)), h => simp [gj_dr, gL] at h
    | 1, j + 1, h =>
      simp only [gj_s2, List.getElem?_cons_succ] at h
      rcases ih 0 v j w h with ⟨h1, h2⟩ | ⟨h1, h0, h2, h3⟩
      · exact Or.inl ⟨by omega, h2⟩
      · exact Or.inr ⟨by omega, by omega, by simpa using h2, by omega⟩
    | n + 2, 0, h =>
      simp only [gj_s2, List.getElem?_cons_zero] at h
      exact Or.inr ⟨by omega, by omega, by simpa using h, by omega⟩
    | n + 2, j + 1, h =>
      simp only [gj_s2, List.getElem?_cons_succ] at h
      rcases ih (n + 1) v j w h with ⟨h1, h2⟩ | ⟨h1, h0, h2, h3⟩
      · exact Or.inl ⟨by omega, h2⟩
      · exact Or.inr ⟨by omega, by omega, by simpa using h2, fun q => h3 ⟨by omega, q.2⟩⟩
theorem gj_c_cat2 {ad : Nat → Nat} {w : gj_V} : (gj_c ad w).category = 2 ↔ ∃ a, w = gL a := by
  match w with
  | .inl a => simp [gj_c, Value.category, gL]
  | .inr (.inl a) => simp [gj_c, Value.category, gL]
  | .inr (.inr (some h)) => simp [gj_c, Value.category, gL]
  | .inr (.inr none) => simp [gj_c, Value.category, gL]
theorem gj_l.s1 {ad : Nat → Nat} {ls' : Array Slot} {nL i : Nat} {lv : List (Option gj_V)} {v : gj_V} (h : lv_has ls' nL ((i, gj_c ad v) :: (gj_as ad 0 lv).filter (fun q => !(q.1 == i) && !(q.1 + 1 == i && q.2.category == 2)))) : gj_l ad ls' nL (gj_s1 lv i v) := by
  refine ⟨h.1, h.2.1, fun j w hj => ?_⟩
  rcases gj_s1_get lv i v j w hj with ⟨rfl, rfl⟩ | ⟨h1, h2, h3⟩
  · exact h.2.2 (j, gj_c ad w) List.mem_cons_self
  · refine h.2.2 (j, gj_c ad w) (List.mem_cons_of_mem _ (List.mem_filter.mpr ⟨(gj_as_mem lv 0 _).mpr ⟨j, w, h2, by simp⟩, ?_⟩))
    have h4 : ¬ (j + 1 = i ∧ (gj_c ad w).category = 2) := fun q => h3 ⟨q.1, gj_c_cat2.mp q.2⟩
    simp only [Bool.and_eq_true, Bool.not_eq_true', beq_eq_false_iff_ne, ne_eq, Bool.and_eq_false_iff]
    refine ⟨h1, ?_⟩
    by_cases q : j + 1 = i
    · exact Or.inr fun z => h4 ⟨q, z⟩
    · exact Or.inl q
theorem gj_l.s2 {ad : Nat → Nat} {ls' : Array Slot} {nL i : Nat} {lv : List (Option gj_V)} {v : gj_V} (h : lv_has ls' nL ((i, gj_c ad v) :: (gj_as ad 0 lv).filter (fun q => !(q.1 == i) && (!(q.1 == i + 1) && !(q.1 + 1 == i && q.2.category == 2))))) : gj_l ad ls' nL (gj_s2 lv i v) := by
  refine ⟨h.1, h.2.1, fun j w hj => ?_⟩
  rcases gj_s2_get lv i v j w hj with ⟨rfl, rfl⟩ | ⟨h1, h0, h2, h3⟩
  · exact h.2.2 (j, gj_c ad w) List.mem_cons_self
  · refine h.2.2 (j, gj_c ad w) (List.mem_cons_of_mem _ (List.mem_filter.mpr ⟨(gj_as_mem lv 0 _).mpr ⟨j, w, h2, by simp⟩, ?_⟩))
    have h4 : ¬ (j + 1 = i ∧ (gj_c ad w).category = 2) := fun q => h3 ⟨q.1, gj_c_cat2.mp q.2⟩
    simp only [Bool.and_eq_true, Bool.not_eq_true', beq_eq_false_iff_ne, ne_eq, Bool.and_eq_false_iff]
    refine ⟨h1, h0, ?_⟩
    by_cases q : j + 1 = i
    · exact Or.inr fun z => h4 ⟨q, z⟩
    · exact Or.inl q
/-- fewer known locals -/
def gj_le : List (Option gj_V) → List (Option gj_V) → Prop
  | [], _ => True
  | none :: t, _ :: t' => gj_le t t'
  | some v :: t, w :: t' => w = some v ∧ gj_le t t'
  | none :: t, [] => gj_le t []
  | some _ :: _, [] => False
theorem gj_le_get : ∀ (a b : List (Option gj_V)) (i : Nat) (v : gj_V), gj_le a b → a[i]? = some (some v) → b[i]? = some (some v) := by
  intro a
  induction a with
  | nil => intro b i v _ h; simp at h
  | cons x t ih =>
    intro b i v hl h
    match x, b, hl with
    | none, [], hl =>
      cases i with
      | zero => simp at h
      | succ i => have := ih [] i v hl (by simpa using h); simp at this
    | none, y :: t', hl =>
      cases i with
      | zero => simp at h
      | succ i => simpa using ih t' i v hl (by simpa using h)
    | some z, y :: t', hl =>
      cases i with
      | zero => simp at h ⊢; rw [hl.1, h]
      | succ i => simpa using ih t' i v hl.2 (by simpa using h)
/-! the judgement -/
def gj_tens (j : Nat) : Int := match j with | 0 => 1 | 1 => 10 | 2 => 100 | 3 => 1000 | _ => 10000
def gj_X (ad : Nat → Nat) (A : Nat → Prop) (xt : Nat × (Nat → Int)) (s : State) (H : Heap) : Prop :=
  va_Z "CelSheets" "TENS" "[I" (.ref (ad 1000)) A s H ∧ va_T .int (ad 1000) 5 (fun j => .int (Int32.ofInt (gj_tens j))) A s H ∧ va_T .int (ad 1001) xt.1 (fun j => .int (Int32.ofInt (xt.2 j))) A s H ∧ ∀ w ∈ gj_nb, va_Nw w s
def gj_C (xt : Nat × (Nat → Int)) (Y : gj_Y) (p : Program) (s : State) (m : MethodId) (args : Array Value) (meth : Method) (c : Code) (ad : Nat → Nat) (A : Nat → Prop) : Prop :=
  p.tables.exec = Jvm.exec ∧ c.code = Y.2.1 ∧ c.maxLocals = Y.2.2.1 ∧ s.vm.findClass Y.1.cls = some m.cls ∧ (∀ w ∈ gj_tb, w.before args s = true) ∧ meth.name = Y.1.name ∧ (∀ q : Nat, s.heap.size ≤ q → A q) ∧ gj_X ad A xt s s.heap
def gj_Wd (ad : Nat → Nat) (cA cZ : ClassId) (D : va_G) (A : Nat → Prop) (S : List gj_H) (M : gj_M) (s : State) (H : Heap) (locs : List Loc) : Prop :=
  va_P D vwCl (gj_w ad cA cZ M 0 S) H ∧ va_D A (gj_w ad cA cZ M 0 S) ∧ va_K D vwCl [(cA, .int), (cZ, .boolean)] s ∧ va_S A s.heap H locs ∧ gj_R M ∧ S.length ≤ 1000
def gj_ri : Option gj_V → Instr
  | none => .return_
  | some (.inl _) => .ireturn
  | some (.inr (.inl _)) => .lreturn
  | some (.inr (.inr _)) => .areturn
def gj_ro (ret : Option FieldType) : Option gj_V → Prop
  | none => ret = none
  | some (.inl a) => ret = some .int ∨ (ret = some .boolean ∧ (a = 0 ∨ a = 1))
  | some (.inr (.inl _)) => ret = some .long
  | some (.inr (.inr r)) => (∃ n, ret = some (.object n)) ∧ ∃ h, r = some h
def gj_ag (S S' : List gj_H) (ad ad' : Nat → Nat) : Prop := S.length ≤ S'.length ∧ (S'.length = S.length → ad' = ad) ∧ ∀ h : Nat, (h < S.length ∨ 1000 ≤ h) → ad' h = ad h
theorem gj_ag.rf {S S' : List gj_H} {ad : Nat → Nat} (h : S.length = S'.length) : gj_ag S S' ad ad := ⟨by omega, fun _ => rfl, fun _ _ => rfl⟩
theorem gj_ag.tr {S S' S'' : List gj_H} {ad ad' ad'' : Nat → Nat} (h : gj_ag S S' ad ad') (g : gj_ag S' S'' ad' ad'') : gj_ag S S'' ad ad'' := by
  refine ⟨Nat.le_trans h.1 g.1, fun q => ?_, fun x hx => ?_⟩
  · have h1 := h.1
    have g1 := g.1
    rw [g.2.1 (by omega), h.2.1 (by omega)]
  · rw [g.2.2 x (by have := h.1; omega), h.2.2 x hx]
def gj_G (xt : Nat × (Nat → Int)) (Y : gj_Y) (S : List gj_H) (k n pc : Nat) (lv : List (Option gj_V)) (st : List gj_V) (M : gj_M) (Q : Option gj_V → List gj_H → gj_M → Prop) : Prop :=
  ∀ (p : Program) (l : Launch) (e : Env) (s : State) (m : MethodId) (args : Array Value) (below : List Frame) (meth : Method) (c : Code) (H : Heap) (locs : List Loc) (ls : Array Slot) (ad : Nat → Nat) (cA cZ : ClassId) (D : va_G) (A : Nat → Prop) (Z : State → Prop),
    gj_C xt Y p s m args meth c ad A → gj_Wd ad cA cZ D A S M s H locs → gj_l ad ls Y.2.2.1 lv →
    (∀ (rv : Option gj_V) (S' : List gj_H) (M' : gj_M) (H' : Heap) (locs' : List Loc) (pc' : Nat) (ls' : Array Slot) (ad' : Nat → Nat), Q rv S' M' → gj_ro Y.2.2.2.1 rv → gj_ag S S' ad ad' → gj_Wd ad' cA cZ D A S' M' s H' locs' → decode Y.2.1 pc' = .ok (gj_ri rv, 1) → W p l e Y.2.2.2.2 s m args below meth c H' locs' Y.2.2.2.2.cells Y.2.2.2.2.slots Z (F0 m pc' ls' (rv.toList.map (gj_c ad')))) →
    W p l e Y.2.2.2.2 s m args below meth c H locs k n Z (F0 m pc ls (st.map (gj_c ad)))
end
section
/-! whole numbers as the machine has them -/
theorem gj_ti {a : Int} (h : gj_in a) : (Int32.ofInt a).toInt = a := Int32.toInt_ofInt_of_le (by have := h.1; omega) (by have := h.2; omega)
theorem gj_tl {a : Int} (h : gj_in6 a) : (Int64.ofInt a).toInt = a := Int64.toInt_ofInt_of_le (by have := h.1; omega) (by have := h.2; omega)
theorem gj_eq {a b : Int} (ha : gj_in a) (hb : gj_in b) : Int32.ofInt a = Int32.ofInt b ↔ a = b := by
  rw [← Int32.toInt_inj, gj_ti ha, gj_ti hb]
theorem gj_lt {a b : Int} (ha : gj_in a) (hb : gj_in b) : Int32.ofInt a < Int32.ofInt b ↔ a < b := by
  rw [Int32.lt_iff_toInt_lt, gj_ti ha, gj_ti hb]
theorem gj_lq {a b : Int} (ha : gj_in a) (hb : gj_in b) : Int32.ofInt a ≤ Int32.ofInt b ↔ a ≤ b := by
  rw [Int32.le_iff_toInt_le, gj_ti ha, gj_ti hb]
theorem gj_0 : Int32.ofInt 0 = 0 := by decide
theorem gj_cl {a : Int} (h : gj_in a) : (Int32.ofInt a).toNatClampNeg = a.toNat := by
  show (Int32.ofInt a).toInt.toNat = a.toNat
  rw [gj_ti h]
theorem gj_vin {a : Int} {n : Nat} (h : 0 ≤ a ∧ a < n) (ha : gj_in a) : vp_in (Int32.ofInt a) n := by
  intro q
  rcases q with q | q
  · rw [← gj_0, gj_lt ha ⟨by omega, by omega⟩] at q
    omega
  · rw [gj_cl ha] at q
    omega
section GR
variable {xt : Nat × (Nat → Int)} {Y : gj_Y} {S : List gj_H} {k n pc : Nat} {lv lv' : List (Option gj_V)} {st : List gj_V} {M : gj_M} {Q : Option gj_V → List gj_H → gj_M → Prop}
theorem gj_iconst {z : Int} (np : Nat) (hd : decode Y.2.1 pc = .ok (.iconst z, 1)) (hp : pc + 1 = np) (kk : gj_G xt Y S k n np lv (gI z :: st) M Q) : gj_G xt Y S k n pc lv st M Q := by
  subst hp
  intro p l e s m args below meth c H locs ls ad cA cZ D A Z hC hW hL hR
  exact lv_iconst hC.1 hC.2.1 hd rfl (kk p l e s m args below meth c H locs ls ad cA cZ D A Z hC hW hL hR)
theorem gj_bipush {z : Int} (np : Nat) (hd : decode Y.2.1 pc = .ok (.bipush z, 2)) (hp : pc + 2 = np) (hz : -128 ≤ z ∧ z ≤ 127) (kk : gj_G xt Y S k n np lv (gI z :: st) M Q) : gj_G xt Y S k n pc lv st M Q := by
  subst hp
  intro p l e s m args below meth c H locs ls ad cA cZ D A Z hC hW hL hR
  refine lv_bipush (v := Int32.ofInt z) hC.1 hC.2.1 hd ?_ (kk p l e s m args below meth c H locs ls ad cA cZ D A Z hC hW hL hR)
  rw [← Int32.toInt_inj, gj_ti ⟨by omega, by omega⟩, Int8.toInt_toInt32, Int8.toInt_ofInt_of_le (by omega) (by omega)]
theorem gj_sipush {z : Int} (np : Nat) (hd : decode Y.2.1 pc = .ok (.sipush z, 3)) (hp : pc + 3 = np) (hz : -32768 ≤ z ∧ z ≤ 32767) (kk : gj_G xt Y S k n np lv (gI z :: st) M Q) : gj_G xt Y S k n pc lv st M Q := by
  subst hp
  intro p l e s m args below meth c H locs ls ad cA cZ D A Z hC hW hL hR
  refine lv_sipush (v := Int32.ofInt z) hC.1 hC.2.1 hd ?_ (kk p l e s m args below meth c H locs ls ad cA cZ D A Z hC hW hL hR)
  rw [← Int32.toInt_inj, gj_ti ⟨by omega, by omega⟩, Int16.toInt_toInt32, Int16.toInt_ofInt_of_le (by omega) (by omega)]
theorem gj_lconst {z : Fin 2} {a : Int} (np : Nat) (hd : decode Y.2.1 pc = .ok (.lconst z, 1)) (hp : pc + 1 = np) (ha : ((z : Nat) : Int) = a) (kk : gj_G xt Y S k n np lv (gL a :: st) M Q) : gj_G xt Y S k n pc lv st M Q := by
  subst hp
  intro p l e s m args below meth c H locs ls ad cA cZ D A Z hC hW hL hR
  refine lv_lconst (v := Int64.ofInt a) hC.1 hC.2.1 hd ?_ (kk p l e s m args below meth c H locs ls ad cA cZ D A Z hC hW hL hR)
  subst ha
  exact (Int64.ofInt_eq_ofNat).symm
theorem gj_ldc2 {idx : Nat} {a : Int} (np : Nat) (hd : decode Y.2.1 pc = .ok (.ldc2_w idx, 3)) (hp : pc + 3 = np) (hw : Cond.constantLong Y.1.cls idx (Int64.ofInt a) ∈ gj_tb) (kk : gj_G xt Y S k n np lv (gL a :: st) M Q) : gj_G xt Y S k n pc lv st M Q := by
  subst hp
  intro p l e s m args below meth c H locs ls ad cA cZ D A Z hC hW hL hR
  exact lv_ldc2 hC.1 hC.2.1 hC.2.2.2.1 (hC.2.2.2.2.1 _ hw) hd (kk p l e s m args below meth c H locs ls ad cA cZ D A Z hC hW hL hR)
theorem gj_iload_n {i : Fin 4} {a : Int} (np : Nat) (hd : decode Y.2.1 pc = .ok (.iload_n i, 1)) (hp : pc + 1 = np) (hv : lv[(i : Nat)]? = some (some (gI a))) (kk : gj_G xt Y S k n np lv (gI a :: st) M Q) : gj_G xt Y S k n pc lv st M Q := by
  subst hp
  intro p l e s m args below meth c H locs ls ad cA cZ D A Z hC hW hL hR
  exact lv_iload_n hC.1 hC.2.1 hd rfl (hL.2.2 _ _ hv) (kk p l e s m args below meth c H locs ls ad cA cZ D A Z hC hW hL hR)
theorem gj_iload {i : Nat} {a : Int} (np : Nat) (hd : decode Y.2.1 pc = .ok (.iload i, 2)) (hp : pc + 2 = np) (hv : lv[i]? = some (some (gI a))) (kk : gj_G xt Y S k n np lv (gI a :: st) M Q) : gj_G xt Y S k n pc lv st M Q := by
  subst hp
  intro p l e s m args below meth c H locs ls ad cA cZ D A Z hC hW hL hR
  exact lv_iload hC.1 hC.2.1 hd (hL.2.2 _ _ hv) (kk p l e s m args below meth c H locs ls ad cA cZ D A Z hC hW hL hR)
theorem gj_lload_n {i : Fin 4} {a : Int} (np : Nat) (hd : decode Y.2.1 pc = .ok (.lload_n i, 1)) (hp : pc + 1 = np) (hv : lv[(i : Nat)]? = some (some (gL a))) (kk : gj_G xt Y S k n np lv (gL a :: st) M Q) : gj_G xt Y S k n pc lv st M Q := by
  subst hp
  intro p l e s m args below meth c H locs ls ad cA cZ D A Z hC hW hL hR
  exact lv_lload_n hC.1 hC.2.1 hd rfl (hL.2.2 _ _ hv) (kk p l e s m args below meth c H locs ls ad cA cZ D A Z hC hW hL hR)
theorem gj_lload {i : Nat} {a : Int} (np : Nat) (hd : decode Y.2.1 pc = .ok (.lload i, 2)) (hp : pc + 2 = np) (hv : lv[i]? = some (some (gL a))) (kk : gj_G xt Y S k n np lv (gL a :: st) M Q) : gj_G xt Y S k n pc lv st M Q := by
  subst hp
  intro p l e s m args below meth c H locs ls ad cA cZ D A Z hC hW hL hR
  exact lv_lload hC.1 hC.2.1 hd (hL.2.2 _ _ hv) (kk p l e s m args below meth c H locs ls ad cA cZ D A Z hC hW hL hR)
theorem gj_aload_n {i : Fin 4} {h : Nat} (np : Nat) (hd : decode Y.2.1 pc = .ok (.aload_n i, 1)) (hp : pc + 1 = np) (hv : lv[(i : Nat)]? = some (some (gR h))) (kk : gj_G xt Y S k n np lv (gR h :: st) M Q) : gj_G xt Y S k n pc lv st M Q := by
  subst hp
  intro p l e s m args below meth c H locs ls ad cA cZ D A Z hC hW hL hR
  exact lv_aload_n hC.1 hC.2.1 hd rfl (hL.2.2 _ _ hv) (kk p l e s m args below meth c H locs ls ad cA cZ D A Z hC hW hL hR)
theorem gj_astore_n {i : Fin 4} {h : Nat} (np : Nat) (hd : decode Y.2.1 pc = .ok (.astore_n i, 1)) (hp : pc + 1 = np) (hi : (i : Nat) < Y.2.2.1) (hl : gj_s1 lv i (gR h) = lv') (kk : gj_G xt Y S k n np lv' st M Q) : gj_G xt Y S k n pc lv (gR h :: st) M Q := by
  subst hp
  subst hl
  intro p l e s m args below meth c H locs ls ad cA cZ D A Z hC hW hL hR
  exact lv_astore_n hC.1 hC.2.1 hd rfl hL.has hi rfl (fun ls' hl' => kk p l e s m args below meth c H locs ls' ad cA cZ D A Z hC hW (gj_l.s1 hl') hR)
theorem gj_istore_n {i : Fin 4} {a : Int} (np : Nat) (hd : decode Y.2.1 pc = .ok (.istore_n i, 1)) (hp : pc + 1 = np) (hi : (i : Nat) < Y.2.2.1) (hl : gj_s1 lv i (gI a) = lv') (kk : gj_G xt Y S k n np lv' st M Q) : gj_G xt Y S k n pc lv (gI a :: st) M Q := by
  subst hp
  subst hl
  intro p l e s m args below meth c H locs ls ad cA cZ D A Z hC hW hL hR
  exact lv_istore_n hC.1 hC.2.1 hd rfl hL.has hi rfl (fun ls' hl' => kk p l e s m args below meth c H locs ls' ad cA cZ D A Z hC hW (gj_l.s1 hl') hR)
theorem gj_istore {i : Nat} {a : Int} (np : Nat) (hd : decode Y.2.1 pc = .ok (.istore i, 2)) (hp : pc + 2 = np) (hi : i < Y.2.2.1) (hl : gj_s1 lv i (gI a) = lv') (kk : gj_G xt Y S k n np lv' st M Q) : gj_G xt Y S k n pc lv (gI a :: st) M Q := by
  subst hp
  subst hl
  intro p l e s m args below meth c H locs ls ad cA cZ D A Z hC hW hL hR
  exact lv_istore hC.1 hC.2.1 hd hL.has hi rfl (fun ls' hl' => kk p l e s m args below meth c H locs ls' ad cA cZ D A Z hC hW (gj_l.s1 hl') hR)
theorem gj_lstore_n {i : Fin 4} {a : Int} (np : Nat) (hd : decode Y.2.1 pc = .ok (.lstore_n i, 1)) (hp : pc + 1 = np) (hi : (i : Nat) + 1 < Y.2.2.1) (hl : gj_s2 lv i (gL a) = lv') (kk : gj_G xt Y S k n np lv' st M Q) : gj_G xt Y S k n pc lv (gL a :: st) M Q := by
  subst hp
  subst hl
  intro p l e s m args below meth c H locs ls ad cA cZ D A Z hC hW hL hR
  exact lv_lstore_n hC.1 hC.2.1 hd rfl hL.has hi rfl (fun ls' hl' => kk p l e s m args below meth c H locs ls' ad cA cZ D A Z hC hW (gj_l.s2 hl') hR)
theorem gj_lstore {i : Nat} {a : Int} (np : Nat) (hd : decode Y.2.1 pc = .ok (.lstore i, 2)) (hp : pc + 2 = np) (hi : i + 1 < Y.2.2.1) (hl : gj_s2 lv i (gL a) = lv') (kk : gj_G xt Y S k n np lv' st M Q) : gj_G xt Y S k n pc lv (gL a :: st) M Q := by
  subst hp
  subst hl
  intro p l e s m args below meth c H locs ls ad cA cZ D A Z hC hW hL hR
  exact lv_lstore hC.1 hC.2.1 hd hL.has hi rfl (fun ls' hl' => kk p l e s m args below meth c H locs ls' ad cA cZ D A Z hC hW (gj_l.s2 hl') hR)
theorem gj_iinc {i : Nat} {a z b : Int} (np : Nat) (hd : decode Y.2.1 pc = .ok (.iinc i z, 3)) (hp : pc + 3 = np) (hv : lv[i]? = some (some (gI a))) (hb : a + z = b) (hi : i < Y.2.2.1) (hl : gj_s1 lv i (gI b) = lv') (kk : gj_G xt Y S k n np lv' st M Q) : gj_G xt Y S k n pc lv st M Q := by
  subst hp
  subst hl
  subst hb
  intro p l e s m args below meth c H locs ls ad cA cZ D A Z hC hW hL hR
  obtain ⟨j, hj⟩ := List.getElem?_of_mem ((gj_as_mem (ad := ad) lv 0 (i, gj_c ad (gI a))).mpr ⟨i, gI a, hv, by simp⟩)
  exact lv_iinc hC.1 hC.2.1 hd hL.has hj (v := Int32.ofInt (a + z)) (by rw [Int32.ofInt_add]) hi rfl (fun ls' hl' => kk p l e s m args below meth c H locs ls' ad cA cZ D A Z hC hW (gj_l.s1 hl') hR)
/-- fewer known locals -/
theorem gj_drop (lv' : List (Option gj_V)) (hle : gj_le lv' lv) (kk : gj_G xt Y S k n pc lv' st M Q) : gj_G xt Y S k n pc lv st M Q := by
  intro p l e s m args below meth c H locs ls ad cA cZ D A Z hC hW hL hR
  exact kk p l e s m args below meth c H locs ls ad cA cZ D A Z hC hW ⟨hL.1, hL.2.1, fun i v hi => hL.2.2 i v (gj_le_get lv' lv i v hle hi)⟩ hR
theorem gj_iadd {a b : Int} (np : Nat) (hd : decode Y.2.1 pc = .ok (.iadd, 1)) (hp : pc + 1 = np) (kk : gj_G xt Y S k n np lv (gI (a + b) :: st) M Q) : gj_G xt Y S k n pc lv (gI b :: gI a :: st) M Q := by
  subst hp
  intro p l e s m args below meth c H locs ls ad cA cZ D A Z hC hW hL hR
  have hk := kk p l e s m args below meth c H locs ls ad cA cZ D A Z hC hW hL hR
  refine lv_iadd hC.1 hC.2.1 hd ?_
  rw [← Int32.ofInt_add]
  exact hk
theorem gj_isub {a b : Int} (np : Nat) (hd : decode Y.2.1 pc = .ok (.isub, 1)) (hp : pc + 1 = np) (kk : gj_G xt Y S k n np lv (gI (a - b) :: st) M Q) : gj_G xt Y S k n pc lv (gI b :: gI a :: st) M Q := by
  subst hp
  intro p l e s m args below meth c H locs ls ad cA cZ D A Z hC hW hL hR
  have hk := kk p l e s m args below meth c H locs ls ad cA cZ D A Z hC hW hL hR
  refine lv_isub hC.1 hC.2.1 hd ?_
  rw [← Int32.ofInt_sub]
  exact hk
theorem gj_imul {a b : Int} (np : Nat) (hd : decode Y.2.1 pc = .ok (.imul, 1)) (hp : pc + 1 = np) (kk : gj_G xt Y S k n np lv (gI (a * b) :: st) M Q) : gj_G xt Y S k n pc lv (gI b :: gI a :: st) M Q := by
  subst hp
  intro p l e s m args below meth c H locs ls ad cA cZ D A Z hC hW hL hR
  have hk := kk p l e s m args below meth c H locs ls ad cA cZ D A Z hC hW hL hR
  refine lv_imul hC.1 hC.2.1 hd ?_
  rw [← Int32.ofInt_mul]
  exact hk
theorem gj_ineg {a : Int} (np : Nat) (hd : decode Y.2.1 pc = .ok (.ineg, 1)) (hp : pc + 1 = np) (kk : gj_G xt Y S k n np lv (gI (-a) :: st) M Q) : gj_G xt Y S k n pc lv (gI a :: st) M Q := by
  subst hp
  intro p l e s m args below meth c H locs ls ad cA cZ D A Z hC hW hL hR
  have hk := kk p l e s m args below meth c H locs ls ad cA cZ D A Z hC hW hL hR
  refine lv_ineg hC.1 hC.2.1 hd ?_
  rw [← Int32.ofInt_neg]
  exact hk
theorem gj_idiv {a b : Int} (np : Nat) (hd : decode Y.2.1 pc = .ok (.idiv, 1)) (hp : pc + 1 = np) (ha : 0 ≤ a ∧ a ≤ 2147483647) (hb : 0 < b ∧ b ≤ 2147483647) (kk : gj_G xt Y S k n np lv (gI (a / b) :: st) M Q) : gj_G xt Y S k n pc lv (gI b :: gI a :: st) M Q := by
  subst hp
  intro p l e s m args below meth c H locs ls ad cA cZ D A Z hC hW hL hR
  have hk := kk p l e s m args below meth c H locs ls ad cA cZ D A Z hC hW hL hR
  have ha' : gj_in a := ⟨by omega, by omega⟩
  have hb' : gj_in b := ⟨by omega, by omega⟩
  have hne : ¬ Int32.ofInt b = 0 := by rw [← gj_0, gj_eq hb' ⟨by omega, by omega⟩]; omega
  refine lv_idiv hC.1 hC.2.1 hd hne ?_
  have e1 : Int32.ofInt a / Int32.ofInt b = Int32.ofInt (a / b) := by
    have h1 : 0 ≤ a / b := Int.ediv_nonneg ha.1 (by omega)
    have h2 : a / b ≤ a := Int.ediv_le_self _ ha.1
    rw [← Int32.toInt_inj, Int32.toInt_div, gj_ti ha', gj_ti hb', gj_ti ⟨by omega, by omega⟩, Int.tdiv_eq_ediv_of_nonneg ha.1]
    exact Int.bmod_eq_of_le (by omega) (by omega)
  rw [e1]
  exact hk
theorem gj_irem {a b : Int} (np : Nat) (hd : decode Y.2.1 pc = .ok (.irem, 1)) (hp : pc + 1 = np) (ha : 0 ≤ a ∧ a ≤ 2147483647) (hb : 0 < b ∧ b ≤ 2147483647) (kk : gj_G xt Y S k n np lv (gI (a % b) :: st) M Q) : gj_G xt Y S k n pc lv (gI b :: gI a :: st) M Q := by
  subst hp
  intro p l e s m args below meth c H locs ls ad cA cZ D A Z hC hW hL hR
  have hk := kk p l e s m args below meth c H locs ls ad cA cZ D A Z hC hW hL hR
  have ha' : gj_in a := ⟨by omega, by omega⟩
  have hb' : gj_in b := ⟨by omega, by omega⟩
  have hne : ¬ Int32.ofInt b = 0 := by rw [← gj_0, gj_eq hb' ⟨by omega, by omega⟩]; omega
  refine lv_irem hC.1 hC.2.1 hd hne ?_
  have e1 : Int32.ofInt a / Int32.ofInt b = Int32.ofInt (a / b) := by
    have h1 : 0 ≤ a / b := Int.ediv_nonneg ha.1 (by omega)
    have h2 : a / b ≤ a := Int.ediv_le_self _ ha.1
    rw [← Int32.toInt_inj, Int32.toInt_div, gj_ti ha', gj_ti hb', gj_ti ⟨by omega, by omega⟩, Int.tdiv_eq_ediv_of_nonneg ha.1]
    exact Int.bmod_eq_of_le (by omega) (by omega)
  have e2 : a % b = a - a / b * b := by rw [Int.emod_def, Int.mul_comm]
  rw [e1, ← Int32.ofInt_mul, ← Int32.ofInt_sub, ← e2]
  exact hk
theorem gj_ior {a b : Int} (np : Nat) (hd : decode Y.2.1 pc = .ok (.ior, 1)) (hp : pc + 1 = np) (kk : gj_G xt Y S k n np lv (gI (Int32.ofInt a ||| Int32.ofInt b).toInt :: st) M Q) : gj_G xt Y S k n pc lv (gI b :: gI a :: st) M Q := by
  subst hp
  intro p l e s m args below meth c H locs ls ad cA cZ D A Z hC hW hL hR
  have hk := kk p l e s m args below meth c H locs ls ad cA cZ D A Z hC hW hL hR
  refine lv_ior hC.1 hC.2.1 hd ?_
  rw [← Int32.ofInt_toInt (Int32.ofInt a ||| Int32.ofInt b)]
  exact hk
theorem gj_iand {a b : Int} (np : Nat) (hd : decode Y.2.1 pc = .ok (.iand, 1)) (hp : pc + 1 = np) (kk : gj_G xt Y S k n np lv (gI (Int32.ofInt a &&& Int32.ofInt b).toInt :: st) M Q) : gj_G xt Y S k n pc lv (gI b :: gI a :: st) M Q := by
  subst hp
  intro p l e s m args below meth c H locs ls ad cA cZ D A Z hC hW hL hR
  have hk := kk p l e s m args below meth c H locs ls ad cA cZ D A Z hC hW hL hR
  refine lv_iand hC.1 hC.2.1 hd ?_
  rw [← Int32.ofInt_toInt (Int32.ofInt a &&& Int32.ofInt b)]
  exact hk
theorem gj_dup {v : gj_V} (np : Nat) (hd : decode Y.2.1 pc = .ok (.dup, 1)) (hp : pc + 1 = np) (hv : ∀ ad, (gj_c ad v).category = 1) (kk : gj_G xt Y S k n np lv (v :: v :: st) M Q) : gj_G xt Y S k n pc lv (v :: st) M Q := by
  subst hp
  intro p l e s m args below meth c H locs ls ad cA cZ D A Z hC hW hL hR
  exact lv_dup hC.1 hC.2.1 hd (hv ad) (kk p l e s m args below meth c H locs ls ad cA cZ D A Z hC hW hL hR)
theorem gj_dup2 {v w : gj_V} (np : Nat) (hd : decode Y.2.1 pc = .ok (.dup2, 1)) (hp : pc + 1 = np) (hv : ∀ ad, (gj_c ad v).category = 1) (hw : ∀ ad, (gj_c ad w).category = 1) (kk : gj_G xt Y S k n np lv (v :: w :: v :: w :: st) M Q) : gj_G xt Y S k n pc lv (v :: w :: st) M Q := by
  subst hp
  intro p l e s m args below meth c H locs ls ad cA cZ D A Z hC hW hL hR
  exact lv_dup2_11 hC.1 hC.2.1 hd (hv ad) (hw ad) (kk p l e s m args below meth c H locs ls ad cA cZ D A Z hC hW hL hR)
theorem gj_pop {v : gj_V} (np : Nat) (hd : decode Y.2.1 pc = .ok (.pop, 1)) (hp : pc + 1 = np) (hv : ∀ ad, (gj_c ad v).category = 1) (kk : gj_G xt Y S k n np lv st M Q) : gj_G xt Y S k n pc lv (v :: st) M Q := by
  subst hp
  intro p l e s m args below meth c H locs ls ad cA cZ D A Z hC hW hL hR
  exact lv_pop hC.1 hC.2.1 hd (hv ad) (kk p l e s m args below meth c H locs ls ad cA cZ D A Z hC hW hL hR)
theorem gj_goto {off : Int} (np : Nat) (hd : decode Y.2.1 pc = .ok (.goto off, 3)) (hp : (pc : Int) + off = (np : Int)) (kk : gj_G xt Y S k n np lv st M Q) : gj_G xt Y S k n pc lv st M Q := by
  intro p l e s m args below meth c H locs ls ad cA cZ D A Z hC hW hL hR
  exact lv_goto hC.1 hC.2.1 hd hp (kk p l e s m args below meth c H locs ls ad cA cZ D A Z hC hW hL hR)
end GR
end
section
section GB
variable {xt : Nat × (Nat → Int)} {Y : gj_Y} {S : List gj_H} {k n pc : Nat} {lv lv' : List (Option gj_V)} {st : List gj_V} {M : gj_M} {Q : Option gj_V → List gj_H → gj_M → Prop}
theorem gj_icmp_eq {a b off : Int} (tp np : Nat) (hd : decode Y.2.1 pc = .ok (.if_icmp .eq off, 3)) (ht : (pc : Int) + off = (tp : Int)) (hp : pc + 3 = np) (ha : gj_in a) (hb : gj_in b) (kt : a = b → gj_G xt Y S k n tp lv st M Q) (kf : ¬ (a = b) → gj_G xt Y S k n np lv st M Q) : gj_G xt Y S k n pc lv (gI b :: gI a :: st) M Q := by
  subst hp
  intro p l e s m args below meth c H locs ls ad cA cZ D A Z hC hW hL hR
  have e1 : (Int32.ofInt a = Int32.ofInt b) ↔ (a = b) := by
    first | exact gj_eq ha hb | exact gj_lt ha hb | exact gj_lq hb ha | exact not_congr (gj_eq ha hb) | exact gj_lt hb ha | exact gj_lq ha hb
  exact lv_icmp_eq hC.1 hC.2.1 hd ht (fun h => kt (by first | exact e1.mp h | exact e1.mp (by simpa using h)) p l e s m args below meth c H locs ls ad cA cZ D A Z hC hW hL hR) (fun h => kf (by first | exact fun q => h (e1.mpr q) | exact fun q => (e1.mpr q) h | exact fun q => absurd (e1.mpr q) (by simpa using h)) p l e s m args below meth c H locs ls ad cA cZ D A Z hC hW hL hR)
theorem gj_icmp_ne {a b off : Int} (tp np : Nat) (hd : decode Y.2.1 pc = .ok (.if_icmp .ne off, 3)) (ht : (pc : Int) + off = (tp : Int)) (hp : pc + 3 = np) (ha : gj_in a) (hb : gj_in b) (kt : ¬ a = b → gj_G xt Y S k n tp lv st M Q) (kf : ¬ (¬ a = b) → gj_G xt Y S k n np lv st M Q) : gj_G xt Y S k n pc lv (gI b :: gI a :: st) M Q := by
  subst hp
  intro p l e s m args below meth c H locs ls ad cA cZ D A Z hC hW hL hR
  have e1 : (¬ Int32.ofInt a = Int32.ofInt b) ↔ (¬ a = b) := by
    first | exact gj_eq ha hb | exact gj_lt ha hb | exact gj_lq hb ha | exact not_congr (gj_eq ha hb) | exact gj_lt hb ha | exact gj_lq ha hb
  exact lv_icmp_ne hC.1 hC.2.1 hd ht (fun h => kt (by first | exact e1.mp h | exact e1.mp (by simpa using h)) p l e s m args below meth c H locs ls ad cA cZ D A Z hC hW hL hR) (fun h => kf (by first | exact fun q => h (e1.mpr q) | exact fun q => (e1.mpr q) h | exact fun q => absurd (e1.mpr q) (by simpa using h)) p l e s m args below meth c H locs ls ad cA cZ D A Z hC hW hL hR)
theorem gj_icmp_lt {a b off : Int} (tp np : Nat) (hd : decode Y.2.1 pc = .ok (.if_icmp .lt off, 3)) (ht : (pc : Int) + off = (tp : Int)) (hp : pc + 3 = np) (ha : gj_in a) (hb : gj_in b) (kt : a < b → gj_G xt Y S k n tp lv st M Q) (kf : ¬ (a < b) → gj_G xt Y S k n np lv st M Q) : gj_G xt Y S k n pc lv (gI b :: gI a :: st) M Q := by
  subst hp
  intro p l e s m args below meth c H locs ls ad cA cZ D A Z hC hW hL hR
  have e1 : (Int32.ofInt a < Int32.ofInt b) ↔ (a < b) := by
    first | exact gj_eq ha hb | exact gj_lt ha hb | exact gj_lq hb ha | exact not_congr (gj_eq ha hb) | exact gj_lt hb ha | exact gj_lq ha hb
  exact lv_icmp_lt hC.1 hC.2.1 hd ht (fun h => kt (by first | exact e1.mp h | exact e1.mp (by simpa using h)) p l e s m args below meth c H locs ls ad cA cZ D A Z hC hW hL hR) (fun h => kf (by first | exact fun q => h (e1.mpr q) | exact fun q => (e1.mpr q) h | exact fun q => absurd (e1.mpr q) (by simpa using h)) p l e s m args below meth c H locs ls ad cA cZ D A Z hC hW hL hR)
theorem gj_icmp_ge {a b off : Int} (tp np : Nat) (hd : decode Y.2.1 pc = .ok (.if_icmp .ge off, 3)) (ht : (pc : Int) + off = (tp : Int)) (hp : pc + 3 = np) (ha : gj_in a) (hb : gj_in b) (kt : b ≤ a → gj_G xt Y S k n tp lv st M Q) (kf : ¬ (b ≤ a) → gj_G xt Y S k n np lv st M Q) : gj_G xt Y S k n pc lv (gI b :: gI a :: st) M Q := by
  subst hp
  intro p l e s m args below meth c H locs ls ad cA cZ D A Z hC hW hL hR
  have e1 : (Int32.ofInt b ≤ Int32.ofInt a) ↔ (b ≤ a) := by
    first | exact gj_eq ha hb | exact gj_lt ha hb | exact gj_lq hb ha | exact not_congr (gj_eq ha hb) | exact gj_lt hb ha | exact gj_lq ha hb
  exact lv_icmp_ge hC.1 hC.2.1 hd ht (fun h => kt (by first | exact e1.mp h | exact e1.mp (by simpa using h)) p l e s m args below meth c H locs ls ad cA cZ D A Z hC hW hL hR) (fun h => kf (by first | exact fun q => h (e1.mpr q) | exact fun q => (e1.mpr q) h | exact fun q => absurd (e1.mpr q) (by simpa using h)) p l e s m args below meth c H locs ls ad cA cZ D A Z hC hW hL hR)
theorem gj_icmp_gt {a b off : Int} (tp np : Nat) (hd : decode Y.2.1 pc = .ok (.if_icmp .gt off, 3)) (ht : (pc : Int) + off = (tp : Int)) (hp : pc + 3 = np) (ha : gj_in a) (hb : gj_in b) (kt : b < a → gj_G xt Y S k n tp lv st M Q) (kf : ¬ (b < a) → gj_G xt Y S k n np lv st M Q) : gj_G xt Y S k n pc lv (gI b :: gI a :: st) M Q := by
  subst hp
  intro p l e s m args below meth c H locs ls ad cA cZ D A Z hC hW hL hR
  have e1 : (Int32.ofInt b < Int32.ofInt a) ↔ (b < a) := by
    first | exact gj_eq ha hb | exact gj_lt ha hb | exact gj_lq hb ha | exact not_congr (gj_eq ha hb) | exact gj_lt hb ha | exact gj_lq ha hb
  exact lv_icmp_gt hC.1 hC.2.1 hd ht (fun h => kt (by first | exact e1.mp h | exact e1.mp (by simpa using h)) p l e s m args below meth c H locs ls ad cA cZ D A Z hC hW hL hR) (fun h => kf (by first | exact fun q => h (e1.mpr q) | exact fun q => (e1.mpr q) h | exact fun q => absurd (e1.mpr q) (by simpa using h)) p l e s m args below meth c H locs ls ad cA cZ D A Z hC hW hL hR)
theorem gj_icmp_le {a b off : Int} (tp np : Nat) (hd : decode Y.2.1 pc = .ok (.if_icmp .le off, 3)) (ht : (pc : Int) + off = (tp : Int)) (hp : pc + 3 = np) (ha : gj_in a) (hb : gj_in b) (kt : a ≤ b → gj_G xt Y S k n tp lv st M Q) (kf : ¬ (a ≤ b) → gj_G xt Y S k n np lv st M Q) : gj_G xt Y S k n pc lv (gI b :: gI a :: st) M Q := by
  subst hp
  intro p l e s m args below meth c H locs ls ad cA cZ D A Z hC hW hL hR
  have e1 : (Int32.ofInt a ≤ Int32.ofInt b) ↔ (a ≤ b) := by
    first | exact gj_eq ha hb | exact gj_lt ha hb | exact gj_lq hb ha | exact not_congr (gj_eq ha hb) | exact gj_lt hb ha | exact gj_lq ha hb
  exact lv_icmp_le hC.1 hC.2.1 hd ht (fun h => kt (by first | exact e1.mp h | exact e1.mp (by simpa using h)) p l e s m args below meth c H locs ls ad cA cZ D A Z hC hW hL hR) (fun h => kf (by first | exact fun q => h (e1.mpr q) | exact fun q => (e1.mpr q) h | exact fun q => absurd (e1.mpr q) (by simpa using h)) p l e s m args below meth c H locs ls ad cA cZ D A Z hC hW hL hR)
theorem gj_if_eq {a off : Int} (tp np : Nat) (hd : decode Y.2.1 pc = .ok (.ifCond .eq off, 3)) (ht : (pc : Int) + off = (tp : Int)) (hp : pc + 3 = np) (ha : gj_in a) (kt : a = 0 → gj_G xt Y S k n tp lv st M Q) (kf : ¬ (a = 0) → gj_G xt Y S k n np lv st M Q) : gj_G xt Y S k n pc lv (gI a :: st) M Q := by
  subst hp
  intro p l e s m args below meth c H locs ls ad cA cZ D A Z hC hW hL hR
  have h0 : gj_in 0 := ⟨by omega, by omega⟩
  have e1 : (Int32.ofInt a = 0) ↔ (a = 0) := by
    rw [← gj_0]
    first | exact gj_eq ha h0 | exact gj_lt ha h0 | exact gj_lq h0 ha | exact not_congr (gj_eq ha h0) | exact gj_lt h0 ha | exact gj_lq ha h0
  exact lv_if_eq hC.1 hC.2.1 hd ht (fun h => kt (by first | exact e1.mp h | exact e1.mp (by simpa using h)) p l e s m args below meth c H locs ls ad cA cZ D A Z hC hW hL hR) (fun h => kf (by first | exact fun q => h (e1.mpr q) | exact fun q => (e1.mpr q) h | exact fun q => absurd (e1.mpr q) (by simpa using h)) p l e s m args below meth c H locs ls ad cA cZ D A Z hC hW hL hR)
theorem gj_if_ne {a off : Int} (tp np : Nat) (hd : decode Y.2.1 pc = .ok (.ifCond .ne off, 3)) (ht : (pc : Int) + off = (tp : Int)) (hp : pc + 3 = np) (ha : gj_in a) (kt : ¬ a = 0 → gj_G xt Y S k n tp lv st M Q) (kf : ¬ (¬ a = 0) → gj_G xt Y S k n np lv st M Q) : gj_G xt Y S k n pc lv (gI a :: st) M Q := by
  subst hp
  intro p l e s m args below meth c H locs ls ad cA cZ D A Z hC hW hL hR
  have h0 : gj_in 0 := ⟨by omega, by omega⟩
  have e1 : (¬ Int32.ofInt a = 0) ↔ (¬ a = 0) := by
    rw [← gj_0]
    first | exact gj_eq ha h0 | exact gj_lt ha h0 | exact gj_lq h0 ha | exact not_congr (gj_eq ha h0) | exact gj_lt h0 ha | exact gj_lq ha h0
  exact lv_if_ne hC.1 hC.2.1 hd ht (fun h => kt (by first | exact e1.mp h | exact e1.mp (by simpa using h)) p l e s m args below meth c H locs ls ad cA cZ D A Z hC hW hL hR) (fun h => kf (by first | exact fun q => h (e1.mpr q) | exact fun q => (e1.mpr q) h | exact fun q => absurd (e1.mpr q) (by simpa using h)) p l e s m args below meth c H locs ls ad cA cZ D A Z hC hW hL hR)
theorem gj_if_lt {a off : Int} (tp np : Nat) (hd : decode Y.2.1 pc = .ok (.ifCond .lt off, 3)) (ht : (pc : Int) + off = (tp : Int)) (hp : pc + 3 = np) (ha : gj_in a) (kt : a < 0 → gj_G xt Y S k n tp lv st M Q) (kf : ¬ (a < 0) → gj_G xt Y S k n np lv st M Q) : gj_G xt Y S k n pc lv (gI a :: st) M Q := by
  subst hp
  intro p l e s m args below meth c H locs ls ad cA cZ D A Z hC hW hL hR
  have h0 : gj_in 0 := ⟨by omega, by omega⟩
  have e1 : (Int32.ofInt a < 0) ↔ (a < 0) := by
    rw [← gj_0]
    first | exact gj_eq ha h0 | exact gj_lt ha h0 | exact gj_lq h0 ha | exact not_congr (gj_eq ha h0) | exact gj_lt h0 ha | exact gj_lq ha h0
  exact lv_if_lt hC.1 hC.2.1 hd ht (fun h => kt (by first | exact e1.mp h | exact e1.mp (by simpa using h)) p l e s m args below meth c H locs ls ad cA cZ D A Z hC hW hL hR) (fun h => kf (by first | exact fun q => h (e1.mpr q) | exact fun q => (e1.mpr q) h | exact fun q => absurd (e1.mpr q) (by simpa using h)) p l e s m args below meth c H locs ls ad cA cZ D A Z hC hW hL hR)
theorem gj_if_ge {a off : Int} (tp np : Nat) (hd : decode Y.2.1 pc = .ok (.ifCond .ge off, 3)) (ht : (pc : Int) + off = (tp : Int)) (hp : pc + 3 = np) (ha : gj_in a) (kt : 0 ≤ a → gj_G xt Y S k n tp lv st M Q) (kf : ¬ (0 ≤ a) → gj_G xt Y S k n np lv st M Q) : gj_G xt Y S k n pc lv (gI a :: st) M Q := by
  subst hp
  intro p l e s m args below meth c H locs ls ad cA cZ D A Z hC hW hL hR
  have h0 : gj_in 0 := ⟨by omega, by omega⟩
  have e1 : (0 ≤ Int32.ofInt a) ↔ (0 ≤ a) := by
    rw [← gj_0]
    first | exact gj_eq ha h0 | exact gj_lt ha h0 | exact gj_lq h0 ha | exact not_congr (gj_eq ha h0) | exact gj_lt h0 ha | exact gj_lq ha h0
  exact lv_if_ge hC.1 hC.2.1 hd ht (fun h => kt (by first | exact e1.mp h | exact e1.mp (by simpa using h)) p l e s m args below meth c H locs ls ad cA cZ D A Z hC hW hL hR) (fun h => kf (by first | exact fun q => h (e1.mpr q) | exact fun q => (e1.mpr q) h | exact fun q => absurd (e1.mpr q) (by simpa using h)) p l e s m args below meth c H locs ls ad cA cZ D A Z hC hW hL hR)
theorem gj_if_gt {a off : Int} (tp np : Nat) (hd : decode Y.2.1 pc = .ok (.ifCond .gt off, 3)) (ht : (pc : Int) + off = (tp : Int)) (hp : pc + 3 = np) (ha : gj_in a) (kt : 0 < a → gj_G xt Y S k n tp lv st M Q) (kf : ¬ (0 < a) → gj_G xt Y S k n np lv st M Q) : gj_G xt Y S k n pc lv (gI a :: st) M Q := by
  subst hp
  intro p l e s m args below meth c H locs ls ad cA cZ D A Z hC hW hL hR
  have h0 : gj_in 0 := ⟨by omega, by omega⟩
  have e1 : (0 < Int32.ofInt a) ↔ (0 < a) := by
    rw [← gj_0]
    first | exact gj_eq ha h0 | exact gj_lt ha h0 | exact gj_lq h0 ha | exact not_congr (gj_eq ha h0) | exact gj_lt h0 ha | exact gj_lq ha h0
  exact lv_if_gt hC.1 hC.2.1 hd ht (fun h => kt (by first | exact e1.mp h | exact e1.mp (by simpa using h)) p l e s m args below meth c H locs ls ad cA cZ D A Z hC hW hL hR) (fun h => kf (by first | exact fun q => h (e1.mpr q) | exact fun q => (e1.mpr q) h | exact fun q => absurd (e1.mpr q) (by simpa using h)) p l e s m args below meth c H locs ls ad cA cZ D A Z hC hW hL hR)
theorem gj_if_le {a off : Int} (tp np : Nat) (hd : decode Y.2.1 pc = .ok (.ifCond .le off, 3)) (ht : (pc : Int) + off = (tp : Int)) (hp : pc + 3 = np) (ha : gj_in a) (kt : a ≤ 0 → gj_G xt Y S k n tp lv st M Q) (kf : ¬ (a ≤ 0) → gj_G xt Y S k n np lv st M Q) : gj_G xt Y S k n pc lv (gI a :: st) M Q := by
  subst hp
  intro p l e s m args below meth c H locs ls ad cA cZ D A Z hC hW hL hR
  have h0 : gj_in 0 := ⟨by omega, by omega⟩
  have e1 : (Int32.ofInt a ≤ 0) ↔ (a ≤ 0) := by
    rw [← gj_0]
    first | exact gj_eq ha h0 | exact gj_lt ha h0 | exact gj_lq h0 ha | exact not_congr (gj_eq ha h0) | exact gj_lt h0 ha | exact gj_lq ha h0
  exact lv_if_le hC.1 hC.2.1 hd ht (fun h => kt (by first | exact e1.mp h | exact e1.mp (by simpa using h)) p l e s m args below meth c H locs ls ad cA cZ D A Z hC hW hL hR) (fun h => kf (by first | exact fun q => h (e1.mpr q) | exact fun q => (e1.mpr q) h | exact fun q => absurd (e1.mpr q) (by simpa using h)) p l e s m args below meth c H locs ls ad cA cZ D A Z hC hW hL hR)
end GB
end
section
theorem gj_eq6 {a b : Int} (ha : gj_in6 a) (hb : gj_in6 b) : Int64.ofInt a = Int64.ofInt b ↔ a = b := by
  rw [← Int64.toInt_inj, gj_tl ha, gj_tl hb]
theorem gj_lt6 {a b : Int} (ha : gj_in6 a) (hb : gj_in6 b) : Int64.ofInt a < Int64.ofInt b ↔ a < b := by
  rw [Int64.lt_iff_toInt_lt, gj_tl ha, gj_tl hb]
theorem gj_06 : Int64.ofInt 0 = 0 := by decide
section GLn
variable {xt : Nat × (Nat → Int)} {Y : gj_Y} {S : List gj_H} {k n pc : Nat} {lv lv' : List (Option gj_V)} {st : List gj_V} {M : gj_M} {Q : Option gj_V → List gj_H → gj_M → Prop}
theorem gj_ladd {a b : Int} (np : Nat) (hd : decode Y.2.1 pc = .ok (.ladd, 1)) (hp : pc + 1 = np) (kk : gj_G xt Y S k n np lv (gL (a + b) :: st) M Q) : gj_G xt Y S k n pc lv (gL b :: gL a :: st) M Q := by
  subst hp
  intro p l e s m args below meth c H locs ls ad cA cZ D A Z hC hW hL hR
  have hk := kk p l e s m args below meth c H locs ls ad cA cZ D A Z hC hW hL hR
  refine lv_ladd hC.1 hC.2.1 hd ?_
  rw [← Int64.ofInt_add]
  exact hk
theorem gj_lsub {a b : Int} (np : Nat) (hd : decode Y.2.1 pc = .ok (.lsub, 1)) (hp : pc + 1 = np) (kk : gj_G xt Y S k n np lv (gL (a - b) :: st) M Q) : gj_G xt Y S k n pc lv (gL b :: gL a :: st) M Q := by
  subst hp
  intro p l e s m args below meth c H locs ls ad cA cZ D A Z hC hW hL hR
  have hk := kk p l e s m args below meth c H locs ls ad cA cZ D A Z hC hW hL hR
  refine lv_lsub hC.1 hC.2.1 hd ?_
  rw [← Int64.ofInt_sub]
  exact hk
theorem gj_lmul {a b : Int} (np : Nat) (hd : decode Y.2.1 pc = .ok (.lmul, 1)) (hp : pc + 1 = np) (kk : gj_G xt Y S k n np lv (gL (a * b) :: st) M Q) : gj_G xt Y S k n pc lv (gL b :: gL a :: st) M Q := by
  subst hp
  intro p l e s m args below meth c H locs ls ad cA cZ D A Z hC hW hL hR
  have hk := kk p l e s m args below meth c H locs ls ad cA cZ D A Z hC hW hL hR
  refine lv_lmul hC.1 hC.2.1 hd ?_
  rw [← Int64.ofInt_mul]
  exact hk
theorem gj_ld_eq {a b : Int} (ha : 0 ≤ a ∧ a ≤ 9223372036854775807) (hb : 0 < b ∧ b ≤ 9223372036854775807) : Int64.ofInt a / Int64.ofInt b = Int64.ofInt (a / b) := by
  have h1 : 0 ≤ a / b := Int.ediv_nonneg ha.1 (by omega)
  have h2 : a / b ≤ a := Int.ediv_le_self _ ha.1
  rw [← Int64.toInt_inj, Int64.toInt_div, gj_tl ⟨by omega, by omega⟩, gj_tl ⟨by omega, by omega⟩, gj_tl ⟨by omega, by omega⟩, Int.tdiv_eq_ediv_of_nonneg ha.1]
  exact Int.bmod_eq_of_le (by omega) (by omega)
theorem gj_ldiv {a b : Int} (np : Nat) (hd : decode Y.2.1 pc = .ok (.ldiv, 1)) (hp : pc + 1 = np) (ha : 0 ≤ a ∧ a ≤ 9223372036854775807) (hb : 0 < b ∧ b ≤ 9223372036854775807) (kk : gj_G xt Y S k n np lv (gL (a / b) :: st) M Q) : gj_G xt Y S k n pc lv (gL b :: gL a :: st) M Q := by
  subst hp
  intro p l e s m args below meth c H locs ls ad cA cZ D A Z hC hW hL hR
  have hk := kk p l e s m args below meth c H locs ls ad cA cZ D A Z hC hW hL hR
  have hne : ¬ Int64.ofInt b = 0 := by rw [← gj_06, gj_eq6 ⟨by omega, by omega⟩ ⟨by omega, by omega⟩]; omega
  refine lv_ldiv hC.1 hC.2.1 hd hne ?_
  rw [gj_ld_eq ha hb]
  exact hk
theorem gj_lrem {a b : Int} (np : Nat) (hd : decode Y.2.1 pc = .ok (.lrem, 1)) (hp : pc + 1 = np) (ha : 0 ≤ a ∧ a ≤ 9223372036854775807) (hb : 0 < b ∧ b ≤ 9223372036854775807) (kk : gj_G xt Y S k n np lv (gL (a % b) :: st) M Q) : gj_G xt Y S k n pc lv (gL b :: gL a :: st) M Q := by
  subst hp
  intro p l e s m args below meth c H locs ls ad cA cZ D A Z hC hW hL hR
  have hk := kk p l e s m args below meth c H locs ls ad cA cZ D A Z hC hW hL hR
  have hne : ¬ Int64.ofInt b = 0 := by rw [← gj_06, gj_eq6 ⟨by omega, by omega⟩ ⟨by omega, by omega⟩]; omega
  refine lv_lrem hC.1 hC.2.1 hd hne ?_
  have e2 : a % b = a - a / b * b := by rw [Int.emod_def, Int.mul_comm]
  rw [gj_ld_eq ha hb, ← Int64.ofInt_mul, ← Int64.ofInt_sub, ← e2]
  exact hk
theorem gj_land {a b : Int} (np : Nat) (hd : decode Y.2.1 pc = .ok (.land, 1)) (hp : pc + 1 = np) (kk : gj_G xt Y S k n np lv (gL (Int64.ofInt a &&& Int64.ofInt b).toInt :: st) M Q) : gj_G xt Y S k n pc lv (gL b :: gL a :: st) M Q := by
  subst hp
  intro p l e s m args below meth c H locs ls ad cA cZ D A Z hC hW hL hR
  have hk := kk p l e s m args below meth c H locs ls ad cA cZ D A Z hC hW hL hR
  refine lv_land hC.1 hC.2.1 hd ?_
  rw [← Int64.ofInt_toInt (Int64.ofInt a &&& Int64.ofInt b)]
  exact hk
theorem gj_lor {a b : Int} (np : Nat) (hd : decode Y.2.1 pc = .ok (.lor, 1)) (hp : pc + 1 = np) (kk : gj_G xt Y S k n np lv (gL (Int64.ofInt a ||| Int64.ofInt b).toInt :: st) M Q) : gj_G xt Y S k n pc lv (gL b :: gL a :: st) M Q := by
  subst hp
  intro p l e s m args below meth c H locs ls ad cA cZ D A Z hC hW hL hR
  have hk := kk p l e s m args below meth c H locs ls ad cA cZ D A Z hC hW hL hR
  refine lv_lor hC.1 hC.2.1 hd ?_
  rw [← Int64.ofInt_toInt (Int64.ofInt a ||| Int64.ofInt b)]
  exact hk
theorem gj_lshl {a b : Int} (np : Nat) (hd : decode Y.2.1 pc = .ok (.lshl, 1)) (hp : pc + 1 = np) (kk : gj_G xt Y S k n np lv (gL (Int64.ofInt a <<< ((Int32.ofInt b).toInt64 &&& 63)).toInt :: st) M Q) : gj_G xt Y S k n pc lv (gI b :: gL a :: st) M Q := by
  subst hp
  intro p l e s m args below meth c H locs ls ad cA cZ D A Z hC hW hL hR
  have hk := kk p l e s m args below meth c H locs ls ad cA cZ D A Z hC hW hL hR
  refine lv_lshl hC.1 hC.2.1 hd rfl ?_
  rw [← Int64.ofInt_toInt (Int64.ofInt a <<< ((Int32.ofInt b).toInt64 &&& 63))]
  exact hk
theorem gj_us_eq (a : Int) : ((Int64.ofInt a).toUInt64 >>> ((Int32.ofInt 33).toInt64.toUInt64 &&& Int64.toUInt64 63)).toInt64 = Int64.ofInt (a % 18446744073709551616 / 8589934592) := by
  have e0 : (Int32.ofInt 33).toInt64.toUInt64 &&& Int64.toUInt64 63 = 33 := by decide
  rw [e0]
  have e1 : ((Int64.ofInt a).toUInt64 >>> (33 : UInt64)).toNat = (a % 18446744073709551616 / 8589934592).toNat := by
    have h1 : (Int64.ofInt a).toUInt64.toNat = (a % 18446744073709551616).toNat := by
      show (BitVec.ofInt 64 a).toNat = _
      rw [BitVec.toNat_ofInt]
      rfl
    rw [UInt64.toNat_shiftRight, h1]
    show (a % 18446744073709551616).toNat >>> (33 % 64) = _
    rw [Nat.shiftRight_eq_div_pow]
    have h2 : 0 ≤ a % 18446744073709551616 := Int.emod_nonneg _ (by decide)
    generalize a % 18446744073709551616 = y at *
    obtain ⟨z, rfl⟩ := Int.eq_ofNat_of_zero_le h2
    simp
    omega
  have h3 : 0 ≤ a % 18446744073709551616 := Int.emod_nonneg _ (by decide)
  have h4 : a % 18446744073709551616 < 18446744073709551616 := Int.emod_lt_of_pos _ (by decide)
  have h5 : 0 ≤ a % 18446744073709551616 / 8589934592 := by omega
  have h6 : a % 18446744073709551616 / 8589934592 < 2147483648 := by omega
  rw [← Int64.toInt_inj, gj_tl ⟨by omega, by omega⟩]
  generalize a % 18446744073709551616 / 8589934592 = y at *
  show (BitVec.toInt ((Int64.ofInt a).toUInt64 >>> (33 : UInt64)).toBitVec) = y
  have e2 : ((Int64.ofInt a).toUInt64 >>> (33 : UInt64)).toBitVec.toNat = y.toNat := e1
  rw [BitVec.toInt_eq_toNat_of_lt (by rw [e2]; omega), e2]
  omega
theorem gj_lushr {a : Int} (np : Nat) (hd : decode Y.2.1 pc = .ok (.lushr, 1)) (hp : pc + 1 = np) (kk : gj_G xt Y S k n np lv (gL (a % 18446744073709551616 / 8589934592) :: st) M Q) : gj_G xt Y S k n pc lv (gI 33 :: gL a :: st) M Q := by
  subst hp
  intro p l e s m args below meth c H locs ls ad cA cZ D A Z hC hW hL hR
  exact lv_lushr hC.1 hC.2.1 hd (gj_us_eq a) (kk p l e s m args below meth c H locs ls ad cA cZ D A Z hC hW hL hR)
theorem gj_i2l {a : Int} (np : Nat) (hd : decode Y.2.1 pc = .ok (.i2l, 1)) (hp : pc + 1 = np) (ha : gj_in a) (kk : gj_G xt Y S k n np lv (gL a :: st) M Q) : gj_G xt Y S k n pc lv (gI a :: st) M Q := by
  subst hp
  intro p l e s m args below meth c H locs ls ad cA cZ D A Z hC hW hL hR
  refine lv_i2l (v := Int64.ofInt a) hC.1 hC.2.1 hd ?_ (kk p l e s m args below meth c H locs ls ad cA cZ D A Z hC hW hL hR)
  rw [← Int64.toInt_inj, Int32.toInt_toInt64, gj_ti ha, gj_tl ⟨by omega, by omega⟩]
theorem gj_l2i {a : Int} (np : Nat) (hd : decode Y.2.1 pc = .ok (.l2i, 1)) (hp : pc + 1 = np) (ha : gj_in a) (kk : gj_G xt Y S k n np lv (gI a :: st) M Q) : gj_G xt Y S k n pc lv (gL a :: st) M Q := by
  subst hp
  intro p l e s m args below meth c H locs ls ad cA cZ D A Z hC hW hL hR
  refine lv_l2i (v := Int32.ofInt a) hC.1 hC.2.1 hd ?_ (kk p l e s m args below meth c H locs ls ad cA cZ D A Z hC hW hL hR)
  rw [← Int32.toInt_inj, Int64.toInt_toInt32, gj_ti ha, gj_tl ⟨by omega, by omega⟩]
  exact Int.bmod_eq_of_le (by omega) (by omega)
theorem gj_lcmp {a b : Int} (np : Nat) (hd : decode Y.2.1 pc = .ok (.lcmp, 1)) (hp : pc + 1 = np) (ha : gj_in6 a) (hb : gj_in6 b) (kk : gj_G xt Y S k n np lv (gI (if b < a then 1 else if a = b then 0 else -1) :: st) M Q) : gj_G xt Y S k n pc lv (gL b :: gL a :: st) M Q := by
  subst hp
  intro p l e s m args below meth c H locs ls ad cA cZ D A Z hC hW hL hR
  have hk := kk p l e s m args below meth c H locs ls ad cA cZ D A Z hC hW hL hR
  refine W.lcmp hC.1 hC.2.1 hd ?_
  have e1 : lg_cmp (Int64.ofInt a) (Int64.ofInt b) = Int32.ofInt (if b < a then 1 else if a = b then 0 else -1) := by
    unfold lg_cmp
    simp only [gt_iff_lt, gj_lt6 hb ha, gj_eq6 ha hb]
    split
    · decide
    · split <;> decide
  rw [e1]
  exact hk
theorem gj_ishl {a b : Int} (np : Nat) (hd : decode Y.2.1 pc = .ok (.ishl, 1)) (hp : pc + 1 = np) (kk : gj_G xt Y S k n np lv (gI (Int32.ofInt a <<< (Int32.ofInt b &&& 31)).toInt :: st) M Q) : gj_G xt Y S k n pc lv (gI b :: gI a :: st) M Q := by
  subst hp
  intro p l e s m args below meth c H locs ls ad cA cZ D A Z hC hW hL hR
  have hk := kk p l e s m args below meth c H locs ls ad cA cZ D A Z hC hW hL hR
  refine lv_ishl hC.1 hC.2.1 hd ?_
  rw [← Int32.ofInt_toInt (Int32.ofInt a <<< (Int32.ofInt b &&& 31))]
  exact hk
theorem gj_ishr {a b : Int} (np : Nat) (hd : decode Y.2.1 pc = .ok (.ishr, 1)) (hp : pc + 1 = np) (kk : gj_G xt Y S k n np lv (gI (Int32.ofInt a >>> (Int32.ofInt b &&& 31)).toInt :: st) M Q) : gj_G xt Y S k n pc lv (gI b :: gI a :: st) M Q := by
  subst hp
  intro p l e s m args below meth c H locs ls ad cA cZ D A Z hC hW hL hR
  have hk := kk p l e s m args below meth c H locs ls ad cA cZ D A Z hC hW hL hR
  refine lv_ishr hC.1 hC.2.1 hd ?_
  rw [← Int32.ofInt_toInt (Int32.ofInt a >>> (Int32.ofInt b &&& 31))]
  exact hk
theorem gj_tabI {a dflt lo hi off : Int} {offs : Array Int} {len : Nat} (tp : Nat) (hd : decode Y.2.1 pc = .ok (.tableswitch dflt lo hi offs, len)) (h : gj_in a) (h1 : lo ≤ a ∧ a ≤ hi) (ho : offs[(a - lo).toNat]? = some off) (ht : (pc : Int) + off = (tp : Int)) (kk : gj_G xt Y S k n tp lv st M Q) : gj_G xt Y S k n pc lv (gI a :: st) M Q := by
  intro p l e s m args below meth c H locs ls ad cA cZ D A Z hC hW hL hR
  exact lv_tableIn hC.1 hC.2.1 hd (by rw [gj_ti h]; omega) (by rw [gj_ti h]; omega) (by rw [gj_ti h]; exact ho) ht (kk p l e s m args below meth c H locs ls ad cA cZ D A Z hC hW hL hR)
theorem gj_tabO {a dflt lo hi : Int} {offs : Array Int} {len : Nat} (tp : Nat) (hd : decode Y.2.1 pc = .ok (.tableswitch dflt lo hi offs, len)) (h : gj_in a) (h1 : a < lo ∨ hi < a) (ht : (pc : Int) + dflt = (tp : Int)) (kk : gj_G xt Y S k n tp lv st M Q) : gj_G xt Y S k n pc lv (gI a :: st) M Q := by
  intro p l e s m args below meth c H locs ls ad cA cZ D A Z hC hW hL hR
  exact lv_tableOut hC.1 hC.2.1 hd (by rw [gj_ti h]; exact h1) ht (kk p l e s m args below meth c H locs ls ad cA cZ D A Z hC hW hL hR)
theorem gj_look {a dflt off : Int} {ps : Array (Int × Int)} {len : Nat} (tp : Nat) (hd : decode Y.2.1 pc = .ok (.lookupswitch dflt ps, len)) (h : gj_in a) (hq : (ps.toList.zip (ps.toList.drop 1)).all (fun (a, next) => a.1 < next.1) = true) (ho : Op.lookupswitch.offset ps.toList dflt a = off) (ht : (pc : Int) + off = (tp : Int)) (kk : gj_G xt Y S k n tp lv st M Q) : gj_G xt Y S k n pc lv (gI a :: st) M Q := by
  intro p l e s m args below meth c H locs ls ad cA cZ D A Z hC hW hL hR
  exact lv_lookup hC.1 hC.2.1 hd hq (by rw [gj_ti h]; exact ho) ht (kk p l e s m args below meth c H locs ls ad cA cZ D A Z hC hW hL hR)
end GLn
end
section
def gj_k (ci : Nat) (C : String) (T : u_T) (N : Nat) (ty : Nat → FieldType) : Prop := vwCl[ci]? = some (C, T, N) ∧ (∀ w ∈ u_ws C T N, w ∈ gj_tb) ∧ (∀ k, k < N → parseFieldDescriptor (T k).2.2.1 = some (ty k)) ∧ (∀ a, a < N → ∀ b, b < N → a ≠ b → (T a).2.1 ≠ (T b).2.1)
def gj_fl (own : String) (idx ci j : Nat) (z : Int) : Prop := ∃ C T N ty, gj_k ci C T N ty ∧ j < N ∧ (j : Int) = z ∧ Cond.fieldLink own idx (T j).1 (T j).2.1 (T j).2.2.1 ∈ gj_tb
def gj_fw (own : String) (idx ci j : Nat) (z : Int) (t : FieldType) (fin : Bool) : Prop := ∃ C T N ty, gj_k ci C T N ty ∧ j < N ∧ (j : Int) = z ∧ Cond.fieldLink own idx (T j).1 (T j).2.1 (T j).2.2.1 ∈ gj_tb ∧ (T j).2.2.2 = fin ∧ parseFieldDescriptor (T j).2.2.1 = some t ∧ (fin = true → (T j).1 = own)
theorem gj_hl {S : List gj_H} {h : Nat} {x : gj_H} (hs : S[h]? = some x) (hn : S.length ≤ 1000) : h < 1000 := Nat.lt_of_lt_of_le (List.getElem?_eq_some_iff.mp hs).1 hn
theorem gj_u_o {M : gj_M} {h j : Nat} {i v x : Int} (hne : j ≠ h) : gj_u M h i v j x = M j x := if_neg (fun q => hne q.1)
section GH
variable {xt : Nat × (Nat → Int)} {Y : gj_Y} {S : List gj_H} {k n pc : Nat} {lv lv' : List (Option gj_V)} {st : List gj_V} {M : gj_M} {Q : Option gj_V → List gj_H → gj_M → Prop}
theorem gj_getfi {h ci idx j : Nat} {z : Int} {fs : List Nat} (np : Nat) (hd : decode Y.2.1 pc = .ok (.getfield idx, 3)) (hp : pc + 3 = np) (hl : gj_fl Y.1.cls idx ci j z) (hs : S[h]? = some (.inl (ci, fs))) (hf : fs[j]? = some 0) (kk : gj_in (M h z) → gj_G xt Y S k n np lv (gI (M h z) :: st) M Q) : gj_G xt Y S k n pc lv (gR h :: st) M Q := by
  subst hp
  obtain ⟨C, T, N, ty, ⟨h1, h2, h3, h4⟩, hj, rfl, hlk⟩ := hl
  intro p l e s m args below meth c H locs ls ad cA cZ D A Z hC hW hL hR
  have hh := gj_hl hs hW.2.2.2.2.2
  refine va_get hC.1 hC.2.1 hC.2.2.2.2.1 h2 hC.2.2.2.1 hW.2.2.1 hW.1 h (gj_w_at hs) h1 j hj (hC.2.2.2.2.1 _ hlk) (fun _ q => q) (v := .int (Int32.ofInt (M h j))) ?_ hd (kk (hW.2.2.2.2.1 h (by omega) j) p l e s m args below meth c H locs ls ad cA cZ D A Z hC hW hL hR)
  rw [gj_fs_get, hf, Nat.zero_add]
  rfl
theorem gj_getfl {h ci idx j : Nat} {z : Int} {fs : List Nat} (np : Nat) (hd : decode Y.2.1 pc = .ok (.getfield idx, 3)) (hp : pc + 3 = np) (hl : gj_fl Y.1.cls idx ci j z) (hs : S[h]? = some (.inl (ci, fs))) (hf : fs[j]? = some 1) (kk : gj_G xt Y S k n np lv (gL (M (h + 5000) z) :: st) M Q) : gj_G xt Y S k n pc lv (gR h :: st) M Q := by
  subst hp
  obtain ⟨C, T, N, ty, ⟨h1, h2, h3, h4⟩, hj, rfl, hlk⟩ := hl
  intro p l e s m args below meth c H locs ls ad cA cZ D A Z hC hW hL hR
  refine va_get hC.1 hC.2.1 hC.2.2.2.2.1 h2 hC.2.2.2.1 hW.2.2.1 hW.1 h (gj_w_at hs) h1 j hj (hC.2.2.2.2.1 _ hlk) (fun _ q => q) (v := .long (Int64.ofInt (M (h + 5000) j))) ?_ hd (kk p l e s m args below meth c H locs ls ad cA cZ D A Z hC hW hL hR)
  rw [gj_fs_get, hf, Nat.zero_add]
  rfl
theorem gj_getfr {h g ci idx j : Nat} {z : Int} {fs : List Nat} (np : Nat) (hd : decode Y.2.1 pc = .ok (.getfield idx, 3)) (hp : pc + 3 = np) (hl : gj_fl Y.1.cls idx ci j z) (hs : S[h]? = some (.inl (ci, fs))) (hf : fs[j]? = some (g + 3)) (kk : gj_G xt Y S k n np lv (gR g :: st) M Q) : gj_G xt Y S k n pc lv (gR h :: st) M Q := by
  subst hp
  obtain ⟨C, T, N, ty, ⟨h1, h2, h3, h4⟩, hj, rfl, hlk⟩ := hl
  intro p l e s m args below meth c H locs ls ad cA cZ D A Z hC hW hL hR
  refine va_get hC.1 hC.2.1 hC.2.2.2.2.1 h2 hC.2.2.2.1 hW.2.2.1 hW.1 h (gj_w_at hs) h1 j hj (hC.2.2.2.2.1 _ hlk) (fun _ q => q) (v := .ref (ad g)) ?_ hd (kk p l e s m args below meth c H locs ls ad cA cZ D A Z hC hW hL hR)
  rw [gj_fs_get, hf, Nat.zero_add]
  rfl
theorem gj_putfi {h ci idx j : Nat} {z a : Int} {fs : List Nat} (np : Nat) (hd : decode Y.2.1 pc = .ok (.putfield idx, 3)) (hp : pc + 3 = np) (hl : gj_fw Y.1.cls idx ci j z .int false) (hs : S[h]? = some (.inl (ci, fs))) (hf : fs[j]? = some 0) (hr : gj_in a) (kk : gj_G xt Y S k n np lv st (gj_u M h z a) Q) : gj_G xt Y S k n pc lv (gI a :: gR h :: st) M Q := by
  subst hp
  obtain ⟨C, T, N, ty, ⟨h1, h2, h3, h4⟩, hj, rfl, hlk, hfin, hpd, -⟩ := hl
  intro p l e s m args below meth c H locs ls ad cA cZ D A Z hC hW hL hR
  obtain ⟨hP, hD, hK, hS, hRm, hSl⟩ := hW
  have hh := gj_hl hs hSl
  have e1 : (gj_w ad cA cZ M 0 S).set h (ad h, .inr (ci, (gj_fs ad M h 0 fs).set j (.int (Int32.ofInt a)))) = gj_w ad cA cZ (gj_u M h j a) 0 S := by
    refine gj_w_set hs ?_ (fun j' x hne _ => gj_e_o (fun i => gj_u_o hne) (fun i => gj_u_o (by omega)))
    show Sum.inr (ci, gj_fs ad (gj_u M h j a) h 0 fs) = Sum.inr (ci, _)
    rw [gj_fs_set (M' := gj_u M h j a) fs 0 j hf (by simp [gj_fv, gj_u]) (fun i g hne _ _ => ?_)]
    match g with
    | 0 => simp only [gj_fv, gj_u]; rw [if_neg (by omega)]
    | 1 => simp only [gj_fv, gj_u]; rw [if_neg (by omega)]
    | 2 => rfl
    | g + 3 => rfl
  refine va_put hC.1 hC.2.1 hC.2.2.2.2.1 h2 ty h3 h4 hC.2.2.2.1 hK hP hD hS h (gj_w_at hs) h1 j hj (hC.2.2.2.2.1 _ hlk) (fun _ q => q) hfin (v := .int (Int32.ofInt a)) hpd rfl rfl (by rw [gj_fs_len]; exact (List.getElem?_eq_some_iff.mp hf).1) hd (fun H1 locs1 hP1 hD1 hS1 => ?_)
  rw [e1] at hP1 hD1
  exact kk p l e s m args below meth c H1 locs1 ls ad cA cZ D A Z hC ⟨hP1, hD1, hK, hS1, hRm.u h j hr, hSl⟩ hL hR
theorem gj_putfl {h ci idx j : Nat} {z a : Int} {fs : List Nat} (np : Nat) (hd : decode Y.2.1 pc = .ok (.putfield idx, 3)) (hp : pc + 3 = np) (hl : gj_fw Y.1.cls idx ci j z .long false) (hs : S[h]? = some (.inl (ci, fs))) (hf : fs[j]? = some 1) (kk : gj_G xt Y S k n np lv st (gj_u M (h + 5000) z a) Q) : gj_G xt Y S k n pc lv (gL a :: gR h :: st) M Q := by
  subst hp
  obtain ⟨C, T, N, ty, ⟨h1, h2, h3, h4⟩, hj, rfl, hlk, hfin, hpd, -⟩ := hl
  intro p l e s m args below meth c H locs ls ad cA cZ D A Z hC hW hL hR
  obtain ⟨hP, hD, hK, hS, hRm, hSl⟩ := hW
  have hh := gj_hl hs hSl
  have e1 : (gj_w ad cA cZ M 0 S).set h (ad h, .inr (ci, (gj_fs ad M h 0 fs).set j (.long (Int64.ofInt a)))) = gj_w ad cA cZ (gj_u M (h + 5000) j a) 0 S := by
    refine gj_w_set hs ?_ (fun j' x hne hx => gj_e_o (fun i => gj_u_o (by have := gj_hl hx hSl; omega)) (fun i => gj_u_o (by omega)))
    show Sum.inr (ci, gj_fs ad (gj_u M (h + 5000) j a) h 0 fs) = Sum.inr (ci, _)
    rw [gj_fs_set (M' := gj_u M (h + 5000) j a) fs 0 j hf (by simp [gj_fv, gj_u]) (fun i g hne _ _ => ?_)]
    match g with
    | 0 => simp only [gj_fv, gj_u]; rw [if_neg (by omega)]
    | 1 => simp only [gj_fv, gj_u]; rw [if_neg (by omega)]
    | 2 => rfl
    | g + 3 => rfl
  refine va_put hC.1 hC.2.1 hC.2.2.2.2.1 h2 ty h3 h4 hC.2.2.2.1 hK hP hD hS h (gj_w_at hs) h1 j hj (hC.2.2.2.2.1 _ hlk) (fun _ q => q) hfin (v := .long (Int64.ofInt a)) hpd rfl rfl (by rw [gj_fs_len]; exact (List.getElem?_eq_some_iff.mp hf).1) hd (fun H1 locs1 hP1 hD1 hS1 => ?_)
  rw [e1] at hP1 hD1
  exact kk p l e s m args below meth c H1 locs1 ls ad cA cZ D A Z hC ⟨hP1, hD1, hK, hS1, hRm.uL h j a, hSl⟩ hL hR
/-! arrays -/
theorem gj_iald {h N : Nat} {i : Int} (np : Nat) (hd : decode Y.2.1 pc = .ok (.iaload, 1)) (hp : pc + 1 = np) (hs : S[h]? = some (.inr (false, N))) (hi : 0 ≤ i ∧ i < N) (hr : gj_in i) (kk : gj_in (M h i) → gj_G xt Y S k n np lv (gI (M h i) :: st) M Q) : gj_G xt Y S k n pc lv (gI i :: gR h :: st) M Q := by
  subst hp
  intro p l e s m args below meth c H locs ls ad cA cZ D A Z hC hW hL hR
  have hh := gj_hl hs hW.2.2.2.2.2
  have hk := kk (hW.2.2.2.2.1 h (by omega) i) p l e s m args below meth c H locs ls ad cA cZ D A Z hC hW hL hR
  refine va_iald hC.1 hC.2.1 hW.2.2.1 hW.1 h 0 (gj_w_at hs) rfl (gj_vin hi hr) hd ?_
  rw [gj_cl hr]
  have e1 : ((i.toNat : Nat) : Int) = i := by omega
  show W p l e _ s m args below meth c H locs k n Z (F0 m (pc + 1) ls (.int (Int32.ofInt (M h ((i.toNat : Nat) : Int))) :: List.map (gj_c ad) st))
  rw [e1]
  exact hk
theorem gj_bald {h N : Nat} {i : Int} (np : Nat) (hd : decode Y.2.1 pc = .ok (.baload, 1)) (hp : pc + 1 = np) (hs : S[h]? = some (.inr (true, N))) (hi : 0 ≤ i ∧ i < N) (hr : gj_in i) (kk : gj_in (M h i) → gj_G xt Y S k n np lv (gI (M h i) :: st) M Q) : gj_G xt Y S k n pc lv (gI i :: gR h :: st) M Q := by
  subst hp
  intro p l e s m args below meth c H locs ls ad cA cZ D A Z hC hW hL hR
  have hh := gj_hl hs hW.2.2.2.2.2
  have hk := kk (hW.2.2.2.2.1 h (by omega) i) p l e s m args below meth c H locs ls ad cA cZ D A Z hC hW hL hR
  refine va_zald hC.1 hC.2.1 hW.2.2.1 hW.1 h 1 (gj_w_at hs) rfl (gj_vin hi hr) hd ?_
  rw [gj_cl hr]
  have e1 : ((i.toNat : Nat) : Int) = i := by omega
  show W p l e _ s m args below meth c H locs k n Z (F0 m (pc + 1) ls (.int (Int32.ofInt (M h ((i.toNat : Nat) : Int))) :: List.map (gj_c ad) st))
  rw [e1]
  exact hk
theorem gj_up_eq (M : gj_M) (h : Nat) {i : Int} (a : Int) (hi : 0 ≤ i) : upd (fun x : Nat => Int32.ofInt (M h x)) i.toNat (Int32.ofInt a) = fun x : Nat => Int32.ofInt (gj_u M h i a h x) := by
  funext x
  unfold upd gj_u
  by_cases q : x = i.toNat
  · rw [if_pos q, if_pos ⟨rfl, by omega⟩]
  · rw [if_neg q, if_neg (by omega)]
theorem gj_iast {h N : Nat} {i a : Int} (np : Nat) (hd : decode Y.2.1 pc = .ok (.iastore, 1)) (hp : pc + 1 = np) (hs : S[h]? = some (.inr (false, N))) (hi : 0 ≤ i ∧ i < N) (hr : gj_in i) (ha : gj_in a) (kk : gj_G xt Y S k n np lv st (gj_u M h i a) Q) : gj_G xt Y S k n pc lv (gI a :: gI i :: gR h :: st) M Q := by
  subst hp
  intro p l e s m args below meth c H locs ls ad cA cZ D A Z hC hW hL hR
  obtain ⟨hP, hD, hK, hS, hRm, hSl⟩ := hW
  have hh := gj_hl hs hSl
  refine va_iast hC.1 hC.2.1 hK hP hD hS h 0 (gj_w_at hs) rfl (gj_vin hi hr) hd (fun H1 locs1 hP1 hD1 hS1 => ?_)
  have e1 : (gj_w ad cA cZ M 0 S).set h (ad h, .inl (cA, N, .inl (upd (fun x : Nat => Int32.ofInt (M h x)) (Int32.ofInt i).toNatClampNeg (Int32.ofInt a)))) = gj_w ad cA cZ (gj_u M h i a) 0 S := by
    rw [gj_cl hr, gj_up_eq M h a hi.1]
    exact gj_w_set hs rfl (fun j' x hne _ => gj_e_o (fun i => gj_u_o hne) (fun i => gj_u_o (by omega)))
  have hP2 : va_P D vwCl ((gj_w ad cA cZ M 0 S).set h (ad h, .inl (cA, N, .inl (upd (fun x : Nat => Int32.ofInt (M h x)) (Int32.ofInt i).toNatClampNeg (Int32.ofInt a))))) H1 := hP1
  have hD2 : va_D A ((gj_w ad cA cZ M 0 S).set h (ad h, .inl (cA, N, .inl (upd (fun x : Nat => Int32.ofInt (M h x)) (Int32.ofInt i).toNatClampNeg (Int32.ofInt a))))) := hD1
  rw [e1] at hP2 hD2
  exact kk p l e s m args below meth c H1 locs1 ls ad cA cZ D A Z hC ⟨hP2, hD2, hK, hS1, hRm.u h i ha, hSl⟩ hL hR
theorem gj_nar {a : Int} (h : a = 0 ∨ a = 1) : vp_nar .boolean (Int32.ofInt a) = Int32.ofInt a := by
  rcases h with rfl | rfl <;> decide
theorem gj_bast {h N : Nat} {i a : Int} (np : Nat) (hd : decode Y.2.1 pc = .ok (.bastore, 1)) (hp : pc + 1 = np) (hs : S[h]? = some (.inr (true, N))) (hi : 0 ≤ i ∧ i < N) (hr : gj_in i) (ha : a = 0 ∨ a = 1) (kk : gj_G xt Y S k n np lv st (gj_u M h i a) Q) : gj_G xt Y S k n pc lv (gI a :: gI i :: gR h :: st) M Q := by
  subst hp
  intro p l e s m args below meth c H locs ls ad cA cZ D A Z hC hW hL hR
  obtain ⟨hP, hD, hK, hS, hRm, hSl⟩ := hW
  have hh := gj_hl hs hSl
  refine va_zast hC.1 hC.2.1 hK hP hD hS h 1 (gj_w_at hs) rfl (gj_vin hi hr) hd (fun H1 locs1 hP1 hD1 hS1 => ?_)
  have e1 : (gj_w ad cA cZ M 0 S).set h (ad h, .inl (cZ, N, .inl (upd (fun x : Nat => Int32.ofInt (M h x)) (Int32.ofInt i).toNatClampNeg (vp_nar .boolean (Int32.ofInt a))))) = gj_w ad cA cZ (gj_u M h i a) 0 S := by
    rw [gj_cl hr, gj_nar ha, gj_up_eq M h a hi.1]
    exact gj_w_set hs rfl (fun j' x hne _ => gj_e_o (fun i => gj_u_o hne) (fun i => gj_u_o (by omega)))
  have hP2 : va_P D vwCl ((gj_w ad cA cZ M 0 S).set h (ad h, .inl (cZ, N, .inl (upd (fun x : Nat => Int32.ofInt (M h x)) (Int32.ofInt i).toNatClampNeg (vp_nar .boolean (Int32.ofInt a)))))) H1 := hP1
  have hD2 : va_D A ((gj_w ad cA cZ M 0 S).set h (ad h, .inl (cZ, N, .inl (upd (fun x : Nat => Int32.ofInt (M h x)) (Int32.ofInt i).toNatClampNeg (vp_nar .boolean (Int32.ofInt a)))))) := hD1
  rw [e1] at hP2 hD2
  exact kk p l e s m args below meth c H1 locs1 ls ad cA cZ D A Z hC ⟨hP2, hD2, hK, hS1, hRm.u h i (by omega), hSl⟩ hL hR
theorem gj_alen {h N : Nat} {b : Bool} {z : Int} (np : Nat) (hd : decode Y.2.1 pc = .ok (.arraylength, 1)) (hp : pc + 1 = np) (hs : S[h]? = some (.inr (b, N))) (hz : (N : Int) = z) (kk : gj_G xt Y S k n np lv (gI z :: st) M Q) : gj_G xt Y S k n pc lv (gR h :: st) M Q := by
  subst hp
  subst hz
  intro p l e s m args below meth c H locs ls ad cA cZ D A Z hC hW hL hR
  have hk := kk p l e s m args below meth c H locs ls ad cA cZ D A Z hC hW hL hR
  cases b with
  | false => exact va_alen hC.1 hC.2.1 hW.2.2.1 hW.1 h 0 (gj_w_at hs) (ty := .int) rfl (v := Int32.ofInt N) (Int32.ofInt_eq_ofNat).symm hd hk
  | true => exact va_alen hC.1 hC.2.1 hW.2.2.1 hW.1 h 1 (gj_w_at hs) (ty := .boolean) rfl (v := Int32.ofInt N) (Int32.ofInt_eq_ofNat).symm hd hk
/-! the table of tens, the script -/
theorem gj_tld {i : Int} (np : Nat) (hd : decode Y.2.1 pc = .ok (.iaload, 1)) (hp : pc + 1 = np) (hi : 0 ≤ i ∧ i < 5) (kk : gj_G xt Y S k n np lv (gI (gj_tens i.toNat) :: st) M Q) : gj_G xt Y S k n pc lv (gI i :: gR 1000 :: st) M Q := by
  subst hp
  intro p l e s m args below meth c H locs ls ad cA cZ D A Z hC hW hL hR
  have hr : gj_in i := ⟨by omega, by omega⟩
  exact va_ti hC.1 hC.2.1 hC.2.2.2.2.2.2.2.2.1 hW.2.2.2.1 (gj_vin hi hr) (by rw [gj_cl hr]; rfl) hd (kk p l e s m args below meth c H locs ls ad cA cZ D A Z hC hW hL hR)
theorem gj_tln (np : Nat) (hd : decode Y.2.1 pc = .ok (.arraylength, 1)) (hp : pc + 1 = np) (kk : gj_G xt Y S k n np lv (gI 5 :: st) M Q) : gj_G xt Y S k n pc lv (gR 1000 :: st) M Q := by
  subst hp
  intro p l e s m args below meth c H locs ls ad cA cZ D A Z hC hW hL hR
  exact va_tlen hC.1 hC.2.1 hC.2.2.2.2.2.2.2.2.1 hW.2.2.2.1 (by decide) hd (kk p l e s m args below meth c H locs ls ad cA cZ D A Z hC hW hL hR)
theorem gj_xld {i : Int} (np : Nat) (hd : decode Y.2.1 pc = .ok (.iaload, 1)) (hp : pc + 1 = np) (hi : 0 ≤ i ∧ i < xt.1) (hr : gj_in i) (kk : gj_G xt Y S k n np lv (gI (xt.2 i.toNat) :: st) M Q) : gj_G xt Y S k n pc lv (gI i :: gR 1001 :: st) M Q := by
  subst hp
  intro p l e s m args below meth c H locs ls ad cA cZ D A Z hC hW hL hR
  exact va_ti hC.1 hC.2.1 hC.2.2.2.2.2.2.2.2.2.1 hW.2.2.2.1 (gj_vin hi hr) (by rw [gj_cl hr]; rfl) hd (kk p l e s m args below meth c H locs ls ad cA cZ D A Z hC hW hL hR)
theorem gj_xln {z : Int} (np : Nat) (hd : decode Y.2.1 pc = .ok (.arraylength, 1)) (hp : pc + 1 = np) (hz : (xt.1 : Int) = z) (kk : gj_G xt Y S k n np lv (gI z :: st) M Q) : gj_G xt Y S k n pc lv (gR 1001 :: st) M Q := by
  subst hp
  subst hz
  intro p l e s m args below meth c H locs ls ad cA cZ D A Z hC hW hL hR
  exact va_tlen hC.1 hC.2.1 hC.2.2.2.2.2.2.2.2.2.1 hW.2.2.2.1 (v := Int32.ofInt xt.1) (Int32.ofInt_eq_ofNat).symm hd (kk p l e s m args below meth c H locs ls ad cA cZ D A Z hC hW hL hR)
theorem gj_gets {idx : Nat} {host : String} (np : Nat) (hd : decode Y.2.1 pc = .ok (.getstatic idx, 3)) (hp : pc + 3 = np) (hl : Cond.fieldLinkNest Y.1.cls idx "CelSheets" "TENS" "[I" host ∈ gj_nb) (kk : gj_G xt Y S k n np lv (gR 1000 :: st) M Q) : gj_G xt Y S k n pc lv st M Q := by
  subst hp
  intro p l e s m args below meth c H locs ls ad cA cZ D A Z hC hW hL hR
  exact va_getsN hC.1 hC.2.1 hC.2.2.2.2.2.2.2.1 hW.2.2.2.1 hC.2.2.2.1 (va_Nw.use rfl (hC.2.2.2.2.2.2.2.2.2.2 _ hl)) (fun _ q => q) hd (kk p l e s m args below meth c H locs ls ad cA cZ D A Z hC hW hL hR)
end GH
end
section
theorem gj_goodIn : GoodIn gj_tb gj_tb := fun w hw => ⟨hw, good_of_word (List.mem_filter.mp hw).2⟩
theorem gj_goodC {w : Cond} (h : w ∈ gj_tb) : GoodIn gj_tb (w :: gj_tb) := fun x hx => (List.mem_cons.mp hx).elim (fun e => e ▸ gj_goodIn w h) (gj_goodIn x)
def gj_cp (M : gj_M) (hs hd : Nat) (sp dp n : Int) : gj_M := fun h i => if h = hd ∧ dp ≤ i ∧ i < dp + n then M hs (sp + (i - dp)) else M h i
theorem gj_R.cp {M : gj_M} (hR : gj_R M) {hs : Nat} (hd : Nat) (sp dp n : Int) (h5 : hs < 5000) : gj_R (gj_cp M hs hd sp dp n) := by
  intro h hh i
  unfold gj_cp
  split
  · exact hR hs h5 _
  · exact hR h hh i
def gj_al : List gj_V → Nat
  | [] => 0
  | .inr (.inl _) :: t => gj_al t + 2
  | .inl _ :: t => gj_al t + 1
  | .inr (.inr _) :: t => gj_al t + 1
theorem gj_al_eq (ad : Nat → Nat) : ∀ As : List gj_V, (lg_sl (As.map (gj_c ad))).length = gj_al As := by
  intro As
  induction As with
  | nil => rfl
  | cons v t ih =>
    match v with
    | .inl a => simp [lg_sl, gj_c, Value.category, gj_al] at ih ⊢; omega
    | .inr (.inl a) => simp [lg_sl, gj_c, Value.category, gj_al] at ih ⊢; omega
    | .inr (.inr (some h)) => simp [lg_sl, gj_c, Value.category, gj_al] at ih ⊢; omega
    | .inr (.inr none) => simp [lg_sl, gj_c, Value.category, gj_al] at ih ⊢; omega
theorem gj_ct (ad : Nat → Nat) : ∀ As : List gj_V, ((As.map (gj_c ad)).map fun v => v.category).sum = gj_al As := by
  intro As
  induction As with
  | nil => rfl
  | cons v t ih =>
    match v with
    | .inl a => simp [gj_c, Value.category, gj_al] at ih ⊢; omega
    | .inr (.inl a) => simp [gj_c, Value.category, gj_al] at ih ⊢; omega
    | .inr (.inr (some h)) => simp [gj_c, Value.category, gj_al] at ih ⊢; omega
    | .inr (.inr none) => simp [gj_c, Value.category, gj_al] at ih ⊢; omega
def gj_no : Nat → List (Option gj_V)
  | 0 => []
  | n + 1 => none :: gj_no n
def gj_en : Nat → List gj_V → List (Option gj_V)
  | n, [] => gj_no n
  | n, .inl a :: t => some (gI a) :: gj_en (n - 1) t
  | n, .inr (.inl a) :: t => some (gL a) :: none :: gj_en (n - 2) t
  | n, .inr (.inr (some h)) :: t => some (gR h) :: gj_en (n - 1) t
  | n, .inr (.inr none) :: t => some (.inr (.inr none)) :: gj_en (n - 1) t
theorem gj_no_get : ∀ (n i : Nat) (v : gj_V), (gj_no n)[i]? = some (some v) → False := by
  intro n
  induction n with
  | zero => intro i v h; simp [gj_no] at h
  | succ n ih =>
    intro i v h
    cases i with
    | zero => simp [gj_no] at h
    | succ i => exact ih i v (by simpa [gj_no] using h)
theorem gj_en_get (ad : Nat → Nat) : ∀ (As : List gj_V) (n o i : Nat) (v : gj_V), (gj_en n As)[i]? = some (some v) → (o + i, gj_c ad v) ∈ lv_args o (As.map (gj_c ad)) := by
  intro As
  induction As with
  | nil => intro n o i v h; exact absurd h (fun q => gj_no_get n i v q)
  | cons a t ih =>
    intro n o i v h
    match a, i, h with
    | .inl x, 0, h => simp [gj_en] at h; subst h; simp [lv_args]; exact Or.inl rfl
    | .inl x, i + 1, h =>
      have := ih (n - 1) (o + 1) i v (by simpa [gj_en] using h)
      have e : o + 1 + i = o + (i + 1) := by omega
      rw [e] at this
      exact List.mem_cons_of_mem _ this
    | .inr (.inl x), 0, h => simp [gj_en] at h; subst h; simp [lv_args]; exact Or.inl rfl
    | .inr (.inl x), 1, h => simp [gj_en] at h
    | .inr (.inl x), i + 2, h =>
      have := ih (n - 2) (o + 2) i v (by simpa [gj_en] using h)
      have e : o + 2 + i = o + (i + 2) := by omega
      rw [e] at this
      exact List.mem_cons_of_mem _ this
    | .inr (.inr (some x)), 0, h => simp [gj_en] at h; subst h; simp [lv_args]; exact Or.inl rfl
    | .inr (.inr (some x)), i + 1, h =>
      have := ih (n - 1) (o + 1) i v (by simpa [gj_en] using h)
      have e : o + 1 + i = o + (i + 1) := by omega
      rw [e] at this
      exact List.mem_cons_of_mem _ this
    | .inr (.inr none), 0, h => simp [gj_en] at h; subst h; simp [lv_args]
    | .inr (.inr none), i + 1, h =>
      have := ih (n - 1) (o + 1) i v (by simpa [gj_en] using h)
      have e : o + 1 + i = o + (i + 1) := by omega
      rw [e] at this
      exact List.mem_cons_of_mem _ this
section GC
variable {xt : Nat × (Nat → Int)} {Y : gj_Y} {S : List gj_H} {k n pc : Nat} {lv lv' : List (Option gj_V)} {st : List gj_V} {M : gj_M} {Q : Option gj_V → List gj_H → gj_M → Prop}
theorem gj_copy {idx hs hd N0 N1 : Nat} {sp dp z : Int} (np : Nat) (hdd : decode Y.2.1 pc = .ok (.invokestatic idx, 3)) (hp : pc + 3 = np) (hl : Cond.methodLink Y.1.cls idx arraycopyName ∈ gj_tb) (h0 : S[hs]? = some (.inr (false, N0))) (h1 : S[hd]? = some (.inr (false, N1))) (hsp : 0 ≤ sp ∧ 0 ≤ z ∧ sp + z ≤ N0) (hdp : 0 ≤ dp ∧ dp + z ≤ N1) (hsm : N0 ≤ 100000 ∧ N1 ≤ 100000) (hfr : 1 ≤ Y.2.2.2.2.frames) (hlo : gj_al st + 18 ≤ Y.2.2.2.2.locals) (kk : gj_G xt Y S k n np lv st (gj_cp M hs hd sp dp z) Q) : gj_G xt Y S k n pc lv (gI z :: gI dp :: gR hd :: gI sp :: gR hs :: st) M Q := by
  subst hp
  intro p l e s m args below meth c H locs ls ad cA cZ D A Z hC hW hL hR
  obtain ⟨hP, hD, hK, hS, hRm, hSl⟩ := hW
  have hh0 := gj_hl h0 hSl
  have hh1 := gj_hl h1 hSl
  have rs : gj_in sp := ⟨by omega, by omega⟩
  have rd : gj_in dp := ⟨by omega, by omega⟩
  have rz : gj_in z := ⟨by omega, by omega⟩
  have z0 : gj_in 0 := ⟨by omega, by omega⟩
  have ngt : ∀ {x : Int}, gj_in x → 0 ≤ x → ¬ Int32.ofInt x < 0 := fun hx h => by rw [← gj_0, gj_lt hx z0]; omega
  refine va_copyi (ty := .int) hC.1 hC.2.1 (hC.2.2.1.trans hL.1.symm) hC.2.2.2.1 (hC.2.2.2.2.1 _ hl) (hC.2.2.2.2.1 (.native arraycopyName) (by decide +kernel)) (hC.2.2.2.2.1 (.static arraycopyName) (by decide +kernel)) (hC.2.2.2.2.1 (.initialized "java/lang/System") (by decide +kernel)) hK hP hD hS hs hd 0 0 (gj_w_at h0) (gj_w_at h1) rfl rfl rfl (ngt rs hsp.1) (ngt rd hdp.1) (ngt rz hsp.2.1) (by rw [gj_cl rs, gj_cl rz]; omega) (by rw [gj_cl rd, gj_cl rz]; omega) (fun i _ => rfl) hfr (by
    have := gj_ct ad st
    have e : nativeFrameWords "java/lang/System" "arraycopy" 5 = 7 := by decide +kernel
    rw [e]
    have h2 : (List.map (fun v => v.category) (List.map (gj_c ad) st)).sum = gj_al st := this
    omega) hdd (fun H1 locs1 hP1 hD1 hS1 => ?_)
  have e1 : (gj_w ad cA cZ M 0 S).set hd (ad hd, .inl (cA, N1, .inl (va_cpy (fun x : Nat => Int32.ofInt (M hs x)) (fun x : Nat => Int32.ofInt (M hd x)) (Int32.ofInt sp).toNatClampNeg (Int32.ofInt dp).toNatClampNeg (Int32.ofInt z).toNatClampNeg))) = gj_w ad cA cZ (gj_cp M hs hd sp dp z) 0 S := by
    refine gj_w_set h1 ?_ (fun j' x hne _ => gj_e_o (fun i => if_neg (fun q => hne q.1)) (fun i => if_neg (fun q => by omega)))
    show Sum.inl (cA, N1, Sum.inl (fun i : Nat => Int32.ofInt (gj_cp M hs hd sp dp z hd i))) = _
    rw [gj_cl rs, gj_cl rd, gj_cl rz]
    congr 4
    funext i
    unfold va_cpy gj_cp
    by_cases q : dp.toNat ≤ i ∧ i < dp.toNat + z.toNat
    · rw [if_pos q, if_pos ⟨rfl, by omega, by omega⟩]
      congr 2
      omega
    · rw [if_neg q, if_neg (by omega)]
  have hP2 : va_P D vwCl ((gj_w ad cA cZ M 0 S).set hd (ad hd, .inl (cA, N1, .inl (va_cpy (fun x : Nat => Int32.ofInt (M hs x)) (fun x : Nat => Int32.ofInt (M hd x)) (Int32.ofInt sp).toNatClampNeg (Int32.ofInt dp).toNatClampNeg (Int32.ofInt z).toNatClampNeg)))) H1 := hP1
  have hD2 : va_D A ((gj_w ad cA cZ M 0 S).set hd (ad hd, .inl (cA, N1, .inl (va_cpy (fun x : Nat => Int32.ofInt (M hs x)) (fun x : Nat => Int32.ofInt (M hd x)) (Int32.ofInt sp).toNatClampNeg (Int32.ofInt dp).toNatClampNeg (Int32.ofInt z).toNatClampNeg)))) := hD1
  rw [e1] at hP2 hD2
  exact kk p l e s m args below meth c H1 locs1 ls ad cA cZ D A Z hC ⟨hP2, hD2, hK, hS1, hRm.cp hd sp dp z (by omega), hSl⟩ hL hR
theorem gj_min {idx : Nat} {a b : Int} (np : Nat) (hd : decode Y.2.1 pc = .ok (.invokestatic idx, 3)) (hp : pc + 3 = np) (hl : Cond.methodLink Y.1.cls idx Lib.Math.min.name ∈ gj_tb) (ha : gj_in a) (hb : gj_in b) (hfr : 1 ≤ Y.2.2.2.2.frames) (hlo : gj_al st + 13 ≤ Y.2.2.2.2.locals) (hkk : k ≤ Y.2.2.2.2.cells ∧ n ≤ Y.2.2.2.2.slots) (kk : gj_G xt Y S k n np lv (gI (min a b) :: st) M Q) : gj_G xt Y S k n pc lv (gI b :: gI a :: st) M Q := by
  subst hp
  intro p l e s m args below meth c H locs ls ad cA cZ D A Z hC hW hL hR
  have hk := kk p l e s m args below meth c H locs ls ad cA cZ D A Z hC hW hL hR
  refine va_mmin hC.1 hC.2.1 (hC.2.2.1.trans hL.1.symm) hC.2.2.2.1 (hC.2.2.2.2.1 _ hl) (hC.2.2.2.2.1 (.static Lib.Math.min.name) (by decide +kernel)) (hC.2.2.2.2.1 (.initialized "java/lang/Math") (by decide +kernel)) (hC.2.2.2.2.1 (.code Lib.Math.min.name Lib.Math.min.code 2 (some .int)) (by decide +kernel)) hfr (by
    have h2 : (List.map (fun v => v.category) (List.map (gj_c ad) st)).sum = gj_al st := gj_ct ad st
    omega) hkk.1 hkk.2 hd ?_
  have e1 : (if Int32.ofInt b < Int32.ofInt a then Int32.ofInt b else Int32.ofInt a) = Int32.ofInt (min a b) := by
    by_cases q : b < a
    · rw [if_pos ((gj_lt hb ha).mpr q)]; congr 1; omega
    · rw [if_neg (fun z => q ((gj_lt hb ha).mp z))]; congr 1; omega
  rw [e1]
  exact hk
theorem gj_max {idx : Nat} {a b : Int} (np : Nat) (hd : decode Y.2.1 pc = .ok (.invokestatic idx, 3)) (hp : pc + 3 = np) (hl : Cond.methodLink Y.1.cls idx Lib.Math.max.name ∈ gj_tb) (ha : gj_in a) (hb : gj_in b) (hfr : 1 ≤ Y.2.2.2.2.frames) (hlo : gj_al st + 13 ≤ Y.2.2.2.2.locals) (hkk : k ≤ Y.2.2.2.2.cells ∧ n ≤ Y.2.2.2.2.slots) (kk : gj_G xt Y S k n np lv (gI (max a b) :: st) M Q) : gj_G xt Y S k n pc lv (gI b :: gI a :: st) M Q := by
  subst hp
  intro p l e s m args below meth c H locs ls ad cA cZ D A Z hC hW hL hR
  have hk := kk p l e s m args below meth c H locs ls ad cA cZ D A Z hC hW hL hR
  refine va_mmax hC.1 hC.2.1 (hC.2.2.1.trans hL.1.symm) hC.2.2.2.1 (hC.2.2.2.2.1 _ hl) (hC.2.2.2.2.1 (.static Lib.Math.max.name) (by decide +kernel)) (hC.2.2.2.2.1 (.initialized "java/lang/Math") (by decide +kernel)) (hC.2.2.2.2.1 (.code Lib.Math.max.name Lib.Math.max.code 2 (some .int)) (by decide +kernel)) hfr (by
    have h2 : (List.map (fun v => v.category) (List.map (gj_c ad) st)).sum = gj_al st := gj_ct ad st
    omega) hkk.1 hkk.2 hd ?_
  have e1 : (if Int32.ofInt a < Int32.ofInt b then Int32.ofInt b else Int32.ofInt a) = Int32.ofInt (max a b) := by
    by_cases q : a < b
    · rw [if_pos ((gj_lt ha hb).mpr q)]; congr 1; omega
    · rw [if_neg (fun z => q ((gj_lt ha hb).mp z))]; congr 1; omega
  rw [e1]
  exact hk
/-! ends -/
theorem gj_iret {a : Int} (hd : decode Y.2.1 pc = .ok (.ireturn, 1)) (ht : Y.2.2.2.1 = some .int) (hk : k ≤ Y.2.2.2.2.cells ∧ n ≤ Y.2.2.2.2.slots) (hq : Q (some (gI a)) S M) : gj_G xt Y S k n pc lv [gI a] M Q := by
  intro p l e s m args below meth c H locs ls ad cA cZ D A Z hC hW hL hR
  exact W.widen hk.1 hk.2 (hR (some (gI a)) S M H locs pc ls ad hq (Or.inl ht) (gj_ag.rf rfl) hW hd)
theorem gj_zret {a : Int} (hd : decode Y.2.1 pc = .ok (.ireturn, 1)) (ht : Y.2.2.2.1 = some .boolean) (ha : a = 0 ∨ a = 1) (hk : k ≤ Y.2.2.2.2.cells ∧ n ≤ Y.2.2.2.2.slots) (hq : Q (some (gI a)) S M) : gj_G xt Y S k n pc lv [gI a] M Q := by
  intro p l e s m args below meth c H locs ls ad cA cZ D A Z hC hW hL hR
  exact W.widen hk.1 hk.2 (hR (some (gI a)) S M H locs pc ls ad hq (Or.inr ⟨ht, ha⟩) (gj_ag.rf rfl) hW hd)
theorem gj_lret {a : Int} (hd : decode Y.2.1 pc = .ok (.lreturn, 1)) (ht : Y.2.2.2.1 = some .long) (hk : k ≤ Y.2.2.2.2.cells ∧ n ≤ Y.2.2.2.2.slots) (hq : Q (some (gL a)) S M) : gj_G xt Y S k n pc lv [gL a] M Q := by
  intro p l e s m args below meth c H locs ls ad cA cZ D A Z hC hW hL hR
  exact W.widen hk.1 hk.2 (hR (some (gL a)) S M H locs pc ls ad hq ht (gj_ag.rf rfl) hW hd)
theorem gj_aret {h : Nat} {cn : String} (hd : decode Y.2.1 pc = .ok (.areturn, 1)) (ht : Y.2.2.2.1 = some (.object cn)) (hk : k ≤ Y.2.2.2.2.cells ∧ n ≤ Y.2.2.2.2.slots) (hq : Q (some (gR h)) S M) : gj_G xt Y S k n pc lv [gR h] M Q := by
  intro p l e s m args below meth c H locs ls ad cA cZ D A Z hC hW hL hR
  exact W.widen hk.1 hk.2 (hR (some (gR h)) S M H locs pc ls ad hq ⟨⟨cn, ht⟩, h, rfl⟩ (gj_ag.rf rfl) hW hd)
theorem gj_vret (hd : decode Y.2.1 pc = .ok (.return_, 1)) (ht : Y.2.2.2.1 = none) (hk : k ≤ Y.2.2.2.2.cells ∧ n ≤ Y.2.2.2.2.slots) (hq : Q none S M) : gj_G xt Y S k n pc lv [] M Q := by
  intro p l e s m args below meth c H locs ls ad cA cZ D A Z hC hW hL hR
  exact W.widen hk.1 hk.2 (hR none S M H locs pc ls ad hq ht (gj_ag.rf rfl) hW hd)
end GC
/-! a method's contract over the machine -/
def gj_Pre (xt : Nat × (Nat → Int)) (ad : Nat → Nat) (cA cZ : ClassId) (D : va_G) (S : List gj_H) (M : gj_M) (sz : Nat) (U : State) : Prop := U.heap.size = sz ∧ va_P D vwCl (gj_w ad cA cZ M 0 S) U.heap ∧ va_K D vwCl [(cA, .int), (cZ, .boolean)] U ∧ va_D (fun _ => True) (gj_w ad cA cZ M 0 S) ∧ gj_R M ∧ S.length ≤ 1000 ∧ gj_X ad (va_A (gj_w ad cA cZ M 0 S) sz) xt U U.heap
def gj_Post (ad : Nat → Nat) (cA cZ : ClassId) (D : va_G) (S : List gj_H) (M : gj_M) (sz : Nat) (Q : Option gj_V → List gj_H → gj_M → Prop) : Array Value → State → Outcome → State → Prop := fun _ st oc t => ∃ (rv : Option gj_V) (S' : List gj_H) (M' : gj_M) (ad' : Nat → Nat), oc = .returned (rv.map (gj_c ad')) ∧ Q rv S' M' ∧ gj_ag S S' ad ad' ∧ va_P D vwCl (gj_w ad' cA cZ M' 0 S') t.heap ∧ va_D (va_A (gj_w ad cA cZ M 0 S) sz) (gj_w ad' cA cZ M' 0 S') ∧ va_K D vwCl [(cA, .int), (cZ, .boolean)] t ∧ gj_R M' ∧ S'.length ≤ 1000 ∧ va_F (va_A (gj_w ad cA cZ M 0 S) sz) st t
theorem gj_X.moved {xt : Nat × (Nat → Int)} {ad : Nat → Nat} {A : Nat → Prop} {u U : State} {H : Heap} (hvm : u.vm.Alike U.vm) (hn : ∀ w ∈ gj_nb, va_Nw w u → va_Nw w U) (h : gj_X ad A xt u H) : gj_X ad A xt U H := ⟨h.1.moved hvm, h.2.1.moved hvm, h.2.2.1.moved hvm, fun w hw => hn w hw (h.2.2.2 w hw)⟩
theorem gj_X.kept {xt : Nat × (Nat → Int)} {ad : Nat → Nat} {A : Nat → Prop} {U : State} {H H1 : Heap} (h : gj_X ad A xt U H) (hq : ∀ a : Nat, a < H.size → ¬ A a → H1[a]? = H[a]?) : gj_X ad A xt U H1 := ⟨h.1.kept hq, h.2.1.kept hq, h.2.2.1.kept hq, h.2.2.2⟩
theorem gj_X.narrow {xt : Nat × (Nat → Int)} {ad : Nat → Nat} {A B : Nat → Prop} {U : State} {H : Heap} (h : gj_X ad A xt U H) (hAB : ∀ q, B q → A q) : gj_X ad B xt U H := ⟨h.1.narrow hAB, h.2.1.narrow hAB, h.2.2.1.narrow hAB, h.2.2.2⟩
theorem gj_met {xt : Nat × (Nat → Int)} {Y : gj_Y} {S : List gj_H} {As : List gj_V} {M : gj_M} {Q : Option gj_V → List gj_H → gj_M → Prop} (hy : plainName Y.1.cls = true) (hal : gj_al As ≤ Y.2.2.1) (hG : gj_G xt Y S 0 0 0 (gj_en Y.2.2.1 As) [] M Q) (l : Launch) (ad : Nat → Nat) (cA cZ : ClassId) (D : va_G) (sz : Nat) :
    Met l Y.1 (Cond.code Y.1 Y.2.1 Y.2.2.1 Y.2.2.2.1 :: gj_tb) Y.2.2.2.2 (va_Pc (As.map (gj_c ad)) (gj_Pre xt ad cA cZ D S M sz)) (gj_Post ad cA cZ D S M sz Q) Y.2.2.2.2.cells Y.2.2.2.2.slots (va_A (gj_w ad cA cZ M 0 S) sz) := by
  refine Met.ofW (cc := Y.2.1) (maxL := Y.2.2.1) (ret := Y.2.2.2.1) hy rfl ?_
  intro p e s m args below meth c s₁ B hml hv
  obtain ⟨rfl, hsz, hP, hK, hD0, hRm, hSl, hX⟩ := hv
  have hx := B.exec
  have hb := B.bytes
  have hr := B.returns
  have hts := atoms_spec (ws := Cond.code Y.1 Y.2.1 Y.2.2.1 Y.2.2.2.1 :: gj_tb) B.pre
  have hown : s.vm.findClass Y.1.cls = some m.cls := findClass_of_methodNamed B.named
  have hlocks := B.notSynchronized
  have hin : meth.name = Y.1.name := (name_of_methodNamed B.named B.method).1
  subst hsz
  have hD := hD0.self (sz := s.heap.size)
  have hl := lv_entry (As.map (gj_c ad)) (n := Y.2.2.1) (by rw [gj_al_eq]; exact hal)
  rw [lg_entry_eq]
  refine hG p l e s m _ below meth c s.heap [] _ ad cA cZ D (va_A (gj_w ad cA cZ M 0 S) s.heap.size) _ ⟨hx, hb, hml, hown, fun w hw => hts w (List.mem_cons_of_mem _ hw), hin, fun q h => Or.inr h, hX⟩ ⟨hP, hD, hK, va_S.rf, hRm, hSl⟩ ⟨hl.1, hl.2.1, fun i v hi => hl.2.2 (i, gj_c ad v) (by simpa using gj_en_get ad As Y.2.2.1 0 i v hi)⟩ ?_
  intro rv S' M' H' locs' pc' ls' ad' hQ hro hag hW' hdd
  obtain ⟨hP', hD', hK', hS', hR', hSl'⟩ := hW'
  have post : ∀ t : State, t.heap = H' → s.WarmedH t.vm → gj_Post ad cA cZ D S M s.heap.size Q (As.map (gj_c ad)).toArray s (.returned (rv.map (gj_c ad'))) t := fun t ht hWm => ⟨rv, S', M', ad', rfl, hQ, hag, by rw [ht]; exact hP', hD', va_K.moved hWm.alike hK', hR', hSl', hS'.F ht⟩
  match rv, hro, hdd, post with
  | none, hro, hdd, post => exact W.vret hx hb (hr.trans hro) post hS'.2.2 hdd
  | some (.inl a), hro, hdd, post =>
    rcases hro with hro | ⟨hro, ha⟩
    · exact W.iret hx hb (hr.trans hro) post hS'.2.2 hdd
    · exact W.zret hx hb (hr.trans hro) (by rcases ha with rfl | rfl <;> decide) post hS'.2.2 hdd
  | some (.inr (.inl a)), hro, hdd, post => exact W.lret hx hb (hr.trans hro) post hS'.2.2 hdd
  | some (.inr (.inr (some h))), hro, hdd, post =>
    obtain ⟨⟨cn, hro⟩, -⟩ := hro
    exact W.aret hx hb (hr.trans hro) (Or.inl ⟨cn, rfl⟩) (Or.inr ⟨ad' h, rfl⟩) post hS'.2.2 hdd
  | some (.inr (.inr none)), hro, hdd, post =>
    obtain ⟨-, h, hh⟩ := hro
    cases hh
end
section
def gj_ok (Y : gj_Y) (na : Nat) : Prop := plainName Y.1.cls = true ∧ Cond.code Y.1 Y.2.1 Y.2.2.1 Y.2.2.2.1 ∈ gj_tb ∧ Cond.initialized Y.1.cls ∈ gj_tb ∧ (Y.1.cls ≠ "java/lang/invoke/MethodHandle" ∧ Y.1.cls ≠ "java/lang/invoke/VarHandle" ∧ (parseMethodDescriptor Y.1.desc).map (fun d => d.parameters.length) = some na)
/-- a quiet contract: no cell is made -/
def gj_T (xt : Nat × (Nat → Int)) (Y : gj_Y) (S : List gj_H) (As : List gj_V) (M : gj_M) (q : Option gj_V → gj_M → Prop) : Prop := gj_G xt Y S 0 0 0 (gj_en Y.2.2.1 As) [] M (fun r S' M' => S' = S ∧ q r M')
/-- one answer, one memory behind it -/
def gj_F (xt : Nat × (Nat → Int)) (Y : gj_Y) (S : List gj_H) (As : List gj_V) (M : gj_M) (r : Option gj_V) (M' : gj_M) : Prop := gj_T xt Y S As M (fun r' M'' => r' = r ∧ M'' = M')
theorem gj_blind {xt : Nat × (Nat → Int)} {ad : Nat → Nat} {cA cZ : ClassId} {D : va_G} {S : List gj_H} {M : gj_M} {sz : Nat} {av : List Value} : FrameBlind (va_Pc av (gj_Pre xt ad cA cZ D S M sz)) := by
  intro a U g mk q
  obtain ⟨q0, q1, qP, qK, qD, qR, qS, qX⟩ := q
  exact ⟨q0, q1, qP, va_K.moved (u := U) (U := U.calling g mk a) (Vm.Alike.refl U.vm) qK, qD, qR, qS, gj_X.moved (u := U) (U := U.calling g mk a) (Vm.Alike.refl U.vm) (fun w hw h => gj_nb_same (s := U) (U := U.calling g mk a) (show U.vm = (U.calling g mk a).vm from rfl) hw h) qX⟩
theorem gj_sub {ad : Nat → Nat} {cA cZ : ClassId} {D : va_G} {A : Nat → Prop} {S : List gj_H} {M : gj_M} {s : State} {H : Heap} {locs : List Loc} (hA : ∀ q : Nat, s.heap.size ≤ q → A q) (hW : gj_Wd ad cA cZ D A S M s H locs) : ∀ q, va_A (gj_w ad cA cZ M 0 S) H.size q → A q := by
  intro q h
  rcases h with ⟨k, e, h⟩ | h
  · exact hW.2.1.2 k (q, e) h
  · exact hA q (Nat.le_trans hW.2.2.2.1.1 h)
theorem gj_pre {xt : Nat × (Nat → Int)} {Y : gj_Y} {p : Program} {s : State} {m : MethodId} {args : Array Value} {meth : Method} {c : Code} {ad : Nat → Nat} {A : Nat → Prop} {cA cZ : ClassId} {D : va_G} {S : List gj_H} {M : gj_M} {H : Heap} {locs : List Loc} (hC : gj_C xt Y p s m args meth c ad A) (hW : gj_Wd ad cA cZ D A S M s H locs) (U : State) (hU : U.heap = H) (hWm : s.WarmedH U.vm) : gj_Pre xt ad cA cZ D S M H.size U := by
  have hX := hC.2.2.2.2.2.2.2
  refine ⟨by rw [hU], by rw [hU]; exact hW.1, va_K.moved hWm.alike hW.2.2.1, hW.2.1.weaken (fun _ _ _ _ => trivial), hW.2.2.2.2.1, hW.2.2.2.2.2, ?_⟩
  rw [hU]
  exact ((hX.kept hW.2.2.2.1.2.1).moved hWm.alike (fun w hw h => gj_nb_warm hWm hw h)).narrow (gj_sub hC.2.2.2.2.2.2.1 hW)
/-- behind a call -/
theorem gj_aft {xt : Nat × (Nat → Int)} {Y : gj_Y} {p : Program} {l : Launch} {e : Env} {R : Room} {s : State} {m : MethodId} {args : Array Value} {below : List Frame} {meth : Method} {c : Code} {H : Heap} {locs : List Loc} {k n mc ms pc : Nat} {Z : State → Prop} {ls : Array Slot} {st0 rest : List Value} {ad : Nat → Nat} {cA cZ : ClassId} {D : va_G} {A : Nat → Prop} {S : List gj_H} {M : gj_M} {Q' : Option gj_V → List gj_H → gj_M → Prop} {a : Array Value}
    (hC : gj_C xt Y p s m args meth c ad A) (hW : gj_Wd ad cA cZ D A S M s H locs) (hr : va_Run p l e R s m args below meth c H locs k n mc ms (F0 m pc ls st0) rest (gj_Post ad cA cZ D S M H.size Q' a) (va_A (gj_w ad cA cZ M 0 S) H.size))
    (kk : ∀ (rv : Option gj_V) (S' : List gj_H) (M' : gj_M) (ad' : Nat → Nat) (H1 : Heap) (locs1 : List Loc), Q' rv S' M' → gj_ag S S' ad ad' → gj_Wd ad' cA cZ D A S' M' s H1 locs1 → W p l e R s m args below meth c H1 locs1 (k + mc) (n + ms) Z (F0 m (pc + 3) ls ((rv.map (gj_c ad')).toList ++ rest))) : W p l e R s m args below meth c H locs k n Z (F0 m pc ls st0) := by
  have hsub := gj_sub hC.2.2.2.2.2.2.1 hW
  have hS := hW.2.2.2.1
  intro T hT X
  obtain ⟨v, st₀, t, T', L, h0, X', hL, e1, e2, ⟨rv, S', M', ad', hv, hq, hag, hP1, hD1, hK1, hR1, hS1, hz, hk⟩, st⟩ := hr T hT X
  cases hv
  rw [h0] at hz hk
  have hvm : s.vm.Alike t.vm := by rw [← e2]; exact X'.warmed.alike
  obtain ⟨t2, a1, b1⟩ := kk rv S' M' ad' T'.heap (locs ++ L) hq hag ⟨by rw [e1]; exact hP1, hD1.weaken (fun k q _ h => hsub q.1 h), va_K.moved hvm.symm hK1, ⟨Nat.le_trans hS.1 (by rw [e1]; exact hz), fun q h1 h2 => by rw [e1, hk q (Nat.lt_of_lt_of_le h1 hS.1) (fun z => h2 (hsub q z))]; exact hS.2.1 q h1 h2, fun q hq => by
      rcases List.mem_append.mp hq with h | h
      · exact hS.2.2 q h
      · exact hsub _ (hL q h)⟩, hR1, hS1⟩ T' rfl X'
  exact ⟨t2, st t2 a1, b1⟩
abbrev gj_rm (Y Y' : gj_Y) : Prop := Y'.2.2.2.2.frames + 1 ≤ Y.2.2.2.2.frames ∧ 8 + (Y'.2.2.1 + 11) + Y'.2.2.2.2.locals ≤ Y.2.2.2.2.locals
section GK
variable {xt : Nat × (Nat → Int)} {Y Y' : gj_Y} {S : List gj_H} {k n pc idx na : Nat} {lv lv' : List (Option gj_V)} {st stk : List gj_V} {M : gj_M} {Q Q' : Option gj_V → List gj_H → gj_M → Prop}
/-- any call of a virtual method -/
theorem gj_cV {As : List gj_V} {h ci N : Nat} {T : u_T} {fs : List Nat} (np : Nat) (hd : decode Y.2.1 pc = .ok (.invokevirtual idx, 3)) (hp : pc + 3 = np) (hok : gj_ok Y' na) (hl : Cond.methodLink Y.1.cls idx Y'.1 ∈ gj_tb) (hi : Cond.instanceMethod Y'.1 ∈ gj_tb ∧ Cond.selects Y'.1.cls Y'.1 Y'.1 ∈ gj_tb) (hstk : stk = As.reverse ++ gR h :: st) (hs : S[h]? = some (.inl (ci, fs))) (hcl : vwCl[ci]? = some (Y'.1.cls, T, N)) (hn : As.length = na) (hal : gj_al (gR h :: As) ≤ Y'.2.2.1) (hrm : gj_rm Y Y') (hct : gj_al st ≤ 8) (hf : k + Y'.2.2.2.2.cells ≤ Y.2.2.2.2.cells ∧ n + Y'.2.2.2.2.slots ≤ Y.2.2.2.2.slots)
    (hG : gj_G xt Y' S 0 0 0 (gj_en Y'.2.2.1 (gR h :: As)) [] M Q')
    (kk : ∀ (p : Program) (l : Launch) (e : Env) (s : State) (m : MethodId) (args : Array Value) (below : List Frame) (meth : Method) (c : Code) (ls : Array Slot) (ad : Nat → Nat) (cA cZ : ClassId) (D : va_G) (A : Nat → Prop) (Z : State → Prop), gj_C xt Y p s m args meth c ad A → gj_l ad ls Y.2.2.1 lv →
      (∀ (rv : Option gj_V) (S' : List gj_H) (M' : gj_M) (H' : Heap) (locs' : List Loc) (pc' : Nat) (ls' : Array Slot) (ad' : Nat → Nat), Q rv S' M' → gj_ro Y.2.2.2.1 rv → gj_ag S S' ad ad' → gj_Wd ad' cA cZ D A S' M' s H' locs' → decode Y.2.1 pc' = .ok (gj_ri rv, 1) → W p l e Y.2.2.2.2 s m args below meth c H' locs' Y.2.2.2.2.cells Y.2.2.2.2.slots Z (F0 m pc' ls' (rv.toList.map (gj_c ad')))) →
      ∀ (rv : Option gj_V) (S' : List gj_H) (M' : gj_M) (ad' : Nat → Nat) (H1 : Heap) (locs1 : List Loc), Q' rv S' M' → gj_ag S S' ad ad' → gj_Wd ad' cA cZ D A S' M' s H1 locs1 → W p l e Y.2.2.2.2 s m args below meth c H1 locs1 (k + Y'.2.2.2.2.cells) (n + Y'.2.2.2.2.slots) Z (F0 m np ls ((rv.map (gj_c ad')).toList ++ st.map (gj_c ad)))) : gj_G xt Y S k n pc lv stk M Q := by
  subst hp
  subst hstk
  subst hn
  intro p l e s m args below meth c H locs ls ad cA cZ D A Z hC hW hL hR
  obtain ⟨hpl, hcode, hini, hd1⟩ := hok
  have hts := hC.2.2.2.2.1
  refine gj_aft hC hW (va_runV (As := As.map (gj_c ad)) (rest := st.map (gj_c ad)) (b := ad h) (Ts := gj_tb) ⟨hC.1, hC.2.1, hC.2.2.1, hC.2.2.2.1, hts⟩ (gj_met hpl hal hG l ad cA cZ D H.size) (cwV As.length hts (fun w hw => ?_) rfl rfl rfl ⟨rfl, hd1⟩ hrm) ⟨gj_blind, va_recv hW.2.2.1 hW.1 hcl (gj_w_at hs), fun U hU hWm => ⟨rfl, gj_pre hC hW U hU hWm⟩⟩ rfl (by simp) (hL.1) (by simp [gj_c, gR]) (lv_room (by rw [gj_ct]; exact hct)) hd hf) (fun rv S' M' ad' H1 locs1 => kk p l e s m args below meth c ls ad cA cZ D A Z hC hL hR rv S' M' ad' H1 locs1)
  unfold wsV at hw
  rcases List.mem_append.mp hw with hw | hw
  · simp only [List.mem_cons, List.not_mem_nil, or_false] at hw
    rcases hw with rfl | rfl | rfl | rfl
    · exact gj_goodIn _ hl
    · exact gj_goodIn _ hi.1
    · exact gj_goodIn _ hi.2
    · exact gj_goodIn _ hini
  · exact gj_goodC hcode w hw
theorem gj_cS {As : List gj_V} (np : Nat) (hd : decode Y.2.1 pc = .ok (.invokestatic idx, 3)) (hp : pc + 3 = np) (hok : gj_ok Y' na) (hl : Cond.methodLink Y.1.cls idx Y'.1 ∈ gj_tb) (hi : Cond.static Y'.1 ∈ gj_tb) (hstk : stk = As.reverse ++ st) (hn : As.length = na) (hal : gj_al As ≤ Y'.2.2.1) (hrm : gj_rm Y Y') (hct : gj_al st ≤ 8) (hf : k + Y'.2.2.2.2.cells ≤ Y.2.2.2.2.cells ∧ n + Y'.2.2.2.2.slots ≤ Y.2.2.2.2.slots)
    (hG : gj_G xt Y' S 0 0 0 (gj_en Y'.2.2.1 As) [] M Q')
    (kk : ∀ (p : Program) (l : Launch) (e : Env) (s : State) (m : MethodId) (args : Array Value) (below : List Frame) (meth : Method) (c : Code) (ls : Array Slot) (ad : Nat → Nat) (cA cZ : ClassId) (D : va_G) (A : Nat → Prop) (Z : State → Prop), gj_C xt Y p s m args meth c ad A → gj_l ad ls Y.2.2.1 lv →
      (∀ (rv : Option gj_V) (S' : List gj_H) (M' : gj_M) (H' : Heap) (locs' : List Loc) (pc' : Nat) (ls' : Array Slot) (ad' : Nat → Nat), Q rv S' M' → gj_ro Y.2.2.2.1 rv → gj_ag S S' ad ad' → gj_Wd ad' cA cZ D A S' M' s H' locs' → decode Y.2.1 pc' = .ok (gj_ri rv, 1) → W p l e Y.2.2.2.2 s m args below meth c H' locs' Y.2.2.2.2.cells Y.2.2.2.2.slots Z (F0 m pc' ls' (rv.toList.map (gj_c ad')))) →
      ∀ (rv : Option gj_V) (S' : List gj_H) (M' : gj_M) (ad' : Nat → Nat) (H1 : Heap) (locs1 : List Loc), Q' rv S' M' → gj_ag S S' ad ad' → gj_Wd ad' cA cZ D A S' M' s H1 locs1 → W p l e Y.2.2.2.2 s m args below meth c H1 locs1 (k + Y'.2.2.2.2.cells) (n + Y'.2.2.2.2.slots) Z (F0 m np ls ((rv.map (gj_c ad')).toList ++ st.map (gj_c ad)))) : gj_G xt Y S k n pc lv stk M Q := by
  subst hp
  subst hstk
  subst hn
  intro p l e s m args below meth c H locs ls ad cA cZ D A Z hC hW hL hR
  obtain ⟨hpl, hcode, hini, hd1⟩ := hok
  have hts := hC.2.2.2.2.1
  refine gj_aft hC hW (va_runS (As := As.map (gj_c ad)) (rest := st.map (gj_c ad)) (Ts := gj_tb) ⟨hC.1, hC.2.1, hC.2.2.1, hC.2.2.2.1, hts⟩ (gj_met hpl hal hG l ad cA cZ D H.size) (va_cwS As.length hts (fun w hw => ?_) rfl rfl rfl hd1 hrm) ⟨gj_blind, fun U hU hWm => ⟨rfl, gj_pre hC hW U hU hWm⟩⟩ rfl (by simp) (hL.1) (by simp) (lv_room (by rw [gj_ct]; exact hct)) hd hf) (fun rv S' M' ad' H1 locs1 => kk p l e s m args below meth c ls ad cA cZ D A Z hC hL hR rv S' M' ad' H1 locs1)
  unfold va_wsS at hw
  rcases List.mem_append.mp hw with hw | hw
  · simp only [List.mem_cons, List.not_mem_nil, or_false] at hw
    rcases hw with rfl | rfl | rfl
    · exact gj_goodIn _ hl
    · exact gj_goodIn _ hi
    · exact gj_goodIn _ hini
  · exact gj_goodC hcode w hw
/-- quiet calls -/
theorem gj_callV {As : List gj_V} {h ci N : Nat} {T : u_T} {fs : List Nat} {q : Option gj_V → gj_M → Prop} (np : Nat) (hd : decode Y.2.1 pc = .ok (.invokevirtual idx, 3)) (hp : pc + 3 = np) (hok : gj_ok Y' na) (hl : Cond.methodLink Y.1.cls idx Y'.1 ∈ gj_tb) (hi : Cond.instanceMethod Y'.1 ∈ gj_tb ∧ Cond.selects Y'.1.cls Y'.1 Y'.1 ∈ gj_tb) (hstk : stk = As.reverse ++ gR h :: st) (hs : S[h]? = some (.inl (ci, fs))) (hcl : vwCl[ci]? = some (Y'.1.cls, T, N)) (hn : As.length = na) (hal : gj_al (gR h :: As) ≤ Y'.2.2.1) (hrm : gj_rm Y Y') (hct : gj_al st ≤ 8) (hz : Y'.2.2.2.2.cells = 0 ∧ Y'.2.2.2.2.slots = 0) (hf : k ≤ Y.2.2.2.2.cells ∧ n ≤ Y.2.2.2.2.slots)
    (hG : gj_T xt Y' S (gR h :: As) M q) (kk : ∀ (r : Option gj_V) (M' : gj_M), q r M' → gj_G xt Y S k n np lv (r.toList ++ st) M' Q) : gj_G xt Y S k n pc lv stk M Q := by
  refine gj_cV np hd hp hok hl hi hstk hs hcl hn hal hrm hct (by rw [hz.1, hz.2]; exact hf) hG ?_
  intro p l e s m args below meth c ls ad cA cZ D A Z hC hL hR rv S' M' ad' H1 locs1 hq hag hW
  obtain ⟨rfl, hq⟩ := hq
  have had := hag.2.1 rfl
  subst had
  rw [hz.1, hz.2]
  have := kk rv M' hq p l e s m args below meth c H1 locs1 ls ad' cA cZ D A Z hC hW hL hR
  cases rv with
  | none => exact this
  | some v => exact this
theorem gj_callS {As : List gj_V} {q : Option gj_V → gj_M → Prop} (np : Nat) (hd : decode Y.2.1 pc = .ok (.invokestatic idx, 3)) (hp : pc + 3 = np) (hok : gj_ok Y' na) (hl : Cond.methodLink Y.1.cls idx Y'.1 ∈ gj_tb) (hi : Cond.static Y'.1 ∈ gj_tb) (hstk : stk = As.reverse ++ st) (hn : As.length = na) (hal : gj_al As ≤ Y'.2.2.1) (hrm : gj_rm Y Y') (hct : gj_al st ≤ 8) (hz : Y'.2.2.2.2.cells = 0 ∧ Y'.2.2.2.2.slots = 0) (hf : k ≤ Y.2.2.2.2.cells ∧ n ≤ Y.2.2.2.2.slots)
    (hG : gj_T xt Y' S As M q) (kk : ∀ (r : Option gj_V) (M' : gj_M), q r M' → gj_G xt Y S k n np lv (r.toList ++ st) M' Q) : gj_G xt Y S k n pc lv stk M Q := by
  refine gj_cS np hd hp hok hl hi hstk hn hal hrm hct (by rw [hz.1, hz.2]; exact hf) hG ?_
  intro p l e s m args below meth c ls ad cA cZ D A Z hC hL hR rv S' M' ad' H1 locs1 hq hag hW
  obtain ⟨rfl, hq⟩ := hq
  have had := hag.2.1 rfl
  subst had
  rw [hz.1, hz.2]
  have := kk rv M' hq p l e s m args below meth c H1 locs1 ls ad' cA cZ D A Z hC hW hL hR
  cases rv with
  | none => exact this
  | some v => exact this
/-- with one answer -/
theorem gj_fV {As : List gj_V} {h ci N : Nat} {T : u_T} {fs : List Nat} {v : gj_V} {M' : gj_M} (np : Nat) (hd : decode Y.2.1 pc = .ok (.invokevirtual idx, 3)) (hp : pc + 3 = np) (hok : gj_ok Y' na) (hl : Cond.methodLink Y.1.cls idx Y'.1 ∈ gj_tb) (hi : Cond.instanceMethod Y'.1 ∈ gj_tb ∧ Cond.selects Y'.1.cls Y'.1 Y'.1 ∈ gj_tb) (hstk : stk = As.reverse ++ gR h :: st) (hs : S[h]? = some (.inl (ci, fs))) (hcl : vwCl[ci]? = some (Y'.1.cls, T, N)) (hn : As.length = na) (hal : gj_al (gR h :: As) ≤ Y'.2.2.1) (hrm : gj_rm Y Y') (hct : gj_al st ≤ 8) (hz : Y'.2.2.2.2.cells = 0 ∧ Y'.2.2.2.2.slots = 0) (hf : k ≤ Y.2.2.2.2.cells ∧ n ≤ Y.2.2.2.2.slots)
    (hG : gj_F xt Y' S (gR h :: As) M (some v) M') (kk : gj_G xt Y S k n np lv (v :: st) M' Q) : gj_G xt Y S k n pc lv stk M Q := by
  refine gj_callV np hd hp hok hl hi hstk hs hcl hn hal hrm hct hz hf hG ?_
  rintro r M'' ⟨rfl, rfl⟩
  exact kk
theorem gj_vV {As : List gj_V} {h ci N : Nat} {T : u_T} {fs : List Nat} {M' : gj_M} (np : Nat) (hd : decode Y.2.1 pc = .ok (.invokevirtual idx, 3)) (hp : pc + 3 = np) (hok : gj_ok Y' na) (hl : Cond.methodLink Y.1.cls idx Y'.1 ∈ gj_tb) (hi : Cond.instanceMethod Y'.1 ∈ gj_tb ∧ Cond.selects Y'.1.cls Y'.1 Y'.1 ∈ gj_tb) (hstk : stk = As.reverse ++ gR h :: st) (hs : S[h]? = some (.inl (ci, fs))) (hcl : vwCl[ci]? = some (Y'.1.cls, T, N)) (hn : As.length = na) (hal : gj_al (gR h :: As) ≤ Y'.2.2.1) (hrm : gj_rm Y Y') (hct : gj_al st ≤ 8) (hz : Y'.2.2.2.2.cells = 0 ∧ Y'.2.2.2.2.slots = 0) (hf : k ≤ Y.2.2.2.2.cells ∧ n ≤ Y.2.2.2.2.slots)
    (hG : gj_F xt Y' S (gR h :: As) M none M') (kk : gj_G xt Y S k n np lv st M' Q) : gj_G xt Y S k n pc lv stk M Q := by
  refine gj_callV np hd hp hok hl hi hstk hs hcl hn hal hrm hct hz hf hG ?_
  rintro r M'' ⟨rfl, rfl⟩
  exact kk
theorem gj_fS {As : List gj_V} {v : gj_V} {M' : gj_M} (np : Nat) (hd : decode Y.2.1 pc = .ok (.invokestatic idx, 3)) (hp : pc + 3 = np) (hok : gj_ok Y' na) (hl : Cond.methodLink Y.1.cls idx Y'.1 ∈ gj_tb) (hi : Cond.static Y'.1 ∈ gj_tb) (hstk : stk = As.reverse ++ st) (hn : As.length = na) (hal : gj_al As ≤ Y'.2.2.1) (hrm : gj_rm Y Y') (hct : gj_al st ≤ 8) (hz : Y'.2.2.2.2.cells = 0 ∧ Y'.2.2.2.2.slots = 0) (hf : k ≤ Y.2.2.2.2.cells ∧ n ≤ Y.2.2.2.2.slots)
    (hG : gj_F xt Y' S As M (some v) M') (kk : gj_G xt Y S k n np lv (v :: st) M' Q) : gj_G xt Y S k n pc lv stk M Q := by
  refine gj_callS np hd hp hok hl hi hstk hn hal hrm hct hz hf hG ?_
  rintro r M'' ⟨rfl, rfl⟩
  exact kk
theorem gj_vS {As : List gj_V} {M' : gj_M} (np : Nat) (hd : decode Y.2.1 pc = .ok (.invokestatic idx, 3)) (hp : pc + 3 = np) (hok : gj_ok Y' na) (hl : Cond.methodLink Y.1.cls idx Y'.1 ∈ gj_tb) (hi : Cond.static Y'.1 ∈ gj_tb) (hstk : stk = As.reverse ++ st) (hn : As.length = na) (hal : gj_al As ≤ Y'.2.2.1) (hrm : gj_rm Y Y') (hct : gj_al st ≤ 8) (hz : Y'.2.2.2.2.cells = 0 ∧ Y'.2.2.2.2.slots = 0) (hf : k ≤ Y.2.2.2.2.cells ∧ n ≤ Y.2.2.2.2.slots)
    (hG : gj_F xt Y' S As M none M') (kk : gj_G xt Y S k n np lv st M' Q) : gj_G xt Y S k n pc lv stk M Q := by
  refine gj_callS np hd hp hok hl hi hstk hn hal hrm hct hz hf hG ?_
  rintro r M'' ⟨rfl, rfl⟩
  exact kk
end GK
end
section
def gj_vo (n : Nat) : gj_V → Bool
  | .inr (.inr (some h)) => decide (h < n) || decide (1000 ≤ h)
  | .inr (.inr none) => true
  | .inr (.inl _) => true
  | .inl _ => true
def gj_lo (n : Nat) : List (Option gj_V) → Bool
  | [] => true
  | none :: t => gj_lo n t
  | some v :: t => gj_vo n v && gj_lo n t
def gj_so (n : Nat) (st : List gj_V) : Bool := st.all (gj_vo n)
def gj_sh (n : Nat) (S : List gj_H) : Bool := S.all (fun x => match x with | .inl o => o.2.all (fun f => decide (f < n + 3)) | .inr _ => true)
theorem gj_vo_c {n : Nat} {v : gj_V} {ad ad' : Nat → Nat} (h : gj_vo n v = true) (hag : ∀ h : Nat, (h < n ∨ 1000 ≤ h) → ad' h = ad h) : gj_c ad' v = gj_c ad v := by
  match v, h with
  | .inl a, _ => rfl
  | .inr (.inl a), _ => rfl
  | .inr (.inr none), _ => rfl
  | .inr (.inr (some x)), h =>
    simp only [gj_vo, Bool.or_eq_true, decide_eq_true_eq] at h
    simp only [gj_c]
    rw [hag x h]
theorem gj_so_c {n : Nat} {st : List gj_V} {ad ad' : Nat → Nat} (h : gj_so n st = true) (hag : ∀ h : Nat, (h < n ∨ 1000 ≤ h) → ad' h = ad h) : st.map (gj_c ad') = st.map (gj_c ad) := by
  apply List.map_congr_left
  intro v hv
  exact gj_vo_c (List.all_eq_true.mp h v hv) hag
theorem gj_lo_c {n : Nat} : ∀ (lv : List (Option gj_V)), gj_lo n lv = true → ∀ (i : Nat) (v : gj_V), lv[i]? = some (some v) → gj_vo n v = true := by
  intro lv
  induction lv with
  | nil => intro _ i v h; simp at h
  | cons a t ih =>
    intro h i v hi
    match a, h with
    | none, h =>
      cases i with
      | zero => simp at hi
      | succ i => exact ih h i v (by simpa using hi)
    | some w, h =>
      simp only [gj_lo, Bool.and_eq_true] at h
      cases i with
      | zero => simp at hi; rw [← hi]; exact h.1
      | succ i => exact ih h.2 i v (by simpa using hi)
theorem gj_l_c {n nL : Nat} {ls : Array Slot} {lv : List (Option gj_V)} {ad ad' : Nat → Nat} (h : gj_lo n lv = true) (hag : ∀ h : Nat, (h < n ∨ 1000 ≤ h) → ad' h = ad h) (hL : gj_l ad ls nL lv) : gj_l ad' ls nL lv := ⟨hL.1, hL.2.1, fun i v hi => by rw [gj_vo_c (gj_lo_c lv h i v hi) hag]; exact hL.2.2 i v hi⟩
theorem gj_fs_c {n : Nat} {ad ad' : Nat → Nat} {M : gj_M} {h : Nat} (hag : ∀ h : Nat, (h < n ∨ 1000 ≤ h) → ad' h = ad h) : ∀ (fs : List Nat) (k : Nat), fs.all (fun f => decide (f < n + 3)) = true → gj_fs ad' M h k fs = gj_fs ad M h k fs := by
  intro fs
  induction fs with
  | nil => intro k _; rfl
  | cons f t ih =>
    intro k hf
    simp only [List.all_cons, Bool.and_eq_true, decide_eq_true_eq] at hf
    simp only [gj_fs, ih (k + 1) hf.2]
    congr 1
    match f, hf.1 with
    | 0, _ => rfl
    | 1, _ => rfl
    | 2, _ => rfl
    | g + 3, hg => simp only [gj_fv]; rw [hag g (Or.inl (by omega))]
theorem gj_w_c {n : Nat} {ad ad' : Nat → Nat} {cA cZ : ClassId} {M : gj_M} {S : List gj_H} (hag : ∀ h : Nat, (h < n ∨ 1000 ≤ h) → ad' h = ad h) (hn : S.length ≤ n) (hS : gj_sh n S = true) : gj_w ad' cA cZ M 0 S = gj_w ad cA cZ M 0 S := by
  apply List.ext_getElem?
  intro k
  rw [gj_w_get, gj_w_get]
  cases hz : S[k]? with
  | none => rfl
  | some z =>
    have hk := (List.getElem?_eq_some_iff.mp hz).1
    have hz2 := List.all_eq_true.mp hS z (List.mem_of_getElem? hz)
    simp only [Option.map_some, Nat.zero_add]
    rw [hag k (Or.inl (by omega))]
    match z, hz2 with
    | .inl o, hz2 => simp only [gj_e]; rw [gj_fs_c hag o.2 0 hz2]
    | .inr a, _ => rfl
theorem gj_w_app (ad : Nat → Nat) (cA cZ : ClassId) (M : gj_M) (S' : List gj_H) : ∀ (S : List gj_H) (n : Nat), gj_w ad cA cZ M n (S ++ S') = gj_w ad cA cZ M n S ++ gj_w ad cA cZ M (n + S.length) S' := by
  intro S
  induction S with
  | nil => intro n; simp [gj_w]
  | cons x t ih =>
    intro n
    simp only [List.cons_append, gj_w, ih, List.length_cons]
    have e : n + 1 + t.length = n + (t.length + 1) := by omega
    rw [e]
theorem gj_w_sh {ad : Nat → Nat} {cA cZ : ClassId} {M : gj_M} {S : List gj_H} {h : Nat} {x y : gj_H} (hs : S[h]? = some x) : (gj_w ad cA cZ M 0 S).set h (ad h, gj_e ad cA cZ M h y) = gj_w ad cA cZ M 0 (S.set h y) := by
  apply List.ext_getElem?
  intro k
  rw [gj_w_get]
  by_cases hk : k = h
  · subst hk
    have hl := (List.getElem?_eq_some_iff.mp hs).1
    rw [List.getElem?_set_self (by rw [gj_w_len]; exact hl), List.getElem?_set_self hl, Nat.zero_add]
    rfl
  · rw [List.getElem?_set_ne (Ne.symm hk), List.getElem?_set_ne (Ne.symm hk), gj_w_get]
def gj_dv : Nat → Option Value
  | 0 => some (.int 0)
  | 1 => some (.long 0)
  | 2 => some .null
  | _ => none
section GN
variable {xt : Nat × (Nat → Int)} {Y Y' : gj_Y} {S : List gj_H} {k n pc idx na : Nat} {lv lv' : List (Option gj_V)} {st stk : List gj_V} {M : gj_M} {Q Q' : Option gj_V → List gj_H → gj_M → Prop}
/-- the walk goes on with more cells: their addresses are known only now -/
theorem gj_move {S' : List gj_H} {M' : gj_M} {k' n' np : Nat} (kk : gj_G xt Y S' k' n' np lv st M' Q) (hlv : gj_lo S.length lv = true) (hst : gj_so S.length st = true) {p : Program} {l : Launch} {e : Env} {s : State} {m : MethodId} {args : Array Value} {below : List Frame} {meth : Method} {c : Code} {H1 : Heap} {locs1 : List Loc} {ls : Array Slot} {ad ad' : Nat → Nat} {cA cZ : ClassId} {D : va_G} {A : Nat → Prop} {Z : State → Prop} (hC : gj_C xt Y p s m args meth c ad A) (hL : gj_l ad ls Y.2.2.1 lv)
    (hR : ∀ (rv : Option gj_V) (S' : List gj_H) (M' : gj_M) (H' : Heap) (locs' : List Loc) (pc' : Nat) (ls' : Array Slot) (ad' : Nat → Nat), Q rv S' M' → gj_ro Y.2.2.2.1 rv → gj_ag S S' ad ad' → gj_Wd ad' cA cZ D A S' M' s H' locs' → decode Y.2.1 pc' = .ok (gj_ri rv, 1) → W p l e Y.2.2.2.2 s m args below meth c H' locs' Y.2.2.2.2.cells Y.2.2.2.2.slots Z (F0 m pc' ls' (rv.toList.map (gj_c ad'))))
    (hag : gj_ag S S' ad ad') (hW : gj_Wd ad' cA cZ D A S' M' s H1 locs1) : W p l e Y.2.2.2.2 s m args below meth c H1 locs1 k' n' Z (F0 m np ls (st.map (gj_c ad))) := by
  rw [← gj_so_c hst hag.2.2]
  have h0 : ad' 1000 = ad 1000 := hag.2.2 1000 (Or.inr (by omega))
  have h1 : ad' 1001 = ad 1001 := hag.2.2 1001 (Or.inr (by omega))
  refine kk p l e s m args below meth c H1 locs1 ls ad' cA cZ D A Z ⟨hC.1, hC.2.1, hC.2.2.1, hC.2.2.2.1, hC.2.2.2.2.1, hC.2.2.2.2.2.1, hC.2.2.2.2.2.2.1, ?_⟩ hW (gj_l_c hlv hag.2.2 hL) (fun rv S2 M2 H' locs' pc' ls' ad2 hq ho ha => hR rv S2 M2 H' locs' pc' ls' ad2 hq ho (hag.tr ha))
  have hX := hC.2.2.2.2.2.2.2
  unfold gj_X at hX ⊢
  rw [h0, h1]
  exact hX
theorem gj_new {ci N : Nat} {C : String} {T : u_T} {ty : Nat → FieldType} {fs0 : List Nat} (np : Nat) (hd : decode Y.2.1 pc = .ok (.new idx, 3)) (hp : pc + 3 = np) (hk : gj_k ci C T N ty) (hl : Cond.classLink Y.1.cls idx C ∈ gj_tb) (hl2 : Cond.instantiable C N ∈ gj_tb ∧ Cond.initialized C ∈ gj_tb) (hfl : fs0.length = N) (hfs : ∀ j, j < N → gj_dv (fs0.getD j 9) = some (defaultValue (ty j))) (hM : ∀ i, M S.length i = 0 ∧ M (S.length + 5000) i = 0) (hv : gj_lo S.length lv = true ∧ gj_so S.length st = true ∧ gj_sh S.length S = true) (hSl : S.length < 1000) (hcs : k + 1 ≤ Y.2.2.2.2.cells ∧ n + N ≤ Y.2.2.2.2.slots) (kk : gj_G xt Y (S ++ [.inl (ci, fs0)]) (k + 1) (n + N) np lv (gR S.length :: st) M Q) : gj_G xt Y S k n pc lv st M Q := by
  subst hp
  obtain ⟨h1, h2, h3, h4⟩ := hk
  intro p l e s m args below meth c H locs ls ad cA cZ D A Z hC hW hL hR
  obtain ⟨hP, hD, hK, hS, hRm, hSl0⟩ := hW
  have hts := hC.2.2.2.2.1
  have hdef : ∀ j, j < N → gj_fv ad M S.length j (fs0.getD j 9) = defaultValue (ty j) := by
    intro j hj
    have := hfs j hj
    match hf : fs0.getD j 9, this with
    | 0, this => rw [← Option.some.inj this]; simp only [gj_fv]; rw [(hM j).1]; rfl
    | 1, this => rw [← Option.some.inj this]; simp only [gj_fv]; rw [(hM j).2]; rfl
    | 2, this => rw [← Option.some.inj this]; rfl
    | g + 3, this => simp [gj_dv] at this
  refine va_new (ci := ci) (fs := gj_fs ad M S.length 0 fs0) hC.1 hC.2.1 hts h2 ty h3 hC.2.2.2.1 (hts _ hl) (hts _ hl2.1) (hts _ hl2.2) hK hP hD hS hC.2.2.2.2.2.2.1 h1 (fun j hj => ?_) hcs.1 hcs.2 hd (fun q H1 hP1 hD1 hS1 => ?_)
  · rw [← hdef j hj]
    unfold vp_V
    rw [List.getD_eq_getElem?_getD, List.getD_eq_getElem?_getD, gj_fs_get, List.getElem?_eq_getElem (by omega), Nat.zero_add]
    rfl
  · have hag : gj_ag S (S ++ [.inl (ci, fs0)]) ad (fun h => if h = S.length then q else ad h) := by
      refine ⟨by simp, fun h => by simp at h, fun h hh => if_neg (by omega)⟩
    have ew : gj_w (fun h => if h = S.length then q else ad h) cA cZ M 0 (S ++ [.inl (ci, fs0)]) = gj_w ad cA cZ M 0 S ++ [(q, .inr (ci, gj_fs ad M S.length 0 fs0))] := by
      rw [gj_w_app, gj_w_c hag.2.2 (Nat.le_refl _) hv.2.2]
      congr 1
      simp only [gj_w, Nat.zero_add, if_true, gj_e]
      rw [gj_fs_c (n := 0) (ad := ad) (ad' := fun h => if h = S.length then q else ad h) (fun h hh => if_neg (by omega)) fs0 0]
      rw [List.all_eq_true]
      intro f hf
      obtain ⟨j, hj⟩ := List.getElem?_of_mem hf
      have hjl := (List.getElem?_eq_some_iff.mp hj).1
      have := hfs j (by omega)
      rw [List.getD_eq_getElem?_getD, hj] at this
      match f, this with
      | 0, _ => rfl
      | 1, _ => rfl
      | 2, _ => rfl
      | g + 3, this => simp [gj_dv] at this
    have e2 : (Value.ref q :: List.map (gj_c ad) st) = List.map (gj_c (fun h => if h = S.length then q else ad h)) (gR S.length :: st) := by
      rw [List.map_cons, gj_so_c hv.2.1 hag.2.2]
      simp [gj_c, gR]
    have kk2 := kk p l e s m args below meth c H1 locs ls (fun h => if h = S.length then q else ad h) cA cZ D A Z ⟨hC.1, hC.2.1, hC.2.2.1, hC.2.2.2.1, hC.2.2.2.2.1, hC.2.2.2.2.2.1, hC.2.2.2.2.2.2.1, by
      have hX := hC.2.2.2.2.2.2.2
      unfold gj_X at hX ⊢
      rw [hag.2.2 1000 (Or.inr (by omega)), hag.2.2 1001 (Or.inr (by omega))]
      exact hX⟩ ⟨by rw [ew]; exact hP1, by rw [ew]; exact hD1, hK, hS1, hRm, by simp; omega⟩ (gj_l_c hv.1 hag.2.2 hL) (fun rv S2 M2 H' locs' pc' ls' ad2 hq ho ha => hR rv S2 M2 H' locs' pc' ls' ad2 hq ho (hag.tr ha))
    rw [e2]
    exact kk2
theorem gj_newi {N : Nat} {z : Int} (np : Nat) (hd : decode Y.2.1 pc = .ok (.newarray .int, 2)) (hp : pc + 2 = np) (hz : z = N) (hN : N ≤ 100000) (hM : ∀ i, M S.length i = 0) (hv : gj_lo S.length lv = true ∧ gj_so S.length st = true ∧ gj_sh S.length S = true) (hSl : S.length < 1000) (hcs : k + 1 ≤ Y.2.2.2.2.cells ∧ n + N ≤ Y.2.2.2.2.slots) (kk : gj_G xt Y (S ++ [.inr (false, N)]) (k + 1) (n + N) np lv (gR S.length :: st) M Q) : gj_G xt Y S k n pc lv (gI z :: st) M Q := by
  subst hp
  subst hz
  intro p l e s m args below meth c H locs ls ad cA cZ D A Z hC hW hL hR
  obtain ⟨hP, hD, hK, hS, hRm, hSl0⟩ := hW
  have hts := hC.2.2.2.2.1
  have rN : gj_in (N : Int) := ⟨by omega, by omega⟩
  refine va_newa (atype := .int) (ty := .int) (a0 := (N, .inl (fun _ => 0))) hC.1 hC.2.1 (hts (.arrayClass .int) (by decide +kernel)) rfl hK hP hD hS hC.2.2.2.2.2.2.1 (N' := N) (fun _ => rfl) (by rw [← gj_0, gj_lt rN ⟨by omega, by omega⟩]; omega) (by rw [gj_cl rN]; omega) (by show N * 4 ≤ _; omega) hcs.1 hcs.2 hd (fun q cA' H1 hK1 hP1 hD1 hS1 => ?_)
  have hA1 : s.vm.findClass ("[" ++ FieldType.int.toString) = some cA' := (hK1.2 2 (cA', .int) rfl).2
  have hA2 : s.vm.findClass ("[" ++ FieldType.int.toString) = some cA := (hK.2 0 (cA, .int) rfl).2
  have hcc : cA' = cA := Option.some.inj (hA1.symm.trans hA2)
  subst hcc
  have hag : gj_ag S (S ++ [.inr (false, N)]) ad (fun h => if h = S.length then q else ad h) := by
    refine ⟨by simp, fun h => by simp at h, fun h hh => if_neg (by omega)⟩
  have ew : gj_w (fun h => if h = S.length then q else ad h) cA' cZ M 0 (S ++ [.inr (false, N)]) = gj_w ad cA' cZ M 0 S ++ [(q, .inl (cA', N, .inl (fun _ => 0)))] := by
    rw [gj_w_app, gj_w_c hag.2.2 (Nat.le_refl _) hv.2.2]
    congr 1
    simp only [gj_w, Nat.zero_add, if_true, gj_e, hM]
    rfl
  have e2 : (Value.ref q :: List.map (gj_c ad) st) = List.map (gj_c (fun h => if h = S.length then q else ad h)) (gR S.length :: st) := by
    rw [List.map_cons, gj_so_c hv.2.1 hag.2.2]
    simp [gj_c, gR]
  have kk2 := kk p l e s m args below meth c H1 locs ls (fun h => if h = S.length then q else ad h) cA' cZ D A Z ⟨hC.1, hC.2.1, hC.2.2.1, hC.2.2.2.1, hC.2.2.2.2.1, hC.2.2.2.2.2.1, hC.2.2.2.2.2.2.1, by
    have hX := hC.2.2.2.2.2.2.2
    unfold gj_X at hX ⊢
    rw [hag.2.2 1000 (Or.inr (by omega)), hag.2.2 1001 (Or.inr (by omega))]
    exact hX⟩ ⟨by rw [ew]; exact hP1, by rw [ew]; exact hD1, hK, hS1, hRm, by simp; omega⟩ (gj_l_c hv.1 hag.2.2 hL) (fun rv S2 M2 H' locs' pc' ls' ad2 hq ho ha => hR rv S2 M2 H' locs' pc' ls' ad2 hq ho (hag.tr ha))
  rw [e2]
  exact kk2
theorem gj_newz {N : Nat} {z : Int} (np : Nat) (hd : decode Y.2.1 pc = .ok (.newarray .boolean, 2)) (hp : pc + 2 = np) (hz : z = N) (hN : N ≤ 100000) (hM : ∀ i, M S.length i = 0) (hv : gj_lo S.length lv = true ∧ gj_so S.length st = true ∧ gj_sh S.length S = true) (hSl : S.length < 1000) (hcs : k + 1 ≤ Y.2.2.2.2.cells ∧ n + N ≤ Y.2.2.2.2.slots) (kk : gj_G xt Y (S ++ [.inr (true, N)]) (k + 1) (n + N) np lv (gR S.length :: st) M Q) : gj_G xt Y S k n pc lv (gI z :: st) M Q := by
  subst hp
  subst hz
  intro p l e s m args below meth c H locs ls ad cA cZ D A Z hC hW hL hR
  obtain ⟨hP, hD, hK, hS, hRm, hSl0⟩ := hW
  have hts := hC.2.2.2.2.1
  have rN : gj_in (N : Int) := ⟨by omega, by omega⟩
  refine va_newa (atype := .boolean) (ty := .boolean) (a0 := (N, .inl (fun _ => 0))) hC.1 hC.2.1 (hts (.arrayClass .boolean) (by decide +kernel)) rfl hK hP hD hS hC.2.2.2.2.2.2.1 (N' := N) (fun _ => rfl) (by rw [← gj_0, gj_lt rN ⟨by omega, by omega⟩]; omega) (by rw [gj_cl rN]; omega) (by show N * 1 ≤ _; omega) hcs.1 hcs.2 hd (fun q cA' H1 hK1 hP1 hD1 hS1 => ?_)
  have hA1 : s.vm.findClass ("[" ++ FieldType.boolean.toString) = some cA' := (hK1.2 2 (cA', .boolean) rfl).2
  have hA2 : s.vm.findClass ("[" ++ FieldType.boolean.toString) = some cZ := (hK.2 1 (cZ, .boolean) rfl).2
  have hcc : cA' = cZ := Option.some.inj (hA1.symm.trans hA2)
  subst hcc
  have hag : gj_ag S (S ++ [.inr (true, N)]) ad (fun h => if h = S.length then q else ad h) := by
    refine ⟨by simp, fun h => by simp at h, fun h hh => if_neg (by omega)⟩
  have ew : gj_w (fun h => if h = S.length then q else ad h) cA cA' M 0 (S ++ [.inr (true, N)]) = gj_w ad cA cA' M 0 S ++ [(q, .inl (cA', N, .inl (fun _ => 0)))] := by
    rw [gj_w_app, gj_w_c hag.2.2 (Nat.le_refl _) hv.2.2]
    congr 1
    simp only [gj_w, Nat.zero_add, if_true, gj_e, hM]
    rfl
  have e2 : (Value.ref q :: List.map (gj_c ad) st) = List.map (gj_c (fun h => if h = S.length then q else ad h)) (gR S.length :: st) := by
    rw [List.map_cons, gj_so_c hv.2.1 hag.2.2]
    simp [gj_c, gR]
  have kk2 := kk p l e s m args below meth c H1 locs ls (fun h => if h = S.length then q else ad h) cA cA' D A Z ⟨hC.1, hC.2.1, hC.2.2.1, hC.2.2.2.1, hC.2.2.2.2.1, hC.2.2.2.2.2.1, hC.2.2.2.2.2.2.1, by
    have hX := hC.2.2.2.2.2.2.2
    unfold gj_X at hX ⊢
    rw [hag.2.2 1000 (Or.inr (by omega)), hag.2.2 1001 (Or.inr (by omega))]
    exact hX⟩ ⟨by rw [ew]; exact hP1, by rw [ew]; exact hD1, hK, hS1, hRm, by simp; omega⟩ (gj_l_c hv.1 hag.2.2 hL) (fun rv S2 M2 H' locs' pc' ls' ad2 hq ho ha => hR rv S2 M2 H' locs' pc' ls' ad2 hq ho (hag.tr ha))
  rw [e2]
  exact kk2
/-- a final field that holds a cell, in a constructor -/
theorem gj_putfr {h g ci j : Nat} {z : Int} {t : FieldType} {fs : List Nat} (np : Nat) (hd : decode Y.2.1 pc = .ok (.putfield idx, 3)) (hp : pc + 3 = np) (hl : gj_fw Y.1.cls idx ci j z t true) (hin : Y.1.name = "<init>") (ht : narrow t (.ref 0) = .ref 0 ∧ ∀ a, fits t (.ref a) = true ∧ narrow t (.ref a) = .ref a) (hs : S[h]? = some (.inl (ci, fs))) (hj : j < fs.length) (kk : gj_G xt Y (S.set h (.inl (ci, fs.set j (g + 3)))) k n np lv st M Q) : gj_G xt Y S k n pc lv (gR g :: gR h :: st) M Q := by
  subst hp
  obtain ⟨C, T, N, ty, ⟨h1, h2, h3, h4⟩, hjN, rfl, hlk, hfin, hpd, hdc⟩ := hl
  intro p l e s m args below meth c H locs ls ad cA cZ D A Z hC hW hL hR
  obtain ⟨hP, hD, hK, hS, hRm, hSl⟩ := hW
  have e1 : (gj_w ad cA cZ M 0 S).set h (ad h, .inr (ci, (gj_fs ad M h 0 fs).set j (.ref (ad g)))) = gj_w ad cA cZ M 0 (S.set h (.inl (ci, fs.set j (g + 3)))) := by
    rw [← gj_w_sh hs]
    congr 2
    show Sum.inr (ci, _) = Sum.inr (ci, gj_fs ad M h 0 (fs.set j (g + 3)))
    congr 2
    apply List.ext_getElem?
    intro i
    rw [gj_fs_get]
    by_cases q : i = j
    · subst q
      rw [List.getElem?_set_self (by rw [gj_fs_len]; exact hj), List.getElem?_set_self hj]
      rfl
    · rw [List.getElem?_set_ne (Ne.symm q), List.getElem?_set_ne (Ne.symm q), gj_fs_get]
  refine va_putF hC.1 hC.2.1 hC.2.2.2.2.1 h2 ty h3 h4 hC.2.2.2.1 hK hP hD hS h (gj_w_at hs) h1 j hjN (hC.2.2.2.2.1 _ hlk) (fun _ q => q) hfin (hC.2.2.2.2.2.1.trans hin) (hdc rfl) (v := .ref (ad g)) hpd (ht.2 _).2 (ht.2 _).1 (by rw [gj_fs_len]; exact hj) hd (fun H1 locs1 hP1 hD1 hS1 => ?_)
  rw [e1] at hP1 hD1
  have hsl : (S.set h (.inl (ci, fs.set j (g + 3)))).length = S.length := by simp
  exact kk p l e s m args below meth c H1 locs1 ls ad cA cZ D A Z hC ⟨hP1, hD1, hK, hS1, hRm, by rw [hsl]; exact hSl⟩ hL (fun rv S2 M2 H' locs' pc' ls' ad2 hq ho ha => hR rv S2 M2 H' locs' pc' ls' ad2 hq ho ⟨by have := ha.1; omega, fun q => ha.2.1 (by omega), fun x hx => ha.2.2 x (by omega)⟩)
theorem gj_oinit {h : Nat} (np : Nat) (hd : decode Y.2.1 pc = .ok (.invokespecial idx, 3)) (hp : pc + 3 = np) (hl : Cond.methodLink Y.1.cls idx Lib.objectInit ∈ gj_tb) (hfr : 1 ≤ Y.2.2.2.2.frames) (hlo : gj_al st + 12 ≤ Y.2.2.2.2.locals) (kk : gj_G xt Y S k n np lv st M Q) : gj_G xt Y S k n pc lv (gR h :: st) M Q := by
  subst hp
  intro p l e s m args below meth c H locs ls ad cA cZ D A Z hC hW hL hR
  have hts := hC.2.2.2.2.1
  exact W.objInit hC.1 hC.2.1 hC.2.2.2.1 (hts _ hl) (hts (.instanceMethod Lib.objectInit) (by decide +kernel)) (hts (.code Lib.objectInit ⟨#[0xb1]⟩ 1 none) (by decide +kernel)) rfl (by rw [hC.2.2.1]; exact hL.1) (rest := st.map (gj_c ad)) rfl hd hfr (by
    have h2 : (List.map (fun v => v.category) (List.map (gj_c ad) st)).sum = gj_al st := gj_ct ad st
    show 2 * 0 + _ + 12 ≤ _
    omega) (kk p l e s m args below meth c H locs ls ad cA cZ D A Z hC hW hL hR)
/-- a constructor's call, of a class of any package or of a nest mate -/
theorem gj_cI {As : List gj_V} {h : Nat} (np : Nat) (hd : decode Y.2.1 pc = .ok (.invokespecial idx, 3)) (hp : pc + 3 = np) (hok : gj_ok Y' na) (hnm : Y'.1.name = "<init>" ∧ Y'.2.2.2.1 = none) (hl : Cond.methodLink Y.1.cls idx Y'.1 ∈ gj_tb ∨ ∃ host, Cond.methodLinkNest Y.1.cls idx Y'.1 host ∈ gj_nb) (hi : Cond.instanceMethod Y'.1 ∈ gj_tb) (hstk : stk = As.reverse ++ gR h :: st) (hn : As.length = na) (hal : gj_al (gR h :: As) ≤ Y'.2.2.1) (hrm : gj_rm Y Y') (hct : gj_al st ≤ 8) (hf : k + Y'.2.2.2.2.cells ≤ Y.2.2.2.2.cells ∧ n + Y'.2.2.2.2.slots ≤ Y.2.2.2.2.slots) (hlv : gj_lo S.length lv = true) (hst : gj_so S.length st = true)
    {q : List gj_H → gj_M → Prop} (hG : gj_G xt Y' S 0 0 0 (gj_en Y'.2.2.1 (gR h :: As)) [] M (fun r S' M' => r = none ∧ q S' M'))
    (kk : ∀ (S' : List gj_H) (M' : gj_M), q S' M' → gj_G xt Y S' (k + Y'.2.2.2.2.cells) (n + Y'.2.2.2.2.slots) np lv st M' Q) : gj_G xt Y S k n pc lv stk M Q := by
  subst hp
  subst hstk
  subst hn
  intro p l e s m args below meth c H locs ls ad cA cZ D A Z hC hW hL hR
  obtain ⟨hpl, hcode, hini, hd1⟩ := hok
  have hts := hC.2.2.2.2.1
  have hgo : ∀ (rv : Option gj_V) (S' : List gj_H) (M' : gj_M) (ad' : Nat → Nat) (H1 : Heap) (locs1 : List Loc), (rv = none ∧ q S' M') → gj_ag S S' ad ad' → gj_Wd ad' cA cZ D A S' M' s H1 locs1 → W p l e Y.2.2.2.2 s m args below meth c H1 locs1 (k + Y'.2.2.2.2.cells) (n + Y'.2.2.2.2.slots) Z (F0 m (pc + 3) ls ((rv.map (gj_c ad')).toList ++ st.map (gj_c ad))) := by
    rintro rv S' M' ad' H1 locs1 ⟨rfl, hq⟩ hag hW1
    exact gj_move (kk S' M' hq) hlv hst hC hL hR hag hW1
  have hcat : 2 * (F0 m pc ls (List.map (gj_c ad) (As.reverse ++ gR h :: st))).monitorRoom + ((st.map (gj_c ad)).map fun v => v.category).sum ≤ 8 := lv_room (by rw [gj_ct]; exact hct)
  have hM := gj_met hpl hal hG l ad cA cZ D H.size
  rw [hnm.2] at hM hcode
  have hpre : PreS s H (va_Pc ((gR h :: As).map (gj_c ad)) (gj_Pre xt ad cA cZ D S M H.size)) (.ref (ad h) :: As.map (gj_c ad)) := ⟨gj_blind, fun U hU hWm => ⟨rfl, gj_pre hC hW U hU hWm⟩⟩
  rcases hl with hl | ⟨host, hl⟩
  · exact gj_aft hC hW (va_runI (As := As.map (gj_c ad)) (rest := st.map (gj_c ad)) (b := ad h) (Ts := gj_tb) ⟨hC.1, hC.2.1, hC.2.2.1, hC.2.2.2.1, hts⟩ hM ⟨callB_of As.length hts (gj_goodC hcode) rfl rfl rfl (hts _ hini) (hts _ hl) hd1 hrm, hnm.1, hts _ hi⟩ hpre rfl (by simp) (hL.1) (by simp [gj_c, gR]) hcat hd hf) hgo
  · exact gj_aft hC hW (va_runIN (As := As.map (gj_c ad)) (rest := st.map (gj_c ad)) (b := ad h) (Ts := gj_tb) ⟨hC.1, hC.2.1, hC.2.2.1, hC.2.2.2.1, hts⟩ hM ⟨va_cnB As.length hts (gj_goodC hcode) rfl rfl rfl (hC.2.2.2.2.2.2.2.2.2.2 _ hl) (hts _ hini) hd1 hrm, hnm.1, hts _ hi⟩ hpre rfl (by simp) (hL.1) (by simp [gj_c, gR]) hcat hd hf) hgo
end GN
end
section
theorem gj_at {w : Cond} (i : Nat) (h : lw_tbl[i]? = some w) (hg : goodWord w = true) : w ∈ gj_tb := List.mem_filter.mpr ⟨List.mem_of_getElem? h, hg⟩
theorem gj_an {w : Cond} (i : Nat) (h : lw_tbl[i]? = some w) (hg : gj_isN w = true) : w ∈ gj_nb := List.mem_filter.mpr ⟨List.mem_of_getElem? h, hg⟩
theorem inGX0 : ∀ w ∈ u_ws RX0 TX0 2, w ∈ gj_tb := fun w hw => List.mem_filter.mpr ⟨inX0 w hw, List.all_eq_true.mp (by decide +kernel : (u_ws RX0 TX0 2).all goodWord = true) w hw⟩
theorem k_X0 : gj_k 0 RX0 TX0 2 tyX0 := ⟨rfl, inGX0, tyX0_ok, nmX0⟩
theorem inGX1 : ∀ w ∈ u_ws RX1 TX1 6, w ∈ gj_tb := fun w hw => List.mem_filter.mpr ⟨inX1 w hw, List.all_eq_true.mp (by decide +kernel : (u_ws RX1 TX1 6).all goodWord = true) w hw⟩
theorem k_X1 : gj_k 1 RX1 TX1 6 tyX1 := ⟨rfl, inGX1, tyX1_ok, nmX1⟩
theorem inGX2 : ∀ w ∈ u_ws RX2 TX2 6, w ∈ gj_tb := fun w hw => List.mem_filter.mpr ⟨inX2 w hw, List.all_eq_true.mp (by decide +kernel : (u_ws RX2 TX2 6).all goodWord = true) w hw⟩
theorem k_X2 : gj_k 2 RX2 TX2 6 tyX2 := ⟨rfl, inGX2, tyX2_ok, nmX2⟩
theorem inGX3 : ∀ w ∈ u_ws RX3 TX3 7, w ∈ gj_tb := fun w hw => List.mem_filter.mpr ⟨inX3 w hw, List.all_eq_true.mp (by decide +kernel : (u_ws RX3 TX3 7).all goodWord = true) w hw⟩
theorem k_X3 : gj_k 3 RX3 TX3 7 tyX3 := ⟨rfl, inGX3, tyX3_ok, nmX3⟩
theorem inGX4 : ∀ w ∈ u_ws RX4 TX4 9, w ∈ gj_tb := fun w hw => List.mem_filter.mpr ⟨inX4 w hw, List.all_eq_true.mp (by decide +kernel : (u_ws RX4 TX4 9).all goodWord = true) w hw⟩
theorem k_X4 : gj_k 4 RX4 TX4 9 tyX4 := ⟨rfl, inGX4, tyX4_ok, nmX4⟩
theorem inGX5 : ∀ w ∈ u_ws RX5 TX5 7, w ∈ gj_tb := fun w hw => List.mem_filter.mpr ⟨inX5 w hw, List.all_eq_true.mp (by decide +kernel : (u_ws RX5 TX5 7).all goodWord = true) w hw⟩
theorem k_X5 : gj_k 5 RX5 TX5 7 tyX5 := ⟨rfl, inGX5, tyX5_ok, nmX5⟩
theorem inGX6 : ∀ w ∈ u_ws RX6 TX6 4, w ∈ gj_tb := fun w hw => List.mem_filter.mpr ⟨inX6 w hw, List.all_eq_true.mp (by decide +kernel : (u_ws RX6 TX6 4).all goodWord = true) w hw⟩
theorem k_X6 : gj_k 6 RX6 TX6 4 tyX6 := ⟨rfl, inGX6, tyX6_ok, nmX6⟩
theorem inGX7 : ∀ w ∈ u_ws RX7 TX7 13, w ∈ gj_tb := fun w hw => List.mem_filter.mpr ⟨inX7 w hw, List.all_eq_true.mp (by decide +kernel : (u_ws RX7 TX7 13).all goodWord = true) w hw⟩
theorem k_X7 : gj_k 7 RX7 TX7 13 tyX7 := ⟨rfl, inGX7, tyX7_ok, nmX7⟩
theorem inGX8 : ∀ w ∈ u_ws RX8 TX8 28, w ∈ gj_tb := fun w hw => List.mem_filter.mpr ⟨inX8 w hw, List.all_eq_true.mp (by decide +kernel : (u_ws RX8 TX8 28).all goodWord = true) w hw⟩
theorem k_X8 : gj_k 8 RX8 TX8 28 tyX8 := ⟨rfl, inGX8, tyX8_ok, nmX8⟩
def Y0_init : gj_Y := (yX0_init, cX0_init, 1, none, { frames := 1, cells := 1, slots := 70, locals := 20 })
theorem ok_0_init : gj_ok Y0_init 0 := ⟨by decide +kernel, (gj_at 253 (by decide +kernel) rfl), (gj_at 61 (by decide +kernel) rfl), by decide +kernel⟩
def Y0_clear : gj_Y := (yX0_clear, cX0_clear, 1, none, { frames := 0, cells := 0, slots := 0, locals := 0 })
theorem ok_0_clear : gj_ok Y0_clear 0 := ⟨by decide +kernel, (gj_at 434 (by decide +kernel) rfl), (gj_at 61 (by decide +kernel) rfl), by decide +kernel⟩
def Y0_add : gj_Y := (yX0_add, cX0_add, 7, none, { frames := 2, cells := 0, slots := 0, locals := 46 })
theorem ok_0_add : gj_ok Y0_add 5 := ⟨by decide +kernel, (gj_at 538 (by decide +kernel) rfl), (gj_at 61 (by decide +kernel) rfl), by decide +kernel⟩
def Y0_forgetFirst : gj_Y := (yX0_forgetFirst, cX0_forgetFirst, 1, none, { frames := 1, cells := 0, slots := 0, locals := 26 })
theorem ok_0_forgetFirst : gj_ok Y0_forgetFirst 0 := ⟨by decide +kernel, (gj_at 542 (by decide +kernel) rfl), (gj_at 61 (by decide +kernel) rfl), by decide +kernel⟩
def Y0_takeBackLast : gj_Y := (yX0_takeBackLast, cX0_takeBackLast, 4, none, { frames := 1, cells := 0, slots := 0, locals := 24 })
theorem ok_0_takeBackLast : gj_ok Y0_takeBackLast 1 := ⟨by decide +kernel, (gj_at 586 (by decide +kernel) rfl), (gj_at 61 (by decide +kernel) rfl), by decide +kernel⟩
def Y1_init : gj_Y := (yX1_init, cX1_init, 1, none, { frames := 2, cells := 6, slots := 216, locals := 40 })
theorem ok_1_init : gj_ok Y1_init 0 := ⟨by decide +kernel, (gj_at 78 (by decide +kernel) rfl), (gj_at 56 (by decide +kernel) rfl), by decide +kernel⟩
def Y1_firstFault : gj_Y := (yX1_firstFault, cX1_firstFault, 4, (some .int), { frames := 5, cells := 0, slots := 0, locals := 104 })
theorem ok_1_firstFault : gj_ok Y1_firstFault 2 := ⟨by decide +kernel, (gj_at 341 (by decide +kernel) rfl), (gj_at 56 (by decide +kernel) rfl), by decide +kernel⟩
def Y1_takes : gj_Y := (yX1_takes, cX1_takes, 2, (some .boolean), { frames := 4, cells := 0, slots := 0, locals := 83 })
theorem ok_1_takes : gj_ok Y1_takes 1 := ⟨by decide +kernel, (gj_at 349 (by decide +kernel) rfl), (gj_at 56 (by decide +kernel) rfl), by decide +kernel⟩
def Y1_takesDrawing : gj_Y := (yX1_takesDrawing, cX1_takesDrawing, 1, (some .boolean), { frames := 0, cells := 0, slots := 0, locals := 0 })
theorem ok_1_takesDrawing : gj_ok Y1_takesDrawing 0 := ⟨by decide +kernel, (gj_at 353 (by decide +kernel) rfl), (gj_at 56 (by decide +kernel) rfl), by decide +kernel⟩
def Y1_takesWidth : gj_Y := (yX1_takesWidth, cX1_takesWidth, 2, (some .boolean), { frames := 1, cells := 0, slots := 0, locals := 22 })
theorem ok_1_takesWidth : gj_ok Y1_takesWidth 1 := ⟨by decide +kernel, (gj_at 365 (by decide +kernel) rfl), (gj_at 56 (by decide +kernel) rfl), by decide +kernel⟩
def Y1_takesLevel : gj_Y := (yX1_takesLevel, cX1_takesLevel, 2, (some .boolean), { frames := 1, cells := 0, slots := 0, locals := 20 })
theorem ok_1_takesLevel : gj_ok Y1_takesLevel 1 := ⟨by decide +kernel, (gj_at 357 (by decide +kernel) rfl), (gj_at 56 (by decide +kernel) rfl), by decide +kernel⟩
def Y1_takesItemOrEnd : gj_Y := (yX1_takesItemOrEnd, cX1_takesItemOrEnd, 2, (some .boolean), { frames := 3, cells := 0, slots := 0, locals := 62 })
theorem ok_1_takesItemOrEnd : gj_ok Y1_takesItemOrEnd 1 := ⟨by decide +kernel, (gj_at 373 (by decide +kernel) rfl), (gj_at 56 (by decide +kernel) rfl), by decide +kernel⟩
def Y1_takesItem : gj_Y := (yX1_takesItem, cX1_takesItem, 3, (some .boolean), { frames := 2, cells := 0, slots := 0, locals := 40 })
theorem ok_1_takesItem : gj_ok Y1_takesItem 1 := ⟨by decide +kernel, (gj_at 377 (by decide +kernel) rfl), (gj_at 56 (by decide +kernel) rfl), by decide +kernel⟩
def Y1_takesOpening : gj_Y := (yX1_takesOpening, cX1_takesOpening, 1, (some .boolean), { frames := 1, cells := 0, slots := 0, locals := 20 })
theorem ok_1_takesOpening : gj_ok Y1_takesOpening 0 := ⟨by decide +kernel, (gj_at 381 (by decide +kernel) rfl), (gj_at 56 (by decide +kernel) rfl), by decide +kernel⟩
def Y1_takesHold : gj_Y := (yX1_takesHold, cX1_takesHold, 2, (some .boolean), { frames := 2, cells := 0, slots := 0, locals := 45 })
theorem ok_1_takesHold : gj_ok Y1_takesHold 1 := ⟨by decide +kernel, (gj_at 389 (by decide +kernel) rfl), (gj_at 56 (by decide +kernel) rfl), by decide +kernel⟩
def Y1_takesTimes : gj_Y := (yX1_takesTimes, cX1_takesTimes, 2, (some .boolean), { frames := 2, cells := 0, slots := 0, locals := 48 })
theorem ok_1_takesTimes : gj_ok Y1_takesTimes 1 := ⟨by decide +kernel, (gj_at 401 (by decide +kernel) rfl), (gj_at 56 (by decide +kernel) rfl), by decide +kernel⟩
def Y2_init : gj_Y := (yX2_init, cX2_init, 1, none, { frames := 1, cells := 4, slots := 208, locals := 20 })
theorem ok_2_init : gj_ok Y2_init 0 := ⟨by decide +kernel, (gj_at 84 (by decide +kernel) rfl), (gj_at 57 (by decide +kernel) rfl), by decide +kernel⟩
def Y2_clear : gj_Y := (yX2_clear, cX2_clear, 1, none, { frames := 0, cells := 0, slots := 0, locals := 0 })
theorem ok_2_clear : gj_ok Y2_clear 0 := ⟨by decide +kernel, (gj_at 345 (by decide +kernel) rfl), (gj_at 57 (by decide +kernel) rfl), by decide +kernel⟩
def Y2_addDrawing : gj_Y := (yX2_addDrawing, cX2_addDrawing, 3, none, { frames := 0, cells := 0, slots := 0, locals := 0 })
theorem ok_2_addDrawing : gj_ok Y2_addDrawing 2 := ⟨by decide +kernel, (gj_at 369 (by decide +kernel) rfl), (gj_at 57 (by decide +kernel) rfl), by decide +kernel⟩
def Y2_addLevel : gj_Y := (yX2_addLevel, cX2_addLevel, 1, none, { frames := 0, cells := 0, slots := 0, locals := 0 })
theorem ok_2_addLevel : gj_ok Y2_addLevel 0 := ⟨by decide +kernel, (gj_at 361 (by decide +kernel) rfl), (gj_at 57 (by decide +kernel) rfl), by decide +kernel⟩
def Y2_lastLong : gj_Y := (yX2_lastLong, cX2_lastLong, 1, (some .int), { frames := 0, cells := 0, slots := 0, locals := 0 })
theorem ok_2_lastLong : gj_ok Y2_lastLong 0 := ⟨by decide +kernel, (gj_at 385 (by decide +kernel) rfl), (gj_at 57 (by decide +kernel) rfl), by decide +kernel⟩
def Y2_hold : gj_Y := (yX2_hold, cX2_hold, 4, none, { frames := 1, cells := 0, slots := 0, locals := 22 })
theorem ok_2_hold : gj_ok Y2_hold 2 := ⟨by decide +kernel, (gj_at 393 (by decide +kernel) rfl), (gj_at 57 (by decide +kernel) rfl), by decide +kernel⟩
def Y2_repeatFrom : gj_Y := (yX2_repeatFrom, cX2_repeatFrom, 7, none, { frames := 1, cells := 0, slots := 0, locals := 22 })
theorem ok_2_repeatFrom : gj_ok Y2_repeatFrom 2 := ⟨by decide +kernel, (gj_at 405 (by decide +kernel) rfl), (gj_at 57 (by decide +kernel) rfl), by decide +kernel⟩
def Y2_append : gj_Y := (yX2_append, cX2_append, 3, none, { frames := 0, cells := 0, slots := 0, locals := 0 })
theorem ok_2_append : gj_ok Y2_append 1 := ⟨by decide +kernel, (gj_at 397 (by decide +kernel) rfl), (gj_at 57 (by decide +kernel) rfl), by decide +kernel⟩
def Y2_copyFrom : gj_Y := (yX2_copyFrom, cX2_copyFrom, 2, none, { frames := 1, cells := 0, slots := 0, locals := 26 })
theorem ok_2_copyFrom : gj_ok Y2_copyFrom 1 := ⟨by decide +kernel, (gj_at 414 (by decide +kernel) rfl), (gj_at 57 (by decide +kernel) rfl), by decide +kernel⟩
def Y3_init : gj_Y := (yX3_init, cX3_init, 1, none, { frames := 2, cells := 25, slots := 2940, locals := 41 })
theorem ok_3_init : gj_ok Y3_init 0 := ⟨by decide +kernel, (gj_at 143 (by decide +kernel) rfl), (gj_at 58 (by decide +kernel) rfl), by decide +kernel⟩
def Y3_forgetShorts : gj_Y := (yX3_forgetShorts, cX3_forgetShorts, 2, none, { frames := 0, cells := 0, slots := 0, locals := 0 })
theorem ok_3_forgetShorts : gj_ok Y3_forgetShorts 0 := ⟨by decide +kernel, (gj_at 430 (by decide +kernel) rfl), (gj_at 58 (by decide +kernel) rfl), by decide +kernel⟩
def Y3_drawingOn : gj_Y := (yX3_drawingOn, cX3_drawingOn, 4, (some .int), { frames := 0, cells := 0, slots := 0, locals := 0 })
theorem ok_3_drawingOn : gj_ok Y3_drawingOn 2 := ⟨by decide +kernel, (gj_at 457 (by decide +kernel) rfl), (gj_at 58 (by decide +kernel) rfl), by decide +kernel⟩
def Y3_isOrder : gj_Y := (yX3_isOrder, cX3_isOrder, 4, (some .boolean), { frames := 1, cells := 0, slots := 0, locals := 23 })
theorem ok_3_isOrder : gj_ok Y3_isOrder 1 := ⟨by decide +kernel, (gj_at 560 (by decide +kernel) rfl), (gj_at 58 (by decide +kernel) rfl), by decide +kernel⟩
def Y3_levelInOrder : gj_Y := (yX3_levelInOrder, cX3_levelInOrder, 4, (some .int), { frames := 0, cells := 0, slots := 0, locals := 0 })
theorem ok_3_levelInOrder : gj_ok Y3_levelInOrder 2 := ⟨by decide +kernel, (gj_at 566 (by decide +kernel) rfl), (gj_at 58 (by decide +kernel) rfl), by decide +kernel⟩
def Y3_orderAt : gj_Y := (yX3_orderAt, cX3_orderAt, 5, (some .int), { frames := 1, cells := 0, slots := 0, locals := 24 })
theorem ok_3_orderAt : gj_ok Y3_orderAt 1 := ⟨by decide +kernel, (gj_at 602 (by decide +kernel) rfl), (gj_at 58 (by decide +kernel) rfl), by decide +kernel⟩
def Y3_covers : gj_Y := (yX3_covers, cX3_covers, 7, (some .boolean), { frames := 1, cells := 0, slots := 0, locals := 23 })
theorem ok_3_covers : gj_ok Y3_covers 4 := ⟨by decide +kernel, (gj_at 622 (by decide +kernel) rfl), (gj_at 58 (by decide +kernel) rfl), by decide +kernel⟩
def Y3_levelCovers : gj_Y := (yX3_levelCovers, cX3_levelCovers, 4, (some .boolean), { frames := 2, cells := 0, slots := 0, locals := 49 })
theorem ok_3_levelCovers : gj_ok Y3_levelCovers 3 := ⟨by decide +kernel, (gj_at 700 (by decide +kernel) rfl), (gj_at 58 (by decide +kernel) rfl), by decide +kernel⟩
def Y3_seenAt : gj_Y := (yX3_seenAt, cX3_seenAt, 8, (some .int), { frames := 2, cells := 0, slots := 0, locals := 49 })
theorem ok_3_seenAt : gj_ok Y3_seenAt 3 := ⟨by decide +kernel, (gj_at 617 (by decide +kernel) rfl), (gj_at 58 (by decide +kernel) rfl), by decide +kernel⟩
def Y3_levelsCovering : gj_Y := (yX3_levelsCovering, cX3_levelsCovering, 5, (some .int), { frames := 3, cells := 0, slots := 0, locals := 72 })
theorem ok_3_levelsCovering : gj_ok Y3_levelsCovering 2 := ⟨by decide +kernel, (gj_at 704 (by decide +kernel) rfl), (gj_at 58 (by decide +kernel) rfl), by decide +kernel⟩
def Y3_changes : gj_Y := (yX3_changes, cX3_changes, 3, (some .int), { frames := 4, cells := 0, slots := 0, locals := 100 })
theorem ok_3_changes : gj_ok Y3_changes 0 := ⟨by decide +kernel, (gj_at 631 (by decide +kernel) rfl), (gj_at 58 (by decide +kernel) rfl), by decide +kernel⟩
def Y3_viewBecomes : gj_Y := (yX3_viewBecomes, cX3_viewBecomes, 5, (some .boolean), { frames := 3, cells := 0, slots := 0, locals := 76 })
theorem ok_3_viewBecomes : gj_ok Y3_viewBecomes 1 := ⟨by decide +kernel, (gj_at 635 (by decide +kernel) rfl), (gj_at 58 (by decide +kernel) rfl), by decide +kernel⟩
def Y3_cels : gj_Y := (yX3_cels, cX3_cels, 3, (some .int), { frames := 3, cells := 0, slots := 0, locals := 64 })
theorem ok_3_cels : gj_ok Y3_cels 0 := ⟨by decide +kernel, (gj_at 512 (by decide +kernel) rfl), (gj_at 58 (by decide +kernel) rfl), by decide +kernel⟩
def Y3_mostLevelsOf : gj_Y := (yX3_mostLevelsOf, cX3_mostLevelsOf, 2, (some .int), { frames := 3, cells := 0, slots := 0, locals := 64 })
theorem ok_3_mostLevelsOf : gj_ok Y3_mostLevelsOf 1 := ⟨by decide +kernel, (gj_at 446 (by decide +kernel) rfl), (gj_at 58 (by decide +kernel) rfl), by decide +kernel⟩
def Y3_findMost : gj_Y := (yX3_findMost, cX3_findMost, 3, none, { frames := 2, cells := 0, slots := 0, locals := 42 })
theorem ok_3_findMost : gj_ok Y3_findMost 0 := ⟨by decide +kernel, (gj_at 450 (by decide +kernel) rfl), (gj_at 58 (by decide +kernel) rfl), by decide +kernel⟩
def Y3_countDrawing : gj_Y := (yX3_countDrawing, cX3_countDrawing, 2, none, { frames := 1, cells := 0, slots := 0, locals := 21 })
theorem ok_3_countDrawing : gj_ok Y3_countDrawing 1 := ⟨by decide +kernel, (gj_at 461 (by decide +kernel) rfl), (gj_at 58 (by decide +kernel) rfl), by decide +kernel⟩
def Y3_clearDrawings : gj_Y := (yX3_clearDrawings, cX3_clearDrawings, 2, none, { frames := 0, cells := 0, slots := 0, locals := 0 })
theorem ok_3_clearDrawings : gj_ok Y3_clearDrawings 1 := ⟨by decide +kernel, (gj_at 453 (by decide +kernel) rfl), (gj_at 58 (by decide +kernel) rfl), by decide +kernel⟩
def Y3_shortOf : gj_Y := (yX3_shortOf, cX3_shortOf, 2, (some .int), { frames := 3, cells := 0, slots := 0, locals := 70 })
theorem ok_3_shortOf : gj_ok Y3_shortOf 1 := ⟨by decide +kernel, (gj_at 476 (by decide +kernel) rfl), (gj_at 58 (by decide +kernel) rfl), by decide +kernel⟩
def Y3_bestOf : gj_Y := (yX3_bestOf, cX3_bestOf, 7, (some .int), { frames := 4, cells := 0, slots := 0, locals := 86 })
theorem ok_3_bestOf : gj_ok Y3_bestOf 1 := ⟨by decide +kernel, (gj_at 508 (by decide +kernel) rfl), (gj_at 58 (by decide +kernel) rfl), by decide +kernel⟩
def Y3_shareInTwelfths : gj_Y := (yX3_shareInTwelfths, cX3_shareInTwelfths, 6, (some .int), { frames := 4, cells := 0, slots := 0, locals := 96 })
theorem ok_3_shareInTwelfths : gj_ok Y3_shareInTwelfths 1 := ⟨by decide +kernel, (gj_at 696 (by decide +kernel) rfl), (gj_at 58 (by decide +kernel) rfl), by decide +kernel⟩
def Y4_init : gj_Y := (yX4_init, cX4_init, 2, none, { frames := 1, cells := 8, slots := 39, locals := 20 })
theorem ok_4_init : gj_ok Y4_init 0 := ⟨by decide +kernel, (gj_at 151 (by decide +kernel) rfl), (gj_at 59 (by decide +kernel) rfl), by decide +kernel⟩
def Y4_beginWith : gj_Y := (yX4_beginWith, cX4_beginWith, 3, none, { frames := 1, cells := 0, slots := 0, locals := 26 })
theorem ok_4_beginWith : gj_ok Y4_beginWith 1 := ⟨by decide +kernel, (gj_at 421 (by decide +kernel) rfl), (gj_at 59 (by decide +kernel) rfl), by decide +kernel⟩
def Y4_copyFrom : gj_Y := (yX4_copyFrom, cX4_copyFrom, 2, none, { frames := 1, cells := 0, slots := 0, locals := 26 })
theorem ok_4_copyFrom : gj_ok Y4_copyFrom 1 := ⟨by decide +kernel, (gj_at 646 (by decide +kernel) rfl), (gj_at 59 (by decide +kernel) rfl), by decide +kernel⟩
def Y4_tellPan : gj_Y := (yX4_tellPan, cX4_tellPan, 5, none, { frames := 0, cells := 0, slots := 0, locals := 0 })
theorem ok_4_tellPan : gj_ok Y4_tellPan 4 := ⟨by decide +kernel, (gj_at 426 (by decide +kernel) rfl), (gj_at 59 (by decide +kernel) rfl), by decide +kernel⟩
def Y4_panAt : gj_Y := (yX4_panAt, cX4_panAt, 4, (some .int), { frames := 0, cells := 0, slots := 0, locals := 0 })
theorem ok_4_panAt : gj_ok Y4_panAt 2 := ⟨by decide +kernel, (gj_at 530 (by decide +kernel) rfl), (gj_at 59 (by decide +kernel) rfl), by decide +kernel⟩
def Y4_addSwitch : gj_Y := (yX4_addSwitch, cX4_addSwitch, 3, none, { frames := 0, cells := 0, slots := 0, locals := 0 })
theorem ok_4_addSwitch : gj_ok Y4_addSwitch 2 := ⟨by decide +kernel, (gj_at 570 (by decide +kernel) rfl), (gj_at 59 (by decide +kernel) rfl), by decide +kernel⟩
def Y4_dropSwitch : gj_Y := (yX4_dropSwitch, cX4_dropSwitch, 1, (some .boolean), { frames := 0, cells := 0, slots := 0, locals := 0 })
theorem ok_4_dropSwitch : gj_ok Y4_dropSwitch 0 := ⟨by decide +kernel, (gj_at 578 (by decide +kernel) rfl), (gj_at 59 (by decide +kernel) rfl), by decide +kernel⟩
def Y4_switchFor : gj_Y := (yX4_switchFor, cX4_switchFor, 5, (some .int), { frames := 0, cells := 0, slots := 0, locals := 0 })
theorem ok_4_switchFor : gj_ok Y4_switchFor 1 := ⟨by decide +kernel, (gj_at 606 (by decide +kernel) rfl), (gj_at 59 (by decide +kernel) rfl), by decide +kernel⟩
def Y5_init : gj_Y := (yX5_init, cX5_init, 1, none, { frames := 1, cells := 6, slots := 2645, locals := 20 })
theorem ok_5_init : gj_ok Y5_init 0 := ⟨by decide +kernel, (gj_at 201 (by decide +kernel) rfl), (gj_at 60 (by decide +kernel) rfl), by decide +kernel⟩
def Y5_lettersFor : gj_Y := (yX5_lettersFor, cX5_lettersFor, 4, (some .int), { frames := 2, cells := 0, slots := 0, locals := 47 })
theorem ok_5_lettersFor : gj_ok Y5_lettersFor 2 := ⟨by decide +kernel, (gj_at 480 (by decide +kernel) rfl), (gj_at 60 (by decide +kernel) rfl), by decide +kernel⟩
def Y5_findLike : gj_Y := (yX5_findLike, cX5_findLike, 3, none, { frames := 0, cells := 0, slots := 0, locals := 0 })
theorem ok_5_findLike : gj_ok Y5_findLike 1 := ⟨by decide +kernel, (gj_at 488 (by decide +kernel) rfl), (gj_at 60 (by decide +kernel) rfl), by decide +kernel⟩
def Y5_findPlain : gj_Y := (yX5_findPlain, cX5_findPlain, 6, none, { frames := 0, cells := 0, slots := 0, locals := 0 })
theorem ok_5_findPlain : gj_ok Y5_findPlain 1 := ⟨by decide +kernel, (gj_at 492 (by decide +kernel) rfl), (gj_at 60 (by decide +kernel) rfl), by decide +kernel⟩
def Y5_findItems : gj_Y := (yX5_findItems, cX5_findItems, 7, none, { frames := 1, cells := 0, slots := 0, locals := 21 })
theorem ok_5_findItems : gj_ok Y5_findItems 3 := ⟨by decide +kernel, (gj_at 496 (by decide +kernel) rfl), (gj_at 60 (by decide +kernel) rfl), by decide +kernel⟩
def Y5_findOnce : gj_Y := (yX5_findOnce, cX5_findOnce, 7, none, { frames := 1, cells := 0, slots := 0, locals := 21 })
theorem ok_5_findOnce : gj_ok Y5_findOnce 1 := ⟨by decide +kernel, (gj_at 500 (by decide +kernel) rfl), (gj_at 60 (by decide +kernel) rfl), by decide +kernel⟩
def Y5_findTwice : gj_Y := (yX5_findTwice, cX5_findTwice, 3, none, { frames := 1, cells := 0, slots := 0, locals := 21 })
theorem ok_5_findTwice : gj_ok Y5_findTwice 1 := ⟨by decide +kernel, (gj_at 504 (by decide +kernel) rfl), (gj_at 60 (by decide +kernel) rfl), by decide +kernel⟩
def Y6_init : gj_Y := (yX6_init, cX6_init, 1, none, { frames := 1, cells := 3, slots := 18, locals := 20 })
theorem ok_6_init : gj_ok Y6_init 0 := ⟨by decide +kernel, (gj_at 267 (by decide +kernel) rfl), (gj_at 62 (by decide +kernel) rfl), by decide +kernel⟩
def Y6_clear : gj_Y := (yX6_clear, cX6_clear, 1, none, { frames := 0, cells := 0, slots := 0, locals := 0 })
theorem ok_6_clear : gj_ok Y6_clear 0 := ⟨by decide +kernel, (gj_at 679 (by decide +kernel) rfl), (gj_at 62 (by decide +kernel) rfl), by decide +kernel⟩
def Y6_add : gj_Y := (yX6_add, cX6_add, 4, none, { frames := 0, cells := 0, slots := 0, locals := 0 })
theorem ok_6_add : gj_ok Y6_add 3 := ⟨by decide +kernel, (gj_at 671 (by decide +kernel) rfl), (gj_at 62 (by decide +kernel) rfl), by decide +kernel⟩
def Y6_allSoWithout : gj_Y := (yX6_allSoWithout, cX6_allSoWithout, 4, (some .boolean), { frames := 3, cells := 0, slots := 0, locals := 76 })
theorem ok_6_allSoWithout : gj_ok Y6_allSoWithout 2 := ⟨by decide +kernel, (gj_at 687 (by decide +kernel) rfl), (gj_at 62 (by decide +kernel) rfl), by decide +kernel⟩
def Y7_init : gj_Y := (yX7_init, cX7_init, 1, none, { frames := 3, cells := 68, slots := 3489, locals := 61 })
theorem ok_7_init : gj_ok Y7_init 0 := ⟨by decide +kernel, (gj_at 70 (by decide +kernel) rfl), (gj_at 55 (by decide +kernel) rfl), by decide +kernel⟩
def Y7_write : gj_Y := (yX7_write, cX7_write, 2, (some .int), { frames := 0, cells := 0, slots := 0, locals := 0 })
theorem ok_7_write : gj_ok Y7_write 1 := ⟨by decide +kernel, (gj_at 329 (by decide +kernel) rfl), (gj_at 55 (by decide +kernel) rfl), by decide +kernel⟩
def Y7_wipe : gj_Y := (yX7_wipe, cX7_wipe, 2, (some .int), { frames := 0, cells := 0, slots := 0, locals := 0 })
theorem ok_7_wipe : gj_ok Y7_wipe 0 := ⟨by decide +kernel, (gj_at 333 (by decide +kernel) rfl), (gj_at 55 (by decide +kernel) rfl), by decide +kernel⟩
def Y7_fault : gj_Y := (yX7_fault, cX7_fault, 1, (some .int), { frames := 6, cells := 0, slots := 0, locals := 127 })
theorem ok_7_fault : gj_ok Y7_fault 0 := ⟨by decide +kernel, (gj_at 337 (by decide +kernel) rfl), (gj_at 55 (by decide +kernel) rfl), by decide +kernel⟩
def Y7_reel : gj_Y := (yX7_reel, cX7_reel, 2, (some .int), { frames := 6, cells := 0, slots := 0, locals := 127 })
theorem ok_7_reel : gj_ok Y7_reel 0 := ⟨by decide +kernel, (gj_at 410 (by decide +kernel) rfl), (gj_at 55 (by decide +kernel) rfl), by decide +kernel⟩
def Y7_drawing : gj_Y := (yX7_drawing, cX7_drawing, 3, (some .int), { frames := 4, cells := 0, slots := 0, locals := 85 })
theorem ok_7_drawing : gj_ok Y7_drawing 2 := ⟨by decide +kernel, (gj_at 438 (by decide +kernel) rfl), (gj_at 55 (by decide +kernel) rfl), by decide +kernel⟩
def Y7_level : gj_Y := (yX7_level, cX7_level, 3, (some .int), { frames := 5, cells := 0, slots := 0, locals := 112 })
theorem ok_7_level : gj_ok Y7_level 2 := ⟨by decide +kernel, (gj_at 468 (by decide +kernel) rfl), (gj_at 55 (by decide +kernel) rfl), by decide +kernel⟩
def Y7_where : gj_Y := (yX7_where, cX7_where, 3, (some .int), { frames := 2, cells := 0, slots := 0, locals := 42 })
theorem ok_7_where : gj_ok Y7_where 2 := ⟨by decide +kernel, (gj_at 516 (by decide +kernel) rfl), (gj_at 55 (by decide +kernel) rfl), by decide +kernel⟩
def Y7_redraw : gj_Y := (yX7_redraw, cX7_redraw, 6, (some .int), { frames := 3, cells := 0, slots := 0, locals := 72 })
theorem ok_7_redraw : gj_ok Y7_redraw 3 := ⟨by decide +kernel, (gj_at 534 (by decide +kernel) rfl), (gj_at 55 (by decide +kernel) rfl), by decide +kernel⟩
def Y7_delay : gj_Y := (yX7_delay, cX7_delay, 4, (some .int), { frames := 3, cells := 0, slots := 0, locals := 72 })
theorem ok_7_delay : gj_ok Y7_delay 2 := ⟨by decide +kernel, (gj_at 547 (by decide +kernel) rfl), (gj_at 55 (by decide +kernel) rfl), by decide +kernel⟩
def Y7_pan : gj_Y := (yX7_pan, cX7_pan, 6, (some .int), { frames := 3, cells := 0, slots := 0, locals := 72 })
theorem ok_7_pan : gj_ok Y7_pan 4 := ⟨by decide +kernel, (gj_at 551 (by decide +kernel) rfl), (gj_at 55 (by decide +kernel) rfl), by decide +kernel⟩
def Y7_swap : gj_Y := (yX7_swap, cX7_swap, 3, (some .int), { frames := 3, cells := 0, slots := 0, locals := 72 })
theorem ok_7_swap : gj_ok Y7_swap 2 := ⟨by decide +kernel, (gj_at 556 (by decide +kernel) rfl), (gj_at 55 (by decide +kernel) rfl), by decide +kernel⟩
def Y7_back : gj_Y := (yX7_back, cX7_back, 2, (some .int), { frames := 3, cells := 0, slots := 0, locals := 72 })
theorem ok_7_back : gj_ok Y7_back 0 := ⟨by decide +kernel, (gj_at 574 (by decide +kernel) rfl), (gj_at 55 (by decide +kernel) rfl), by decide +kernel⟩
def Y7_undo : gj_Y := (yX7_undo, cX7_undo, 1, (some .int), { frames := 2, cells := 0, slots := 0, locals := 47 })
theorem ok_7_undo : gj_ok Y7_undo 0 := ⟨by decide +kernel, (gj_at 582 (by decide +kernel) rfl), (gj_at 55 (by decide +kernel) rfl), by decide +kernel⟩
def Y7_exposed : gj_Y := (yX7_exposed, cX7_exposed, 3, (some .int), { frames := 1, cells := 0, slots := 0, locals := 23 })
theorem ok_7_exposed : gj_ok Y7_exposed 2 := ⟨by decide +kernel, (gj_at 593 (by decide +kernel) rfl), (gj_at 55 (by decide +kernel) rfl), by decide +kernel⟩
def Y7_order : gj_Y := (yX7_order, cX7_order, 2, (some .int), { frames := 2, cells := 0, slots := 0, locals := 48 })
theorem ok_7_order : gj_ok Y7_order 1 := ⟨by decide +kernel, (gj_at 598 (by decide +kernel) rfl), (gj_at 55 (by decide +kernel) rfl), by decide +kernel⟩
def Y7_look : gj_Y := (yX7_look, cX7_look, 3, (some .int), { frames := 3, cells := 0, slots := 0, locals := 76 })
theorem ok_7_look : gj_ok Y7_look 2 := ⟨by decide +kernel, (gj_at 610 (by decide +kernel) rfl), (gj_at 55 (by decide +kernel) rfl), by decide +kernel⟩
def Y7_ask : gj_Y := (yX7_ask, cX7_ask, 2, (some .int), { frames := 5, cells := 0, slots := 0, locals := 122 })
theorem ok_7_ask : gj_ok Y7_ask 1 := ⟨by decide +kernel, (gj_at 627 (by decide +kernel) rfl), (gj_at 55 (by decide +kernel) rfl), by decide +kernel⟩
def Y7_judge : gj_Y := (yX7_judge, cX7_judge, 7, (some .int), { frames := 6, cells := 0, slots := 0, locals := 137 })
theorem ok_7_judge : gj_ok Y7_judge 2 := ⟨by decide +kernel, (gj_at 641 (by decide +kernel) rfl), (gj_at 55 (by decide +kernel) rfl), by decide +kernel⟩
def Y7_see : gj_Y := (yX7_see, cX7_see, 4, (some .int), { frames := 1, cells := 0, slots := 0, locals := 23 })
theorem ok_7_see : gj_ok Y7_see 3 := ⟨by decide +kernel, (gj_at 667 (by decide +kernel) rfl), (gj_at 55 (by decide +kernel) rfl), by decide +kernel⟩
def Y7_unsee : gj_Y := (yX7_unsee, cX7_unsee, 2, (some .int), { frames := 1, cells := 0, slots := 0, locals := 20 })
theorem ok_7_unsee : gj_ok Y7_unsee 0 := ⟨by decide +kernel, (gj_at 675 (by decide +kernel) rfl), (gj_at 55 (by decide +kernel) rfl), by decide +kernel⟩
def Y7_which : gj_Y := (yX7_which, cX7_which, 3, (some .int), { frames := 4, cells := 0, slots := 0, locals := 99 })
theorem ok_7_which : gj_ok Y7_which 0 := ⟨by decide +kernel, (gj_at 683 (by decide +kernel) rfl), (gj_at 55 (by decide +kernel) rfl), by decide +kernel⟩
def Y7_share : gj_Y := (yX7_share, cX7_share, 3, (some .int), { frames := 5, cells := 0, slots := 0, locals := 121 })
theorem ok_7_share : gj_ok Y7_share 2 := ⟨by decide +kernel, (gj_at 692 (by decide +kernel) rfl), (gj_at 55 (by decide +kernel) rfl), by decide +kernel⟩
def Y7_lost : gj_Y := (yX7_lost, cX7_lost, 9, (some .int), { frames := 4, cells := 0, slots := 0, locals := 96 })
theorem ok_7_lost : gj_ok Y7_lost 4 := ⟨by decide +kernel, (gj_at 714 (by decide +kernel) rfl), (gj_at 55 (by decide +kernel) rfl), by decide +kernel⟩
def Y7_seed : gj_Y := (yX7_seed, cX7_seed, 5, (some .long), { frames := 0, cells := 0, slots := 0, locals := 0 })
theorem ok_7_seed : gj_ok Y7_seed 1 := ⟨by decide +kernel, (gj_at 719 (by decide +kernel) rfl), (gj_at 55 (by decide +kernel) rfl), by decide +kernel⟩
def Y7_looks : gj_Y := (yX7_looks, cX7_looks, 5, (some .int), { frames := 3, cells := 0, slots := 0, locals := 76 })
theorem ok_7_looks : gj_ok Y7_looks 1 := ⟨by decide +kernel, (gj_at 723 (by decide +kernel) rfl), (gj_at 55 (by decide +kernel) rfl), by decide +kernel⟩
def Y7_keep : gj_Y := (yX7_keep, cX7_keep, 2, (some .int), { frames := 2, cells := 0, slots := 0, locals := 47 })
theorem ok_7_keep : gj_ok Y7_keep 1 := ⟨by decide +kernel, (gj_at 729 (by decide +kernel) rfl), (gj_at 55 (by decide +kernel) rfl), by decide +kernel⟩
def Y7_again : gj_Y := (yX7_again, cX7_again, 2, (some .int), { frames := 2, cells := 0, slots := 0, locals := 47 })
theorem ok_7_again : gj_ok Y7_again 1 := ⟨by decide +kernel, (gj_at 737 (by decide +kernel) rfl), (gj_at 55 (by decide +kernel) rfl), by decide +kernel⟩
def Y7_count : gj_Y := (yX7_count, cX7_count, 2, (some .int), { frames := 0, cells := 0, slots := 0, locals := 0 })
theorem ok_7_count : gj_ok Y7_count 1 := ⟨by decide +kernel, (gj_at 741 (by decide +kernel) rfl), (gj_at 55 (by decide +kernel) rfl), by decide +kernel⟩
def Y7_isDrawing : gj_Y := (yX7_isDrawing, cX7_isDrawing, 2, (some .boolean), { frames := 0, cells := 0, slots := 0, locals := 0 })
theorem ok_7_isDrawing : gj_ok Y7_isDrawing 1 := ⟨by decide +kernel, (gj_at 442 (by decide +kernel) rfl), (gj_at 55 (by decide +kernel) rfl), by decide +kernel⟩
def Y7_isLevel : gj_Y := (yX7_isLevel, cX7_isLevel, 2, (some .boolean), { frames := 0, cells := 0, slots := 0, locals := 0 })
theorem ok_7_isLevel : gj_ok Y7_isLevel 1 := ⟨by decide +kernel, (gj_at 472 (by decide +kernel) rfl), (gj_at 55 (by decide +kernel) rfl), by decide +kernel⟩
def Y7_hasPan : gj_Y := (yX7_hasPan, cX7_hasPan, 2, (some .boolean), { frames := 1, cells := 0, slots := 0, locals := 21 })
theorem ok_7_hasPan : gj_ok Y7_hasPan 1 := ⟨by decide +kernel, (gj_at 520 (by decide +kernel) rfl), (gj_at 55 (by decide +kernel) rfl), by decide +kernel⟩
def Y7_panOf : gj_Y := (yX7_panOf, cX7_panOf, 1, (some .int), { frames := 0, cells := 0, slots := 0, locals := 0 })
theorem ok_7_panOf : gj_ok Y7_panOf 1 := ⟨by decide +kernel, (gj_at 526 (by decide +kernel) rfl), (gj_at 55 (by decide +kernel) rfl), by decide +kernel⟩
def Y7_isFrame : gj_Y := (yX7_isFrame, cX7_isFrame, 1, (some .boolean), { frames := 0, cells := 0, slots := 0, locals := 0 })
theorem ok_7_isFrame : gj_ok Y7_isFrame 1 := ⟨by decide +kernel, (gj_at 523 (by decide +kernel) rfl), (gj_at 55 (by decide +kernel) rfl), by decide +kernel⟩
def Y7_isWindow : gj_Y := (yX7_isWindow, cX7_isWindow, 1, (some .boolean), { frames := 0, cells := 0, slots := 0, locals := 0 })
theorem ok_7_isWindow : gj_ok Y7_isWindow 1 := ⟨by decide +kernel, (gj_at 613 (by decide +kernel) rfl), (gj_at 55 (by decide +kernel) rfl), by decide +kernel⟩
def Y7_keptIn : gj_Y := (yX7_keptIn, cX7_keptIn, 2, (some (.object "CelSheets$Setting")), { frames := 0, cells := 0, slots := 0, locals := 0 })
theorem ok_7_keptIn : gj_ok Y7_keptIn 1 := ⟨by decide +kernel, (gj_at 733 (by decide +kernel) rfl), (gj_at 55 (by decide +kernel) rfl), by decide +kernel⟩
def Y7_firstThatCanNotBe : gj_Y := (yX7_firstThatCanNotBe, cX7_firstThatCanNotBe, 7, (some .int), { frames := 5, cells := 0, slots := 0, locals := 111 })
theorem ok_7_firstThatCanNotBe : gj_ok Y7_firstThatCanNotBe 2 := ⟨by decide +kernel, (gj_at 650 (by decide +kernel) rfl), (gj_at 55 (by decide +kernel) rfl), by decide +kernel⟩
def Y7_comesTrue : gj_Y := (yX7_comesTrue, cX7_comesTrue, 6, (some .boolean), { frames := 4, cells := 0, slots := 0, locals := 86 })
theorem ok_7_comesTrue : gj_ok Y7_comesTrue 1 := ⟨by decide +kernel, (gj_at 654 (by decide +kernel) rfl), (gj_at 55 (by decide +kernel) rfl), by decide +kernel⟩
def Y7_delayForNow : gj_Y := (yX7_delayForNow, cX7_delayForNow, 3, (some .boolean), { frames := 1, cells := 0, slots := 0, locals := 21 })
theorem ok_7_delayForNow : gj_ok Y7_delayForNow 2 := ⟨by decide +kernel, (gj_at 658 (by decide +kernel) rfl), (gj_at 55 (by decide +kernel) rfl), by decide +kernel⟩
def Y7_redrawForNow : gj_Y := (yX7_redrawForNow, cX7_redrawForNow, 4, (some .boolean), { frames := 1, cells := 0, slots := 0, locals := 21 })
theorem ok_7_redrawForNow : gj_ok Y7_redrawForNow 3 := ⟨by decide +kernel, (gj_at 662 (by decide +kernel) rfl), (gj_at 55 (by decide +kernel) rfl), by decide +kernel⟩
def Y7_fractionPart : gj_Y := (yX7_fractionPart, cX7_fractionPart, 5, (some .int), { frames := 1, cells := 0, slots := 0, locals := 25 })
theorem ok_7_fractionPart : gj_ok Y7_fractionPart 3 := ⟨by decide +kernel, (gj_at 707 (by decide +kernel) rfl), (gj_at 55 (by decide +kernel) rfl), by decide +kernel⟩
def Y7_commonDivisor : gj_Y := (yX7_commonDivisor, cX7_commonDivisor, 6, (some .int), { frames := 0, cells := 0, slots := 0, locals := 0 })
theorem ok_7_commonDivisor : gj_ok Y7_commonDivisor 2 := ⟨by decide +kernel, (gj_at 710 (by decide +kernel) rfl), (gj_at 55 (by decide +kernel) rfl), by decide +kernel⟩
def Y8_init : gj_Y := (yX8_init, cX8_init, 1, none, { frames := 1, cells := 18, slots := 10862, locals := 21 })
theorem ok_8_init : gj_ok Y8_init 0 := ⟨by decide +kernel, (gj_at 746 (by decide +kernel) rfl), (gj_at 63 (by decide +kernel) rfl), by decide +kernel⟩
def Y8_in : gj_Y := (yX8_in, cX8_in, 6, (some .boolean), { frames := 0, cells := 0, slots := 0, locals := 0 })
theorem ok_8_in : gj_ok Y8_in 3 := ⟨by decide +kernel, (gj_at 843 (by decide +kernel) rfl), (gj_at 63 (by decide +kernel) rfl), by decide +kernel⟩
def Y8_has : gj_Y := (yX8_has, cX8_has, 2, (some .boolean), { frames := 0, cells := 0, slots := 0, locals := 0 })
theorem ok_8_has : gj_ok Y8_has 2 := ⟨by decide +kernel, (gj_at 1009 (by decide +kernel) rfl), (gj_at 63 (by decide +kernel) rfl), by decide +kernel⟩
def Y8_ones : gj_Y := (yX8_ones, cX8_ones, 3, (some .int), { frames := 0, cells := 0, slots := 0, locals := 0 })
theorem ok_8_ones : gj_ok Y8_ones 1 := ⟨by decide +kernel, (gj_at 1050 (by decide +kernel) rfl), (gj_at 63 (by decide +kernel) rfl), by decide +kernel⟩
def Y8_power : gj_Y := (yX8_power, cX8_power, 4, (some .int), { frames := 0, cells := 0, slots := 0, locals := 0 })
theorem ok_8_power : gj_ok Y8_power 2 := ⟨by decide +kernel, (gj_at 970 (by decide +kernel) rfl), (gj_at 63 (by decide +kernel) rfl), by decide +kernel⟩
def Y8_fresh : gj_Y := (yX8_fresh, cX8_fresh, 2, none, { frames := 0, cells := 0, slots := 0, locals := 0 })
theorem ok_8_fresh : gj_ok Y8_fresh 1 := ⟨by decide +kernel, (gj_at 750 (by decide +kernel) rfl), (gj_at 63 (by decide +kernel) rfl), by decide +kernel⟩
def Y8_layTrial : gj_Y := (yX8_layTrial, cX8_layTrial, 2, none, { frames := 0, cells := 0, slots := 0, locals := 0 })
theorem ok_8_layTrial : gj_ok Y8_layTrial 0 := ⟨by decide +kernel, (gj_at 923 (by decide +kernel) rfl), (gj_at 63 (by decide +kernel) rfl), by decide +kernel⟩
def Y8_noLevel : gj_Y := (yX8_noLevel, cX8_noLevel, 2, (some .boolean), { frames := 1, cells := 0, slots := 0, locals := 25 })
theorem ok_8_noLevel : gj_ok Y8_noLevel 1 := ⟨by decide +kernel, (gj_at 903 (by decide +kernel) rfl), (gj_at 63 (by decide +kernel) rfl), by decide +kernel⟩
def Y8_noDrawing : gj_Y := (yX8_noDrawing, cX8_noDrawing, 2, (some .boolean), { frames := 1, cells := 0, slots := 0, locals := 25 })
theorem ok_8_noDrawing : gj_ok Y8_noDrawing 1 := ⟨by decide +kernel, (gj_at 887 (by decide +kernel) rfl), (gj_at 63 (by decide +kernel) rfl), by decide +kernel⟩
def Y8_isFrame : gj_Y := (yX8_isFrame, cX8_isFrame, 1, (some .boolean), { frames := 1, cells := 0, slots := 0, locals := 25 })
theorem ok_8_isFrame : gj_ok Y8_isFrame 1 := ⟨by decide +kernel, (gj_at 934 (by decide +kernel) rfl), (gj_at 63 (by decide +kernel) rfl), by decide +kernel⟩
def Y8_write : gj_Y := (yX8_write, cX8_write, 2, (some .int), { frames := 1, cells := 0, slots := 0, locals := 25 })
theorem ok_8_write : gj_ok Y8_write 1 := ⟨by decide +kernel, (gj_at 839 (by decide +kernel) rfl), (gj_at 63 (by decide +kernel) rfl), by decide +kernel⟩
def Y8_wipe : gj_Y := (yX8_wipe, cX8_wipe, 2, (some .int), { frames := 0, cells := 0, slots := 0, locals := 0 })
theorem ok_8_wipe : gj_ok Y8_wipe 0 := ⟨by decide +kernel, (gj_at 847 (by decide +kernel) rfl), (gj_at 63 (by decide +kernel) rfl), by decide +kernel⟩
def Y8_figure : gj_Y := (yX8_figure, cX8_figure, 4, (some .int), { frames := 1, cells := 0, slots := 0, locals := 25 })
theorem ok_8_figure : gj_ok Y8_figure 2 := ⟨by decide +kernel, (gj_at 863 (by decide +kernel) rfl), (gj_at 63 (by decide +kernel) rfl), by decide +kernel⟩
def Y8_readDrawing : gj_Y := (yX8_readDrawing, cX8_readDrawing, 3, (some .boolean), { frames := 2, cells := 0, slots := 0, locals := 48 })
theorem ok_8_readDrawing : gj_ok Y8_readDrawing 0 := ⟨by decide +kernel, (gj_at 859 (by decide +kernel) rfl), (gj_at 63 (by decide +kernel) rfl), by decide +kernel⟩
def Y8_spread : gj_Y := (yX8_spread, cX8_spread, 4, none, { frames := 0, cells := 0, slots := 0, locals := 0 })
theorem ok_8_spread : gj_ok Y8_spread 2 := ⟨by decide +kernel, (gj_at 875 (by decide +kernel) rfl), (gj_at 63 (by decide +kernel) rfl), by decide +kernel⟩
def Y8_over : gj_Y := (yX8_over, cX8_over, 6, none, { frames := 1, cells := 0, slots := 0, locals := 23 })
theorem ok_8_over : gj_ok Y8_over 2 := ⟨by decide +kernel, (gj_at 871 (by decide +kernel) rfl), (gj_at 63 (by decide +kernel) rfl), by decide +kernel⟩
def Y8_readSheet : gj_Y := (yX8_readSheet, cX8_readSheet, 4, (some .boolean), { frames := 2, cells := 0, slots := 0, locals := 48 })
theorem ok_8_readSheet : gj_ok Y8_readSheet 0 := ⟨by decide +kernel, (gj_at 867 (by decide +kernel) rfl), (gj_at 63 (by decide +kernel) rfl), by decide +kernel⟩
def Y8_readReel : gj_Y := (yX8_readReel, cX8_readReel, 1, (some .int), { frames := 3, cells := 0, slots := 0, locals := 71 })
theorem ok_8_readReel : gj_ok Y8_readReel 0 := ⟨by decide +kernel, (gj_at 855 (by decide +kernel) rfl), (gj_at 63 (by decide +kernel) rfl), by decide +kernel⟩
def Y8_fault : gj_Y := (yX8_fault, cX8_fault, 1, (some .int), { frames := 4, cells := 0, slots := 0, locals := 91 })
theorem ok_8_fault : gj_ok Y8_fault 0 := ⟨by decide +kernel, (gj_at 851 (by decide +kernel) rfl), (gj_at 63 (by decide +kernel) rfl), by decide +kernel⟩
def Y8_reel : gj_Y := (yX8_reel, cX8_reel, 2, (some .int), { frames := 4, cells := 0, slots := 0, locals := 91 })
theorem ok_8_reel : gj_ok Y8_reel 0 := ⟨by decide +kernel, (gj_at 879 (by decide +kernel) rfl), (gj_at 63 (by decide +kernel) rfl), by decide +kernel⟩
def Y8_exposedOn : gj_Y := (yX8_exposedOn, cX8_exposedOn, 5, (some .int), { frames := 1, cells := 0, slots := 0, locals := 25 })
theorem ok_8_exposedOn : gj_ok Y8_exposedOn 3 := ⟨by decide +kernel, (gj_at 895 (by decide +kernel) rfl), (gj_at 63 (by decide +kernel) rfl), by decide +kernel⟩
def Y8_whereIs : gj_Y := (yX8_whereIs, cX8_whereIs, 4, (some .int), { frames := 0, cells := 0, slots := 0, locals := 0 })
theorem ok_8_whereIs : gj_ok Y8_whereIs 3 := ⟨by decide +kernel, (gj_at 938 (by decide +kernel) rfl), (gj_at 63 (by decide +kernel) rfl), by decide +kernel⟩
def Y8_firstOrder : gj_Y := (yX8_firstOrder, cX8_firstOrder, 3, (some .int), { frames := 0, cells := 0, slots := 0, locals := 0 })
theorem ok_8_firstOrder : gj_ok Y8_firstOrder 0 := ⟨by decide +kernel, (gj_at 998 (by decide +kernel) rfl), (gj_at 63 (by decide +kernel) rfl), by decide +kernel⟩
def Y8_orderAt : gj_Y := (yX8_orderAt, cX8_orderAt, 6, (some .int), { frames := 1, cells := 0, slots := 0, locals := 22 })
theorem ok_8_orderAt : gj_ok Y8_orderAt 2 := ⟨by decide +kernel, (gj_at 994 (by decide +kernel) rfl), (gj_at 63 (by decide +kernel) rfl), by decide +kernel⟩
def Y8_lookBy : gj_Y := (yX8_lookBy, cX8_lookBy, 12, (some .int), { frames := 2, cells := 0, slots := 0, locals := 49 })
theorem ok_8_lookBy : gj_ok Y8_lookBy 5 := ⟨by decide +kernel, (gj_at 1006 (by decide +kernel) rfl), (gj_at 63 (by decide +kernel) rfl), by decide +kernel⟩
def Y8_every : gj_Y := (yX8_every, cX8_every, 1, (some .int), { frames := 0, cells := 0, slots := 0, locals := 0 })
theorem ok_8_every : gj_ok Y8_every 0 := ⟨by decide +kernel, (gj_at 974 (by decide +kernel) rfl), (gj_at 63 (by decide +kernel) rfl), by decide +kernel⟩
def Y8_mostOf : gj_Y := (yX8_mostOf, cX8_mostOf, 7, (some .int), { frames := 2, cells := 0, slots := 0, locals := 49 })
theorem ok_8_mostOf : gj_ok Y8_mostOf 2 := ⟨by decide +kernel, (gj_at 891 (by decide +kernel) rfl), (gj_at 63 (by decide +kernel) rfl), by decide +kernel⟩
def Y8_cels : gj_Y := (yX8_cels, cX8_cels, 4, (some .int), { frames := 3, cells := 0, slots := 0, locals := 75 })
theorem ok_8_cels : gj_ok Y8_cels 1 := ⟨by decide +kernel, (gj_at 927 (by decide +kernel) rfl), (gj_at 63 (by decide +kernel) rfl), by decide +kernel⟩
def Y8_changes : gj_Y := (yX8_changes, cX8_changes, 5, (some .int), { frames := 3, cells := 0, slots := 0, locals := 80 })
theorem ok_8_changes : gj_ok Y8_changes 0 := ⟨by decide +kernel, (gj_at 1017 (by decide +kernel) rfl), (gj_at 63 (by decide +kernel) rfl), by decide +kernel⟩
def Y8_layLike : gj_Y := (yX8_layLike, cX8_layLike, 5, none, { frames := 0, cells := 0, slots := 0, locals := 0 })
theorem ok_8_layLike : gj_ok Y8_layLike 1 := ⟨by decide +kernel, (gj_at 911 (by decide +kernel) rfl), (gj_at 63 (by decide +kernel) rfl), by decide +kernel⟩
def Y8_itemOf : gj_Y := (yX8_itemOf, cX8_itemOf, 9, (some .int), { frames := 0, cells := 0, slots := 0, locals := 0 })
theorem ok_8_itemOf : gj_ok Y8_itemOf 3 := ⟨by decide +kernel, (gj_at 915 (by decide +kernel) rfl), (gj_at 63 (by decide +kernel) rfl), by decide +kernel⟩
def Y8_shortest : gj_Y := (yX8_shortest, cX8_shortest, 11, (some .int), { frames := 1, cells := 0, slots := 0, locals := 28 })
theorem ok_8_shortest : gj_ok Y8_shortest 1 := ⟨by decide +kernel, (gj_at 907 (by decide +kernel) rfl), (gj_at 63 (by decide +kernel) rfl), by decide +kernel⟩
def Y8_bestDelay : gj_Y := (yX8_bestDelay, cX8_bestDelay, 6, (some .int), { frames := 4, cells := 0, slots := 0, locals := 98 })
theorem ok_8_bestDelay : gj_ok Y8_bestDelay 1 := ⟨by decide +kernel, (gj_at 919 (by decide +kernel) rfl), (gj_at 63 (by decide +kernel) rfl), by decide +kernel⟩
def Y8_drawing : gj_Y := (yX8_drawing, cX8_drawing, 3, (some .int), { frames := 3, cells := 0, slots := 0, locals := 75 })
theorem ok_8_drawing : gj_ok Y8_drawing 2 := ⟨by decide +kernel, (gj_at 883 (by decide +kernel) rfl), (gj_at 63 (by decide +kernel) rfl), by decide +kernel⟩
def Y8_level : gj_Y := (yX8_level, cX8_level, 3, (some .int), { frames := 5, cells := 0, slots := 0, locals := 123 })
theorem ok_8_level : gj_ok Y8_level 2 := ⟨by decide +kernel, (gj_at 899 (by decide +kernel) rfl), (gj_at 63 (by decide +kernel) rfl), by decide +kernel⟩
def Y8_where : gj_Y := (yX8_where, cX8_where, 3, (some .int), { frames := 2, cells := 0, slots := 0, locals := 46 })
theorem ok_8_where : gj_ok Y8_where 2 := ⟨by decide +kernel, (gj_at 931 (by decide +kernel) rfl), (gj_at 63 (by decide +kernel) rfl), by decide +kernel⟩
def Y8_note : gj_Y := (yX8_note, cX8_note, 2, none, { frames := 0, cells := 0, slots := 0, locals := 0 })
theorem ok_8_note : gj_ok Y8_note 0 := ⟨by decide +kernel, (gj_at 948 (by decide +kernel) rfl), (gj_at 63 (by decide +kernel) rfl), by decide +kernel⟩
def Y8_redraw : gj_Y := (yX8_redraw, cX8_redraw, 5, (some .int), { frames := 2, cells := 0, slots := 0, locals := 46 })
theorem ok_8_redraw : gj_ok Y8_redraw 3 := ⟨by decide +kernel, (gj_at 942 (by decide +kernel) rfl), (gj_at 63 (by decide +kernel) rfl), by decide +kernel⟩
def Y8_delay : gj_Y := (yX8_delay, cX8_delay, 4, (some .int), { frames := 2, cells := 0, slots := 0, locals := 46 })
theorem ok_8_delay : gj_ok Y8_delay 2 := ⟨by decide +kernel, (gj_at 952 (by decide +kernel) rfl), (gj_at 63 (by decide +kernel) rfl), by decide +kernel⟩
def Y8_pan : gj_Y := (yX8_pan, cX8_pan, 6, (some .int), { frames := 2, cells := 0, slots := 0, locals := 46 })
theorem ok_8_pan : gj_ok Y8_pan 4 := ⟨by decide +kernel, (gj_at 956 (by decide +kernel) rfl), (gj_at 63 (by decide +kernel) rfl), by decide +kernel⟩
def Y8_isOrder : gj_Y := (yX8_isOrder, cX8_isOrder, 4, (some .boolean), { frames := 1, cells := 0, slots := 0, locals := 25 })
theorem ok_8_isOrder : gj_ok Y8_isOrder 1 := ⟨by decide +kernel, (gj_at 967 (by decide +kernel) rfl), (gj_at 63 (by decide +kernel) rfl), by decide +kernel⟩
def Y8_swap : gj_Y := (yX8_swap, cX8_swap, 3, (some .int), { frames := 2, cells := 0, slots := 0, locals := 48 })
theorem ok_8_swap : gj_ok Y8_swap 2 := ⟨by decide +kernel, (gj_at 963 (by decide +kernel) rfl), (gj_at 63 (by decide +kernel) rfl), by decide +kernel⟩
def Y8_back : gj_Y := (yX8_back, cX8_back, 1, (some .int), { frames := 1, cells := 0, slots := 0, locals := 21 })
theorem ok_8_back : gj_ok Y8_back 0 := ⟨by decide +kernel, (gj_at 978 (by decide +kernel) rfl), (gj_at 63 (by decide +kernel) rfl), by decide +kernel⟩
def Y8_undo : gj_Y := (yX8_undo, cX8_undo, 2, (some .int), { frames := 0, cells := 0, slots := 0, locals := 0 })
theorem ok_8_undo : gj_ok Y8_undo 0 := ⟨by decide +kernel, (gj_at 982 (by decide +kernel) rfl), (gj_at 63 (by decide +kernel) rfl), by decide +kernel⟩
def Y8_exposed : gj_Y := (yX8_exposed, cX8_exposed, 3, (some .int), { frames := 2, cells := 0, slots := 0, locals := 49 })
theorem ok_8_exposed : gj_ok Y8_exposed 2 := ⟨by decide +kernel, (gj_at 986 (by decide +kernel) rfl), (gj_at 63 (by decide +kernel) rfl), by decide +kernel⟩
def Y8_order : gj_Y := (yX8_order, cX8_order, 2, (some .int), { frames := 2, cells := 0, slots := 0, locals := 47 })
theorem ok_8_order : gj_ok Y8_order 1 := ⟨by decide +kernel, (gj_at 990 (by decide +kernel) rfl), (gj_at 63 (by decide +kernel) rfl), by decide +kernel⟩
def Y8_look : gj_Y := (yX8_look, cX8_look, 3, (some .int), { frames := 3, cells := 0, slots := 0, locals := 80 })
theorem ok_8_look : gj_ok Y8_look 2 := ⟨by decide +kernel, (gj_at 1002 (by decide +kernel) rfl), (gj_at 63 (by decide +kernel) rfl), by decide +kernel⟩
def Y8_ask : gj_Y := (yX8_ask, cX8_ask, 2, (some .int), { frames := 4, cells := 0, slots := 0, locals := 104 })
theorem ok_8_ask : gj_ok Y8_ask 1 := ⟨by decide +kernel, (gj_at 1013 (by decide +kernel) rfl), (gj_at 63 (by decide +kernel) rfl), by decide +kernel⟩
def Y8_does : gj_Y := (yX8_does, cX8_does, 6, (some .boolean), { frames := 4, cells := 0, slots := 0, locals := 98 })
theorem ok_8_does : gj_ok Y8_does 4 := ⟨by decide +kernel, (gj_at 1030 (by decide +kernel) rfl), (gj_at 63 (by decide +kernel) rfl), by decide +kernel⟩
def Y8_longPower : gj_Y := (yX8_longPower, cX8_longPower, 6, (some .long), { frames := 0, cells := 0, slots := 0, locals := 0 })
theorem ok_8_longPower : gj_ok Y8_longPower 2 := ⟨by decide +kernel, (gj_at 1026 (by decide +kernel) rfl), (gj_at 63 (by decide +kernel) rfl), by decide +kernel⟩
def Y8_judge : gj_Y := (yX8_judge, cX8_judge, 6, (some .int), { frames := 5, cells := 0, slots := 0, locals := 123 })
theorem ok_8_judge : gj_ok Y8_judge 2 := ⟨by decide +kernel, (gj_at 1021 (by decide +kernel) rfl), (gj_at 63 (by decide +kernel) rfl), by decide +kernel⟩
def Y8_see : gj_Y := (yX8_see, cX8_see, 4, (some .int), { frames := 2, cells := 0, slots := 0, locals := 45 })
theorem ok_8_see : gj_ok Y8_see 3 := ⟨by decide +kernel, (gj_at 1034 (by decide +kernel) rfl), (gj_at 63 (by decide +kernel) rfl), by decide +kernel⟩
def Y8_unsee : gj_Y := (yX8_unsee, cX8_unsee, 2, (some .int), { frames := 0, cells := 0, slots := 0, locals := 0 })
theorem ok_8_unsee : gj_ok Y8_unsee 0 := ⟨by decide +kernel, (gj_at 1039 (by decide +kernel) rfl), (gj_at 63 (by decide +kernel) rfl), by decide +kernel⟩
def Y8_which : gj_Y := (yX8_which, cX8_which, 5, (some .int), { frames := 3, cells := 0, slots := 0, locals := 80 })
theorem ok_8_which : gj_ok Y8_which 0 := ⟨by decide +kernel, (gj_at 1043 (by decide +kernel) rfl), (gj_at 63 (by decide +kernel) rfl), by decide +kernel⟩
def Y8_divisor : gj_Y := (yX8_divisor, cX8_divisor, 5, (some .int), { frames := 0, cells := 0, slots := 0, locals := 0 })
theorem ok_8_divisor : gj_ok Y8_divisor 2 := ⟨by decide +kernel, (gj_at 1063 (by decide +kernel) rfl), (gj_at 63 (by decide +kernel) rfl), by decide +kernel⟩
def Y8_fraction : gj_Y := (yX8_fraction, cX8_fraction, 4, (some .int), { frames := 1, cells := 0, slots := 0, locals := 24 })
theorem ok_8_fraction : gj_ok Y8_fraction 3 := ⟨by decide +kernel, (gj_at 1060 (by decide +kernel) rfl), (gj_at 63 (by decide +kernel) rfl), by decide +kernel⟩
def Y8_factorial : gj_Y := (yX8_factorial, cX8_factorial, 3, (some .int), { frames := 0, cells := 0, slots := 0, locals := 0 })
theorem ok_8_factorial : gj_ok Y8_factorial 1 := ⟨by decide +kernel, (gj_at 1053 (by decide +kernel) rfl), (gj_at 63 (by decide +kernel) rfl), by decide +kernel⟩
def Y8_coveredBy : gj_Y := (yX8_coveredBy, cX8_coveredBy, 5, (some .int), { frames := 3, cells := 0, slots := 0, locals := 80 })
theorem ok_8_coveredBy : gj_ok Y8_coveredBy 1 := ⟨by decide +kernel, (gj_at 1057 (by decide +kernel) rfl), (gj_at 63 (by decide +kernel) rfl), by decide +kernel⟩
def Y8_share : gj_Y := (yX8_share, cX8_share, 6, (some .int), { frames := 4, cells := 0, slots := 0, locals := 104 })
theorem ok_8_share : gj_ok Y8_share 2 := ⟨by decide +kernel, (gj_at 1047 (by decide +kernel) rfl), (gj_at 63 (by decide +kernel) rfl), by decide +kernel⟩
def Y8_lost : gj_Y := (yX8_lost, cX8_lost, 7, (some .int), { frames := 3, cells := 0, slots := 0, locals := 80 })
theorem ok_8_lost : gj_ok Y8_lost 4 := ⟨by decide +kernel, (gj_at 1067 (by decide +kernel) rfl), (gj_at 63 (by decide +kernel) rfl), by decide +kernel⟩
def Y8_seed : gj_Y := (yX8_seed, cX8_seed, 5, (some .long), { frames := 0, cells := 0, slots := 0, locals := 0 })
theorem ok_8_seed : gj_ok Y8_seed 1 := ⟨by decide +kernel, (gj_at 1072 (by decide +kernel) rfl), (gj_at 63 (by decide +kernel) rfl), by decide +kernel⟩
def Y8_looks : gj_Y := (yX8_looks, cX8_looks, 5, (some .int), { frames := 3, cells := 0, slots := 0, locals := 80 })
theorem ok_8_looks : gj_ok Y8_looks 1 := ⟨by decide +kernel, (gj_at 1076 (by decide +kernel) rfl), (gj_at 63 (by decide +kernel) rfl), by decide +kernel⟩
def Y8_keep : gj_Y := (yX8_keep, cX8_keep, 3, (some .int), { frames := 1, cells := 0, slots := 0, locals := 25 })
theorem ok_8_keep : gj_ok Y8_keep 1 := ⟨by decide +kernel, (gj_at 1083 (by decide +kernel) rfl), (gj_at 63 (by decide +kernel) rfl), by decide +kernel⟩
def Y8_again : gj_Y := (yX8_again, cX8_again, 3, (some .int), { frames := 1, cells := 0, slots := 0, locals := 25 })
theorem ok_8_again : gj_ok Y8_again 1 := ⟨by decide +kernel, (gj_at 1087 (by decide +kernel) rfl), (gj_at 63 (by decide +kernel) rfl), by decide +kernel⟩
def Y8_count : gj_Y := (yX8_count, cX8_count, 2, (some .int), { frames := 0, cells := 0, slots := 0, locals := 0 })
theorem ok_8_count : gj_ok Y8_count 1 := ⟨by decide +kernel, (gj_at 1091 (by decide +kernel) rfl), (gj_at 63 (by decide +kernel) rfl), by decide +kernel⟩
def YL_law : gj_Y := (yL_law, cL_law, 4, (some .boolean), { frames := 9, cells := 88, slots := 14392, locals := 328 })
end
section
theorem iv_0_forgetFirst : Cond.instanceMethod Y0_forgetFirst.1 ∈ gj_tb ∧ Cond.selects Y0_forgetFirst.1.cls Y0_forgetFirst.1 Y0_forgetFirst.1 ∈ gj_tb := ⟨(gj_at 541 (by decide +kernel) rfl), (gj_at 20 (by decide +kernel) rfl)⟩
theorem iv_4_tellPan : Cond.instanceMethod Y4_tellPan.1 ∈ gj_tb ∧ Cond.selects Y4_tellPan.1.cls Y4_tellPan.1 Y4_tellPan.1 ∈ gj_tb := ⟨(gj_at 424 (by decide +kernel) rfl), (gj_at 425 (by decide +kernel) rfl)⟩
theorem iv_4_dropSwitch : Cond.instanceMethod Y4_dropSwitch.1 ∈ gj_tb ∧ Cond.selects Y4_dropSwitch.1.cls Y4_dropSwitch.1 Y4_dropSwitch.1 ∈ gj_tb := ⟨(gj_at 576 (by decide +kernel) rfl), (gj_at 577 (by decide +kernel) rfl)⟩
theorem iv_4_addSwitch : Cond.instanceMethod Y4_addSwitch.1 ∈ gj_tb ∧ Cond.selects Y4_addSwitch.1.cls Y4_addSwitch.1 Y4_addSwitch.1 ∈ gj_tb := ⟨(gj_at 568 (by decide +kernel) rfl), (gj_at 569 (by decide +kernel) rfl)⟩
theorem ii_2_init : Cond.instanceMethod Y2_init.1 ∈ gj_tb := (gj_at 83 (by decide +kernel) rfl)
theorem iv_2_clear : Cond.instanceMethod Y2_clear.1 ∈ gj_tb ∧ Cond.selects Y2_clear.1.cls Y2_clear.1 Y2_clear.1 ∈ gj_tb := ⟨(gj_at 343 (by decide +kernel) rfl), (gj_at 344 (by decide +kernel) rfl)⟩
theorem iv_1_takes : Cond.instanceMethod Y1_takes.1 ∈ gj_tb ∧ Cond.selects Y1_takes.1.cls Y1_takes.1 Y1_takes.1 ∈ gj_tb := ⟨(gj_at 348 (by decide +kernel) rfl), (gj_at 0 (by decide +kernel) rfl)⟩
theorem iv_1_takesDrawing : Cond.instanceMethod Y1_takesDrawing.1 ∈ gj_tb ∧ Cond.selects Y1_takesDrawing.1.cls Y1_takesDrawing.1 Y1_takesDrawing.1 ∈ gj_tb := ⟨(gj_at 352 (by decide +kernel) rfl), (gj_at 1 (by decide +kernel) rfl)⟩
theorem iv_1_takesLevel : Cond.instanceMethod Y1_takesLevel.1 ∈ gj_tb ∧ Cond.selects Y1_takesLevel.1.cls Y1_takesLevel.1 Y1_takesLevel.1 ∈ gj_tb := ⟨(gj_at 356 (by decide +kernel) rfl), (gj_at 2 (by decide +kernel) rfl)⟩
theorem iv_1_takesWidth : Cond.instanceMethod Y1_takesWidth.1 ∈ gj_tb ∧ Cond.selects Y1_takesWidth.1.cls Y1_takesWidth.1 Y1_takesWidth.1 ∈ gj_tb := ⟨(gj_at 364 (by decide +kernel) rfl), (gj_at 3 (by decide +kernel) rfl)⟩
theorem iv_1_takesItemOrEnd : Cond.instanceMethod Y1_takesItemOrEnd.1 ∈ gj_tb ∧ Cond.selects Y1_takesItemOrEnd.1.cls Y1_takesItemOrEnd.1 Y1_takesItemOrEnd.1 ∈ gj_tb := ⟨(gj_at 372 (by decide +kernel) rfl), (gj_at 4 (by decide +kernel) rfl)⟩
theorem iv_1_takesItem : Cond.instanceMethod Y1_takesItem.1 ∈ gj_tb ∧ Cond.selects Y1_takesItem.1.cls Y1_takesItem.1 Y1_takesItem.1 ∈ gj_tb := ⟨(gj_at 376 (by decide +kernel) rfl), (gj_at 5 (by decide +kernel) rfl)⟩
theorem iv_1_takesHold : Cond.instanceMethod Y1_takesHold.1 ∈ gj_tb ∧ Cond.selects Y1_takesHold.1.cls Y1_takesHold.1 Y1_takesHold.1 ∈ gj_tb := ⟨(gj_at 388 (by decide +kernel) rfl), (gj_at 7 (by decide +kernel) rfl)⟩
theorem iv_1_takesTimes : Cond.instanceMethod Y1_takesTimes.1 ∈ gj_tb ∧ Cond.selects Y1_takesTimes.1.cls Y1_takesTimes.1 Y1_takesTimes.1 ∈ gj_tb := ⟨(gj_at 400 (by decide +kernel) rfl), (gj_at 9 (by decide +kernel) rfl)⟩
theorem iv_2_addDrawing : Cond.instanceMethod Y2_addDrawing.1 ∈ gj_tb ∧ Cond.selects Y2_addDrawing.1.cls Y2_addDrawing.1 Y2_addDrawing.1 ∈ gj_tb := ⟨(gj_at 367 (by decide +kernel) rfl), (gj_at 368 (by decide +kernel) rfl)⟩
theorem iv_2_addLevel : Cond.instanceMethod Y2_addLevel.1 ∈ gj_tb ∧ Cond.selects Y2_addLevel.1.cls Y2_addLevel.1 Y2_addLevel.1 ∈ gj_tb := ⟨(gj_at 359 (by decide +kernel) rfl), (gj_at 360 (by decide +kernel) rfl)⟩
theorem iv_1_takesOpening : Cond.instanceMethod Y1_takesOpening.1 ∈ gj_tb ∧ Cond.selects Y1_takesOpening.1.cls Y1_takesOpening.1 Y1_takesOpening.1 ∈ gj_tb := ⟨(gj_at 380 (by decide +kernel) rfl), (gj_at 6 (by decide +kernel) rfl)⟩
theorem iv_2_lastLong : Cond.instanceMethod Y2_lastLong.1 ∈ gj_tb ∧ Cond.selects Y2_lastLong.1.cls Y2_lastLong.1 Y2_lastLong.1 ∈ gj_tb := ⟨(gj_at 383 (by decide +kernel) rfl), (gj_at 384 (by decide +kernel) rfl)⟩
theorem iv_2_hold : Cond.instanceMethod Y2_hold.1 ∈ gj_tb ∧ Cond.selects Y2_hold.1.cls Y2_hold.1 Y2_hold.1 ∈ gj_tb := ⟨(gj_at 391 (by decide +kernel) rfl), (gj_at 392 (by decide +kernel) rfl)⟩
theorem iv_2_repeatFrom : Cond.instanceMethod Y2_repeatFrom.1 ∈ gj_tb ∧ Cond.selects Y2_repeatFrom.1.cls Y2_repeatFrom.1 Y2_repeatFrom.1 ∈ gj_tb := ⟨(gj_at 403 (by decide +kernel) rfl), (gj_at 404 (by decide +kernel) rfl)⟩
theorem iv_2_append : Cond.instanceMethod Y2_append.1 ∈ gj_tb ∧ Cond.selects Y2_append.1.cls Y2_append.1 Y2_append.1 ∈ gj_tb := ⟨(gj_at 396 (by decide +kernel) rfl), (gj_at 8 (by decide +kernel) rfl)⟩
theorem ii_4_init : Cond.instanceMethod Y4_init.1 ∈ gj_tb := (gj_at 150 (by decide +kernel) rfl)
theorem ii_5_init : Cond.instanceMethod Y5_init.1 ∈ gj_tb := (gj_at 200 (by decide +kernel) rfl)
theorem iv_3_levelInOrder : Cond.instanceMethod Y3_levelInOrder.1 ∈ gj_tb ∧ Cond.selects Y3_levelInOrder.1.cls Y3_levelInOrder.1 Y3_levelInOrder.1 ∈ gj_tb := ⟨(gj_at 564 (by decide +kernel) rfl), (gj_at 565 (by decide +kernel) rfl)⟩
theorem iv_4_switchFor : Cond.instanceMethod Y4_switchFor.1 ∈ gj_tb ∧ Cond.selects Y4_switchFor.1.cls Y4_switchFor.1 Y4_switchFor.1 ∈ gj_tb := ⟨(gj_at 604 (by decide +kernel) rfl), (gj_at 605 (by decide +kernel) rfl)⟩
theorem iv_4_panAt : Cond.instanceMethod Y4_panAt.1 ∈ gj_tb ∧ Cond.selects Y4_panAt.1.cls Y4_panAt.1 Y4_panAt.1 ∈ gj_tb := ⟨(gj_at 528 (by decide +kernel) rfl), (gj_at 529 (by decide +kernel) rfl)⟩
theorem iv_3_drawingOn : Cond.instanceMethod Y3_drawingOn.1 ∈ gj_tb ∧ Cond.selects Y3_drawingOn.1.cls Y3_drawingOn.1 Y3_drawingOn.1 ∈ gj_tb := ⟨(gj_at 455 (by decide +kernel) rfl), (gj_at 456 (by decide +kernel) rfl)⟩
theorem iv_3_covers : Cond.instanceMethod Y3_covers.1 ∈ gj_tb ∧ Cond.selects Y3_covers.1.cls Y3_covers.1 Y3_covers.1 ∈ gj_tb := ⟨(gj_at 621 (by decide +kernel) rfl), (gj_at 21 (by decide +kernel) rfl)⟩
theorem iv_3_orderAt : Cond.instanceMethod Y3_orderAt.1 ∈ gj_tb ∧ Cond.selects Y3_orderAt.1.cls Y3_orderAt.1 Y3_orderAt.1 ∈ gj_tb := ⟨(gj_at 600 (by decide +kernel) rfl), (gj_at 601 (by decide +kernel) rfl)⟩
theorem iv_3_levelCovers : Cond.instanceMethod Y3_levelCovers.1 ∈ gj_tb ∧ Cond.selects Y3_levelCovers.1.cls Y3_levelCovers.1 Y3_levelCovers.1 ∈ gj_tb := ⟨(gj_at 699 (by decide +kernel) rfl), (gj_at 27 (by decide +kernel) rfl)⟩
theorem iv_3_viewBecomes : Cond.instanceMethod Y3_viewBecomes.1 ∈ gj_tb ∧ Cond.selects Y3_viewBecomes.1.cls Y3_viewBecomes.1 Y3_viewBecomes.1 ∈ gj_tb := ⟨(gj_at 634 (by decide +kernel) rfl), (gj_at 22 (by decide +kernel) rfl)⟩
theorem iv_3_seenAt : Cond.instanceMethod Y3_seenAt.1 ∈ gj_tb ∧ Cond.selects Y3_seenAt.1.cls Y3_seenAt.1 Y3_seenAt.1 ∈ gj_tb := ⟨(gj_at 615 (by decide +kernel) rfl), (gj_at 616 (by decide +kernel) rfl)⟩
theorem iv_3_findMost : Cond.instanceMethod Y3_findMost.1 ∈ gj_tb ∧ Cond.selects Y3_findMost.1.cls Y3_findMost.1 Y3_findMost.1 ∈ gj_tb := ⟨(gj_at 449 (by decide +kernel) rfl), (gj_at 11 (by decide +kernel) rfl)⟩
theorem is_3_clearDrawings : Cond.static Y3_clearDrawings.1 ∈ gj_tb := (gj_at 452 (by decide +kernel) rfl)
theorem iv_3_countDrawing : Cond.instanceMethod Y3_countDrawing.1 ∈ gj_tb ∧ Cond.selects Y3_countDrawing.1.cls Y3_countDrawing.1 Y3_countDrawing.1 ∈ gj_tb := ⟨(gj_at 460 (by decide +kernel) rfl), (gj_at 12 (by decide +kernel) rfl)⟩
theorem iv_5_lettersFor : Cond.instanceMethod Y5_lettersFor.1 ∈ gj_tb ∧ Cond.selects Y5_lettersFor.1.cls Y5_lettersFor.1 Y5_lettersFor.1 ∈ gj_tb := ⟨(gj_at 478 (by decide +kernel) rfl), (gj_at 479 (by decide +kernel) rfl)⟩
theorem iv_3_cels : Cond.instanceMethod Y3_cels.1 ∈ gj_tb ∧ Cond.selects Y3_cels.1.cls Y3_cels.1 Y3_cels.1 ∈ gj_tb := ⟨(gj_at 510 (by decide +kernel) rfl), (gj_at 511 (by decide +kernel) rfl)⟩
theorem iv_3_levelsCovering : Cond.instanceMethod Y3_levelsCovering.1 ∈ gj_tb ∧ Cond.selects Y3_levelsCovering.1.cls Y3_levelsCovering.1 Y3_levelsCovering.1 ∈ gj_tb := ⟨(gj_at 702 (by decide +kernel) rfl), (gj_at 703 (by decide +kernel) rfl)⟩
theorem iv_5_findLike : Cond.instanceMethod Y5_findLike.1 ∈ gj_tb ∧ Cond.selects Y5_findLike.1.cls Y5_findLike.1 Y5_findLike.1 ∈ gj_tb := ⟨(gj_at 487 (by decide +kernel) rfl), (gj_at 14 (by decide +kernel) rfl)⟩
theorem iv_5_findPlain : Cond.instanceMethod Y5_findPlain.1 ∈ gj_tb ∧ Cond.selects Y5_findPlain.1.cls Y5_findPlain.1 Y5_findPlain.1 ∈ gj_tb := ⟨(gj_at 491 (by decide +kernel) rfl), (gj_at 15 (by decide +kernel) rfl)⟩
theorem iv_5_findItems : Cond.instanceMethod Y5_findItems.1 ∈ gj_tb ∧ Cond.selects Y5_findItems.1.cls Y5_findItems.1 Y5_findItems.1 ∈ gj_tb := ⟨(gj_at 495 (by decide +kernel) rfl), (gj_at 16 (by decide +kernel) rfl)⟩
theorem iv_5_findOnce : Cond.instanceMethod Y5_findOnce.1 ∈ gj_tb ∧ Cond.selects Y5_findOnce.1.cls Y5_findOnce.1 Y5_findOnce.1 ∈ gj_tb := ⟨(gj_at 499 (by decide +kernel) rfl), (gj_at 17 (by decide +kernel) rfl)⟩
theorem iv_5_findTwice : Cond.instanceMethod Y5_findTwice.1 ∈ gj_tb ∧ Cond.selects Y5_findTwice.1.cls Y5_findTwice.1 Y5_findTwice.1 ∈ gj_tb := ⟨(gj_at 503 (by decide +kernel) rfl), (gj_at 18 (by decide +kernel) rfl)⟩
theorem ii_1_init : Cond.instanceMethod Y1_init.1 ∈ gj_tb := (gj_at 77 (by decide +kernel) rfl)
theorem ii_3_init : Cond.instanceMethod Y3_init.1 ∈ gj_tb := (gj_at 142 (by decide +kernel) rfl)
theorem ii_0_init : Cond.instanceMethod Y0_init.1 ∈ gj_tb := (gj_at 252 (by decide +kernel) rfl)
theorem ii_6_init : Cond.instanceMethod Y6_init.1 ∈ gj_tb := (gj_at 266 (by decide +kernel) rfl)
theorem iv_1_firstFault : Cond.instanceMethod Y1_firstFault.1 ∈ gj_tb ∧ Cond.selects Y1_firstFault.1.cls Y1_firstFault.1 Y1_firstFault.1 ∈ gj_tb := ⟨(gj_at 339 (by decide +kernel) rfl), (gj_at 340 (by decide +kernel) rfl)⟩
theorem iv_2_copyFrom : Cond.instanceMethod Y2_copyFrom.1 ∈ gj_tb ∧ Cond.selects Y2_copyFrom.1.cls Y2_copyFrom.1 Y2_copyFrom.1 ∈ gj_tb := ⟨(gj_at 412 (by decide +kernel) rfl), (gj_at 413 (by decide +kernel) rfl)⟩
theorem iv_4_beginWith : Cond.instanceMethod Y4_beginWith.1 ∈ gj_tb ∧ Cond.selects Y4_beginWith.1.cls Y4_beginWith.1 Y4_beginWith.1 ∈ gj_tb := ⟨(gj_at 419 (by decide +kernel) rfl), (gj_at 420 (by decide +kernel) rfl)⟩
theorem iv_3_forgetShorts : Cond.instanceMethod Y3_forgetShorts.1 ∈ gj_tb ∧ Cond.selects Y3_forgetShorts.1.cls Y3_forgetShorts.1 Y3_forgetShorts.1 ∈ gj_tb := ⟨(gj_at 428 (by decide +kernel) rfl), (gj_at 429 (by decide +kernel) rfl)⟩
theorem iv_0_clear : Cond.instanceMethod Y0_clear.1 ∈ gj_tb ∧ Cond.selects Y0_clear.1.cls Y0_clear.1 Y0_clear.1 ∈ gj_tb := ⟨(gj_at 432 (by decide +kernel) rfl), (gj_at 433 (by decide +kernel) rfl)⟩
theorem iv_7_isDrawing : Cond.instanceMethod Y7_isDrawing.1 ∈ gj_tb ∧ Cond.selects Y7_isDrawing.1.cls Y7_isDrawing.1 Y7_isDrawing.1 ∈ gj_tb := ⟨(gj_at 441 (by decide +kernel) rfl), (gj_at 10 (by decide +kernel) rfl)⟩
theorem iv_3_mostLevelsOf : Cond.instanceMethod Y3_mostLevelsOf.1 ∈ gj_tb ∧ Cond.selects Y3_mostLevelsOf.1.cls Y3_mostLevelsOf.1 Y3_mostLevelsOf.1 ∈ gj_tb := ⟨(gj_at 444 (by decide +kernel) rfl), (gj_at 445 (by decide +kernel) rfl)⟩
theorem iv_7_isLevel : Cond.instanceMethod Y7_isLevel.1 ∈ gj_tb ∧ Cond.selects Y7_isLevel.1.cls Y7_isLevel.1 Y7_isLevel.1 ∈ gj_tb := ⟨(gj_at 471 (by decide +kernel) rfl), (gj_at 13 (by decide +kernel) rfl)⟩
theorem iv_3_shortOf : Cond.instanceMethod Y3_shortOf.1 ∈ gj_tb ∧ Cond.selects Y3_shortOf.1.cls Y3_shortOf.1 Y3_shortOf.1 ∈ gj_tb := ⟨(gj_at 474 (by decide +kernel) rfl), (gj_at 475 (by decide +kernel) rfl)⟩
theorem iv_3_bestOf : Cond.instanceMethod Y3_bestOf.1 ∈ gj_tb ∧ Cond.selects Y3_bestOf.1.cls Y3_bestOf.1 Y3_bestOf.1 ∈ gj_tb := ⟨(gj_at 506 (by decide +kernel) rfl), (gj_at 507 (by decide +kernel) rfl)⟩
theorem iv_7_hasPan : Cond.instanceMethod Y7_hasPan.1 ∈ gj_tb ∧ Cond.selects Y7_hasPan.1.cls Y7_hasPan.1 Y7_hasPan.1 ∈ gj_tb := ⟨(gj_at 519 (by decide +kernel) rfl), (gj_at 19 (by decide +kernel) rfl)⟩
theorem is_7_isFrame : Cond.static Y7_isFrame.1 ∈ gj_tb := (gj_at 522 (by decide +kernel) rfl)
theorem is_7_panOf : Cond.static Y7_panOf.1 ∈ gj_tb := (gj_at 525 (by decide +kernel) rfl)
theorem iv_0_add : Cond.instanceMethod Y0_add.1 ∈ gj_tb ∧ Cond.selects Y0_add.1.cls Y0_add.1 Y0_add.1 ∈ gj_tb := ⟨(gj_at 536 (by decide +kernel) rfl), (gj_at 537 (by decide +kernel) rfl)⟩
theorem iv_3_isOrder : Cond.instanceMethod Y3_isOrder.1 ∈ gj_tb ∧ Cond.selects Y3_isOrder.1.cls Y3_isOrder.1 Y3_isOrder.1 ∈ gj_tb := ⟨(gj_at 558 (by decide +kernel) rfl), (gj_at 559 (by decide +kernel) rfl)⟩
theorem iv_0_takeBackLast : Cond.instanceMethod Y0_takeBackLast.1 ∈ gj_tb ∧ Cond.selects Y0_takeBackLast.1.cls Y0_takeBackLast.1 Y0_takeBackLast.1 ∈ gj_tb := ⟨(gj_at 584 (by decide +kernel) rfl), (gj_at 585 (by decide +kernel) rfl)⟩
theorem is_7_isWindow : Cond.static Y7_isWindow.1 ∈ gj_tb := (gj_at 612 (by decide +kernel) rfl)
theorem iv_3_changes : Cond.instanceMethod Y3_changes.1 ∈ gj_tb ∧ Cond.selects Y3_changes.1.cls Y3_changes.1 Y3_changes.1 ∈ gj_tb := ⟨(gj_at 629 (by decide +kernel) rfl), (gj_at 630 (by decide +kernel) rfl)⟩
theorem iv_4_copyFrom : Cond.instanceMethod Y4_copyFrom.1 ∈ gj_tb ∧ Cond.selects Y4_copyFrom.1.cls Y4_copyFrom.1 Y4_copyFrom.1 ∈ gj_tb := ⟨(gj_at 644 (by decide +kernel) rfl), (gj_at 645 (by decide +kernel) rfl)⟩
theorem iv_7_firstThatCanNotBe : Cond.instanceMethod Y7_firstThatCanNotBe.1 ∈ gj_tb ∧ Cond.selects Y7_firstThatCanNotBe.1.cls Y7_firstThatCanNotBe.1 Y7_firstThatCanNotBe.1 ∈ gj_tb := ⟨(gj_at 649 (by decide +kernel) rfl), (gj_at 23 (by decide +kernel) rfl)⟩
theorem iv_6_add : Cond.instanceMethod Y6_add.1 ∈ gj_tb ∧ Cond.selects Y6_add.1.cls Y6_add.1 Y6_add.1 ∈ gj_tb := ⟨(gj_at 669 (by decide +kernel) rfl), (gj_at 670 (by decide +kernel) rfl)⟩
theorem iv_6_clear : Cond.instanceMethod Y6_clear.1 ∈ gj_tb ∧ Cond.selects Y6_clear.1.cls Y6_clear.1 Y6_clear.1 ∈ gj_tb := ⟨(gj_at 677 (by decide +kernel) rfl), (gj_at 678 (by decide +kernel) rfl)⟩
theorem iv_6_allSoWithout : Cond.instanceMethod Y6_allSoWithout.1 ∈ gj_tb ∧ Cond.selects Y6_allSoWithout.1.cls Y6_allSoWithout.1 Y6_allSoWithout.1 ∈ gj_tb := ⟨(gj_at 685 (by decide +kernel) rfl), (gj_at 686 (by decide +kernel) rfl)⟩
theorem iv_3_shareInTwelfths : Cond.instanceMethod Y3_shareInTwelfths.1 ∈ gj_tb ∧ Cond.selects Y3_shareInTwelfths.1.cls Y3_shareInTwelfths.1 Y3_shareInTwelfths.1 ∈ gj_tb := ⟨(gj_at 694 (by decide +kernel) rfl), (gj_at 695 (by decide +kernel) rfl)⟩
theorem is_7_fractionPart : Cond.static Y7_fractionPart.1 ∈ gj_tb := (gj_at 706 (by decide +kernel) rfl)
theorem iv_7_keptIn : Cond.instanceMethod Y7_keptIn.1 ∈ gj_tb ∧ Cond.selects Y7_keptIn.1.cls Y7_keptIn.1 Y7_keptIn.1 ∈ gj_tb := ⟨(gj_at 732 (by decide +kernel) rfl), (gj_at 28 (by decide +kernel) rfl)⟩
theorem iv_7_comesTrue : Cond.instanceMethod Y7_comesTrue.1 ∈ gj_tb ∧ Cond.selects Y7_comesTrue.1.cls Y7_comesTrue.1 Y7_comesTrue.1 ∈ gj_tb := ⟨(gj_at 653 (by decide +kernel) rfl), (gj_at 24 (by decide +kernel) rfl)⟩
theorem iv_7_delayForNow : Cond.instanceMethod Y7_delayForNow.1 ∈ gj_tb ∧ Cond.selects Y7_delayForNow.1.cls Y7_delayForNow.1 Y7_delayForNow.1 ∈ gj_tb := ⟨(gj_at 657 (by decide +kernel) rfl), (gj_at 25 (by decide +kernel) rfl)⟩
theorem iv_7_redrawForNow : Cond.instanceMethod Y7_redrawForNow.1 ∈ gj_tb ∧ Cond.selects Y7_redrawForNow.1.cls Y7_redrawForNow.1 Y7_redrawForNow.1 ∈ gj_tb := ⟨(gj_at 661 (by decide +kernel) rfl), (gj_at 26 (by decide +kernel) rfl)⟩
theorem is_7_commonDivisor : Cond.static Y7_commonDivisor.1 ∈ gj_tb := (gj_at 709 (by decide +kernel) rfl)
theorem is_8_fresh : Cond.static Y8_fresh.1 ∈ gj_tb := (gj_at 749 (by decide +kernel) rfl)
theorem is_8_in : Cond.static Y8_in.1 ∈ gj_tb := (gj_at 842 (by decide +kernel) rfl)
theorem iv_8_figure : Cond.instanceMethod Y8_figure.1 ∈ gj_tb ∧ Cond.selects Y8_figure.1.cls Y8_figure.1 Y8_figure.1 ∈ gj_tb := ⟨(gj_at 862 (by decide +kernel) rfl), (gj_at 31 (by decide +kernel) rfl)⟩
theorem iv_8_spread : Cond.instanceMethod Y8_spread.1 ∈ gj_tb ∧ Cond.selects Y8_spread.1.cls Y8_spread.1 Y8_spread.1 ∈ gj_tb := ⟨(gj_at 874 (by decide +kernel) rfl), (gj_at 34 (by decide +kernel) rfl)⟩
theorem iv_8_over : Cond.instanceMethod Y8_over.1 ∈ gj_tb ∧ Cond.selects Y8_over.1.cls Y8_over.1 Y8_over.1 ∈ gj_tb := ⟨(gj_at 870 (by decide +kernel) rfl), (gj_at 33 (by decide +kernel) rfl)⟩
theorem iv_8_readDrawing : Cond.instanceMethod Y8_readDrawing.1 ∈ gj_tb ∧ Cond.selects Y8_readDrawing.1.cls Y8_readDrawing.1 Y8_readDrawing.1 ∈ gj_tb := ⟨(gj_at 858 (by decide +kernel) rfl), (gj_at 30 (by decide +kernel) rfl)⟩
theorem iv_8_readSheet : Cond.instanceMethod Y8_readSheet.1 ∈ gj_tb ∧ Cond.selects Y8_readSheet.1.cls Y8_readSheet.1 Y8_readSheet.1 ∈ gj_tb := ⟨(gj_at 866 (by decide +kernel) rfl), (gj_at 32 (by decide +kernel) rfl)⟩
theorem iv_8_readReel : Cond.instanceMethod Y8_readReel.1 ∈ gj_tb ∧ Cond.selects Y8_readReel.1.cls Y8_readReel.1 Y8_readReel.1 ∈ gj_tb := ⟨(gj_at 854 (by decide +kernel) rfl), (gj_at 29 (by decide +kernel) rfl)⟩
theorem iv_8_firstOrder : Cond.instanceMethod Y8_firstOrder.1 ∈ gj_tb ∧ Cond.selects Y8_firstOrder.1.cls Y8_firstOrder.1 Y8_firstOrder.1 ∈ gj_tb := ⟨(gj_at 997 (by decide +kernel) rfl), (gj_at 49 (by decide +kernel) rfl)⟩
theorem iv_8_orderAt : Cond.instanceMethod Y8_orderAt.1 ∈ gj_tb ∧ Cond.selects Y8_orderAt.1.cls Y8_orderAt.1 Y8_orderAt.1 ∈ gj_tb := ⟨(gj_at 993 (by decide +kernel) rfl), (gj_at 48 (by decide +kernel) rfl)⟩
theorem is_8_whereIs : Cond.static Y8_whereIs.1 ∈ gj_tb := (gj_at 937 (by decide +kernel) rfl)
theorem is_8_power : Cond.static Y8_power.1 ∈ gj_tb := (gj_at 969 (by decide +kernel) rfl)
theorem iv_8_exposedOn : Cond.instanceMethod Y8_exposedOn.1 ∈ gj_tb ∧ Cond.selects Y8_exposedOn.1.cls Y8_exposedOn.1 Y8_exposedOn.1 ∈ gj_tb := ⟨(gj_at 894 (by decide +kernel) rfl), (gj_at 37 (by decide +kernel) rfl)⟩
theorem is_8_has : Cond.static Y8_has.1 ∈ gj_tb := (gj_at 1008 (by decide +kernel) rfl)
theorem iv_8_mostOf : Cond.instanceMethod Y8_mostOf.1 ∈ gj_tb ∧ Cond.selects Y8_mostOf.1.cls Y8_mostOf.1 Y8_mostOf.1 ∈ gj_tb := ⟨(gj_at 890 (by decide +kernel) rfl), (gj_at 36 (by decide +kernel) rfl)⟩
theorem iv_8_every : Cond.instanceMethod Y8_every.1 ∈ gj_tb ∧ Cond.selects Y8_every.1.cls Y8_every.1 Y8_every.1 ∈ gj_tb := ⟨(gj_at 973 (by decide +kernel) rfl), (gj_at 47 (by decide +kernel) rfl)⟩
theorem iv_8_lookBy : Cond.instanceMethod Y8_lookBy.1 ∈ gj_tb ∧ Cond.selects Y8_lookBy.1.cls Y8_lookBy.1 Y8_lookBy.1 ∈ gj_tb := ⟨(gj_at 1005 (by decide +kernel) rfl), (gj_at 50 (by decide +kernel) rfl)⟩
theorem iv_8_layLike : Cond.instanceMethod Y8_layLike.1 ∈ gj_tb ∧ Cond.selects Y8_layLike.1.cls Y8_layLike.1 Y8_layLike.1 ∈ gj_tb := ⟨(gj_at 910 (by decide +kernel) rfl), (gj_at 40 (by decide +kernel) rfl)⟩
theorem iv_8_itemOf : Cond.instanceMethod Y8_itemOf.1 ∈ gj_tb ∧ Cond.selects Y8_itemOf.1.cls Y8_itemOf.1 Y8_itemOf.1 ∈ gj_tb := ⟨(gj_at 914 (by decide +kernel) rfl), (gj_at 41 (by decide +kernel) rfl)⟩
theorem iv_8_layTrial : Cond.instanceMethod Y8_layTrial.1 ∈ gj_tb ∧ Cond.selects Y8_layTrial.1.cls Y8_layTrial.1 Y8_layTrial.1 ∈ gj_tb := ⟨(gj_at 922 (by decide +kernel) rfl), (gj_at 43 (by decide +kernel) rfl)⟩
theorem iv_8_cels : Cond.instanceMethod Y8_cels.1 ∈ gj_tb ∧ Cond.selects Y8_cels.1.cls Y8_cels.1 Y8_cels.1 ∈ gj_tb := ⟨(gj_at 926 (by decide +kernel) rfl), (gj_at 44 (by decide +kernel) rfl)⟩
theorem iv_8_noDrawing : Cond.instanceMethod Y8_noDrawing.1 ∈ gj_tb ∧ Cond.selects Y8_noDrawing.1.cls Y8_noDrawing.1 Y8_noDrawing.1 ∈ gj_tb := ⟨(gj_at 886 (by decide +kernel) rfl), (gj_at 35 (by decide +kernel) rfl)⟩
theorem iv_8_noLevel : Cond.instanceMethod Y8_noLevel.1 ∈ gj_tb ∧ Cond.selects Y8_noLevel.1.cls Y8_noLevel.1 Y8_noLevel.1 ∈ gj_tb := ⟨(gj_at 902 (by decide +kernel) rfl), (gj_at 38 (by decide +kernel) rfl)⟩
theorem iv_8_shortest : Cond.instanceMethod Y8_shortest.1 ∈ gj_tb ∧ Cond.selects Y8_shortest.1.cls Y8_shortest.1 Y8_shortest.1 ∈ gj_tb := ⟨(gj_at 906 (by decide +kernel) rfl), (gj_at 39 (by decide +kernel) rfl)⟩
theorem iv_8_bestDelay : Cond.instanceMethod Y8_bestDelay.1 ∈ gj_tb ∧ Cond.selects Y8_bestDelay.1.cls Y8_bestDelay.1 Y8_bestDelay.1 ∈ gj_tb := ⟨(gj_at 918 (by decide +kernel) rfl), (gj_at 42 (by decide +kernel) rfl)⟩
theorem is_8_isFrame : Cond.static Y8_isFrame.1 ∈ gj_tb := (gj_at 933 (by decide +kernel) rfl)
theorem iv_8_note : Cond.instanceMethod Y8_note.1 ∈ gj_tb ∧ Cond.selects Y8_note.1.cls Y8_note.1 Y8_note.1 ∈ gj_tb := ⟨(gj_at 947 (by decide +kernel) rfl), (gj_at 45 (by decide +kernel) rfl)⟩
theorem iv_8_isOrder : Cond.instanceMethod Y8_isOrder.1 ∈ gj_tb ∧ Cond.selects Y8_isOrder.1.cls Y8_isOrder.1 Y8_isOrder.1 ∈ gj_tb := ⟨(gj_at 966 (by decide +kernel) rfl), (gj_at 46 (by decide +kernel) rfl)⟩
theorem iv_8_changes : Cond.instanceMethod Y8_changes.1 ∈ gj_tb ∧ Cond.selects Y8_changes.1.cls Y8_changes.1 Y8_changes.1 ∈ gj_tb := ⟨(gj_at 1016 (by decide +kernel) rfl), (gj_at 51 (by decide +kernel) rfl)⟩
theorem is_8_longPower : Cond.static Y8_longPower.1 ∈ gj_tb := (gj_at 1025 (by decide +kernel) rfl)
theorem iv_8_does : Cond.instanceMethod Y8_does.1 ∈ gj_tb ∧ Cond.selects Y8_does.1.cls Y8_does.1 Y8_does.1 ∈ gj_tb := ⟨(gj_at 1029 (by decide +kernel) rfl), (gj_at 52 (by decide +kernel) rfl)⟩
theorem is_8_divisor : Cond.static Y8_divisor.1 ∈ gj_tb := (gj_at 1062 (by decide +kernel) rfl)
theorem is_8_ones : Cond.static Y8_ones.1 ∈ gj_tb := (gj_at 1049 (by decide +kernel) rfl)
theorem is_8_factorial : Cond.static Y8_factorial.1 ∈ gj_tb := (gj_at 1052 (by decide +kernel) rfl)
theorem iv_8_coveredBy : Cond.instanceMethod Y8_coveredBy.1 ∈ gj_tb ∧ Cond.selects Y8_coveredBy.1.cls Y8_coveredBy.1 Y8_coveredBy.1 ∈ gj_tb := ⟨(gj_at 1056 (by decide +kernel) rfl), (gj_at 53 (by decide +kernel) rfl)⟩
theorem is_8_fraction : Cond.static Y8_fraction.1 ∈ gj_tb := (gj_at 1059 (by decide +kernel) rfl)
theorem ii_7_init : Cond.instanceMethod Y7_init.1 ∈ gj_tb := (gj_at 69 (by decide +kernel) rfl)
theorem ii_8_init : Cond.instanceMethod Y8_init.1 ∈ gj_tb := (gj_at 745 (by decide +kernel) rfl)
theorem iv_7_write : Cond.instanceMethod Y7_write.1 ∈ gj_tb ∧ Cond.selects Y7_write.1.cls Y7_write.1 Y7_write.1 ∈ gj_tb := ⟨(gj_at 327 (by decide +kernel) rfl), (gj_at 328 (by decide +kernel) rfl)⟩
theorem iv_8_write : Cond.instanceMethod Y8_write.1 ∈ gj_tb ∧ Cond.selects Y8_write.1.cls Y8_write.1 Y8_write.1 ∈ gj_tb := ⟨(gj_at 837 (by decide +kernel) rfl), (gj_at 838 (by decide +kernel) rfl)⟩
theorem iv_7_wipe : Cond.instanceMethod Y7_wipe.1 ∈ gj_tb ∧ Cond.selects Y7_wipe.1.cls Y7_wipe.1 Y7_wipe.1 ∈ gj_tb := ⟨(gj_at 331 (by decide +kernel) rfl), (gj_at 332 (by decide +kernel) rfl)⟩
theorem iv_8_wipe : Cond.instanceMethod Y8_wipe.1 ∈ gj_tb ∧ Cond.selects Y8_wipe.1.cls Y8_wipe.1 Y8_wipe.1 ∈ gj_tb := ⟨(gj_at 845 (by decide +kernel) rfl), (gj_at 846 (by decide +kernel) rfl)⟩
theorem iv_7_fault : Cond.instanceMethod Y7_fault.1 ∈ gj_tb ∧ Cond.selects Y7_fault.1.cls Y7_fault.1 Y7_fault.1 ∈ gj_tb := ⟨(gj_at 335 (by decide +kernel) rfl), (gj_at 336 (by decide +kernel) rfl)⟩
theorem iv_8_fault : Cond.instanceMethod Y8_fault.1 ∈ gj_tb ∧ Cond.selects Y8_fault.1.cls Y8_fault.1 Y8_fault.1 ∈ gj_tb := ⟨(gj_at 849 (by decide +kernel) rfl), (gj_at 850 (by decide +kernel) rfl)⟩
theorem iv_7_reel : Cond.instanceMethod Y7_reel.1 ∈ gj_tb ∧ Cond.selects Y7_reel.1.cls Y7_reel.1 Y7_reel.1 ∈ gj_tb := ⟨(gj_at 408 (by decide +kernel) rfl), (gj_at 409 (by decide +kernel) rfl)⟩
theorem iv_8_reel : Cond.instanceMethod Y8_reel.1 ∈ gj_tb ∧ Cond.selects Y8_reel.1.cls Y8_reel.1 Y8_reel.1 ∈ gj_tb := ⟨(gj_at 877 (by decide +kernel) rfl), (gj_at 878 (by decide +kernel) rfl)⟩
theorem iv_7_drawing : Cond.instanceMethod Y7_drawing.1 ∈ gj_tb ∧ Cond.selects Y7_drawing.1.cls Y7_drawing.1 Y7_drawing.1 ∈ gj_tb := ⟨(gj_at 436 (by decide +kernel) rfl), (gj_at 437 (by decide +kernel) rfl)⟩
theorem iv_8_drawing : Cond.instanceMethod Y8_drawing.1 ∈ gj_tb ∧ Cond.selects Y8_drawing.1.cls Y8_drawing.1 Y8_drawing.1 ∈ gj_tb := ⟨(gj_at 881 (by decide +kernel) rfl), (gj_at 882 (by decide +kernel) rfl)⟩
theorem iv_7_level : Cond.instanceMethod Y7_level.1 ∈ gj_tb ∧ Cond.selects Y7_level.1.cls Y7_level.1 Y7_level.1 ∈ gj_tb := ⟨(gj_at 466 (by decide +kernel) rfl), (gj_at 467 (by decide +kernel) rfl)⟩
theorem iv_8_level : Cond.instanceMethod Y8_level.1 ∈ gj_tb ∧ Cond.selects Y8_level.1.cls Y8_level.1 Y8_level.1 ∈ gj_tb := ⟨(gj_at 897 (by decide +kernel) rfl), (gj_at 898 (by decide +kernel) rfl)⟩
theorem iv_7_where : Cond.instanceMethod Y7_where.1 ∈ gj_tb ∧ Cond.selects Y7_where.1.cls Y7_where.1 Y7_where.1 ∈ gj_tb := ⟨(gj_at 514 (by decide +kernel) rfl), (gj_at 515 (by decide +kernel) rfl)⟩
theorem iv_8_where : Cond.instanceMethod Y8_where.1 ∈ gj_tb ∧ Cond.selects Y8_where.1.cls Y8_where.1 Y8_where.1 ∈ gj_tb := ⟨(gj_at 929 (by decide +kernel) rfl), (gj_at 930 (by decide +kernel) rfl)⟩
theorem iv_7_redraw : Cond.instanceMethod Y7_redraw.1 ∈ gj_tb ∧ Cond.selects Y7_redraw.1.cls Y7_redraw.1 Y7_redraw.1 ∈ gj_tb := ⟨(gj_at 532 (by decide +kernel) rfl), (gj_at 533 (by decide +kernel) rfl)⟩
theorem iv_8_redraw : Cond.instanceMethod Y8_redraw.1 ∈ gj_tb ∧ Cond.selects Y8_redraw.1.cls Y8_redraw.1 Y8_redraw.1 ∈ gj_tb := ⟨(gj_at 940 (by decide +kernel) rfl), (gj_at 941 (by decide +kernel) rfl)⟩
theorem iv_7_delay : Cond.instanceMethod Y7_delay.1 ∈ gj_tb ∧ Cond.selects Y7_delay.1.cls Y7_delay.1 Y7_delay.1 ∈ gj_tb := ⟨(gj_at 545 (by decide +kernel) rfl), (gj_at 546 (by decide +kernel) rfl)⟩
theorem iv_8_delay : Cond.instanceMethod Y8_delay.1 ∈ gj_tb ∧ Cond.selects Y8_delay.1.cls Y8_delay.1 Y8_delay.1 ∈ gj_tb := ⟨(gj_at 950 (by decide +kernel) rfl), (gj_at 951 (by decide +kernel) rfl)⟩
theorem iv_7_pan : Cond.instanceMethod Y7_pan.1 ∈ gj_tb ∧ Cond.selects Y7_pan.1.cls Y7_pan.1 Y7_pan.1 ∈ gj_tb := ⟨(gj_at 549 (by decide +kernel) rfl), (gj_at 550 (by decide +kernel) rfl)⟩
theorem iv_8_pan : Cond.instanceMethod Y8_pan.1 ∈ gj_tb ∧ Cond.selects Y8_pan.1.cls Y8_pan.1 Y8_pan.1 ∈ gj_tb := ⟨(gj_at 954 (by decide +kernel) rfl), (gj_at 955 (by decide +kernel) rfl)⟩
theorem iv_7_swap : Cond.instanceMethod Y7_swap.1 ∈ gj_tb ∧ Cond.selects Y7_swap.1.cls Y7_swap.1 Y7_swap.1 ∈ gj_tb := ⟨(gj_at 554 (by decide +kernel) rfl), (gj_at 555 (by decide +kernel) rfl)⟩
theorem iv_8_swap : Cond.instanceMethod Y8_swap.1 ∈ gj_tb ∧ Cond.selects Y8_swap.1.cls Y8_swap.1 Y8_swap.1 ∈ gj_tb := ⟨(gj_at 961 (by decide +kernel) rfl), (gj_at 962 (by decide +kernel) rfl)⟩
theorem iv_7_back : Cond.instanceMethod Y7_back.1 ∈ gj_tb ∧ Cond.selects Y7_back.1.cls Y7_back.1 Y7_back.1 ∈ gj_tb := ⟨(gj_at 572 (by decide +kernel) rfl), (gj_at 573 (by decide +kernel) rfl)⟩
theorem iv_8_back : Cond.instanceMethod Y8_back.1 ∈ gj_tb ∧ Cond.selects Y8_back.1.cls Y8_back.1 Y8_back.1 ∈ gj_tb := ⟨(gj_at 976 (by decide +kernel) rfl), (gj_at 977 (by decide +kernel) rfl)⟩
theorem iv_7_undo : Cond.instanceMethod Y7_undo.1 ∈ gj_tb ∧ Cond.selects Y7_undo.1.cls Y7_undo.1 Y7_undo.1 ∈ gj_tb := ⟨(gj_at 580 (by decide +kernel) rfl), (gj_at 581 (by decide +kernel) rfl)⟩
theorem iv_8_undo : Cond.instanceMethod Y8_undo.1 ∈ gj_tb ∧ Cond.selects Y8_undo.1.cls Y8_undo.1 Y8_undo.1 ∈ gj_tb := ⟨(gj_at 980 (by decide +kernel) rfl), (gj_at 981 (by decide +kernel) rfl)⟩
theorem iv_7_exposed : Cond.instanceMethod Y7_exposed.1 ∈ gj_tb ∧ Cond.selects Y7_exposed.1.cls Y7_exposed.1 Y7_exposed.1 ∈ gj_tb := ⟨(gj_at 591 (by decide +kernel) rfl), (gj_at 592 (by decide +kernel) rfl)⟩
theorem iv_8_exposed : Cond.instanceMethod Y8_exposed.1 ∈ gj_tb ∧ Cond.selects Y8_exposed.1.cls Y8_exposed.1 Y8_exposed.1 ∈ gj_tb := ⟨(gj_at 984 (by decide +kernel) rfl), (gj_at 985 (by decide +kernel) rfl)⟩
theorem iv_7_order : Cond.instanceMethod Y7_order.1 ∈ gj_tb ∧ Cond.selects Y7_order.1.cls Y7_order.1 Y7_order.1 ∈ gj_tb := ⟨(gj_at 596 (by decide +kernel) rfl), (gj_at 597 (by decide +kernel) rfl)⟩
theorem iv_8_order : Cond.instanceMethod Y8_order.1 ∈ gj_tb ∧ Cond.selects Y8_order.1.cls Y8_order.1 Y8_order.1 ∈ gj_tb := ⟨(gj_at 988 (by decide +kernel) rfl), (gj_at 989 (by decide +kernel) rfl)⟩
theorem iv_7_look : Cond.instanceMethod Y7_look.1 ∈ gj_tb ∧ Cond.selects Y7_look.1.cls Y7_look.1 Y7_look.1 ∈ gj_tb := ⟨(gj_at 608 (by decide +kernel) rfl), (gj_at 609 (by decide +kernel) rfl)⟩
theorem iv_8_look : Cond.instanceMethod Y8_look.1 ∈ gj_tb ∧ Cond.selects Y8_look.1.cls Y8_look.1 Y8_look.1 ∈ gj_tb := ⟨(gj_at 1000 (by decide +kernel) rfl), (gj_at 1001 (by decide +kernel) rfl)⟩
theorem iv_7_ask : Cond.instanceMethod Y7_ask.1 ∈ gj_tb ∧ Cond.selects Y7_ask.1.cls Y7_ask.1 Y7_ask.1 ∈ gj_tb := ⟨(gj_at 625 (by decide +kernel) rfl), (gj_at 626 (by decide +kernel) rfl)⟩
theorem iv_8_ask : Cond.instanceMethod Y8_ask.1 ∈ gj_tb ∧ Cond.selects Y8_ask.1.cls Y8_ask.1 Y8_ask.1 ∈ gj_tb := ⟨(gj_at 1011 (by decide +kernel) rfl), (gj_at 1012 (by decide +kernel) rfl)⟩
theorem iv_7_judge : Cond.instanceMethod Y7_judge.1 ∈ gj_tb ∧ Cond.selects Y7_judge.1.cls Y7_judge.1 Y7_judge.1 ∈ gj_tb := ⟨(gj_at 639 (by decide +kernel) rfl), (gj_at 640 (by decide +kernel) rfl)⟩
theorem iv_8_judge : Cond.instanceMethod Y8_judge.1 ∈ gj_tb ∧ Cond.selects Y8_judge.1.cls Y8_judge.1 Y8_judge.1 ∈ gj_tb := ⟨(gj_at 1019 (by decide +kernel) rfl), (gj_at 1020 (by decide +kernel) rfl)⟩
theorem iv_7_see : Cond.instanceMethod Y7_see.1 ∈ gj_tb ∧ Cond.selects Y7_see.1.cls Y7_see.1 Y7_see.1 ∈ gj_tb := ⟨(gj_at 665 (by decide +kernel) rfl), (gj_at 666 (by decide +kernel) rfl)⟩
theorem iv_8_see : Cond.instanceMethod Y8_see.1 ∈ gj_tb ∧ Cond.selects Y8_see.1.cls Y8_see.1 Y8_see.1 ∈ gj_tb := ⟨(gj_at 1032 (by decide +kernel) rfl), (gj_at 1033 (by decide +kernel) rfl)⟩
theorem iv_7_unsee : Cond.instanceMethod Y7_unsee.1 ∈ gj_tb ∧ Cond.selects Y7_unsee.1.cls Y7_unsee.1 Y7_unsee.1 ∈ gj_tb := ⟨(gj_at 673 (by decide +kernel) rfl), (gj_at 674 (by decide +kernel) rfl)⟩
theorem iv_8_unsee : Cond.instanceMethod Y8_unsee.1 ∈ gj_tb ∧ Cond.selects Y8_unsee.1.cls Y8_unsee.1 Y8_unsee.1 ∈ gj_tb := ⟨(gj_at 1037 (by decide +kernel) rfl), (gj_at 1038 (by decide +kernel) rfl)⟩
theorem iv_7_which : Cond.instanceMethod Y7_which.1 ∈ gj_tb ∧ Cond.selects Y7_which.1.cls Y7_which.1 Y7_which.1 ∈ gj_tb := ⟨(gj_at 681 (by decide +kernel) rfl), (gj_at 682 (by decide +kernel) rfl)⟩
theorem iv_8_which : Cond.instanceMethod Y8_which.1 ∈ gj_tb ∧ Cond.selects Y8_which.1.cls Y8_which.1 Y8_which.1 ∈ gj_tb := ⟨(gj_at 1041 (by decide +kernel) rfl), (gj_at 1042 (by decide +kernel) rfl)⟩
theorem iv_7_share : Cond.instanceMethod Y7_share.1 ∈ gj_tb ∧ Cond.selects Y7_share.1.cls Y7_share.1 Y7_share.1 ∈ gj_tb := ⟨(gj_at 690 (by decide +kernel) rfl), (gj_at 691 (by decide +kernel) rfl)⟩
theorem iv_8_share : Cond.instanceMethod Y8_share.1 ∈ gj_tb ∧ Cond.selects Y8_share.1.cls Y8_share.1 Y8_share.1 ∈ gj_tb := ⟨(gj_at 1045 (by decide +kernel) rfl), (gj_at 1046 (by decide +kernel) rfl)⟩
theorem iv_7_lost : Cond.instanceMethod Y7_lost.1 ∈ gj_tb ∧ Cond.selects Y7_lost.1.cls Y7_lost.1 Y7_lost.1 ∈ gj_tb := ⟨(gj_at 712 (by decide +kernel) rfl), (gj_at 713 (by decide +kernel) rfl)⟩
theorem iv_8_lost : Cond.instanceMethod Y8_lost.1 ∈ gj_tb ∧ Cond.selects Y8_lost.1.cls Y8_lost.1 Y8_lost.1 ∈ gj_tb := ⟨(gj_at 1065 (by decide +kernel) rfl), (gj_at 1066 (by decide +kernel) rfl)⟩
theorem iv_7_seed : Cond.instanceMethod Y7_seed.1 ∈ gj_tb ∧ Cond.selects Y7_seed.1.cls Y7_seed.1 Y7_seed.1 ∈ gj_tb := ⟨(gj_at 717 (by decide +kernel) rfl), (gj_at 718 (by decide +kernel) rfl)⟩
theorem iv_8_seed : Cond.instanceMethod Y8_seed.1 ∈ gj_tb ∧ Cond.selects Y8_seed.1.cls Y8_seed.1 Y8_seed.1 ∈ gj_tb := ⟨(gj_at 1070 (by decide +kernel) rfl), (gj_at 1071 (by decide +kernel) rfl)⟩
theorem iv_7_looks : Cond.instanceMethod Y7_looks.1 ∈ gj_tb ∧ Cond.selects Y7_looks.1.cls Y7_looks.1 Y7_looks.1 ∈ gj_tb := ⟨(gj_at 721 (by decide +kernel) rfl), (gj_at 722 (by decide +kernel) rfl)⟩
theorem iv_8_looks : Cond.instanceMethod Y8_looks.1 ∈ gj_tb ∧ Cond.selects Y8_looks.1.cls Y8_looks.1 Y8_looks.1 ∈ gj_tb := ⟨(gj_at 1074 (by decide +kernel) rfl), (gj_at 1075 (by decide +kernel) rfl)⟩
theorem iv_7_keep : Cond.instanceMethod Y7_keep.1 ∈ gj_tb ∧ Cond.selects Y7_keep.1.cls Y7_keep.1 Y7_keep.1 ∈ gj_tb := ⟨(gj_at 727 (by decide +kernel) rfl), (gj_at 728 (by decide +kernel) rfl)⟩
theorem iv_8_keep : Cond.instanceMethod Y8_keep.1 ∈ gj_tb ∧ Cond.selects Y8_keep.1.cls Y8_keep.1 Y8_keep.1 ∈ gj_tb := ⟨(gj_at 1081 (by decide +kernel) rfl), (gj_at 1082 (by decide +kernel) rfl)⟩
theorem iv_7_again : Cond.instanceMethod Y7_again.1 ∈ gj_tb ∧ Cond.selects Y7_again.1.cls Y7_again.1 Y7_again.1 ∈ gj_tb := ⟨(gj_at 735 (by decide +kernel) rfl), (gj_at 736 (by decide +kernel) rfl)⟩
theorem iv_8_again : Cond.instanceMethod Y8_again.1 ∈ gj_tb ∧ Cond.selects Y8_again.1.cls Y8_again.1 Y8_again.1 ∈ gj_tb := ⟨(gj_at 1085 (by decide +kernel) rfl), (gj_at 1086 (by decide +kernel) rfl)⟩
theorem iv_7_count : Cond.instanceMethod Y7_count.1 ∈ gj_tb ∧ Cond.selects Y7_count.1.cls Y7_count.1 Y7_count.1 ∈ gj_tb := ⟨(gj_at 739 (by decide +kernel) rfl), (gj_at 740 (by decide +kernel) rfl)⟩
theorem iv_8_count : Cond.instanceMethod Y8_count.1 ∈ gj_tb ∧ Cond.selects Y8_count.1.cls Y8_count.1 Y8_count.1 ∈ gj_tb := ⟨(gj_at 1089 (by decide +kernel) rfl), (gj_at 1090 (by decide +kernel) rfl)⟩
theorem ml_7_1 : Cond.methodLink RX7 1 Lib.objectInit ∈ gj_tb := (gj_at 71 (by decide +kernel) rfl)
theorem ml_7_57 : Cond.methodLink RX7 57 Y4_init.1 ∈ gj_tb := (gj_at 284 (by decide +kernel) rfl)
theorem ml_7_75 : Cond.methodLink RX7 75 Y1_firstFault.1 ∈ gj_tb := (gj_at 338 (by decide +kernel) rfl)
theorem ml_7_82 : Cond.methodLink RX7 82 Y2_copyFrom.1 ∈ gj_tb := (gj_at 411 (by decide +kernel) rfl)
theorem ml_7_88 : Cond.methodLink RX7 88 Y4_beginWith.1 ∈ gj_tb := (gj_at 418 (by decide +kernel) rfl)
theorem ml_7_91 : Cond.methodLink RX7 91 Y3_forgetShorts.1 ∈ gj_tb := (gj_at 427 (by decide +kernel) rfl)
theorem ml_7_94 : Cond.methodLink RX7 94 Y0_clear.1 ∈ gj_tb := (gj_at 431 (by decide +kernel) rfl)
theorem ml_7_100 : Cond.methodLink RX7 100 Y7_isDrawing.1 ∈ gj_tb := (gj_at 439 (by decide +kernel) rfl)
theorem ml_7_110 : Cond.methodLink RX7 110 Y3_mostLevelsOf.1 ∈ gj_tb := (gj_at 443 (by decide +kernel) rfl)
theorem ml_7_114 : Cond.methodLink RX7 114 Y7_isLevel.1 ∈ gj_tb := (gj_at 469 (by decide +kernel) rfl)
theorem ml_7_123 : Cond.methodLink RX7 123 Y3_shortOf.1 ∈ gj_tb := (gj_at 473 (by decide +kernel) rfl)
theorem ml_7_126 : Cond.methodLink RX7 126 Y3_bestOf.1 ∈ gj_tb := (gj_at 505 (by decide +kernel) rfl)
theorem ml_7_129 : Cond.methodLink RX7 129 Y7_hasPan.1 ∈ gj_tb := (gj_at 517 (by decide +kernel) rfl)
theorem ml_7_132 : Cond.methodLink RX7 132 Y7_isFrame.1 ∈ gj_tb := (gj_at 521 (by decide +kernel) rfl)
theorem ml_7_135 : Cond.methodLink RX7 135 Y7_panOf.1 ∈ gj_tb := (gj_at 524 (by decide +kernel) rfl)
theorem ml_7_138 : Cond.methodLink RX7 138 Y4_panAt.1 ∈ gj_tb := (gj_at 527 (by decide +kernel) rfl)
theorem ml_7_142 : Cond.methodLink RX7 142 Y0_add.1 ∈ gj_tb := (gj_at 535 (by decide +kernel) rfl)
theorem ml_7_155 : Cond.methodLink RX7 155 Y4_tellPan.1 ∈ gj_tb := (gj_at 552 (by decide +kernel) rfl)
theorem ml_7_159 : Cond.methodLink RX7 159 Y3_isOrder.1 ∈ gj_tb := (gj_at 557 (by decide +kernel) rfl)
theorem ml_7_165 : Cond.methodLink RX7 165 Y4_addSwitch.1 ∈ gj_tb := (gj_at 567 (by decide +kernel) rfl)
theorem ml_7_175 : Cond.methodLink RX7 175 Y4_dropSwitch.1 ∈ gj_tb := (gj_at 575 (by decide +kernel) rfl)
theorem ml_7_182 : Cond.methodLink RX7 182 Y0_takeBackLast.1 ∈ gj_tb := (gj_at 583 (by decide +kernel) rfl)
theorem ml_7_186 : Cond.methodLink RX7 186 Y3_drawingOn.1 ∈ gj_tb := (gj_at 594 (by decide +kernel) rfl)
theorem ml_7_189 : Cond.methodLink RX7 189 Y3_orderAt.1 ∈ gj_tb := (gj_at 599 (by decide +kernel) rfl)
theorem ml_7_192 : Cond.methodLink RX7 192 Y7_isWindow.1 ∈ gj_tb := (gj_at 611 (by decide +kernel) rfl)
theorem ml_7_195 : Cond.methodLink RX7 195 Y3_seenAt.1 ∈ gj_tb := (gj_at 614 (by decide +kernel) rfl)
theorem ml_7_199 : Cond.methodLink RX7 199 Y3_changes.1 ∈ gj_tb := (gj_at 628 (by decide +kernel) rfl)
theorem ml_7_203 : Cond.methodLink RX7 203 Y3_cels.1 ∈ gj_tb := (gj_at 637 (by decide +kernel) rfl)
theorem ml_7_208 : Cond.methodLink RX7 208 Y4_copyFrom.1 ∈ gj_tb := (gj_at 643 (by decide +kernel) rfl)
theorem ml_7_210 : Cond.methodLink RX7 210 Y7_firstThatCanNotBe.1 ∈ gj_tb := (gj_at 647 (by decide +kernel) rfl)
theorem ml_7_215 : Cond.methodLink RX7 215 Y6_add.1 ∈ gj_tb := (gj_at 668 (by decide +kernel) rfl)
theorem ml_7_218 : Cond.methodLink RX7 218 Y6_clear.1 ∈ gj_tb := (gj_at 676 (by decide +kernel) rfl)
theorem ml_7_222 : Cond.methodLink RX7 222 Y6_allSoWithout.1 ∈ gj_tb := (gj_at 684 (by decide +kernel) rfl)
theorem ml_7_226 : Cond.methodLink RX7 226 Y3_shareInTwelfths.1 ∈ gj_tb := (gj_at 693 (by decide +kernel) rfl)
theorem ml_7_229 : Cond.methodLink RX7 229 Y7_fractionPart.1 ∈ gj_tb := (gj_at 705 (by decide +kernel) rfl)
theorem ml_7_233 : Cond.methodLink RX7 233 Y3_levelsCovering.1 ∈ gj_tb := (gj_at 715 (by decide +kernel) rfl)
theorem ml_7_244 : Cond.methodLink RX7 244 Y7_keptIn.1 ∈ gj_tb := (gj_at 730 (by decide +kernel) rfl)
theorem ml_7_248 : Cond.methodLink RX7 248 Y7_comesTrue.1 ∈ gj_tb := (gj_at 651 (by decide +kernel) rfl)
theorem ml_7_251 : Cond.methodLink RX7 251 Y7_delayForNow.1 ∈ gj_tb := (gj_at 655 (by decide +kernel) rfl)
theorem ml_7_255 : Cond.methodLink RX7 255 Y7_redrawForNow.1 ∈ gj_tb := (gj_at 659 (by decide +kernel) rfl)
theorem ml_7_259 : Cond.methodLink RX7 259 Y3_levelInOrder.1 ∈ gj_tb := (gj_at 663 (by decide +kernel) rfl)
theorem ml_7_262 : Cond.methodLink RX7 262 Y7_commonDivisor.1 ∈ gj_tb := (gj_at 708 (by decide +kernel) rfl)
theorem ml_0_3 : Cond.methodLink RX0 3 Lib.objectInit ∈ gj_tb := (gj_at 254 (by decide +kernel) rfl)
theorem ml_0_19 : Cond.methodLink RX0 19 Y0_forgetFirst.1 ∈ gj_tb := (gj_at 539 (by decide +kernel) rfl)
theorem ml_0_22 : Cond.methodLink RX0 22 arraycopyName ∈ gj_tb := (gj_at 543 (by decide +kernel) rfl)
theorem ml_0_39 : Cond.methodLink RX0 39 Y4_tellPan.1 ∈ gj_tb := (gj_at 587 (by decide +kernel) rfl)
theorem ml_0_43 : Cond.methodLink RX0 43 Y4_dropSwitch.1 ∈ gj_tb := (gj_at 588 (by decide +kernel) rfl)
theorem ml_0_47 : Cond.methodLink RX0 47 Y4_addSwitch.1 ∈ gj_tb := (gj_at 589 (by decide +kernel) rfl)
theorem ml_1_3 : Cond.methodLink RX1 3 Lib.objectInit ∈ gj_tb := (gj_at 79 (by decide +kernel) rfl)
theorem ml_1_22 : Cond.methodLink RX1 22 Y2_clear.1 ∈ gj_tb := (gj_at 342 (by decide +kernel) rfl)
theorem ml_1_32 : Cond.methodLink RX1 32 Y1_takes.1 ∈ gj_tb := (gj_at 346 (by decide +kernel) rfl)
theorem ml_1_36 : Cond.methodLink RX1 36 Y1_takesDrawing.1 ∈ gj_tb := (gj_at 350 (by decide +kernel) rfl)
theorem ml_1_40 : Cond.methodLink RX1 40 Y1_takesLevel.1 ∈ gj_tb := (gj_at 354 (by decide +kernel) rfl)
theorem ml_1_46 : Cond.methodLink RX1 46 Y1_takesWidth.1 ∈ gj_tb := (gj_at 362 (by decide +kernel) rfl)
theorem ml_1_49 : Cond.methodLink RX1 49 Y1_takesItemOrEnd.1 ∈ gj_tb := (gj_at 370 (by decide +kernel) rfl)
theorem ml_1_52 : Cond.methodLink RX1 52 Y1_takesItem.1 ∈ gj_tb := (gj_at 374 (by decide +kernel) rfl)
theorem ml_1_55 : Cond.methodLink RX1 55 Y1_takesHold.1 ∈ gj_tb := (gj_at 386 (by decide +kernel) rfl)
theorem ml_1_58 : Cond.methodLink RX1 58 Y1_takesTimes.1 ∈ gj_tb := (gj_at 398 (by decide +kernel) rfl)
theorem ml_1_64 : Cond.methodLink RX1 64 Y2_addDrawing.1 ∈ gj_tb := (gj_at 366 (by decide +kernel) rfl)
theorem ml_1_71 : Cond.methodLink RX1 71 Y2_addLevel.1 ∈ gj_tb := (gj_at 358 (by decide +kernel) rfl)
theorem ml_1_74 : Cond.methodLink RX1 74 Y1_takesOpening.1 ∈ gj_tb := (gj_at 378 (by decide +kernel) rfl)
theorem ml_1_80 : Cond.methodLink RX1 80 Y2_lastLong.1 ∈ gj_tb := (gj_at 382 (by decide +kernel) rfl)
theorem ml_1_84 : Cond.methodLink RX1 84 Y2_hold.1 ∈ gj_tb := (gj_at 390 (by decide +kernel) rfl)
theorem ml_1_87 : Cond.methodLink RX1 87 Y2_repeatFrom.1 ∈ gj_tb := (gj_at 402 (by decide +kernel) rfl)
theorem ml_2_3 : Cond.methodLink RX2 3 Lib.objectInit ∈ gj_tb := (gj_at 85 (by decide +kernel) rfl)
theorem ml_2_31 : Cond.methodLink RX2 31 Y2_append.1 ∈ gj_tb := (gj_at 394 (by decide +kernel) rfl)
theorem ml_2_35 : Cond.methodLink RX2 35 Y2_lastLong.1 ∈ gj_tb := (gj_at 406 (by decide +kernel) rfl)
theorem ml_2_39 : Cond.methodLink RX2 39 arraycopyName ∈ gj_tb := (gj_at 415 (by decide +kernel) rfl)
theorem ml_3_3 : Cond.methodLink RX3 3 Lib.objectInit ∈ gj_tb := (gj_at 144 (by decide +kernel) rfl)
theorem ml_3_20 : Cond.methodLink RX3 20 Y4_init.1 ∈ gj_tb := (gj_at 149 (by decide +kernel) rfl)
theorem ml_3_61 : Cond.methodLink RX3 61 Y3_levelInOrder.1 ∈ gj_tb := (gj_at 563 (by decide +kernel) rfl)
theorem ml_3_65 : Cond.methodLink RX3 65 Y4_switchFor.1 ∈ gj_tb := (gj_at 603 (by decide +kernel) rfl)
theorem ml_3_78 : Cond.methodLink RX3 78 Y4_panAt.1 ∈ gj_tb := (gj_at 623 (by decide +kernel) rfl)
theorem ml_3_84 : Cond.methodLink RX3 84 Y3_drawingOn.1 ∈ gj_tb := (gj_at 454 (by decide +kernel) rfl)
theorem ml_3_87 : Cond.methodLink RX3 87 Y3_covers.1 ∈ gj_tb := (gj_at 619 (by decide +kernel) rfl)
theorem ml_3_91 : Cond.methodLink RX3 91 Y3_orderAt.1 ∈ gj_tb := (gj_at 618 (by decide +kernel) rfl)
theorem ml_3_94 : Cond.methodLink RX3 94 Y3_levelCovers.1 ∈ gj_tb := (gj_at 697 (by decide +kernel) rfl)
theorem ml_3_98 : Cond.methodLink RX3 98 Y3_viewBecomes.1 ∈ gj_tb := (gj_at 632 (by decide +kernel) rfl)
theorem ml_3_102 : Cond.methodLink RX3 102 Y3_seenAt.1 ∈ gj_tb := (gj_at 636 (by decide +kernel) rfl)
theorem ml_3_106 : Cond.methodLink RX3 106 Y3_findMost.1 ∈ gj_tb := (gj_at 447 (by decide +kernel) rfl)
theorem ml_3_109 : Cond.methodLink RX3 109 Y3_clearDrawings.1 ∈ gj_tb := (gj_at 451 (by decide +kernel) rfl)
theorem ml_3_113 : Cond.methodLink RX3 113 Y3_countDrawing.1 ∈ gj_tb := (gj_at 458 (by decide +kernel) rfl)
theorem ml_3_117 : Cond.methodLink RX3 117 Lib.Math.max.name ∈ gj_tb := (gj_at 462 (by decide +kernel) rfl)
theorem ml_3_122 : Cond.methodLink RX3 122 Y5_lettersFor.1 ∈ gj_tb := (gj_at 477 (by decide +kernel) rfl)
theorem ml_3_126 : Cond.methodLink RX3 126 Y3_cels.1 ∈ gj_tb := (gj_at 509 (by decide +kernel) rfl)
theorem ml_3_130 : Cond.methodLink RX3 130 Y3_levelsCovering.1 ∈ gj_tb := (gj_at 701 (by decide +kernel) rfl)
theorem ml_4_3 : Cond.methodLink RX4 3 Lib.objectInit ∈ gj_tb := (gj_at 152 (by decide +kernel) rfl)
theorem ml_4_41 : Cond.methodLink RX4 41 arraycopyName ∈ gj_tb := (gj_at 422 (by decide +kernel) rfl)
theorem ml_4_50 : Cond.methodLink RX4 50 Y4_tellPan.1 ∈ gj_tb := (gj_at 423 (by decide +kernel) rfl)
theorem ml_5_3 : Cond.methodLink RX5 3 Lib.objectInit ∈ gj_tb := (gj_at 202 (by decide +kernel) rfl)
theorem ml_5_35 : Cond.methodLink RX5 35 Lib.Math.min.name ∈ gj_tb := (gj_at 481 (by decide +kernel) rfl)
theorem ml_5_48 : Cond.methodLink RX5 48 arraycopyName ∈ gj_tb := (gj_at 484 (by decide +kernel) rfl)
theorem ml_5_54 : Cond.methodLink RX5 54 Y5_findLike.1 ∈ gj_tb := (gj_at 485 (by decide +kernel) rfl)
theorem ml_5_58 : Cond.methodLink RX5 58 Y5_findPlain.1 ∈ gj_tb := (gj_at 489 (by decide +kernel) rfl)
theorem ml_5_61 : Cond.methodLink RX5 61 Y5_findItems.1 ∈ gj_tb := (gj_at 493 (by decide +kernel) rfl)
theorem ml_5_65 : Cond.methodLink RX5 65 Y5_findOnce.1 ∈ gj_tb := (gj_at 497 (by decide +kernel) rfl)
theorem ml_5_68 : Cond.methodLink RX5 68 Y5_findTwice.1 ∈ gj_tb := (gj_at 501 (by decide +kernel) rfl)
theorem ml_6_3 : Cond.methodLink RX6 3 Lib.objectInit ∈ gj_tb := (gj_at 268 (by decide +kernel) rfl)
theorem ml_6_25 : Cond.methodLink RX6 25 Y3_seenAt.1 ∈ gj_tb := (gj_at 688 (by decide +kernel) rfl)
theorem ml_L_9 : Cond.methodLink RL 9 Y7_init.1 ∈ gj_tb := (gj_at 68 (by decide +kernel) rfl)
theorem ml_L_12 : Cond.methodLink RL 12 Y8_init.1 ∈ gj_tb := (gj_at 744 (by decide +kernel) rfl)
theorem ml_L_13 : Cond.methodLink RL 13 Y7_write.1 ∈ gj_tb := (gj_at 326 (by decide +kernel) rfl)
theorem ml_L_17 : Cond.methodLink RL 17 Y8_write.1 ∈ gj_tb := (gj_at 836 (by decide +kernel) rfl)
theorem ml_L_18 : Cond.methodLink RL 18 Y7_wipe.1 ∈ gj_tb := (gj_at 330 (by decide +kernel) rfl)
theorem ml_L_22 : Cond.methodLink RL 22 Y8_wipe.1 ∈ gj_tb := (gj_at 844 (by decide +kernel) rfl)
theorem ml_L_23 : Cond.methodLink RL 23 Y7_fault.1 ∈ gj_tb := (gj_at 334 (by decide +kernel) rfl)
theorem ml_L_26 : Cond.methodLink RL 26 Y8_fault.1 ∈ gj_tb := (gj_at 848 (by decide +kernel) rfl)
theorem ml_L_27 : Cond.methodLink RL 27 Y7_reel.1 ∈ gj_tb := (gj_at 407 (by decide +kernel) rfl)
theorem ml_L_30 : Cond.methodLink RL 30 Y8_reel.1 ∈ gj_tb := (gj_at 876 (by decide +kernel) rfl)
theorem ml_L_31 : Cond.methodLink RL 31 Y7_drawing.1 ∈ gj_tb := (gj_at 435 (by decide +kernel) rfl)
theorem ml_L_35 : Cond.methodLink RL 35 Y8_drawing.1 ∈ gj_tb := (gj_at 880 (by decide +kernel) rfl)
theorem ml_L_36 : Cond.methodLink RL 36 Y7_level.1 ∈ gj_tb := (gj_at 465 (by decide +kernel) rfl)
theorem ml_L_39 : Cond.methodLink RL 39 Y8_level.1 ∈ gj_tb := (gj_at 896 (by decide +kernel) rfl)
theorem ml_L_40 : Cond.methodLink RL 40 Y7_where.1 ∈ gj_tb := (gj_at 513 (by decide +kernel) rfl)
theorem ml_L_43 : Cond.methodLink RL 43 Y8_where.1 ∈ gj_tb := (gj_at 928 (by decide +kernel) rfl)
theorem ml_L_44 : Cond.methodLink RL 44 Y7_redraw.1 ∈ gj_tb := (gj_at 531 (by decide +kernel) rfl)
theorem ml_L_48 : Cond.methodLink RL 48 Y8_redraw.1 ∈ gj_tb := (gj_at 939 (by decide +kernel) rfl)
theorem ml_L_49 : Cond.methodLink RL 49 Y7_delay.1 ∈ gj_tb := (gj_at 544 (by decide +kernel) rfl)
theorem ml_L_52 : Cond.methodLink RL 52 Y8_delay.1 ∈ gj_tb := (gj_at 949 (by decide +kernel) rfl)
theorem ml_L_53 : Cond.methodLink RL 53 Y7_pan.1 ∈ gj_tb := (gj_at 548 (by decide +kernel) rfl)
theorem ml_L_57 : Cond.methodLink RL 57 Y8_pan.1 ∈ gj_tb := (gj_at 953 (by decide +kernel) rfl)
theorem ml_L_58 : Cond.methodLink RL 58 Y7_swap.1 ∈ gj_tb := (gj_at 553 (by decide +kernel) rfl)
theorem ml_L_61 : Cond.methodLink RL 61 Y8_swap.1 ∈ gj_tb := (gj_at 960 (by decide +kernel) rfl)
theorem ml_L_62 : Cond.methodLink RL 62 Y7_back.1 ∈ gj_tb := (gj_at 571 (by decide +kernel) rfl)
theorem ml_L_65 : Cond.methodLink RL 65 Y8_back.1 ∈ gj_tb := (gj_at 975 (by decide +kernel) rfl)
theorem ml_L_66 : Cond.methodLink RL 66 Y7_undo.1 ∈ gj_tb := (gj_at 579 (by decide +kernel) rfl)
theorem ml_L_69 : Cond.methodLink RL 69 Y8_undo.1 ∈ gj_tb := (gj_at 979 (by decide +kernel) rfl)
theorem ml_L_70 : Cond.methodLink RL 70 Y7_exposed.1 ∈ gj_tb := (gj_at 590 (by decide +kernel) rfl)
theorem ml_L_73 : Cond.methodLink RL 73 Y8_exposed.1 ∈ gj_tb := (gj_at 983 (by decide +kernel) rfl)
theorem ml_L_74 : Cond.methodLink RL 74 Y7_order.1 ∈ gj_tb := (gj_at 595 (by decide +kernel) rfl)
theorem ml_L_77 : Cond.methodLink RL 77 Y8_order.1 ∈ gj_tb := (gj_at 987 (by decide +kernel) rfl)
theorem ml_L_78 : Cond.methodLink RL 78 Y7_look.1 ∈ gj_tb := (gj_at 607 (by decide +kernel) rfl)
theorem ml_L_81 : Cond.methodLink RL 81 Y8_look.1 ∈ gj_tb := (gj_at 999 (by decide +kernel) rfl)
theorem ml_L_82 : Cond.methodLink RL 82 Y7_ask.1 ∈ gj_tb := (gj_at 624 (by decide +kernel) rfl)
theorem ml_L_85 : Cond.methodLink RL 85 Y8_ask.1 ∈ gj_tb := (gj_at 1010 (by decide +kernel) rfl)
theorem ml_L_88 : Cond.methodLink RL 88 Y7_judge.1 ∈ gj_tb := (gj_at 638 (by decide +kernel) rfl)
theorem ml_L_92 : Cond.methodLink RL 92 Y8_judge.1 ∈ gj_tb := (gj_at 1018 (by decide +kernel) rfl)
theorem ml_L_93 : Cond.methodLink RL 93 Y7_see.1 ∈ gj_tb := (gj_at 664 (by decide +kernel) rfl)
theorem ml_L_96 : Cond.methodLink RL 96 Y8_see.1 ∈ gj_tb := (gj_at 1031 (by decide +kernel) rfl)
theorem ml_L_97 : Cond.methodLink RL 97 Y7_unsee.1 ∈ gj_tb := (gj_at 672 (by decide +kernel) rfl)
theorem ml_L_100 : Cond.methodLink RL 100 Y8_unsee.1 ∈ gj_tb := (gj_at 1036 (by decide +kernel) rfl)
theorem ml_L_101 : Cond.methodLink RL 101 Y7_which.1 ∈ gj_tb := (gj_at 680 (by decide +kernel) rfl)
theorem ml_L_104 : Cond.methodLink RL 104 Y8_which.1 ∈ gj_tb := (gj_at 1040 (by decide +kernel) rfl)
theorem ml_L_105 : Cond.methodLink RL 105 Y7_share.1 ∈ gj_tb := (gj_at 689 (by decide +kernel) rfl)
theorem ml_L_109 : Cond.methodLink RL 109 Y8_share.1 ∈ gj_tb := (gj_at 1044 (by decide +kernel) rfl)
theorem ml_L_110 : Cond.methodLink RL 110 Y7_lost.1 ∈ gj_tb := (gj_at 711 (by decide +kernel) rfl)
theorem ml_L_114 : Cond.methodLink RL 114 Y8_lost.1 ∈ gj_tb := (gj_at 1064 (by decide +kernel) rfl)
theorem ml_L_115 : Cond.methodLink RL 115 Y7_seed.1 ∈ gj_tb := (gj_at 716 (by decide +kernel) rfl)
theorem ml_L_119 : Cond.methodLink RL 119 Y8_seed.1 ∈ gj_tb := (gj_at 1069 (by decide +kernel) rfl)
theorem ml_L_120 : Cond.methodLink RL 120 Y7_looks.1 ∈ gj_tb := (gj_at 720 (by decide +kernel) rfl)
theorem ml_L_123 : Cond.methodLink RL 123 Y8_looks.1 ∈ gj_tb := (gj_at 1073 (by decide +kernel) rfl)
theorem ml_L_124 : Cond.methodLink RL 124 Y7_keep.1 ∈ gj_tb := (gj_at 726 (by decide +kernel) rfl)
theorem ml_L_127 : Cond.methodLink RL 127 Y8_keep.1 ∈ gj_tb := (gj_at 1080 (by decide +kernel) rfl)
theorem ml_L_128 : Cond.methodLink RL 128 Y7_again.1 ∈ gj_tb := (gj_at 734 (by decide +kernel) rfl)
theorem ml_L_131 : Cond.methodLink RL 131 Y8_again.1 ∈ gj_tb := (gj_at 1084 (by decide +kernel) rfl)
theorem ml_L_132 : Cond.methodLink RL 132 Y7_count.1 ∈ gj_tb := (gj_at 738 (by decide +kernel) rfl)
theorem ml_L_135 : Cond.methodLink RL 135 Y8_count.1 ∈ gj_tb := (gj_at 1088 (by decide +kernel) rfl)
theorem ml_8_1 : Cond.methodLink RX8 1 Lib.objectInit ∈ gj_tb := (gj_at 747 (by decide +kernel) rfl)
theorem ml_8_65 : Cond.methodLink RX8 65 Y8_fresh.1 ∈ gj_tb := (gj_at 748 (by decide +kernel) rfl)
theorem ml_8_76 : Cond.methodLink RX8 76 Y8_in.1 ∈ gj_tb := (gj_at 841 (by decide +kernel) rfl)
theorem ml_8_96 : Cond.methodLink RX8 96 Y8_figure.1 ∈ gj_tb := (gj_at 860 (by decide +kernel) rfl)
theorem ml_8_103 : Cond.methodLink RX8 103 Y8_spread.1 ∈ gj_tb := (gj_at 872 (by decide +kernel) rfl)
theorem ml_8_107 : Cond.methodLink RX8 107 Y8_over.1 ∈ gj_tb := (gj_at 868 (by decide +kernel) rfl)
theorem ml_8_110 : Cond.methodLink RX8 110 Y8_readDrawing.1 ∈ gj_tb := (gj_at 856 (by decide +kernel) rfl)
theorem ml_8_114 : Cond.methodLink RX8 114 Y8_readSheet.1 ∈ gj_tb := (gj_at 864 (by decide +kernel) rfl)
theorem ml_8_117 : Cond.methodLink RX8 117 Y8_readReel.1 ∈ gj_tb := (gj_at 852 (by decide +kernel) rfl)
theorem ml_8_124 : Cond.methodLink RX8 124 Y8_firstOrder.1 ∈ gj_tb := (gj_at 995 (by decide +kernel) rfl)
theorem ml_8_127 : Cond.methodLink RX8 127 Y8_orderAt.1 ∈ gj_tb := (gj_at 991 (by decide +kernel) rfl)
theorem ml_8_131 : Cond.methodLink RX8 131 Y8_whereIs.1 ∈ gj_tb := (gj_at 936 (by decide +kernel) rfl)
theorem ml_8_135 : Cond.methodLink RX8 135 Y8_power.1 ∈ gj_tb := (gj_at 968 (by decide +kernel) rfl)
theorem ml_8_138 : Cond.methodLink RX8 138 Y8_exposedOn.1 ∈ gj_tb := (gj_at 892 (by decide +kernel) rfl)
theorem ml_8_141 : Cond.methodLink RX8 141 Y8_has.1 ∈ gj_tb := (gj_at 1007 (by decide +kernel) rfl)
theorem ml_8_144 : Cond.methodLink RX8 144 Y8_mostOf.1 ∈ gj_tb := (gj_at 888 (by decide +kernel) rfl)
theorem ml_8_147 : Cond.methodLink RX8 147 Y8_every.1 ∈ gj_tb := (gj_at 971 (by decide +kernel) rfl)
theorem ml_8_150 : Cond.methodLink RX8 150 Y8_lookBy.1 ∈ gj_tb := (gj_at 1003 (by decide +kernel) rfl)
theorem ml_8_154 : Cond.methodLink RX8 154 Y8_layLike.1 ∈ gj_tb := (gj_at 908 (by decide +kernel) rfl)
theorem ml_8_158 : Cond.methodLink RX8 158 Y8_itemOf.1 ∈ gj_tb := (gj_at 912 (by decide +kernel) rfl)
theorem ml_8_162 : Cond.methodLink RX8 162 Y8_layTrial.1 ∈ gj_tb := (gj_at 920 (by decide +kernel) rfl)
theorem ml_8_165 : Cond.methodLink RX8 165 Y8_cels.1 ∈ gj_tb := (gj_at 924 (by decide +kernel) rfl)
theorem ml_8_169 : Cond.methodLink RX8 169 Y8_noDrawing.1 ∈ gj_tb := (gj_at 884 (by decide +kernel) rfl)
theorem ml_8_173 : Cond.methodLink RX8 173 Y8_noLevel.1 ∈ gj_tb := (gj_at 900 (by decide +kernel) rfl)
theorem ml_8_176 : Cond.methodLink RX8 176 Y8_shortest.1 ∈ gj_tb := (gj_at 904 (by decide +kernel) rfl)
theorem ml_8_180 : Cond.methodLink RX8 180 Y8_bestDelay.1 ∈ gj_tb := (gj_at 916 (by decide +kernel) rfl)
theorem ml_8_183 : Cond.methodLink RX8 183 Y8_isFrame.1 ∈ gj_tb := (gj_at 932 (by decide +kernel) rfl)
theorem ml_8_190 : Cond.methodLink RX8 190 Y8_note.1 ∈ gj_tb := (gj_at 945 (by decide +kernel) rfl)
theorem ml_8_199 : Cond.methodLink RX8 199 Y8_isOrder.1 ∈ gj_tb := (gj_at 964 (by decide +kernel) rfl)
theorem ml_8_202 : Cond.methodLink RX8 202 Y8_changes.1 ∈ gj_tb := (gj_at 1014 (by decide +kernel) rfl)
theorem ml_8_209 : Cond.methodLink RX8 209 Y8_longPower.1 ∈ gj_tb := (gj_at 1024 (by decide +kernel) rfl)
theorem ml_8_213 : Cond.methodLink RX8 213 Y8_does.1 ∈ gj_tb := (gj_at 1027 (by decide +kernel) rfl)
theorem ml_8_222 : Cond.methodLink RX8 222 Y8_divisor.1 ∈ gj_tb := (gj_at 1061 (by decide +kernel) rfl)
theorem ml_8_225 : Cond.methodLink RX8 225 Y8_ones.1 ∈ gj_tb := (gj_at 1048 (by decide +kernel) rfl)
theorem ml_8_228 : Cond.methodLink RX8 228 Y8_factorial.1 ∈ gj_tb := (gj_at 1051 (by decide +kernel) rfl)
theorem ml_8_231 : Cond.methodLink RX8 231 Y8_coveredBy.1 ∈ gj_tb := (gj_at 1054 (by decide +kernel) rfl)
theorem ml_8_234 : Cond.methodLink RX8 234 Y8_fraction.1 ∈ gj_tb := (gj_at 1058 (by decide +kernel) rfl)
theorem ml_7_15 : ∃ host, Cond.methodLinkNest RX7 15 Y1_init.1 host ∈ gj_nb := ⟨"CelSheets", (gj_an 76 (by decide +kernel) rfl)⟩
theorem ml_7_22 : ∃ host, Cond.methodLinkNest RX7 22 Y3_init.1 host ∈ gj_nb := ⟨"CelSheets", (gj_an 141 (by decide +kernel) rfl)⟩
theorem ml_7_43 : ∃ host, Cond.methodLinkNest RX7 43 Y0_init.1 host ∈ gj_nb := ⟨"CelSheets", (gj_an 251 (by decide +kernel) rfl)⟩
theorem ml_7_50 : ∃ host, Cond.methodLinkNest RX7 50 Y6_init.1 host ∈ gj_nb := ⟨"CelSheets", (gj_an 265 (by decide +kernel) rfl)⟩
theorem ml_1_11 : ∃ host, Cond.methodLinkNest RX1 11 Y2_init.1 host ∈ gj_nb := ⟨"CelSheets", (gj_an 82 (by decide +kernel) rfl)⟩
theorem ml_3_11 : ∃ host, Cond.methodLinkNest RX3 11 Y2_init.1 host ∈ gj_nb := ⟨"CelSheets", (gj_an 146 (by decide +kernel) rfl)⟩
theorem ml_3_27 : ∃ host, Cond.methodLinkNest RX3 27 Y5_init.1 host ∈ gj_nb := ⟨"CelSheets", (gj_an 199 (by decide +kernel) rfl)⟩
theorem fl_7_9 : gj_fl RX7 9 7 0 0 := ⟨RX7, TX7, 13, tyX7, k_X7, by decide, rfl, (gj_at 285 (by decide +kernel) rfl)⟩
theorem fw_7_9 : gj_fw RX7 9 7 0 0 (.array .int) true := ⟨RX7, TX7, 13, tyX7, k_X7, by decide, rfl, (gj_at 285 (by decide +kernel) rfl), rfl, by decide +kernel, fun _ => rfl⟩
theorem fl_7_16 : gj_fl RX7 16 7 2 2 := ⟨RX7, TX7, 13, tyX7, k_X7, by decide, rfl, (gj_at 287 (by decide +kernel) rfl)⟩
theorem fw_7_16 : gj_fw RX7 16 7 2 2 (.object "CelSheets$Reader") true := ⟨RX7, TX7, 13, tyX7, k_X7, by decide, rfl, (gj_at 287 (by decide +kernel) rfl), rfl, by decide +kernel, fun _ => rfl⟩
theorem fl_7_23 : gj_fl RX7 23 7 3 3 := ⟨RX7, TX7, 13, tyX7, k_X7, by decide, rfl, (gj_at 288 (by decide +kernel) rfl)⟩
theorem fw_7_23 : gj_fw RX7 23 7 3 3 (.object "CelSheets$Scene") true := ⟨RX7, TX7, 13, tyX7, k_X7, by decide, rfl, (gj_at 288 (by decide +kernel) rfl), rfl, by decide +kernel, fun _ => rfl⟩
theorem fl_7_27 : gj_fl RX7 27 3 0 0 := ⟨RX3, TX3, 7, tyX3, k_X3, by decide, rfl, (gj_at 226 (by decide +kernel) rfl)⟩
theorem fl_7_31 : gj_fl RX7 31 7 4 4 := ⟨RX7, TX7, 13, tyX7, k_X7, by decide, rfl, (gj_at 289 (by decide +kernel) rfl)⟩
theorem fw_7_31 : gj_fw RX7 31 7 4 4 (.object "CelSheets$Reel") true := ⟨RX7, TX7, 13, tyX7, k_X7, by decide, rfl, (gj_at 289 (by decide +kernel) rfl), rfl, by decide +kernel, fun _ => rfl⟩
theorem fl_7_34 : gj_fl RX7 34 3 1 1 := ⟨RX3, TX3, 7, tyX3, k_X3, by decide, rfl, (gj_at 228 (by decide +kernel) rfl)⟩
theorem fl_7_38 : gj_fl RX7 38 7 5 5 := ⟨RX7, TX7, 13, tyX7, k_X7, by decide, rfl, (gj_at 290 (by decide +kernel) rfl)⟩
theorem fw_7_38 : gj_fw RX7 38 7 5 5 (.object "CelSheets$Setting") true := ⟨RX7, TX7, 13, tyX7, k_X7, by decide, rfl, (gj_at 290 (by decide +kernel) rfl), rfl, by decide +kernel, fun _ => rfl⟩
theorem fl_7_44 : gj_fl RX7 44 7 6 6 := ⟨RX7, TX7, 13, tyX7, k_X7, by decide, rfl, (gj_at 291 (by decide +kernel) rfl)⟩
theorem fw_7_44 : gj_fw RX7 44 7 6 6 (.object "CelSheets$Acts") true := ⟨RX7, TX7, 13, tyX7, k_X7, by decide, rfl, (gj_at 291 (by decide +kernel) rfl), rfl, by decide +kernel, fun _ => rfl⟩
theorem fl_7_51 : gj_fl RX7 51 7 7 7 := ⟨RX7, TX7, 13, tyX7, k_X7, by decide, rfl, (gj_at 292 (by decide +kernel) rfl)⟩
theorem fw_7_51 : gj_fw RX7 51 7 7 7 (.object "CelSheets$Sightings") true := ⟨RX7, TX7, 13, tyX7, k_X7, by decide, rfl, (gj_at 292 (by decide +kernel) rfl), rfl, by decide +kernel, fun _ => rfl⟩
theorem fl_7_58 : gj_fl RX7 58 7 8 8 := ⟨RX7, TX7, 13, tyX7, k_X7, by decide, rfl, (gj_at 293 (by decide +kernel) rfl)⟩
theorem fw_7_58 : gj_fw RX7 58 7 8 8 (.object "CelSheets$Setting") true := ⟨RX7, TX7, 13, tyX7, k_X7, by decide, rfl, (gj_at 293 (by decide +kernel) rfl), rfl, by decide +kernel, fun _ => rfl⟩
theorem fl_7_61 : gj_fl RX7 61 7 9 9 := ⟨RX7, TX7, 13, tyX7, k_X7, by decide, rfl, (gj_at 294 (by decide +kernel) rfl)⟩
theorem fw_7_61 : gj_fw RX7 61 7 9 9 (.object "CelSheets$Setting") true := ⟨RX7, TX7, 13, tyX7, k_X7, by decide, rfl, (gj_at 294 (by decide +kernel) rfl), rfl, by decide +kernel, fun _ => rfl⟩
theorem fl_7_64 : gj_fl RX7 64 7 10 10 := ⟨RX7, TX7, 13, tyX7, k_X7, by decide, rfl, (gj_at 295 (by decide +kernel) rfl)⟩
theorem fw_7_64 : gj_fw RX7 64 7 10 10 (.object "CelSheets$Setting") true := ⟨RX7, TX7, 13, tyX7, k_X7, by decide, rfl, (gj_at 295 (by decide +kernel) rfl), rfl, by decide +kernel, fun _ => rfl⟩
theorem fl_7_67 : gj_fl RX7 67 7 11 11 := ⟨RX7, TX7, 13, tyX7, k_X7, by decide, rfl, (gj_at 296 (by decide +kernel) rfl)⟩
theorem fw_7_67 : gj_fw RX7 67 7 11 11 (.array .boolean) true := ⟨RX7, TX7, 13, tyX7, k_X7, by decide, rfl, (gj_at 296 (by decide +kernel) rfl), rfl, by decide +kernel, fun _ => rfl⟩
theorem fl_7_71 : gj_fl RX7 71 7 1 1 := ⟨RX7, TX7, 13, tyX7, k_X7, by decide, rfl, (gj_at 286 (by decide +kernel) rfl)⟩
theorem fw_7_71 : gj_fw RX7 71 7 1 1 .int false := ⟨RX7, TX7, 13, tyX7, k_X7, by decide, rfl, (gj_at 286 (by decide +kernel) rfl), rfl, by decide +kernel, fun h => by cases h⟩
theorem fl_7_79 : gj_fl RX7 79 1 0 0 := ⟨RX1, TX1, 6, tyX1, k_X1, by decide, rfl, (gj_at 120 (by decide +kernel) rfl)⟩
theorem fl_7_97 : gj_fl RX7 97 2 1 1 := ⟨RX2, TX2, 6, tyX2, k_X2, by decide, rfl, (gj_at 92 (by decide +kernel) rfl)⟩
theorem fl_7_104 : gj_fl RX7 104 4 0 0 := ⟨RX4, TX4, 9, tyX4, k_X4, by decide, rfl, (gj_at 155 (by decide +kernel) rfl)⟩
theorem fl_7_107 : gj_fl RX7 107 4 1 1 := ⟨RX4, TX4, 9, tyX4, k_X4, by decide, rfl, (gj_at 159 (by decide +kernel) rfl)⟩
theorem fl_7_117 : gj_fl RX7 117 2 4 4 := ⟨RX2, TX2, 6, tyX2, k_X2, by decide, rfl, (gj_at 101 (by decide +kernel) rfl)⟩
theorem fl_7_120 : gj_fl RX7 120 4 2 2 := ⟨RX4, TX4, 9, tyX4, k_X4, by decide, rfl, (gj_at 164 (by decide +kernel) rfl)⟩
theorem fl_7_146 : gj_fl RX7 146 4 3 3 := ⟨RX4, TX4, 9, tyX4, k_X4, by decide, rfl, (gj_at 166 (by decide +kernel) rfl)⟩
theorem fl_7_149 : gj_fl RX7 149 4 4 4 := ⟨RX4, TX4, 9, tyX4, k_X4, by decide, rfl, (gj_at 168 (by decide +kernel) rfl)⟩
theorem fl_7_152 : gj_fl RX7 152 4 5 5 := ⟨RX4, TX4, 9, tyX4, k_X4, by decide, rfl, (gj_at 170 (by decide +kernel) rfl)⟩
theorem fl_7_162 : gj_fl RX7 162 4 6 6 := ⟨RX4, TX4, 9, tyX4, k_X4, by decide, rfl, (gj_at 172 (by decide +kernel) rfl)⟩
theorem fl_7_169 : gj_fl RX7 169 4 7 7 := ⟨RX4, TX4, 9, tyX4, k_X4, by decide, rfl, (gj_at 174 (by decide +kernel) rfl)⟩
theorem fl_7_172 : gj_fl RX7 172 4 8 8 := ⟨RX4, TX4, 9, tyX4, k_X4, by decide, rfl, (gj_at 177 (by decide +kernel) rfl)⟩
theorem fl_7_179 : gj_fl RX7 179 0 0 0 := ⟨RX0, TX0, 2, tyX0, k_X0, by decide, rfl, (gj_at 256 (by decide +kernel) rfl)⟩
theorem fl_7_214 : gj_fl RX7 214 6 0 0 := ⟨RX6, TX6, 4, tyX6, k_X6, by decide, rfl, (gj_at 270 (by decide +kernel) rfl)⟩
theorem fl_7_219 : gj_fl RX7 219 2 0 0 := ⟨RX2, TX2, 6, tyX2, k_X2, by decide, rfl, (gj_at 89 (by decide +kernel) rfl)⟩
theorem fl_7_236 : gj_fl RX7 236 7 12 12 := ⟨RX7, TX7, 13, tyX7, k_X7, by decide, rfl, (gj_at 297 (by decide +kernel) rfl)⟩
theorem fw_7_236 : gj_fw RX7 236 7 12 12 .long false := ⟨RX7, TX7, 13, tyX7, k_X7, by decide, rfl, (gj_at 297 (by decide +kernel) rfl), rfl, by decide +kernel, fun h => by cases h⟩
theorem fl_0_11 : gj_fl RX0 11 0 1 1 := ⟨RX0, TX0, 2, tyX0, k_X0, by decide, rfl, (gj_at 257 (by decide +kernel) rfl)⟩
theorem fw_0_11 : gj_fw RX0 11 0 1 1 (.array .int) true := ⟨RX0, TX0, 2, tyX0, k_X0, by decide, rfl, (gj_at 257 (by decide +kernel) rfl), rfl, by decide +kernel, fun _ => rfl⟩
theorem fl_0_15 : gj_fl RX0 15 0 0 0 := ⟨RX0, TX0, 2, tyX0, k_X0, by decide, rfl, (gj_at 255 (by decide +kernel) rfl)⟩
theorem fw_0_15 : gj_fw RX0 15 0 0 0 .int false := ⟨RX0, TX0, 2, tyX0, k_X0, by decide, rfl, (gj_at 255 (by decide +kernel) rfl), rfl, by decide +kernel, fun h => by cases h⟩
theorem fl_0_28 : gj_fl RX0 28 4 0 0 := ⟨RX4, TX4, 9, tyX4, k_X4, by decide, rfl, (gj_at 154 (by decide +kernel) rfl)⟩
theorem fl_0_33 : gj_fl RX0 33 4 1 1 := ⟨RX4, TX4, 9, tyX4, k_X4, by decide, rfl, (gj_at 158 (by decide +kernel) rfl)⟩
theorem fl_0_36 : gj_fl RX0 36 4 2 2 := ⟨RX4, TX4, 9, tyX4, k_X4, by decide, rfl, (gj_at 163 (by decide +kernel) rfl)⟩
theorem fl_1_12 : gj_fl RX1 12 1 0 0 := ⟨RX1, TX1, 6, tyX1, k_X1, by decide, rfl, (gj_at 119 (by decide +kernel) rfl)⟩
theorem fw_1_12 : gj_fw RX1 12 1 0 0 (.object "CelSheets$Reel") true := ⟨RX1, TX1, 6, tyX1, k_X1, by decide, rfl, (gj_at 119 (by decide +kernel) rfl), rfl, by decide +kernel, fun _ => rfl⟩
theorem fl_1_18 : gj_fl RX1 18 1 5 5 := ⟨RX1, TX1, 6, tyX1, k_X1, by decide, rfl, (gj_at 125 (by decide +kernel) rfl)⟩
theorem fw_1_18 : gj_fw RX1 18 1 5 5 (.array .int) true := ⟨RX1, TX1, 6, tyX1, k_X1, by decide, rfl, (gj_at 125 (by decide +kernel) rfl), rfl, by decide +kernel, fun _ => rfl⟩
theorem fl_1_25 : gj_fl RX1 25 1 1 1 := ⟨RX1, TX1, 6, tyX1, k_X1, by decide, rfl, (gj_at 121 (by decide +kernel) rfl)⟩
theorem fw_1_25 : gj_fw RX1 25 1 1 1 .int false := ⟨RX1, TX1, 6, tyX1, k_X1, by decide, rfl, (gj_at 121 (by decide +kernel) rfl), rfl, by decide +kernel, fun h => by cases h⟩
theorem fl_1_29 : gj_fl RX1 29 1 2 2 := ⟨RX1, TX1, 6, tyX1, k_X1, by decide, rfl, (gj_at 122 (by decide +kernel) rfl)⟩
theorem fw_1_29 : gj_fw RX1 29 1 2 2 .int false := ⟨RX1, TX1, 6, tyX1, k_X1, by decide, rfl, (gj_at 122 (by decide +kernel) rfl), rfl, by decide +kernel, fun h => by cases h⟩
theorem fl_1_43 : gj_fl RX1 43 1 3 3 := ⟨RX1, TX1, 6, tyX1, k_X1, by decide, rfl, (gj_at 123 (by decide +kernel) rfl)⟩
theorem fw_1_43 : gj_fw RX1 43 1 3 3 .int false := ⟨RX1, TX1, 6, tyX1, k_X1, by decide, rfl, (gj_at 123 (by decide +kernel) rfl), rfl, by decide +kernel, fun h => by cases h⟩
theorem fl_1_61 : gj_fl RX1 61 2 0 0 := ⟨RX2, TX2, 6, tyX2, k_X2, by decide, rfl, (gj_at 87 (by decide +kernel) rfl)⟩
theorem fl_1_68 : gj_fl RX1 68 2 1 1 := ⟨RX2, TX2, 6, tyX2, k_X2, by decide, rfl, (gj_at 93 (by decide +kernel) rfl)⟩
theorem fl_1_77 : gj_fl RX1 77 1 4 4 := ⟨RX1, TX1, 6, tyX1, k_X1, by decide, rfl, (gj_at 124 (by decide +kernel) rfl)⟩
theorem fw_1_77 : gj_fw RX1 77 1 4 4 .int false := ⟨RX1, TX1, 6, tyX1, k_X1, by decide, rfl, (gj_at 124 (by decide +kernel) rfl), rfl, by decide +kernel, fun h => by cases h⟩
theorem fl_2_9 : gj_fl RX2 9 2 2 2 := ⟨RX2, TX2, 6, tyX2, k_X2, by decide, rfl, (gj_at 94 (by decide +kernel) rfl)⟩
theorem fw_2_9 : gj_fw RX2 9 2 2 2 (.array .int) true := ⟨RX2, TX2, 6, tyX2, k_X2, by decide, rfl, (gj_at 94 (by decide +kernel) rfl), rfl, by decide +kernel, fun _ => rfl⟩
theorem fl_2_15 : gj_fl RX2 15 2 3 3 := ⟨RX2, TX2, 6, tyX2, k_X2, by decide, rfl, (gj_at 96 (by decide +kernel) rfl)⟩
theorem fw_2_15 : gj_fw RX2 15 2 3 3 (.array .int) true := ⟨RX2, TX2, 6, tyX2, k_X2, by decide, rfl, (gj_at 96 (by decide +kernel) rfl), rfl, by decide +kernel, fun _ => rfl⟩
theorem fl_2_18 : gj_fl RX2 18 2 4 4 := ⟨RX2, TX2, 6, tyX2, k_X2, by decide, rfl, (gj_at 98 (by decide +kernel) rfl)⟩
theorem fw_2_18 : gj_fw RX2 18 2 4 4 (.array .int) true := ⟨RX2, TX2, 6, tyX2, k_X2, by decide, rfl, (gj_at 98 (by decide +kernel) rfl), rfl, by decide +kernel, fun _ => rfl⟩
theorem fl_2_21 : gj_fl RX2 21 2 5 5 := ⟨RX2, TX2, 6, tyX2, k_X2, by decide, rfl, (gj_at 102 (by decide +kernel) rfl)⟩
theorem fw_2_21 : gj_fw RX2 21 2 5 5 (.array .int) true := ⟨RX2, TX2, 6, tyX2, k_X2, by decide, rfl, (gj_at 102 (by decide +kernel) rfl), rfl, by decide +kernel, fun _ => rfl⟩
theorem fl_2_24 : gj_fl RX2 24 2 0 0 := ⟨RX2, TX2, 6, tyX2, k_X2, by decide, rfl, (gj_at 86 (by decide +kernel) rfl)⟩
theorem fw_2_24 : gj_fw RX2 24 2 0 0 .int false := ⟨RX2, TX2, 6, tyX2, k_X2, by decide, rfl, (gj_at 86 (by decide +kernel) rfl), rfl, by decide +kernel, fun h => by cases h⟩
theorem fl_2_28 : gj_fl RX2 28 2 1 1 := ⟨RX2, TX2, 6, tyX2, k_X2, by decide, rfl, (gj_at 90 (by decide +kernel) rfl)⟩
theorem fw_2_28 : gj_fw RX2 28 2 1 1 .int false := ⟨RX2, TX2, 6, tyX2, k_X2, by decide, rfl, (gj_at 90 (by decide +kernel) rfl), rfl, by decide +kernel, fun h => by cases h⟩
theorem fl_3_12 : gj_fl RX3 12 3 0 0 := ⟨RX3, TX3, 7, tyX3, k_X3, by decide, rfl, (gj_at 225 (by decide +kernel) rfl)⟩
theorem fw_3_12 : gj_fw RX3 12 3 0 0 (.object "CelSheets$Reel") true := ⟨RX3, TX3, 7, tyX3, k_X3, by decide, rfl, (gj_at 225 (by decide +kernel) rfl), rfl, by decide +kernel, fun _ => rfl⟩
theorem fl_3_21 : gj_fl RX3 21 3 1 1 := ⟨RX3, TX3, 7, tyX3, k_X3, by decide, rfl, (gj_at 227 (by decide +kernel) rfl)⟩
theorem fw_3_21 : gj_fw RX3 21 3 1 1 (.object "CelSheets$Setting") true := ⟨RX3, TX3, 7, tyX3, k_X3, by decide, rfl, (gj_at 227 (by decide +kernel) rfl), rfl, by decide +kernel, fun _ => rfl⟩
theorem fl_3_28 : gj_fl RX3 28 3 2 2 := ⟨RX3, TX3, 7, tyX3, k_X3, by decide, rfl, (gj_at 229 (by decide +kernel) rfl)⟩
theorem fw_3_28 : gj_fw RX3 28 3 2 2 (.object "CelSheets$Shortest") true := ⟨RX3, TX3, 7, tyX3, k_X3, by decide, rfl, (gj_at 229 (by decide +kernel) rfl), rfl, by decide +kernel, fun _ => rfl⟩
theorem fl_3_32 : gj_fl RX3 32 3 3 3 := ⟨RX3, TX3, 7, tyX3, k_X3, by decide, rfl, (gj_at 230 (by decide +kernel) rfl)⟩
theorem fw_3_32 : gj_fw RX3 32 3 3 3 (.array .int) true := ⟨RX3, TX3, 7, tyX3, k_X3, by decide, rfl, (gj_at 230 (by decide +kernel) rfl), rfl, by decide +kernel, fun _ => rfl⟩
theorem fl_3_36 : gj_fl RX3 36 3 4 4 := ⟨RX3, TX3, 7, tyX3, k_X3, by decide, rfl, (gj_at 231 (by decide +kernel) rfl)⟩
theorem fw_3_36 : gj_fw RX3 36 3 4 4 (.array .int) true := ⟨RX3, TX3, 7, tyX3, k_X3, by decide, rfl, (gj_at 231 (by decide +kernel) rfl), rfl, by decide +kernel, fun _ => rfl⟩
theorem fl_3_39 : gj_fl RX3 39 3 5 5 := ⟨RX3, TX3, 7, tyX3, k_X3, by decide, rfl, (gj_at 232 (by decide +kernel) rfl)⟩
theorem fw_3_39 : gj_fw RX3 39 3 5 5 (.array .int) true := ⟨RX3, TX3, 7, tyX3, k_X3, by decide, rfl, (gj_at 232 (by decide +kernel) rfl), rfl, by decide +kernel, fun _ => rfl⟩
theorem fl_3_42 : gj_fl RX3 42 3 6 6 := ⟨RX3, TX3, 7, tyX3, k_X3, by decide, rfl, (gj_at 233 (by decide +kernel) rfl)⟩
theorem fw_3_42 : gj_fw RX3 42 3 6 6 (.array .int) true := ⟨RX3, TX3, 7, tyX3, k_X3, by decide, rfl, (gj_at 233 (by decide +kernel) rfl), rfl, by decide +kernel, fun _ => rfl⟩
theorem fl_3_45 : gj_fl RX3 45 4 2 2 := ⟨RX4, TX4, 9, tyX4, k_X4, by decide, rfl, (gj_at 162 (by decide +kernel) rfl)⟩
theorem fl_3_48 : gj_fl RX3 48 2 4 4 := ⟨RX2, TX2, 6, tyX2, k_X2, by decide, rfl, (gj_at 100 (by decide +kernel) rfl)⟩
theorem fl_3_51 : gj_fl RX3 51 2 5 5 := ⟨RX2, TX2, 6, tyX2, k_X2, by decide, rfl, (gj_at 104 (by decide +kernel) rfl)⟩
theorem fl_3_57 : gj_fl RX3 57 2 1 1 := ⟨RX2, TX2, 6, tyX2, k_X2, by decide, rfl, (gj_at 91 (by decide +kernel) rfl)⟩
theorem fl_3_69 : gj_fl RX3 69 4 8 8 := ⟨RX4, TX4, 9, tyX4, k_X4, by decide, rfl, (gj_at 176 (by decide +kernel) rfl)⟩
theorem fl_3_72 : gj_fl RX3 72 2 0 0 := ⟨RX2, TX2, 6, tyX2, k_X2, by decide, rfl, (gj_at 88 (by decide +kernel) rfl)⟩
theorem fl_3_75 : gj_fl RX3 75 4 0 0 := ⟨RX4, TX4, 9, tyX4, k_X4, by decide, rfl, (gj_at 156 (by decide +kernel) rfl)⟩
theorem fl_3_81 : gj_fl RX3 81 4 1 1 := ⟨RX4, TX4, 9, tyX4, k_X4, by decide, rfl, (gj_at 160 (by decide +kernel) rfl)⟩
theorem fl_4_9 : gj_fl RX4 9 4 0 0 := ⟨RX4, TX4, 9, tyX4, k_X4, by decide, rfl, (gj_at 153 (by decide +kernel) rfl)⟩
theorem fw_4_9 : gj_fw RX4 9 4 0 0 (.array .int) true := ⟨RX4, TX4, 9, tyX4, k_X4, by decide, rfl, (gj_at 153 (by decide +kernel) rfl), rfl, by decide +kernel, fun _ => rfl⟩
theorem fl_4_15 : gj_fl RX4 15 4 1 1 := ⟨RX4, TX4, 9, tyX4, k_X4, by decide, rfl, (gj_at 157 (by decide +kernel) rfl)⟩
theorem fw_4_15 : gj_fw RX4 15 4 1 1 (.array .int) true := ⟨RX4, TX4, 9, tyX4, k_X4, by decide, rfl, (gj_at 157 (by decide +kernel) rfl), rfl, by decide +kernel, fun _ => rfl⟩
theorem fl_4_18 : gj_fl RX4 18 4 2 2 := ⟨RX4, TX4, 9, tyX4, k_X4, by decide, rfl, (gj_at 161 (by decide +kernel) rfl)⟩
theorem fw_4_18 : gj_fw RX4 18 4 2 2 (.array .int) true := ⟨RX4, TX4, 9, tyX4, k_X4, by decide, rfl, (gj_at 161 (by decide +kernel) rfl), rfl, by decide +kernel, fun _ => rfl⟩
theorem fl_4_21 : gj_fl RX4 21 4 3 3 := ⟨RX4, TX4, 9, tyX4, k_X4, by decide, rfl, (gj_at 165 (by decide +kernel) rfl)⟩
theorem fw_4_21 : gj_fw RX4 21 4 3 3 (.array .int) true := ⟨RX4, TX4, 9, tyX4, k_X4, by decide, rfl, (gj_at 165 (by decide +kernel) rfl), rfl, by decide +kernel, fun _ => rfl⟩
theorem fl_4_24 : gj_fl RX4 24 4 4 4 := ⟨RX4, TX4, 9, tyX4, k_X4, by decide, rfl, (gj_at 167 (by decide +kernel) rfl)⟩
theorem fw_4_24 : gj_fw RX4 24 4 4 4 (.array .int) true := ⟨RX4, TX4, 9, tyX4, k_X4, by decide, rfl, (gj_at 167 (by decide +kernel) rfl), rfl, by decide +kernel, fun _ => rfl⟩
theorem fl_4_27 : gj_fl RX4 27 4 5 5 := ⟨RX4, TX4, 9, tyX4, k_X4, by decide, rfl, (gj_at 169 (by decide +kernel) rfl)⟩
theorem fw_4_27 : gj_fw RX4 27 4 5 5 (.array .int) true := ⟨RX4, TX4, 9, tyX4, k_X4, by decide, rfl, (gj_at 169 (by decide +kernel) rfl), rfl, by decide +kernel, fun _ => rfl⟩
theorem fl_4_30 : gj_fl RX4 30 4 7 7 := ⟨RX4, TX4, 9, tyX4, k_X4, by decide, rfl, (gj_at 173 (by decide +kernel) rfl)⟩
theorem fw_4_30 : gj_fw RX4 30 4 7 7 (.array .int) true := ⟨RX4, TX4, 9, tyX4, k_X4, by decide, rfl, (gj_at 173 (by decide +kernel) rfl), rfl, by decide +kernel, fun _ => rfl⟩
theorem fl_4_33 : gj_fl RX4 33 4 8 8 := ⟨RX4, TX4, 9, tyX4, k_X4, by decide, rfl, (gj_at 175 (by decide +kernel) rfl)⟩
theorem fw_4_33 : gj_fw RX4 33 4 8 8 (.array .int) true := ⟨RX4, TX4, 9, tyX4, k_X4, by decide, rfl, (gj_at 175 (by decide +kernel) rfl), rfl, by decide +kernel, fun _ => rfl⟩
theorem fl_4_36 : gj_fl RX4 36 2 2 2 := ⟨RX2, TX2, 6, tyX2, k_X2, by decide, rfl, (gj_at 95 (by decide +kernel) rfl)⟩
theorem fl_4_47 : gj_fl RX4 47 2 3 3 := ⟨RX2, TX2, 6, tyX2, k_X2, by decide, rfl, (gj_at 97 (by decide +kernel) rfl)⟩
theorem fl_4_54 : gj_fl RX4 54 4 6 6 := ⟨RX4, TX4, 9, tyX4, k_X4, by decide, rfl, (gj_at 171 (by decide +kernel) rfl)⟩
theorem fw_4_54 : gj_fw RX4 54 4 6 6 .int false := ⟨RX4, TX4, 9, tyX4, k_X4, by decide, rfl, (gj_at 171 (by decide +kernel) rfl), rfl, by decide +kernel, fun h => by cases h⟩
theorem fl_5_9 : gj_fl RX5 9 5 1 1 := ⟨RX5, TX5, 7, tyX5, k_X5, by decide, rfl, (gj_at 204 (by decide +kernel) rfl)⟩
theorem fw_5_9 : gj_fw RX5 9 5 1 1 (.array .int) true := ⟨RX5, TX5, 7, tyX5, k_X5, by decide, rfl, (gj_at 204 (by decide +kernel) rfl), rfl, by decide +kernel, fun _ => rfl⟩
theorem fl_5_15 : gj_fl RX5 15 5 2 2 := ⟨RX5, TX5, 7, tyX5, k_X5, by decide, rfl, (gj_at 205 (by decide +kernel) rfl)⟩
theorem fw_5_15 : gj_fw RX5 15 5 2 2 (.array .int) true := ⟨RX5, TX5, 7, tyX5, k_X5, by decide, rfl, (gj_at 205 (by decide +kernel) rfl), rfl, by decide +kernel, fun _ => rfl⟩
theorem fl_5_18 : gj_fl RX5 18 5 3 3 := ⟨RX5, TX5, 7, tyX5, k_X5, by decide, rfl, (gj_at 206 (by decide +kernel) rfl)⟩
theorem fw_5_18 : gj_fw RX5 18 5 3 3 (.array .int) true := ⟨RX5, TX5, 7, tyX5, k_X5, by decide, rfl, (gj_at 206 (by decide +kernel) rfl), rfl, by decide +kernel, fun _ => rfl⟩
theorem fl_5_21 : gj_fl RX5 21 5 4 4 := ⟨RX5, TX5, 7, tyX5, k_X5, by decide, rfl, (gj_at 207 (by decide +kernel) rfl)⟩
theorem fw_5_21 : gj_fw RX5 21 5 4 4 (.array .int) true := ⟨RX5, TX5, 7, tyX5, k_X5, by decide, rfl, (gj_at 207 (by decide +kernel) rfl), rfl, by decide +kernel, fun _ => rfl⟩
theorem fl_5_24 : gj_fl RX5 24 5 5 5 := ⟨RX5, TX5, 7, tyX5, k_X5, by decide, rfl, (gj_at 208 (by decide +kernel) rfl)⟩
theorem fw_5_24 : gj_fw RX5 24 5 5 5 (.array .int) true := ⟨RX5, TX5, 7, tyX5, k_X5, by decide, rfl, (gj_at 208 (by decide +kernel) rfl), rfl, by decide +kernel, fun _ => rfl⟩
theorem fl_5_27 : gj_fl RX5 27 5 6 6 := ⟨RX5, TX5, 7, tyX5, k_X5, by decide, rfl, (gj_at 209 (by decide +kernel) rfl)⟩
theorem fw_5_27 : gj_fw RX5 27 5 6 6 (.array .int) true := ⟨RX5, TX5, 7, tyX5, k_X5, by decide, rfl, (gj_at 209 (by decide +kernel) rfl), rfl, by decide +kernel, fun _ => rfl⟩
theorem fl_5_30 : gj_fl RX5 30 2 4 4 := ⟨RX2, TX2, 6, tyX2, k_X2, by decide, rfl, (gj_at 99 (by decide +kernel) rfl)⟩
theorem fl_5_41 : gj_fl RX5 41 5 0 0 := ⟨RX5, TX5, 7, tyX5, k_X5, by decide, rfl, (gj_at 203 (by decide +kernel) rfl)⟩
theorem fw_5_41 : gj_fw RX5 41 5 0 0 .int false := ⟨RX5, TX5, 7, tyX5, k_X5, by decide, rfl, (gj_at 203 (by decide +kernel) rfl), rfl, by decide +kernel, fun h => by cases h⟩
theorem fl_5_45 : gj_fl RX5 45 2 5 5 := ⟨RX2, TX2, 6, tyX2, k_X2, by decide, rfl, (gj_at 103 (by decide +kernel) rfl)⟩
theorem fl_6_9 : gj_fl RX6 9 6 1 1 := ⟨RX6, TX6, 4, tyX6, k_X6, by decide, rfl, (gj_at 271 (by decide +kernel) rfl)⟩
theorem fw_6_9 : gj_fw RX6 9 6 1 1 (.array .int) true := ⟨RX6, TX6, 4, tyX6, k_X6, by decide, rfl, (gj_at 271 (by decide +kernel) rfl), rfl, by decide +kernel, fun _ => rfl⟩
theorem fl_6_15 : gj_fl RX6 15 6 2 2 := ⟨RX6, TX6, 4, tyX6, k_X6, by decide, rfl, (gj_at 272 (by decide +kernel) rfl)⟩
theorem fw_6_15 : gj_fw RX6 15 6 2 2 (.array .int) true := ⟨RX6, TX6, 4, tyX6, k_X6, by decide, rfl, (gj_at 272 (by decide +kernel) rfl), rfl, by decide +kernel, fun _ => rfl⟩
theorem fl_6_18 : gj_fl RX6 18 6 3 3 := ⟨RX6, TX6, 4, tyX6, k_X6, by decide, rfl, (gj_at 273 (by decide +kernel) rfl)⟩
theorem fw_6_18 : gj_fw RX6 18 6 3 3 (.array .int) true := ⟨RX6, TX6, 4, tyX6, k_X6, by decide, rfl, (gj_at 273 (by decide +kernel) rfl), rfl, by decide +kernel, fun _ => rfl⟩
theorem fl_6_21 : gj_fl RX6 21 6 0 0 := ⟨RX6, TX6, 4, tyX6, k_X6, by decide, rfl, (gj_at 269 (by decide +kernel) rfl)⟩
theorem fw_6_21 : gj_fw RX6 21 6 0 0 .int false := ⟨RX6, TX6, 4, tyX6, k_X6, by decide, rfl, (gj_at 269 (by decide +kernel) rfl), rfl, by decide +kernel, fun h => by cases h⟩
theorem fl_8_7 : gj_fl RX8 7 8 1 1 := ⟨RX8, TX8, 28, tyX8, k_X8, by decide, rfl, (gj_at 752 (by decide +kernel) rfl)⟩
theorem fw_8_7 : gj_fw RX8 7 8 1 1 (.array .int) true := ⟨RX8, TX8, 28, tyX8, k_X8, by decide, rfl, (gj_at 752 (by decide +kernel) rfl), rfl, by decide +kernel, fun _ => rfl⟩
theorem fl_8_13 : gj_fl RX8 13 8 6 6 := ⟨RX8, TX8, 28, tyX8, k_X8, by decide, rfl, (gj_at 757 (by decide +kernel) rfl)⟩
theorem fw_8_13 : gj_fw RX8 13 8 6 6 (.array .int) true := ⟨RX8, TX8, 28, tyX8, k_X8, by decide, rfl, (gj_at 757 (by decide +kernel) rfl), rfl, by decide +kernel, fun _ => rfl⟩
theorem fl_8_16 : gj_fl RX8 16 8 7 7 := ⟨RX8, TX8, 28, tyX8, k_X8, by decide, rfl, (gj_at 758 (by decide +kernel) rfl)⟩
theorem fw_8_16 : gj_fw RX8 16 8 7 7 (.array .int) true := ⟨RX8, TX8, 28, tyX8, k_X8, by decide, rfl, (gj_at 758 (by decide +kernel) rfl), rfl, by decide +kernel, fun _ => rfl⟩
theorem fl_8_19 : gj_fl RX8 19 8 10 10 := ⟨RX8, TX8, 28, tyX8, k_X8, by decide, rfl, (gj_at 761 (by decide +kernel) rfl)⟩
theorem fw_8_19 : gj_fw RX8 19 8 10 10 (.array .int) true := ⟨RX8, TX8, 28, tyX8, k_X8, by decide, rfl, (gj_at 761 (by decide +kernel) rfl), rfl, by decide +kernel, fun _ => rfl⟩
theorem fl_8_22 : gj_fl RX8 22 8 11 11 := ⟨RX8, TX8, 28, tyX8, k_X8, by decide, rfl, (gj_at 762 (by decide +kernel) rfl)⟩
theorem fw_8_22 : gj_fw RX8 22 8 11 11 (.array .int) true := ⟨RX8, TX8, 28, tyX8, k_X8, by decide, rfl, (gj_at 762 (by decide +kernel) rfl), rfl, by decide +kernel, fun _ => rfl⟩
theorem fl_8_25 : gj_fl RX8 25 8 12 12 := ⟨RX8, TX8, 28, tyX8, k_X8, by decide, rfl, (gj_at 763 (by decide +kernel) rfl)⟩
theorem fw_8_25 : gj_fw RX8 25 8 12 12 (.array .int) true := ⟨RX8, TX8, 28, tyX8, k_X8, by decide, rfl, (gj_at 763 (by decide +kernel) rfl), rfl, by decide +kernel, fun _ => rfl⟩
theorem fl_8_28 : gj_fl RX8 28 8 13 13 := ⟨RX8, TX8, 28, tyX8, k_X8, by decide, rfl, (gj_at 764 (by decide +kernel) rfl)⟩
theorem fw_8_28 : gj_fw RX8 28 8 13 13 (.array .int) true := ⟨RX8, TX8, 28, tyX8, k_X8, by decide, rfl, (gj_at 764 (by decide +kernel) rfl), rfl, by decide +kernel, fun _ => rfl⟩
theorem fl_8_31 : gj_fl RX8 31 8 14 14 := ⟨RX8, TX8, 28, tyX8, k_X8, by decide, rfl, (gj_at 765 (by decide +kernel) rfl)⟩
theorem fw_8_31 : gj_fw RX8 31 8 14 14 (.array .boolean) true := ⟨RX8, TX8, 28, tyX8, k_X8, by decide, rfl, (gj_at 765 (by decide +kernel) rfl), rfl, by decide +kernel, fun _ => rfl⟩
theorem fl_8_35 : gj_fl RX8 35 8 15 15 := ⟨RX8, TX8, 28, tyX8, k_X8, by decide, rfl, (gj_at 766 (by decide +kernel) rfl)⟩
theorem fw_8_35 : gj_fw RX8 35 8 15 15 (.array .int) true := ⟨RX8, TX8, 28, tyX8, k_X8, by decide, rfl, (gj_at 766 (by decide +kernel) rfl), rfl, by decide +kernel, fun _ => rfl⟩
theorem fl_8_38 : gj_fl RX8 38 8 16 16 := ⟨RX8, TX8, 28, tyX8, k_X8, by decide, rfl, (gj_at 767 (by decide +kernel) rfl)⟩
theorem fw_8_38 : gj_fw RX8 38 8 16 16 (.array .int) true := ⟨RX8, TX8, 28, tyX8, k_X8, by decide, rfl, (gj_at 767 (by decide +kernel) rfl), rfl, by decide +kernel, fun _ => rfl⟩
theorem fl_8_41 : gj_fl RX8 41 8 17 17 := ⟨RX8, TX8, 28, tyX8, k_X8, by decide, rfl, (gj_at 768 (by decide +kernel) rfl)⟩
theorem fw_8_41 : gj_fw RX8 41 8 17 17 (.array .int) true := ⟨RX8, TX8, 28, tyX8, k_X8, by decide, rfl, (gj_at 768 (by decide +kernel) rfl), rfl, by decide +kernel, fun _ => rfl⟩
theorem fl_8_44 : gj_fl RX8 44 8 19 19 := ⟨RX8, TX8, 28, tyX8, k_X8, by decide, rfl, (gj_at 770 (by decide +kernel) rfl)⟩
theorem fw_8_44 : gj_fw RX8 44 8 19 19 (.array .int) true := ⟨RX8, TX8, 28, tyX8, k_X8, by decide, rfl, (gj_at 770 (by decide +kernel) rfl), rfl, by decide +kernel, fun _ => rfl⟩
theorem fl_8_47 : gj_fl RX8 47 8 20 20 := ⟨RX8, TX8, 28, tyX8, k_X8, by decide, rfl, (gj_at 771 (by decide +kernel) rfl)⟩
theorem fw_8_47 : gj_fw RX8 47 8 20 20 (.array .boolean) true := ⟨RX8, TX8, 28, tyX8, k_X8, by decide, rfl, (gj_at 771 (by decide +kernel) rfl), rfl, by decide +kernel, fun _ => rfl⟩
theorem fl_8_50 : gj_fl RX8 50 8 22 22 := ⟨RX8, TX8, 28, tyX8, k_X8, by decide, rfl, (gj_at 773 (by decide +kernel) rfl)⟩
theorem fw_8_50 : gj_fw RX8 50 8 22 22 (.array .int) true := ⟨RX8, TX8, 28, tyX8, k_X8, by decide, rfl, (gj_at 773 (by decide +kernel) rfl), rfl, by decide +kernel, fun _ => rfl⟩
theorem fl_8_53 : gj_fl RX8 53 8 23 23 := ⟨RX8, TX8, 28, tyX8, k_X8, by decide, rfl, (gj_at 774 (by decide +kernel) rfl)⟩
theorem fw_8_53 : gj_fw RX8 53 8 23 23 (.array .int) true := ⟨RX8, TX8, 28, tyX8, k_X8, by decide, rfl, (gj_at 774 (by decide +kernel) rfl), rfl, by decide +kernel, fun _ => rfl⟩
theorem fl_8_56 : gj_fl RX8 56 8 24 24 := ⟨RX8, TX8, 28, tyX8, k_X8, by decide, rfl, (gj_at 775 (by decide +kernel) rfl)⟩
theorem fw_8_56 : gj_fw RX8 56 8 24 24 (.array .int) true := ⟨RX8, TX8, 28, tyX8, k_X8, by decide, rfl, (gj_at 775 (by decide +kernel) rfl), rfl, by decide +kernel, fun _ => rfl⟩
theorem fl_8_59 : gj_fl RX8 59 8 26 26 := ⟨RX8, TX8, 28, tyX8, k_X8, by decide, rfl, (gj_at 777 (by decide +kernel) rfl)⟩
theorem fw_8_59 : gj_fw RX8 59 8 26 26 (.array .int) true := ⟨RX8, TX8, 28, tyX8, k_X8, by decide, rfl, (gj_at 777 (by decide +kernel) rfl), rfl, by decide +kernel, fun _ => rfl⟩
theorem fl_8_62 : gj_fl RX8 62 8 27 27 := ⟨RX8, TX8, 28, tyX8, k_X8, by decide, rfl, (gj_at 778 (by decide +kernel) rfl)⟩
theorem fw_8_62 : gj_fw RX8 62 8 27 27 (.array .int) true := ⟨RX8, TX8, 28, tyX8, k_X8, by decide, rfl, (gj_at 778 (by decide +kernel) rfl), rfl, by decide +kernel, fun _ => rfl⟩
theorem fw_8_69 : gj_fw RX8 69 8 0 0 .int false := ⟨RX8, TX8, 28, tyX8, k_X8, by decide, rfl, (gj_at 751 (by decide +kernel) rfl), rfl, by decide +kernel, fun h => by cases h⟩
theorem fl_8_73 : gj_fl RX8 73 8 5 5 := ⟨RX8, TX8, 28, tyX8, k_X8, by decide, rfl, (gj_at 756 (by decide +kernel) rfl)⟩
theorem fw_8_73 : gj_fw RX8 73 8 5 5 .int false := ⟨RX8, TX8, 28, tyX8, k_X8, by decide, rfl, (gj_at 756 (by decide +kernel) rfl), rfl, by decide +kernel, fun h => by cases h⟩
theorem fl_8_80 : gj_fl RX8 80 8 4 4 := ⟨RX8, TX8, 28, tyX8, k_X8, by decide, rfl, (gj_at 755 (by decide +kernel) rfl)⟩
theorem fw_8_80 : gj_fw RX8 80 8 4 4 .int false := ⟨RX8, TX8, 28, tyX8, k_X8, by decide, rfl, (gj_at 755 (by decide +kernel) rfl), rfl, by decide +kernel, fun h => by cases h⟩
theorem fl_8_87 : gj_fl RX8 87 8 2 2 := ⟨RX8, TX8, 28, tyX8, k_X8, by decide, rfl, (gj_at 753 (by decide +kernel) rfl)⟩
theorem fw_8_87 : gj_fw RX8 87 8 2 2 .int false := ⟨RX8, TX8, 28, tyX8, k_X8, by decide, rfl, (gj_at 753 (by decide +kernel) rfl), rfl, by decide +kernel, fun h => by cases h⟩
theorem fl_8_90 : gj_fl RX8 90 8 3 3 := ⟨RX8, TX8, 28, tyX8, k_X8, by decide, rfl, (gj_at 754 (by decide +kernel) rfl)⟩
theorem fw_8_90 : gj_fw RX8 90 8 3 3 .int false := ⟨RX8, TX8, 28, tyX8, k_X8, by decide, rfl, (gj_at 754 (by decide +kernel) rfl), rfl, by decide +kernel, fun h => by cases h⟩
theorem fl_8_93 : gj_fl RX8 93 8 8 8 := ⟨RX8, TX8, 28, tyX8, k_X8, by decide, rfl, (gj_at 759 (by decide +kernel) rfl)⟩
theorem fw_8_93 : gj_fw RX8 93 8 8 8 .int false := ⟨RX8, TX8, 28, tyX8, k_X8, by decide, rfl, (gj_at 759 (by decide +kernel) rfl), rfl, by decide +kernel, fun h => by cases h⟩
theorem fl_8_100 : gj_fl RX8 100 8 9 9 := ⟨RX8, TX8, 28, tyX8, k_X8, by decide, rfl, (gj_at 760 (by decide +kernel) rfl)⟩
theorem fw_8_100 : gj_fw RX8 100 8 9 9 .int false := ⟨RX8, TX8, 28, tyX8, k_X8, by decide, rfl, (gj_at 760 (by decide +kernel) rfl), rfl, by decide +kernel, fun h => by cases h⟩
theorem fl_8_121 : gj_fl RX8 121 8 18 18 := ⟨RX8, TX8, 28, tyX8, k_X8, by decide, rfl, (gj_at 769 (by decide +kernel) rfl)⟩
theorem fw_8_121 : gj_fw RX8 121 8 18 18 .int false := ⟨RX8, TX8, 28, tyX8, k_X8, by decide, rfl, (gj_at 769 (by decide +kernel) rfl), rfl, by decide +kernel, fun h => by cases h⟩
theorem fl_8_219 : gj_fl RX8 219 8 21 21 := ⟨RX8, TX8, 28, tyX8, k_X8, by decide, rfl, (gj_at 772 (by decide +kernel) rfl)⟩
theorem fw_8_219 : gj_fw RX8 219 8 21 21 .int false := ⟨RX8, TX8, 28, tyX8, k_X8, by decide, rfl, (gj_at 772 (by decide +kernel) rfl), rfl, by decide +kernel, fun h => by cases h⟩
theorem fl_8_240 : gj_fl RX8 240 8 25 25 := ⟨RX8, TX8, 28, tyX8, k_X8, by decide, rfl, (gj_at 776 (by decide +kernel) rfl)⟩
theorem fw_8_240 : gj_fw RX8 240 8 25 25 .long false := ⟨RX8, TX8, 28, tyX8, k_X8, by decide, rfl, (gj_at 776 (by decide +kernel) rfl), rfl, by decide +kernel, fun h => by cases h⟩
theorem lc_7_206 : Cond.constantLong RX7 206 (Int64.ofInt 10000) ∈ gj_tb := (gj_at 642 (by decide +kernel) rfl)
theorem lc_7_240 : Cond.constantLong RX7 240 (Int64.ofInt 6364136223846793005) ∈ gj_tb := (gj_at 724 (by decide +kernel) rfl)
theorem lc_7_242 : Cond.constantLong RX7 242 (Int64.ofInt 1442695040888963407) ∈ gj_tb := (gj_at 725 (by decide +kernel) rfl)
theorem lc_L_86 : Cond.constantLong RL 86 (Int64.ofInt 4294967295) ∈ gj_tb := (gj_at 1092 (by decide +kernel) rfl)
theorem lc_8_83 : Cond.constantLong RX8 83 (Int64.ofInt 47) ∈ gj_tb := (gj_at 935 (by decide +kernel) rfl)
theorem lc_8_85 : Cond.constantLong RX8 85 (Int64.ofInt 255) ∈ gj_tb := (gj_at 840 (by decide +kernel) rfl)
theorem lc_8_186 : Cond.constantLong RX8 186 (Int64.ofInt 9) ∈ gj_tb := (gj_at 943 (by decide +kernel) rfl)
theorem lc_8_188 : Cond.constantLong RX8 188 (Int64.ofInt 5) ∈ gj_tb := (gj_at 944 (by decide +kernel) rfl)
theorem lc_8_193 : Cond.constantLong RX8 193 (Int64.ofInt (-9)) ∈ gj_tb := (gj_at 957 (by decide +kernel) rfl)
theorem lc_8_195 : Cond.constantLong RX8 195 (Int64.ofInt (-3)) ∈ gj_tb := (gj_at 958 (by decide +kernel) rfl)
theorem lc_8_197 : Cond.constantLong RX8 197 (Int64.ofInt 3) ∈ gj_tb := (gj_at 959 (by decide +kernel) rfl)
theorem lc_8_205 : Cond.constantLong RX8 205 (Int64.ofInt 4) ∈ gj_tb := (gj_at 1022 (by decide +kernel) rfl)
theorem lc_8_207 : Cond.constantLong RX8 207 (Int64.ofInt 10000) ∈ gj_tb := (gj_at 1023 (by decide +kernel) rfl)
theorem lc_8_217 : Cond.constantLong RX8 217 (Int64.ofInt 39) ∈ gj_tb := (gj_at 1035 (by decide +kernel) rfl)
theorem lc_8_238 : Cond.constantLong RX8 238 (Int64.ofInt 10) ∈ gj_tb := (gj_at 1068 (by decide +kernel) rfl)
theorem lc_8_244 : Cond.constantLong RX8 244 (Int64.ofInt 40) ∈ gj_tb := (gj_at 1077 (by decide +kernel) rfl)
theorem lc_8_246 : Cond.constantLong RX8 246 (Int64.ofInt 6364136223846793005) ∈ gj_tb := (gj_at 1078 (by decide +kernel) rfl)
theorem lc_8_248 : Cond.constantLong RX8 248 (Int64.ofInt 1442695040888963407) ∈ gj_tb := (gj_at 1079 (by decide +kernel) rfl)
theorem cl_7_13 : Cond.classLink RX7 13 RX1 ∈ gj_tb := (gj_at 74 (by decide +kernel) rfl)
theorem cl_7_20 : Cond.classLink RX7 20 RX3 ∈ gj_tb := (gj_at 139 (by decide +kernel) rfl)
theorem cl_7_41 : Cond.classLink RX7 41 RX0 ∈ gj_tb := (gj_at 249 (by decide +kernel) rfl)
theorem cl_7_48 : Cond.classLink RX7 48 RX6 ∈ gj_tb := (gj_at 263 (by decide +kernel) rfl)
theorem cl_7_55 : Cond.classLink RX7 55 RX4 ∈ gj_tb := (gj_at 283 (by decide +kernel) rfl)
theorem cl_1_9 : Cond.classLink RX1 9 RX2 ∈ gj_tb := (gj_at 80 (by decide +kernel) rfl)
theorem cl_3_9 : Cond.classLink RX3 9 RX2 ∈ gj_tb := (gj_at 145 (by decide +kernel) rfl)
theorem cl_3_18 : Cond.classLink RX3 18 RX4 ∈ gj_tb := (gj_at 147 (by decide +kernel) rfl)
theorem cl_3_25 : Cond.classLink RX3 25 RX5 ∈ gj_tb := (gj_at 197 (by decide +kernel) rfl)
theorem cl_L_7 : Cond.classLink RL 7 RX7 ∈ gj_tb := (gj_at 66 (by decide +kernel) rfl)
theorem cl_L_10 : Cond.classLink RL 10 RX8 ∈ gj_tb := (gj_at 742 (by decide +kernel) rfl)
theorem ci_7 : Cond.instantiable RX7 13 ∈ gj_tb ∧ Cond.initialized RX7 ∈ gj_tb := ⟨(gj_at 67 (by decide +kernel) rfl), (gj_at 55 (by decide +kernel) rfl)⟩
theorem ci_0 : Cond.instantiable RX0 2 ∈ gj_tb ∧ Cond.initialized RX0 ∈ gj_tb := ⟨(gj_at 250 (by decide +kernel) rfl), (gj_at 61 (by decide +kernel) rfl)⟩
theorem ci_1 : Cond.instantiable RX1 6 ∈ gj_tb ∧ Cond.initialized RX1 ∈ gj_tb := ⟨(gj_at 75 (by decide +kernel) rfl), (gj_at 56 (by decide +kernel) rfl)⟩
theorem ci_2 : Cond.instantiable RX2 6 ∈ gj_tb ∧ Cond.initialized RX2 ∈ gj_tb := ⟨(gj_at 81 (by decide +kernel) rfl), (gj_at 57 (by decide +kernel) rfl)⟩
theorem ci_3 : Cond.instantiable RX3 7 ∈ gj_tb ∧ Cond.initialized RX3 ∈ gj_tb := ⟨(gj_at 140 (by decide +kernel) rfl), (gj_at 58 (by decide +kernel) rfl)⟩
theorem ci_4 : Cond.instantiable RX4 9 ∈ gj_tb ∧ Cond.initialized RX4 ∈ gj_tb := ⟨(gj_at 148 (by decide +kernel) rfl), (gj_at 59 (by decide +kernel) rfl)⟩
theorem ci_5 : Cond.instantiable RX5 7 ∈ gj_tb ∧ Cond.initialized RX5 ∈ gj_tb := ⟨(gj_at 198 (by decide +kernel) rfl), (gj_at 60 (by decide +kernel) rfl)⟩
theorem ci_6 : Cond.instantiable RX6 4 ∈ gj_tb ∧ Cond.initialized RX6 ∈ gj_tb := ⟨(gj_at 264 (by decide +kernel) rfl), (gj_at 62 (by decide +kernel) rfl)⟩
theorem ci_8 : Cond.instantiable RX8 28 ∈ gj_tb ∧ Cond.initialized RX8 ∈ gj_tb := ⟨(gj_at 743 (by decide +kernel) rfl), (gj_at 63 (by decide +kernel) rfl)⟩
theorem tn_3_54 : Cond.fieldLinkNest RX3 54 "CelSheets" "TENS" "[I" "CelSheets" ∈ gj_nb := (gj_an 561 (by decide +kernel) rfl)
/-- what there is behind the two constructors -/
def gS : List gj_H := [.inl (7, [4, 0, 5, 12, 13, 18, 38, 40, 44, 53, 62, 71, 1]), .inr (false, 80), .inl (1, [6, 0, 0, 0, 0, 11]), .inl (2, [0, 0, 7, 8, 9, 10]), .inr (false, 6), .inr (false, 6), .inr (false, 4), .inr (false, 192), .inr (false, 2), .inl (3, [13, 18, 27, 34, 35, 36, 37]), .inl (2, [0, 0, 14, 15, 16, 17]), .inr (false, 6), .inr (false, 6), .inr (false, 4), .inr (false, 192), .inl (4, [19, 20, 21, 22, 23, 24, 0, 25, 26]), .inr (false, 6), .inr (false, 6), .inr (false, 4), .inr (false, 5), .inr (false, 5), .inr (false, 5), .inr (false, 4), .inr (false, 4), .inl (5, [0, 28, 29, 30, 31, 32, 33]), .inr (false, 48), .inr (false, 49), .inr (false, 49), .inr (false, 49), .inr (false, 2401), .inr (false, 49), .inr (false, 4), .inr (false, 10), .inr (false, 6), .inr (false, 6), .inl (0, [0, 39]), .inr (false, 70), .inl (6, [0, 41, 42, 43]), .inr (false, 6), .inr (false, 6), .inr (false, 6), .inl (4, [45, 46, 47, 48, 49, 50, 0, 51, 52]), .inr (false, 6), .inr (false, 6), .inr (false, 4), .inr (false, 5), .inr (false, 5), .inr (false, 5), .inr (false, 4), .inr (false, 4), .inl (4, [54, 55, 56, 57, 58, 59, 0, 60, 61]), .inr (false, 6), .inr (false, 6), .inr (false, 4), .inr (false, 5), .inr (false, 5), .inr (false, 5), .inr (false, 4), .inr (false, 4), .inl (4, [63, 64, 65, 66, 67, 68, 0, 69, 70]), .inr (false, 6), .inr (false, 6), .inr (false, 4), .inr (false, 5), .inr (false, 5), .inr (false, 5), .inr (false, 4), .inr (false, 4), .inr (true, 2), .inl (8, [0, 73, 0, 0, 0, 0, 74, 75, 0, 0, 76, 77, 78, 79, 80, 81, 82, 83, 0, 84, 85, 0, 86, 87, 88, 1, 89, 90]), .inr (false, 80), .inr (false, 192), .inr (false, 4), .inr (false, 192), .inr (false, 4), .inr (false, 40), .inr (false, 3), .inr (true, 3), .inr (false, 40), .inr (false, 40), .inr (false, 560), .inr (false, 80), .inr (true, 2), .inr (false, 6), .inr (false, 6), .inr (false, 6), .inr (false, 2401), .inr (false, 7203)]
end
section
section GE
variable {xt : Nat × (Nat → Int)} {Y : gj_Y} {S : List gj_H} {k n pc : Nat} {lv lv' : List (Option gj_V)} {st : List gj_V} {M : gj_M} {Q : Option gj_V → List gj_H → gj_M → Prop}
theorem gj_getfiE {h ci idx j : Nat} {z : Int} {fs : List Nat} (w : Int) (np : Nat) (hd : decode Y.2.1 pc = .ok (.getfield idx, 3)) (hp : pc + 3 = np) (hl : gj_fl Y.1.cls idx ci j z) (hs : S[h]? = some (.inl (ci, fs))) (hf : fs[j]? = some 0) (hw : M h z = w) (kk : gj_in w → gj_G xt Y S k n np lv (gI w :: st) M Q) : gj_G xt Y S k n pc lv (gR h :: st) M Q := by
  subst hw
  exact gj_getfi np hd hp hl hs hf kk
theorem gj_getflE {h ci idx j : Nat} {z : Int} {fs : List Nat} (w : Int) (np : Nat) (hd : decode Y.2.1 pc = .ok (.getfield idx, 3)) (hp : pc + 3 = np) (hl : gj_fl Y.1.cls idx ci j z) (hs : S[h]? = some (.inl (ci, fs))) (hf : fs[j]? = some 1) (hw : M (h + 5000) z = w) (kk : gj_G xt Y S k n np lv (gL w :: st) M Q) : gj_G xt Y S k n pc lv (gR h :: st) M Q := by
  subst hw
  exact gj_getfl np hd hp hl hs hf kk
theorem gj_ialdE {h N : Nat} {i : Int} (w : Int) (np : Nat) (hd : decode Y.2.1 pc = .ok (.iaload, 1)) (hp : pc + 1 = np) (hs : S[h]? = some (.inr (false, N))) (hi : 0 ≤ i ∧ i < N) (hr : gj_in i) (hw : M h i = w) (kk : gj_in w → gj_G xt Y S k n np lv (gI w :: st) M Q) : gj_G xt Y S k n pc lv (gI i :: gR h :: st) M Q := by
  subst hw
  exact gj_iald np hd hp hs hi hr kk
theorem gj_baldE {h N : Nat} {i : Int} (w : Int) (np : Nat) (hd : decode Y.2.1 pc = .ok (.baload, 1)) (hp : pc + 1 = np) (hs : S[h]? = some (.inr (true, N))) (hi : 0 ≤ i ∧ i < N) (hr : gj_in i) (hw : M h i = w) (kk : gj_in w → gj_G xt Y S k n np lv (gI w :: st) M Q) : gj_G xt Y S k n pc lv (gI i :: gR h :: st) M Q := by
  subst hw
  exact gj_bald np hd hp hs hi hr kk
/-- the number on top, told otherwise -/
theorem gj_top {a : Int} (b : Int) (h : a = b) (kk : gj_G xt Y S k n pc lv (gI b :: st) M Q) : gj_G xt Y S k n pc lv (gI a :: st) M Q := by
  subst h
  exact kk
theorem gj_mem {M' : gj_M} (h : M = M') (kk : gj_G xt Y S k n pc lv st M' Q) : gj_G xt Y S k n pc lv st M Q := by
  subst h
  exact kk
end GE
end
section
/-! pure words, shared by the class and the reference -/
def p_sum (g : Nat → Int) : Nat → Int
  | 0 => 0
  | n + 1 => p_sum g n + g n
def p_first (v : Nat → Int) : Nat → Nat → Int
  | 0, _ => -9
  | n + 1, i => if v i = -9 then p_first v n (i + 1) else v i
/-- where a pan is -/
def p_pan (a b e : Int → Int) (q f : Int) : Int := if e q < 1 then a q else a q + b q * (f / e q)
/-- what a sheet tells -/
def p_ex (dl lg sh : Int → Int) (l f : Int) : Int := if f - dl l < 0 ∨ lg l ≤ f - dl l then -9 else sh (l * 48 + (f - dl l))
/-- which switch tells the order -/
def p_sf (fr : Int → Int) (f : Int) : Nat → Int
  | 0 => -1
  | n + 1 => if fr n ≤ f ∧ (p_sf fr f n < 0 ∨ fr (p_sf fr f n) ≤ fr n) then n else p_sf fr f n
def p_fo : Nat → Int
  | 0 => 0
  | n + 1 => p_fo n * 10 + n
def p_or (L : Int) (sw : Int) (fr od : Int → Int) (f : Int) : Int := if 0 ≤ p_sf fr f sw.toNat then od (p_sf fr f sw.toNat) else p_fo L.toNat
/-- a figure of an order -/
def p_li (L o : Int) (i : Int) : Int := if L - 1 - i < 0 ∨ 5 ≤ L - 1 - i then 0 else o / gj_tens (L - 1 - i).toNat % 10
/-- whether a drawing on a level covers a window's column: 1 or 0 -/
def p_cw (D : Int) (xs ws a b e : Int → Int) (l d f c : Int) : Int := if (0 ≤ d ∧ d < D) ∧ xs d + p_pan a b e l f ≤ c + p_pan a b e 4 f ∧ c + p_pan a b e 4 f < xs d + p_pan a b e l f + ws d then 1 else 0
theorem p_cw_01 (D : Int) (xs ws a b e : Int → Int) (l d f c : Int) : p_cw D xs ws a b e l d f c = 0 ∨ p_cw D xs ws a b e l d f c = 1 := by
  unfold p_cw
  split <;> simp
theorem gj_tens_b (j : Nat) : 1 ≤ gj_tens j ∧ gj_tens j ≤ 10000 := by
  unfold gj_tens
  split <;> decide
theorem p_li_b {L o i : Int} (ho : 0 ≤ o) : 0 ≤ p_li L o i ∧ p_li L o i ≤ 9 := by
  unfold p_li
  split
  · decide
  · have h1 := Int.emod_nonneg (o / gj_tens (L - 1 - i).toNat) (by decide : (10 : Int) ≠ 0)
    have h2 := Int.emod_lt_of_pos (o / gj_tens (L - 1 - i).toNat) (by decide : (0 : Int) < 10)
    omega
theorem p_ex_cases (dl lg sh : Int → Int) (l f : Int) : p_ex dl lg sh l f = -9 ∨ (0 ≤ f - dl l ∧ f - dl l < lg l ∧ p_ex dl lg sh l f = sh (l * 48 + (f - dl l))) := by
  unfold p_ex
  split
  · exact Or.inl rfl
  · right
    refine ⟨by omega, by omega, rfl⟩
theorem p_pan_b {a b e : Int → Int} {q f : Int} (hf : 0 ≤ f ∧ f < 48) (ha : -9 ≤ a q ∧ a q ≤ 9) (hb : -3 ≤ b q ∧ b q ≤ 3) (he : 1 ≤ e q ∧ e q ≤ 9) : -150 ≤ p_pan a b e q f ∧ p_pan a b e q f ≤ 150 := by
  unfold p_pan
  rw [if_neg (by omega)]
  have h1 : 0 ≤ f / e q := Int.ediv_nonneg hf.1 (by omega)
  have h2 : f / e q ≤ f := Int.ediv_le_self _ hf.1
  generalize f / e q = z at *
  have h3 : b q = -3 ∨ b q = -2 ∨ b q = -1 ∨ b q = 0 ∨ b q = 1 ∨ b q = 2 ∨ b q = 3 := by omega
  rcases h3 with h | h | h | h | h | h | h <;> rw [h] <;> omega
def p_va (L D o : Int) (dl lg sh xs ws a b e : Int → Int) (f c rub : Int) (i : Nat) : Int := if p_ex dl lg sh (p_li L o i) f ≠ rub ∧ p_cw D xs ws a b e (p_li L o i) (p_ex dl lg sh (p_li L o i) f) f c = 1 then 10 * p_li L o i + p_ex dl lg sh (p_li L o i) f else -9
theorem p_sf_lo (fr : Int → Int) (f : Int) : ∀ n, -1 ≤ p_sf fr f n ∧ p_sf fr f n < n := by
  intro n
  induction n with
  | zero => simp [p_sf]
  | succ n ih =>
    simp only [p_sf]
    split
    · omega
    · omega
theorem gj_lvE {xt : Nat × (Nat → Int)} {Y : gj_Y} {S : List gj_H} {k n pc : Nat} {lv lv' : List (Option gj_V)} {st : List gj_V} {M : gj_M} {Q : Option gj_V → List gj_H → gj_M → Prop} (h : lv = lv') (kk : gj_G xt Y S k n pc lv' st M Q) : gj_G xt Y S k n pc lv st M Q := h ▸ kk
/-- memory outside some cells is as it was -/
def gj_E (hs : List Nat) (M M' : gj_M) : Prop := ∀ h : Nat, h ∉ hs → ∀ i : Int, M' h i = M h i
theorem gj_E.rf {hs : List Nat} {M : gj_M} : gj_E hs M M := fun _ _ _ => rfl
theorem gj_E.tr {hs : List Nat} {M M' M'' : gj_M} (h : gj_E hs M M') (g : gj_E hs M' M'') : gj_E hs M M'' := fun x hx i => (g x hx i).trans (h x hx i)
theorem gj_E.u {hs : List Nat} {M : gj_M} {h : Nat} {i v : Int} (hh : h ∈ hs) : gj_E hs M (gj_u M h i v) := fun x hx j => gj_u_o (fun e => hx (e ▸ hh))
theorem gj_E.mono {hs hs' : List Nat} {M M' : gj_M} (h : gj_E hs M M') (hh : ∀ x ∈ hs, x ∈ hs') : gj_E hs' M M' := fun x hx i => h x (fun q => hx (hh x q)) i
theorem gj_u_s {M : gj_M} {h : Nat} {i v : Int} : gj_u M h i v h i = v := if_pos ⟨rfl, rfl⟩
theorem gj_u_i {M : gj_M} {h h' : Nat} {i i' v : Int} (hne : i' ≠ i) : gj_u M h i v h' i' = M h' i' := if_neg (fun q => hne q.2)
theorem gj_wk {xt : Nat × (Nat → Int)} {Y : gj_Y} {S : List gj_H} {k n pc : Nat} {lv lv' : List (Option gj_V)} {st : List gj_V} {M : gj_M} {Q : Option gj_V → List gj_H → gj_M → Prop} (kk : gj_G xt Y S k n pc lv' st M Q) (hle : gj_le lv' lv) : gj_G xt Y S k n pc lv st M Q := gj_drop lv' hle kk
theorem gj_rg {xt : Nat × (Nat → Int)} {Y : gj_Y} {S : List gj_H} {k n pc : Nat} {lv : List (Option gj_V)} {st : List gj_V} {M : gj_M} {Q : Option gj_V → List gj_H → gj_M → Prop} (kk : gj_R M → gj_G xt Y S k n pc lv st M Q) : gj_G xt Y S k n pc lv st M Q :=
  fun p l e s m args below meth c H locs ls ad cA cZ D A Z hC hW hL hR => kk hW.2.2.2.2.1 p l e s m args below meth c H locs ls ad cA cZ D A Z hC hW hL hR
theorem p_ex_in {dl lg sh : Int → Int} (h : ∀ i, gj_in (sh i)) (l f : Int) : gj_in (p_ex dl lg sh l f) := by
  unfold p_ex
  split
  · exact ⟨by omega, by omega⟩
  · exact h _
theorem p_first_stop {v : Nat → Int} {n i : Nat} (h : v i ≠ -9) : p_first v (n + 1) i = v i := if_neg h
theorem p_first_go {v : Nat → Int} {n i : Nat} (h : v i = -9) : p_first v (n + 1) i = p_first v n (i + 1) := if_pos h
end
section
set_option maxRecDepth 100000 in
set_option maxHeartbeats 4000000 in
theorem s4_panAt {xt : Nat × (Nat → Int)} {M : gj_M} {pan f : Int} (hp : 0 ≤ pan ∧ pan < 5) (hf : 0 ≤ f ∧ f < 48) : gj_F xt Y4_panAt gS [gR 15, gI pan, gI f] M (some (gI (p_pan (M 19) (M 20) (M 21) pan f))) M := by
  show gj_G _ Y4_panAt gS 0 0 0 [_, _, _, _] [] M _
  refine gj_aload_n 1 dX4_panAt_0 rfl rfl ?_
  refine gj_getfr 4 dX4_panAt_1 rfl fl_4_27 rfl rfl ?_
  refine gj_iload_n 5 dX4_panAt_4 rfl rfl ?_
  refine gj_iald 6 dX4_panAt_5 rfl rfl (by omega) (by omega) (fun r_5 => ?_)
  refine gj_istore_n (lv' := [_, _, _, _]) 7 dX4_panAt_6 rfl (by decide) rfl ?_
  refine gj_iload_n 8 dX4_panAt_7 rfl rfl ?_
  refine gj_iconst 9 dX4_panAt_8 rfl ?_
  refine gj_icmp_ge 21 12 dX4_panAt_9 (by decide) rfl (by omega) (by omega) (fun c_9 => ?_) (fun c_9 => ?_)
  · refine gj_aload_n 22 dX4_panAt_21 rfl rfl ?_
    refine gj_getfr 25 dX4_panAt_22 rfl fl_4_21 rfl rfl ?_
    refine gj_iload_n 26 dX4_panAt_25 rfl rfl ?_
    refine gj_iald 27 dX4_panAt_26 rfl rfl (by omega) (by omega) (fun r_26 => ?_)
    refine gj_aload_n 28 dX4_panAt_27 rfl rfl ?_
    refine gj_getfr 31 dX4_panAt_28 rfl fl_4_24 rfl rfl ?_
    refine gj_iload_n 32 dX4_panAt_31 rfl rfl ?_
    refine gj_iald 33 dX4_panAt_32 rfl rfl (by omega) (by omega) (fun r_32 => ?_)
    refine gj_iload_n 34 dX4_panAt_33 rfl rfl ?_
    refine gj_iload_n 35 dX4_panAt_34 rfl rfl ?_
    refine gj_idiv 36 dX4_panAt_35 rfl (by omega) (by omega) ?_
    refine gj_imul 37 dX4_panAt_36 rfl ?_
    refine gj_iadd 38 dX4_panAt_37 rfl ?_
    refine gj_iret dX4_panAt_38 rfl ⟨Nat.zero_le _, Nat.zero_le _⟩ ?_
    exact ⟨rfl, by unfold p_pan; first | rw [if_pos (by omega)] | rw [if_neg (by omega)], rfl⟩
  · refine gj_aload_n 13 dX4_panAt_12 rfl rfl ?_
    refine gj_getfr 16 dX4_panAt_13 rfl fl_4_21 rfl rfl ?_
    refine gj_iload_n 17 dX4_panAt_16 rfl rfl ?_
    refine gj_iald 18 dX4_panAt_17 rfl rfl (by omega) (by omega) (fun r_17 => ?_)
    refine gj_goto 38 dX4_panAt_18 (by decide) ?_
    refine gj_iret dX4_panAt_38 rfl ⟨Nat.zero_le _, Nat.zero_le _⟩ ?_
    exact ⟨rfl, by unfold p_pan; first | rw [if_pos (by omega)] | rw [if_neg (by omega)], rfl⟩

set_option maxRecDepth 100000 in
set_option maxHeartbeats 4000000 in
theorem s4_tellPan {xt : Nat × (Nat → Int)} {M : gj_M} {pan a b e : Int} (hp : 0 ≤ pan ∧ pan < 5) (ha : gj_in a) (hb : gj_in b) (he : gj_in e) : gj_F xt Y4_tellPan gS [gR 15, gI pan, gI a, gI b, gI e] M none (gj_u (gj_u (gj_u M 19 pan a) 20 pan b) 21 pan e) := by
  show gj_G _ Y4_tellPan gS 0 0 0 [_, _, _, _, _] [] M _
  refine gj_aload_n 1 dX4_tellPan_0 rfl rfl ?_
  refine gj_getfr 4 dX4_tellPan_1 rfl fl_4_21 rfl rfl ?_
  refine gj_iload_n 5 dX4_tellPan_4 rfl rfl ?_
  refine gj_iload_n 6 dX4_tellPan_5 rfl rfl ?_
  refine gj_iast 7 dX4_tellPan_6 rfl rfl (by omega) (by omega) (by omega) ?_
  refine gj_aload_n 8 dX4_tellPan_7 rfl rfl ?_
  refine gj_getfr 11 dX4_tellPan_8 rfl fl_4_24 rfl rfl ?_
  refine gj_iload_n 12 dX4_tellPan_11 rfl rfl ?_
  refine gj_iload_n 13 dX4_tellPan_12 rfl rfl ?_
  refine gj_iast 14 dX4_tellPan_13 rfl rfl (by omega) (by omega) (by omega) ?_
  refine gj_aload_n 15 dX4_tellPan_14 rfl rfl ?_
  refine gj_getfr 18 dX4_tellPan_15 rfl fl_4_27 rfl rfl ?_
  refine gj_iload_n 19 dX4_tellPan_18 rfl rfl ?_
  refine gj_iload 21 dX4_tellPan_19 rfl rfl ?_
  refine gj_iast 22 dX4_tellPan_21 rfl rfl (by omega) (by omega) (by omega) ?_
  refine gj_vret dX4_tellPan_22 rfl ⟨Nat.zero_le _, Nat.zero_le _⟩ ?_
  exact ⟨rfl, rfl, rfl⟩

set_option maxRecDepth 100000 in
set_option maxHeartbeats 4000000 in
theorem s4_dropSwitch1 {xt : Nat × (Nat → Int)} {M : gj_M} (hs : 1 ≤ M 15 6) : gj_F xt Y4_dropSwitch gS [gR 15] M (some (gI 1)) (gj_u M 15 6 (M 15 6 - 1)) := by
  show gj_G _ Y4_dropSwitch gS 0 0 0 [_] [] M _
  refine gj_aload_n 1 dX4_dropSwitch_0 rfl rfl ?_
  refine gj_getfi 4 dX4_dropSwitch_1 rfl fl_4_54 rfl rfl (fun r_1 => ?_)
  refine gj_iconst 5 dX4_dropSwitch_4 rfl ?_
  refine gj_icmp_ge 10 8 dX4_dropSwitch_5 (by decide) rfl (by omega) (by omega) (fun c_5 => ?_) (fun c_5 => absurd c_5 (by omega))
  refine gj_aload_n 11 dX4_dropSwitch_10 rfl rfl ?_
  refine gj_dup 12 dX4_dropSwitch_11 rfl (fun _ => rfl) ?_
  refine gj_getfi 15 dX4_dropSwitch_12 rfl fl_4_54 rfl rfl (fun r_12 => ?_)
  refine gj_iconst 16 dX4_dropSwitch_15 rfl ?_
  refine gj_isub 17 dX4_dropSwitch_16 rfl ?_
  refine gj_putfi 20 dX4_dropSwitch_17 rfl fw_4_54 rfl rfl (by omega) ?_
  refine gj_iconst 21 dX4_dropSwitch_20 rfl ?_
  refine gj_zret dX4_dropSwitch_21 rfl (by omega) ⟨Nat.zero_le _, Nat.zero_le _⟩ ?_
  exact ⟨rfl, rfl, rfl⟩

set_option maxRecDepth 100000 in
set_option maxHeartbeats 4000000 in
theorem s4_dropSwitch0 {xt : Nat × (Nat → Int)} {M : gj_M} (hs : M 15 6 < 1) : gj_F xt Y4_dropSwitch gS [gR 15] M (some (gI 0)) M := by
  show gj_G _ Y4_dropSwitch gS 0 0 0 [_] [] M _
  refine gj_aload_n 1 dX4_dropSwitch_0 rfl rfl ?_
  refine gj_getfi 4 dX4_dropSwitch_1 rfl fl_4_54 rfl rfl (fun r_1 => ?_)
  refine gj_iconst 5 dX4_dropSwitch_4 rfl ?_
  refine gj_icmp_ge 10 8 dX4_dropSwitch_5 (by decide) rfl (by omega) (by omega) (fun c_5 => absurd c_5 (by omega)) (fun c_5 => ?_)
  refine gj_iconst 9 dX4_dropSwitch_8 rfl ?_
  refine gj_zret dX4_dropSwitch_9 rfl (by omega) ⟨Nat.zero_le _, Nat.zero_le _⟩ ?_
  exact ⟨rfl, rfl, rfl⟩

set_option maxRecDepth 100000 in
set_option maxHeartbeats 4000000 in
theorem s4_addSwitch {xt : Nat × (Nat → Int)} {M : gj_M} {f od : Int} (hs : 0 ≤ M 15 6 ∧ M 15 6 < 4) (hf : gj_in f) (ho : gj_in od) : gj_F xt Y4_addSwitch gS [gR 15, gI f, gI od] M none (gj_u (gj_u (gj_u M 22 (M 15 6) f) 23 (M 15 6) od) 15 6 (M 15 6 + 1)) := by
  show gj_G _ Y4_addSwitch gS 0 0 0 [_, _, _] [] M _
  refine gj_aload_n 1 dX4_addSwitch_0 rfl rfl ?_
  refine gj_getfi 4 dX4_addSwitch_1 rfl fl_4_54 rfl rfl (fun r_1 => ?_)
  refine gj_iconst 5 dX4_addSwitch_4 rfl ?_
  refine gj_icmp_ge 38 8 dX4_addSwitch_5 (by decide) rfl (by omega) (by omega) (fun c_5 => absurd c_5 (by omega)) (fun c_5 => ?_)
  refine gj_aload_n 9 dX4_addSwitch_8 rfl rfl ?_
  refine gj_getfr 12 dX4_addSwitch_9 rfl fl_4_30 rfl rfl ?_
  refine gj_aload_n 13 dX4_addSwitch_12 rfl rfl ?_
  refine gj_getfiE (M 15 6) 16 dX4_addSwitch_13 rfl fl_4_54 rfl rfl rfl (fun r_13 => ?_)
  refine gj_iload_n 17 dX4_addSwitch_16 rfl rfl ?_
  refine gj_iast 18 dX4_addSwitch_17 rfl rfl (by omega) (by omega) (by omega) ?_
  refine gj_aload_n 19 dX4_addSwitch_18 rfl rfl ?_
  refine gj_getfr 22 dX4_addSwitch_19 rfl fl_4_33 rfl rfl ?_
  refine gj_aload_n 23 dX4_addSwitch_22 rfl rfl ?_
  refine gj_getfiE (M 15 6) 26 dX4_addSwitch_23 rfl fl_4_54 rfl rfl rfl (fun r_23 => ?_)
  refine gj_iload_n 27 dX4_addSwitch_26 rfl rfl ?_
  refine gj_iast 28 dX4_addSwitch_27 rfl rfl (by omega) (by omega) (by omega) ?_
  refine gj_aload_n 29 dX4_addSwitch_28 rfl rfl ?_
  refine gj_dup 30 dX4_addSwitch_29 rfl (fun _ => rfl) ?_
  refine gj_getfiE (M 15 6) 33 dX4_addSwitch_30 rfl fl_4_54 rfl rfl rfl (fun r_30 => ?_)
  refine gj_iconst 34 dX4_addSwitch_33 rfl ?_
  refine gj_iadd 35 dX4_addSwitch_34 rfl ?_
  refine gj_putfi 38 dX4_addSwitch_35 rfl fw_4_54 rfl rfl (by omega) ?_
  refine gj_vret dX4_addSwitch_38 rfl ⟨Nat.zero_le _, Nat.zero_le _⟩ ?_
  exact ⟨rfl, rfl, rfl⟩

set_option maxRecDepth 100000 in
set_option maxHeartbeats 4000000 in
theorem s4_switchFor_l {xt : Nat × (Nat → Int)} {M : gj_M} {f : Int} (hs : 0 ≤ M 15 6 ∧ M 15 6 ≤ 4) (hf : gj_in f) : ∀ (n k : Nat), (k : Int) + n = M 15 6 → 0 ≤ M 15 6 → gj_G xt Y4_switchFor gS 0 0 4 [some (gR 15), some (gI f), some (gI (p_sf (M 22) f k)), some (gI (k : Int)), none] [] M (fun r S2 M2 => S2 = gS ∧ r = some (gI (p_sf (M 22) f (M 15 6).toNat)) ∧ M2 = M) := by
  intro n
  induction n with
  | zero =>
    intro k hk h0
    have hb := p_sf_lo (M 22) f k
    refine gj_drop [some (gR 15), some (gI f), some (gI (p_sf (M 22) f k)), some (gI (k : Int)), none] ⟨rfl, rfl, rfl, rfl, trivial⟩ ?_
    refine gj_iload_n 5 dX4_switchFor_4 rfl rfl ?_
    refine gj_aload_n 6 dX4_switchFor_5 rfl rfl ?_
    refine gj_getfi 9 dX4_switchFor_6 rfl fl_4_54 rfl rfl (fun r_6 => ?_)
    refine gj_icmp_ge 61 12 dX4_switchFor_9 (by decide) rfl (by omega) (by omega) (fun c_9 => ?_) (fun c_9 => absurd c_9 (by omega))
    refine gj_iload_n 62 dX4_switchFor_61 rfl rfl ?_
    refine gj_iret dX4_switchFor_62 rfl ⟨Nat.zero_le _, Nat.zero_le _⟩ ?_
    exact ⟨rfl, by rw [show (M 15 6).toNat = k by omega], rfl⟩
  | succ n ih =>
    intro k hk h0
    have hb := p_sf_lo (M 22) f k
    refine gj_drop [some (gR 15), some (gI f), some (gI (p_sf (M 22) f k)), some (gI (k : Int)), none] ⟨rfl, rfl, rfl, rfl, trivial⟩ ?_
    refine gj_iload_n 5 dX4_switchFor_4 rfl rfl ?_
    refine gj_aload_n 6 dX4_switchFor_5 rfl rfl ?_
    refine gj_getfi 9 dX4_switchFor_6 rfl fl_4_54 rfl rfl (fun r_6 => ?_)
    refine gj_icmp_ge 61 12 dX4_switchFor_9 (by decide) rfl (by omega) (by omega) (fun c_9 => absurd c_9 (by omega)) (fun c_9 => ?_)
    refine gj_aload_n 13 dX4_switchFor_12 rfl rfl ?_
    refine gj_getfr 16 dX4_switchFor_13 rfl fl_4_30 rfl rfl ?_
    refine gj_iload_n 17 dX4_switchFor_16 rfl rfl ?_
    refine gj_iald 18 dX4_switchFor_17 rfl rfl (by omega) (by omega) (fun r_17 => ?_)
    refine gj_iload_n 19 dX4_switchFor_18 rfl rfl ?_
    refine gj_icmp_gt 26 22 dX4_switchFor_19 (by decide) rfl (by omega) (by omega) (fun c_19 => ?_) (fun c_19 => ?_)
    · refine gj_iconst 27 dX4_switchFor_26 rfl ?_
      refine gj_istore (lv' := [_, _, _, _, _]) 29 dX4_switchFor_27 rfl (by decide) rfl ?_
      refine gj_iload 31 dX4_switchFor_29 rfl rfl ?_
      refine gj_if_eq 55 34 dX4_switchFor_31 (by decide) rfl (by omega) (fun c_31 => ?_) (fun c_31 => absurd c_31 (by decide))
      refine gj_iinc (b := ((k + 1 : Nat) : Int)) (lv' := [_, _, _, _, _]) 58 dX4_switchFor_55 rfl rfl (by omega) (by decide) rfl ?_
      refine gj_goto 4 dX4_switchFor_58 (by decide) ?_
      have h := ih (k + 1) (by omega) (by omega)
      first
      | (rw [show p_sf (M 22) f (k + 1) = (k : Int) from if_pos (by omega)] at h; exact gj_wk h ⟨rfl, rfl, rfl, rfl, trivial⟩)
      | (rw [show p_sf (M 22) f (k + 1) = p_sf (M 22) f k from if_neg (by omega)] at h; exact gj_wk h ⟨rfl, rfl, rfl, rfl, trivial⟩)
    · refine gj_iconst 23 dX4_switchFor_22 rfl ?_
      refine gj_goto 27 dX4_switchFor_23 (by decide) ?_
      refine gj_istore (lv' := [_, _, _, _, _]) 29 dX4_switchFor_27 rfl (by decide) rfl ?_
      refine gj_iload 31 dX4_switchFor_29 rfl rfl ?_
      refine gj_if_eq 55 34 dX4_switchFor_31 (by decide) rfl (by omega) (fun c_31 => absurd c_31 (by decide)) (fun c_31 => ?_)
      refine gj_iload_n 35 dX4_switchFor_34 rfl rfl ?_
      refine gj_if_lt 53 38 dX4_switchFor_35 (by decide) rfl (by omega) (fun c_35 => ?_) (fun c_35 => ?_)
      · refine gj_iload_n 54 dX4_switchFor_53 rfl rfl ?_
        refine gj_istore_n (lv' := [_, _, _, _, _]) 55 dX4_switchFor_54 rfl (by decide) rfl ?_
        refine gj_iinc (b := ((k + 1 : Nat) : Int)) (lv' := [_, _, _, _, _]) 58 dX4_switchFor_55 rfl rfl (by omega) (by decide) rfl ?_
        refine gj_goto 4 dX4_switchFor_58 (by decide) ?_
        have h := ih (k + 1) (by omega) (by omega)
        first
        | (rw [show p_sf (M 22) f (k + 1) = (k : Int) from if_pos (by omega)] at h; exact gj_wk h ⟨rfl, rfl, rfl, rfl, trivial⟩)
        | (rw [show p_sf (M 22) f (k + 1) = p_sf (M 22) f k from if_neg (by omega)] at h; exact gj_wk h ⟨rfl, rfl, rfl, rfl, trivial⟩)
      · refine gj_aload_n 39 dX4_switchFor_38 rfl rfl ?_
        refine gj_getfr 42 dX4_switchFor_39 rfl fl_4_30 rfl rfl ?_
        refine gj_iload_n 43 dX4_switchFor_42 rfl rfl ?_
        refine gj_iald 44 dX4_switchFor_43 rfl rfl (by omega) (by omega) (fun r_43 => ?_)
        refine gj_aload_n 45 dX4_switchFor_44 rfl rfl ?_
        refine gj_getfr 48 dX4_switchFor_45 rfl fl_4_30 rfl rfl ?_
        refine gj_iload_n 49 dX4_switchFor_48 rfl rfl ?_
        refine gj_iald 50 dX4_switchFor_49 rfl rfl (by omega) (by omega) (fun r_49 => ?_)
        refine gj_icmp_lt 55 53 dX4_switchFor_50 (by decide) rfl (by omega) (by omega) (fun c_50 => ?_) (fun c_50 => ?_)
        · refine gj_iinc (b := ((k + 1 : Nat) : Int)) (lv' := [_, _, _, _, _]) 58 dX4_switchFor_55 rfl rfl (by omega) (by decide) rfl ?_
          refine gj_goto 4 dX4_switchFor_58 (by decide) ?_
          have h := ih (k + 1) (by omega) (by omega)
          first
          | (rw [show p_sf (M 22) f (k + 1) = (k : Int) from if_pos (by omega)] at h; exact gj_wk h ⟨rfl, rfl, rfl, rfl, trivial⟩)
          | (rw [show p_sf (M 22) f (k + 1) = p_sf (M 22) f k from if_neg (by omega)] at h; exact gj_wk h ⟨rfl, rfl, rfl, rfl, trivial⟩)
        · refine gj_iload_n 54 dX4_switchFor_53 rfl rfl ?_
          refine gj_istore_n (lv' := [_, _, _, _, _]) 55 dX4_switchFor_54 rfl (by decide) rfl ?_
          refine gj_iinc (b := ((k + 1 : Nat) : Int)) (lv' := [_, _, _, _, _]) 58 dX4_switchFor_55 rfl rfl (by omega) (by decide) rfl ?_
          refine gj_goto 4 dX4_switchFor_58 (by decide) ?_
          have h := ih (k + 1) (by omega) (by omega)
          first
          | (rw [show p_sf (M 22) f (k + 1) = (k : Int) from if_pos (by omega)] at h; exact gj_wk h ⟨rfl, rfl, rfl, rfl, trivial⟩)
          | (rw [show p_sf (M 22) f (k + 1) = p_sf (M 22) f k from if_neg (by omega)] at h; exact gj_wk h ⟨rfl, rfl, rfl, rfl, trivial⟩)

set_option maxRecDepth 100000 in
set_option maxHeartbeats 4000000 in
theorem s4_switchFor {xt : Nat × (Nat → Int)} {M : gj_M} {f : Int} (hs : 0 ≤ M 15 6 ∧ M 15 6 ≤ 4) (hf : gj_in f) : gj_F xt Y4_switchFor gS [gR 15, gI f] M (some (gI (p_sf (M 22) f (M 15 6).toNat))) M := by
  show gj_G _ Y4_switchFor gS 0 0 0 [_, _, _, _, _] [] M _
  refine gj_iconst 1 dX4_switchFor_0 rfl ?_
  refine gj_istore_n (lv' := [_, _, _, _, _]) 2 dX4_switchFor_1 rfl (by decide) rfl ?_
  refine gj_iconst 3 dX4_switchFor_2 rfl ?_
  refine gj_istore_n (lv' := [_, _, _, _, _]) 4 dX4_switchFor_3 rfl (by decide) rfl ?_
  exact s4_switchFor_l hs hf (M 15 6).toNat 0 (by omega) (by omega)
end
section
set_option maxRecDepth 100000 in
set_option maxHeartbeats 4000000 in
theorem s3_drawingOn {xt : Nat × (Nat → Int)} {M : gj_M} {l f : Int} (hl : 0 ≤ l ∧ l < 4) (hf : 0 ≤ f ∧ f < 48) (hdl : ∀ l : Int, 0 ≤ l → l < 4 → (0 ≤ M 18 l ∧ M 18 l ≤ 9) ∧ 0 ≤ M 13 l ∧ M 13 l ≤ 48)  : gj_F xt Y3_drawingOn gS [gR 9, gI l, gI f] M (some (gI (p_ex (M 18) (M 13) (M 14) l f))) M := by
  show gj_G _ Y3_drawingOn gS 0 0 0 [_, _, _, _] [] M _
  have h1 := hdl l hl.1 hl.2
  refine gj_iload_n 1 dX3_drawingOn_0 rfl rfl ?_
  refine gj_aload_n 2 dX3_drawingOn_1 rfl rfl ?_
  refine gj_getfr 5 dX3_drawingOn_2 rfl fl_3_21 rfl rfl ?_
  refine gj_getfr 8 dX3_drawingOn_5 rfl fl_3_45 rfl rfl ?_
  refine gj_iload_n 9 dX3_drawingOn_8 rfl rfl ?_
  refine gj_iald 10 dX3_drawingOn_9 rfl rfl (by omega) (by omega) (fun r_9 => ?_)
  refine gj_isub 11 dX3_drawingOn_10 rfl ?_
  refine gj_istore_n (lv' := [_, _, _, _]) 12 dX3_drawingOn_11 rfl (by decide) rfl ?_
  refine gj_iload_n 13 dX3_drawingOn_12 rfl rfl ?_
  refine gj_if_lt 29 16 dX3_drawingOn_13 (by decide) rfl (by omega) (fun c_13 => ?_) (fun c_13 => ?_)
  · refine gj_bipush 31 dX3_drawingOn_29 rfl (by decide) ?_
    refine gj_iret dX3_drawingOn_31 rfl ⟨Nat.zero_le _, Nat.zero_le _⟩ ?_
    exact ⟨rfl, by unfold p_ex; rw [if_pos (by omega)], rfl⟩
  · refine gj_iload_n 17 dX3_drawingOn_16 rfl rfl ?_
    refine gj_aload_n 18 dX3_drawingOn_17 rfl rfl ?_
    refine gj_getfr 21 dX3_drawingOn_18 rfl fl_3_12 rfl rfl ?_
    refine gj_getfr 24 dX3_drawingOn_21 rfl fl_3_48 rfl rfl ?_
    refine gj_iload_n 25 dX3_drawingOn_24 rfl rfl ?_
    refine gj_iald 26 dX3_drawingOn_25 rfl rfl (by omega) (by omega) (fun r_25 => ?_)
    refine gj_icmp_lt 32 29 dX3_drawingOn_26 (by decide) rfl (by omega) (by omega) (fun c_26 => ?_) (fun c_26 => ?_)
    · refine gj_aload_n 33 dX3_drawingOn_32 rfl rfl ?_
      refine gj_getfr 36 dX3_drawingOn_33 rfl fl_3_12 rfl rfl ?_
      refine gj_getfr 39 dX3_drawingOn_36 rfl fl_3_51 rfl rfl ?_
      refine gj_iload_n 40 dX3_drawingOn_39 rfl rfl ?_
      refine gj_bipush 42 dX3_drawingOn_40 rfl (by decide) ?_
      refine gj_imul 43 dX3_drawingOn_42 rfl ?_
      refine gj_iload_n 44 dX3_drawingOn_43 rfl rfl ?_
      refine gj_iadd 45 dX3_drawingOn_44 rfl ?_
      refine gj_iald 46 dX3_drawingOn_45 rfl rfl (by omega) (by omega) (fun r_45 => ?_)
      refine gj_iret dX3_drawingOn_46 rfl ⟨Nat.zero_le _, Nat.zero_le _⟩ ?_
      exact ⟨rfl, by unfold p_ex; rw [if_neg (by omega)], rfl⟩
    · refine gj_bipush 31 dX3_drawingOn_29 rfl (by decide) ?_
      refine gj_iret dX3_drawingOn_31 rfl ⟨Nat.zero_le _, Nat.zero_le _⟩ ?_
      exact ⟨rfl, by unfold p_ex; rw [if_pos (by omega)], rfl⟩

set_option maxRecDepth 100000 in
set_option maxHeartbeats 4000000 in
theorem s3_levelInOrder {xt : Nat × (Nat → Int)} {M : gj_M} {od i : Int} (ho : 0 ≤ od ∧ od ≤ 2147483647) (hi : 0 ≤ i ∧ i < 10) (hL : 0 ≤ M 10 1 ∧ M 10 1 ≤ 4)  : gj_F xt Y3_levelInOrder gS [gR 9, gI od, gI i] M (some (gI (p_li (M 10 1) od i))) M := by
  show gj_G _ Y3_levelInOrder gS 0 0 0 [_, _, _, _] [] M _
  refine gj_aload_n 1 dX3_levelInOrder_0 rfl rfl ?_
  refine gj_getfr 4 dX3_levelInOrder_1 rfl fl_3_12 rfl rfl ?_
  refine gj_getfi 7 dX3_levelInOrder_4 rfl fl_3_57 rfl rfl (fun r_4 => ?_)
  refine gj_iconst 8 dX3_levelInOrder_7 rfl ?_
  refine gj_isub 9 dX3_levelInOrder_8 rfl ?_
  refine gj_iload_n 10 dX3_levelInOrder_9 rfl rfl ?_
  refine gj_isub 11 dX3_levelInOrder_10 rfl ?_
  refine gj_istore_n (lv' := [_, _, _, _]) 12 dX3_levelInOrder_11 rfl (by decide) rfl ?_
  refine gj_iload_n 13 dX3_levelInOrder_12 rfl rfl ?_
  refine gj_if_lt 24 16 dX3_levelInOrder_13 (by decide) rfl (by omega) (fun c_13 => ?_) (fun c_13 => ?_)
  · refine gj_iconst 25 dX3_levelInOrder_24 rfl ?_
    refine gj_goto 38 dX3_levelInOrder_25 (by decide) ?_
    refine gj_iret dX3_levelInOrder_38 rfl ⟨Nat.zero_le _, Nat.zero_le _⟩ ?_
    exact ⟨rfl, by unfold p_li; first | rw [if_pos (by omega)] | rw [if_neg (by omega)], rfl⟩
  · refine gj_iload_n 17 dX3_levelInOrder_16 rfl rfl ?_
    refine gj_gets 20 dX3_levelInOrder_17 rfl tn_3_54 ?_
    refine gj_tln 21 dX3_levelInOrder_20 rfl ?_
    refine gj_icmp_lt 28 24 dX3_levelInOrder_21 (by decide) rfl (by omega) (by omega) (fun c_21 => ?_) (fun c_21 => ?_)
    · refine gj_iload_n 29 dX3_levelInOrder_28 rfl rfl ?_
      refine gj_gets 32 dX3_levelInOrder_29 rfl tn_3_54 ?_
      refine gj_iload_n 33 dX3_levelInOrder_32 rfl rfl ?_
      refine gj_tld 34 dX3_levelInOrder_33 rfl (by omega) ?_
      have ht := gj_tens_b (M 10 1 - 1 - i).toNat
      have h7 : 0 ≤ od / gj_tens (M 10 1 - 1 - i).toNat := Int.ediv_nonneg ho.1 (by omega)
      have h8 : od / gj_tens (M 10 1 - 1 - i).toNat ≤ od := Int.ediv_le_self _ ho.1
      refine gj_idiv 35 dX3_levelInOrder_34 rfl (by omega) (by omega) ?_
      refine gj_bipush 37 dX3_levelInOrder_35 rfl (by decide) ?_
      refine gj_irem 38 dX3_levelInOrder_37 rfl (by omega) (by omega) ?_
      refine gj_iret dX3_levelInOrder_38 rfl ⟨Nat.zero_le _, Nat.zero_le _⟩ ?_
      exact ⟨rfl, by unfold p_li; first | rw [if_pos (by omega)] | rw [if_neg (by omega)], rfl⟩
    · refine gj_iconst 25 dX3_levelInOrder_24 rfl ?_
      refine gj_goto 38 dX3_levelInOrder_25 (by decide) ?_
      refine gj_iret dX3_levelInOrder_38 rfl ⟨Nat.zero_le _, Nat.zero_le _⟩ ?_
      exact ⟨rfl, by unfold p_li; first | rw [if_pos (by omega)] | rw [if_neg (by omega)], rfl⟩

set_option maxRecDepth 100000 in
set_option maxHeartbeats 4000000 in
theorem s3_orderAt_l {xt : Nat × (Nat → Int)} {M : gj_M} {f s : Int} (hL : 0 ≤ M 10 1 ∧ M 10 1 ≤ 4)  : ∀ (n k : Nat), (k : Int) + n = M 10 1 → gj_G xt Y3_orderAt gS 0 0 28 [some (gR 9), some (gI f), some (gI s), some (gI (p_fo k)), some (gI (k : Int))] [] M (fun r S2 M2 => S2 = gS ∧ r = some (gI (p_fo (M 10 1).toNat)) ∧ M2 = M) := by
  intro n
  induction n with
  | zero =>
    intro k hk
    refine gj_iload 30 dX3_orderAt_28 rfl rfl ?_
    refine gj_aload_n 31 dX3_orderAt_30 rfl rfl ?_
    refine gj_getfr 34 dX3_orderAt_31 rfl fl_3_12 rfl rfl ?_
    refine gj_getfi 37 dX3_orderAt_34 rfl fl_3_57 rfl rfl (fun r_34 => ?_)
    refine gj_icmp_ge 54 40 dX3_orderAt_37 (by decide) rfl (by omega) (by omega) (fun c_37 => ?_) (fun c_37 => absurd c_37 (by omega))
    refine gj_iload_n 55 dX3_orderAt_54 rfl rfl ?_
    refine gj_iret dX3_orderAt_55 rfl ⟨Nat.zero_le _, Nat.zero_le _⟩ ?_
    exact ⟨rfl, by rw [show (M 10 1).toNat = k by omega], rfl⟩
  | succ n ih =>
    intro k hk
    refine gj_iload 30 dX3_orderAt_28 rfl rfl ?_
    refine gj_aload_n 31 dX3_orderAt_30 rfl rfl ?_
    refine gj_getfr 34 dX3_orderAt_31 rfl fl_3_12 rfl rfl ?_
    refine gj_getfi 37 dX3_orderAt_34 rfl fl_3_57 rfl rfl (fun r_34 => ?_)
    refine gj_icmp_ge 54 40 dX3_orderAt_37 (by decide) rfl (by omega) (by omega) (fun c_37 => absurd c_37 (by omega)) (fun c_37 => ?_)
    refine gj_iload_n 41 dX3_orderAt_40 rfl rfl ?_
    refine gj_bipush 43 dX3_orderAt_41 rfl (by decide) ?_
    refine gj_imul 44 dX3_orderAt_43 rfl ?_
    refine gj_iload 46 dX3_orderAt_44 rfl rfl ?_
    refine gj_iadd 47 dX3_orderAt_46 rfl ?_
    refine gj_istore_n (lv' := [_, _, _, _, _]) 48 dX3_orderAt_47 rfl (by decide) rfl ?_
    refine gj_iinc (b := ((k + 1 : Nat) : Int)) (lv' := [_, _, _, _, _]) 51 dX3_orderAt_48 rfl rfl (by omega) (by decide) rfl ?_
    refine gj_goto 28 dX3_orderAt_51 (by decide) ?_
    exact gj_wk (ih (k + 1) (by omega)) ⟨rfl, rfl, rfl, rfl, rfl, trivial⟩

set_option maxRecDepth 100000 in
set_option maxHeartbeats 4000000 in
theorem s3_orderAt {xt : Nat × (Nat → Int)} {M : gj_M} {f : Int} (hf : 0 ≤ f ∧ f < 48) (hL : 0 ≤ M 10 1 ∧ M 10 1 ≤ 4) (hsw : 0 ≤ M 15 6 ∧ M 15 6 ≤ 4)  : gj_F xt Y3_orderAt gS [gR 9, gI f] M (some (gI (p_or (M 10 1) (M 15 6) (M 22) (M 23) f))) M := by
  show gj_G _ Y3_orderAt gS 0 0 0 [_, _, _, _, _] [] M _
  have hb := p_sf_lo (M 22) f (M 15 6).toNat
  refine gj_aload_n 1 dX3_orderAt_0 rfl rfl ?_
  refine gj_getfr 4 dX3_orderAt_1 rfl fl_3_21 rfl rfl ?_
  refine gj_iload_n 5 dX3_orderAt_4 rfl rfl ?_
  refine gj_fV 8 dX3_orderAt_5 rfl ok_4_switchFor ml_3_65 iv_4_switchFor (As := [gI _]) rfl rfl rfl rfl (Nat.le_of_ble_eq_true rfl) ⟨Nat.le_of_ble_eq_true rfl, Nat.le_of_ble_eq_true rfl⟩ (Nat.le_of_ble_eq_true rfl) ⟨rfl, rfl⟩ ⟨Nat.zero_le _, Nat.zero_le _⟩ (s4_switchFor (by omega) (by omega)) ?_
  refine gj_istore_n (lv' := [_, _, _, _, _]) 9 dX3_orderAt_8 rfl (by decide) rfl ?_
  refine gj_iload_n 10 dX3_orderAt_9 rfl rfl ?_
  refine gj_if_lt 23 13 dX3_orderAt_10 (by decide) rfl (by omega) (fun c_10 => ?_) (fun c_10 => ?_)
  · refine gj_iconst 24 dX3_orderAt_23 rfl ?_
    refine gj_istore_n (lv' := [_, _, _, _, _]) 25 dX3_orderAt_24 rfl (by decide) rfl ?_
    refine gj_iconst 26 dX3_orderAt_25 rfl ?_
    refine gj_istore (lv' := [_, _, _, _, _]) 28 dX3_orderAt_26 rfl (by decide) rfl ?_
    have e : p_or (M 10 1) (M 15 6) (M 22) (M 23) f = p_fo (M 10 1).toNat := if_neg (by omega)
    rw [e]
    exact s3_orderAt_l hL (M 10 1).toNat 0 (by omega)
  · refine gj_aload_n 14 dX3_orderAt_13 rfl rfl ?_
    refine gj_getfr 17 dX3_orderAt_14 rfl fl_3_21 rfl rfl ?_
    refine gj_getfr 20 dX3_orderAt_17 rfl fl_3_69 rfl rfl ?_
    refine gj_iload_n 21 dX3_orderAt_20 rfl rfl ?_
    refine gj_iald 22 dX3_orderAt_21 rfl rfl (by omega) (by omega) (fun r_21 => ?_)
    refine gj_iret dX3_orderAt_22 rfl ⟨Nat.zero_le _, Nat.zero_le _⟩ ?_
    exact ⟨rfl, by unfold p_or; rw [if_pos (by omega)], rfl⟩

set_option maxRecDepth 100000 in
set_option maxHeartbeats 4000000 in
theorem s3_covers {xt : Nat × (Nat → Int)} {M : gj_M} {l d f c : Int} (hl : 0 ≤ d → d < M 10 0 → 0 ≤ l ∧ l < 5) (hd : gj_in d) (hf : 0 ≤ f ∧ f < 48) (hc : 0 ≤ c ∧ c < 10) (hD : 0 ≤ M 10 0 ∧ M 10 0 ≤ 6) (hpn : ∀ q : Int, 0 ≤ q → q < 5 → (-9 ≤ M 19 q ∧ M 19 q ≤ 9) ∧ (-3 ≤ M 20 q ∧ M 20 q ≤ 3) ∧ 1 ≤ M 21 q ∧ M 21 q ≤ 9) (hxw : ∀ d : Int, 0 ≤ d → d < 6 → (0 ≤ M 16 d ∧ M 16 d ≤ 9) ∧ 0 ≤ M 17 d ∧ M 17 d ≤ 5)  : gj_F xt Y3_covers gS [gR 9, gI l, gI d, gI f, gI c] M (some (gI (p_cw (M 10 0) (M 16) (M 17) (M 19) (M 20) (M 21) l d f c))) M := by
  show gj_G _ Y3_covers gS 0 0 0 [_, _, _, _, _, _, _] [] M _
  refine gj_iload_n 1 dX3_covers_0 rfl rfl ?_
  refine gj_if_lt 15 4 dX3_covers_1 (by decide) rfl (by omega) (fun c_1 => ?_) (fun c_1 => ?_)
  · refine gj_iconst 16 dX3_covers_15 rfl ?_
    refine gj_zret dX3_covers_16 rfl (by omega) ⟨Nat.zero_le _, Nat.zero_le _⟩ ?_
    exact ⟨rfl, by unfold p_cw; rw [if_neg (by omega)], rfl⟩
  · refine gj_iload_n 5 dX3_covers_4 rfl rfl ?_
    refine gj_aload_n 6 dX3_covers_5 rfl rfl ?_
    refine gj_getfr 9 dX3_covers_6 rfl fl_3_12 rfl rfl ?_
    refine gj_getfi 12 dX3_covers_9 rfl fl_3_72 rfl rfl (fun r_9 => ?_)
    refine gj_icmp_lt 17 15 dX3_covers_12 (by decide) rfl (by omega) (by omega) (fun c_12 => ?_) (fun c_12 => ?_)
    · have hl2 := hl (by omega) (by omega)
      have x1 := hpn l hl2.1 hl2.2
      have x2 := hpn 4 (by omega) (by omega)
      have b1 := p_pan_b hf x1.1 x1.2.1 x1.2.2
      have b2 := p_pan_b hf x2.1 x2.2.1 x2.2.2
      have x3 := hxw d (by omega) (by omega)
      refine gj_aload_n 18 dX3_covers_17 rfl rfl ?_
      refine gj_getfr 21 dX3_covers_18 rfl fl_3_21 rfl rfl ?_
      refine gj_getfr 24 dX3_covers_21 rfl fl_3_75 rfl rfl ?_
      refine gj_iload_n 25 dX3_covers_24 rfl rfl ?_
      refine gj_iald 26 dX3_covers_25 rfl rfl (by omega) (by omega) (fun r_25 => ?_)
      refine gj_aload_n 27 dX3_covers_26 rfl rfl ?_
      refine gj_getfr 30 dX3_covers_27 rfl fl_3_21 rfl rfl ?_
      refine gj_iload_n 31 dX3_covers_30 rfl rfl ?_
      refine gj_iload_n 32 dX3_covers_31 rfl rfl ?_
      refine gj_fV 35 dX3_covers_32 rfl ok_4_panAt ml_3_78 iv_4_panAt (As := [gI _, gI _]) rfl rfl rfl rfl (Nat.le_of_ble_eq_true rfl) ⟨Nat.le_of_ble_eq_true rfl, Nat.le_of_ble_eq_true rfl⟩ (Nat.le_of_ble_eq_true rfl) ⟨rfl, rfl⟩ ⟨Nat.zero_le _, Nat.zero_le _⟩ (s4_panAt (by omega) (by omega)) ?_
      refine gj_iadd 36 dX3_covers_35 rfl ?_
      refine gj_istore (lv' := [_, _, _, _, _, _, _]) 38 dX3_covers_36 rfl (by decide) rfl ?_
      refine gj_iload 40 dX3_covers_38 rfl rfl ?_
      refine gj_aload_n 41 dX3_covers_40 rfl rfl ?_
      refine gj_getfr 44 dX3_covers_41 rfl fl_3_21 rfl rfl ?_
      refine gj_iconst 45 dX3_covers_44 rfl ?_
      refine gj_iload_n 46 dX3_covers_45 rfl rfl ?_
      refine gj_fV 49 dX3_covers_46 rfl ok_4_panAt ml_3_78 iv_4_panAt (As := [gI _, gI _]) rfl rfl rfl rfl (Nat.le_of_ble_eq_true rfl) ⟨Nat.le_of_ble_eq_true rfl, Nat.le_of_ble_eq_true rfl⟩ (Nat.le_of_ble_eq_true rfl) ⟨rfl, rfl⟩ ⟨Nat.zero_le _, Nat.zero_le _⟩ (s4_panAt (by omega) (by omega)) ?_
      refine gj_iadd 50 dX3_covers_49 rfl ?_
      refine gj_istore (lv' := [_, _, _, _, _, _, _]) 52 dX3_covers_50 rfl (by decide) rfl ?_
      refine gj_iload 54 dX3_covers_52 rfl rfl ?_
      refine gj_iload 56 dX3_covers_54 rfl rfl ?_
      refine gj_icmp_lt 80 59 dX3_covers_56 (by decide) rfl (by omega) (by omega) (fun c_56 => ?_) (fun c_56 => ?_)
      · refine gj_iconst 81 dX3_covers_80 rfl ?_
        refine gj_zret dX3_covers_81 rfl (by omega) ⟨Nat.zero_le _, Nat.zero_le _⟩ ?_
        exact ⟨rfl, by unfold p_cw; first | rw [if_pos (by omega)] | rw [if_neg (by omega)], rfl⟩
      · refine gj_iload 61 dX3_covers_59 rfl rfl ?_
        refine gj_iload 63 dX3_covers_61 rfl rfl ?_
        refine gj_aload_n 64 dX3_covers_63 rfl rfl ?_
        refine gj_getfr 67 dX3_covers_64 rfl fl_3_21 rfl rfl ?_
        refine gj_getfr 70 dX3_covers_67 rfl fl_3_81 rfl rfl ?_
        refine gj_iload_n 71 dX3_covers_70 rfl rfl ?_
        refine gj_iald 72 dX3_covers_71 rfl rfl (by omega) (by omega) (fun r_71 => ?_)
        refine gj_iadd 73 dX3_covers_72 rfl ?_
        refine gj_icmp_ge 80 76 dX3_covers_73 (by decide) rfl (by omega) (by omega) (fun c_73 => ?_) (fun c_73 => ?_)
        · refine gj_iconst 81 dX3_covers_80 rfl ?_
          refine gj_zret dX3_covers_81 rfl (by omega) ⟨Nat.zero_le _, Nat.zero_le _⟩ ?_
          exact ⟨rfl, by unfold p_cw; first | rw [if_pos (by omega)] | rw [if_neg (by omega)], rfl⟩
        · refine gj_iconst 77 dX3_covers_76 rfl ?_
          refine gj_goto 81 dX3_covers_77 (by decide) ?_
          refine gj_zret dX3_covers_81 rfl (by omega) ⟨Nat.zero_le _, Nat.zero_le _⟩ ?_
          exact ⟨rfl, by unfold p_cw; first | rw [if_pos (by omega)] | rw [if_neg (by omega)], rfl⟩
    · refine gj_iconst 16 dX3_covers_15 rfl ?_
      refine gj_zret dX3_covers_16 rfl (by omega) ⟨Nat.zero_le _, Nat.zero_le _⟩ ?_
      exact ⟨rfl, by unfold p_cw; rw [if_neg (by omega)], rfl⟩

set_option maxRecDepth 100000 in
set_option maxHeartbeats 4000000 in
theorem s3_levelCovers {xt : Nat × (Nat → Int)} {M : gj_M} {l f c : Int} (hl : 0 ≤ l ∧ l < 4) (hf : 0 ≤ f ∧ f < 48) (hc : 0 ≤ c ∧ c < 10) (hD : 0 ≤ M 10 0 ∧ M 10 0 ≤ 6) (hdl : ∀ l : Int, 0 ≤ l → l < 4 → (0 ≤ M 18 l ∧ M 18 l ≤ 9) ∧ 0 ≤ M 13 l ∧ M 13 l ≤ 48) (hpn : ∀ q : Int, 0 ≤ q → q < 5 → (-9 ≤ M 19 q ∧ M 19 q ≤ 9) ∧ (-3 ≤ M 20 q ∧ M 20 q ≤ 3) ∧ 1 ≤ M 21 q ∧ M 21 q ≤ 9) (hxw : ∀ d : Int, 0 ≤ d → d < 6 → (0 ≤ M 16 d ∧ M 16 d ≤ 9) ∧ 0 ≤ M 17 d ∧ M 17 d ≤ 5)  : gj_F xt Y3_levelCovers gS [gR 9, gI l, gI f, gI c] M (some (gI (p_cw (M 10 0) (M 16) (M 17) (M 19) (M 20) (M 21) l (p_ex (M 18) (M 13) (M 14) l f) f c))) M := by
  show gj_G _ Y3_levelCovers gS 0 0 0 [_, _, _, _] [] M _
  refine gj_rg (fun hR => ?_)
  have hx := p_ex_in (dl := M 18) (lg := M 13) (hR 14 (by decide)) l f
  refine gj_aload_n 1 dX3_levelCovers_0 rfl rfl ?_
  refine gj_iload_n 2 dX3_levelCovers_1 rfl rfl ?_
  refine gj_aload_n 3 dX3_levelCovers_2 rfl rfl ?_
  refine gj_iload_n 4 dX3_levelCovers_3 rfl rfl ?_
  refine gj_iload_n 5 dX3_levelCovers_4 rfl rfl ?_
  refine gj_fV 8 dX3_levelCovers_5 rfl ok_3_drawingOn ml_3_84 iv_3_drawingOn (As := [gI _, gI _]) rfl rfl rfl rfl (Nat.le_of_ble_eq_true rfl) ⟨Nat.le_of_ble_eq_true rfl, Nat.le_of_ble_eq_true rfl⟩ (Nat.le_of_ble_eq_true rfl) ⟨rfl, rfl⟩ ⟨Nat.zero_le _, Nat.zero_le _⟩ (s3_drawingOn hl hf hdl) ?_
  refine gj_iload_n 9 dX3_levelCovers_8 rfl rfl ?_
  refine gj_iload_n 10 dX3_levelCovers_9 rfl rfl ?_
  refine gj_fV 13 dX3_levelCovers_10 rfl ok_3_covers ml_3_87 iv_3_covers (As := [gI _, gI _, gI _, gI _]) rfl rfl rfl rfl (Nat.le_of_ble_eq_true rfl) ⟨Nat.le_of_ble_eq_true rfl, Nat.le_of_ble_eq_true rfl⟩ (Nat.le_of_ble_eq_true rfl) ⟨rfl, rfl⟩ ⟨Nat.zero_le _, Nat.zero_le _⟩ (s3_covers (fun _ _ => by omega) (by omega) hf hc hD hpn hxw) ?_
  refine gj_zret dX3_levelCovers_13 rfl (p_cw_01 _ _ _ _ _ _ _ _ _ _) ⟨Nat.zero_le _, Nat.zero_le _⟩ ?_
  exact ⟨rfl, rfl, rfl⟩

set_option maxRecDepth 100000 in
set_option maxHeartbeats 4000000 in
theorem s3_seenAt_l {xt : Nat × (Nat → Int)} {M : gj_M} {f c rub : Int} (hf : 0 ≤ f ∧ f < 48) (hc : 0 ≤ c ∧ c < 10) (hr : gj_in rub) (hL : 0 ≤ M 10 1 ∧ M 10 1 ≤ 4) (hD : 0 ≤ M 10 0 ∧ M 10 0 ≤ 6) (hdl : ∀ l : Int, 0 ≤ l → l < 4 → (0 ≤ M 18 l ∧ M 18 l ≤ 9) ∧ 0 ≤ M 13 l ∧ M 13 l ≤ 48) (hpn : ∀ q : Int, 0 ≤ q → q < 5 → (-9 ≤ M 19 q ∧ M 19 q ≤ 9) ∧ (-3 ≤ M 20 q ∧ M 20 q ≤ 3) ∧ 1 ≤ M 21 q ∧ M 21 q ≤ 9) (hxw : ∀ d : Int, 0 ≤ d → d < 6 → (0 ≤ M 16 d ∧ M 16 d ≤ 9) ∧ 0 ≤ M 17 d ∧ M 17 d ≤ 5) (ho : 0 ≤ (p_or (M 10 1) (M 15 6) (M 22) (M 23) f) ∧ (p_or (M 10 1) (M 15 6) (M 22) (M 23) f) ≤ 9999) (hdg : ∀ i : Int, 0 ≤ i → i < M 10 1 → p_li (M 10 1) (p_or (M 10 1) (M 15 6) (M 22) (M 23) f) i < M 10 1) : ∀ (n k : Nat), (k : Int) + n = M 10 1 → gj_G xt Y3_seenAt gS 0 0 10 [some (gR 9), some (gI f), some (gI c), some (gI rub), some (gI (p_or (M 10 1) (M 15 6) (M 22) (M 23) f)), some (gI (k : Int)), none, none] [] M (fun r S2 M2 => S2 = gS ∧ r = some (gI (p_first (p_va (M 10 1) (M 10 0) (p_or (M 10 1) (M 15 6) (M 22) (M 23) f) (M 18) (M 13) (M 14) (M 16) (M 17) (M 19) (M 20) (M 21) f c rub) n k)) ∧ M2 = M) := by
  intro n
  induction n with
  | zero =>
    intro k hk
    refine gj_iload 12 dX3_seenAt_10 rfl rfl ?_
    refine gj_aload_n 13 dX3_seenAt_12 rfl rfl ?_
    refine gj_getfr 16 dX3_seenAt_13 rfl fl_3_12 rfl rfl ?_
    refine gj_getfi 19 dX3_seenAt_16 rfl fl_3_57 rfl rfl (fun r_16 => ?_)
    refine gj_icmp_ge 92 22 dX3_seenAt_19 (by decide) rfl (by omega) (by omega) (fun c_19 => ?_) (fun c_19 => absurd c_19 (by omega))
    refine gj_bipush 94 dX3_seenAt_92 rfl (by decide) ?_
    refine gj_iret dX3_seenAt_94 rfl ⟨Nat.zero_le _, Nat.zero_le _⟩ ?_
    exact ⟨rfl, rfl, rfl⟩
  | succ n ih =>
    intro k hk
    refine gj_iload 12 dX3_seenAt_10 rfl rfl ?_
    refine gj_aload_n 13 dX3_seenAt_12 rfl rfl ?_
    refine gj_getfr 16 dX3_seenAt_13 rfl fl_3_12 rfl rfl ?_
    refine gj_getfi 19 dX3_seenAt_16 rfl fl_3_57 rfl rfl (fun r_16 => ?_)
    refine gj_icmp_ge 92 22 dX3_seenAt_19 (by decide) rfl (by omega) (by omega) (fun c_19 => absurd c_19 (by omega)) (fun c_19 => ?_)
    refine gj_rg (fun hR => ?_)
    have hx := p_ex_in (dl := M 18) (lg := M 13) (hR 14 (by decide)) (p_li (M 10 1) (p_or (M 10 1) (M 15 6) (M 22) (M 23) f) k) f
    have hb := p_li_b (L := M 10 1) (i := (k : Int)) ho.1
    have hg := hdg k (by omega)
    have h01 := p_cw_01 (M 10 0) (M 16) (M 17) (M 19) (M 20) (M 21) (p_li (M 10 1) (p_or (M 10 1) (M 15 6) (M 22) (M 23) f) k) (p_ex (M 18) (M 13) (M 14) (p_li (M 10 1) (p_or (M 10 1) (M 15 6) (M 22) (M 23) f) k) f) f c
    refine gj_aload_n 23 dX3_seenAt_22 rfl rfl ?_
    refine gj_iload 25 dX3_seenAt_23 rfl rfl ?_
    refine gj_iload 27 dX3_seenAt_25 rfl rfl ?_
    refine gj_fV 30 dX3_seenAt_27 rfl ok_3_levelInOrder ml_3_61 iv_3_levelInOrder (As := [gI _, gI _]) rfl rfl rfl rfl (Nat.le_of_ble_eq_true rfl) ⟨Nat.le_of_ble_eq_true rfl, Nat.le_of_ble_eq_true rfl⟩ (Nat.le_of_ble_eq_true rfl) ⟨rfl, rfl⟩ ⟨Nat.zero_le _, Nat.zero_le _⟩ (s3_levelInOrder (by omega) (by omega) hL) ?_
    refine gj_istore (lv' := [_, _, _, _, _, _, _, _]) 32 dX3_seenAt_30 rfl (by decide) rfl ?_
    refine gj_iload 34 dX3_seenAt_32 rfl rfl ?_
    refine gj_aload_n 35 dX3_seenAt_34 rfl rfl ?_
    refine gj_getfr 38 dX3_seenAt_35 rfl fl_3_12 rfl rfl ?_
    refine gj_getfi 41 dX3_seenAt_38 rfl fl_3_57 rfl rfl (fun r_38 => ?_)
    refine gj_icmp_ge 54 44 dX3_seenAt_41 (by decide) rfl (by omega) (by omega) (fun c_41 => absurd c_41 (by omega)) (fun c_41 => ?_)
    refine gj_aload_n 45 dX3_seenAt_44 rfl rfl ?_
    refine gj_iload 47 dX3_seenAt_45 rfl rfl ?_
    refine gj_iload_n 48 dX3_seenAt_47 rfl rfl ?_
    refine gj_fV 51 dX3_seenAt_48 rfl ok_3_drawingOn ml_3_84 iv_3_drawingOn (As := [gI _, gI _]) rfl rfl rfl rfl (Nat.le_of_ble_eq_true rfl) ⟨Nat.le_of_ble_eq_true rfl, Nat.le_of_ble_eq_true rfl⟩ (Nat.le_of_ble_eq_true rfl) ⟨rfl, rfl⟩ ⟨Nat.zero_le _, Nat.zero_le _⟩ (s3_drawingOn (by omega) hf hdl) ?_
    refine gj_goto 56 dX3_seenAt_51 (by decide) ?_
    refine gj_istore (lv' := [_, _, _, _, _, _, _, _]) 58 dX3_seenAt_56 rfl (by decide) rfl ?_
    refine gj_iload 60 dX3_seenAt_58 rfl rfl ?_
    refine gj_iload_n 61 dX3_seenAt_60 rfl rfl ?_
    refine gj_icmp_eq 86 64 dX3_seenAt_61 (by decide) rfl (by omega) (by omega) (fun c_61 => ?_) (fun c_61 => ?_)
    · refine gj_iinc (b := ((k + 1 : Nat) : Int)) (lv' := [_, _, _, _, _, _, _, _]) 89 dX3_seenAt_86 rfl rfl (by omega) (by decide) rfl ?_
      refine gj_goto 10 dX3_seenAt_89 (by decide) ?_
      have e : p_va (M 10 1) (M 10 0) (p_or (M 10 1) (M 15 6) (M 22) (M 23) f) (M 18) (M 13) (M 14) (M 16) (M 17) (M 19) (M 20) (M 21) f c rub k = -9 := if_neg (by omega)
      rw [p_first_go e]
      exact gj_wk (ih (k + 1) (by omega)) ⟨rfl, rfl, rfl, rfl, rfl, rfl, trivial⟩
    · refine gj_aload_n 65 dX3_seenAt_64 rfl rfl ?_
      refine gj_iload 67 dX3_seenAt_65 rfl rfl ?_
      refine gj_iload 69 dX3_seenAt_67 rfl rfl ?_
      refine gj_iload_n 70 dX3_seenAt_69 rfl rfl ?_
      refine gj_iload_n 71 dX3_seenAt_70 rfl rfl ?_
      refine gj_fV 74 dX3_seenAt_71 rfl ok_3_covers ml_3_87 iv_3_covers (As := [gI _, gI _, gI _, gI _]) rfl rfl rfl rfl (Nat.le_of_ble_eq_true rfl) ⟨Nat.le_of_ble_eq_true rfl, Nat.le_of_ble_eq_true rfl⟩ (Nat.le_of_ble_eq_true rfl) ⟨rfl, rfl⟩ ⟨Nat.zero_le _, Nat.zero_le _⟩ (s3_covers (fun _ _ => by omega) (by omega) hf hc hD hpn hxw) ?_
      refine gj_if_eq 86 77 dX3_seenAt_74 (by decide) rfl (by omega) (fun c_74 => ?_) (fun c_74 => ?_)
      · refine gj_iinc (b := ((k + 1 : Nat) : Int)) (lv' := [_, _, _, _, _, _, _, _]) 89 dX3_seenAt_86 rfl rfl (by omega) (by decide) rfl ?_
        refine gj_goto 10 dX3_seenAt_89 (by decide) ?_
        have e : p_va (M 10 1) (M 10 0) (p_or (M 10 1) (M 15 6) (M 22) (M 23) f) (M 18) (M 13) (M 14) (M 16) (M 17) (M 19) (M 20) (M 21) f c rub k = -9 := if_neg (by omega)
        rw [p_first_go e]
        exact gj_wk (ih (k + 1) (by omega)) ⟨rfl, rfl, rfl, rfl, rfl, rfl, trivial⟩
      · refine gj_bipush 79 dX3_seenAt_77 rfl (by decide) ?_
        refine gj_iload 81 dX3_seenAt_79 rfl rfl ?_
        refine gj_imul 82 dX3_seenAt_81 rfl ?_
        refine gj_iload 84 dX3_seenAt_82 rfl rfl ?_
        refine gj_iadd 85 dX3_seenAt_84 rfl ?_
        refine gj_iret dX3_seenAt_85 rfl ⟨Nat.zero_le _, Nat.zero_le _⟩ ?_
        have e : p_va (M 10 1) (M 10 0) (p_or (M 10 1) (M 15 6) (M 22) (M 23) f) (M 18) (M 13) (M 14) (M 16) (M 17) (M 19) (M 20) (M 21) f c rub k = 10 * p_li (M 10 1) (p_or (M 10 1) (M 15 6) (M 22) (M 23) f) k + p_ex (M 18) (M 13) (M 14) (p_li (M 10 1) (p_or (M 10 1) (M 15 6) (M 22) (M 23) f) k) f := if_pos (by omega)
        refine ⟨rfl, ?_, rfl⟩
        rw [p_first_stop (by rw [e]; have h3 := h01; unfold p_cw at h3 c_74; split at c_74 <;> omega), e]

set_option maxRecDepth 100000 in
set_option maxHeartbeats 4000000 in
theorem s3_seenAt {xt : Nat × (Nat → Int)} {M : gj_M} {f c rub : Int} (hf : 0 ≤ f ∧ f < 48) (hc : 0 ≤ c ∧ c < 10) (hr : gj_in rub) (hL : 0 ≤ M 10 1 ∧ M 10 1 ≤ 4) (hD : 0 ≤ M 10 0 ∧ M 10 0 ≤ 6) (hdl : ∀ l : Int, 0 ≤ l → l < 4 → (0 ≤ M 18 l ∧ M 18 l ≤ 9) ∧ 0 ≤ M 13 l ∧ M 13 l ≤ 48) (hpn : ∀ q : Int, 0 ≤ q → q < 5 → (-9 ≤ M 19 q ∧ M 19 q ≤ 9) ∧ (-3 ≤ M 20 q ∧ M 20 q ≤ 3) ∧ 1 ≤ M 21 q ∧ M 21 q ≤ 9) (hxw : ∀ d : Int, 0 ≤ d → d < 6 → (0 ≤ M 16 d ∧ M 16 d ≤ 9) ∧ 0 ≤ M 17 d ∧ M 17 d ≤ 5) (ho : 0 ≤ (p_or (M 10 1) (M 15 6) (M 22) (M 23) f) ∧ (p_or (M 10 1) (M 15 6) (M 22) (M 23) f) ≤ 9999) (hdg : ∀ i : Int, 0 ≤ i → i < M 10 1 → p_li (M 10 1) (p_or (M 10 1) (M 15 6) (M 22) (M 23) f) i < M 10 1) (hsw : 0 ≤ M 15 6 ∧ M 15 6 ≤ 4)  : gj_F xt Y3_seenAt gS [gR 9, gI f, gI c, gI rub] M (some (gI (p_first (p_va (M 10 1) (M 10 0) (p_or (M 10 1) (M 15 6) (M 22) (M 23) f) (M 18) (M 13) (M 14) (M 16) (M 17) (M 19) (M 20) (M 21) f c rub) (M 10 1).toNat 0))) M := by
  show gj_G _ Y3_seenAt gS 0 0 0 [_, _, _, _, _, _, _, _] [] M _
  refine gj_aload_n 1 dX3_seenAt_0 rfl rfl ?_
  refine gj_iload_n 2 dX3_seenAt_1 rfl rfl ?_
  refine gj_fV 5 dX3_seenAt_2 rfl ok_3_orderAt ml_3_91 iv_3_orderAt (As := [gI _]) rfl rfl rfl rfl (Nat.le_of_ble_eq_true rfl) ⟨Nat.le_of_ble_eq_true rfl, Nat.le_of_ble_eq_true rfl⟩ (Nat.le_of_ble_eq_true rfl) ⟨rfl, rfl⟩ ⟨Nat.zero_le _, Nat.zero_le _⟩ (s3_orderAt hf hL hsw) ?_
  refine gj_istore (lv' := [_, _, _, _, _, _, _, _]) 7 dX3_seenAt_5 rfl (by decide) rfl ?_
  refine gj_iconst 8 dX3_seenAt_7 rfl ?_
  refine gj_istore (lv' := [_, _, _, _, _, _, _, _]) 10 dX3_seenAt_8 rfl (by decide) rfl ?_
  exact gj_wk (s3_seenAt_l hf hc hr hL hD hdl hpn hxw ho hdg (M 10 1).toNat 0 (by omega)) ⟨rfl, rfl, rfl, rfl, rfl, rfl, trivial⟩

set_option maxRecDepth 100000 in
set_option maxHeartbeats 4000000 in
theorem s3_levelsCovering_l {xt : Nat × (Nat → Int)} {M : gj_M} {f c : Int} (hf : 0 ≤ f ∧ f < 48) (hc : 0 ≤ c ∧ c < 10) (hL : 0 ≤ M 10 1 ∧ M 10 1 ≤ 4) (hD : 0 ≤ M 10 0 ∧ M 10 0 ≤ 6) (hdl : ∀ l : Int, 0 ≤ l → l < 4 → (0 ≤ M 18 l ∧ M 18 l ≤ 9) ∧ 0 ≤ M 13 l ∧ M 13 l ≤ 48) (hpn : ∀ q : Int, 0 ≤ q → q < 5 → (-9 ≤ M 19 q ∧ M 19 q ≤ 9) ∧ (-3 ≤ M 20 q ∧ M 20 q ≤ 3) ∧ 1 ≤ M 21 q ∧ M 21 q ≤ 9) (hxw : ∀ d : Int, 0 ≤ d → d < 6 → (0 ≤ M 16 d ∧ M 16 d ≤ 9) ∧ 0 ≤ M 17 d ∧ M 17 d ≤ 5)  : ∀ (n k : Nat), (k : Int) + n = M 10 1 → gj_G xt Y3_levelsCovering gS 0 0 5 [some (gR 9), some (gI f), some (gI c), some (gI (p_sum (fun l : Nat => p_cw (M 10 0) (M 16) (M 17) (M 19) (M 20) (M 21) l (p_ex (M 18) (M 13) (M 14) l f) f c) k)), some (gI (k : Int))] [] M (fun r S2 M2 => S2 = gS ∧ r = some (gI (p_sum (fun l : Nat => p_cw (M 10 0) (M 16) (M 17) (M 19) (M 20) (M 21) l (p_ex (M 18) (M 13) (M 14) l f) f c) (M 10 1).toNat)) ∧ M2 = M) := by
  intro n
  induction n with
  | zero =>
    intro k hk
    refine gj_iload 7 dX3_levelsCovering_5 rfl rfl ?_
    refine gj_aload_n 8 dX3_levelsCovering_7 rfl rfl ?_
    refine gj_getfr 11 dX3_levelsCovering_8 rfl fl_3_12 rfl rfl ?_
    refine gj_getfi 14 dX3_levelsCovering_11 rfl fl_3_57 rfl rfl (fun r_11 => ?_)
    refine gj_icmp_ge 37 17 dX3_levelsCovering_14 (by decide) rfl (by omega) (by omega) (fun c_14 => ?_) (fun c_14 => absurd c_14 (by omega))
    refine gj_iload_n 38 dX3_levelsCovering_37 rfl rfl ?_
    refine gj_iret dX3_levelsCovering_38 rfl ⟨Nat.zero_le _, Nat.zero_le _⟩ ?_
    exact ⟨rfl, by rw [show (M 10 1).toNat = k by omega], rfl⟩
  | succ n ih =>
    intro k hk
    refine gj_iload 7 dX3_levelsCovering_5 rfl rfl ?_
    refine gj_aload_n 8 dX3_levelsCovering_7 rfl rfl ?_
    refine gj_getfr 11 dX3_levelsCovering_8 rfl fl_3_12 rfl rfl ?_
    refine gj_getfi 14 dX3_levelsCovering_11 rfl fl_3_57 rfl rfl (fun r_11 => ?_)
    refine gj_icmp_ge 37 17 dX3_levelsCovering_14 (by decide) rfl (by omega) (by omega) (fun c_14 => absurd c_14 (by omega)) (fun c_14 => ?_)
    refine gj_aload_n 18 dX3_levelsCovering_17 rfl rfl ?_
    refine gj_iload 20 dX3_levelsCovering_18 rfl rfl ?_
    refine gj_iload_n 21 dX3_levelsCovering_20 rfl rfl ?_
    refine gj_iload_n 22 dX3_levelsCovering_21 rfl rfl ?_
    have h01 := p_cw_01 (M 10 0) (M 16) (M 17) (M 19) (M 20) (M 21) k (p_ex (M 18) (M 13) (M 14) k f) f c
    refine gj_fV 25 dX3_levelsCovering_22 rfl ok_3_levelCovers ml_3_94 iv_3_levelCovers (As := [gI _, gI _, gI _]) rfl rfl rfl rfl (Nat.le_of_ble_eq_true rfl) ⟨Nat.le_of_ble_eq_true rfl, Nat.le_of_ble_eq_true rfl⟩ (Nat.le_of_ble_eq_true rfl) ⟨rfl, rfl⟩ ⟨Nat.zero_le _, Nat.zero_le _⟩ (s3_levelCovers (by omega) hf hc hD hdl hpn hxw) ?_
    refine gj_if_eq 31 28 dX3_levelsCovering_25 (by decide) rfl (by omega) (fun c_25 => ?_) (fun c_25 => ?_)
    · refine gj_iinc (b := ((k + 1 : Nat) : Int)) (lv' := [_, _, _, _, _]) 34 dX3_levelsCovering_31 rfl rfl (by omega) (by decide) rfl ?_
      refine gj_goto 5 dX3_levelsCovering_34 (by decide) ?_
      have h := ih (k + 1) (by omega)
      have h01 := p_cw_01 (M 10 0) (M 16) (M 17) (M 19) (M 20) (M 21) k (p_ex (M 18) (M 13) (M 14) k f) f c
      first
      | (rw [show p_sum (fun l : Nat => p_cw (M 10 0) (M 16) (M 17) (M 19) (M 20) (M 21) l (p_ex (M 18) (M 13) (M 14) l f) f c) (k + 1) = p_sum (fun l : Nat => p_cw (M 10 0) (M 16) (M 17) (M 19) (M 20) (M 21) l (p_ex (M 18) (M 13) (M 14) l f) f c) k + 1 by show p_sum (fun l : Nat => p_cw (M 10 0) (M 16) (M 17) (M 19) (M 20) (M 21) l (p_ex (M 18) (M 13) (M 14) l f) f c) k + p_cw (M 10 0) (M 16) (M 17) (M 19) (M 20) (M 21) k (p_ex (M 18) (M 13) (M 14) k f) f c = _; omega] at h; exact gj_wk h ⟨rfl, rfl, rfl, rfl, rfl, trivial⟩)
      | (rw [show p_sum (fun l : Nat => p_cw (M 10 0) (M 16) (M 17) (M 19) (M 20) (M 21) l (p_ex (M 18) (M 13) (M 14) l f) f c) (k + 1) = p_sum (fun l : Nat => p_cw (M 10 0) (M 16) (M 17) (M 19) (M 20) (M 21) l (p_ex (M 18) (M 13) (M 14) l f) f c) k by show p_sum (fun l : Nat => p_cw (M 10 0) (M 16) (M 17) (M 19) (M 20) (M 21) l (p_ex (M 18) (M 13) (M 14) l f) f c) k + p_cw (M 10 0) (M 16) (M 17) (M 19) (M 20) (M 21) k (p_ex (M 18) (M 13) (M 14) k f) f c = _; omega] at h; exact gj_wk h ⟨rfl, rfl, rfl, rfl, rfl, trivial⟩)
    · refine gj_iinc (lv' := [_, _, _, _, _]) 31 dX3_levelsCovering_28 rfl rfl rfl (by decide) rfl ?_
      refine gj_iinc (b := ((k + 1 : Nat) : Int)) (lv' := [_, _, _, _, _]) 34 dX3_levelsCovering_31 rfl rfl (by omega) (by decide) rfl ?_
      refine gj_goto 5 dX3_levelsCovering_34 (by decide) ?_
      have h := ih (k + 1) (by omega)
      have h01 := p_cw_01 (M 10 0) (M 16) (M 17) (M 19) (M 20) (M 21) k (p_ex (M 18) (M 13) (M 14) k f) f c
      first
      | (rw [show p_sum (fun l : Nat => p_cw (M 10 0) (M 16) (M 17) (M 19) (M 20) (M 21) l (p_ex (M 18) (M 13) (M 14) l f) f c) (k + 1) = p_sum (fun l : Nat => p_cw (M 10 0) (M 16) (M 17) (M 19) (M 20) (M 21) l (p_ex (M 18) (M 13) (M 14) l f) f c) k + 1 by show p_sum (fun l : Nat => p_cw (M 10 0) (M 16) (M 17) (M 19) (M 20) (M 21) l (p_ex (M 18) (M 13) (M 14) l f) f c) k + p_cw (M 10 0) (M 16) (M 17) (M 19) (M 20) (M 21) k (p_ex (M 18) (M 13) (M 14) k f) f c = _; omega] at h; exact gj_wk h ⟨rfl, rfl, rfl, rfl, rfl, trivial⟩)
      | (rw [show p_sum (fun l : Nat => p_cw (M 10 0) (M 16) (M 17) (M 19) (M 20) (M 21) l (p_ex (M 18) (M 13) (M 14) l f) f c) (k + 1) = p_sum (fun l : Nat => p_cw (M 10 0) (M 16) (M 17) (M 19) (M 20) (M 21) l (p_ex (M 18) (M 13) (M 14) l f) f c) k by show p_sum (fun l : Nat => p_cw (M 10 0) (M 16) (M 17) (M 19) (M 20) (M 21) l (p_ex (M 18) (M 13) (M 14) l f) f c) k + p_cw (M 10 0) (M 16) (M 17) (M 19) (M 20) (M 21) k (p_ex (M 18) (M 13) (M 14) k f) f c = _; omega] at h; exact gj_wk h ⟨rfl, rfl, rfl, rfl, rfl, trivial⟩)

set_option maxRecDepth 100000 in
set_option maxHeartbeats 4000000 in
theorem s3_levelsCovering {xt : Nat × (Nat → Int)} {M : gj_M} {f c : Int} (hf : 0 ≤ f ∧ f < 48) (hc : 0 ≤ c ∧ c < 10) (hL : 0 ≤ M 10 1 ∧ M 10 1 ≤ 4) (hD : 0 ≤ M 10 0 ∧ M 10 0 ≤ 6) (hdl : ∀ l : Int, 0 ≤ l → l < 4 → (0 ≤ M 18 l ∧ M 18 l ≤ 9) ∧ 0 ≤ M 13 l ∧ M 13 l ≤ 48) (hpn : ∀ q : Int, 0 ≤ q → q < 5 → (-9 ≤ M 19 q ∧ M 19 q ≤ 9) ∧ (-3 ≤ M 20 q ∧ M 20 q ≤ 3) ∧ 1 ≤ M 21 q ∧ M 21 q ≤ 9) (hxw : ∀ d : Int, 0 ≤ d → d < 6 → (0 ≤ M 16 d ∧ M 16 d ≤ 9) ∧ 0 ≤ M 17 d ∧ M 17 d ≤ 5)  : gj_F xt Y3_levelsCovering gS [gR 9, gI f, gI c] M (some (gI (p_sum (fun l : Nat => p_cw (M 10 0) (M 16) (M 17) (M 19) (M 20) (M 21) l (p_ex (M 18) (M 13) (M 14) l f) f c) (M 10 1).toNat))) M := by
  show gj_G _ Y3_levelsCovering gS 0 0 0 [_, _, _, _, _] [] M _
  refine gj_iconst 1 dX3_levelsCovering_0 rfl ?_
  refine gj_istore_n (lv' := [_, _, _, _, _]) 2 dX3_levelsCovering_1 rfl (by decide) rfl ?_
  refine gj_iconst 3 dX3_levelsCovering_2 rfl ?_
  refine gj_istore (lv' := [_, _, _, _, _]) 5 dX3_levelsCovering_3 rfl (by decide) rfl ?_
  exact gj_wk (s3_levelsCovering_l hf hc hL hD hdl hpn hxw (M 10 1).toNat 0 (by omega)) ⟨rfl, rfl, rfl, rfl, rfl, trivial⟩
end
section
/-! the class's state, as its questions need it -/
def c_ord (M : gj_M) (f : Int) : Int := p_or (M 10 1) (M 15 6) (M 22) (M 23) f
def c_ex (M : gj_M) (l f : Int) : Int := p_ex (M 18) (M 13) (M 14) l f
def c_cw (M : gj_M) (l f c : Int) : Int := p_cw (M 10 0) (M 16) (M 17) (M 19) (M 20) (M 21) l (p_ex (M 18) (M 13) (M 14) l f) f c
def c_seen (M : gj_M) (f c rub : Int) : Int := p_first (p_va (M 10 1) (M 10 0) (c_ord M f) (M 18) (M 13) (M 14) (M 16) (M 17) (M 19) (M 20) (M 21) f c rub) (M 10 1).toNat 0
def c_lc (M : gj_M) (f c : Int) : Int := p_sum (fun l : Nat => c_cw M l f c) (M 10 1).toNat
/-- of the places of an order each holds a level, and each level has its place -/
def p_od (L o : Int) : Prop := (0 ≤ o ∧ o ≤ 9999) ∧ (∀ i : Int, 0 ≤ i → i < L → p_li L o i < L) ∧ ∀ l : Int, 0 ≤ l → l < L → ∃ i : Int, 0 ≤ i ∧ i < L ∧ p_li L o i = l
def c_I (M : gj_M) : Prop := (0 ≤ M 10 1 ∧ M 10 1 ≤ 4) ∧ (0 ≤ M 10 0 ∧ M 10 0 ≤ 6) ∧ (0 ≤ M 15 6 ∧ M 15 6 ≤ 4) ∧
  (∀ l : Int, 0 ≤ l → l < 4 → (0 ≤ M 18 l ∧ M 18 l ≤ 9) ∧ 0 ≤ M 13 l ∧ M 13 l ≤ 48) ∧
  (∀ q : Int, 0 ≤ q → q < 5 → (-9 ≤ M 19 q ∧ M 19 q ≤ 9) ∧ (-3 ≤ M 20 q ∧ M 20 q ≤ 3) ∧ 1 ≤ M 21 q ∧ M 21 q ≤ 9) ∧
  (∀ d : Int, 0 ≤ d → d < 6 → (0 ≤ M 16 d ∧ M 16 d ≤ 9) ∧ 0 ≤ M 17 d ∧ M 17 d ≤ 5) ∧
  (∀ k : Int, 0 ≤ k → k < M 15 6 → (0 ≤ M 22 k ∧ M 22 k ≤ 47) ∧ p_od (M 10 1) (M 23 k)) ∧
  (∀ l g : Int, 0 ≤ l → l < M 10 1 → 0 ≤ g → g < M 13 l → M 14 (l * 48 + g) = -9 ∨ (0 ≤ M 14 (l * 48 + g) ∧ M 14 (l * 48 + g) < M 10 0))
def c_hs : List Nat := [10, 13, 14, 15, 16, 17, 18, 19, 20, 21, 22, 23]
def c_eq (M M1 : gj_M) : Prop := ∀ h ∈ c_hs, M1 h = M h
theorem c_eq.of {hs : List Nat} {M M1 : gj_M} (h : gj_E hs M M1) (hd : c_hs.all (fun x => !(hs.contains x)) = true) : c_eq M M1 := by
  intro x hx
  funext i
  refine h x (fun q => ?_) i
  have := List.all_eq_true.mp hd x hx
  simp only [Bool.not_eq_true', List.contains_eq_mem, decide_eq_false_iff_not] at this
  exact this q
theorem c_eq.I {M M1 : gj_M} (h : c_eq M M1) (hI : c_I M) : c_I M1 := by
  unfold c_I at hI ⊢
  rw [h 10 (by decide), h 13 (by decide), h 14 (by decide), h 15 (by decide), h 16 (by decide), h 17 (by decide), h 18 (by decide), h 19 (by decide), h 20 (by decide), h 21 (by decide), h 22 (by decide), h 23 (by decide)]
  exact hI
theorem c_eq.ord {M M1 : gj_M} (h : c_eq M M1) (f : Int) : c_ord M1 f = c_ord M f := by
  unfold c_ord
  rw [h 10 (by decide), h 15 (by decide), h 22 (by decide), h 23 (by decide)]
theorem c_eq.ex {M M1 : gj_M} (h : c_eq M M1) (l f : Int) : c_ex M1 l f = c_ex M l f := by
  unfold c_ex
  rw [h 18 (by decide), h 13 (by decide), h 14 (by decide)]
theorem c_eq.cw {M M1 : gj_M} (h : c_eq M M1) (l f c : Int) : c_cw M1 l f c = c_cw M l f c := by
  unfold c_cw
  rw [h 10 (by decide), h 16 (by decide), h 17 (by decide), h 19 (by decide), h 20 (by decide), h 21 (by decide), h 18 (by decide), h 13 (by decide), h 14 (by decide)]
theorem c_eq.seen {M M1 : gj_M} (h : c_eq M M1) (f c rub : Int) : c_seen M1 f c rub = c_seen M f c rub := by
  unfold c_seen
  rw [h.ord, h 10 (by decide), h 16 (by decide), h 17 (by decide), h 19 (by decide), h 20 (by decide), h 21 (by decide), h 18 (by decide), h 13 (by decide), h 14 (by decide)]
theorem p_fo_od {L : Int} (h : 0 ≤ L ∧ L ≤ 4) : p_od L (p_fo L.toNat) := by
  have h2 : L = 0 ∨ L = 1 ∨ L = 2 ∨ L = 3 ∨ L = 4 := by omega
  have key : ∀ n : Nat, n ≤ 4 → (0 ≤ p_fo n ∧ p_fo n ≤ 9999) ∧ ∀ i : Nat, i < n → p_li n (p_fo n) i = i := by decide
  obtain ⟨n, rfl⟩ := Int.eq_ofNat_of_zero_le h.1
  have hk := key n (by omega)
  simp only [Int.toNat_natCast]
  refine ⟨hk.1, fun i h0 hi => ?_, fun l h0 hl => ⟨l, h0, hl, ?_⟩⟩
  · obtain ⟨j, rfl⟩ := Int.eq_ofNat_of_zero_le h0
    rw [hk.2 j (by omega)]
    exact hi
  · obtain ⟨j, rfl⟩ := Int.eq_ofNat_of_zero_le h0
    exact hk.2 j (by omega)
theorem c_I.od {M : gj_M} (hI : c_I M) (f : Int) : p_od (M 10 1) (c_ord M f) := by
  unfold c_ord p_or
  have hb := p_sf_lo (M 22) f (M 15 6).toNat
  split
  · exact (hI.2.2.2.2.2.2.1 _ (by omega) (by omega)).2
  · exact p_fo_od hI.1
theorem t3_orderAt {xt : Nat × (Nat → Int)} {M : gj_M} {f : Int} (hI : c_I M) (hf : 0 ≤ f ∧ f < 48) : gj_F xt Y3_orderAt gS [gR 9, gI f] M (some (gI (c_ord M f))) M := s3_orderAt hf hI.1 hI.2.2.1
theorem t3_drawingOn {xt : Nat × (Nat → Int)} {M : gj_M} {l f : Int} (hI : c_I M) (hl : 0 ≤ l ∧ l < 4) (hf : 0 ≤ f ∧ f < 48) : gj_F xt Y3_drawingOn gS [gR 9, gI l, gI f] M (some (gI (c_ex M l f))) M := s3_drawingOn hl hf hI.2.2.2.1
theorem t3_levelCovers {xt : Nat × (Nat → Int)} {M : gj_M} {l f c : Int} (hI : c_I M) (hl : 0 ≤ l ∧ l < 4) (hf : 0 ≤ f ∧ f < 48) (hc : 0 ≤ c ∧ c < 10) : gj_F xt Y3_levelCovers gS [gR 9, gI l, gI f, gI c] M (some (gI (c_cw M l f c))) M := s3_levelCovers hl hf hc hI.2.1 hI.2.2.2.1 hI.2.2.2.2.1 hI.2.2.2.2.2.1
theorem t3_seenAt {xt : Nat × (Nat → Int)} {M : gj_M} {f c rub : Int} (hI : c_I M) (hf : 0 ≤ f ∧ f < 48) (hc : 0 ≤ c ∧ c < 10) (hr : gj_in rub) : gj_F xt Y3_seenAt gS [gR 9, gI f, gI c, gI rub] M (some (gI (c_seen M f c rub))) M := s3_seenAt hf hc hr hI.1 hI.2.1 hI.2.2.2.1 hI.2.2.2.2.1 hI.2.2.2.2.2.1 (hI.od f).1 (hI.od f).2.1 hI.2.2.1
theorem t3_levelsCovering {xt : Nat × (Nat → Int)} {M : gj_M} {f c : Int} (hI : c_I M) (hf : 0 ≤ f ∧ f < 48) (hc : 0 ≤ c ∧ c < 10) : gj_F xt Y3_levelsCovering gS [gR 9, gI f, gI c] M (some (gI (c_lc M f c))) M := s3_levelsCovering hf hc hI.1 hI.2.1 hI.2.2.2.1 hI.2.2.2.2.1 hI.2.2.2.2.2.1
theorem c_cw_01 (M : gj_M) (l f c : Int) : c_cw M l f c = 0 ∨ c_cw M l f c = 1 := p_cw_01 _ _ _ _ _ _ _ _ _ _
theorem p_sum_b {g : Nat → Int} {m : Int} : ∀ n : Nat, (∀ i, i < n → 0 ≤ g i ∧ g i ≤ m) → 0 ≤ p_sum g n ∧ p_sum g n ≤ m * n := by
  intro n
  induction n with
  | zero => intro _; simp [p_sum]
  | succ n ih =>
    intro h
    have h1 := ih (fun i hi => h i (by omega))
    have h2 := h n (by omega)
    simp only [p_sum]
    have e : m * ((n + 1 : Nat) : Int) = m * n + m := by push_cast; rw [Int.mul_add, Int.mul_one]
    rw [e]
    omega
theorem c_lc_b {M : gj_M} (hI : c_I M) (f c : Int) : 0 ≤ c_lc M f c ∧ c_lc M f c ≤ 4 := by
  have h1 := p_sum_b (g := fun l : Nat => c_cw M l f c) (m := 1) (M 10 1).toNat (fun i _ => by have := c_cw_01 M i f c; omega)
  have h2 := hI.1
  unfold c_lc
  omega
theorem c_seen_in {M : gj_M} (hI : c_I M) (f c rub : Int) : c_seen M f c rub = -9 ∨ (0 ≤ c_seen M f c rub ∧ c_seen M f c rub ≤ 35) := by
  unfold c_seen
  have hod := hI.od f
  have hL := hI.1
  have hD := hI.2.1
  have key : ∀ (n i : Nat), (i : Int) + n = M 10 1 → p_first (p_va (M 10 1) (M 10 0) (c_ord M f) (M 18) (M 13) (M 14) (M 16) (M 17) (M 19) (M 20) (M 21) f c rub) n i = -9 ∨ (0 ≤ p_first (p_va (M 10 1) (M 10 0) (c_ord M f) (M 18) (M 13) (M 14) (M 16) (M 17) (M 19) (M 20) (M 21) f c rub) n i ∧ p_first (p_va (M 10 1) (M 10 0) (c_ord M f) (M 18) (M 13) (M 14) (M 16) (M 17) (M 19) (M 20) (M 21) f c rub) n i ≤ 35) := by
    intro n
    induction n with
    | zero => intro i _; exact Or.inl rfl
    | succ n ih =>
      intro i hi
      simp only [p_first]
      split
      · exact ih (i + 1) (by omega)
      · have h1 := hod.2.1 i (by omega) (by omega)
        have h2 := p_li_b (L := M 10 1) (i := (i : Int)) hod.1.1
        unfold p_va
        split
        · next hh =>
          have h3 := hh.2
          unfold p_cw at h3
          split at h3
          · next h4 => right; omega
          · omega
        · exact Or.inl rfl
  exact key (M 10 1).toNat 0 (by omega)
end
section
def p_clr (M : gj_M) (h : Nat) : Nat → gj_M
  | 0 => M
  | n + 1 => gj_u (p_clr M h n) h n 0
theorem p_clr_o {M : gj_M} {h h' : Nat} (hne : h' ≠ h) (i : Int) : ∀ n, p_clr M h n h' i = M h' i := by
  intro n
  induction n with
  | zero => rfl
  | succ n ih => simp only [p_clr]; rw [gj_u_o hne, ih]
theorem p_clr_i {M : gj_M} {h : Nat} {i : Int} : ∀ n : Nat, 0 ≤ i → i < n → p_clr M h n h i = 0 := by
  intro n
  induction n with
  | zero => intro h0 h1; omega
  | succ n ih =>
    intro h0 h1
    simp only [p_clr]
    by_cases q : i = n
    · rw [q]; exact gj_u_s
    · rw [gj_u_i q]; exact ih h0 (by omega)
def p_ct (M : gj_M) (d : Int) : gj_M := if 0 ≤ d ∧ d < 6 then gj_u (gj_u M 33 d (M 33 d + 1)) 34 d (max (M 34 d) (M 33 d + 1)) else M
/-- how many levels have a drawing exposed at a frame; the most over the first frames -/
def p_cn (ex : Int → Int → Int) (L : Nat) (d : Int) (f : Nat) : Int := p_sum (fun l : Nat => if ex l f = d then 1 else 0) L
def p_mo (ex : Int → Int → Int) (L : Nat) (d : Int) : Nat → Int
  | 0 => 0
  | n + 1 => max (p_mo ex L d n) (p_cn ex L d n)
theorem p_cn_b (ex : Int → Int → Int) (L : Nat) (d : Int) (f : Nat) : 0 ≤ p_cn ex L d f ∧ p_cn ex L d f ≤ L := by
  have := p_sum_b (g := fun l : Nat => if ex l f = d then (1 : Int) else 0) (m := 1) L (fun i _ => by split <;> omega)
  unfold p_cn
  omega
theorem p_mo_b (ex : Int → Int → Int) (L : Nat) (d : Int) : ∀ n, 0 ≤ p_mo ex L d n ∧ p_mo ex L d n ≤ L := by
  intro n
  induction n with
  | zero => simp [p_mo]
  | succ n ih =>
    have := p_cn_b ex L d n
    simp only [p_mo]
    omega
def p_cels (ex : Int → Int → Int) (L D : Nat) : Int := p_sum (fun d : Nat => p_mo ex L d 48) D
def c_mo (M : gj_M) (d : Int) : Int := p_mo (c_ex M) (M 10 1).toNat d 48
def c_cels (M : gj_M) : Int := p_cels (c_ex M) (M 10 1).toNat (M 10 0).toNat
/-- differs what is seen: 1 or 0 -/
def p_df (s t : Nat → Int) : Nat → Int
  | 0 => 0
  | n + 1 => if p_df s t n ≠ 0 ∨ s n ≠ t n then 1 else 0
theorem p_df_01 (s t : Nat → Int) : ∀ n, p_df s t n = 0 ∨ p_df s t n = 1 := by
  intro n
  cases n with
  | zero => exact Or.inl rfl
  | succ n => simp only [p_df]; split <;> simp
def c_chg (M : gj_M) : Nat → Int
  | 0 => 0
  | n + 1 => c_chg M n + p_df (fun c : Nat => c_seen M ((n : Int) + 1) c (-1)) (fun c : Nat => c_seen M n c (-1)) 10
theorem c_eq.mo {M M1 : gj_M} (h : c_eq M M1) (d : Int) : c_mo M1 d = c_mo M d := by
  unfold c_mo
  have e : c_ex M1 = c_ex M := by funext l f; exact h.ex l f
  rw [e, h 10 (by decide)]
theorem c_eq.cels {M M1 : gj_M} (h : c_eq M M1) : c_cels M1 = c_cels M := by
  unfold c_cels
  have e : c_ex M1 = c_ex M := by funext l f; exact h.ex l f
  rw [e, h 10 (by decide)]
def c_sh (M : gj_M) (l : Int) (f c : Nat) : Int := if c_cw M l f c = 1 then 12 / c_lc M f c else 0
def c_share (M : gj_M) (l : Int) : Int := p_sum (fun f => p_sum (fun c => c_sh M l f c) 10) 24
end
section
set_option maxRecDepth 100000 in
set_option maxHeartbeats 4000000 in
theorem s3_clear_l {xt : Nat × (Nat → Int)} {M : gj_M} {h : Nat} (hs : gS[h]? = some (.inr (false, 6)))  : ∀ (n k : Nat), (k : Int) + n = 6 → gj_G xt Y3_clearDrawings gS 0 0 2 [some (gR h), some (gI (k : Int))] [] (p_clr M h k) (fun r S2 M2 => S2 = gS ∧ r = none ∧ M2 = p_clr M h 6) := by
  intro n
  induction n with
  | zero =>
    intro k hk
    refine gj_iload_n 3 dX3_clearDrawings_2 rfl rfl ?_
    refine gj_aload_n 4 dX3_clearDrawings_3 rfl rfl ?_
    refine gj_alen (z := 6) 5 dX3_clearDrawings_4 rfl hs rfl ?_
    refine gj_icmp_ge 18 8 dX3_clearDrawings_5 (by decide) rfl (by omega) (by omega) (fun c_5 => ?_) (fun c_5 => absurd c_5 (by omega))
    refine gj_vret dX3_clearDrawings_18 rfl ⟨Nat.zero_le _, Nat.zero_le _⟩ ?_
    exact ⟨rfl, rfl, by rw [show k = 6 by omega]⟩
  | succ n ih =>
    intro k hk
    refine gj_iload_n 3 dX3_clearDrawings_2 rfl rfl ?_
    refine gj_aload_n 4 dX3_clearDrawings_3 rfl rfl ?_
    refine gj_alen (z := 6) 5 dX3_clearDrawings_4 rfl hs rfl ?_
    refine gj_icmp_ge 18 8 dX3_clearDrawings_5 (by decide) rfl (by omega) (by omega) (fun c_5 => absurd c_5 (by omega)) (fun c_5 => ?_)
    refine gj_aload_n 9 dX3_clearDrawings_8 rfl rfl ?_
    refine gj_iload_n 10 dX3_clearDrawings_9 rfl rfl ?_
    refine gj_iconst 11 dX3_clearDrawings_10 rfl ?_
    refine gj_iast 12 dX3_clearDrawings_11 rfl hs (by omega) (by omega) (by omega) ?_
    refine gj_iinc (b := ((k + 1 : Nat) : Int)) (lv' := [_, _]) 15 dX3_clearDrawings_12 rfl rfl (by omega) (by decide) rfl ?_
    refine gj_goto 2 dX3_clearDrawings_15 (by decide) ?_
    exact gj_wk (ih (k + 1) (by omega)) ⟨rfl, rfl, trivial⟩

set_option maxRecDepth 100000 in
set_option maxHeartbeats 4000000 in
theorem s3_clear {xt : Nat × (Nat → Int)} {M : gj_M} {h : Nat} (hs : gS[h]? = some (.inr (false, 6))) : gj_F xt Y3_clearDrawings gS [gR h] M none (p_clr M h 6) := by
  show gj_G _ Y3_clearDrawings gS 0 0 0 [_, _] [] M _
  refine gj_iconst 1 dX3_clearDrawings_0 rfl ?_
  refine gj_istore_n (lv' := [_, _]) 2 dX3_clearDrawings_1 rfl (by decide) rfl ?_
  exact gj_wk (s3_clear_l hs 6 0 (by omega)) ⟨rfl, rfl, trivial⟩

set_option maxRecDepth 100000 in
set_option maxHeartbeats 4000000 in
theorem s3_countDrawing {xt : Nat × (Nat → Int)} {M : gj_M} {d : Int} (hd : gj_in d) (hb : 0 ≤ d → d < 6 → 0 ≤ M 33 d ∧ M 33 d ≤ 100) : gj_F xt Y3_countDrawing gS [gR 9, gI d] M none (p_ct M d) := by
  show gj_G _ Y3_countDrawing gS 0 0 0 [_, _] [] M _
  refine gj_iload_n 1 dX3_countDrawing_0 rfl rfl ?_
  refine gj_if_lt 41 4 dX3_countDrawing_1 (by decide) rfl (by omega) (fun c_1 => ?_) (fun c_1 => ?_)
  · refine gj_vret dX3_countDrawing_41 rfl ⟨Nat.zero_le _, Nat.zero_le _⟩ ?_
    exact ⟨rfl, rfl, by unfold p_ct; first | rw [if_pos (by omega)] | rw [if_neg (by omega)]⟩
  · refine gj_iload_n 5 dX3_countDrawing_4 rfl rfl ?_
    refine gj_bipush 7 dX3_countDrawing_5 rfl (by decide) ?_
    refine gj_icmp_ge 41 10 dX3_countDrawing_7 (by decide) rfl (by omega) (by omega) (fun c_7 => ?_) (fun c_7 => ?_)
    · refine gj_vret dX3_countDrawing_41 rfl ⟨Nat.zero_le _, Nat.zero_le _⟩ ?_
      exact ⟨rfl, rfl, by unfold p_ct; first | rw [if_pos (by omega)] | rw [if_neg (by omega)]⟩
    · have hb2 := hb (by omega) (by omega)
      refine gj_aload_n 11 dX3_countDrawing_10 rfl rfl ?_
      refine gj_getfr 14 dX3_countDrawing_11 rfl fl_3_39 rfl rfl ?_
      refine gj_iload_n 15 dX3_countDrawing_14 rfl rfl ?_
      refine gj_dup2 16 dX3_countDrawing_15 rfl (fun _ => rfl) (fun _ => rfl) ?_
      refine gj_iald 17 dX3_countDrawing_16 rfl rfl (by omega) (by omega) (fun r_16 => ?_)
      refine gj_iconst 18 dX3_countDrawing_17 rfl ?_
      refine gj_iadd 19 dX3_countDrawing_18 rfl ?_
      refine gj_iast 20 dX3_countDrawing_19 rfl rfl (by omega) (by omega) (by omega) ?_
      refine gj_aload_n 21 dX3_countDrawing_20 rfl rfl ?_
      refine gj_getfr 24 dX3_countDrawing_21 rfl fl_3_42 rfl rfl ?_
      refine gj_iload_n 25 dX3_countDrawing_24 rfl rfl ?_
      refine gj_aload_n 26 dX3_countDrawing_25 rfl rfl ?_
      refine gj_getfr 29 dX3_countDrawing_26 rfl fl_3_42 rfl rfl ?_
      refine gj_iload_n 30 dX3_countDrawing_29 rfl rfl ?_
      refine gj_ialdE (M 34 d) 31 dX3_countDrawing_30 rfl rfl (by omega) (by omega) rfl (fun r_30 => ?_)
      refine gj_aload_n 32 dX3_countDrawing_31 rfl rfl ?_
      refine gj_getfr 35 dX3_countDrawing_32 rfl fl_3_39 rfl rfl ?_
      refine gj_iload_n 36 dX3_countDrawing_35 rfl rfl ?_
      refine gj_ialdE (M 33 d + 1) 37 dX3_countDrawing_36 rfl rfl (by omega) (by omega) gj_u_s (fun r_36 => ?_)
      refine gj_max 40 dX3_countDrawing_37 rfl ml_3_117 (by omega) (by omega) (by decide) (Nat.le_of_ble_eq_true rfl) ⟨Nat.zero_le _, Nat.zero_le _⟩ ?_
      refine gj_iast 41 dX3_countDrawing_40 rfl rfl (by omega) (by omega) (by omega) ?_
      refine gj_vret dX3_countDrawing_41 rfl ⟨Nat.zero_le _, Nat.zero_le _⟩ ?_
      exact ⟨rfl, rfl, by unfold p_ct; first | rw [if_pos (by omega)] | rw [if_neg (by omega)]⟩

set_option maxRecDepth 100000 in
set_option maxHeartbeats 4000000 in
theorem s3_findMost_i {xt : Nat × (Nat → Int)} {M : gj_M} {Q : Option gj_V → List gj_H → gj_M → Prop} (hI : c_I M) (f : Nat) (hf : f < 48) (kk : ∀ M1, gj_E [33, 34] M M1 → (∀ d : Int, 0 ≤ d → d < 6 → M1 34 d = p_mo (c_ex M) (M 10 1).toNat d (f + 1)) → gj_G xt Y3_findMost gS 0 0 51 [some (gR 9), some (gI (f : Int)), some (gI (((M 10 1).toNat : Nat) : Int))] [] M1 Q) : ∀ (n k : Nat) (M1 : gj_M), (k : Int) + n = M 10 1 → gj_E [33, 34] M M1 → (∀ d : Int, 0 ≤ d → d < 6 → M1 33 d = p_sum (fun l : Nat => if c_ex M l f = d then 1 else 0) k ∧ M1 34 d = max (p_mo (c_ex M) (M 10 1).toNat d f) (p_sum (fun l : Nat => if c_ex M l f = d then 1 else 0) k)) → gj_G xt Y3_findMost gS 0 0 24 [some (gR 9), some (gI (f : Int)), some (gI (k : Int))] [] M1 Q := by
  intro n
  induction n with
  | zero =>
    intro k M1 hk hE hd
    have hkL : ((M 10 1).toNat : Nat) = k := by omega
    rw [hkL] at kk
    have hc := c_eq.of hE (by decide)
    have hI1 := hc.I hI
    have e10 : M1 10 1 = M 10 1 := by rw [hc 10 (by decide)]
    have hLb := hI.1
    refine gj_iload_n 25 dX3_findMost_24 rfl rfl ?_
    refine gj_aload_n 26 dX3_findMost_25 rfl rfl ?_
    refine gj_getfr 29 dX3_findMost_26 rfl fl_3_12 rfl rfl ?_
    refine gj_getfi 32 dX3_findMost_29 rfl fl_3_57 rfl rfl (fun r_29 => ?_)
    refine gj_icmp_ge 51 35 dX3_findMost_32 (by decide) rfl (by omega) (by omega) (fun c_32 => ?_) (fun c_32 => absurd c_32 (by omega))
    exact kk M1 hE (fun d h0 h6 => by
      have hx := (hd d h0 h6).2
      rw [hx]
      show _ = max _ (p_cn _ _ d f)
      unfold p_cn
      rw [show (M 10 1).toNat = k by omega])
  | succ n ih =>
    intro k M1 hk hE hd
    have hc := c_eq.of hE (by decide)
    have hI1 := hc.I hI
    have e10 : M1 10 1 = M 10 1 := by rw [hc 10 (by decide)]
    have hLb := hI.1
    refine gj_iload_n 25 dX3_findMost_24 rfl rfl ?_
    refine gj_aload_n 26 dX3_findMost_25 rfl rfl ?_
    refine gj_getfr 29 dX3_findMost_26 rfl fl_3_12 rfl rfl ?_
    refine gj_getfi 32 dX3_findMost_29 rfl fl_3_57 rfl rfl (fun r_29 => ?_)
    refine gj_icmp_ge 51 35 dX3_findMost_32 (by decide) rfl (by omega) (by omega) (fun c_32 => absurd c_32 (by omega)) (fun c_32 => ?_)
    have sp := t3_drawingOn (xt := xt) (l := (k : Int)) (f := (f : Int)) hI1 (by omega) (by omega)
    rw [hc.ex] at sp
    refine gj_aload_n 36 dX3_findMost_35 rfl rfl ?_
    refine gj_aload_n 37 dX3_findMost_36 rfl rfl ?_
    refine gj_iload_n 38 dX3_findMost_37 rfl rfl ?_
    refine gj_iload_n 39 dX3_findMost_38 rfl rfl ?_
    refine gj_fV 42 dX3_findMost_39 rfl ok_3_drawingOn ml_3_84 iv_3_drawingOn (As := [gI _, gI _]) rfl rfl rfl rfl (Nat.le_of_ble_eq_true rfl) ⟨Nat.le_of_ble_eq_true rfl, Nat.le_of_ble_eq_true rfl⟩ (Nat.le_of_ble_eq_true rfl) ⟨rfl, rfl⟩ ⟨Nat.zero_le _, Nat.zero_le _⟩ (sp) ?_
    refine gj_rg (fun hR => ?_)
    have hin : gj_in (c_ex M k f) := by rw [← hc.ex]; exact p_ex_in (hR 14 (by decide)) _ _
    refine gj_vV 45 dX3_findMost_42 rfl ok_3_countDrawing ml_3_113 iv_3_countDrawing (As := [gI _]) rfl rfl rfl rfl (Nat.le_of_ble_eq_true rfl) ⟨Nat.le_of_ble_eq_true rfl, Nat.le_of_ble_eq_true rfl⟩ (Nat.le_of_ble_eq_true rfl) ⟨rfl, rfl⟩ ⟨Nat.zero_le _, Nat.zero_le _⟩ (s3_countDrawing hin (fun h0 h6 => by have hx := (hd _ h0 h6).1; have hy := p_sum_b (g := fun l : Nat => if c_ex M l f = c_ex M k f then (1 : Int) else 0) (m := 1) k (fun i _ => by split <;> omega); omega)) ?_
    refine gj_iinc (b := ((k + 1 : Nat) : Int)) (lv' := [_, _, _]) 48 dX3_findMost_45 rfl rfl (by omega) (by decide) rfl ?_
    refine gj_goto 24 dX3_findMost_48 (by decide) ?_
    refine gj_wk (ih (k + 1) _ (by omega) ?_ ?_) ⟨rfl, rfl, rfl, trivial⟩
    · intro x hx i
      unfold p_ct
      split
      · have h1 : x ≠ 33 := fun q => hx (by rw [q]; decide)
        have h2 : x ≠ 34 := fun q => hx (by rw [q]; decide)
        rw [gj_u_o h2, gj_u_o h1]
        exact hE x hx i
      · exact hE x hx i
    · intro d h0 h6
      have hx := hd d h0 h6
      simp only [p_sum]
      by_cases q : c_ex M k f = d
      · rw [if_pos q]
        unfold p_ct
        rw [if_pos (by omega), q]
        have hy := p_sum_b (g := fun l : Nat => if c_ex M l f = d then (1 : Int) else 0) (m := 1) k (fun i _ => by split <;> omega)
        have hz := p_mo_b (c_ex M) (M 10 1).toNat d f
        constructor
        · rw [gj_u_o (by decide), gj_u_s, hx.1]
        · rw [gj_u_s, hx.1, hx.2]
          omega
      · rw [if_neg q]
        unfold p_ct
        split
        · rw [gj_u_i (Ne.symm q), gj_u_i (Ne.symm q), gj_u_i (Ne.symm q), gj_u_i (Ne.symm q), hx.1, hx.2]
          constructor <;> omega
        · rw [hx.1, hx.2]
          constructor <;> omega

set_option maxRecDepth 100000 in
set_option maxHeartbeats 4000000 in
theorem s3_findMost_o {xt : Nat × (Nat → Int)} {M : gj_M} (hI : c_I M) : ∀ (n k : Nat) (M1 : gj_M), k + n = 48 → gj_E [33, 34] M M1 → (∀ d : Int, 0 ≤ d → d < 6 → M1 34 d = p_mo (c_ex M) (M 10 1).toNat d k) → gj_G xt Y3_findMost gS 0 0 9 [some (gR 9), some (gI (k : Int)), none] [] M1 (fun r S2 M2 => S2 = gS ∧ r = none ∧ gj_E [33, 34] M M2 ∧ ∀ d : Int, 0 ≤ d → d < 6 → M2 34 d = c_mo M d) := by
  intro n
  induction n with
  | zero =>
    intro k M1 hk hE hd
    refine gj_iload_n 10 dX3_findMost_9 rfl rfl ?_
    refine gj_bipush 12 dX3_findMost_10 rfl (by decide) ?_
    refine gj_icmp_ge 57 15 dX3_findMost_12 (by decide) rfl (by omega) (by omega) (fun c_12 => ?_) (fun c_12 => absurd c_12 (by omega))
    refine gj_vret dX3_findMost_57 rfl ⟨Nat.zero_le _, Nat.zero_le _⟩ ?_
    exact ⟨rfl, rfl, hE, fun d h0 h6 => by rw [hd d h0 h6]; unfold c_mo; rw [show k = 48 by omega]⟩
  | succ n ih =>
    intro k M1 hk hE hd
    refine gj_iload_n 10 dX3_findMost_9 rfl rfl ?_
    refine gj_bipush 12 dX3_findMost_10 rfl (by decide) ?_
    refine gj_icmp_ge 57 15 dX3_findMost_12 (by decide) rfl (by omega) (by omega) (fun c_12 => absurd c_12 (by omega)) (fun c_12 => ?_)
    refine gj_aload_n 16 dX3_findMost_15 rfl rfl ?_
    refine gj_getfr 19 dX3_findMost_16 rfl fl_3_39 rfl rfl ?_
    refine gj_vS 22 dX3_findMost_19 rfl ok_3_clearDrawings ml_3_109 is_3_clearDrawings (As := [gR _]) rfl rfl (Nat.le_of_ble_eq_true rfl) ⟨Nat.le_of_ble_eq_true rfl, Nat.le_of_ble_eq_true rfl⟩ (Nat.le_of_ble_eq_true rfl) ⟨rfl, rfl⟩ ⟨Nat.zero_le _, Nat.zero_le _⟩ (s3_clear rfl) ?_
    refine gj_iconst 23 dX3_findMost_22 rfl ?_
    refine gj_istore_n (lv' := [_, _, _]) 24 dX3_findMost_23 rfl (by decide) rfl ?_
    refine gj_wk (s3_findMost_i hI k (by omega) (fun M2 hE2 hd2 => ?_) (M 10 1).toNat 0 (p_clr M1 33 6) (by have := hI.1; omega) ?_ ?_) ⟨rfl, rfl, rfl, trivial⟩
    · refine gj_iinc (b := ((k + 1 : Nat) : Int)) (lv' := [_, _, _]) 54 dX3_findMost_51 rfl rfl (by omega) (by decide) rfl ?_
      refine gj_goto 9 dX3_findMost_54 (by decide) ?_
      exact gj_wk (ih (k + 1) M2 (by omega) hE2 hd2) ⟨rfl, rfl, trivial⟩
    · intro x hx i
      rw [p_clr_o (fun q => hx (by rw [q]; decide))]
      exact hE x hx i
    · intro d h0 h6
      have hz := p_mo_b (c_ex M) (M 10 1).toNat d k
      constructor
      · rw [p_clr_i 6 h0 h6]; rfl
      · rw [p_clr_o (by decide), hd d h0 h6]
        simp only [p_sum]
        omega

set_option maxRecDepth 100000 in
set_option maxHeartbeats 4000000 in
theorem s3_findMost {xt : Nat × (Nat → Int)} {M : gj_M} (hI : c_I M) : gj_T xt Y3_findMost gS [gR 9] M (fun r M2 => r = none ∧ gj_E [33, 34] M M2 ∧ ∀ d : Int, 0 ≤ d → d < 6 → M2 34 d = c_mo M d) := by
  show gj_G _ Y3_findMost gS 0 0 0 [_, _, _] [] M _
  refine gj_aload_n 1 dX3_findMost_0 rfl rfl ?_
  refine gj_getfr 4 dX3_findMost_1 rfl fl_3_42 rfl rfl ?_
  refine gj_vS 7 dX3_findMost_4 rfl ok_3_clearDrawings ml_3_109 is_3_clearDrawings (As := [gR _]) rfl rfl (Nat.le_of_ble_eq_true rfl) ⟨Nat.le_of_ble_eq_true rfl, Nat.le_of_ble_eq_true rfl⟩ (Nat.le_of_ble_eq_true rfl) ⟨rfl, rfl⟩ ⟨Nat.zero_le _, Nat.zero_le _⟩ (s3_clear rfl) ?_
  refine gj_iconst 8 dX3_findMost_7 rfl ?_
  refine gj_istore_n (lv' := [_, _, _]) 9 dX3_findMost_8 rfl (by decide) rfl ?_
  refine gj_wk (s3_findMost_o hI 48 0 (p_clr M 34 6) rfl ?_ ?_) ⟨rfl, rfl, trivial⟩
  · intro x hx i
    exact p_clr_o (fun q => hx (by rw [q]; decide)) i 6
  · intro d h0 h6
    rw [p_clr_i 6 h0 h6]
    rfl
end
section
theorem gj_in32 (x : Int32) : gj_in x.toInt := by
  have h1 := Int32.le_toInt x
  have h2 := Int32.toInt_lt x
  exact ⟨by omega, by omega⟩
def p_bl (cost : Nat → Int) : Nat → Int
  | 0 => 0
  | n + 1 => if n = 0 ∨ cost n < p_bl cost n then cost n else p_bl cost n
def p_bb (cost : Nat → Int) : Nat → Int
  | 0 => 0
  | n + 1 => if n = 0 ∨ cost n < p_bl cost n then n else p_bb cost n
def c_best (M : gj_M) (l : Int) : Int := p_bb (fun v : Nat => c_cels (gj_u M 18 l v)) 10
theorem c_I.dl {M : gj_M} (hI : c_I M) {l v : Int} (hv : 0 ≤ v ∧ v ≤ 9) : c_I (gj_u M 18 l v) := by
  obtain ⟨h1, h2, h3, h4, h5, h6, h7, h8⟩ := hI
  refine ⟨h1, h2, h3, fun l' h0 h4' => ⟨?_, (h4 l' h0 h4').2⟩, h5, h6, h7, h8⟩
  show 0 ≤ gj_u M 18 l v 18 l' ∧ gj_u M 18 l v 18 l' ≤ 9
  unfold gj_u
  split
  · exact hv
  · exact (h4 l' h0 h4').1
theorem p_df_congr {s t s' t' : Nat → Int} : ∀ n, (∀ i, i < n → s i = s' i ∧ t i = t' i) → p_df s t n = p_df s' t' n := by
  intro n
  induction n with
  | zero => intro _; rfl
  | succ n ih =>
    intro h
    have h1 := h n (by omega)
    simp only [p_df]
    rw [ih (fun i hi => h i (by omega)), h1.1, h1.2]
theorem p_sum_congr {g g' : Nat → Int} : ∀ n, (∀ i, i < n → g i = g' i) → p_sum g n = p_sum g' n := by
  intro n
  induction n with
  | zero => intro _; rfl
  | succ n ih =>
    intro h
    simp only [p_sum]
    rw [ih (fun i hi => h i (by omega)), h n (by omega)]
theorem c_cels_b {M : gj_M} (hI : c_I M) : 0 ≤ c_cels M ∧ c_cels M ≤ 24 := by
  have hL := hI.1
  have hD := hI.2.1
  have := p_sum_b (g := fun d : Nat => p_mo (c_ex M) (M 10 1).toNat d 48) (m := 4) (M 10 0).toNat (fun i _ => by have := p_mo_b (c_ex M) (M 10 1).toNat i 48; omega)
  unfold c_cels p_cels
  omega
def p_met (L o : Int) : Nat → Int
  | 0 => 0
  | k + 1 => (Int32.ofInt (p_met L o k) ||| Int32.ofInt (Int32.ofInt 1 <<< (Int32.ofInt (p_li L o k) &&& 31)).toInt).toInt
def p_io (L o : Int) : Int := if 0 ≤ o ∧ o < gj_tens L.toNat ∧ p_met L o L.toNat = (Int32.ofInt 1 <<< (Int32.ofInt L &&& 31)).toInt - 1 then 1 else 0
theorem p_met_in (L o : Int) (k : Nat) : gj_in (p_met L o k) := by
  cases k with
  | zero => show gj_in 0; decide
  | succ k => exact gj_in32 _
end
section
set_option maxRecDepth 100000 in
set_option maxHeartbeats 4000000 in
theorem s3_cels_l {xt : Nat × (Nat → Int)} {M : gj_M} {M1 : gj_M} (hI : c_I M) (hE : gj_E [33, 34] M M1) (hd : ∀ d : Int, 0 ≤ d → d < 6 → M1 34 d = c_mo M d) : ∀ (n k : Nat), (k : Int) + n = M 10 0 → gj_G xt Y3_cels gS 0 0 8 [some (gR 9), some (gI (p_sum (fun d : Nat => c_mo M d) k)), some (gI (k : Int))] [] M1 (fun r S2 M2 => S2 = gS ∧ r = some (gI (c_cels M)) ∧ gj_E [33, 34] M M2) := by
  intro n
  induction n with
  | zero =>
    intro k hk
    have hc := c_eq.of hE (by decide)
    have e10 : M1 10 0 = M 10 0 := by rw [hc 10 (by decide)]
    have hD := hI.2.1
    refine gj_iload_n 9 dX3_cels_8 rfl rfl ?_
    refine gj_aload_n 10 dX3_cels_9 rfl rfl ?_
    refine gj_getfr 13 dX3_cels_10 rfl fl_3_12 rfl rfl ?_
    refine gj_getfiE (M 10 0) 16 dX3_cels_13 rfl fl_3_72 rfl rfl e10 (fun r_13 => ?_)
    refine gj_icmp_ge 34 19 dX3_cels_16 (by decide) rfl (by omega) (by omega) (fun c_16 => ?_) (fun c_16 => absurd c_16 (by omega))
    refine gj_iload_n 35 dX3_cels_34 rfl rfl ?_
    refine gj_iret dX3_cels_35 rfl ⟨Nat.zero_le _, Nat.zero_le _⟩ ?_
    exact ⟨rfl, by rw [show k = (M 10 0).toNat by omega]; rfl, hE⟩
  | succ n ih =>
    intro k hk
    have hc := c_eq.of hE (by decide)
    have e10 : M1 10 0 = M 10 0 := by rw [hc 10 (by decide)]
    have hD := hI.2.1
    refine gj_iload_n 9 dX3_cels_8 rfl rfl ?_
    refine gj_aload_n 10 dX3_cels_9 rfl rfl ?_
    refine gj_getfr 13 dX3_cels_10 rfl fl_3_12 rfl rfl ?_
    refine gj_getfiE (M 10 0) 16 dX3_cels_13 rfl fl_3_72 rfl rfl e10 (fun r_13 => ?_)
    refine gj_icmp_ge 34 19 dX3_cels_16 (by decide) rfl (by omega) (by omega) (fun c_16 => absurd c_16 (by omega)) (fun c_16 => ?_)
    refine gj_iload_n 20 dX3_cels_19 rfl rfl ?_
    refine gj_aload_n 21 dX3_cels_20 rfl rfl ?_
    refine gj_getfr 24 dX3_cels_21 rfl fl_3_42 rfl rfl ?_
    refine gj_iload_n 25 dX3_cels_24 rfl rfl ?_
    refine gj_ialdE (c_mo M k) 26 dX3_cels_25 rfl rfl (by omega) (by omega) (hd k (by omega) (by omega)) (fun r_25 => ?_)
    refine gj_iadd 27 dX3_cels_26 rfl ?_
    refine gj_istore_n (lv' := [_, _, _]) 28 dX3_cels_27 rfl (by decide) rfl ?_
    refine gj_iinc (b := ((k + 1 : Nat) : Int)) (lv' := [_, _, _]) 31 dX3_cels_28 rfl rfl (by omega) (by decide) rfl ?_
    refine gj_goto 8 dX3_cels_31 (by decide) ?_
    exact gj_wk (ih (k + 1) (by omega)) ⟨rfl, rfl, rfl, trivial⟩

set_option maxRecDepth 100000 in
set_option maxHeartbeats 4000000 in
theorem s3_cels {xt : Nat × (Nat → Int)} {M : gj_M} (hI : c_I M) : gj_T xt Y3_cels gS [gR 9] M (fun r M2 => r = some (gI (c_cels M)) ∧ gj_E [33, 34] M M2) := by
  show gj_G _ Y3_cels gS 0 0 0 [_, _, _] [] M _
  refine gj_aload_n 1 dX3_cels_0 rfl rfl ?_
  refine gj_callV 4 dX3_cels_1 rfl ok_3_findMost ml_3_106 iv_3_findMost (As := []) rfl rfl rfl rfl (Nat.le_of_ble_eq_true rfl) ⟨Nat.le_of_ble_eq_true rfl, Nat.le_of_ble_eq_true rfl⟩ (Nat.le_of_ble_eq_true rfl) ⟨rfl, rfl⟩ ⟨Nat.zero_le _, Nat.zero_le _⟩ (s3_findMost hI) (fun r_1 M_1 q_1 => ?_)
  obtain ⟨rfl, hE, hd⟩ := q_1
  show gj_G _ _ gS 0 0 4 _ [] M_1 _
  refine gj_iconst 5 dX3_cels_4 rfl ?_
  refine gj_istore_n (lv' := [_, _, _]) 6 dX3_cels_5 rfl (by decide) rfl ?_
  refine gj_iconst 7 dX3_cels_6 rfl ?_
  refine gj_istore_n (lv' := [_, _, _]) 8 dX3_cels_7 rfl (by decide) rfl ?_
  exact gj_wk (s3_cels_l hI hE hd (M 10 0).toNat 0 (by have := hI.2.1; omega)) ⟨rfl, rfl, rfl, trivial⟩

set_option maxRecDepth 100000 in
set_option maxHeartbeats 4000000 in
theorem s3_mostLevelsOf {xt : Nat × (Nat → Int)} {M : gj_M} {d : Int} (hI : c_I M) (hd : 0 ≤ d ∧ d < 6) : gj_T xt Y3_mostLevelsOf gS [gR 9, gI d] M (fun r M2 => r = some (gI (c_mo M d)) ∧ gj_E [33, 34] M M2) := by
  show gj_G _ Y3_mostLevelsOf gS 0 0 0 [_, _] [] M _
  refine gj_aload_n 1 dX3_mostLevelsOf_0 rfl rfl ?_
  refine gj_callV 4 dX3_mostLevelsOf_1 rfl ok_3_findMost ml_3_106 iv_3_findMost (As := []) rfl rfl rfl rfl (Nat.le_of_ble_eq_true rfl) ⟨Nat.le_of_ble_eq_true rfl, Nat.le_of_ble_eq_true rfl⟩ (Nat.le_of_ble_eq_true rfl) ⟨rfl, rfl⟩ ⟨Nat.zero_le _, Nat.zero_le _⟩ (s3_findMost hI) (fun r_1 M_1 q_1 => ?_)
  obtain ⟨rfl, hE, hm⟩ := q_1
  show gj_G _ _ gS 0 0 4 _ [] M_1 _
  refine gj_aload_n 5 dX3_mostLevelsOf_4 rfl rfl ?_
  refine gj_getfr 8 dX3_mostLevelsOf_5 rfl fl_3_42 rfl rfl ?_
  refine gj_iload_n 9 dX3_mostLevelsOf_8 rfl rfl ?_
  refine gj_ialdE (c_mo M d) 10 dX3_mostLevelsOf_9 rfl rfl (by omega) (by omega) (hm d hd.1 hd.2) (fun r_9 => ?_)
  refine gj_iret dX3_mostLevelsOf_10 rfl ⟨Nat.zero_le _, Nat.zero_le _⟩ ?_
  exact ⟨rfl, rfl, hE⟩

set_option maxRecDepth 100000 in
set_option maxHeartbeats 4000000 in
theorem s3_view_l {xt : Nat × (Nat → Int)} {M : gj_M} {f : Int} (hI : c_I M) (hf : 0 ≤ f ∧ f < 48) : ∀ (n k : Nat) (M1 : gj_M), k + n = 10 → gj_E [32] M M1 → (∀ c : Nat, c < k → M1 32 c = c_seen M f c (-1)) → (∀ c : Nat, k ≤ c → c < 10 → M1 32 c = M 32 c) → gj_G xt Y3_viewBecomes gS 0 0 4 [some (gR 9), some (gI f), some (gI (p_df (fun c : Nat => c_seen M f c (-1)) (fun c : Nat => M 32 c) k)), some (gI (k : Int)), none] [] M1 (fun r S2 M2 => S2 = gS ∧ r = some (gI (p_df (fun c : Nat => c_seen M f c (-1)) (fun c : Nat => M 32 c) 10)) ∧ gj_E [32] M M2 ∧ ∀ c : Nat, c < 10 → M2 32 c = c_seen M f c (-1)) := by
  intro n
  induction n with
  | zero =>
    intro k M1 hk hE hs ht
    have hc := c_eq.of hE (by decide)
    have hI1 := hc.I hI
    have hdf := p_df_01 (fun c : Nat => c_seen M f c (-1)) (fun c : Nat => M 32 c) k
    refine gj_iload_n 5 dX3_viewBecomes_4 rfl rfl ?_
    refine gj_bipush 7 dX3_viewBecomes_5 rfl (by decide) ?_
    refine gj_icmp_ge 54 10 dX3_viewBecomes_7 (by decide) rfl (by omega) (by omega) (fun c_7 => ?_) (fun c_7 => absurd c_7 (by omega))
    refine gj_iload_n 55 dX3_viewBecomes_54 rfl rfl ?_
    refine gj_zret dX3_viewBecomes_55 rfl (by omega) ⟨Nat.zero_le _, Nat.zero_le _⟩ ?_
    have hk3 : k = 10 := by omega
    subst hk3
    exact ⟨rfl, rfl, hE, hs⟩
  | succ n ih =>
    intro k M1 hk hE hs ht
    have hc := c_eq.of hE (by decide)
    have hI1 := hc.I hI
    have hdf := p_df_01 (fun c : Nat => c_seen M f c (-1)) (fun c : Nat => M 32 c) k
    refine gj_iload_n 5 dX3_viewBecomes_4 rfl rfl ?_
    refine gj_bipush 7 dX3_viewBecomes_5 rfl (by decide) ?_
    refine gj_icmp_ge 54 10 dX3_viewBecomes_7 (by decide) rfl (by omega) (by omega) (fun c_7 => absurd c_7 (by omega)) (fun c_7 => ?_)
    have hsb := c_seen_in hI f k (-1)
    have sp := t3_seenAt (xt := xt) (M := M1) (f := f) (c := (k : Int)) (rub := -1) hI1 hf (by omega) (by decide)
    rw [hc.seen] at sp
    have hk4 := ht k (by omega) (by omega)
    refine gj_aload_n 11 dX3_viewBecomes_10 rfl rfl ?_
    refine gj_iload_n 12 dX3_viewBecomes_11 rfl rfl ?_
    refine gj_iload_n 13 dX3_viewBecomes_12 rfl rfl ?_
    refine gj_iconst 14 dX3_viewBecomes_13 rfl ?_
    refine gj_fV 17 dX3_viewBecomes_14 rfl ok_3_seenAt ml_3_102 iv_3_seenAt (As := [gI _, gI _, gI _]) rfl rfl rfl rfl (Nat.le_of_ble_eq_true rfl) ⟨Nat.le_of_ble_eq_true rfl, Nat.le_of_ble_eq_true rfl⟩ (Nat.le_of_ble_eq_true rfl) ⟨rfl, rfl⟩ ⟨Nat.zero_le _, Nat.zero_le _⟩ (sp) ?_
    refine gj_istore (lv' := [_, _, _, _, _]) 19 dX3_viewBecomes_17 rfl (by decide) rfl ?_
    refine gj_iload_n 20 dX3_viewBecomes_19 rfl rfl ?_
    refine gj_if_ne 34 23 dX3_viewBecomes_20 (by decide) rfl (by omega) (fun c_20 => ?_) (fun c_20 => ?_)
    · refine gj_iconst 35 dX3_viewBecomes_34 rfl ?_
      refine gj_goto 39 dX3_viewBecomes_35 (by decide) ?_
      refine gj_istore_n (lv' := [_, _, _, _, _]) 40 dX3_viewBecomes_39 rfl (by decide) rfl ?_
      refine gj_aload_n 41 dX3_viewBecomes_40 rfl rfl ?_
      refine gj_getfr 44 dX3_viewBecomes_41 rfl fl_3_36 rfl rfl ?_
      refine gj_iload_n 45 dX3_viewBecomes_44 rfl rfl ?_
      refine gj_iload 47 dX3_viewBecomes_45 rfl rfl ?_
      refine gj_iast 48 dX3_viewBecomes_47 rfl rfl (by omega) (by omega) (by omega) ?_
      refine gj_iinc (b := ((k + 1 : Nat) : Int)) (lv' := [_, _, _, _, _]) 51 dX3_viewBecomes_48 rfl rfl (by omega) (by decide) rfl ?_
      refine gj_goto 4 dX3_viewBecomes_51 (by decide) ?_
      have hk2 : k < 10 := by omega
      have h := fun H1 H2 H3 => ih (k + 1) (gj_u M1 32 k (c_seen M f k (-1))) (by omega) H1 H2 H3
      have h2 := h (hE.tr (gj_E.u (by decide))) (fun c hck => by
        by_cases q : c = k
        · rw [q]; exact gj_u_s
        · rw [gj_u_i (by omega)]; exact hs c (by omega)) (fun c hck hc10 => by
        rw [gj_u_i (by omega)]; exact ht c (by omega) hc10)
      have e9 := ht k (by omega) (by omega)
      first
      | (rw [show p_df (fun c : Nat => c_seen M f c (-1)) (fun c : Nat => M 32 c) (k + 1) = 1 from if_pos (by first | (left; omega) | (right; show c_seen M f k (-1) ≠ M 32 k; omega))] at h2; exact gj_wk h2 ⟨rfl, rfl, rfl, rfl, trivial⟩)
      | (rw [show p_df (fun c : Nat => c_seen M f c (-1)) (fun c : Nat => M 32 c) (k + 1) = 0 from if_neg (by show ¬ (p_df (fun c : Nat => c_seen M f c (-1)) (fun c : Nat => M 32 c) k ≠ 0 ∨ c_seen M f k (-1) ≠ M 32 k); omega)] at h2; exact gj_wk h2 ⟨rfl, rfl, rfl, rfl, trivial⟩)
    · refine gj_iload 25 dX3_viewBecomes_23 rfl rfl ?_
      refine gj_aload_n 26 dX3_viewBecomes_25 rfl rfl ?_
      refine gj_getfr 29 dX3_viewBecomes_26 rfl fl_3_36 rfl rfl ?_
      refine gj_iload_n 30 dX3_viewBecomes_29 rfl rfl ?_
      refine gj_ialdE (M 32 k) 31 dX3_viewBecomes_30 rfl rfl (by omega) (by omega) hk4 (fun r_30 => ?_)
      refine gj_icmp_eq 38 34 dX3_viewBecomes_31 (by decide) rfl (by omega) (by omega) (fun c_31 => ?_) (fun c_31 => ?_)
      · refine gj_iconst 39 dX3_viewBecomes_38 rfl ?_
        refine gj_istore_n (lv' := [_, _, _, _, _]) 40 dX3_viewBecomes_39 rfl (by decide) rfl ?_
        refine gj_aload_n 41 dX3_viewBecomes_40 rfl rfl ?_
        refine gj_getfr 44 dX3_viewBecomes_41 rfl fl_3_36 rfl rfl ?_
        refine gj_iload_n 45 dX3_viewBecomes_44 rfl rfl ?_
        refine gj_iload 47 dX3_viewBecomes_45 rfl rfl ?_
        refine gj_iast 48 dX3_viewBecomes_47 rfl rfl (by omega) (by omega) (by omega) ?_
        refine gj_iinc (b := ((k + 1 : Nat) : Int)) (lv' := [_, _, _, _, _]) 51 dX3_viewBecomes_48 rfl rfl (by omega) (by decide) rfl ?_
        refine gj_goto 4 dX3_viewBecomes_51 (by decide) ?_
        have hk2 : k < 10 := by omega
        have h := fun H1 H2 H3 => ih (k + 1) (gj_u M1 32 k (c_seen M f k (-1))) (by omega) H1 H2 H3
        have h2 := h (hE.tr (gj_E.u (by decide))) (fun c hck => by
          by_cases q : c = k
          · rw [q]; exact gj_u_s
          · rw [gj_u_i (by omega)]; exact hs c (by omega)) (fun c hck hc10 => by
          rw [gj_u_i (by omega)]; exact ht c (by omega) hc10)
        have e9 := ht k (by omega) (by omega)
        first
        | (rw [show p_df (fun c : Nat => c_seen M f c (-1)) (fun c : Nat => M 32 c) (k + 1) = 1 from if_pos (by first | (left; omega) | (right; show c_seen M f k (-1) ≠ M 32 k; omega))] at h2; exact gj_wk h2 ⟨rfl, rfl, rfl, rfl, trivial⟩)
        | (rw [show p_df (fun c : Nat => c_seen M f c (-1)) (fun c : Nat => M 32 c) (k + 1) = 0 from if_neg (by show ¬ (p_df (fun c : Nat => c_seen M f c (-1)) (fun c : Nat => M 32 c) k ≠ 0 ∨ c_seen M f k (-1) ≠ M 32 k); omega)] at h2; exact gj_wk h2 ⟨rfl, rfl, rfl, rfl, trivial⟩)
      · refine gj_iconst 35 dX3_viewBecomes_34 rfl ?_
        refine gj_goto 39 dX3_viewBecomes_35 (by decide) ?_
        refine gj_istore_n (lv' := [_, _, _, _, _]) 40 dX3_viewBecomes_39 rfl (by decide) rfl ?_
        refine gj_aload_n 41 dX3_viewBecomes_40 rfl rfl ?_
        refine gj_getfr 44 dX3_viewBecomes_41 rfl fl_3_36 rfl rfl ?_
        refine gj_iload_n 45 dX3_viewBecomes_44 rfl rfl ?_
        refine gj_iload 47 dX3_viewBecomes_45 rfl rfl ?_
        refine gj_iast 48 dX3_viewBecomes_47 rfl rfl (by omega) (by omega) (by omega) ?_
        refine gj_iinc (b := ((k + 1 : Nat) : Int)) (lv' := [_, _, _, _, _]) 51 dX3_viewBecomes_48 rfl rfl (by omega) (by decide) rfl ?_
        refine gj_goto 4 dX3_viewBecomes_51 (by decide) ?_
        have hk2 : k < 10 := by omega
        have h := fun H1 H2 H3 => ih (k + 1) (gj_u M1 32 k (c_seen M f k (-1))) (by omega) H1 H2 H3
        have h2 := h (hE.tr (gj_E.u (by decide))) (fun c hck => by
          by_cases q : c = k
          · rw [q]; exact gj_u_s
          · rw [gj_u_i (by omega)]; exact hs c (by omega)) (fun c hck hc10 => by
          rw [gj_u_i (by omega)]; exact ht c (by omega) hc10)
        have e9 := ht k (by omega) (by omega)
        first
        | (rw [show p_df (fun c : Nat => c_seen M f c (-1)) (fun c : Nat => M 32 c) (k + 1) = 1 from if_pos (by first | (left; omega) | (right; show c_seen M f k (-1) ≠ M 32 k; omega))] at h2; exact gj_wk h2 ⟨rfl, rfl, rfl, rfl, trivial⟩)
        | (rw [show p_df (fun c : Nat => c_seen M f c (-1)) (fun c : Nat => M 32 c) (k + 1) = 0 from if_neg (by show ¬ (p_df (fun c : Nat => c_seen M f c (-1)) (fun c : Nat => M 32 c) k ≠ 0 ∨ c_seen M f k (-1) ≠ M 32 k); omega)] at h2; exact gj_wk h2 ⟨rfl, rfl, rfl, rfl, trivial⟩)

set_option maxRecDepth 100000 in
set_option maxHeartbeats 4000000 in
theorem s3_view {xt : Nat × (Nat → Int)} {M : gj_M} {f : Int} (hI : c_I M) (hf : 0 ≤ f ∧ f < 48) : gj_T xt Y3_viewBecomes gS [gR 9, gI f] M (fun r M2 => r = some (gI (p_df (fun c : Nat => c_seen M f c (-1)) (fun c : Nat => M 32 c) 10)) ∧ gj_E [32] M M2 ∧ ∀ c : Nat, c < 10 → M2 32 c = c_seen M f c (-1)) := by
  show gj_G _ Y3_viewBecomes gS 0 0 0 [_, _, _, _, _] [] M _
  refine gj_iconst 1 dX3_viewBecomes_0 rfl ?_
  refine gj_istore_n (lv' := [_, _, _, _, _]) 2 dX3_viewBecomes_1 rfl (by decide) rfl ?_
  refine gj_iconst 3 dX3_viewBecomes_2 rfl ?_
  refine gj_istore_n (lv' := [_, _, _, _, _]) 4 dX3_viewBecomes_3 rfl (by decide) rfl ?_
  exact gj_wk (s3_view_l hI hf 10 0 M rfl gj_E.rf (fun c h => absurd h (by omega)) (fun c _ _ => rfl)) ⟨rfl, rfl, rfl, rfl, trivial⟩

set_option maxRecDepth 100000 in
set_option maxHeartbeats 4000000 in
theorem s3_changes_l {xt : Nat × (Nat → Int)} {M : gj_M} (hI : c_I M) : ∀ (n k : Nat) (M1 : gj_M), k + n = 47 → gj_E [32] M M1 → (∀ c : Nat, c < 10 → M1 32 c = c_seen M k c (-1)) → gj_G xt Y3_changes gS 0 0 10 [some (gR 9), some (gI (c_chg M k)), some (gI ((k : Int) + 1))] [] M1 (fun r S2 M2 => S2 = gS ∧ r = some (gI (c_chg M 47)) ∧ gj_E [32] M M2) := by
  intro n
  induction n with
  | zero =>
    intro k M1 hk hE hs
    have hc := c_eq.of hE (by decide)
    have hI1 := hc.I hI
    refine gj_iload_n 11 dX3_changes_10 rfl rfl ?_
    refine gj_bipush 13 dX3_changes_11 rfl (by decide) ?_
    refine gj_icmp_ge 33 16 dX3_changes_13 (by decide) rfl (by omega) (by omega) (fun c_13 => ?_) (fun c_13 => absurd c_13 (by omega))
    refine gj_iload_n 34 dX3_changes_33 rfl rfl ?_
    refine gj_iret dX3_changes_34 rfl ⟨Nat.zero_le _, Nat.zero_le _⟩ ?_
    have hk3 : k = 47 := by omega
    subst hk3
    exact ⟨rfl, rfl, hE⟩
  | succ n ih =>
    intro k M1 hk hE hs
    have hc := c_eq.of hE (by decide)
    have hI1 := hc.I hI
    refine gj_iload_n 11 dX3_changes_10 rfl rfl ?_
    refine gj_bipush 13 dX3_changes_11 rfl (by decide) ?_
    refine gj_icmp_ge 33 16 dX3_changes_13 (by decide) rfl (by omega) (by omega) (fun c_13 => absurd c_13 (by omega)) (fun c_13 => ?_)
    refine gj_aload_n 17 dX3_changes_16 rfl rfl ?_
    refine gj_iload_n 18 dX3_changes_17 rfl rfl ?_
    refine gj_callV 21 dX3_changes_18 rfl ok_3_viewBecomes ml_3_98 iv_3_viewBecomes (As := [gI _]) rfl rfl rfl rfl (Nat.le_of_ble_eq_true rfl) ⟨Nat.le_of_ble_eq_true rfl, Nat.le_of_ble_eq_true rfl⟩ (Nat.le_of_ble_eq_true rfl) ⟨rfl, rfl⟩ ⟨Nat.zero_le _, Nat.zero_le _⟩ (s3_view hI1 (by omega)) (fun r_18 M_18 q_18 => ?_)
    obtain ⟨rfl, hE2, hv2⟩ := q_18
    rw [p_df_congr (s' := fun c : Nat => c_seen M ((k : Int) + 1) c (-1)) (t' := fun c : Nat => c_seen M k c (-1)) 10 (fun i hi => ⟨hc.seen _ _ _, hs i hi⟩)]
    have hdf := p_df_01 (fun c : Nat => c_seen M ((k : Int) + 1) c (-1)) (fun c : Nat => c_seen M k c (-1)) 10
    show gj_G _ _ gS 0 0 21 _ [gI (p_df (fun c : Nat => c_seen M ((k : Int) + 1) c (-1)) (fun c : Nat => c_seen M k c (-1)) 10)] M_18 _
    refine gj_if_eq 27 24 dX3_changes_21 (by decide) rfl (by omega) (fun c_21 => ?_) (fun c_21 => ?_)
    · refine gj_iinc (b := ((k + 1 : Nat) : Int) + 1) (lv' := [_, _, _]) 30 dX3_changes_27 rfl rfl (by omega) (by decide) rfl ?_
      refine gj_goto 10 dX3_changes_30 (by decide) ?_
      have h := ih (k + 1) M_18 (by omega) (hE.tr hE2) (fun c h10 => by
        rw [hv2 c h10, hc.seen]
        congr 1)
      first
      | (rw [show c_chg M (k + 1) = c_chg M k + 1 by show c_chg M k + _ = _; omega] at h; exact gj_wk h ⟨rfl, rfl, rfl, trivial⟩)
      | (rw [show c_chg M (k + 1) = c_chg M k by show c_chg M k + _ = _; omega] at h; exact gj_wk h ⟨rfl, rfl, rfl, trivial⟩)
    · refine gj_iinc (lv' := [_, _, _]) 27 dX3_changes_24 rfl rfl rfl (by decide) rfl ?_
      refine gj_iinc (b := ((k + 1 : Nat) : Int) + 1) (lv' := [_, _, _]) 30 dX3_changes_27 rfl rfl (by omega) (by decide) rfl ?_
      refine gj_goto 10 dX3_changes_30 (by decide) ?_
      have h := ih (k + 1) M_18 (by omega) (hE.tr hE2) (fun c h10 => by
        rw [hv2 c h10, hc.seen]
        congr 1)
      first
      | (rw [show c_chg M (k + 1) = c_chg M k + 1 by show c_chg M k + _ = _; omega] at h; exact gj_wk h ⟨rfl, rfl, rfl, trivial⟩)
      | (rw [show c_chg M (k + 1) = c_chg M k by show c_chg M k + _ = _; omega] at h; exact gj_wk h ⟨rfl, rfl, rfl, trivial⟩)

set_option maxRecDepth 100000 in
set_option maxHeartbeats 4000000 in
theorem s3_changes {xt : Nat × (Nat → Int)} {M : gj_M} (hI : c_I M) : gj_T xt Y3_changes gS [gR 9] M (fun r M2 => r = some (gI (c_chg M 47)) ∧ gj_E [32] M M2) := by
  show gj_G _ Y3_changes gS 0 0 0 [_, _, _] [] M _
  refine gj_iconst 1 dX3_changes_0 rfl ?_
  refine gj_istore_n (lv' := [_, _, _]) 2 dX3_changes_1 rfl (by decide) rfl ?_
  refine gj_aload_n 3 dX3_changes_2 rfl rfl ?_
  refine gj_iconst 4 dX3_changes_3 rfl ?_
  refine gj_callV 7 dX3_changes_4 rfl ok_3_viewBecomes ml_3_98 iv_3_viewBecomes (As := [gI _]) rfl rfl rfl rfl (Nat.le_of_ble_eq_true rfl) ⟨Nat.le_of_ble_eq_true rfl, Nat.le_of_ble_eq_true rfl⟩ (Nat.le_of_ble_eq_true rfl) ⟨rfl, rfl⟩ ⟨Nat.zero_le _, Nat.zero_le _⟩ (s3_view hI (by omega)) (fun r_4 M_4 q_4 => ?_)
  obtain ⟨rfl, hE, hv⟩ := q_4
  show gj_G _ _ gS 0 0 7 _ [gI _] M_4 _
  refine gj_pop 8 dX3_changes_7 rfl (fun _ => rfl) ?_
  refine gj_iconst 9 dX3_changes_8 rfl ?_
  refine gj_istore_n (lv' := [_, _, _]) 10 dX3_changes_9 rfl (by decide) rfl ?_
  exact gj_wk (s3_changes_l hI 47 0 M_4 rfl hE (fun c h => hv c h)) ⟨rfl, rfl, rfl, trivial⟩
end
