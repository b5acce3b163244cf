-- ===== PART A: goes FIRST, ahead of the names: the tables' words, and 'selects' of the private methods out of them =====
/-- a private method of a class that the tables say can be made, by its rows of tables_1 -/
def lw_okq (q : MethodName × Nat) : Prop := (q.1.cls ≠ "java/lang/invoke/MethodHandle" ∧ q.1.cls ≠ "java/lang/invoke/VarHandle") ∧ Cond.instantiable q.1.cls q.2 ∈ tables_1 ∧ Cond.privateMethod q.1 ∈ tables_1 ∧ Cond.instanceMethod q.1 ∈ tables_1
theorem lw_p0 : lw_okq (⟨"CelSheets$Reader", "takes", "(I)Z"⟩, 6) := ⟨⟨by decide +kernel, by decide +kernel⟩, List.mem_of_getElem? (i := 21) (by decide +kernel), List.mem_of_getElem? (i := 293) (by decide +kernel), List.mem_of_getElem? (i := 294) (by decide +kernel)⟩
theorem lw_p1 : lw_okq (⟨"CelSheets$Reader", "takesDrawing", "()Z"⟩, 6) := ⟨⟨by decide +kernel, by decide +kernel⟩, List.mem_of_getElem? (i := 21) (by decide +kernel), List.mem_of_getElem? (i := 297) (by decide +kernel), List.mem_of_getElem? (i := 298) (by decide +kernel)⟩
theorem lw_p2 : lw_okq (⟨"CelSheets$Reader", "takesLevel", "(I)Z"⟩, 6) := ⟨⟨by decide +kernel, by decide +kernel⟩, List.mem_of_getElem? (i := 21) (by decide +kernel), List.mem_of_getElem? (i := 301) (by decide +kernel), List.mem_of_getElem? (i := 302) (by decide +kernel)⟩
theorem lw_p3 : lw_okq (⟨"CelSheets$Reader", "takesWidth", "(I)Z"⟩, 6) := ⟨⟨by decide +kernel, by decide +kernel⟩, List.mem_of_getElem? (i := 21) (by decide +kernel), List.mem_of_getElem? (i := 309) (by decide +kernel), List.mem_of_getElem? (i := 310) (by decide +kernel)⟩
theorem lw_p4 : lw_okq (⟨"CelSheets$Reader", "takesItemOrEnd", "(I)Z"⟩, 6) := ⟨⟨by decide +kernel, by decide +kernel⟩, List.mem_of_getElem? (i := 21) (by decide +kernel), List.mem_of_getElem? (i := 317) (by decide +kernel), List.mem_of_getElem? (i := 318) (by decide +kernel)⟩
theorem lw_p5 : lw_okq (⟨"CelSheets$Reader", "takesItem", "(I)Z"⟩, 6) := ⟨⟨by decide +kernel, by decide +kernel⟩, List.mem_of_getElem? (i := 21) (by decide +kernel), List.mem_of_getElem? (i := 321) (by decide +kernel), List.mem_of_getElem? (i := 322) (by decide +kernel)⟩
theorem lw_p6 : lw_okq (⟨"CelSheets$Reader", "takesOpening", "()Z"⟩, 6) := ⟨⟨by decide +kernel, by decide +kernel⟩, List.mem_of_getElem? (i := 21) (by decide +kernel), List.mem_of_getElem? (i := 325) (by decide +kernel), List.mem_of_getElem? (i := 326) (by decide +kernel)⟩
theorem lw_p7 : lw_okq (⟨"CelSheets$Reader", "takesHold", "(I)Z"⟩, 6) := ⟨⟨by decide +kernel, by decide +kernel⟩, List.mem_of_getElem? (i := 21) (by decide +kernel), List.mem_of_getElem? (i := 333) (by decide +kernel), List.mem_of_getElem? (i := 334) (by decide +kernel)⟩
theorem lw_p8 : lw_okq (⟨"CelSheets$Reel", "append", "(I)V"⟩, 6) := ⟨⟨by decide +kernel, by decide +kernel⟩, List.mem_of_getElem? (i := 27) (by decide +kernel), List.mem_of_getElem? (i := 341) (by decide +kernel), List.mem_of_getElem? (i := 342) (by decide +kernel)⟩
theorem lw_p9 : lw_okq (⟨"CelSheets$Reader", "takesTimes", "(I)Z"⟩, 6) := ⟨⟨by decide +kernel, by decide +kernel⟩, List.mem_of_getElem? (i := 21) (by decide +kernel), List.mem_of_getElem? (i := 345) (by decide +kernel), List.mem_of_getElem? (i := 346) (by decide +kernel)⟩
theorem lw_p10 : lw_okq (⟨"CelSheets", "isDrawing", "(I)Z"⟩, 13) := ⟨⟨by decide +kernel, by decide +kernel⟩, List.mem_of_getElem? (i := 13) (by decide +kernel), List.mem_of_getElem? (i := 386) (by decide +kernel), List.mem_of_getElem? (i := 387) (by decide +kernel)⟩
theorem lw_p11 : lw_okq (⟨"CelSheets$Scene", "findMost", "()V"⟩, 7) := ⟨⟨by decide +kernel, by decide +kernel⟩, List.mem_of_getElem? (i := 86) (by decide +kernel), List.mem_of_getElem? (i := 394) (by decide +kernel), List.mem_of_getElem? (i := 395) (by decide +kernel)⟩
theorem lw_p12 : lw_okq (⟨"CelSheets$Scene", "countDrawing", "(I)V"⟩, 7) := ⟨⟨by decide +kernel, by decide +kernel⟩, List.mem_of_getElem? (i := 86) (by decide +kernel), List.mem_of_getElem? (i := 405) (by decide +kernel), List.mem_of_getElem? (i := 406) (by decide +kernel)⟩
theorem lw_p13 : lw_okq (⟨"CelSheets", "isLevel", "(I)Z"⟩, 13) := ⟨⟨by decide +kernel, by decide +kernel⟩, List.mem_of_getElem? (i := 13) (by decide +kernel), List.mem_of_getElem? (i := 416) (by decide +kernel), List.mem_of_getElem? (i := 417) (by decide +kernel)⟩
theorem lw_p14 : lw_okq (⟨"CelSheets$Shortest", "findLike", "(I)V"⟩, 7) := ⟨⟨by decide +kernel, by decide +kernel⟩, List.mem_of_getElem? (i := 144) (by decide +kernel), List.mem_of_getElem? (i := 432) (by decide +kernel), List.mem_of_getElem? (i := 433) (by decide +kernel)⟩
theorem lw_p15 : lw_okq (⟨"CelSheets$Shortest", "findPlain", "(I)V"⟩, 7) := ⟨⟨by decide +kernel, by decide +kernel⟩, List.mem_of_getElem? (i := 144) (by decide +kernel), List.mem_of_getElem? (i := 436) (by decide +kernel), List.mem_of_getElem? (i := 437) (by decide +kernel)⟩
def lw_privs_1 : List (MethodName × Nat) := [(⟨"CelSheets$Reader", "takes", "(I)Z"⟩, 6), (⟨"CelSheets$Reader", "takesDrawing", "()Z"⟩, 6), (⟨"CelSheets$Reader", "takesLevel", "(I)Z"⟩, 6), (⟨"CelSheets$Reader", "takesWidth", "(I)Z"⟩, 6), (⟨"CelSheets$Reader", "takesItemOrEnd", "(I)Z"⟩, 6), (⟨"CelSheets$Reader", "takesItem", "(I)Z"⟩, 6), (⟨"CelSheets$Reader", "takesOpening", "()Z"⟩, 6), (⟨"CelSheets$Reader", "takesHold", "(I)Z"⟩, 6), (⟨"CelSheets$Reel", "append", "(I)V"⟩, 6), (⟨"CelSheets$Reader", "takesTimes", "(I)Z"⟩, 6), (⟨"CelSheets", "isDrawing", "(I)Z"⟩, 13), (⟨"CelSheets$Scene", "findMost", "()V"⟩, 7), (⟨"CelSheets$Scene", "countDrawing", "(I)V"⟩, 7), (⟨"CelSheets", "isLevel", "(I)Z"⟩, 13), (⟨"CelSheets$Shortest", "findLike", "(I)V"⟩, 7), (⟨"CelSheets$Shortest", "findPlain", "(I)V"⟩, 7)]
theorem lw_r1 : ∀ q ∈ lw_privs_1, lw_okq q := List.forall_mem_cons.mpr ⟨lw_p0, List.forall_mem_cons.mpr ⟨lw_p1, List.forall_mem_cons.mpr ⟨lw_p2, List.forall_mem_cons.mpr ⟨lw_p3, List.forall_mem_cons.mpr ⟨lw_p4, List.forall_mem_cons.mpr ⟨lw_p5, List.forall_mem_cons.mpr ⟨lw_p6, List.forall_mem_cons.mpr ⟨lw_p7, List.forall_mem_cons.mpr ⟨lw_p8, List.forall_mem_cons.mpr ⟨lw_p9, List.forall_mem_cons.mpr ⟨lw_p10, List.forall_mem_cons.mpr ⟨lw_p11, List.forall_mem_cons.mpr ⟨lw_p12, List.forall_mem_cons.mpr ⟨lw_p13, List.forall_mem_cons.mpr ⟨lw_p14, List.forall_mem_cons.mpr ⟨lw_p15, fun _ h => absurd h List.not_mem_nil⟩⟩⟩⟩⟩⟩⟩⟩⟩⟩⟩⟩⟩⟩⟩⟩
theorem lw_p16 : lw_okq (⟨"CelSheets$Shortest", "findItems", "([III)V"⟩, 7) := ⟨⟨by decide +kernel, by decide +kernel⟩, List.mem_of_getElem? (i := 144) (by decide +kernel), List.mem_of_getElem? (i := 440) (by decide +kernel), List.mem_of_getElem? (i := 441) (by decide +kernel)⟩
theorem lw_p17 : lw_okq (⟨"CelSheets$Shortest", "findOnce", "(I)V"⟩, 7) := ⟨⟨by decide +kernel, by decide +kernel⟩, List.mem_of_getElem? (i := 144) (by decide +kernel), List.mem_of_getElem? (i := 444) (by decide +kernel), List.mem_of_getElem? (i := 445) (by decide +kernel)⟩
theorem lw_p18 : lw_okq (⟨"CelSheets$Shortest", "findTwice", "(I)V"⟩, 7) := ⟨⟨by decide +kernel, by decide +kernel⟩, List.mem_of_getElem? (i := 144) (by decide +kernel), List.mem_of_getElem? (i := 448) (by decide +kernel), List.mem_of_getElem? (i := 449) (by decide +kernel)⟩
theorem lw_p19 : lw_okq (⟨"CelSheets", "hasPan", "(I)Z"⟩, 13) := ⟨⟨by decide +kernel, by decide +kernel⟩, List.mem_of_getElem? (i := 13) (by decide +kernel), List.mem_of_getElem? (i := 464) (by decide +kernel), List.mem_of_getElem? (i := 465) (by decide +kernel)⟩
theorem lw_p20 : lw_okq (⟨"CelSheets$Acts", "forgetFirst", "()V"⟩, 2) := ⟨⟨by decide +kernel, by decide +kernel⟩, List.mem_of_getElem? (i := 196) (by decide +kernel), List.mem_of_getElem? (i := 486) (by decide +kernel), List.mem_of_getElem? (i := 487) (by decide +kernel)⟩
theorem lw_p21 : lw_okq (⟨"CelSheets$Scene", "covers", "(IIII)Z"⟩, 7) := ⟨⟨by decide +kernel, by decide +kernel⟩, List.mem_of_getElem? (i := 86) (by decide +kernel), List.mem_of_getElem? (i := 566) (by decide +kernel), List.mem_of_getElem? (i := 567) (by decide +kernel)⟩
theorem lw_p22 : lw_okq (⟨"CelSheets$Scene", "viewBecomes", "(I)Z"⟩, 7) := ⟨⟨by decide +kernel, by decide +kernel⟩, List.mem_of_getElem? (i := 86) (by decide +kernel), List.mem_of_getElem? (i := 579) (by decide +kernel), List.mem_of_getElem? (i := 580) (by decide +kernel)⟩
theorem lw_p23 : lw_okq (⟨"CelSheets", "firstThatCanNotBe", "(IJ)I"⟩, 13) := ⟨⟨by decide +kernel, by decide +kernel⟩, List.mem_of_getElem? (i := 13) (by decide +kernel), List.mem_of_getElem? (i := 594) (by decide +kernel), List.mem_of_getElem? (i := 595) (by decide +kernel)⟩
theorem lw_p24 : lw_okq (⟨"CelSheets", "comesTrue", "(I)Z"⟩, 13) := ⟨⟨by decide +kernel, by decide +kernel⟩, List.mem_of_getElem? (i := 13) (by decide +kernel), List.mem_of_getElem? (i := 598) (by decide +kernel), List.mem_of_getElem? (i := 599) (by decide +kernel)⟩
theorem lw_p25 : lw_okq (⟨"CelSheets", "delayForNow", "(II)Z"⟩, 13) := ⟨⟨by decide +kernel, by decide +kernel⟩, List.mem_of_getElem? (i := 13) (by decide +kernel), List.mem_of_getElem? (i := 602) (by decide +kernel), List.mem_of_getElem? (i := 603) (by decide +kernel)⟩
theorem lw_p26 : lw_okq (⟨"CelSheets", "redrawForNow", "(III)Z"⟩, 13) := ⟨⟨by decide +kernel, by decide +kernel⟩, List.mem_of_getElem? (i := 13) (by decide +kernel), List.mem_of_getElem? (i := 606) (by decide +kernel), List.mem_of_getElem? (i := 607) (by decide +kernel)⟩
theorem lw_p27 : lw_okq (⟨"CelSheets$Scene", "levelCovers", "(III)Z"⟩, 7) := ⟨⟨by decide +kernel, by decide +kernel⟩, List.mem_of_getElem? (i := 86) (by decide +kernel), List.mem_of_getElem? (i := 644) (by decide +kernel), List.mem_of_getElem? (i := 645) (by decide +kernel)⟩
theorem lw_p28 : lw_okq (⟨"CelSheets", "keptIn", "(I)LCelSheets$Setting;"⟩, 13) := ⟨⟨by decide +kernel, by decide +kernel⟩, List.mem_of_getElem? (i := 13) (by decide +kernel), List.mem_of_getElem? (i := 677) (by decide +kernel), List.mem_of_getElem? (i := 678) (by decide +kernel)⟩
theorem lw_p29 : lw_okq (⟨"CelSheetsModel", "readReel", "()I"⟩, 28) := ⟨⟨by decide +kernel, by decide +kernel⟩, List.mem_of_getElem? (i := 689) (by decide +kernel), List.mem_of_getElem? (i := 799) (by decide +kernel), List.mem_of_getElem? (i := 800) (by decide +kernel)⟩
theorem lw_p30 : lw_okq (⟨"CelSheetsModel", "readDrawing", "()Z"⟩, 28) := ⟨⟨by decide +kernel, by decide +kernel⟩, List.mem_of_getElem? (i := 689) (by decide +kernel), List.mem_of_getElem? (i := 803) (by decide +kernel), List.mem_of_getElem? (i := 804) (by decide +kernel)⟩
theorem lw_p31 : lw_okq (⟨"CelSheetsModel", "figure", "(II)I"⟩, 28) := ⟨⟨by decide +kernel, by decide +kernel⟩, List.mem_of_getElem? (i := 689) (by decide +kernel), List.mem_of_getElem? (i := 807) (by decide +kernel), List.mem_of_getElem? (i := 808) (by decide +kernel)⟩
def lw_privs_2 : List (MethodName × Nat) := [(⟨"CelSheets$Shortest", "findItems", "([III)V"⟩, 7), (⟨"CelSheets$Shortest", "findOnce", "(I)V"⟩, 7), (⟨"CelSheets$Shortest", "findTwice", "(I)V"⟩, 7), (⟨"CelSheets", "hasPan", "(I)Z"⟩, 13), (⟨"CelSheets$Acts", "forgetFirst", "()V"⟩, 2), (⟨"CelSheets$Scene", "covers", "(IIII)Z"⟩, 7), (⟨"CelSheets$Scene", "viewBecomes", "(I)Z"⟩, 7), (⟨"CelSheets", "firstThatCanNotBe", "(IJ)I"⟩, 13), (⟨"CelSheets", "comesTrue", "(I)Z"⟩, 13), (⟨"CelSheets", "delayForNow", "(II)Z"⟩, 13), (⟨"CelSheets", "redrawForNow", "(III)Z"⟩, 13), (⟨"CelSheets$Scene", "levelCovers", "(III)Z"⟩, 7), (⟨"CelSheets", "keptIn", "(I)LCelSheets$Setting;"⟩, 13), (⟨"CelSheetsModel", "readReel", "()I"⟩, 28), (⟨"CelSheetsModel", "readDrawing", "()Z"⟩, 28), (⟨"CelSheetsModel", "figure", "(II)I"⟩, 28)]
theorem lw_r2 : ∀ q ∈ lw_privs_2, lw_okq q := List.forall_mem_cons.mpr ⟨lw_p16, List.forall_mem_cons.mpr ⟨lw_p17, List.forall_mem_cons.mpr ⟨lw_p18, List.forall_mem_cons.mpr ⟨lw_p19, List.forall_mem_cons.mpr ⟨lw_p20, List.forall_mem_cons.mpr ⟨lw_p21, List.forall_mem_cons.mpr ⟨lw_p22, List.forall_mem_cons.mpr ⟨lw_p23, List.forall_mem_cons.mpr ⟨lw_p24, List.forall_mem_cons.mpr ⟨lw_p25, List.forall_mem_cons.mpr ⟨lw_p26, List.forall_mem_cons.mpr ⟨lw_p27, List.forall_mem_cons.mpr ⟨lw_p28, List.forall_mem_cons.mpr ⟨lw_p29, List.forall_mem_cons.mpr ⟨lw_p30, List.forall_mem_cons.mpr ⟨lw_p31, fun _ h => absurd h List.not_mem_nil⟩⟩⟩⟩⟩⟩⟩⟩⟩⟩⟩⟩⟩⟩⟩⟩
theorem lw_p32 : lw_okq (⟨"CelSheetsModel", "readSheet", "()Z"⟩, 28) := ⟨⟨by decide +kernel, by decide +kernel⟩, List.mem_of_getElem? (i := 689) (by decide +kernel), List.mem_of_getElem? (i := 811) (by decide +kernel), List.mem_of_getElem? (i := 812) (by decide +kernel)⟩
theorem lw_p33 : lw_okq (⟨"CelSheetsModel", "over", "(II)V"⟩, 28) := ⟨⟨by decide +kernel, by decide +kernel⟩, List.mem_of_getElem? (i := 689) (by decide +kernel), List.mem_of_getElem? (i := 815) (by decide +kernel), List.mem_of_getElem? (i := 816) (by decide +kernel)⟩
theorem lw_p34 : lw_okq (⟨"CelSheetsModel", "spread", "(II)V"⟩, 28) := ⟨⟨by decide +kernel, by decide +kernel⟩, List.mem_of_getElem? (i := 689) (by decide +kernel), List.mem_of_getElem? (i := 819) (by decide +kernel), List.mem_of_getElem? (i := 820) (by decide +kernel)⟩
theorem lw_p35 : lw_okq (⟨"CelSheetsModel", "noDrawing", "(I)Z"⟩, 28) := ⟨⟨by decide +kernel, by decide +kernel⟩, List.mem_of_getElem? (i := 689) (by decide +kernel), List.mem_of_getElem? (i := 831) (by decide +kernel), List.mem_of_getElem? (i := 832) (by decide +kernel)⟩
theorem lw_p36 : lw_okq (⟨"CelSheetsModel", "mostOf", "([II)I"⟩, 28) := ⟨⟨by decide +kernel, by decide +kernel⟩, List.mem_of_getElem? (i := 689) (by decide +kernel), List.mem_of_getElem? (i := 835) (by decide +kernel), List.mem_of_getElem? (i := 836) (by decide +kernel)⟩
theorem lw_p37 : lw_okq (⟨"CelSheetsModel", "exposedOn", "([III)I"⟩, 28) := ⟨⟨by decide +kernel, by decide +kernel⟩, List.mem_of_getElem? (i := 689) (by decide +kernel), List.mem_of_getElem? (i := 839) (by decide +kernel), List.mem_of_getElem? (i := 840) (by decide +kernel)⟩
theorem lw_p38 : lw_okq (⟨"CelSheetsModel", "noLevel", "(I)Z"⟩, 28) := ⟨⟨by decide +kernel, by decide +kernel⟩, List.mem_of_getElem? (i := 689) (by decide +kernel), List.mem_of_getElem? (i := 847) (by decide +kernel), List.mem_of_getElem? (i := 848) (by decide +kernel)⟩
theorem lw_p39 : lw_okq (⟨"CelSheetsModel", "shortest", "(I)I"⟩, 28) := ⟨⟨by decide +kernel, by decide +kernel⟩, List.mem_of_getElem? (i := 689) (by decide +kernel), List.mem_of_getElem? (i := 851) (by decide +kernel), List.mem_of_getElem? (i := 852) (by decide +kernel)⟩
theorem lw_p40 : lw_okq (⟨"CelSheetsModel", "layLike", "(I)V"⟩, 28) := ⟨⟨by decide +kernel, by decide +kernel⟩, List.mem_of_getElem? (i := 689) (by decide +kernel), List.mem_of_getElem? (i := 855) (by decide +kernel), List.mem_of_getElem? (i := 856) (by decide +kernel)⟩
theorem lw_p41 : lw_okq (⟨"CelSheetsModel", "itemOf", "(III)I"⟩, 28) := ⟨⟨by decide +kernel, by decide +kernel⟩, List.mem_of_getElem? (i := 689) (by decide +kernel), List.mem_of_getElem? (i := 859) (by decide +kernel), List.mem_of_getElem? (i := 860) (by decide +kernel)⟩
theorem lw_p42 : lw_okq (⟨"CelSheetsModel", "bestDelay", "(I)I"⟩, 28) := ⟨⟨by decide +kernel, by decide +kernel⟩, List.mem_of_getElem? (i := 689) (by decide +kernel), List.mem_of_getElem? (i := 863) (by decide +kernel), List.mem_of_getElem? (i := 864) (by decide +kernel)⟩
theorem lw_p43 : lw_okq (⟨"CelSheetsModel", "layTrial", "()V"⟩, 28) := ⟨⟨by decide +kernel, by decide +kernel⟩, List.mem_of_getElem? (i := 689) (by decide +kernel), List.mem_of_getElem? (i := 867) (by decide +kernel), List.mem_of_getElem? (i := 868) (by decide +kernel)⟩
theorem lw_p44 : lw_okq (⟨"CelSheetsModel", "cels", "([I)I"⟩, 28) := ⟨⟨by decide +kernel, by decide +kernel⟩, List.mem_of_getElem? (i := 689) (by decide +kernel), List.mem_of_getElem? (i := 871) (by decide +kernel), List.mem_of_getElem? (i := 872) (by decide +kernel)⟩
theorem lw_p45 : lw_okq (⟨"CelSheetsModel", "note", "()V"⟩, 28) := ⟨⟨by decide +kernel, by decide +kernel⟩, List.mem_of_getElem? (i := 689) (by decide +kernel), List.mem_of_getElem? (i := 892) (by decide +kernel), List.mem_of_getElem? (i := 893) (by decide +kernel)⟩
theorem lw_p46 : lw_okq (⟨"CelSheetsModel", "isOrder", "(I)Z"⟩, 28) := ⟨⟨by decide +kernel, by decide +kernel⟩, List.mem_of_getElem? (i := 689) (by decide +kernel), List.mem_of_getElem? (i := 911) (by decide +kernel), List.mem_of_getElem? (i := 912) (by decide +kernel)⟩
theorem lw_p47 : lw_okq (⟨"CelSheetsModel", "every", "()I"⟩, 28) := ⟨⟨by decide +kernel, by decide +kernel⟩, List.mem_of_getElem? (i := 689) (by decide +kernel), List.mem_of_getElem? (i := 918) (by decide +kernel), List.mem_of_getElem? (i := 919) (by decide +kernel)⟩
def lw_privs_3 : List (MethodName × Nat) := [(⟨"CelSheetsModel", "readSheet", "()Z"⟩, 28), (⟨"CelSheetsModel", "over", "(II)V"⟩, 28), (⟨"CelSheetsModel", "spread", "(II)V"⟩, 28), (⟨"CelSheetsModel", "noDrawing", "(I)Z"⟩, 28), (⟨"CelSheetsModel", "mostOf", "([II)I"⟩, 28), (⟨"CelSheetsModel", "exposedOn", "([III)I"⟩, 28), (⟨"CelSheetsModel", "noLevel", "(I)Z"⟩, 28), (⟨"CelSheetsModel", "shortest", "(I)I"⟩, 28), (⟨"CelSheetsModel", "layLike", "(I)V"⟩, 28), (⟨"CelSheetsModel", "itemOf", "(III)I"⟩, 28), (⟨"CelSheetsModel", "bestDelay", "(I)I"⟩, 28), (⟨"CelSheetsModel", "layTrial", "()V"⟩, 28), (⟨"CelSheetsModel", "cels", "([I)I"⟩, 28), (⟨"CelSheetsModel", "note", "()V"⟩, 28), (⟨"CelSheetsModel", "isOrder", "(I)Z"⟩, 28), (⟨"CelSheetsModel", "every", "()I"⟩, 28)]
theorem lw_r3 : ∀ q ∈ lw_privs_3, lw_okq q := List.forall_mem_cons.mpr ⟨lw_p32, List.forall_mem_cons.mpr ⟨lw_p33, List.forall_mem_cons.mpr ⟨lw_p34, List.forall_mem_cons.mpr ⟨lw_p35, List.forall_mem_cons.mpr ⟨lw_p36, List.forall_mem_cons.mpr ⟨lw_p37, List.forall_mem_cons.mpr ⟨lw_p38, List.forall_mem_cons.mpr ⟨lw_p39, List.forall_mem_cons.mpr ⟨lw_p40, List.forall_mem_cons.mpr ⟨lw_p41, List.forall_mem_cons.mpr ⟨lw_p42, List.forall_mem_cons.mpr ⟨lw_p43, List.forall_mem_cons.mpr ⟨lw_p44, List.forall_mem_cons.mpr ⟨lw_p45, List.forall_mem_cons.mpr ⟨lw_p46, List.forall_mem_cons.mpr ⟨lw_p47, fun _ h => absurd h List.not_mem_nil⟩⟩⟩⟩⟩⟩⟩⟩⟩⟩⟩⟩⟩⟩⟩⟩
theorem lw_p48 : lw_okq (⟨"CelSheetsModel", "orderAt", "([II)I"⟩, 28) := ⟨⟨by decide +kernel, by decide +kernel⟩, List.mem_of_getElem? (i := 689) (by decide +kernel), List.mem_of_getElem? (i := 938) (by decide +kernel), List.mem_of_getElem? (i := 939) (by decide +kernel)⟩
theorem lw_p49 : lw_okq (⟨"CelSheetsModel", "firstOrder", "()I"⟩, 28) := ⟨⟨by decide +kernel, by decide +kernel⟩, List.mem_of_getElem? (i := 689) (by decide +kernel), List.mem_of_getElem? (i := 942) (by decide +kernel), List.mem_of_getElem? (i := 943) (by decide +kernel)⟩
theorem lw_p50 : lw_okq (⟨"CelSheetsModel", "lookBy", "([IIIII)I"⟩, 28) := ⟨⟨by decide +kernel, by decide +kernel⟩, List.mem_of_getElem? (i := 689) (by decide +kernel), List.mem_of_getElem? (i := 950) (by decide +kernel), List.mem_of_getElem? (i := 951) (by decide +kernel)⟩
theorem lw_p51 : lw_okq (⟨"CelSheetsModel", "changes", "()I"⟩, 28) := ⟨⟨by decide +kernel, by decide +kernel⟩, List.mem_of_getElem? (i := 689) (by decide +kernel), List.mem_of_getElem? (i := 961) (by decide +kernel), List.mem_of_getElem? (i := 962) (by decide +kernel)⟩
theorem lw_p52 : lw_okq (⟨"CelSheetsModel", "does", "(IIII)Z"⟩, 28) := ⟨⟨by decide +kernel, by decide +kernel⟩, List.mem_of_getElem? (i := 689) (by decide +kernel), List.mem_of_getElem? (i := 974) (by decide +kernel), List.mem_of_getElem? (i := 975) (by decide +kernel)⟩
theorem lw_p53 : lw_okq (⟨"CelSheetsModel", "coveredBy", "(I)I"⟩, 28) := ⟨⟨by decide +kernel, by decide +kernel⟩, List.mem_of_getElem? (i := 689) (by decide +kernel), List.mem_of_getElem? (i := 1001) (by decide +kernel), List.mem_of_getElem? (i := 1002) (by decide +kernel)⟩
def lw_privs_4 : List (MethodName × Nat) := [(⟨"CelSheetsModel", "orderAt", "([II)I"⟩, 28), (⟨"CelSheetsModel", "firstOrder", "()I"⟩, 28), (⟨"CelSheetsModel", "lookBy", "([IIIII)I"⟩, 28), (⟨"CelSheetsModel", "changes", "()I"⟩, 28), (⟨"CelSheetsModel", "does", "(IIII)Z"⟩, 28), (⟨"CelSheetsModel", "coveredBy", "(I)I"⟩, 28)]
theorem lw_r4 : ∀ q ∈ lw_privs_4, lw_okq q := List.forall_mem_cons.mpr ⟨lw_p48, List.forall_mem_cons.mpr ⟨lw_p49, List.forall_mem_cons.mpr ⟨lw_p50, List.forall_mem_cons.mpr ⟨lw_p51, List.forall_mem_cons.mpr ⟨lw_p52, List.forall_mem_cons.mpr ⟨lw_p53, fun _ h => absurd h List.not_mem_nil⟩⟩⟩⟩⟩⟩
def lw_privs : List (MethodName × Nat) := lw_privs_1 ++ (lw_privs_2 ++ (lw_privs_3 ++ (lw_privs_4)))
def lw_tbl : List Cond := k2_sels lw_privs ++ tables_1
theorem lw_privs_ok : ∀ q ∈ lw_privs, lw_okq q := by
  show ∀ q ∈ lw_privs_1 ++ (lw_privs_2 ++ (lw_privs_3 ++ (lw_privs_4))), lw_okq q
  exact List.forall_mem_append.mpr ⟨lw_r1, List.forall_mem_append.mpr ⟨lw_r2, List.forall_mem_append.mpr ⟨lw_r3, lw_r4⟩⟩⟩
-- ===== end of PART A; then your names; then what follows =====
def RX0 : String := "CelSheets$Acts"
def TX0 : u_T := fun k => match k with
  | 0 => ("CelSheets$Acts", "size", "I", false)
  | _ => ("CelSheets$Acts", "row", "[I", true)
def tyX0 : Nat → FieldType := fun k => match k with
  | 0 => .int
  | _ => .array .int
abbrev wsX00 : List Cond := u_ws RX0 TX0 2
theorem nmX0 : ∀ a, a < 2 → ∀ b, b < 2 → a ≠ b → (TX0 a).2.1 ≠ (TX0 b).2.1 := by decide +kernel
theorem tyX0_ok : ∀ k, k < 2 → parseFieldDescriptor (TX0 k).2.2.1 = some (tyX0 k) := by decide +kernel
abbrev cX0_init : ByteArray := prog_2_method_1_code
def yX0_init : MethodName := ⟨RX0, "<init>", "()V"⟩
abbrev cX0_clear : ByteArray := prog_2_method_2_code
def yX0_clear : MethodName := ⟨RX0, "clear", "()V"⟩
abbrev cX0_add : ByteArray := prog_2_method_3_code
def yX0_add : MethodName := ⟨RX0, "add", "(IIIII)V"⟩
abbrev cX0_forgetFirst : ByteArray := prog_2_method_4_code
def yX0_forgetFirst : MethodName := ⟨RX0, "forgetFirst", "()V"⟩
abbrev cX0_takeBackLast : ByteArray := prog_2_method_5_code
def yX0_takeBackLast : MethodName := ⟨RX0, "takeBackLast", "(LCelSheets$Setting;)V"⟩
def RX1 : String := "CelSheets$Reader"
def TX1 : u_T := fun k => match k with
  | 0 => ("CelSheets$Reader", "draft", "LCelSheets$Reel;", true)
  | 1 => ("CelSheets$Reader", "awaited", "I", false)
  | 2 => ("CelSheets$Reader", "depth", "I", false)
  | 3 => ("CelSheets$Reader", "x", "I", false)
  | 4 => ("CelSheets$Reader", "held", "I", false)
  | _ => ("CelSheets$Reader", "openedAt", "[I", true)
def tyX1 : Nat → FieldType := fun k => match k with
  | 0 => .object "CelSheets$Reel"
  | 1 => .int
  | 2 => .int
  | 3 => .int
  | 4 => .int
  | _ => .array .int
abbrev wsX10 : List Cond := u_ws RX1 TX1 6
theorem nmX1 : ∀ a, a < 6 → ∀ b, b < 6 → a ≠ b → (TX1 a).2.1 ≠ (TX1 b).2.1 := by decide +kernel
theorem tyX1_ok : ∀ k, k < 6 → parseFieldDescriptor (TX1 k).2.2.1 = some (tyX1 k) := by decide +kernel
abbrev cX1_init : ByteArray := prog_3_method_1_code
def yX1_init : MethodName := ⟨RX1, "<init>", "()V"⟩
abbrev cX1_firstFault : ByteArray := prog_3_method_2_code
def yX1_firstFault : MethodName := ⟨RX1, "firstFault", "([II)I"⟩
abbrev cX1_takes : ByteArray := prog_3_method_3_code
def yX1_takes : MethodName := ⟨RX1, "takes", "(I)Z"⟩
abbrev cX1_takesDrawing : ByteArray := prog_3_method_4_code
def yX1_takesDrawing : MethodName := ⟨RX1, "takesDrawing", "()Z"⟩
abbrev cX1_takesWidth : ByteArray := prog_3_method_5_code
def yX1_takesWidth : MethodName := ⟨RX1, "takesWidth", "(I)Z"⟩
abbrev cX1_takesLevel : ByteArray := prog_3_method_6_code
def yX1_takesLevel : MethodName := ⟨RX1, "takesLevel", "(I)Z"⟩
abbrev cX1_takesItemOrEnd : ByteArray := prog_3_method_7_code
def yX1_takesItemOrEnd : MethodName := ⟨RX1, "takesItemOrEnd", "(I)Z"⟩
abbrev cX1_takesItem : ByteArray := prog_3_method_8_code
def yX1_takesItem : MethodName := ⟨RX1, "takesItem", "(I)Z"⟩
abbrev cX1_takesOpening : ByteArray := prog_3_method_9_code
def yX1_takesOpening : MethodName := ⟨RX1, "takesOpening", "()Z"⟩
abbrev cX1_takesHold : ByteArray := prog_3_method_10_code
def yX1_takesHold : MethodName := ⟨RX1, "takesHold", "(I)Z"⟩
abbrev cX1_takesTimes : ByteArray := prog_3_method_11_code
def yX1_takesTimes : MethodName := ⟨RX1, "takesTimes", "(I)Z"⟩
def RX2 : String := "CelSheets$Reel"
def TX2 : u_T := fun k => match k with
  | 0 => ("CelSheets$Reel", "drawings", "I", false)
  | 1 => ("CelSheets$Reel", "levels", "I", false)
  | 2 => ("CelSheets$Reel", "firstXs", "[I", true)
  | 3 => ("CelSheets$Reel", "firstWidths", "[I", true)
  | 4 => ("CelSheets$Reel", "longs", "[I", true)
  | _ => ("CelSheets$Reel", "sheets", "[I", true)
def tyX2 : Nat → FieldType := fun k => match k with
  | 0 => .int
  | 1 => .int
  | 2 => .array .int
  | 3 => .array .int
  | 4 => .array .int
  | _ => .array .int
abbrev wsX20 : List Cond := u_ws RX2 TX2 6
theorem nmX2 : ∀ a, a < 6 → ∀ b, b < 6 → a ≠ b → (TX2 a).2.1 ≠ (TX2 b).2.1 := by decide +kernel
theorem tyX2_ok : ∀ k, k < 6 → parseFieldDescriptor (TX2 k).2.2.1 = some (tyX2 k) := by decide +kernel
abbrev cX2_init : ByteArray := prog_4_method_1_code
def yX2_init : MethodName := ⟨RX2, "<init>", "()V"⟩
abbrev cX2_clear : ByteArray := prog_4_method_2_code
def yX2_clear : MethodName := ⟨RX2, "clear", "()V"⟩
abbrev cX2_addDrawing : ByteArray := prog_4_method_3_code
def yX2_addDrawing : MethodName := ⟨RX2, "addDrawing", "(II)V"⟩
abbrev cX2_addLevel : ByteArray := prog_4_method_4_code
def yX2_addLevel : MethodName := ⟨RX2, "addLevel", "()V"⟩
abbrev cX2_lastLong : ByteArray := prog_4_method_5_code
def yX2_lastLong : MethodName := ⟨RX2, "lastLong", "()I"⟩
abbrev cX2_hold : ByteArray := prog_4_method_6_code
def yX2_hold : MethodName := ⟨RX2, "hold", "(II)V"⟩
abbrev cX2_repeatFrom : ByteArray := prog_4_method_7_code
def yX2_repeatFrom : MethodName := ⟨RX2, "repeatFrom", "(II)V"⟩
abbrev cX2_append : ByteArray := prog_4_method_8_code
def yX2_append : MethodName := ⟨RX2, "append", "(I)V"⟩
abbrev cX2_copyFrom : ByteArray := prog_4_method_9_code
def yX2_copyFrom : MethodName := ⟨RX2, "copyFrom", "(LCelSheets$Reel;)V"⟩
def RX3 : String := "CelSheets$Scene"
def TX3 : u_T := fun k => match k with
  | 0 => ("CelSheets$Scene", "reel", "LCelSheets$Reel;", true)
  | 1 => ("CelSheets$Scene", "setting", "LCelSheets$Setting;", true)
  | 2 => ("CelSheets$Scene", "shortest", "LCelSheets$Shortest;", true)
  | 3 => ("CelSheets$Scene", "shorts", "[I", true)
  | 4 => ("CelSheets$Scene", "view", "[I", true)
  | 5 => ("CelSheets$Scene", "atOnce", "[I", true)
  | _ => ("CelSheets$Scene", "most", "[I", true)
def tyX3 : Nat → FieldType := fun k => match k with
  | 0 => .object "CelSheets$Reel"
  | 1 => .object "CelSheets$Setting"
  | 2 => .object "CelSheets$Shortest"
  | 3 => .array .int
  | 4 => .array .int
  | 5 => .array .int
  | _ => .array .int
abbrev wsX30 : List Cond := u_ws RX3 TX3 7
theorem nmX3 : ∀ a, a < 7 → ∀ b, b < 7 → a ≠ b → (TX3 a).2.1 ≠ (TX3 b).2.1 := by decide +kernel
theorem tyX3_ok : ∀ k, k < 7 → parseFieldDescriptor (TX3 k).2.2.1 = some (tyX3 k) := by decide +kernel
abbrev cX3_init : ByteArray := prog_5_method_1_code
def yX3_init : MethodName := ⟨RX3, "<init>", "()V"⟩
abbrev cX3_forgetShorts : ByteArray := prog_5_method_2_code
def yX3_forgetShorts : MethodName := ⟨RX3, "forgetShorts", "()V"⟩
abbrev cX3_drawingOn : ByteArray := prog_5_method_3_code
def yX3_drawingOn : MethodName := ⟨RX3, "drawingOn", "(II)I"⟩
abbrev cX3_isOrder : ByteArray := prog_5_method_4_code
def yX3_isOrder : MethodName := ⟨RX3, "isOrder", "(I)Z"⟩
abbrev cX3_levelInOrder : ByteArray := prog_5_method_5_code
def yX3_levelInOrder : MethodName := ⟨RX3, "levelInOrder", "(II)I"⟩
abbrev cX3_orderAt : ByteArray := prog_5_method_6_code
def yX3_orderAt : MethodName := ⟨RX3, "orderAt", "(I)I"⟩
abbrev cX3_covers : ByteArray := prog_5_method_7_code
def yX3_covers : MethodName := ⟨RX3, "covers", "(IIII)Z"⟩
abbrev cX3_levelCovers : ByteArray := prog_5_method_8_code
def yX3_levelCovers : MethodName := ⟨RX3, "levelCovers", "(III)Z"⟩
abbrev cX3_seenAt : ByteArray := prog_5_method_9_code
def yX3_seenAt : MethodName := ⟨RX3, "seenAt", "(III)I"⟩
abbrev cX3_levelsCovering : ByteArray := prog_5_method_10_code
def yX3_levelsCovering : MethodName := ⟨RX3, "levelsCovering", "(II)I"⟩
abbrev cX3_changes : ByteArray := prog_5_method_11_code
def yX3_changes : MethodName := ⟨RX3, "changes", "()I"⟩
abbrev cX3_viewBecomes : ByteArray := prog_5_method_12_code
def yX3_viewBecomes : MethodName := ⟨RX3, "viewBecomes", "(I)Z"⟩
abbrev cX3_cels : ByteArray := prog_5_method_13_code
def yX3_cels : MethodName := ⟨RX3, "cels", "()I"⟩
abbrev cX3_mostLevelsOf : ByteArray := prog_5_method_14_code
def yX3_mostLevelsOf : MethodName := ⟨RX3, "mostLevelsOf", "(I)I"⟩
abbrev cX3_findMost : ByteArray := prog_5_method_15_code
def yX3_findMost : MethodName := ⟨RX3, "findMost", "()V"⟩
abbrev cX3_countDrawing : ByteArray := prog_5_method_16_code
def yX3_countDrawing : MethodName := ⟨RX3, "countDrawing", "(I)V"⟩
abbrev cX3_clearDrawings : ByteArray := prog_5_method_17_code
def yX3_clearDrawings : MethodName := ⟨RX3, "clearDrawings", "([I)V"⟩
abbrev cX3_shortOf : ByteArray := prog_5_method_18_code
def yX3_shortOf : MethodName := ⟨RX3, "shortOf", "(I)I"⟩
abbrev cX3_bestOf : ByteArray := prog_5_method_19_code
def yX3_bestOf : MethodName := ⟨RX3, "bestOf", "(I)I"⟩
abbrev cX3_shareInTwelfths : ByteArray := prog_5_method_20_code
def yX3_shareInTwelfths : MethodName := ⟨RX3, "shareInTwelfths", "(I)I"⟩
def RX4 : String := "CelSheets$Setting"
def TX4 : u_T := fun k => match k with
  | 0 => ("CelSheets$Setting", "xs", "[I", true)
  | 1 => ("CelSheets$Setting", "widths", "[I", true)
  | 2 => ("CelSheets$Setting", "delays", "[I", true)
  | 3 => ("CelSheets$Setting", "starts", "[I", true)
  | 4 => ("CelSheets$Setting", "bys", "[I", true)
  | 5 => ("CelSheets$Setting", "everies", "[I", true)
  | 6 => ("CelSheets$Setting", "switches", "I", false)
  | 7 => ("CelSheets$Setting", "switchFrames", "[I", true)
  | _ => ("CelSheets$Setting", "switchOrders", "[I", true)
def tyX4 : Nat → FieldType := fun k => match k with
  | 0 => .array .int
  | 1 => .array .int
  | 2 => .array .int
  | 3 => .array .int
  | 4 => .array .int
  | 5 => .array .int
  | 6 => .int
  | 7 => .array .int
  | _ => .array .int
abbrev wsX40 : List Cond := u_ws RX4 TX4 9
theorem nmX4 : ∀ a, a < 9 → ∀ b, b < 9 → a ≠ b → (TX4 a).2.1 ≠ (TX4 b).2.1 := by decide +kernel
theorem tyX4_ok : ∀ k, k < 9 → parseFieldDescriptor (TX4 k).2.2.1 = some (tyX4 k) := by decide +kernel
abbrev cX4_init : ByteArray := prog_6_method_1_code
def yX4_init : MethodName := ⟨RX4, "<init>", "()V"⟩
abbrev cX4_beginWith : ByteArray := prog_6_method_2_code
def yX4_beginWith : MethodName := ⟨RX4, "beginWith", "(LCelSheets$Reel;)V"⟩
abbrev cX4_copyFrom : ByteArray := prog_6_method_3_code
def yX4_copyFrom : MethodName := ⟨RX4, "copyFrom", "(LCelSheets$Setting;)V"⟩
abbrev cX4_tellPan : ByteArray := prog_6_method_4_code
def yX4_tellPan : MethodName := ⟨RX4, "tellPan", "(IIII)V"⟩
abbrev cX4_panAt : ByteArray := prog_6_method_5_code
def yX4_panAt : MethodName := ⟨RX4, "panAt", "(II)I"⟩
abbrev cX4_addSwitch : ByteArray := prog_6_method_6_code
def yX4_addSwitch : MethodName := ⟨RX4, "addSwitch", "(II)V"⟩
abbrev cX4_dropSwitch : ByteArray := prog_6_method_7_code
def yX4_dropSwitch : MethodName := ⟨RX4, "dropSwitch", "()Z"⟩
abbrev cX4_switchFor : ByteArray := prog_6_method_8_code
def yX4_switchFor : MethodName := ⟨RX4, "switchFor", "(I)I"⟩
def RX5 : String := "CelSheets$Shortest"
def TX5 : u_T := fun k => match k with
  | 0 => ("CelSheets$Shortest", "length", "I", false)
  | 1 => ("CelSheets$Shortest", "frames", "[I", true)
  | 2 => ("CelSheets$Shortest", "like", "[I", true)
  | 3 => ("CelSheets$Shortest", "plain", "[I", true)
  | 4 => ("CelSheets$Shortest", "item", "[I", true)
  | 5 => ("CelSheets$Shortest", "once", "[I", true)
  | _ => ("CelSheets$Shortest", "twice", "[I", true)
def tyX5 : Nat → FieldType := fun k => match k with
  | 0 => .int
  | 1 => .array .int
  | 2 => .array .int
  | 3 => .array .int
  | 4 => .array .int
  | 5 => .array .int
  | _ => .array .int
abbrev wsX50 : List Cond := u_ws RX5 TX5 7
theorem nmX5 : ∀ a, a < 7 → ∀ b, b < 7 → a ≠ b → (TX5 a).2.1 ≠ (TX5 b).2.1 := by decide +kernel
theorem tyX5_ok : ∀ k, k < 7 → parseFieldDescriptor (TX5 k).2.2.1 = some (tyX5 k) := by decide +kernel
abbrev cX5_init : ByteArray := prog_7_method_1_code
def yX5_init : MethodName := ⟨RX5, "<init>", "()V"⟩
abbrev cX5_lettersFor : ByteArray := prog_7_method_2_code
def yX5_lettersFor : MethodName := ⟨RX5, "lettersFor", "(LCelSheets$Reel;I)I"⟩
abbrev cX5_findLike : ByteArray := prog_7_method_3_code
def yX5_findLike : MethodName := ⟨RX5, "findLike", "(I)V"⟩
abbrev cX5_findPlain : ByteArray := prog_7_method_4_code
def yX5_findPlain : MethodName := ⟨RX5, "findPlain", "(I)V"⟩
abbrev cX5_findItems : ByteArray := prog_7_method_5_code
def yX5_findItems : MethodName := ⟨RX5, "findItems", "([III)V"⟩
abbrev cX5_findOnce : ByteArray := prog_7_method_6_code
def yX5_findOnce : MethodName := ⟨RX5, "findOnce", "(I)V"⟩
abbrev cX5_findTwice : ByteArray := prog_7_method_7_code
def yX5_findTwice : MethodName := ⟨RX5, "findTwice", "(I)V"⟩
def RX6 : String := "CelSheets$Sightings"
def TX6 : u_T := fun k => match k with
  | 0 => ("CelSheets$Sightings", "size", "I", false)
  | 1 => ("CelSheets$Sightings", "frames", "[I", true)
  | 2 => ("CelSheets$Sightings", "windows", "[I", true)
  | _ => ("CelSheets$Sightings", "values", "[I", true)
def tyX6 : Nat → FieldType := fun k => match k with
  | 0 => .int
  | 1 => .array .int
  | 2 => .array .int
  | _ => .array .int
abbrev wsX60 : List Cond := u_ws RX6 TX6 4
theorem nmX6 : ∀ a, a < 4 → ∀ b, b < 4 → a ≠ b → (TX6 a).2.1 ≠ (TX6 b).2.1 := by decide +kernel
theorem tyX6_ok : ∀ k, k < 4 → parseFieldDescriptor (TX6 k).2.2.1 = some (tyX6 k) := by decide +kernel
abbrev cX6_init : ByteArray := prog_8_method_1_code
def yX6_init : MethodName := ⟨RX6, "<init>", "()V"⟩
abbrev cX6_clear : ByteArray := prog_8_method_2_code
def yX6_clear : MethodName := ⟨RX6, "clear", "()V"⟩
abbrev cX6_add : ByteArray := prog_8_method_3_code
def yX6_add : MethodName := ⟨RX6, "add", "(III)V"⟩
abbrev cX6_allSoWithout : ByteArray := prog_8_method_4_code
def yX6_allSoWithout : MethodName := ⟨RX6, "allSoWithout", "(ILCelSheets$Scene;)Z"⟩
def RX7 : String := "CelSheets"
def TX7 : u_T := fun k => match k with
  | 0 => ("CelSheets", "text", "[I", true)
  | 1 => ("CelSheets", "textLength", "I", false)
  | 2 => ("CelSheets", "reader", "LCelSheets$Reader;", true)
  | 3 => ("CelSheets", "scene", "LCelSheets$Scene;", true)
  | 4 => ("CelSheets", "told", "LCelSheets$Reel;", true)
  | 5 => ("CelSheets", "now", "LCelSheets$Setting;", true)
  | 6 => ("CelSheets", "acts", "LCelSheets$Acts;", true)
  | 7 => ("CelSheets", "sightings", "LCelSheets$Sightings;", true)
  | 8 => ("CelSheets", "spare", "LCelSheets$Setting;", true)
  | 9 => ("CelSheets", "firstKept", "LCelSheets$Setting;", true)
  | 10 => ("CelSheets", "secondKept", "LCelSheets$Setting;", true)
  | 11 => ("CelSheets", "isKept", "[Z", true)
  | _ => ("CelSheets", "seedNow", "J", false)
def tyX7 : Nat → FieldType := fun k => match k with
  | 0 => .array .int
  | 1 => .int
  | 2 => .object "CelSheets$Reader"
  | 3 => .object "CelSheets$Scene"
  | 4 => .object "CelSheets$Reel"
  | 5 => .object "CelSheets$Setting"
  | 6 => .object "CelSheets$Acts"
  | 7 => .object "CelSheets$Sightings"
  | 8 => .object "CelSheets$Setting"
  | 9 => .object "CelSheets$Setting"
  | 10 => .object "CelSheets$Setting"
  | 11 => .array .boolean
  | _ => .long
abbrev wsX70 : List Cond := u_ws RX7 TX7 13
theorem nmX7 : ∀ a, a < 13 → ∀ b, b < 13 → a ≠ b → (TX7 a).2.1 ≠ (TX7 b).2.1 := by decide +kernel
theorem tyX7_ok : ∀ k, k < 13 → parseFieldDescriptor (TX7 k).2.2.1 = some (tyX7 k) := by decide +kernel
abbrev cX7_init : ByteArray := prog_1_method_1_code
def yX7_init : MethodName := ⟨RX7, "<init>", "()V"⟩
abbrev cX7_write : ByteArray := prog_1_method_2_code
def yX7_write : MethodName := ⟨RX7, "write", "(I)I"⟩
abbrev cX7_wipe : ByteArray := prog_1_method_3_code
def yX7_wipe : MethodName := ⟨RX7, "wipe", "()I"⟩
abbrev cX7_fault : ByteArray := prog_1_method_4_code
def yX7_fault : MethodName := ⟨RX7, "fault", "()I"⟩
abbrev cX7_reel : ByteArray := prog_1_method_5_code
def yX7_reel : MethodName := ⟨RX7, "reel", "()I"⟩
abbrev cX7_drawing : ByteArray := prog_1_method_6_code
def yX7_drawing : MethodName := ⟨RX7, "drawing", "(II)I"⟩
abbrev cX7_level : ByteArray := prog_1_method_7_code
def yX7_level : MethodName := ⟨RX7, "level", "(II)I"⟩
abbrev cX7_where : ByteArray := prog_1_method_8_code
def yX7_where : MethodName := ⟨RX7, "where", "(II)I"⟩
abbrev cX7_redraw : ByteArray := prog_1_method_9_code
def yX7_redraw : MethodName := ⟨RX7, "redraw", "(III)I"⟩
abbrev cX7_delay : ByteArray := prog_1_method_10_code
def yX7_delay : MethodName := ⟨RX7, "delay", "(II)I"⟩
abbrev cX7_pan : ByteArray := prog_1_method_11_code
def yX7_pan : MethodName := ⟨RX7, "pan", "(IIII)I"⟩
abbrev cX7_swap : ByteArray := prog_1_method_12_code
def yX7_swap : MethodName := ⟨RX7, "swap", "(II)I"⟩
abbrev cX7_back : ByteArray := prog_1_method_13_code
def yX7_back : MethodName := ⟨RX7, "back", "()I"⟩
abbrev cX7_undo : ByteArray := prog_1_method_14_code
def yX7_undo : MethodName := ⟨RX7, "undo", "()I"⟩
abbrev cX7_exposed : ByteArray := prog_1_method_15_code
def yX7_exposed : MethodName := ⟨RX7, "exposed", "(II)I"⟩
abbrev cX7_order : ByteArray := prog_1_method_16_code
def yX7_order : MethodName := ⟨RX7, "order", "(I)I"⟩
abbrev cX7_look : ByteArray := prog_1_method_17_code
def yX7_look : MethodName := ⟨RX7, "look", "(II)I"⟩
abbrev cX7_ask : ByteArray := prog_1_method_18_code
def yX7_ask : MethodName := ⟨RX7, "ask", "(I)I"⟩
abbrev cX7_judge : ByteArray := prog_1_method_19_code
def yX7_judge : MethodName := ⟨RX7, "judge", "(IJ)I"⟩
abbrev cX7_see : ByteArray := prog_1_method_20_code
def yX7_see : MethodName := ⟨RX7, "see", "(III)I"⟩
abbrev cX7_unsee : ByteArray := prog_1_method_21_code
def yX7_unsee : MethodName := ⟨RX7, "unsee", "()I"⟩
abbrev cX7_which : ByteArray := prog_1_method_22_code
def yX7_which : MethodName := ⟨RX7, "which", "()I"⟩
abbrev cX7_share : ByteArray := prog_1_method_23_code
def yX7_share : MethodName := ⟨RX7, "share", "(IZ)I"⟩
abbrev cX7_lost : ByteArray := prog_1_method_24_code
def yX7_lost : MethodName := ⟨RX7, "lost", "(IIIZ)I"⟩
abbrev cX7_seed : ByteArray := prog_1_method_25_code
def yX7_seed : MethodName := ⟨RX7, "seed", "(J)J"⟩
abbrev cX7_looks : ByteArray := prog_1_method_26_code
def yX7_looks : MethodName := ⟨RX7, "looks", "(I)I"⟩
abbrev cX7_keep : ByteArray := prog_1_method_27_code
def yX7_keep : MethodName := ⟨RX7, "keep", "(I)I"⟩
abbrev cX7_again : ByteArray := prog_1_method_28_code
def yX7_again : MethodName := ⟨RX7, "again", "(I)I"⟩
abbrev cX7_count : ByteArray := prog_1_method_29_code
def yX7_count : MethodName := ⟨RX7, "count", "(I)I"⟩
abbrev cX7_isDrawing : ByteArray := prog_1_method_30_code
def yX7_isDrawing : MethodName := ⟨RX7, "isDrawing", "(I)Z"⟩
abbrev cX7_isLevel : ByteArray := prog_1_method_31_code
def yX7_isLevel : MethodName := ⟨RX7, "isLevel", "(I)Z"⟩
abbrev cX7_hasPan : ByteArray := prog_1_method_32_code
def yX7_hasPan : MethodName := ⟨RX7, "hasPan", "(I)Z"⟩
abbrev cX7_panOf : ByteArray := prog_1_method_33_code
def yX7_panOf : MethodName := ⟨RX7, "panOf", "(I)I"⟩
abbrev cX7_isFrame : ByteArray := prog_1_method_34_code
def yX7_isFrame : MethodName := ⟨RX7, "isFrame", "(I)Z"⟩
abbrev cX7_isWindow : ByteArray := prog_1_method_35_code
def yX7_isWindow : MethodName := ⟨RX7, "isWindow", "(I)Z"⟩
abbrev cX7_keptIn : ByteArray := prog_1_method_36_code
def yX7_keptIn : MethodName := ⟨RX7, "keptIn", "(I)LCelSheets$Setting;"⟩
abbrev cX7_firstThatCanNotBe : ByteArray := prog_1_method_37_code
def yX7_firstThatCanNotBe : MethodName := ⟨RX7, "firstThatCanNotBe", "(IJ)I"⟩
abbrev cX7_comesTrue : ByteArray := prog_1_method_38_code
def yX7_comesTrue : MethodName := ⟨RX7, "comesTrue", "(I)Z"⟩
abbrev cX7_delayForNow : ByteArray := prog_1_method_39_code
def yX7_delayForNow : MethodName := ⟨RX7, "delayForNow", "(II)Z"⟩
abbrev cX7_redrawForNow : ByteArray := prog_1_method_40_code
def yX7_redrawForNow : MethodName := ⟨RX7, "redrawForNow", "(III)Z"⟩
abbrev cX7_fractionPart : ByteArray := prog_1_method_41_code
def yX7_fractionPart : MethodName := ⟨RX7, "fractionPart", "(IIZ)I"⟩
abbrev cX7_commonDivisor : ByteArray := prog_1_method_42_code
def yX7_commonDivisor : MethodName := ⟨RX7, "commonDivisor", "(II)I"⟩
def RX8 : String := "CelSheetsModel"
def TX8 : u_T := fun k => match k with
  | 0 => ("CelSheetsModel", "thrown", "I", false)
  | 1 => ("CelSheetsModel", "text", "[I", true)
  | 2 => ("CelSheetsModel", "textSize", "I", false)
  | 3 => ("CelSheetsModel", "place", "I", false)
  | 4 => ("CelSheetsModel", "drawings", "I", false)
  | 5 => ("CelSheetsModel", "levels", "I", false)
  | 6 => ("CelSheetsModel", "sheets", "[I", true)
  | 7 => ("CelSheetsModel", "longs", "[I", true)
  | 8 => ("CelSheetsModel", "readDrawings", "I", false)
  | 9 => ("CelSheetsModel", "readLevels", "I", false)
  | 10 => ("CelSheetsModel", "readSheets", "[I", true)
  | 11 => ("CelSheetsModel", "readLongs", "[I", true)
  | 12 => ("CelSheetsModel", "readPage", "[I", true)
  | 13 => ("CelSheetsModel", "began", "[I", true)
  | 14 => ("CelSheetsModel", "has", "[Z", true)
  | 15 => ("CelSheetsModel", "page", "[I", true)
  | 16 => ("CelSheetsModel", "trial", "[I", true)
  | 17 => ("CelSheetsModel", "book", "[I", true)
  | 18 => ("CelSheetsModel", "doings", "I", false)
  | 19 => ("CelSheetsModel", "kept", "[I", true)
  | 20 => ("CelSheetsModel", "isKept", "[Z", true)
  | 21 => ("CelSheetsModel", "seen", "I", false)
  | 22 => ("CelSheetsModel", "seenFrame", "[I", true)
  | 23 => ("CelSheetsModel", "seenWindow", "[I", true)
  | 24 => ("CelSheetsModel", "seenWhat", "[I", true)
  | 25 => ("CelSheetsModel", "seed", "J", false)
  | 26 => ("CelSheetsModel", "like", "[I", true)
  | _ => ("CelSheetsModel", "letters", "[I", true)
def tyX8 : Nat → FieldType := fun k => match k with
  | 0 => .int
  | 1 => .array .int
  | 2 => .int
  | 3 => .int
  | 4 => .int
  | 5 => .int
  | 6 => .array .int
  | 7 => .array .int
  | 8 => .int
  | 9 => .int
  | 10 => .array .int
  | 11 => .array .int
  | 12 => .array .int
  | 13 => .array .int
  | 14 => .array .boolean
  | 15 => .array .int
  | 16 => .array .int
  | 17 => .array .int
  | 18 => .int
  | 19 => .array .int
  | 20 => .array .boolean
  | 21 => .int
  | 22 => .array .int
  | 23 => .array .int
  | 24 => .array .int
  | 25 => .long
  | 26 => .array .int
  | _ => .array .int
abbrev wsX80 : List Cond := u_ws RX8 TX8 28
theorem nmX8 : ∀ a, a < 28 → ∀ b, b < 28 → a ≠ b → (TX8 a).2.1 ≠ (TX8 b).2.1 := by decide +kernel
theorem tyX8_ok : ∀ k, k < 28 → parseFieldDescriptor (TX8 k).2.2.1 = some (tyX8 k) := by decide +kernel
abbrev cX8_init : ByteArray := prog_10_method_1_code
def yX8_init : MethodName := ⟨RX8, "<init>", "()V"⟩
abbrev cX8_in : ByteArray := prog_10_method_3_code
def yX8_in : MethodName := ⟨RX8, "in", "(JJJ)Z"⟩
abbrev cX8_has : ByteArray := prog_10_method_4_code
def yX8_has : MethodName := ⟨RX8, "has", "(II)Z"⟩
abbrev cX8_ones : ByteArray := prog_10_method_5_code
def yX8_ones : MethodName := ⟨RX8, "ones", "(I)I"⟩
abbrev cX8_power : ByteArray := prog_10_method_6_code
def yX8_power : MethodName := ⟨RX8, "power", "(II)I"⟩
abbrev cX8_fresh : ByteArray := prog_10_method_7_code
def yX8_fresh : MethodName := ⟨RX8, "fresh", "([I)V"⟩
abbrev cX8_layTrial : ByteArray := prog_10_method_8_code
def yX8_layTrial : MethodName := ⟨RX8, "layTrial", "()V"⟩
abbrev cX8_noLevel : ByteArray := prog_10_method_9_code
def yX8_noLevel : MethodName := ⟨RX8, "noLevel", "(I)Z"⟩
abbrev cX8_noDrawing : ByteArray := prog_10_method_10_code
def yX8_noDrawing : MethodName := ⟨RX8, "noDrawing", "(I)Z"⟩
abbrev cX8_isFrame : ByteArray := prog_10_method_11_code
def yX8_isFrame : MethodName := ⟨RX8, "isFrame", "(I)Z"⟩
abbrev cX8_write : ByteArray := prog_10_method_12_code
def yX8_write : MethodName := ⟨RX8, "write", "(I)I"⟩
abbrev cX8_wipe : ByteArray := prog_10_method_13_code
def yX8_wipe : MethodName := ⟨RX8, "wipe", "()I"⟩
abbrev cX8_figure : ByteArray := prog_10_method_14_code
def yX8_figure : MethodName := ⟨RX8, "figure", "(II)I"⟩
abbrev cX8_readDrawing : ByteArray := prog_10_method_15_code
def yX8_readDrawing : MethodName := ⟨RX8, "readDrawing", "()Z"⟩
abbrev cX8_spread : ByteArray := prog_10_method_16_code
def yX8_spread : MethodName := ⟨RX8, "spread", "(II)V"⟩
abbrev cX8_over : ByteArray := prog_10_method_17_code
def yX8_over : MethodName := ⟨RX8, "over", "(II)V"⟩
abbrev cX8_readSheet : ByteArray := prog_10_method_18_code
def yX8_readSheet : MethodName := ⟨RX8, "readSheet", "()Z"⟩
abbrev cX8_readReel : ByteArray := prog_10_method_19_code
def yX8_readReel : MethodName := ⟨RX8, "readReel", "()I"⟩
abbrev cX8_fault : ByteArray := prog_10_method_20_code
def yX8_fault : MethodName := ⟨RX8, "fault", "()I"⟩
abbrev cX8_reel : ByteArray := prog_10_method_21_code
def yX8_reel : MethodName := ⟨RX8, "reel", "()I"⟩
abbrev cX8_exposedOn : ByteArray := prog_10_method_22_code
def yX8_exposedOn : MethodName := ⟨RX8, "exposedOn", "([III)I"⟩
abbrev cX8_whereIs : ByteArray := prog_10_method_23_code
def yX8_whereIs : MethodName := ⟨RX8, "whereIs", "([III)I"⟩
abbrev cX8_firstOrder : ByteArray := prog_10_method_24_code
def yX8_firstOrder : MethodName := ⟨RX8, "firstOrder", "()I"⟩
abbrev cX8_orderAt : ByteArray := prog_10_method_25_code
def yX8_orderAt : MethodName := ⟨RX8, "orderAt", "([II)I"⟩
abbrev cX8_lookBy : ByteArray := prog_10_method_26_code
def yX8_lookBy : MethodName := ⟨RX8, "lookBy", "([IIIII)I"⟩
abbrev cX8_every : ByteArray := prog_10_method_27_code
def yX8_every : MethodName := ⟨RX8, "every", "()I"⟩
abbrev cX8_mostOf : ByteArray := prog_10_method_28_code
def yX8_mostOf : MethodName := ⟨RX8, "mostOf", "([II)I"⟩
abbrev cX8_cels : ByteArray := prog_10_method_29_code
def yX8_cels : MethodName := ⟨RX8, "cels", "([I)I"⟩
abbrev cX8_changes : ByteArray := prog_10_method_30_code
def yX8_changes : MethodName := ⟨RX8, "changes", "()I"⟩
abbrev cX8_layLike : ByteArray := prog_10_method_31_code
def yX8_layLike : MethodName := ⟨RX8, "layLike", "(I)V"⟩
abbrev cX8_itemOf : ByteArray := prog_10_method_32_code
def yX8_itemOf : MethodName := ⟨RX8, "itemOf", "(III)I"⟩
abbrev cX8_shortest : ByteArray := prog_10_method_33_code
def yX8_shortest : MethodName := ⟨RX8, "shortest", "(I)I"⟩
abbrev cX8_bestDelay : ByteArray := prog_10_method_34_code
def yX8_bestDelay : MethodName := ⟨RX8, "bestDelay", "(I)I"⟩
abbrev cX8_drawing : ByteArray := prog_10_method_35_code
def yX8_drawing : MethodName := ⟨RX8, "drawing", "(II)I"⟩
abbrev cX8_level : ByteArray := prog_10_method_36_code
def yX8_level : MethodName := ⟨RX8, "level", "(II)I"⟩
abbrev cX8_where : ByteArray := prog_10_method_37_code
def yX8_where : MethodName := ⟨RX8, "where", "(II)I"⟩
abbrev cX8_note : ByteArray := prog_10_method_38_code
def yX8_note : MethodName := ⟨RX8, "note", "()V"⟩
abbrev cX8_redraw : ByteArray := prog_10_method_39_code
def yX8_redraw : MethodName := ⟨RX8, "redraw", "(III)I"⟩
abbrev cX8_delay : ByteArray := prog_10_method_40_code
def yX8_delay : MethodName := ⟨RX8, "delay", "(II)I"⟩
abbrev cX8_pan : ByteArray := prog_10_method_41_code
def yX8_pan : MethodName := ⟨RX8, "pan", "(IIII)I"⟩
abbrev cX8_isOrder : ByteArray := prog_10_method_42_code
def yX8_isOrder : MethodName := ⟨RX8, "isOrder", "(I)Z"⟩
abbrev cX8_swap : ByteArray := prog_10_method_43_code
def yX8_swap : MethodName := ⟨RX8, "swap", "(II)I"⟩
abbrev cX8_back : ByteArray := prog_10_method_44_code
def yX8_back : MethodName := ⟨RX8, "back", "()I"⟩
abbrev cX8_undo : ByteArray := prog_10_method_45_code
def yX8_undo : MethodName := ⟨RX8, "undo", "()I"⟩
abbrev cX8_exposed : ByteArray := prog_10_method_46_code
def yX8_exposed : MethodName := ⟨RX8, "exposed", "(II)I"⟩
abbrev cX8_order : ByteArray := prog_10_method_47_code
def yX8_order : MethodName := ⟨RX8, "order", "(I)I"⟩
abbrev cX8_look : ByteArray := prog_10_method_48_code
def yX8_look : MethodName := ⟨RX8, "look", "(II)I"⟩
abbrev cX8_ask : ByteArray := prog_10_method_49_code
def yX8_ask : MethodName := ⟨RX8, "ask", "(I)I"⟩
abbrev cX8_does : ByteArray := prog_10_method_50_code
def yX8_does : MethodName := ⟨RX8, "does", "(IIII)Z"⟩
abbrev cX8_longPower : ByteArray := prog_10_method_51_code
def yX8_longPower : MethodName := ⟨RX8, "longPower", "(JI)J"⟩
abbrev cX8_judge : ByteArray := prog_10_method_52_code
def yX8_judge : MethodName := ⟨RX8, "judge", "(IJ)I"⟩
abbrev cX8_see : ByteArray := prog_10_method_53_code
def yX8_see : MethodName := ⟨RX8, "see", "(III)I"⟩
abbrev cX8_unsee : ByteArray := prog_10_method_54_code
def yX8_unsee : MethodName := ⟨RX8, "unsee", "()I"⟩
abbrev cX8_which : ByteArray := prog_10_method_55_code
def yX8_which : MethodName := ⟨RX8, "which", "()I"⟩
abbrev cX8_divisor : ByteArray := prog_10_method_56_code
def yX8_divisor : MethodName := ⟨RX8, "divisor", "(II)I"⟩
abbrev cX8_fraction : ByteArray := prog_10_method_57_code
def yX8_fraction : MethodName := ⟨RX8, "fraction", "(IIZ)I"⟩
abbrev cX8_factorial : ByteArray := prog_10_method_58_code
def yX8_factorial : MethodName := ⟨RX8, "factorial", "(I)I"⟩
abbrev cX8_coveredBy : ByteArray := prog_10_method_59_code
def yX8_coveredBy : MethodName := ⟨RX8, "coveredBy", "(I)I"⟩
abbrev cX8_share : ByteArray := prog_10_method_60_code
def yX8_share : MethodName := ⟨RX8, "share", "(IZ)I"⟩
abbrev cX8_lost : ByteArray := prog_10_method_61_code
def yX8_lost : MethodName := ⟨RX8, "lost", "(IIIZ)I"⟩
abbrev cX8_seed : ByteArray := prog_10_method_62_code
def yX8_seed : MethodName := ⟨RX8, "seed", "(J)J"⟩
abbrev cX8_looks : ByteArray := prog_10_method_63_code
def yX8_looks : MethodName := ⟨RX8, "looks", "(I)I"⟩
abbrev cX8_keep : ByteArray := prog_10_method_64_code
def yX8_keep : MethodName := ⟨RX8, "keep", "(I)I"⟩
abbrev cX8_again : ByteArray := prog_10_method_65_code
def yX8_again : MethodName := ⟨RX8, "again", "(I)I"⟩
abbrev cX8_count : ByteArray := prog_10_method_66_code
def yX8_count : MethodName := ⟨RX8, "count", "(I)I"⟩
def RJ9 : String := "java/lang/Math"
def TJ9 : u_T := fun k => match k with
  | _ => ("", "", "", false)
def tyJ9 : Nat → FieldType := fun k => match k with
  | _ => .int
abbrev wsJ90 : List Cond := u_ws RJ9 TJ9 0
theorem nmJ9 : ∀ a, a < 0 → ∀ b, b < 0 → a ≠ b → (TJ9 a).2.1 ≠ (TJ9 b).2.1 := by decide +kernel
theorem tyJ9_ok : ∀ k, k < 0 → parseFieldDescriptor (TJ9 k).2.2.1 = some (tyJ9 k) := by decide +kernel
abbrev cJ9_max_7cf53 : ByteArray := prog_11_method_65_code
def yJ9_max_7cf53 : MethodName := ⟨RJ9, "max", "(II)I"⟩
abbrev cJ9_min_7cf53 : ByteArray := prog_11_method_69_code
def yJ9_min_7cf53 : MethodName := ⟨RJ9, "min", "(II)I"⟩
def RJ10 : String := "java/lang/System"
def TJ10 : u_T := fun k => match k with
  | _ => ("", "", "", false)
def tyJ10 : Nat → FieldType := fun k => match k with
  | _ => .int
abbrev wsJ100 : List Cond := u_ws RJ10 TJ10 0
theorem nmJ10 : ∀ a, a < 0 → ∀ b, b < 0 → a ≠ b → (TJ10 a).2.1 ≠ (TJ10 b).2.1 := by decide +kernel
theorem tyJ10_ok : ∀ k, k < 0 → parseFieldDescriptor (TJ10 k).2.2.1 = some (tyJ10 k) := by decide +kernel
def RL : String := "CelSheetsLaw"
abbrev cL_law : ByteArray := code
def yL_law : MethodName := ⟨RL, "law", "([I)Z"⟩
abbrev vwCl : List vw_C := [(RX0, TX0, 2), (RX1, TX1, 6), (RX2, TX2, 6), (RX3, TX3, 7), (RX4, TX4, 9), (RX5, TX5, 7), (RX6, TX6, 4), (RX7, TX7, 13), (RX8, TX8, 28)]
theorem inX0 : ∀ w ∈ u_ws RX0 TX0 2, w ∈ lw_tbl := by decide +kernel
theorem inX1 : ∀ w ∈ u_ws RX1 TX1 6, w ∈ lw_tbl := by decide +kernel
theorem inX2 : ∀ w ∈ u_ws RX2 TX2 6, w ∈ lw_tbl := by decide +kernel
theorem inX3 : ∀ w ∈ u_ws RX3 TX3 7, w ∈ lw_tbl := by decide +kernel
theorem inX4 : ∀ w ∈ u_ws RX4 TX4 9, w ∈ lw_tbl := by decide +kernel
theorem inX5 : ∀ w ∈ u_ws RX5 TX5 7, w ∈ lw_tbl := by decide +kernel
theorem inX6 : ∀ w ∈ u_ws RX6 TX6 4, w ∈ lw_tbl := by decide +kernel
theorem inX7 : ∀ w ∈ u_ws RX7 TX7 13, w ∈ lw_tbl := by decide +kernel
theorem inX8 : ∀ w ∈ u_ws RX8 TX8 28, w ∈ lw_tbl := by decide +kernel
