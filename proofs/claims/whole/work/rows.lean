section
-- ===== PART A: goes FIRST, ahead of the names: the tables' words, and 'selects' of the private methods out of them =====
/-- a private method of a class that the tables say can be made, by its rows of tables_1 -/
def lw_okq (q : MethodName × Nat) : Prop := (q.1.cls ≠ "java/lang/invoke/MethodHandle" ∧ q.1.cls ≠ "java/lang/invoke/VarHandle") ∧ Cond.instantiable q.1.cls q.2 ∈ tables_1 ∧ Cond.privateMethod q.1 ∈ tables_1 ∧ Cond.instanceMethod q.1 ∈ tables_1
theorem lw_p0 : lw_okq (⟨"BandAreas", "answer", "(I)I"⟩, 8) := ⟨⟨by decide +kernel, by decide +kernel⟩, List.mem_of_getElem? (i := 17) (by decide +kernel), List.mem_of_getElem? (i := 186) (by decide +kernel), List.mem_of_getElem? (i := 187) (by decide +kernel)⟩
theorem lw_p1 : lw_okq (⟨"BandAreas", "layBox", "(IIII)Z"⟩, 8) := ⟨⟨by decide +kernel, by decide +kernel⟩, List.mem_of_getElem? (i := 17) (by decide +kernel), List.mem_of_getElem? (i := 190) (by decide +kernel), List.mem_of_getElem? (i := 191) (by decide +kernel)⟩
theorem lw_p2 : lw_okq (⟨"BandAreas", "keep", "([LBandAreas$Area;I)I"⟩, 8) := ⟨⟨by decide +kernel, by decide +kernel⟩, List.mem_of_getElem? (i := 17) (by decide +kernel), List.mem_of_getElem? (i := 215) (by decide +kernel), List.mem_of_getElem? (i := 216) (by decide +kernel)⟩
theorem lw_p3 : lw_okq (⟨"BandAreas$Form", "addBand", "(IJJ)Z"⟩, 8) := ⟨⟨by decide +kernel, by decide +kernel⟩, List.mem_of_getElem? (i := 42) (by decide +kernel), List.mem_of_getElem? (i := 223) (by decide +kernel), List.mem_of_getElem? (i := 224) (by decide +kernel)⟩
theorem lw_p4 : lw_okq (⟨"BandAreas$Form", "addSides", "(JII)I"⟩, 8) := ⟨⟨by decide +kernel, by decide +kernel⟩, List.mem_of_getElem? (i := 42) (by decide +kernel), List.mem_of_getElem? (i := 239) (by decide +kernel), List.mem_of_getElem? (i := 240) (by decide +kernel)⟩
theorem lw_p5 : lw_okq (⟨"BandAreas", "layMoved", "(LBandAreas$Area;II)Z"⟩, 8) := ⟨⟨by decide +kernel, by decide +kernel⟩, List.mem_of_getElem? (i := 17) (by decide +kernel), List.mem_of_getElem? (i := 265) (by decide +kernel), List.mem_of_getElem? (i := 266) (by decide +kernel)⟩
theorem lw_p6 : lw_okq (⟨"BandAreas", "layGrown", "(LBandAreas$Area;I)V"⟩, 8) := ⟨⟨by decide +kernel, by decide +kernel⟩, List.mem_of_getElem? (i := 17) (by decide +kernel), List.mem_of_getElem? (i := 292) (by decide +kernel), List.mem_of_getElem? (i := 293) (by decide +kernel)⟩
theorem lw_p7 : lw_okq (⟨"BandAreas$Area", "spreadSideways", "(J)V"⟩, 2) := ⟨⟨by decide +kernel, by decide +kernel⟩, List.mem_of_getElem? (i := 26) (by decide +kernel), List.mem_of_getElem? (i := 314) (by decide +kernel), List.mem_of_getElem? (i := 315) (by decide +kernel)⟩
theorem lw_p8 : lw_okq (⟨"BandAreas", "layTurned", "(LBandAreas$Area;I)V"⟩, 8) := ⟨⟨by decide +kernel, by decide +kernel⟩, List.mem_of_getElem? (i := 17) (by decide +kernel), List.mem_of_getElem? (i := 325) (by decide +kernel), List.mem_of_getElem? (i := 326) (by decide +kernel)⟩
theorem lw_p9 : lw_okq (⟨"BandAreas$Form", "joinAbove", "(I)I"⟩, 8) := ⟨⟨by decide +kernel, by decide +kernel⟩, List.mem_of_getElem? (i := 42) (by decide +kernel), List.mem_of_getElem? (i := 349) (by decide +kernel), List.mem_of_getElem? (i := 350) (by decide +kernel)⟩
theorem lw_p10 : lw_okq (⟨"BandAreas$Form", "join", "(II)Z"⟩, 8) := ⟨⟨by decide +kernel, by decide +kernel⟩, List.mem_of_getElem? (i := 42) (by decide +kernel), List.mem_of_getElem? (i := 353) (by decide +kernel), List.mem_of_getElem? (i := 354) (by decide +kernel)⟩
theorem lw_p11 : lw_okq (⟨"BandAreas$Form", "leader", "(I)I"⟩, 8) := ⟨⟨by decide +kernel, by decide +kernel⟩, List.mem_of_getElem? (i := 42) (by decide +kernel), List.mem_of_getElem? (i := 357) (by decide +kernel), List.mem_of_getElem? (i := 358) (by decide +kernel)⟩
theorem lw_p12 : lw_okq (⟨"BandAreas$Form", "leaderAt", "(II)I"⟩, 8) := ⟨⟨by decide +kernel, by decide +kernel⟩, List.mem_of_getElem? (i := 42) (by decide +kernel), List.mem_of_getElem? (i := 365) (by decide +kernel), List.mem_of_getElem? (i := 366) (by decide +kernel)⟩
theorem lw_p13 : lw_okq (⟨"BandAreas$Ring", "laySide", "(LBandAreas$Area;II)V"⟩, 3) := ⟨⟨by decide +kernel, by decide +kernel⟩, List.mem_of_getElem? (i := 75) (by decide +kernel), List.mem_of_getElem? (i := 387) (by decide +kernel), List.mem_of_getElem? (i := 388) (by decide +kernel)⟩
theorem lw_p14 : lw_okq (⟨"BandAreas", "layDrawn", "(II)V"⟩, 8) := ⟨⟨by decide +kernel, by decide +kernel⟩, List.mem_of_getElem? (i := 17) (by decide +kernel), List.mem_of_getElem? (i := 403) (by decide +kernel), List.mem_of_getElem? (i := 404) (by decide +kernel)⟩
theorem lw_p15 : lw_okq (⟨"BandAreas$Script", "readNext", "()V"⟩, 8) := ⟨⟨by decide +kernel, by decide +kernel⟩, List.mem_of_getElem? (i := 92) (by decide +kernel), List.mem_of_getElem? (i := 497) (by decide +kernel), List.mem_of_getElem? (i := 498) (by decide +kernel)⟩
def lw_privs_1 : List (MethodName × Nat) := [(⟨"BandAreas", "answer", "(I)I"⟩, 8), (⟨"BandAreas", "layBox", "(IIII)Z"⟩, 8), (⟨"BandAreas", "keep", "([LBandAreas$Area;I)I"⟩, 8), (⟨"BandAreas$Form", "addBand", "(IJJ)Z"⟩, 8), (⟨"BandAreas$Form", "addSides", "(JII)I"⟩, 8), (⟨"BandAreas", "layMoved", "(LBandAreas$Area;II)Z"⟩, 8), (⟨"BandAreas", "layGrown", "(LBandAreas$Area;I)V"⟩, 8), (⟨"BandAreas$Area", "spreadSideways", "(J)V"⟩, 2), (⟨"BandAreas", "layTurned", "(LBandAreas$Area;I)V"⟩, 8), (⟨"BandAreas$Form", "joinAbove", "(I)I"⟩, 8), (⟨"BandAreas$Form", "join", "(II)Z"⟩, 8), (⟨"BandAreas$Form", "leader", "(I)I"⟩, 8), (⟨"BandAreas$Form", "leaderAt", "(II)I"⟩, 8), (⟨"BandAreas$Ring", "laySide", "(LBandAreas$Area;II)V"⟩, 3), (⟨"BandAreas", "layDrawn", "(II)V"⟩, 8), (⟨"BandAreas$Script", "readNext", "()V"⟩, 8)]
theorem lw_r1 : ∀ q ∈ lw_privs_1, lw_okq q := List.forall_mem_cons.mpr ⟨lw_p0, List.forall_mem_cons.mpr ⟨lw_p1, List.forall_mem_cons.mpr ⟨lw_p2, List.forall_mem_cons.mpr ⟨lw_p3, List.forall_mem_cons.mpr ⟨lw_p4, List.forall_mem_cons.mpr ⟨lw_p5, List.forall_mem_cons.mpr ⟨lw_p6, List.forall_mem_cons.mpr ⟨lw_p7, List.forall_mem_cons.mpr ⟨lw_p8, List.forall_mem_cons.mpr ⟨lw_p9, List.forall_mem_cons.mpr ⟨lw_p10, List.forall_mem_cons.mpr ⟨lw_p11, List.forall_mem_cons.mpr ⟨lw_p12, List.forall_mem_cons.mpr ⟨lw_p13, List.forall_mem_cons.mpr ⟨lw_p14, List.forall_mem_cons.mpr ⟨lw_p15, fun _ h => absurd h List.not_mem_nil⟩⟩⟩⟩⟩⟩⟩⟩⟩⟩⟩⟩⟩⟩⟩⟩
theorem lw_p16 : lw_okq (⟨"BandAreas$Script", "isLetter", "(I)Z"⟩, 8) := ⟨⟨by decide +kernel, by decide +kernel⟩, List.mem_of_getElem? (i := 92) (by decide +kernel), List.mem_of_getElem? (i := 501) (by decide +kernel), List.mem_of_getElem? (i := 502) (by decide +kernel)⟩
theorem lw_p17 : lw_okq (⟨"BandAreas$Script", "readWord", "()V"⟩, 8) := ⟨⟨by decide +kernel, by decide +kernel⟩, List.mem_of_getElem? (i := 92) (by decide +kernel), List.mem_of_getElem? (i := 506) (by decide +kernel), List.mem_of_getElem? (i := 507) (by decide +kernel)⟩
theorem lw_p18 : lw_okq (⟨"BandAreas$Script", "isWord", "(I)Z"⟩, 8) := ⟨⟨by decide +kernel, by decide +kernel⟩, List.mem_of_getElem? (i := 92) (by decide +kernel), List.mem_of_getElem? (i := 510) (by decide +kernel), List.mem_of_getElem? (i := 511) (by decide +kernel)⟩
theorem lw_p19 : lw_okq (⟨"BandAreas$Script", "isFigure", "(I)Z"⟩, 8) := ⟨⟨by decide +kernel, by decide +kernel⟩, List.mem_of_getElem? (i := 92) (by decide +kernel), List.mem_of_getElem? (i := 555) (by decide +kernel), List.mem_of_getElem? (i := 556) (by decide +kernel)⟩
theorem lw_p20 : lw_okq (⟨"BandAreas$Script", "readNumber", "()V"⟩, 8) := ⟨⟨by decide +kernel, by decide +kernel⟩, List.mem_of_getElem? (i := 92) (by decide +kernel), List.mem_of_getElem? (i := 559) (by decide +kernel), List.mem_of_getElem? (i := 560) (by decide +kernel)⟩
theorem lw_p21 : lw_okq (⟨"BandAreas$Script", "readSentence", "(I)Z"⟩, 8) := ⟨⟨by decide +kernel, by decide +kernel⟩, List.mem_of_getElem? (i := 92) (by decide +kernel), List.mem_of_getElem? (i := 563) (by decide +kernel), List.mem_of_getElem? (i := 564) (by decide +kernel)⟩
theorem lw_p22 : lw_okq (⟨"BandAreas$Script", "isNumber", "(II)Z"⟩, 8) := ⟨⟨by decide +kernel, by decide +kernel⟩, List.mem_of_getElem? (i := 92) (by decide +kernel), List.mem_of_getElem? (i := 567) (by decide +kernel), List.mem_of_getElem? (i := 568) (by decide +kernel)⟩
theorem lw_p23 : lw_okq (⟨"BandAreas", "perform", "(I)I"⟩, 8) := ⟨⟨by decide +kernel, by decide +kernel⟩, List.mem_of_getElem? (i := 17) (by decide +kernel), List.mem_of_getElem? (i := 580) (by decide +kernel), List.mem_of_getElem? (i := 581) (by decide +kernel)⟩
theorem lw_p24 : lw_okq (⟨"BandAreas", "writeOut", "(I)V"⟩, 8) := ⟨⟨by decide +kernel, by decide +kernel⟩, List.mem_of_getElem? (i := 17) (by decide +kernel), List.mem_of_getElem? (i := 604) (by decide +kernel), List.mem_of_getElem? (i := 605) (by decide +kernel)⟩
theorem lw_p25 : lw_okq (⟨"BandAreas$Scribe", "putNumber", "(I)V"⟩, 4) := ⟨⟨by decide +kernel, by decide +kernel⟩, List.mem_of_getElem? (i := 126) (by decide +kernel), List.mem_of_getElem? (i := 616) (by decide +kernel), List.mem_of_getElem? (i := 617) (by decide +kernel)⟩
theorem lw_p26 : lw_okq (⟨"BandAreas$Scribe", "put", "(C)V"⟩, 4) := ⟨⟨by decide +kernel, by decide +kernel⟩, List.mem_of_getElem? (i := 126) (by decide +kernel), List.mem_of_getElem? (i := 621) (by decide +kernel), List.mem_of_getElem? (i := 622) (by decide +kernel)⟩
theorem lw_p27 : lw_okq (⟨"BandAreas", "cellsOfAll", "()I"⟩, 8) := ⟨⟨by decide +kernel, by decide +kernel⟩, List.mem_of_getElem? (i := 17) (by decide +kernel), List.mem_of_getElem? (i := 633) (by decide +kernel), List.mem_of_getElem? (i := 634) (by decide +kernel)⟩
theorem lw_p28 : lw_okq (⟨"BandAreasModel", "boxes", "(IIIII)I"⟩, 19) := ⟨⟨by decide +kernel, by decide +kernel⟩, List.mem_of_getElem? (i := 646) (by decide +kernel), List.mem_of_getElem? (i := 724) (by decide +kernel), List.mem_of_getElem? (i := 725) (by decide +kernel)⟩
theorem lw_p29 : lw_okq (⟨"BandAreasModel", "empties", "(I)V"⟩, 19) := ⟨⟨by decide +kernel, by decide +kernel⟩, List.mem_of_getElem? (i := 646) (by decide +kernel), List.mem_of_getElem? (i := 728) (by decide +kernel), List.mem_of_getElem? (i := 729) (by decide +kernel)⟩
theorem lw_p30 : lw_okq (⟨"BandAreasModel", "fills", "(IIII)V"⟩, 19) := ⟨⟨by decide +kernel, by decide +kernel⟩, List.mem_of_getElem? (i := 646) (by decide +kernel), List.mem_of_getElem? (i := 732) (by decide +kernel), List.mem_of_getElem? (i := 733) (by decide +kernel)⟩
theorem lw_p31 : lw_okq (⟨"BandAreasModel", "lays", "(III)V"⟩, 19) := ⟨⟨by decide +kernel, by decide +kernel⟩, List.mem_of_getElem? (i := 646) (by decide +kernel), List.mem_of_getElem? (i := 736) (by decide +kernel), List.mem_of_getElem? (i := 737) (by decide +kernel)⟩
def lw_privs_2 : List (MethodName × Nat) := [(⟨"BandAreas$Script", "isLetter", "(I)Z"⟩, 8), (⟨"BandAreas$Script", "readWord", "()V"⟩, 8), (⟨"BandAreas$Script", "isWord", "(I)Z"⟩, 8), (⟨"BandAreas$Script", "isFigure", "(I)Z"⟩, 8), (⟨"BandAreas$Script", "readNumber", "()V"⟩, 8), (⟨"BandAreas$Script", "readSentence", "(I)Z"⟩, 8), (⟨"BandAreas$Script", "isNumber", "(II)Z"⟩, 8), (⟨"BandAreas", "perform", "(I)I"⟩, 8), (⟨"BandAreas", "writeOut", "(I)V"⟩, 8), (⟨"BandAreas$Scribe", "putNumber", "(I)V"⟩, 4), (⟨"BandAreas$Scribe", "put", "(C)V"⟩, 4), (⟨"BandAreas", "cellsOfAll", "()I"⟩, 8), (⟨"BandAreasModel", "boxes", "(IIIII)I"⟩, 19), (⟨"BandAreasModel", "empties", "(I)V"⟩, 19), (⟨"BandAreasModel", "fills", "(IIII)V"⟩, 19), (⟨"BandAreasModel", "lays", "(III)V"⟩, 19)]
theorem lw_r2 : ∀ q ∈ lw_privs_2, lw_okq q := List.forall_mem_cons.mpr ⟨lw_p16, List.forall_mem_cons.mpr ⟨lw_p17, List.forall_mem_cons.mpr ⟨lw_p18, List.forall_mem_cons.mpr ⟨lw_p19, List.forall_mem_cons.mpr ⟨lw_p20, List.forall_mem_cons.mpr ⟨lw_p21, List.forall_mem_cons.mpr ⟨lw_p22, List.forall_mem_cons.mpr ⟨lw_p23, List.forall_mem_cons.mpr ⟨lw_p24, List.forall_mem_cons.mpr ⟨lw_p25, List.forall_mem_cons.mpr ⟨lw_p26, List.forall_mem_cons.mpr ⟨lw_p27, List.forall_mem_cons.mpr ⟨lw_p28, List.forall_mem_cons.mpr ⟨lw_p29, List.forall_mem_cons.mpr ⟨lw_p30, List.forall_mem_cons.mpr ⟨lw_p31, fun _ h => absurd h List.not_mem_nil⟩⟩⟩⟩⟩⟩⟩⟩⟩⟩⟩⟩⟩⟩⟩⟩
theorem lw_p32 : lw_okq (⟨"BandAreasModel", "becomes", "(I)I"⟩, 19) := ⟨⟨by decide +kernel, by decide +kernel⟩, List.mem_of_getElem? (i := 646) (by decide +kernel), List.mem_of_getElem? (i := 740) (by decide +kernel), List.mem_of_getElem? (i := 741) (by decide +kernel)⟩
theorem lw_p33 : lw_okq (⟨"BandAreasModel", "forms", "(IIII)V"⟩, 19) := ⟨⟨by decide +kernel, by decide +kernel⟩, List.mem_of_getElem? (i := 646) (by decide +kernel), List.mem_of_getElem? (i := 744) (by decide +kernel), List.mem_of_getElem? (i := 745) (by decide +kernel)⟩
theorem lw_p34 : lw_okq (⟨"BandAreasModel", "sameRow", "(III)Z"⟩, 19) := ⟨⟨by decide +kernel, by decide +kernel⟩, List.mem_of_getElem? (i := 646) (by decide +kernel), List.mem_of_getElem? (i := 748) (by decide +kernel), List.mem_of_getElem? (i := 749) (by decide +kernel)⟩
theorem lw_p35 : lw_okq (⟨"BandAreasModel", "isEmptyRow", "(II)Z"⟩, 19) := ⟨⟨by decide +kernel, by decide +kernel⟩, List.mem_of_getElem? (i := 646) (by decide +kernel), List.mem_of_getElem? (i := 752) (by decide +kernel), List.mem_of_getElem? (i := 753) (by decide +kernel)⟩
theorem lw_p36 : lw_okq (⟨"BandAreasModel", "band", "(IIII)V"⟩, 19) := ⟨⟨by decide +kernel, by decide +kernel⟩, List.mem_of_getElem? (i := 646) (by decide +kernel), List.mem_of_getElem? (i := 756) (by decide +kernel), List.mem_of_getElem? (i := 757) (by decide +kernel)⟩
theorem lw_p37 : lw_okq (⟨"BandAreasModel", "writesNumber", "(I)V"⟩, 19) := ⟨⟨by decide +kernel, by decide +kernel⟩, List.mem_of_getElem? (i := 646) (by decide +kernel), List.mem_of_getElem? (i := 760) (by decide +kernel), List.mem_of_getElem? (i := 761) (by decide +kernel)⟩
theorem lw_p38 : lw_okq (⟨"BandAreasModel", "writes", "(I)V"⟩, 19) := ⟨⟨by decide +kernel, by decide +kernel⟩, List.mem_of_getElem? (i := 646) (by decide +kernel), List.mem_of_getElem? (i := 764) (by decide +kernel), List.mem_of_getElem? (i := 765) (by decide +kernel)⟩
theorem lw_p39 : lw_okq (⟨"BandAreasModel", "has", "(III)Z"⟩, 19) := ⟨⟨by decide +kernel, by decide +kernel⟩, List.mem_of_getElem? (i := 646) (by decide +kernel), List.mem_of_getElem? (i := 768) (by decide +kernel), List.mem_of_getElem? (i := 769) (by decide +kernel)⟩
theorem lw_p40 : lw_okq (⟨"BandAreasModel", "copies", "(II)V"⟩, 19) := ⟨⟨by decide +kernel, by decide +kernel⟩, List.mem_of_getElem? (i := 646) (by decide +kernel), List.mem_of_getElem? (i := 775) (by decide +kernel), List.mem_of_getElem? (i := 776) (by decide +kernel)⟩
theorem lw_p41 : lw_okq (⟨"BandAreasModel", "cells", "(I)I"⟩, 19) := ⟨⟨by decide +kernel, by decide +kernel⟩, List.mem_of_getElem? (i := 646) (by decide +kernel), List.mem_of_getElem? (i := 779) (by decide +kernel), List.mem_of_getElem? (i := 780) (by decide +kernel)⟩
theorem lw_p42 : lw_okq (⟨"BandAreasModel", "ends", "(I)I"⟩, 19) := ⟨⟨by decide +kernel, by decide +kernel⟩, List.mem_of_getElem? (i := 646) (by decide +kernel), List.mem_of_getElem? (i := 786) (by decide +kernel), List.mem_of_getElem? (i := 787) (by decide +kernel)⟩
theorem lw_p43 : lw_okq (⟨"BandAreasModel", "refuses", "(I)I"⟩, 19) := ⟨⟨by decide +kernel, by decide +kernel⟩, List.mem_of_getElem? (i := 646) (by decide +kernel), List.mem_of_getElem? (i := 790) (by decide +kernel), List.mem_of_getElem? (i := 791) (by decide +kernel)⟩
theorem lw_p44 : lw_okq (⟨"BandAreasModel", "mixes", "(IIII)I"⟩, 19) := ⟨⟨by decide +kernel, by decide +kernel⟩, List.mem_of_getElem? (i := 646) (by decide +kernel), List.mem_of_getElem? (i := 798) (by decide +kernel), List.mem_of_getElem? (i := 799) (by decide +kernel)⟩
theorem lw_p45 : lw_okq (⟨"BandAreasModel", "moves", "(IIII)I"⟩, 19) := ⟨⟨by decide +kernel, by decide +kernel⟩, List.mem_of_getElem? (i := 646) (by decide +kernel), List.mem_of_getElem? (i := 807) (by decide +kernel), List.mem_of_getElem? (i := 808) (by decide +kernel)⟩
theorem lw_p46 : lw_okq (⟨"BandAreasModel", "grows", "(III)I"⟩, 19) := ⟨⟨by decide +kernel, by decide +kernel⟩, List.mem_of_getElem? (i := 646) (by decide +kernel), List.mem_of_getElem? (i := 815) (by decide +kernel), List.mem_of_getElem? (i := 816) (by decide +kernel)⟩
theorem lw_p47 : lw_okq (⟨"BandAreasModel", "step", "(Z)V"⟩, 19) := ⟨⟨by decide +kernel, by decide +kernel⟩, List.mem_of_getElem? (i := 646) (by decide +kernel), List.mem_of_getElem? (i := 819) (by decide +kernel), List.mem_of_getElem? (i := 820) (by decide +kernel)⟩
def lw_privs_3 : List (MethodName × Nat) := [(⟨"BandAreasModel", "becomes", "(I)I"⟩, 19), (⟨"BandAreasModel", "forms", "(IIII)V"⟩, 19), (⟨"BandAreasModel", "sameRow", "(III)Z"⟩, 19), (⟨"BandAreasModel", "isEmptyRow", "(II)Z"⟩, 19), (⟨"BandAreasModel", "band", "(IIII)V"⟩, 19), (⟨"BandAreasModel", "writesNumber", "(I)V"⟩, 19), (⟨"BandAreasModel", "writes", "(I)V"⟩, 19), (⟨"BandAreasModel", "has", "(III)Z"⟩, 19), (⟨"BandAreasModel", "copies", "(II)V"⟩, 19), (⟨"BandAreasModel", "cells", "(I)I"⟩, 19), (⟨"BandAreasModel", "ends", "(I)I"⟩, 19), (⟨"BandAreasModel", "refuses", "(I)I"⟩, 19), (⟨"BandAreasModel", "mixes", "(IIII)I"⟩, 19), (⟨"BandAreasModel", "moves", "(IIII)I"⟩, 19), (⟨"BandAreasModel", "grows", "(III)I"⟩, 19), (⟨"BandAreasModel", "step", "(Z)V"⟩, 19)]
theorem lw_r3 : ∀ q ∈ lw_privs_3, lw_okq q := List.forall_mem_cons.mpr ⟨lw_p32, List.forall_mem_cons.mpr ⟨lw_p33, List.forall_mem_cons.mpr ⟨lw_p34, List.forall_mem_cons.mpr ⟨lw_p35, List.forall_mem_cons.mpr ⟨lw_p36, List.forall_mem_cons.mpr ⟨lw_p37, List.forall_mem_cons.mpr ⟨lw_p38, List.forall_mem_cons.mpr ⟨lw_p39, List.forall_mem_cons.mpr ⟨lw_p40, List.forall_mem_cons.mpr ⟨lw_p41, List.forall_mem_cons.mpr ⟨lw_p42, List.forall_mem_cons.mpr ⟨lw_p43, List.forall_mem_cons.mpr ⟨lw_p44, List.forall_mem_cons.mpr ⟨lw_p45, List.forall_mem_cons.mpr ⟨lw_p46, List.forall_mem_cons.mpr ⟨lw_p47, fun _ h => absurd h List.not_mem_nil⟩⟩⟩⟩⟩⟩⟩⟩⟩⟩⟩⟩⟩⟩⟩⟩
theorem lw_p48 : lw_okq (⟨"BandAreasModel", "flips", "(III)I"⟩, 19) := ⟨⟨by decide +kernel, by decide +kernel⟩, List.mem_of_getElem? (i := 646) (by decide +kernel), List.mem_of_getElem? (i := 828) (by decide +kernel), List.mem_of_getElem? (i := 829) (by decide +kernel)⟩
theorem lw_p49 : lw_okq (⟨"BandAreasModel", "hangs", "()V"⟩, 19) := ⟨⟨by decide +kernel, by decide +kernel⟩, List.mem_of_getElem? (i := 646) (by decide +kernel), List.mem_of_getElem? (i := 840) (by decide +kernel), List.mem_of_getElem? (i := 841) (by decide +kernel)⟩
theorem lw_p50 : lw_okq (⟨"BandAreasModel", "crossed", "(II)I"⟩, 19) := ⟨⟨by decide +kernel, by decide +kernel⟩, List.mem_of_getElem? (i := 646) (by decide +kernel), List.mem_of_getElem? (i := 852) (by decide +kernel), List.mem_of_getElem? (i := 853) (by decide +kernel)⟩
theorem lw_p51 : lw_okq (⟨"BandAreasModel", "partsOf", "(I)I"⟩, 19) := ⟨⟨by decide +kernel, by decide +kernel⟩, List.mem_of_getElem? (i := 646) (by decide +kernel), List.mem_of_getElem? (i := 878) (by decide +kernel), List.mem_of_getElem? (i := 879) (by decide +kernel)⟩
theorem lw_p52 : lw_okq (⟨"BandAreasModel", "sides", "(I)I"⟩, 19) := ⟨⟨by decide +kernel, by decide +kernel⟩, List.mem_of_getElem? (i := 646) (by decide +kernel), List.mem_of_getElem? (i := 882) (by decide +kernel), List.mem_of_getElem? (i := 883) (by decide +kernel)⟩
theorem lw_p53 : lw_okq (⟨"BandAreasModel", "bound", "(II)I"⟩, 19) := ⟨⟨by decide +kernel, by decide +kernel⟩, List.mem_of_getElem? (i := 646) (by decide +kernel), List.mem_of_getElem? (i := 886) (by decide +kernel), List.mem_of_getElem? (i := 887) (by decide +kernel)⟩
theorem lw_p54 : lw_okq (⟨"BandAreasModel", "commonOf", "(II)I"⟩, 19) := ⟨⟨by decide +kernel, by decide +kernel⟩, List.mem_of_getElem? (i := 646) (by decide +kernel), List.mem_of_getElem? (i := 898) (by decide +kernel), List.mem_of_getElem? (i := 899) (by decide +kernel)⟩
theorem lw_p55 : lw_okq (⟨"BandAreasModel", "beside", "(II)Z"⟩, 19) := ⟨⟨by decide +kernel, by decide +kernel⟩, List.mem_of_getElem? (i := 646) (by decide +kernel), List.mem_of_getElem? (i := 902) (by decide +kernel), List.mem_of_getElem? (i := 903) (by decide +kernel)⟩
theorem lw_p56 : lw_okq (⟨"BandAreasModel", "goesThrough", "(Z)I"⟩, 19) := ⟨⟨by decide +kernel, by decide +kernel⟩, List.mem_of_getElem? (i := 646) (by decide +kernel), List.mem_of_getElem? (i := 930) (by decide +kernel), List.mem_of_getElem? (i := 931) (by decide +kernel)⟩
theorem lw_p57 : lw_okq (⟨"BandAreasModel", "skips", "()V"⟩, 19) := ⟨⟨by decide +kernel, by decide +kernel⟩, List.mem_of_getElem? (i := 646) (by decide +kernel), List.mem_of_getElem? (i := 934) (by decide +kernel), List.mem_of_getElem? (i := 935) (by decide +kernel)⟩
theorem lw_p58 : lw_okq (⟨"BandAreasModel", "byteAt", "(I)I"⟩, 19) := ⟨⟨by decide +kernel, by decide +kernel⟩, List.mem_of_getElem? (i := 646) (by decide +kernel), List.mem_of_getElem? (i := 938) (by decide +kernel), List.mem_of_getElem? (i := 939) (by decide +kernel)⟩
theorem lw_p59 : lw_okq (⟨"BandAreasModel", "sentence", "()I"⟩, 19) := ⟨⟨by decide +kernel, by decide +kernel⟩, List.mem_of_getElem? (i := 646) (by decide +kernel), List.mem_of_getElem? (i := 942) (by decide +kernel), List.mem_of_getElem? (i := 943) (by decide +kernel)⟩
theorem lw_p60 : lw_okq (⟨"BandAreasModel", "number", "(III)Z"⟩, 19) := ⟨⟨by decide +kernel, by decide +kernel⟩, List.mem_of_getElem? (i := 646) (by decide +kernel), List.mem_of_getElem? (i := 946) (by decide +kernel), List.mem_of_getElem? (i := 947) (by decide +kernel)⟩
theorem lw_p61 : lw_okq (⟨"BandAreasModel", "word", "()I"⟩, 19) := ⟨⟨by decide +kernel, by decide +kernel⟩, List.mem_of_getElem? (i := 646) (by decide +kernel), List.mem_of_getElem? (i := 953) (by decide +kernel), List.mem_of_getElem? (i := 954) (by decide +kernel)⟩
theorem lw_p62 : lw_okq (⟨"BandAreasModel", "isWord", "(II)Z"⟩, 19) := ⟨⟨by decide +kernel, by decide +kernel⟩, List.mem_of_getElem? (i := 646) (by decide +kernel), List.mem_of_getElem? (i := 957) (by decide +kernel), List.mem_of_getElem? (i := 958) (by decide +kernel)⟩
theorem lw_p63 : lw_okq (⟨"BandAreasModel", "done", "(I)I"⟩, 19) := ⟨⟨by decide +kernel, by decide +kernel⟩, List.mem_of_getElem? (i := 646) (by decide +kernel), List.mem_of_getElem? (i := 961) (by decide +kernel), List.mem_of_getElem? (i := 962) (by decide +kernel)⟩
def lw_privs_4 : List (MethodName × Nat) := [(⟨"BandAreasModel", "flips", "(III)I"⟩, 19), (⟨"BandAreasModel", "hangs", "()V"⟩, 19), (⟨"BandAreasModel", "crossed", "(II)I"⟩, 19), (⟨"BandAreasModel", "partsOf", "(I)I"⟩, 19), (⟨"BandAreasModel", "sides", "(I)I"⟩, 19), (⟨"BandAreasModel", "bound", "(II)I"⟩, 19), (⟨"BandAreasModel", "commonOf", "(II)I"⟩, 19), (⟨"BandAreasModel", "beside", "(II)Z"⟩, 19), (⟨"BandAreasModel", "goesThrough", "(Z)I"⟩, 19), (⟨"BandAreasModel", "skips", "()V"⟩, 19), (⟨"BandAreasModel", "byteAt", "(I)I"⟩, 19), (⟨"BandAreasModel", "sentence", "()I"⟩, 19), (⟨"BandAreasModel", "number", "(III)Z"⟩, 19), (⟨"BandAreasModel", "word", "()I"⟩, 19), (⟨"BandAreasModel", "isWord", "(II)Z"⟩, 19), (⟨"BandAreasModel", "done", "(I)I"⟩, 19)]
theorem lw_r4 : ∀ q ∈ lw_privs_4, lw_okq q := List.forall_mem_cons.mpr ⟨lw_p48, List.forall_mem_cons.mpr ⟨lw_p49, List.forall_mem_cons.mpr ⟨lw_p50, List.forall_mem_cons.mpr ⟨lw_p51, List.forall_mem_cons.mpr ⟨lw_p52, List.forall_mem_cons.mpr ⟨lw_p53, List.forall_mem_cons.mpr ⟨lw_p54, List.forall_mem_cons.mpr ⟨lw_p55, List.forall_mem_cons.mpr ⟨lw_p56, List.forall_mem_cons.mpr ⟨lw_p57, List.forall_mem_cons.mpr ⟨lw_p58, List.forall_mem_cons.mpr ⟨lw_p59, List.forall_mem_cons.mpr ⟨lw_p60, List.forall_mem_cons.mpr ⟨lw_p61, List.forall_mem_cons.mpr ⟨lw_p62, List.forall_mem_cons.mpr ⟨lw_p63, fun _ h => absurd h List.not_mem_nil⟩⟩⟩⟩⟩⟩⟩⟩⟩⟩⟩⟩⟩⟩⟩⟩
theorem lw_p64 : lw_okq (⟨"BandAreasModel", "markOf", "(I)I"⟩, 19) := ⟨⟨by decide +kernel, by decide +kernel⟩, List.mem_of_getElem? (i := 646) (by decide +kernel), List.mem_of_getElem? (i := 973) (by decide +kernel), List.mem_of_getElem? (i := 974) (by decide +kernel)⟩
theorem lw_p65 : lw_okq (⟨"BandAreasModel", "toldOf", "(I)I"⟩, 19) := ⟨⟨by decide +kernel, by decide +kernel⟩, List.mem_of_getElem? (i := 646) (by decide +kernel), List.mem_of_getElem? (i := 981) (by decide +kernel), List.mem_of_getElem? (i := 982) (by decide +kernel)⟩
def lw_privs_5 : List (MethodName × Nat) := [(⟨"BandAreasModel", "markOf", "(I)I"⟩, 19), (⟨"BandAreasModel", "toldOf", "(I)I"⟩, 19)]
theorem lw_r5 : ∀ q ∈ lw_privs_5, lw_okq q := List.forall_mem_cons.mpr ⟨lw_p64, List.forall_mem_cons.mpr ⟨lw_p65, fun _ h => absurd h List.not_mem_nil⟩⟩
def lw_privs : List (MethodName × Nat) := lw_privs_1 ++ (lw_privs_2 ++ (lw_privs_3 ++ (lw_privs_4 ++ (lw_privs_5))))
def lw_tbl : List Cond := k2_sels lw_privs ++ tables_1
theorem lw_privs_ok : ∀ q ∈ lw_privs, lw_okq q := by
  show ∀ q ∈ lw_privs_1 ++ (lw_privs_2 ++ (lw_privs_3 ++ (lw_privs_4 ++ (lw_privs_5)))), lw_okq q
  exact List.forall_mem_append.mpr ⟨lw_r1, List.forall_mem_append.mpr ⟨lw_r2, List.forall_mem_append.mpr ⟨lw_r3, List.forall_mem_append.mpr ⟨lw_r4, lw_r5⟩⟩⟩⟩
end
section
def RX0 : String := "BandAreas$Area"
def TX0 : u_T := fun k => match k with
  | 0 => ("BandAreas$Area", "west", "[J", true)
  | _ => ("BandAreas$Area", "east", "[J", true)
def tyX0 : Nat → FieldType := fun k => match k with
  | 0 => .array .long
  | _ => .array .long
theorem nmX0 : ∀ a, a < 2 → ∀ b, b < 2 → a ≠ b → (TX0 a).2.1 ≠ (TX0 b).2.1 := by decide +kernel
theorem tyX0_ok : ∀ k, k < 2 → parseFieldDescriptor (TX0 k).2.2.1 = some (tyX0 k) := by decide +kernel
abbrev cX0_init : ByteArray := prog_2_method_1_code
def yX0_init : MethodName := ⟨RX0, "<init>", "()V"⟩
abbrev cX0_empty : ByteArray := prog_2_method_2_code
def yX0_empty : MethodName := ⟨RX0, "empty", "()V"⟩
abbrev cX0_copy : ByteArray := prog_2_method_3_code
def yX0_copy : MethodName := ⟨RX0, "copy", "(LBandAreas$Area;)V"⟩
abbrev cX0_fill : ByteArray := prog_2_method_4_code
def yX0_fill : MethodName := ⟨RX0, "fill", "(IIII)V"⟩
abbrev cX0_turnOverLeft : ByteArray := prog_2_method_5_code
def yX0_turnOverLeft : MethodName := ⟨RX0, "turnOverLeft", "(II)V"⟩
abbrev cX0_bits : ByteArray := prog_2_method_6_code
def yX0_bits : MethodName := ⟨RX0, "bits", "(II)J"⟩
abbrev cX0_combine : ByteArray := prog_2_method_7_code
def yX0_combine : MethodName := ⟨RX0, "combine", "(ILBandAreas$Area;LBandAreas$Area;)V"⟩
abbrev cX0_combined : ByteArray := prog_2_method_8_code
def yX0_combined : MethodName := ⟨RX0, "combined", "(IJJ)J"⟩
abbrev cX0_invert : ByteArray := prog_2_method_9_code
def yX0_invert : MethodName := ⟨RX0, "invert", "()V"⟩
abbrev cX0_spread : ByteArray := prog_2_method_10_code
def yX0_spread : MethodName := ⟨RX0, "spread", "(Z)V"⟩
abbrev cX0_spreadSideways : ByteArray := prog_2_method_11_code
def yX0_spreadSideways : MethodName := ⟨RX0, "spreadSideways", "(J)V"⟩
abbrev cX0_spreadUpAndDown : ByteArray := prog_2_method_12_code
def yX0_spreadUpAndDown : MethodName := ⟨RX0, "spreadUpAndDown", "([JJ)V"⟩
abbrev cX0_holds : ByteArray := prog_2_method_13_code
def yX0_holds : MethodName := ⟨RX0, "holds", "(II)Z"⟩
abbrev cX0_cells : ByteArray := prog_2_method_14_code
def yX0_cells : MethodName := ⟨RX0, "cells", "()I"⟩
abbrev cX0_cellsInRow : ByteArray := prog_2_method_15_code
def yX0_cellsInRow : MethodName := ⟨RX0, "cellsInRow", "(I)I"⟩
abbrev cX0_cellsInColumn : ByteArray := prog_2_method_16_code
def yX0_cellsInColumn : MethodName := ⟨RX0, "cellsInColumn", "(I)I"⟩
abbrev cX0_isIn : ByteArray := prog_2_method_17_code
def yX0_isIn : MethodName := ⟨RX0, "isIn", "(LBandAreas$Area;)Z"⟩
abbrev cX0_meets : ByteArray := prog_2_method_18_code
def yX0_meets : MethodName := ⟨RX0, "meets", "(LBandAreas$Area;)Z"⟩
abbrev cX0_touches : ByteArray := prog_2_method_19_code
def yX0_touches : MethodName := ⟨RX0, "touches", "(LBandAreas$Area;)Z"⟩
abbrev cX0_sidesRound : ByteArray := prog_2_method_20_code
def yX0_sidesRound : MethodName := ⟨RX0, "sidesRound", "()I"⟩
abbrev cX0_westSides : ByteArray := prog_2_method_21_code
def yX0_westSides : MethodName := ⟨RX0, "westSides", "(J)J"⟩
abbrev cX0_eastSides : ByteArray := prog_2_method_22_code
def yX0_eastSides : MethodName := ⟨RX0, "eastSides", "(JJ)J"⟩
def RX1 : String := "BandAreas$Form"
def TX1 : u_T := fun k => match k with
  | 0 => ("BandAreas$Form", "top", "[I", true)
  | 1 => ("BandAreas$Form", "bottom", "[I", true)
  | 2 => ("BandAreas$Form", "first", "[I", true)
  | 3 => ("BandAreas$Form", "bandOf", "[I", true)
  | 4 => ("BandAreas$Form", "sides", "[I", true)
  | 5 => ("BandAreas$Form", "leadsTo", "[I", true)
  | 6 => ("BandAreas$Form", "bands", "I", false)
  | _ => ("BandAreas$Form", "spans", "I", false)
def tyX1 : Nat → FieldType := fun k => match k with
  | 0 => .array .int
  | 1 => .array .int
  | 2 => .array .int
  | 3 => .array .int
  | 4 => .array .int
  | 5 => .array .int
  | 6 => .int
  | _ => .int
theorem nmX1 : ∀ a, a < 8 → ∀ b, b < 8 → a ≠ b → (TX1 a).2.1 ≠ (TX1 b).2.1 := by decide +kernel
theorem tyX1_ok : ∀ k, k < 8 → parseFieldDescriptor (TX1 k).2.2.1 = some (tyX1 k) := by decide +kernel
abbrev cX1_init : ByteArray := prog_3_method_1_code
def yX1_init : MethodName := ⟨RX1, "<init>", "()V"⟩
abbrev cX1_read : ByteArray := prog_3_method_2_code
def yX1_read : MethodName := ⟨RX1, "read", "(LBandAreas$Area;)Z"⟩
abbrev cX1_addBand : ByteArray := prog_3_method_3_code
def yX1_addBand : MethodName := ⟨RX1, "addBand", "(IJJ)Z"⟩
abbrev cX1_addSides : ByteArray := prog_3_method_4_code
def yX1_addSides : MethodName := ⟨RX1, "addSides", "(JII)I"⟩
abbrev cX1_spanSide : ByteArray := prog_3_method_5_code
def yX1_spanSide : MethodName := ⟨RX1, "spanSide", "(II)I"⟩
abbrev cX1_measure : ByteArray := prog_3_method_6_code
def yX1_measure : MethodName := ⟨RX1, "measure", "(I)I"⟩
abbrev cX1_border : ByteArray := prog_3_method_7_code
def yX1_border : MethodName := ⟨RX1, "border", "(I)I"⟩
abbrev cX1_staysInside : ByteArray := prog_3_method_8_code
def yX1_staysInside : MethodName := ⟨RX1, "staysInside", "(II)Z"⟩
abbrev cX1_layMoved : ByteArray := prog_3_method_9_code
def yX1_layMoved : MethodName := ⟨RX1, "layMoved", "(LBandAreas$Area;II)V"⟩
abbrev cX1_layTurned : ByteArray := prog_3_method_10_code
def yX1_layTurned : MethodName := ⟨RX1, "layTurned", "(LBandAreas$Area;I)V"⟩
abbrev cX1_joinParts : ByteArray := prog_3_method_11_code
def yX1_joinParts : MethodName := ⟨RX1, "joinParts", "()I"⟩
abbrev cX1_joinAbove : ByteArray := prog_3_method_12_code
def yX1_joinAbove : MethodName := ⟨RX1, "joinAbove", "(I)I"⟩
abbrev cX1_join : ByteArray := prog_3_method_13_code
def yX1_join : MethodName := ⟨RX1, "join", "(II)Z"⟩
abbrev cX1_leader : ByteArray := prog_3_method_14_code
def yX1_leader : MethodName := ⟨RX1, "leader", "(I)I"⟩
abbrev cX1_layPart : ByteArray := prog_3_method_15_code
def yX1_layPart : MethodName := ⟨RX1, "layPart", "(LBandAreas$Area;II)V"⟩
abbrev cX1_leaderAt : ByteArray := prog_3_method_16_code
def yX1_leaderAt : MethodName := ⟨RX1, "leaderAt", "(II)I"⟩
abbrev cX1_write : ByteArray := prog_3_method_17_code
def yX1_write : MethodName := ⟨RX1, "write", "(LBandAreas$Scribe;)V"⟩
def RX2 : String := "BandAreas$Ring"
def TX2 : u_T := fun k => match k with
  | 0 => ("BandAreas$Ring", "x", "[I", true)
  | 1 => ("BandAreas$Ring", "y", "[I", true)
  | _ => ("BandAreas$Ring", "count", "I", false)
def tyX2 : Nat → FieldType := fun k => match k with
  | 0 => .array .int
  | 1 => .array .int
  | _ => .int
theorem nmX2 : ∀ a, a < 3 → ∀ b, b < 3 → a ≠ b → (TX2 a).2.1 ≠ (TX2 b).2.1 := by decide +kernel
theorem tyX2_ok : ∀ k, k < 3 → parseFieldDescriptor (TX2 k).2.2.1 = some (tyX2 k) := by decide +kernel
abbrev cX2_init : ByteArray := prog_4_method_1_code
def yX2_init : MethodName := ⟨RX2, "<init>", "()V"⟩
abbrev cX2_add : ByteArray := prog_4_method_2_code
def yX2_add : MethodName := ⟨RX2, "add", "(II)Z"⟩
abbrev cX2_lay : ByteArray := prog_4_method_3_code
def yX2_lay : MethodName := ⟨RX2, "lay", "(LBandAreas$Area;)V"⟩
abbrev cX2_laySide : ByteArray := prog_4_method_4_code
def yX2_laySide : MethodName := ⟨RX2, "laySide", "(LBandAreas$Area;II)V"⟩
def RX3 : String := "BandAreas$Scribe"
def TX3 : u_T := fun k => match k with
  | 0 => ("BandAreas$Scribe", "length", "I", false)
  | 1 => ("BandAreas$Scribe", "hash", "I", false)
  | 2 => ("BandAreas$Scribe", "found", "I", false)
  | _ => ("BandAreas$Scribe", "wanted", "I", false)
def tyX3 : Nat → FieldType := fun k => match k with
  | 0 => .int
  | 1 => .int
  | 2 => .int
  | _ => .int
theorem nmX3 : ∀ a, a < 4 → ∀ b, b < 4 → a ≠ b → (TX3 a).2.1 ≠ (TX3 b).2.1 := by decide +kernel
theorem tyX3_ok : ∀ k, k < 4 → parseFieldDescriptor (TX3 k).2.2.1 = some (tyX3 k) := by decide +kernel
abbrev cX3_init : ByteArray := prog_5_method_1_code
def yX3_init : MethodName := ⟨RX3, "<init>", "()V"⟩
abbrev cX3_begin : ByteArray := prog_5_method_2_code
def yX3_begin : MethodName := ⟨RX3, "begin", "(I)V"⟩
abbrev cX3_putPair : ByteArray := prog_5_method_3_code
def yX3_putPair : MethodName := ⟨RX3, "putPair", "(IIC)V"⟩
abbrev cX3_putNumber : ByteArray := prog_5_method_4_code
def yX3_putNumber : MethodName := ⟨RX3, "putNumber", "(I)V"⟩
abbrev cX3_put : ByteArray := prog_5_method_5_code
def yX3_put : MethodName := ⟨RX3, "put", "(C)V"⟩
def RX4 : String := "BandAreas$Script"
def TX4 : u_T := fun k => match k with
  | 0 => ("BandAreas$Script", "bytes", "[B", true)
  | 1 => ("BandAreas$Script", "length", "I", false)
  | 2 => ("BandAreas$Script", "sentences", "[I", true)
  | 3 => ("BandAreas$Script", "count", "I", false)
  | 4 => ("BandAreas$Script", "at", "I", false)
  | 5 => ("BandAreas$Script", "start", "I", false)
  | 6 => ("BandAreas$Script", "kind", "I", false)
  | _ => ("BandAreas$Script", "value", "I", false)
def tyX4 : Nat → FieldType := fun k => match k with
  | 0 => .array .byte
  | 1 => .int
  | 2 => .array .int
  | 3 => .int
  | 4 => .int
  | 5 => .int
  | 6 => .int
  | _ => .int
theorem nmX4 : ∀ a, a < 8 → ∀ b, b < 8 → a ≠ b → (TX4 a).2.1 ≠ (TX4 b).2.1 := by decide +kernel
theorem tyX4_ok : ∀ k, k < 8 → parseFieldDescriptor (TX4 k).2.2.1 = some (tyX4 k) := by decide +kernel
abbrev cX4_init : ByteArray := prog_6_method_1_code
def yX4_init : MethodName := ⟨RX4, "<init>", "()V"⟩
abbrev cX4_add : ByteArray := prog_6_method_2_code
def yX4_add : MethodName := ⟨RX4, "add", "(I)Z"⟩
abbrev cX4_areaOf : ByteArray := prog_6_method_3_code
def yX4_areaOf : MethodName := ⟨RX4, "areaOf", "(I)I"⟩
abbrev cX4_wordOf : ByteArray := prog_6_method_4_code
def yX4_wordOf : MethodName := ⟨RX4, "wordOf", "(I)I"⟩
abbrev cX4_numberOf : ByteArray := prog_6_method_5_code
def yX4_numberOf : MethodName := ⟨RX4, "numberOf", "(II)I"⟩
abbrev cX4_parse : ByteArray := prog_6_method_6_code
def yX4_parse : MethodName := ⟨RX4, "parse", "()I"⟩
abbrev cX4_readSentence : ByteArray := prog_6_method_7_code
def yX4_readSentence : MethodName := ⟨RX4, "readSentence", "(I)Z"⟩
abbrev cX4_isNumber : ByteArray := prog_6_method_8_code
def yX4_isNumber : MethodName := ⟨RX4, "isNumber", "(II)Z"⟩
abbrev cX4_numbersOf : ByteArray := prog_6_method_9_code
def yX4_numbersOf : MethodName := ⟨RX4, "numbersOf", "(I)I"⟩
abbrev cX4_least : ByteArray := prog_6_method_10_code
def yX4_least : MethodName := ⟨RX4, "least", "(II)I"⟩
abbrev cX4_greatest : ByteArray := prog_6_method_11_code
def yX4_greatest : MethodName := ⟨RX4, "greatest", "(II)I"⟩
abbrev cX4_readNext : ByteArray := prog_6_method_12_code
def yX4_readNext : MethodName := ⟨RX4, "readNext", "()V"⟩
abbrev cX4_readWord : ByteArray := prog_6_method_13_code
def yX4_readWord : MethodName := ⟨RX4, "readWord", "()V"⟩
abbrev cX4_isWord : ByteArray := prog_6_method_14_code
def yX4_isWord : MethodName := ⟨RX4, "isWord", "(I)Z"⟩
abbrev cX4_readNumber : ByteArray := prog_6_method_15_code
def yX4_readNumber : MethodName := ⟨RX4, "readNumber", "()V"⟩
abbrev cX4_isLetter : ByteArray := prog_6_method_16_code
def yX4_isLetter : MethodName := ⟨RX4, "isLetter", "(I)Z"⟩
abbrev cX4_isFigure : ByteArray := prog_6_method_17_code
def yX4_isFigure : MethodName := ⟨RX4, "isFigure", "(I)Z"⟩
def RX5 : String := "BandAreas"
def TX5 : u_T := fun k => match k with
  | 0 => ("BandAreas", "areas", "[LBandAreas$Area;", false)
  | 1 => ("BandAreas", "trial", "[LBandAreas$Area;", false)
  | 2 => ("BandAreas", "made", "LBandAreas$Area;", false)
  | 3 => ("BandAreas", "form", "LBandAreas$Form;", true)
  | 4 => ("BandAreas", "ring", "LBandAreas$Ring;", true)
  | 5 => ("BandAreas", "script", "LBandAreas$Script;", true)
  | 6 => ("BandAreas", "scribe", "LBandAreas$Scribe;", true)
  | _ => ("BandAreas", "refused", "[I", true)
def tyX5 : Nat → FieldType := fun k => match k with
  | 0 => .array (.object "BandAreas$Area")
  | 1 => .array (.object "BandAreas$Area")
  | 2 => .object "BandAreas$Area"
  | 3 => .object "BandAreas$Form"
  | 4 => .object "BandAreas$Ring"
  | 5 => .object "BandAreas$Script"
  | 6 => .object "BandAreas$Scribe"
  | _ => .array .int
theorem nmX5 : ∀ a, a < 8 → ∀ b, b < 8 → a ≠ b → (TX5 a).2.1 ≠ (TX5 b).2.1 := by decide +kernel
theorem tyX5_ok : ∀ k, k < 8 → parseFieldDescriptor (TX5 k).2.2.1 = some (tyX5 k) := by decide +kernel
abbrev cX5_init : ByteArray := prog_1_method_1_code
def yX5_init : MethodName := ⟨RX5, "<init>", "()V"⟩
abbrev cX5_box : ByteArray := prog_1_method_2_code
def yX5_box : MethodName := ⟨RX5, "box", "(IIIII)I"⟩
abbrev cX5_mix : ByteArray := prog_1_method_3_code
def yX5_mix : MethodName := ⟨RX5, "mix", "(IIII)I"⟩
abbrev cX5_move : ByteArray := prog_1_method_4_code
def yX5_move : MethodName := ⟨RX5, "move", "(IIII)I"⟩
abbrev cX5_grow : ByteArray := prog_1_method_5_code
def yX5_grow : MethodName := ⟨RX5, "grow", "(III)I"⟩
abbrev cX5_flip : ByteArray := prog_1_method_6_code
def yX5_flip : MethodName := ⟨RX5, "flip", "(III)I"⟩
abbrev cX5_rest : ByteArray := prog_1_method_7_code
def yX5_rest : MethodName := ⟨RX5, "rest", "(II)I"⟩
abbrev cX5_part : ByteArray := prog_1_method_8_code
def yX5_part : MethodName := ⟨RX5, "part", "(IIII)I"⟩
abbrev cX5_corner : ByteArray := prog_1_method_9_code
def yX5_corner : MethodName := ⟨RX5, "corner", "(II)I"⟩
abbrev cX5_round : ByteArray := prog_1_method_10_code
def yX5_round : MethodName := ⟨RX5, "round", "(I)I"⟩
abbrev cX5_draw : ByteArray := prog_1_method_11_code
def yX5_draw : MethodName := ⟨RX5, "draw", "(III)I"⟩
abbrev cX5_hit : ByteArray := prog_1_method_12_code
def yX5_hit : MethodName := ⟨RX5, "hit", "(III)I"⟩
abbrev cX5_of : ByteArray := prog_1_method_13_code
def yX5_of : MethodName := ⟨RX5, "of", "(II)I"⟩
abbrev cX5_span : ByteArray := prog_1_method_14_code
def yX5_span : MethodName := ⟨RX5, "span", "(III)I"⟩
abbrev cX5_two : ByteArray := prog_1_method_15_code
def yX5_two : MethodName := ⟨RX5, "two", "(III)I"⟩
abbrev cX5_common : ByteArray := prog_1_method_16_code
def yX5_common : MethodName := ⟨RX5, "common", "(II)I"⟩
abbrev cX5_across : ByteArray := prog_1_method_17_code
def yX5_across : MethodName := ⟨RX5, "across", "(III)I"⟩
abbrev cX5_apart : ByteArray := prog_1_method_18_code
def yX5_apart : MethodName := ⟨RX5, "apart", "(II)I"⟩
abbrev cX5_type : ByteArray := prog_1_method_19_code
def yX5_type : MethodName := ⟨RX5, "type", "(I)I"⟩
abbrev cX5_clear : ByteArray := prog_1_method_20_code
def yX5_clear : MethodName := ⟨RX5, "clear", "()I"⟩
abbrev cX5_does : ByteArray := prog_1_method_21_code
def yX5_does : MethodName := ⟨RX5, "does", "()I"⟩
abbrev cX5_writing : ByteArray := prog_1_method_22_code
def yX5_writing : MethodName := ⟨RX5, "writing", "(II)I"⟩
abbrev cX5_mark : ByteArray := prog_1_method_23_code
def yX5_mark : MethodName := ⟨RX5, "mark", "(I)I"⟩
abbrev cX5_told : ByteArray := prog_1_method_24_code
def yX5_told : MethodName := ⟨RX5, "told", "(I)I"⟩
abbrev cX5_digest : ByteArray := prog_1_method_25_code
def yX5_digest : MethodName := ⟨RX5, "digest", "()J"⟩
abbrev cX5_within : ByteArray := prog_1_method_26_code
def yX5_within : MethodName := ⟨RX5, "within", "(III)Z"⟩
abbrev cX5_isPlace : ByteArray := prog_1_method_27_code
def yX5_isPlace : MethodName := ⟨RX5, "isPlace", "(I)Z"⟩
abbrev cX5_isArea : ByteArray := prog_1_method_28_code
def yX5_isArea : MethodName := ⟨RX5, "isArea", "(I)Z"⟩
abbrev cX5_answer : ByteArray := prog_1_method_29_code
def yX5_answer : MethodName := ⟨RX5, "answer", "(I)I"⟩
abbrev cX5_keep : ByteArray := prog_1_method_30_code
def yX5_keep : MethodName := ⟨RX5, "keep", "([LBandAreas$Area;I)I"⟩
abbrev cX5_layBox : ByteArray := prog_1_method_31_code
def yX5_layBox : MethodName := ⟨RX5, "layBox", "(IIII)Z"⟩
abbrev cX5_layMoved : ByteArray := prog_1_method_32_code
def yX5_layMoved : MethodName := ⟨RX5, "layMoved", "(LBandAreas$Area;II)Z"⟩
abbrev cX5_layGrown : ByteArray := prog_1_method_33_code
def yX5_layGrown : MethodName := ⟨RX5, "layGrown", "(LBandAreas$Area;I)V"⟩
abbrev cX5_layTurned : ByteArray := prog_1_method_34_code
def yX5_layTurned : MethodName := ⟨RX5, "layTurned", "(LBandAreas$Area;I)V"⟩
abbrev cX5_layDrawn : ByteArray := prog_1_method_35_code
def yX5_layDrawn : MethodName := ⟨RX5, "layDrawn", "(II)V"⟩
abbrev cX5_perform : ByteArray := prog_1_method_36_code
def yX5_perform : MethodName := ⟨RX5, "perform", "(I)I"⟩
abbrev cX5_writeOut : ByteArray := prog_1_method_37_code
def yX5_writeOut : MethodName := ⟨RX5, "writeOut", "(I)V"⟩
abbrev cX5_cellsOfAll : ByteArray := prog_1_method_38_code
def yX5_cellsOfAll : MethodName := ⟨RX5, "cellsOfAll", "()I"⟩
def RX6 : String := "BandAreasModel"
def TX6 : u_T := fun k => match k with
  | 0 => ("BandAreasModel", "s", "[J", true)
  | 1 => ("BandAreasModel", "refused", "[I", true)
  | 2 => ("BandAreasModel", "text", "[I", true)
  | 3 => ("BandAreasModel", "typed", "I", false)
  | 4 => ("BandAreasModel", "xs", "[I", true)
  | 5 => ("BandAreasModel", "ys", "[I", true)
  | 6 => ("BandAreasModel", "corners", "I", false)
  | 7 => ("BandAreasModel", "at", "I", false)
  | 8 => ("BandAreasModel", "numbers", "[I", true)
  | 9 => ("BandAreasModel", "spans", "I", false)
  | 10 => ("BandAreasModel", "bands", "I", false)
  | 11 => ("BandAreasModel", "sought", "I", false)
  | 12 => ("BandAreasModel", "found", "I", false)
  | 13 => ("BandAreasModel", "signs", "I", false)
  | 14 => ("BandAreasModel", "wanted", "I", false)
  | 15 => ("BandAreasModel", "sign", "I", false)
  | 16 => ("BandAreasModel", "hash", "I", false)
  | 17 => ("BandAreasModel", "words", "[C", true)
  | _ => ("BandAreasModel", "area", "I", false)
def tyX6 : Nat → FieldType := fun k => match k with
  | 0 => .array .long
  | 1 => .array .int
  | 2 => .array .int
  | 3 => .int
  | 4 => .array .int
  | 5 => .array .int
  | 6 => .int
  | 7 => .int
  | 8 => .array .int
  | 9 => .int
  | 10 => .int
  | 11 => .int
  | 12 => .int
  | 13 => .int
  | 14 => .int
  | 15 => .int
  | 16 => .int
  | 17 => .array .char
  | _ => .int
theorem nmX6 : ∀ a, a < 19 → ∀ b, b < 19 → a ≠ b → (TX6 a).2.1 ≠ (TX6 b).2.1 := by decide +kernel
theorem tyX6_ok : ∀ k, k < 19 → parseFieldDescriptor (TX6 k).2.2.1 = some (tyX6 k) := by decide +kernel
abbrev cX6_init : ByteArray := prog_8_method_1_code
def yX6_init : MethodName := ⟨RX6, "<init>", "()V"⟩
abbrev cX6_in : ByteArray := prog_8_method_3_code
def yX6_in : MethodName := ⟨RX6, "in", "(III)Z"⟩
abbrev cX6_refuses : ByteArray := prog_8_method_4_code
def yX6_refuses : MethodName := ⟨RX6, "refuses", "(I)I"⟩
abbrev cX6_isArea : ByteArray := prog_8_method_5_code
def yX6_isArea : MethodName := ⟨RX6, "isArea", "(I)Z"⟩
abbrev cX6_isCell : ByteArray := prog_8_method_6_code
def yX6_isCell : MethodName := ⟨RX6, "isCell", "(II)Z"⟩
abbrev cX6_has : ByteArray := prog_8_method_7_code
def yX6_has : MethodName := ⟨RX6, "has", "(III)Z"⟩
abbrev cX6_lays : ByteArray := prog_8_method_8_code
def yX6_lays : MethodName := ⟨RX6, "lays", "(III)V"⟩
abbrev cX6_empties : ByteArray := prog_8_method_9_code
def yX6_empties : MethodName := ⟨RX6, "empties", "(I)V"⟩
abbrev cX6_copies : ByteArray := prog_8_method_10_code
def yX6_copies : MethodName := ⟨RX6, "copies", "(II)V"⟩
abbrev cX6_ones : ByteArray := prog_8_method_11_code
def yX6_ones : MethodName := ⟨RX6, "ones", "(J)I"⟩
abbrev cX6_cells : ByteArray := prog_8_method_12_code
def yX6_cells : MethodName := ⟨RX6, "cells", "(I)I"⟩
abbrev cX6_sameRow : ByteArray := prog_8_method_13_code
def yX6_sameRow : MethodName := ⟨RX6, "sameRow", "(III)Z"⟩
abbrev cX6_isEmptyRow : ByteArray := prog_8_method_14_code
def yX6_isEmptyRow : MethodName := ⟨RX6, "isEmptyRow", "(II)Z"⟩
abbrev cX6_writes : ByteArray := prog_8_method_15_code
def yX6_writes : MethodName := ⟨RX6, "writes", "(I)V"⟩
abbrev cX6_writesNumber : ByteArray := prog_8_method_16_code
def yX6_writesNumber : MethodName := ⟨RX6, "writesNumber", "(I)V"⟩
abbrev cX6_firstOf : ByteArray := prog_8_method_17_code
def yX6_firstOf : MethodName := ⟨RX6, "firstOf", "(IIIII)I"⟩
abbrev cX6_band : ByteArray := prog_8_method_18_code
def yX6_band : MethodName := ⟨RX6, "band", "(IIII)V"⟩
abbrev cX6_forms : ByteArray := prog_8_method_19_code
def yX6_forms : MethodName := ⟨RX6, "forms", "(IIII)V"⟩
abbrev cX6_becomes : ByteArray := prog_8_method_20_code
def yX6_becomes : MethodName := ⟨RX6, "becomes", "(I)I"⟩
abbrev cX6_ends : ByteArray := prog_8_method_21_code
def yX6_ends : MethodName := ⟨RX6, "ends", "(I)I"⟩
abbrev cX6_boxes : ByteArray := prog_8_method_22_code
def yX6_boxes : MethodName := ⟨RX6, "boxes", "(IIIII)I"⟩
abbrev cX6_fills : ByteArray := prog_8_method_23_code
def yX6_fills : MethodName := ⟨RX6, "fills", "(IIII)V"⟩
abbrev cX6_mixes : ByteArray := prog_8_method_24_code
def yX6_mixes : MethodName := ⟨RX6, "mixes", "(IIII)I"⟩
abbrev cX6_moves : ByteArray := prog_8_method_25_code
def yX6_moves : MethodName := ⟨RX6, "moves", "(IIII)I"⟩
abbrev cX6_step : ByteArray := prog_8_method_26_code
def yX6_step : MethodName := ⟨RX6, "step", "(Z)V"⟩
abbrev cX6_grows : ByteArray := prog_8_method_27_code
def yX6_grows : MethodName := ⟨RX6, "grows", "(III)I"⟩
abbrev cX6_flips : ByteArray := prog_8_method_28_code
def yX6_flips : MethodName := ⟨RX6, "flips", "(III)I"⟩
abbrev cX6_box : ByteArray := prog_8_method_29_code
def yX6_box : MethodName := ⟨RX6, "box", "(IIIII)I"⟩
abbrev cX6_mix : ByteArray := prog_8_method_30_code
def yX6_mix : MethodName := ⟨RX6, "mix", "(IIII)I"⟩
abbrev cX6_move : ByteArray := prog_8_method_31_code
def yX6_move : MethodName := ⟨RX6, "move", "(IIII)I"⟩
abbrev cX6_grow : ByteArray := prog_8_method_32_code
def yX6_grow : MethodName := ⟨RX6, "grow", "(III)I"⟩
abbrev cX6_flip : ByteArray := prog_8_method_33_code
def yX6_flip : MethodName := ⟨RX6, "flip", "(III)I"⟩
abbrev cX6_rest : ByteArray := prog_8_method_34_code
def yX6_rest : MethodName := ⟨RX6, "rest", "(II)I"⟩
abbrev cX6_hangs : ByteArray := prog_8_method_35_code
def yX6_hangs : MethodName := ⟨RX6, "hangs", "()V"⟩
abbrev cX6_part : ByteArray := prog_8_method_36_code
def yX6_part : MethodName := ⟨RX6, "part", "(IIII)I"⟩
abbrev cX6_partsOf : ByteArray := prog_8_method_37_code
def yX6_partsOf : MethodName := ⟨RX6, "partsOf", "(I)I"⟩
abbrev cX6_corner : ByteArray := prog_8_method_38_code
def yX6_corner : MethodName := ⟨RX6, "corner", "(II)I"⟩
abbrev cX6_crossed : ByteArray := prog_8_method_39_code
def yX6_crossed : MethodName := ⟨RX6, "crossed", "(II)I"⟩
abbrev cX6_round : ByteArray := prog_8_method_40_code
def yX6_round : MethodName := ⟨RX6, "round", "(I)I"⟩
abbrev cX6_draw : ByteArray := prog_8_method_41_code
def yX6_draw : MethodName := ⟨RX6, "draw", "(III)I"⟩
abbrev cX6_hit : ByteArray := prog_8_method_42_code
def yX6_hit : MethodName := ⟨RX6, "hit", "(III)I"⟩
abbrev cX6_sides : ByteArray := prog_8_method_43_code
def yX6_sides : MethodName := ⟨RX6, "sides", "(I)I"⟩
abbrev cX6_bound : ByteArray := prog_8_method_44_code
def yX6_bound : MethodName := ⟨RX6, "bound", "(II)I"⟩
abbrev cX6_of : ByteArray := prog_8_method_45_code
def yX6_of : MethodName := ⟨RX6, "of", "(II)I"⟩
abbrev cX6_span : ByteArray := prog_8_method_46_code
def yX6_span : MethodName := ⟨RX6, "span", "(III)I"⟩
abbrev cX6_commonOf : ByteArray := prog_8_method_47_code
def yX6_commonOf : MethodName := ⟨RX6, "commonOf", "(II)I"⟩
abbrev cX6_beside : ByteArray := prog_8_method_48_code
def yX6_beside : MethodName := ⟨RX6, "beside", "(II)Z"⟩
abbrev cX6_two : ByteArray := prog_8_method_49_code
def yX6_two : MethodName := ⟨RX6, "two", "(III)I"⟩
abbrev cX6_common : ByteArray := prog_8_method_50_code
def yX6_common : MethodName := ⟨RX6, "common", "(II)I"⟩
abbrev cX6_across : ByteArray := prog_8_method_51_code
def yX6_across : MethodName := ⟨RX6, "across", "(III)I"⟩
abbrev cX6_apart : ByteArray := prog_8_method_52_code
def yX6_apart : MethodName := ⟨RX6, "apart", "(II)I"⟩
abbrev cX6_type : ByteArray := prog_8_method_53_code
def yX6_type : MethodName := ⟨RX6, "type", "(I)I"⟩
abbrev cX6_clear : ByteArray := prog_8_method_54_code
def yX6_clear : MethodName := ⟨RX6, "clear", "()I"⟩
abbrev cX6_byteAt : ByteArray := prog_8_method_55_code
def yX6_byteAt : MethodName := ⟨RX6, "byteAt", "(I)I"⟩
abbrev cX6_skips : ByteArray := prog_8_method_56_code
def yX6_skips : MethodName := ⟨RX6, "skips", "()V"⟩
abbrev cX6_isDigit : ByteArray := prog_8_method_57_code
def yX6_isDigit : MethodName := ⟨RX6, "isDigit", "(I)Z"⟩
abbrev cX6_number : ByteArray := prog_8_method_58_code
def yX6_number : MethodName := ⟨RX6, "number", "(III)Z"⟩
abbrev cX6_isWord : ByteArray := prog_8_method_59_code
def yX6_isWord : MethodName := ⟨RX6, "isWord", "(II)Z"⟩
abbrev cX6_word : ByteArray := prog_8_method_60_code
def yX6_word : MethodName := ⟨RX6, "word", "()I"⟩
abbrev cX6_sentence : ByteArray := prog_8_method_61_code
def yX6_sentence : MethodName := ⟨RX6, "sentence", "()I"⟩
abbrev cX6_done : ByteArray := prog_8_method_62_code
def yX6_done : MethodName := ⟨RX6, "done", "(I)I"⟩
abbrev cX6_goesThrough : ByteArray := prog_8_method_63_code
def yX6_goesThrough : MethodName := ⟨RX6, "goesThrough", "(Z)I"⟩
abbrev cX6_does : ByteArray := prog_8_method_64_code
def yX6_does : MethodName := ⟨RX6, "does", "()I"⟩
abbrev cX6_writing : ByteArray := prog_8_method_65_code
def yX6_writing : MethodName := ⟨RX6, "writing", "(II)I"⟩
abbrev cX6_markOf : ByteArray := prog_8_method_66_code
def yX6_markOf : MethodName := ⟨RX6, "markOf", "(I)I"⟩
abbrev cX6_mark : ByteArray := prog_8_method_67_code
def yX6_mark : MethodName := ⟨RX6, "mark", "(I)I"⟩
abbrev cX6_toldOf : ByteArray := prog_8_method_68_code
def yX6_toldOf : MethodName := ⟨RX6, "toldOf", "(I)I"⟩
abbrev cX6_told : ByteArray := prog_8_method_69_code
def yX6_told : MethodName := ⟨RX6, "told", "(I)I"⟩
abbrev cX6_digest : ByteArray := prog_8_method_70_code
def yX6_digest : MethodName := ⟨RX6, "digest", "()J"⟩
def RJ13 : String := "java/lang/Long"
abbrev cJ13_bitCount_95d88 : ByteArray := prog_9_method_50_code
def yJ13_bitCount_95d88 : MethodName := ⟨RJ13, "bitCount", "(J)I"⟩
def RJ9 : String := "java/lang/Math"
abbrev cJ9_floorDiv_7cf53 : ByteArray := prog_10_method_47_code
def yJ9_floorDiv_7cf53 : MethodName := ⟨RJ9, "floorDiv", "(II)I"⟩
abbrev cJ9_abs_0f7a4 : ByteArray := prog_10_method_59_code
def yJ9_abs_0f7a4 : MethodName := ⟨RJ9, "abs", "(I)I"⟩
abbrev cJ9_max_7cf53 : ByteArray := prog_10_method_65_code
def yJ9_max_7cf53 : MethodName := ⟨RJ9, "max", "(II)I"⟩
abbrev cJ9_min_7cf53 : ByteArray := prog_10_method_69_code
def yJ9_min_7cf53 : MethodName := ⟨RJ9, "min", "(II)I"⟩
def RJ0 : String := "java/lang/String"
abbrev cJ0_charAt_5068e : ByteArray := prog_11_method_56_code
def yJ0_charAt_5068e : MethodName := ⟨RJ0, "charAt", "(I)C"⟩
abbrev cJ0_isLatin1_aae02 : ByteArray := prog_11_method_154_code
def yJ0_isLatin1_aae02 : MethodName := ⟨RJ0, "isLatin1", "()Z"⟩
abbrev cJ0_checkIndex_df160 : ByteArray := prog_11_method_155_code
def yJ0_checkIndex_df160 : MethodName := ⟨RJ0, "checkIndex", "(II)V"⟩
def RJ1 : String := "java/lang/StringLatin1"
abbrev cJ1_charAt_3b067 : ByteArray := prog_12_method_2_code
def yJ1_charAt_3b067 : MethodName := ⟨RJ1, "charAt", "([BI)C"⟩
def RJ2 : String := "java/lang/StringUTF16"
abbrev cJ2_getChar_3b067 : ByteArray := prog_13_method_5_code
def yJ2_getChar_3b067 : MethodName := ⟨RJ2, "getChar", "([BI)C"⟩
abbrev cJ2_length_9d52b : ByteArray := prog_13_method_6_code
def yJ2_length_9d52b : MethodName := ⟨RJ2, "length", "([B)I"⟩
abbrev cJ2_charAt_3b067 : ByteArray := prog_13_method_83_code
def yJ2_charAt_3b067 : MethodName := ⟨RJ2, "charAt", "([BI)C"⟩
abbrev cJ2_checkIndex_2214a : ByteArray := prog_13_method_91_code
def yJ2_checkIndex_2214a : MethodName := ⟨RJ2, "checkIndex", "(I[B)V"⟩
def RJ10 : String := "java/lang/System"
def RJ7 : String := "java/util/Arrays"
abbrev cJ7_fill_d0a16 : ByteArray := prog_15_method_101_code
def yJ7_fill_d0a16 : MethodName := ⟨RJ7, "fill", "([JJ)V"⟩
def RJ3 : String := "jdk/internal/util/Preconditions"
abbrev cJ3_checkIndex_8e157 : ByteArray := prog_16_method_11_code
def yJ3_checkIndex_8e157 : MethodName := ⟨RJ3, "checkIndex", "(IILjava/util/function/BiFunction;)I"⟩
def RL : String := "BandAreasLaw"
abbrev cL_law : ByteArray := code
def yL_law : MethodName := ⟨RL, "law", "([I)Z"⟩
abbrev vwCl : List vw_C := [(RX0, TX0, 2), (RX1, TX1, 8), (RX2, TX2, 3), (RX3, TX3, 4), (RX4, TX4, 8), (RX5, TX5, 8), (RX6, TX6, 19)]
end
section
theorem dX0_init_0 : decode cX0_init 0 = .ok (.aload_n 0, 1) := by decide +kernel
theorem dX0_init_1 : decode cX0_init 1 = .ok (.invokespecial 3, 3) := by decide +kernel
theorem dX0_init_4 : decode cX0_init 4 = .ok (.aload_n 0, 1) := by decide +kernel
theorem dX0_init_5 : decode cX0_init 5 = .ok (.bipush 120, 2) := by decide +kernel
theorem dX0_init_7 : decode cX0_init 7 = .ok (.newarray .long, 2) := by decide +kernel
theorem dX0_init_9 : decode cX0_init 9 = .ok (.putfield 9, 3) := by decide +kernel
theorem dX0_init_12 : decode cX0_init 12 = .ok (.aload_n 0, 1) := by decide +kernel
theorem dX0_init_13 : decode cX0_init 13 = .ok (.bipush 120, 2) := by decide +kernel
theorem dX0_init_15 : decode cX0_init 15 = .ok (.newarray .long, 2) := by decide +kernel
theorem dX0_init_17 : decode cX0_init 17 = .ok (.putfield 15, 3) := by decide +kernel
theorem dX0_init_20 : decode cX0_init 20 = .ok (.return_, 1) := by decide +kernel
theorem dX0_empty_0 : decode cX0_empty 0 = .ok (.aload_n 0, 1) := by decide +kernel
theorem dX0_empty_1 : decode cX0_empty 1 = .ok (.getfield 9, 3) := by decide +kernel
theorem dX0_empty_4 : decode cX0_empty 4 = .ok (.lconst 0, 1) := by decide +kernel
theorem dX0_empty_5 : decode cX0_empty 5 = .ok (.invokestatic 18, 3) := by decide +kernel
theorem dX0_empty_8 : decode cX0_empty 8 = .ok (.aload_n 0, 1) := by decide +kernel
theorem dX0_empty_9 : decode cX0_empty 9 = .ok (.getfield 15, 3) := by decide +kernel
theorem dX0_empty_12 : decode cX0_empty 12 = .ok (.lconst 0, 1) := by decide +kernel
theorem dX0_empty_13 : decode cX0_empty 13 = .ok (.invokestatic 18, 3) := by decide +kernel
theorem dX0_empty_16 : decode cX0_empty 16 = .ok (.return_, 1) := by decide +kernel
theorem dX0_copy_0 : decode cX0_copy 0 = .ok (.aload_n 1, 1) := by decide +kernel
theorem dX0_copy_1 : decode cX0_copy 1 = .ok (.getfield 9, 3) := by decide +kernel
theorem dX0_copy_4 : decode cX0_copy 4 = .ok (.iconst 0, 1) := by decide +kernel
theorem dX0_copy_5 : decode cX0_copy 5 = .ok (.aload_n 0, 1) := by decide +kernel
theorem dX0_copy_6 : decode cX0_copy 6 = .ok (.getfield 9, 3) := by decide +kernel
theorem dX0_copy_9 : decode cX0_copy 9 = .ok (.iconst 0, 1) := by decide +kernel
theorem dX0_copy_10 : decode cX0_copy 10 = .ok (.bipush 120, 2) := by decide +kernel
theorem dX0_copy_12 : decode cX0_copy 12 = .ok (.invokestatic 24, 3) := by decide +kernel
theorem dX0_copy_15 : decode cX0_copy 15 = .ok (.aload_n 1, 1) := by decide +kernel
theorem dX0_copy_16 : decode cX0_copy 16 = .ok (.getfield 15, 3) := by decide +kernel
theorem dX0_copy_19 : decode cX0_copy 19 = .ok (.iconst 0, 1) := by decide +kernel
theorem dX0_copy_20 : decode cX0_copy 20 = .ok (.aload_n 0, 1) := by decide +kernel
theorem dX0_copy_21 : decode cX0_copy 21 = .ok (.getfield 15, 3) := by decide +kernel
theorem dX0_copy_24 : decode cX0_copy 24 = .ok (.iconst 0, 1) := by decide +kernel
theorem dX0_copy_25 : decode cX0_copy 25 = .ok (.bipush 120, 2) := by decide +kernel
theorem dX0_copy_27 : decode cX0_copy 27 = .ok (.invokestatic 24, 3) := by decide +kernel
theorem dX0_copy_30 : decode cX0_copy 30 = .ok (.return_, 1) := by decide +kernel
theorem dX0_fill_0 : decode cX0_fill 0 = .ok (.iload_n 1, 1) := by decide +kernel
theorem dX0_fill_1 : decode cX0_fill 1 = .ok (.bipush 60, 2) := by decide +kernel
theorem dX0_fill_3 : decode cX0_fill 3 = .ok (.iadd, 1) := by decide +kernel
theorem dX0_fill_4 : decode cX0_fill 4 = .ok (.iload_n 3, 1) := by decide +kernel
theorem dX0_fill_5 : decode cX0_fill 5 = .ok (.bipush 60, 2) := by decide +kernel
theorem dX0_fill_7 : decode cX0_fill 7 = .ok (.iadd, 1) := by decide +kernel
theorem dX0_fill_8 : decode cX0_fill 8 = .ok (.invokestatic 30, 3) := by decide +kernel
theorem dX0_fill_11 : decode cX0_fill 11 = .ok (.lstore 5, 2) := by decide +kernel
theorem dX0_fill_13 : decode cX0_fill 13 = .ok (.iload_n 1, 1) := by decide +kernel
theorem dX0_fill_14 : decode cX0_fill 14 = .ok (.iload_n 3, 1) := by decide +kernel
theorem dX0_fill_15 : decode cX0_fill 15 = .ok (.invokestatic 30, 3) := by decide +kernel
theorem dX0_fill_18 : decode cX0_fill 18 = .ok (.lstore 7, 2) := by decide +kernel
theorem dX0_fill_20 : decode cX0_fill 20 = .ok (.iload 4, 2) := by decide +kernel
theorem dX0_fill_22 : decode cX0_fill 22 = .ok (.bipush 60, 2) := by decide +kernel
theorem dX0_fill_24 : decode cX0_fill 24 = .ok (.invokestatic 34, 3) := by decide +kernel
theorem dX0_fill_27 : decode cX0_fill 27 = .ok (.bipush 60, 2) := by decide +kernel
theorem dX0_fill_29 : decode cX0_fill 29 = .ok (.iadd, 1) := by decide +kernel
theorem dX0_fill_30 : decode cX0_fill 30 = .ok (.istore 9, 2) := by decide +kernel
theorem dX0_fill_32 : decode cX0_fill 32 = .ok (.iload_n 2, 1) := by decide +kernel
theorem dX0_fill_33 : decode cX0_fill 33 = .ok (.bipush (-60), 2) := by decide +kernel
theorem dX0_fill_35 : decode cX0_fill 35 = .ok (.invokestatic 40, 3) := by decide +kernel
theorem dX0_fill_38 : decode cX0_fill 38 = .ok (.bipush 60, 2) := by decide +kernel
theorem dX0_fill_40 : decode cX0_fill 40 = .ok (.iadd, 1) := by decide +kernel
theorem dX0_fill_41 : decode cX0_fill 41 = .ok (.istore 10, 2) := by decide +kernel
theorem dX0_fill_43 : decode cX0_fill 43 = .ok (.iload 10, 2) := by decide +kernel
theorem dX0_fill_45 : decode cX0_fill 45 = .ok (.iload 9, 2) := by decide +kernel
theorem dX0_fill_47 : decode cX0_fill 47 = .ok (.if_icmp .ge 33, 3) := by decide +kernel
theorem dX0_fill_50 : decode cX0_fill 50 = .ok (.aload_n 0, 1) := by decide +kernel
theorem dX0_fill_51 : decode cX0_fill 51 = .ok (.getfield 9, 3) := by decide +kernel
theorem dX0_fill_54 : decode cX0_fill 54 = .ok (.iload 10, 2) := by decide +kernel
theorem dX0_fill_56 : decode cX0_fill 56 = .ok (.dup2, 1) := by decide +kernel
theorem dX0_fill_57 : decode cX0_fill 57 = .ok (.laload, 1) := by decide +kernel
theorem dX0_fill_58 : decode cX0_fill 58 = .ok (.lload 5, 2) := by decide +kernel
theorem dX0_fill_60 : decode cX0_fill 60 = .ok (.lor, 1) := by decide +kernel
theorem dX0_fill_61 : decode cX0_fill 61 = .ok (.lastore, 1) := by decide +kernel
theorem dX0_fill_62 : decode cX0_fill 62 = .ok (.aload_n 0, 1) := by decide +kernel
theorem dX0_fill_63 : decode cX0_fill 63 = .ok (.getfield 15, 3) := by decide +kernel
theorem dX0_fill_66 : decode cX0_fill 66 = .ok (.iload 10, 2) := by decide +kernel
theorem dX0_fill_68 : decode cX0_fill 68 = .ok (.dup2, 1) := by decide +kernel
theorem dX0_fill_69 : decode cX0_fill 69 = .ok (.laload, 1) := by decide +kernel
theorem dX0_fill_70 : decode cX0_fill 70 = .ok (.lload 7, 2) := by decide +kernel
theorem dX0_fill_72 : decode cX0_fill 72 = .ok (.lor, 1) := by decide +kernel
theorem dX0_fill_73 : decode cX0_fill 73 = .ok (.lastore, 1) := by decide +kernel
theorem dX0_fill_74 : decode cX0_fill 74 = .ok (.iinc 10 1, 3) := by decide +kernel
theorem dX0_fill_77 : decode cX0_fill 77 = .ok (.goto (-34), 3) := by decide +kernel
theorem dX0_fill_80 : decode cX0_fill 80 = .ok (.return_, 1) := by decide +kernel
theorem dX0_turnOverLeft_0 : decode cX0_turnOverLeft 0 = .ok (.iload_n 1, 1) := by decide +kernel
theorem dX0_turnOverLeft_1 : decode cX0_turnOverLeft 1 = .ok (.bipush 60, 2) := by decide +kernel
theorem dX0_turnOverLeft_3 : decode cX0_turnOverLeft 3 = .ok (.iadd, 1) := by decide +kernel
theorem dX0_turnOverLeft_4 : decode cX0_turnOverLeft 4 = .ok (.istore_n 3, 1) := by decide +kernel
theorem dX0_turnOverLeft_5 : decode cX0_turnOverLeft 5 = .ok (.iload_n 3, 1) := by decide +kernel
theorem dX0_turnOverLeft_6 : decode cX0_turnOverLeft 6 = .ok (.ifCond .lt 40, 3) := by decide +kernel
theorem dX0_turnOverLeft_9 : decode cX0_turnOverLeft 9 = .ok (.iload_n 3, 1) := by decide +kernel
theorem dX0_turnOverLeft_10 : decode cX0_turnOverLeft 10 = .ok (.bipush 120, 2) := by decide +kernel
theorem dX0_turnOverLeft_12 : decode cX0_turnOverLeft 12 = .ok (.if_icmp .ge 34, 3) := by decide +kernel
theorem dX0_turnOverLeft_15 : decode cX0_turnOverLeft 15 = .ok (.aload_n 0, 1) := by decide +kernel
theorem dX0_turnOverLeft_16 : decode cX0_turnOverLeft 16 = .ok (.getfield 9, 3) := by decide +kernel
theorem dX0_turnOverLeft_19 : decode cX0_turnOverLeft 19 = .ok (.iload_n 3, 1) := by decide +kernel
theorem dX0_turnOverLeft_20 : decode cX0_turnOverLeft 20 = .ok (.dup2, 1) := by decide +kernel
theorem dX0_turnOverLeft_21 : decode cX0_turnOverLeft 21 = .ok (.laload, 1) := by decide +kernel
theorem dX0_turnOverLeft_22 : decode cX0_turnOverLeft 22 = .ok (.iconst 0, 1) := by decide +kernel
theorem dX0_turnOverLeft_23 : decode cX0_turnOverLeft 23 = .ok (.iload_n 2, 1) := by decide +kernel
theorem dX0_turnOverLeft_24 : decode cX0_turnOverLeft 24 = .ok (.bipush 60, 2) := by decide +kernel
theorem dX0_turnOverLeft_26 : decode cX0_turnOverLeft 26 = .ok (.iadd, 1) := by decide +kernel
theorem dX0_turnOverLeft_27 : decode cX0_turnOverLeft 27 = .ok (.invokestatic 30, 3) := by decide +kernel
theorem dX0_turnOverLeft_30 : decode cX0_turnOverLeft 30 = .ok (.lxor, 1) := by decide +kernel
theorem dX0_turnOverLeft_31 : decode cX0_turnOverLeft 31 = .ok (.lastore, 1) := by decide +kernel
theorem dX0_turnOverLeft_32 : decode cX0_turnOverLeft 32 = .ok (.aload_n 0, 1) := by decide +kernel
theorem dX0_turnOverLeft_33 : decode cX0_turnOverLeft 33 = .ok (.getfield 15, 3) := by decide +kernel
theorem dX0_turnOverLeft_36 : decode cX0_turnOverLeft 36 = .ok (.iload_n 3, 1) := by decide +kernel
theorem dX0_turnOverLeft_37 : decode cX0_turnOverLeft 37 = .ok (.dup2, 1) := by decide +kernel
theorem dX0_turnOverLeft_38 : decode cX0_turnOverLeft 38 = .ok (.laload, 1) := by decide +kernel
theorem dX0_turnOverLeft_39 : decode cX0_turnOverLeft 39 = .ok (.iconst 0, 1) := by decide +kernel
theorem dX0_turnOverLeft_40 : decode cX0_turnOverLeft 40 = .ok (.iload_n 2, 1) := by decide +kernel
theorem dX0_turnOverLeft_41 : decode cX0_turnOverLeft 41 = .ok (.invokestatic 30, 3) := by decide +kernel
theorem dX0_turnOverLeft_44 : decode cX0_turnOverLeft 44 = .ok (.lxor, 1) := by decide +kernel
theorem dX0_turnOverLeft_45 : decode cX0_turnOverLeft 45 = .ok (.lastore, 1) := by decide +kernel
theorem dX0_turnOverLeft_46 : decode cX0_turnOverLeft 46 = .ok (.return_, 1) := by decide +kernel
theorem dX0_bits_0 : decode cX0_bits 0 = .ok (.iload_n 0, 1) := by decide +kernel
theorem dX0_bits_1 : decode cX0_bits 1 = .ok (.iconst 0, 1) := by decide +kernel
theorem dX0_bits_2 : decode cX0_bits 2 = .ok (.invokestatic 40, 3) := by decide +kernel
theorem dX0_bits_5 : decode cX0_bits 5 = .ok (.istore_n 2, 1) := by decide +kernel
theorem dX0_bits_6 : decode cX0_bits 6 = .ok (.iload_n 1, 1) := by decide +kernel
theorem dX0_bits_7 : decode cX0_bits 7 = .ok (.bipush 60, 2) := by decide +kernel
theorem dX0_bits_9 : decode cX0_bits 9 = .ok (.invokestatic 34, 3) := by decide +kernel
theorem dX0_bits_12 : decode cX0_bits 12 = .ok (.iload_n 2, 1) := by decide +kernel
theorem dX0_bits_13 : decode cX0_bits 13 = .ok (.isub, 1) := by decide +kernel
theorem dX0_bits_14 : decode cX0_bits 14 = .ok (.istore_n 3, 1) := by decide +kernel
theorem dX0_bits_15 : decode cX0_bits 15 = .ok (.iload_n 3, 1) := by decide +kernel
theorem dX0_bits_16 : decode cX0_bits 16 = .ok (.ifCond .gt 7, 3) := by decide +kernel
theorem dX0_bits_19 : decode cX0_bits 19 = .ok (.lconst 0, 1) := by decide +kernel
theorem dX0_bits_20 : decode cX0_bits 20 = .ok (.goto 13, 3) := by decide +kernel
theorem dX0_bits_23 : decode cX0_bits 23 = .ok (.ldc2_w 43, 3) := by decide +kernel
theorem dX0_bits_26 : decode cX0_bits 26 = .ok (.bipush 60, 2) := by decide +kernel
theorem dX0_bits_28 : decode cX0_bits 28 = .ok (.iload_n 3, 1) := by decide +kernel
theorem dX0_bits_29 : decode cX0_bits 29 = .ok (.isub, 1) := by decide +kernel
theorem dX0_bits_30 : decode cX0_bits 30 = .ok (.lushr, 1) := by decide +kernel
theorem dX0_bits_31 : decode cX0_bits 31 = .ok (.iload_n 2, 1) := by decide +kernel
theorem dX0_bits_32 : decode cX0_bits 32 = .ok (.lshl, 1) := by decide +kernel
theorem dX0_bits_33 : decode cX0_bits 33 = .ok (.lreturn, 1) := by decide +kernel
theorem dX0_combine_0 : decode cX0_combine 0 = .ok (.iconst 0, 1) := by decide +kernel
theorem dX0_combine_1 : decode cX0_combine 1 = .ok (.istore 4, 2) := by decide +kernel
theorem dX0_combine_3 : decode cX0_combine 3 = .ok (.iload 4, 2) := by decide +kernel
theorem dX0_combine_5 : decode cX0_combine 5 = .ok (.bipush 120, 2) := by decide +kernel
theorem dX0_combine_7 : decode cX0_combine 7 = .ok (.if_icmp .ge 59, 3) := by decide +kernel
theorem dX0_combine_10 : decode cX0_combine 10 = .ok (.aload_n 0, 1) := by decide +kernel
theorem dX0_combine_11 : decode cX0_combine 11 = .ok (.getfield 9, 3) := by decide +kernel
theorem dX0_combine_14 : decode cX0_combine 14 = .ok (.iload 4, 2) := by decide +kernel
theorem dX0_combine_16 : decode cX0_combine 16 = .ok (.iload_n 1, 1) := by decide +kernel
theorem dX0_combine_17 : decode cX0_combine 17 = .ok (.aload_n 2, 1) := by decide +kernel
theorem dX0_combine_18 : decode cX0_combine 18 = .ok (.getfield 9, 3) := by decide +kernel
theorem dX0_combine_21 : decode cX0_combine 21 = .ok (.iload 4, 2) := by decide +kernel
theorem dX0_combine_23 : decode cX0_combine 23 = .ok (.laload, 1) := by decide +kernel
theorem dX0_combine_24 : decode cX0_combine 24 = .ok (.aload_n 3, 1) := by decide +kernel
theorem dX0_combine_25 : decode cX0_combine 25 = .ok (.getfield 9, 3) := by decide +kernel
theorem dX0_combine_28 : decode cX0_combine 28 = .ok (.iload 4, 2) := by decide +kernel
theorem dX0_combine_30 : decode cX0_combine 30 = .ok (.laload, 1) := by decide +kernel
theorem dX0_combine_31 : decode cX0_combine 31 = .ok (.invokestatic 45, 3) := by decide +kernel
theorem dX0_combine_34 : decode cX0_combine 34 = .ok (.lastore, 1) := by decide +kernel
theorem dX0_combine_35 : decode cX0_combine 35 = .ok (.aload_n 0, 1) := by decide +kernel
theorem dX0_combine_36 : decode cX0_combine 36 = .ok (.getfield 15, 3) := by decide +kernel
theorem dX0_combine_39 : decode cX0_combine 39 = .ok (.iload 4, 2) := by decide +kernel
theorem dX0_combine_41 : decode cX0_combine 41 = .ok (.iload_n 1, 1) := by decide +kernel
theorem dX0_combine_42 : decode cX0_combine 42 = .ok (.aload_n 2, 1) := by decide +kernel
theorem dX0_combine_43 : decode cX0_combine 43 = .ok (.getfield 15, 3) := by decide +kernel
theorem dX0_combine_46 : decode cX0_combine 46 = .ok (.iload 4, 2) := by decide +kernel
theorem dX0_combine_48 : decode cX0_combine 48 = .ok (.laload, 1) := by decide +kernel
theorem dX0_combine_49 : decode cX0_combine 49 = .ok (.aload_n 3, 1) := by decide +kernel
theorem dX0_combine_50 : decode cX0_combine 50 = .ok (.getfield 15, 3) := by decide +kernel
theorem dX0_combine_53 : decode cX0_combine 53 = .ok (.iload 4, 2) := by decide +kernel
theorem dX0_combine_55 : decode cX0_combine 55 = .ok (.laload, 1) := by decide +kernel
theorem dX0_combine_56 : decode cX0_combine 56 = .ok (.invokestatic 45, 3) := by decide +kernel
theorem dX0_combine_59 : decode cX0_combine 59 = .ok (.lastore, 1) := by decide +kernel
theorem dX0_combine_60 : decode cX0_combine 60 = .ok (.iinc 4 1, 3) := by decide +kernel
theorem dX0_combine_63 : decode cX0_combine 63 = .ok (.goto (-60), 3) := by decide +kernel
theorem dX0_combine_66 : decode cX0_combine 66 = .ok (.return_, 1) := by decide +kernel
theorem dX0_combined_0 : decode cX0_combined 0 = .ok (.iload_n 0, 1) := by decide +kernel
theorem dX0_combined_1 : decode cX0_combined 1 = .ok (.tableswitch 43 0 2 #[27, 31, 35], 27) := by decide +kernel
theorem dX0_combined_28 : decode cX0_combined 28 = .ok (.lload_n 1, 1) := by decide +kernel
theorem dX0_combined_29 : decode cX0_combined 29 = .ok (.lload_n 3, 1) := by decide +kernel
theorem dX0_combined_30 : decode cX0_combined 30 = .ok (.lor, 1) := by decide +kernel
theorem dX0_combined_31 : decode cX0_combined 31 = .ok (.lreturn, 1) := by decide +kernel
theorem dX0_combined_32 : decode cX0_combined 32 = .ok (.lload_n 1, 1) := by decide +kernel
theorem dX0_combined_33 : decode cX0_combined 33 = .ok (.lload_n 3, 1) := by decide +kernel
theorem dX0_combined_34 : decode cX0_combined 34 = .ok (.land, 1) := by decide +kernel
theorem dX0_combined_35 : decode cX0_combined 35 = .ok (.lreturn, 1) := by decide +kernel
theorem dX0_combined_36 : decode cX0_combined 36 = .ok (.lload_n 1, 1) := by decide +kernel
theorem dX0_combined_37 : decode cX0_combined 37 = .ok (.lload_n 3, 1) := by decide +kernel
theorem dX0_combined_38 : decode cX0_combined 38 = .ok (.ldc2_w 49, 3) := by decide +kernel
theorem dX0_combined_41 : decode cX0_combined 41 = .ok (.lxor, 1) := by decide +kernel
theorem dX0_combined_42 : decode cX0_combined 42 = .ok (.land, 1) := by decide +kernel
theorem dX0_combined_43 : decode cX0_combined 43 = .ok (.lreturn, 1) := by decide +kernel
theorem dX0_combined_44 : decode cX0_combined 44 = .ok (.lload_n 1, 1) := by decide +kernel
theorem dX0_combined_45 : decode cX0_combined 45 = .ok (.lload_n 3, 1) := by decide +kernel
theorem dX0_combined_46 : decode cX0_combined 46 = .ok (.lxor, 1) := by decide +kernel
theorem dX0_combined_47 : decode cX0_combined 47 = .ok (.lreturn, 1) := by decide +kernel
theorem dX0_invert_0 : decode cX0_invert 0 = .ok (.iconst 0, 1) := by decide +kernel
theorem dX0_invert_1 : decode cX0_invert 1 = .ok (.istore_n 1, 1) := by decide +kernel
theorem dX0_invert_2 : decode cX0_invert 2 = .ok (.iload_n 1, 1) := by decide +kernel
theorem dX0_invert_3 : decode cX0_invert 3 = .ok (.bipush 120, 2) := by decide +kernel
theorem dX0_invert_5 : decode cX0_invert 5 = .ok (.if_icmp .ge 49, 3) := by decide +kernel
theorem dX0_invert_8 : decode cX0_invert 8 = .ok (.aload_n 0, 1) := by decide +kernel
theorem dX0_invert_9 : decode cX0_invert 9 = .ok (.getfield 9, 3) := by decide +kernel
theorem dX0_invert_12 : decode cX0_invert 12 = .ok (.iload_n 1, 1) := by decide +kernel
theorem dX0_invert_13 : decode cX0_invert 13 = .ok (.aload_n 0, 1) := by decide +kernel
theorem dX0_invert_14 : decode cX0_invert 14 = .ok (.getfield 9, 3) := by decide +kernel
theorem dX0_invert_17 : decode cX0_invert 17 = .ok (.iload_n 1, 1) := by decide +kernel
theorem dX0_invert_18 : decode cX0_invert 18 = .ok (.laload, 1) := by decide +kernel
theorem dX0_invert_19 : decode cX0_invert 19 = .ok (.ldc2_w 49, 3) := by decide +kernel
theorem dX0_invert_22 : decode cX0_invert 22 = .ok (.lxor, 1) := by decide +kernel
theorem dX0_invert_23 : decode cX0_invert 23 = .ok (.ldc2_w 43, 3) := by decide +kernel
theorem dX0_invert_26 : decode cX0_invert 26 = .ok (.land, 1) := by decide +kernel
theorem dX0_invert_27 : decode cX0_invert 27 = .ok (.lastore, 1) := by decide +kernel
theorem dX0_invert_28 : decode cX0_invert 28 = .ok (.aload_n 0, 1) := by decide +kernel
theorem dX0_invert_29 : decode cX0_invert 29 = .ok (.getfield 15, 3) := by decide +kernel
theorem dX0_invert_32 : decode cX0_invert 32 = .ok (.iload_n 1, 1) := by decide +kernel
theorem dX0_invert_33 : decode cX0_invert 33 = .ok (.aload_n 0, 1) := by decide +kernel
theorem dX0_invert_34 : decode cX0_invert 34 = .ok (.getfield 15, 3) := by decide +kernel
theorem dX0_invert_37 : decode cX0_invert 37 = .ok (.iload_n 1, 1) := by decide +kernel
theorem dX0_invert_38 : decode cX0_invert 38 = .ok (.laload, 1) := by decide +kernel
theorem dX0_invert_39 : decode cX0_invert 39 = .ok (.ldc2_w 49, 3) := by decide +kernel
theorem dX0_invert_42 : decode cX0_invert 42 = .ok (.lxor, 1) := by decide +kernel
theorem dX0_invert_43 : decode cX0_invert 43 = .ok (.ldc2_w 43, 3) := by decide +kernel
theorem dX0_invert_46 : decode cX0_invert 46 = .ok (.land, 1) := by decide +kernel
theorem dX0_invert_47 : decode cX0_invert 47 = .ok (.lastore, 1) := by decide +kernel
theorem dX0_invert_48 : decode cX0_invert 48 = .ok (.iinc 1 1, 3) := by decide +kernel
theorem dX0_invert_51 : decode cX0_invert 51 = .ok (.goto (-49), 3) := by decide +kernel
theorem dX0_invert_54 : decode cX0_invert 54 = .ok (.return_, 1) := by decide +kernel
theorem dX0_spread_0 : decode cX0_spread 0 = .ok (.iload_n 1, 1) := by decide +kernel
theorem dX0_spread_1 : decode cX0_spread 1 = .ok (.ifCond .eq 9, 3) := by decide +kernel
theorem dX0_spread_4 : decode cX0_spread 4 = .ok (.ldc2_w 43, 3) := by decide +kernel
theorem dX0_spread_7 : decode cX0_spread 7 = .ok (.goto 4, 3) := by decide +kernel
theorem dX0_spread_10 : decode cX0_spread 10 = .ok (.lconst 0, 1) := by decide +kernel
theorem dX0_spread_11 : decode cX0_spread 11 = .ok (.lstore_n 2, 1) := by decide +kernel
theorem dX0_spread_12 : decode cX0_spread 12 = .ok (.aload_n 0, 1) := by decide +kernel
theorem dX0_spread_13 : decode cX0_spread 13 = .ok (.lload_n 2, 1) := by decide +kernel
theorem dX0_spread_14 : decode cX0_spread 14 = .ok (.invokevirtual 51, 3) := by decide +kernel
theorem dX0_spread_17 : decode cX0_spread 17 = .ok (.aload_n 0, 1) := by decide +kernel
theorem dX0_spread_18 : decode cX0_spread 18 = .ok (.getfield 9, 3) := by decide +kernel
theorem dX0_spread_21 : decode cX0_spread 21 = .ok (.lload_n 2, 1) := by decide +kernel
theorem dX0_spread_22 : decode cX0_spread 22 = .ok (.invokestatic 55, 3) := by decide +kernel
theorem dX0_spread_25 : decode cX0_spread 25 = .ok (.aload_n 0, 1) := by decide +kernel
theorem dX0_spread_26 : decode cX0_spread 26 = .ok (.getfield 15, 3) := by decide +kernel
theorem dX0_spread_29 : decode cX0_spread 29 = .ok (.lload_n 2, 1) := by decide +kernel
theorem dX0_spread_30 : decode cX0_spread 30 = .ok (.invokestatic 55, 3) := by decide +kernel
theorem dX0_spread_33 : decode cX0_spread 33 = .ok (.return_, 1) := by decide +kernel
theorem dX0_spreadSideways_0 : decode cX0_spreadSideways 0 = .ok (.lload_n 1, 1) := by decide +kernel
theorem dX0_spreadSideways_1 : decode cX0_spreadSideways 1 = .ok (.lconst 1, 1) := by decide +kernel
theorem dX0_spreadSideways_2 : decode cX0_spreadSideways 2 = .ok (.land, 1) := by decide +kernel
theorem dX0_spreadSideways_3 : decode cX0_spreadSideways 3 = .ok (.lstore_n 3, 1) := by decide +kernel
theorem dX0_spreadSideways_4 : decode cX0_spreadSideways 4 = .ok (.lload_n 3, 1) := by decide +kernel
theorem dX0_spreadSideways_5 : decode cX0_spreadSideways 5 = .ok (.bipush 59, 2) := by decide +kernel
theorem dX0_spreadSideways_7 : decode cX0_spreadSideways 7 = .ok (.lshl, 1) := by decide +kernel
theorem dX0_spreadSideways_8 : decode cX0_spreadSideways 8 = .ok (.lstore 5, 2) := by decide +kernel
theorem dX0_spreadSideways_10 : decode cX0_spreadSideways 10 = .ok (.iconst 0, 1) := by decide +kernel
theorem dX0_spreadSideways_11 : decode cX0_spreadSideways 11 = .ok (.istore 7, 2) := by decide +kernel
theorem dX0_spreadSideways_13 : decode cX0_spreadSideways 13 = .ok (.iload 7, 2) := by decide +kernel
theorem dX0_spreadSideways_15 : decode cX0_spreadSideways 15 = .ok (.bipush 120, 2) := by decide +kernel
theorem dX0_spreadSideways_17 : decode cX0_spreadSideways 17 = .ok (.if_icmp .ge 90, 3) := by decide +kernel
theorem dX0_spreadSideways_20 : decode cX0_spreadSideways 20 = .ok (.aload_n 0, 1) := by decide +kernel
theorem dX0_spreadSideways_21 : decode cX0_spreadSideways 21 = .ok (.getfield 9, 3) := by decide +kernel
theorem dX0_spreadSideways_24 : decode cX0_spreadSideways 24 = .ok (.iload 7, 2) := by decide +kernel
theorem dX0_spreadSideways_26 : decode cX0_spreadSideways 26 = .ok (.laload, 1) := by decide +kernel
theorem dX0_spreadSideways_27 : decode cX0_spreadSideways 27 = .ok (.lstore 8, 2) := by decide +kernel
theorem dX0_spreadSideways_29 : decode cX0_spreadSideways 29 = .ok (.aload_n 0, 1) := by decide +kernel
theorem dX0_spreadSideways_30 : decode cX0_spreadSideways 30 = .ok (.getfield 15, 3) := by decide +kernel
theorem dX0_spreadSideways_33 : decode cX0_spreadSideways 33 = .ok (.iload 7, 2) := by decide +kernel
theorem dX0_spreadSideways_35 : decode cX0_spreadSideways 35 = .ok (.laload, 1) := by decide +kernel
theorem dX0_spreadSideways_36 : decode cX0_spreadSideways 36 = .ok (.lstore 10, 2) := by decide +kernel
theorem dX0_spreadSideways_38 : decode cX0_spreadSideways 38 = .ok (.aload_n 0, 1) := by decide +kernel
theorem dX0_spreadSideways_39 : decode cX0_spreadSideways 39 = .ok (.getfield 9, 3) := by decide +kernel
theorem dX0_spreadSideways_42 : decode cX0_spreadSideways 42 = .ok (.iload 7, 2) := by decide +kernel
theorem dX0_spreadSideways_44 : decode cX0_spreadSideways 44 = .ok (.lload 8, 2) := by decide +kernel
theorem dX0_spreadSideways_46 : decode cX0_spreadSideways 46 = .ok (.lload 8, 2) := by decide +kernel
theorem dX0_spreadSideways_48 : decode cX0_spreadSideways 48 = .ok (.iconst 1, 1) := by decide +kernel
theorem dX0_spreadSideways_49 : decode cX0_spreadSideways 49 = .ok (.lshl, 1) := by decide +kernel
theorem dX0_spreadSideways_50 : decode cX0_spreadSideways 50 = .ok (.lor, 1) := by decide +kernel
theorem dX0_spreadSideways_51 : decode cX0_spreadSideways 51 = .ok (.lload_n 3, 1) := by decide +kernel
theorem dX0_spreadSideways_52 : decode cX0_spreadSideways 52 = .ok (.lor, 1) := by decide +kernel
theorem dX0_spreadSideways_53 : decode cX0_spreadSideways 53 = .ok (.lload 8, 2) := by decide +kernel
theorem dX0_spreadSideways_55 : decode cX0_spreadSideways 55 = .ok (.iconst 1, 1) := by decide +kernel
theorem dX0_spreadSideways_56 : decode cX0_spreadSideways 56 = .ok (.lushr, 1) := by decide +kernel
theorem dX0_spreadSideways_57 : decode cX0_spreadSideways 57 = .ok (.lor, 1) := by decide +kernel
theorem dX0_spreadSideways_58 : decode cX0_spreadSideways 58 = .ok (.lload 10, 2) := by decide +kernel
theorem dX0_spreadSideways_60 : decode cX0_spreadSideways 60 = .ok (.bipush 59, 2) := by decide +kernel
theorem dX0_spreadSideways_62 : decode cX0_spreadSideways 62 = .ok (.lshl, 1) := by decide +kernel
theorem dX0_spreadSideways_63 : decode cX0_spreadSideways 63 = .ok (.lor, 1) := by decide +kernel
theorem dX0_spreadSideways_64 : decode cX0_spreadSideways 64 = .ok (.ldc2_w 43, 3) := by decide +kernel
theorem dX0_spreadSideways_67 : decode cX0_spreadSideways 67 = .ok (.land, 1) := by decide +kernel
theorem dX0_spreadSideways_68 : decode cX0_spreadSideways 68 = .ok (.lastore, 1) := by decide +kernel
theorem dX0_spreadSideways_69 : decode cX0_spreadSideways 69 = .ok (.aload_n 0, 1) := by decide +kernel
theorem dX0_spreadSideways_70 : decode cX0_spreadSideways 70 = .ok (.getfield 15, 3) := by decide +kernel
theorem dX0_spreadSideways_73 : decode cX0_spreadSideways 73 = .ok (.iload 7, 2) := by decide +kernel
theorem dX0_spreadSideways_75 : decode cX0_spreadSideways 75 = .ok (.lload 10, 2) := by decide +kernel
theorem dX0_spreadSideways_77 : decode cX0_spreadSideways 77 = .ok (.lload 10, 2) := by decide +kernel
theorem dX0_spreadSideways_79 : decode cX0_spreadSideways 79 = .ok (.iconst 1, 1) := by decide +kernel
theorem dX0_spreadSideways_80 : decode cX0_spreadSideways 80 = .ok (.lshl, 1) := by decide +kernel
theorem dX0_spreadSideways_81 : decode cX0_spreadSideways 81 = .ok (.lor, 1) := by decide +kernel
theorem dX0_spreadSideways_82 : decode cX0_spreadSideways 82 = .ok (.lload 8, 2) := by decide +kernel
theorem dX0_spreadSideways_84 : decode cX0_spreadSideways 84 = .ok (.bipush 59, 2) := by decide +kernel
theorem dX0_spreadSideways_86 : decode cX0_spreadSideways 86 = .ok (.lushr, 1) := by decide +kernel
theorem dX0_spreadSideways_87 : decode cX0_spreadSideways 87 = .ok (.lor, 1) := by decide +kernel
theorem dX0_spreadSideways_88 : decode cX0_spreadSideways 88 = .ok (.lload 10, 2) := by decide +kernel
theorem dX0_spreadSideways_90 : decode cX0_spreadSideways 90 = .ok (.iconst 1, 1) := by decide +kernel
theorem dX0_spreadSideways_91 : decode cX0_spreadSideways 91 = .ok (.lushr, 1) := by decide +kernel
theorem dX0_spreadSideways_92 : decode cX0_spreadSideways 92 = .ok (.lor, 1) := by decide +kernel
theorem dX0_spreadSideways_93 : decode cX0_spreadSideways 93 = .ok (.lload 5, 2) := by decide +kernel
theorem dX0_spreadSideways_95 : decode cX0_spreadSideways 95 = .ok (.lor, 1) := by decide +kernel
theorem dX0_spreadSideways_96 : decode cX0_spreadSideways 96 = .ok (.ldc2_w 43, 3) := by decide +kernel
theorem dX0_spreadSideways_99 : decode cX0_spreadSideways 99 = .ok (.land, 1) := by decide +kernel
theorem dX0_spreadSideways_100 : decode cX0_spreadSideways 100 = .ok (.lastore, 1) := by decide +kernel
theorem dX0_spreadSideways_101 : decode cX0_spreadSideways 101 = .ok (.iinc 7 1, 3) := by decide +kernel
theorem dX0_spreadSideways_104 : decode cX0_spreadSideways 104 = .ok (.goto (-91), 3) := by decide +kernel
theorem dX0_spreadSideways_107 : decode cX0_spreadSideways 107 = .ok (.return_, 1) := by decide +kernel
theorem dX0_spreadUpAndDown_0 : decode cX0_spreadUpAndDown 0 = .ok (.lload_n 1, 1) := by decide +kernel
theorem dX0_spreadUpAndDown_1 : decode cX0_spreadUpAndDown 1 = .ok (.lstore_n 3, 1) := by decide +kernel
theorem dX0_spreadUpAndDown_2 : decode cX0_spreadUpAndDown 2 = .ok (.iconst 0, 1) := by decide +kernel
theorem dX0_spreadUpAndDown_3 : decode cX0_spreadUpAndDown 3 = .ok (.istore 5, 2) := by decide +kernel
theorem dX0_spreadUpAndDown_5 : decode cX0_spreadUpAndDown 5 = .ok (.iload 5, 2) := by decide +kernel
theorem dX0_spreadUpAndDown_7 : decode cX0_spreadUpAndDown 7 = .ok (.bipush 120, 2) := by decide +kernel
theorem dX0_spreadUpAndDown_9 : decode cX0_spreadUpAndDown 9 = .ok (.if_icmp .ge 50, 3) := by decide +kernel
theorem dX0_spreadUpAndDown_12 : decode cX0_spreadUpAndDown 12 = .ok (.aload_n 0, 1) := by decide +kernel
theorem dX0_spreadUpAndDown_13 : decode cX0_spreadUpAndDown 13 = .ok (.iload 5, 2) := by decide +kernel
theorem dX0_spreadUpAndDown_15 : decode cX0_spreadUpAndDown 15 = .ok (.laload, 1) := by decide +kernel
theorem dX0_spreadUpAndDown_16 : decode cX0_spreadUpAndDown 16 = .ok (.lstore 6, 2) := by decide +kernel
theorem dX0_spreadUpAndDown_18 : decode cX0_spreadUpAndDown 18 = .ok (.iload 5, 2) := by decide +kernel
theorem dX0_spreadUpAndDown_20 : decode cX0_spreadUpAndDown 20 = .ok (.iconst 1, 1) := by decide +kernel
theorem dX0_spreadUpAndDown_21 : decode cX0_spreadUpAndDown 21 = .ok (.iadd, 1) := by decide +kernel
theorem dX0_spreadUpAndDown_22 : decode cX0_spreadUpAndDown 22 = .ok (.bipush 120, 2) := by decide +kernel
theorem dX0_spreadUpAndDown_24 : decode cX0_spreadUpAndDown 24 = .ok (.if_icmp .ge 12, 3) := by decide +kernel
theorem dX0_spreadUpAndDown_27 : decode cX0_spreadUpAndDown 27 = .ok (.aload_n 0, 1) := by decide +kernel
theorem dX0_spreadUpAndDown_28 : decode cX0_spreadUpAndDown 28 = .ok (.iload 5, 2) := by decide +kernel
theorem dX0_spreadUpAndDown_30 : decode cX0_spreadUpAndDown 30 = .ok (.iconst 1, 1) := by decide +kernel
theorem dX0_spreadUpAndDown_31 : decode cX0_spreadUpAndDown 31 = .ok (.iadd, 1) := by decide +kernel
theorem dX0_spreadUpAndDown_32 : decode cX0_spreadUpAndDown 32 = .ok (.laload, 1) := by decide +kernel
theorem dX0_spreadUpAndDown_33 : decode cX0_spreadUpAndDown 33 = .ok (.goto 4, 3) := by decide +kernel
theorem dX0_spreadUpAndDown_36 : decode cX0_spreadUpAndDown 36 = .ok (.lload_n 1, 1) := by decide +kernel
theorem dX0_spreadUpAndDown_37 : decode cX0_spreadUpAndDown 37 = .ok (.lstore 8, 2) := by decide +kernel
theorem dX0_spreadUpAndDown_39 : decode cX0_spreadUpAndDown 39 = .ok (.aload_n 0, 1) := by decide +kernel
theorem dX0_spreadUpAndDown_40 : decode cX0_spreadUpAndDown 40 = .ok (.iload 5, 2) := by decide +kernel
theorem dX0_spreadUpAndDown_42 : decode cX0_spreadUpAndDown 42 = .ok (.lload_n 3, 1) := by decide +kernel
theorem dX0_spreadUpAndDown_43 : decode cX0_spreadUpAndDown 43 = .ok (.lload 6, 2) := by decide +kernel
theorem dX0_spreadUpAndDown_45 : decode cX0_spreadUpAndDown 45 = .ok (.lor, 1) := by decide +kernel
theorem dX0_spreadUpAndDown_46 : decode cX0_spreadUpAndDown 46 = .ok (.lload 8, 2) := by decide +kernel
theorem dX0_spreadUpAndDown_48 : decode cX0_spreadUpAndDown 48 = .ok (.lor, 1) := by decide +kernel
theorem dX0_spreadUpAndDown_49 : decode cX0_spreadUpAndDown 49 = .ok (.lastore, 1) := by decide +kernel
theorem dX0_spreadUpAndDown_50 : decode cX0_spreadUpAndDown 50 = .ok (.lload 6, 2) := by decide +kernel
theorem dX0_spreadUpAndDown_52 : decode cX0_spreadUpAndDown 52 = .ok (.lstore_n 3, 1) := by decide +kernel
theorem dX0_spreadUpAndDown_53 : decode cX0_spreadUpAndDown 53 = .ok (.iinc 5 1, 3) := by decide +kernel
theorem dX0_spreadUpAndDown_56 : decode cX0_spreadUpAndDown 56 = .ok (.goto (-51), 3) := by decide +kernel
theorem dX0_spreadUpAndDown_59 : decode cX0_spreadUpAndDown 59 = .ok (.return_, 1) := by decide +kernel
theorem dX0_holds_0 : decode cX0_holds 0 = .ok (.iload_n 2, 1) := by decide +kernel
theorem dX0_holds_1 : decode cX0_holds 1 = .ok (.bipush 60, 2) := by decide +kernel
theorem dX0_holds_3 : decode cX0_holds 3 = .ok (.iadd, 1) := by decide +kernel
theorem dX0_holds_4 : decode cX0_holds 4 = .ok (.istore_n 3, 1) := by decide +kernel
theorem dX0_holds_5 : decode cX0_holds 5 = .ok (.iload_n 1, 1) := by decide +kernel
theorem dX0_holds_6 : decode cX0_holds 6 = .ok (.ifCond .ge 12, 3) := by decide +kernel
theorem dX0_holds_9 : decode cX0_holds 9 = .ok (.aload_n 0, 1) := by decide +kernel
theorem dX0_holds_10 : decode cX0_holds 10 = .ok (.getfield 9, 3) := by decide +kernel
theorem dX0_holds_13 : decode cX0_holds 13 = .ok (.iload_n 3, 1) := by decide +kernel
theorem dX0_holds_14 : decode cX0_holds 14 = .ok (.laload, 1) := by decide +kernel
theorem dX0_holds_15 : decode cX0_holds 15 = .ok (.goto 9, 3) := by decide +kernel
theorem dX0_holds_18 : decode cX0_holds 18 = .ok (.aload_n 0, 1) := by decide +kernel
theorem dX0_holds_19 : decode cX0_holds 19 = .ok (.getfield 15, 3) := by decide +kernel
theorem dX0_holds_22 : decode cX0_holds 22 = .ok (.iload_n 3, 1) := by decide +kernel
theorem dX0_holds_23 : decode cX0_holds 23 = .ok (.laload, 1) := by decide +kernel
theorem dX0_holds_24 : decode cX0_holds 24 = .ok (.lstore 4, 2) := by decide +kernel
theorem dX0_holds_26 : decode cX0_holds 26 = .ok (.iload_n 1, 1) := by decide +kernel
theorem dX0_holds_27 : decode cX0_holds 27 = .ok (.ifCond .ge 10, 3) := by decide +kernel
theorem dX0_holds_30 : decode cX0_holds 30 = .ok (.iload_n 1, 1) := by decide +kernel
theorem dX0_holds_31 : decode cX0_holds 31 = .ok (.bipush 60, 2) := by decide +kernel
theorem dX0_holds_33 : decode cX0_holds 33 = .ok (.iadd, 1) := by decide +kernel
theorem dX0_holds_34 : decode cX0_holds 34 = .ok (.goto 4, 3) := by decide +kernel
theorem dX0_holds_37 : decode cX0_holds 37 = .ok (.iload_n 1, 1) := by decide +kernel
theorem dX0_holds_38 : decode cX0_holds 38 = .ok (.istore 6, 2) := by decide +kernel
theorem dX0_holds_40 : decode cX0_holds 40 = .ok (.lload 4, 2) := by decide +kernel
theorem dX0_holds_42 : decode cX0_holds 42 = .ok (.iload 6, 2) := by decide +kernel
theorem dX0_holds_44 : decode cX0_holds 44 = .ok (.lushr, 1) := by decide +kernel
theorem dX0_holds_45 : decode cX0_holds 45 = .ok (.lconst 1, 1) := by decide +kernel
theorem dX0_holds_46 : decode cX0_holds 46 = .ok (.land, 1) := by decide +kernel
theorem dX0_holds_47 : decode cX0_holds 47 = .ok (.lconst 0, 1) := by decide +kernel
theorem dX0_holds_48 : decode cX0_holds 48 = .ok (.lcmp, 1) := by decide +kernel
theorem dX0_holds_49 : decode cX0_holds 49 = .ok (.ifCond .eq 7, 3) := by decide +kernel
theorem dX0_holds_52 : decode cX0_holds 52 = .ok (.iconst 1, 1) := by decide +kernel
theorem dX0_holds_53 : decode cX0_holds 53 = .ok (.goto 4, 3) := by decide +kernel
theorem dX0_holds_56 : decode cX0_holds 56 = .ok (.iconst 0, 1) := by decide +kernel
theorem dX0_holds_57 : decode cX0_holds 57 = .ok (.ireturn, 1) := by decide +kernel
theorem dX0_cells_0 : decode cX0_cells 0 = .ok (.iconst 0, 1) := by decide +kernel
theorem dX0_cells_1 : decode cX0_cells 1 = .ok (.istore_n 1, 1) := by decide +kernel
theorem dX0_cells_2 : decode cX0_cells 2 = .ok (.iconst 0, 1) := by decide +kernel
theorem dX0_cells_3 : decode cX0_cells 3 = .ok (.istore_n 2, 1) := by decide +kernel
theorem dX0_cells_4 : decode cX0_cells 4 = .ok (.iload_n 2, 1) := by decide +kernel
theorem dX0_cells_5 : decode cX0_cells 5 = .ok (.bipush 120, 2) := by decide +kernel
theorem dX0_cells_7 : decode cX0_cells 7 = .ok (.if_icmp .ge 31, 3) := by decide +kernel
theorem dX0_cells_10 : decode cX0_cells 10 = .ok (.iload_n 1, 1) := by decide +kernel
theorem dX0_cells_11 : decode cX0_cells 11 = .ok (.aload_n 0, 1) := by decide +kernel
theorem dX0_cells_12 : decode cX0_cells 12 = .ok (.getfield 9, 3) := by decide +kernel
theorem dX0_cells_15 : decode cX0_cells 15 = .ok (.iload_n 2, 1) := by decide +kernel
theorem dX0_cells_16 : decode cX0_cells 16 = .ok (.laload, 1) := by decide +kernel
theorem dX0_cells_17 : decode cX0_cells 17 = .ok (.invokestatic 58, 3) := by decide +kernel
theorem dX0_cells_20 : decode cX0_cells 20 = .ok (.aload_n 0, 1) := by decide +kernel
theorem dX0_cells_21 : decode cX0_cells 21 = .ok (.getfield 15, 3) := by decide +kernel
theorem dX0_cells_24 : decode cX0_cells 24 = .ok (.iload_n 2, 1) := by decide +kernel
theorem dX0_cells_25 : decode cX0_cells 25 = .ok (.laload, 1) := by decide +kernel
theorem dX0_cells_26 : decode cX0_cells 26 = .ok (.invokestatic 58, 3) := by decide +kernel
theorem dX0_cells_29 : decode cX0_cells 29 = .ok (.iadd, 1) := by decide +kernel
theorem dX0_cells_30 : decode cX0_cells 30 = .ok (.iadd, 1) := by decide +kernel
theorem dX0_cells_31 : decode cX0_cells 31 = .ok (.istore_n 1, 1) := by decide +kernel
theorem dX0_cells_32 : decode cX0_cells 32 = .ok (.iinc 2 1, 3) := by decide +kernel
theorem dX0_cells_35 : decode cX0_cells 35 = .ok (.goto (-31), 3) := by decide +kernel
theorem dX0_cells_38 : decode cX0_cells 38 = .ok (.iload_n 1, 1) := by decide +kernel
theorem dX0_cells_39 : decode cX0_cells 39 = .ok (.ireturn, 1) := by decide +kernel
theorem dX0_cellsInRow_0 : decode cX0_cellsInRow 0 = .ok (.aload_n 0, 1) := by decide +kernel
theorem dX0_cellsInRow_1 : decode cX0_cellsInRow 1 = .ok (.getfield 9, 3) := by decide +kernel
theorem dX0_cellsInRow_4 : decode cX0_cellsInRow 4 = .ok (.iload_n 1, 1) := by decide +kernel
theorem dX0_cellsInRow_5 : decode cX0_cellsInRow 5 = .ok (.bipush 60, 2) := by decide +kernel
theorem dX0_cellsInRow_7 : decode cX0_cellsInRow 7 = .ok (.iadd, 1) := by decide +kernel
theorem dX0_cellsInRow_8 : decode cX0_cellsInRow 8 = .ok (.laload, 1) := by decide +kernel
theorem dX0_cellsInRow_9 : decode cX0_cellsInRow 9 = .ok (.invokestatic 58, 3) := by decide +kernel
theorem dX0_cellsInRow_12 : decode cX0_cellsInRow 12 = .ok (.aload_n 0, 1) := by decide +kernel
theorem dX0_cellsInRow_13 : decode cX0_cellsInRow 13 = .ok (.getfield 15, 3) := by decide +kernel
theorem dX0_cellsInRow_16 : decode cX0_cellsInRow 16 = .ok (.iload_n 1, 1) := by decide +kernel
theorem dX0_cellsInRow_17 : decode cX0_cellsInRow 17 = .ok (.bipush 60, 2) := by decide +kernel
theorem dX0_cellsInRow_19 : decode cX0_cellsInRow 19 = .ok (.iadd, 1) := by decide +kernel
theorem dX0_cellsInRow_20 : decode cX0_cellsInRow 20 = .ok (.laload, 1) := by decide +kernel
theorem dX0_cellsInRow_21 : decode cX0_cellsInRow 21 = .ok (.invokestatic 58, 3) := by decide +kernel
theorem dX0_cellsInRow_24 : decode cX0_cellsInRow 24 = .ok (.iadd, 1) := by decide +kernel
theorem dX0_cellsInRow_25 : decode cX0_cellsInRow 25 = .ok (.ireturn, 1) := by decide +kernel
theorem dX0_cellsInColumn_0 : decode cX0_cellsInColumn 0 = .ok (.iconst 0, 1) := by decide +kernel
theorem dX0_cellsInColumn_1 : decode cX0_cellsInColumn 1 = .ok (.istore_n 2, 1) := by decide +kernel
theorem dX0_cellsInColumn_2 : decode cX0_cellsInColumn 2 = .ok (.bipush (-60), 2) := by decide +kernel
theorem dX0_cellsInColumn_4 : decode cX0_cellsInColumn 4 = .ok (.istore_n 3, 1) := by decide +kernel
theorem dX0_cellsInColumn_5 : decode cX0_cellsInColumn 5 = .ok (.iload_n 3, 1) := by decide +kernel
theorem dX0_cellsInColumn_6 : decode cX0_cellsInColumn 6 = .ok (.bipush 60, 2) := by decide +kernel
theorem dX0_cellsInColumn_8 : decode cX0_cellsInColumn 8 = .ok (.if_icmp .ge 26, 3) := by decide +kernel
theorem dX0_cellsInColumn_11 : decode cX0_cellsInColumn 11 = .ok (.iload_n 2, 1) := by decide +kernel
theorem dX0_cellsInColumn_12 : decode cX0_cellsInColumn 12 = .ok (.aload_n 0, 1) := by decide +kernel
theorem dX0_cellsInColumn_13 : decode cX0_cellsInColumn 13 = .ok (.iload_n 1, 1) := by decide +kernel
theorem dX0_cellsInColumn_14 : decode cX0_cellsInColumn 14 = .ok (.iload_n 3, 1) := by decide +kernel
theorem dX0_cellsInColumn_15 : decode cX0_cellsInColumn 15 = .ok (.invokevirtual 64, 3) := by decide +kernel
theorem dX0_cellsInColumn_18 : decode cX0_cellsInColumn 18 = .ok (.ifCond .eq 7, 3) := by decide +kernel
theorem dX0_cellsInColumn_21 : decode cX0_cellsInColumn 21 = .ok (.iconst 1, 1) := by decide +kernel
theorem dX0_cellsInColumn_22 : decode cX0_cellsInColumn 22 = .ok (.goto 4, 3) := by decide +kernel
theorem dX0_cellsInColumn_25 : decode cX0_cellsInColumn 25 = .ok (.iconst 0, 1) := by decide +kernel
theorem dX0_cellsInColumn_26 : decode cX0_cellsInColumn 26 = .ok (.iadd, 1) := by decide +kernel
theorem dX0_cellsInColumn_27 : decode cX0_cellsInColumn 27 = .ok (.istore_n 2, 1) := by decide +kernel
theorem dX0_cellsInColumn_28 : decode cX0_cellsInColumn 28 = .ok (.iinc 3 1, 3) := by decide +kernel
theorem dX0_cellsInColumn_31 : decode cX0_cellsInColumn 31 = .ok (.goto (-26), 3) := by decide +kernel
theorem dX0_cellsInColumn_34 : decode cX0_cellsInColumn 34 = .ok (.iload_n 2, 1) := by decide +kernel
theorem dX0_cellsInColumn_35 : decode cX0_cellsInColumn 35 = .ok (.ireturn, 1) := by decide +kernel
theorem dX0_isIn_0 : decode cX0_isIn 0 = .ok (.iconst 0, 1) := by decide +kernel
theorem dX0_isIn_1 : decode cX0_isIn 1 = .ok (.istore_n 2, 1) := by decide +kernel
theorem dX0_isIn_2 : decode cX0_isIn 2 = .ok (.iload_n 2, 1) := by decide +kernel
theorem dX0_isIn_3 : decode cX0_isIn 3 = .ok (.bipush 120, 2) := by decide +kernel
theorem dX0_isIn_5 : decode cX0_isIn 5 = .ok (.if_icmp .ge 51, 3) := by decide +kernel
theorem dX0_isIn_8 : decode cX0_isIn 8 = .ok (.aload_n 0, 1) := by decide +kernel
theorem dX0_isIn_9 : decode cX0_isIn 9 = .ok (.getfield 9, 3) := by decide +kernel
theorem dX0_isIn_12 : decode cX0_isIn 12 = .ok (.iload_n 2, 1) := by decide +kernel
theorem dX0_isIn_13 : decode cX0_isIn 13 = .ok (.laload, 1) := by decide +kernel
theorem dX0_isIn_14 : decode cX0_isIn 14 = .ok (.aload_n 1, 1) := by decide +kernel
theorem dX0_isIn_15 : decode cX0_isIn 15 = .ok (.getfield 9, 3) := by decide +kernel
theorem dX0_isIn_18 : decode cX0_isIn 18 = .ok (.iload_n 2, 1) := by decide +kernel
theorem dX0_isIn_19 : decode cX0_isIn 19 = .ok (.laload, 1) := by decide +kernel
theorem dX0_isIn_20 : decode cX0_isIn 20 = .ok (.ldc2_w 49, 3) := by decide +kernel
theorem dX0_isIn_23 : decode cX0_isIn 23 = .ok (.lxor, 1) := by decide +kernel
theorem dX0_isIn_24 : decode cX0_isIn 24 = .ok (.land, 1) := by decide +kernel
theorem dX0_isIn_25 : decode cX0_isIn 25 = .ok (.aload_n 0, 1) := by decide +kernel
theorem dX0_isIn_26 : decode cX0_isIn 26 = .ok (.getfield 15, 3) := by decide +kernel
theorem dX0_isIn_29 : decode cX0_isIn 29 = .ok (.iload_n 2, 1) := by decide +kernel
theorem dX0_isIn_30 : decode cX0_isIn 30 = .ok (.laload, 1) := by decide +kernel
theorem dX0_isIn_31 : decode cX0_isIn 31 = .ok (.aload_n 1, 1) := by decide +kernel
theorem dX0_isIn_32 : decode cX0_isIn 32 = .ok (.getfield 15, 3) := by decide +kernel
theorem dX0_isIn_35 : decode cX0_isIn 35 = .ok (.iload_n 2, 1) := by decide +kernel
theorem dX0_isIn_36 : decode cX0_isIn 36 = .ok (.laload, 1) := by decide +kernel
theorem dX0_isIn_37 : decode cX0_isIn 37 = .ok (.ldc2_w 49, 3) := by decide +kernel
theorem dX0_isIn_40 : decode cX0_isIn 40 = .ok (.lxor, 1) := by decide +kernel
theorem dX0_isIn_41 : decode cX0_isIn 41 = .ok (.land, 1) := by decide +kernel
theorem dX0_isIn_42 : decode cX0_isIn 42 = .ok (.lor, 1) := by decide +kernel
theorem dX0_isIn_43 : decode cX0_isIn 43 = .ok (.lconst 0, 1) := by decide +kernel
theorem dX0_isIn_44 : decode cX0_isIn 44 = .ok (.lcmp, 1) := by decide +kernel
theorem dX0_isIn_45 : decode cX0_isIn 45 = .ok (.ifCond .eq 5, 3) := by decide +kernel
theorem dX0_isIn_48 : decode cX0_isIn 48 = .ok (.iconst 0, 1) := by decide +kernel
theorem dX0_isIn_49 : decode cX0_isIn 49 = .ok (.ireturn, 1) := by decide +kernel
theorem dX0_isIn_50 : decode cX0_isIn 50 = .ok (.iinc 2 1, 3) := by decide +kernel
theorem dX0_isIn_53 : decode cX0_isIn 53 = .ok (.goto (-51), 3) := by decide +kernel
theorem dX0_isIn_56 : decode cX0_isIn 56 = .ok (.iconst 1, 1) := by decide +kernel
theorem dX0_isIn_57 : decode cX0_isIn 57 = .ok (.ireturn, 1) := by decide +kernel
theorem dX0_meets_0 : decode cX0_meets 0 = .ok (.iconst 0, 1) := by decide +kernel
theorem dX0_meets_1 : decode cX0_meets 1 = .ok (.istore_n 2, 1) := by decide +kernel
theorem dX0_meets_2 : decode cX0_meets 2 = .ok (.iload_n 2, 1) := by decide +kernel
theorem dX0_meets_3 : decode cX0_meets 3 = .ok (.bipush 120, 2) := by decide +kernel
theorem dX0_meets_5 : decode cX0_meets 5 = .ok (.if_icmp .ge 43, 3) := by decide +kernel
theorem dX0_meets_8 : decode cX0_meets 8 = .ok (.aload_n 0, 1) := by decide +kernel
theorem dX0_meets_9 : decode cX0_meets 9 = .ok (.getfield 9, 3) := by decide +kernel
theorem dX0_meets_12 : decode cX0_meets 12 = .ok (.iload_n 2, 1) := by decide +kernel
theorem dX0_meets_13 : decode cX0_meets 13 = .ok (.laload, 1) := by decide +kernel
theorem dX0_meets_14 : decode cX0_meets 14 = .ok (.aload_n 1, 1) := by decide +kernel
theorem dX0_meets_15 : decode cX0_meets 15 = .ok (.getfield 9, 3) := by decide +kernel
theorem dX0_meets_18 : decode cX0_meets 18 = .ok (.iload_n 2, 1) := by decide +kernel
theorem dX0_meets_19 : decode cX0_meets 19 = .ok (.laload, 1) := by decide +kernel
theorem dX0_meets_20 : decode cX0_meets 20 = .ok (.land, 1) := by decide +kernel
theorem dX0_meets_21 : decode cX0_meets 21 = .ok (.aload_n 0, 1) := by decide +kernel
theorem dX0_meets_22 : decode cX0_meets 22 = .ok (.getfield 15, 3) := by decide +kernel
theorem dX0_meets_25 : decode cX0_meets 25 = .ok (.iload_n 2, 1) := by decide +kernel
theorem dX0_meets_26 : decode cX0_meets 26 = .ok (.laload, 1) := by decide +kernel
theorem dX0_meets_27 : decode cX0_meets 27 = .ok (.aload_n 1, 1) := by decide +kernel
theorem dX0_meets_28 : decode cX0_meets 28 = .ok (.getfield 15, 3) := by decide +kernel
theorem dX0_meets_31 : decode cX0_meets 31 = .ok (.iload_n 2, 1) := by decide +kernel
theorem dX0_meets_32 : decode cX0_meets 32 = .ok (.laload, 1) := by decide +kernel
theorem dX0_meets_33 : decode cX0_meets 33 = .ok (.land, 1) := by decide +kernel
theorem dX0_meets_34 : decode cX0_meets 34 = .ok (.lor, 1) := by decide +kernel
theorem dX0_meets_35 : decode cX0_meets 35 = .ok (.lconst 0, 1) := by decide +kernel
theorem dX0_meets_36 : decode cX0_meets 36 = .ok (.lcmp, 1) := by decide +kernel
theorem dX0_meets_37 : decode cX0_meets 37 = .ok (.ifCond .eq 5, 3) := by decide +kernel
theorem dX0_meets_40 : decode cX0_meets 40 = .ok (.iconst 1, 1) := by decide +kernel
theorem dX0_meets_41 : decode cX0_meets 41 = .ok (.ireturn, 1) := by decide +kernel
theorem dX0_meets_42 : decode cX0_meets 42 = .ok (.iinc 2 1, 3) := by decide +kernel
theorem dX0_meets_45 : decode cX0_meets 45 = .ok (.goto (-43), 3) := by decide +kernel
theorem dX0_meets_48 : decode cX0_meets 48 = .ok (.iconst 0, 1) := by decide +kernel
theorem dX0_meets_49 : decode cX0_meets 49 = .ok (.ireturn, 1) := by decide +kernel
theorem dX0_touches_0 : decode cX0_touches 0 = .ok (.iconst 0, 1) := by decide +kernel
theorem dX0_touches_1 : decode cX0_touches 1 = .ok (.istore_n 2, 1) := by decide +kernel
theorem dX0_touches_2 : decode cX0_touches 2 = .ok (.iload_n 2, 1) := by decide +kernel
theorem dX0_touches_3 : decode cX0_touches 3 = .ok (.bipush 120, 2) := by decide +kernel
theorem dX0_touches_5 : decode cX0_touches 5 = .ok (.if_icmp .ge 150, 3) := by decide +kernel
theorem dX0_touches_8 : decode cX0_touches 8 = .ok (.aload_n 0, 1) := by decide +kernel
theorem dX0_touches_9 : decode cX0_touches 9 = .ok (.getfield 9, 3) := by decide +kernel
theorem dX0_touches_12 : decode cX0_touches 12 = .ok (.iload_n 2, 1) := by decide +kernel
theorem dX0_touches_13 : decode cX0_touches 13 = .ok (.laload, 1) := by decide +kernel
theorem dX0_touches_14 : decode cX0_touches 14 = .ok (.lstore_n 3, 1) := by decide +kernel
theorem dX0_touches_15 : decode cX0_touches 15 = .ok (.aload_n 0, 1) := by decide +kernel
theorem dX0_touches_16 : decode cX0_touches 16 = .ok (.getfield 15, 3) := by decide +kernel
theorem dX0_touches_19 : decode cX0_touches 19 = .ok (.iload_n 2, 1) := by decide +kernel
theorem dX0_touches_20 : decode cX0_touches 20 = .ok (.laload, 1) := by decide +kernel
theorem dX0_touches_21 : decode cX0_touches 21 = .ok (.lstore 5, 2) := by decide +kernel
theorem dX0_touches_23 : decode cX0_touches 23 = .ok (.lload_n 3, 1) := by decide +kernel
theorem dX0_touches_24 : decode cX0_touches 24 = .ok (.lload_n 3, 1) := by decide +kernel
theorem dX0_touches_25 : decode cX0_touches 25 = .ok (.iconst 1, 1) := by decide +kernel
theorem dX0_touches_26 : decode cX0_touches 26 = .ok (.lshl, 1) := by decide +kernel
theorem dX0_touches_27 : decode cX0_touches 27 = .ok (.lor, 1) := by decide +kernel
theorem dX0_touches_28 : decode cX0_touches 28 = .ok (.lload_n 3, 1) := by decide +kernel
theorem dX0_touches_29 : decode cX0_touches 29 = .ok (.iconst 1, 1) := by decide +kernel
theorem dX0_touches_30 : decode cX0_touches 30 = .ok (.lushr, 1) := by decide +kernel
theorem dX0_touches_31 : decode cX0_touches 31 = .ok (.lor, 1) := by decide +kernel
theorem dX0_touches_32 : decode cX0_touches 32 = .ok (.lload 5, 2) := by decide +kernel
theorem dX0_touches_34 : decode cX0_touches 34 = .ok (.bipush 59, 2) := by decide +kernel
theorem dX0_touches_36 : decode cX0_touches 36 = .ok (.lshl, 1) := by decide +kernel
theorem dX0_touches_37 : decode cX0_touches 37 = .ok (.lor, 1) := by decide +kernel
theorem dX0_touches_38 : decode cX0_touches 38 = .ok (.lstore 7, 2) := by decide +kernel
theorem dX0_touches_40 : decode cX0_touches 40 = .ok (.lload 5, 2) := by decide +kernel
theorem dX0_touches_42 : decode cX0_touches 42 = .ok (.lload 5, 2) := by decide +kernel
theorem dX0_touches_44 : decode cX0_touches 44 = .ok (.iconst 1, 1) := by decide +kernel
theorem dX0_touches_45 : decode cX0_touches 45 = .ok (.lshl, 1) := by decide +kernel
theorem dX0_touches_46 : decode cX0_touches 46 = .ok (.lor, 1) := by decide +kernel
theorem dX0_touches_47 : decode cX0_touches 47 = .ok (.lload 5, 2) := by decide +kernel
theorem dX0_touches_49 : decode cX0_touches 49 = .ok (.iconst 1, 1) := by decide +kernel
theorem dX0_touches_50 : decode cX0_touches 50 = .ok (.lushr, 1) := by decide +kernel
theorem dX0_touches_51 : decode cX0_touches 51 = .ok (.lor, 1) := by decide +kernel
theorem dX0_touches_52 : decode cX0_touches 52 = .ok (.lload_n 3, 1) := by decide +kernel
theorem dX0_touches_53 : decode cX0_touches 53 = .ok (.bipush 59, 2) := by decide +kernel
theorem dX0_touches_55 : decode cX0_touches 55 = .ok (.lushr, 1) := by decide +kernel
theorem dX0_touches_56 : decode cX0_touches 56 = .ok (.lor, 1) := by decide +kernel
theorem dX0_touches_57 : decode cX0_touches 57 = .ok (.lstore 9, 2) := by decide +kernel
theorem dX0_touches_59 : decode cX0_touches 59 = .ok (.iload_n 2, 1) := by decide +kernel
theorem dX0_touches_60 : decode cX0_touches 60 = .ok (.ifCond .le 29, 3) := by decide +kernel
theorem dX0_touches_63 : decode cX0_touches 63 = .ok (.lload 7, 2) := by decide +kernel
theorem dX0_touches_65 : decode cX0_touches 65 = .ok (.aload_n 0, 1) := by decide +kernel
theorem dX0_touches_66 : decode cX0_touches 66 = .ok (.getfield 9, 3) := by decide +kernel
theorem dX0_touches_69 : decode cX0_touches 69 = .ok (.iload_n 2, 1) := by decide +kernel
theorem dX0_touches_70 : decode cX0_touches 70 = .ok (.iconst 1, 1) := by decide +kernel
theorem dX0_touches_71 : decode cX0_touches 71 = .ok (.isub, 1) := by decide +kernel
theorem dX0_touches_72 : decode cX0_touches 72 = .ok (.laload, 1) := by decide +kernel
theorem dX0_touches_73 : decode cX0_touches 73 = .ok (.lor, 1) := by decide +kernel
theorem dX0_touches_74 : decode cX0_touches 74 = .ok (.lstore 7, 2) := by decide +kernel
theorem dX0_touches_76 : decode cX0_touches 76 = .ok (.lload 9, 2) := by decide +kernel
theorem dX0_touches_78 : decode cX0_touches 78 = .ok (.aload_n 0, 1) := by decide +kernel
theorem dX0_touches_79 : decode cX0_touches 79 = .ok (.getfield 15, 3) := by decide +kernel
theorem dX0_touches_82 : decode cX0_touches 82 = .ok (.iload_n 2, 1) := by decide +kernel
theorem dX0_touches_83 : decode cX0_touches 83 = .ok (.iconst 1, 1) := by decide +kernel
theorem dX0_touches_84 : decode cX0_touches 84 = .ok (.isub, 1) := by decide +kernel
theorem dX0_touches_85 : decode cX0_touches 85 = .ok (.laload, 1) := by decide +kernel
theorem dX0_touches_86 : decode cX0_touches 86 = .ok (.lor, 1) := by decide +kernel
theorem dX0_touches_87 : decode cX0_touches 87 = .ok (.lstore 9, 2) := by decide +kernel
theorem dX0_touches_89 : decode cX0_touches 89 = .ok (.iload_n 2, 1) := by decide +kernel
theorem dX0_touches_90 : decode cX0_touches 90 = .ok (.iconst 1, 1) := by decide +kernel
theorem dX0_touches_91 : decode cX0_touches 91 = .ok (.iadd, 1) := by decide +kernel
theorem dX0_touches_92 : decode cX0_touches 92 = .ok (.bipush 120, 2) := by decide +kernel
theorem dX0_touches_94 : decode cX0_touches 94 = .ok (.if_icmp .ge 29, 3) := by decide +kernel
theorem dX0_touches_97 : decode cX0_touches 97 = .ok (.lload 7, 2) := by decide +kernel
theorem dX0_touches_99 : decode cX0_touches 99 = .ok (.aload_n 0, 1) := by decide +kernel
theorem dX0_touches_100 : decode cX0_touches 100 = .ok (.getfield 9, 3) := by decide +kernel
theorem dX0_touches_103 : decode cX0_touches 103 = .ok (.iload_n 2, 1) := by decide +kernel
theorem dX0_touches_104 : decode cX0_touches 104 = .ok (.iconst 1, 1) := by decide +kernel
theorem dX0_touches_105 : decode cX0_touches 105 = .ok (.iadd, 1) := by decide +kernel
theorem dX0_touches_106 : decode cX0_touches 106 = .ok (.laload, 1) := by decide +kernel
theorem dX0_touches_107 : decode cX0_touches 107 = .ok (.lor, 1) := by decide +kernel
theorem dX0_touches_108 : decode cX0_touches 108 = .ok (.lstore 7, 2) := by decide +kernel
theorem dX0_touches_110 : decode cX0_touches 110 = .ok (.lload 9, 2) := by decide +kernel
theorem dX0_touches_112 : decode cX0_touches 112 = .ok (.aload_n 0, 1) := by decide +kernel
theorem dX0_touches_113 : decode cX0_touches 113 = .ok (.getfield 15, 3) := by decide +kernel
theorem dX0_touches_116 : decode cX0_touches 116 = .ok (.iload_n 2, 1) := by decide +kernel
theorem dX0_touches_117 : decode cX0_touches 117 = .ok (.iconst 1, 1) := by decide +kernel
theorem dX0_touches_118 : decode cX0_touches 118 = .ok (.iadd, 1) := by decide +kernel
theorem dX0_touches_119 : decode cX0_touches 119 = .ok (.laload, 1) := by decide +kernel
theorem dX0_touches_120 : decode cX0_touches 120 = .ok (.lor, 1) := by decide +kernel
theorem dX0_touches_121 : decode cX0_touches 121 = .ok (.lstore 9, 2) := by decide +kernel
theorem dX0_touches_123 : decode cX0_touches 123 = .ok (.lload 7, 2) := by decide +kernel
theorem dX0_touches_125 : decode cX0_touches 125 = .ok (.aload_n 1, 1) := by decide +kernel
theorem dX0_touches_126 : decode cX0_touches 126 = .ok (.getfield 9, 3) := by decide +kernel
theorem dX0_touches_129 : decode cX0_touches 129 = .ok (.iload_n 2, 1) := by decide +kernel
theorem dX0_touches_130 : decode cX0_touches 130 = .ok (.laload, 1) := by decide +kernel
theorem dX0_touches_131 : decode cX0_touches 131 = .ok (.land, 1) := by decide +kernel
theorem dX0_touches_132 : decode cX0_touches 132 = .ok (.lload 9, 2) := by decide +kernel
theorem dX0_touches_134 : decode cX0_touches 134 = .ok (.aload_n 1, 1) := by decide +kernel
theorem dX0_touches_135 : decode cX0_touches 135 = .ok (.getfield 15, 3) := by decide +kernel
theorem dX0_touches_138 : decode cX0_touches 138 = .ok (.iload_n 2, 1) := by decide +kernel
theorem dX0_touches_139 : decode cX0_touches 139 = .ok (.laload, 1) := by decide +kernel
theorem dX0_touches_140 : decode cX0_touches 140 = .ok (.land, 1) := by decide +kernel
theorem dX0_touches_141 : decode cX0_touches 141 = .ok (.lor, 1) := by decide +kernel
theorem dX0_touches_142 : decode cX0_touches 142 = .ok (.lconst 0, 1) := by decide +kernel
theorem dX0_touches_143 : decode cX0_touches 143 = .ok (.lcmp, 1) := by decide +kernel
theorem dX0_touches_144 : decode cX0_touches 144 = .ok (.ifCond .eq 5, 3) := by decide +kernel
theorem dX0_touches_147 : decode cX0_touches 147 = .ok (.iconst 1, 1) := by decide +kernel
theorem dX0_touches_148 : decode cX0_touches 148 = .ok (.ireturn, 1) := by decide +kernel
theorem dX0_touches_149 : decode cX0_touches 149 = .ok (.iinc 2 1, 3) := by decide +kernel
theorem dX0_touches_152 : decode cX0_touches 152 = .ok (.goto (-150), 3) := by decide +kernel
theorem dX0_touches_155 : decode cX0_touches 155 = .ok (.iconst 0, 1) := by decide +kernel
theorem dX0_touches_156 : decode cX0_touches 156 = .ok (.ireturn, 1) := by decide +kernel
theorem dX0_sidesRound_0 : decode cX0_sidesRound 0 = .ok (.iconst 0, 1) := by decide +kernel
theorem dX0_sidesRound_1 : decode cX0_sidesRound 1 = .ok (.istore_n 1, 1) := by decide +kernel
theorem dX0_sidesRound_2 : decode cX0_sidesRound 2 = .ok (.lconst 0, 1) := by decide +kernel
theorem dX0_sidesRound_3 : decode cX0_sidesRound 3 = .ok (.lstore_n 2, 1) := by decide +kernel
theorem dX0_sidesRound_4 : decode cX0_sidesRound 4 = .ok (.lconst 0, 1) := by decide +kernel
theorem dX0_sidesRound_5 : decode cX0_sidesRound 5 = .ok (.lstore 4, 2) := by decide +kernel
theorem dX0_sidesRound_7 : decode cX0_sidesRound 7 = .ok (.iconst 0, 1) := by decide +kernel
theorem dX0_sidesRound_8 : decode cX0_sidesRound 8 = .ok (.istore 6, 2) := by decide +kernel
theorem dX0_sidesRound_10 : decode cX0_sidesRound 10 = .ok (.iload 6, 2) := by decide +kernel
theorem dX0_sidesRound_12 : decode cX0_sidesRound 12 = .ok (.bipush 120, 2) := by decide +kernel
theorem dX0_sidesRound_14 : decode cX0_sidesRound 14 = .ok (.if_icmp .ge 75, 3) := by decide +kernel
theorem dX0_sidesRound_17 : decode cX0_sidesRound 17 = .ok (.aload_n 0, 1) := by decide +kernel
theorem dX0_sidesRound_18 : decode cX0_sidesRound 18 = .ok (.getfield 9, 3) := by decide +kernel
theorem dX0_sidesRound_21 : decode cX0_sidesRound 21 = .ok (.iload 6, 2) := by decide +kernel
theorem dX0_sidesRound_23 : decode cX0_sidesRound 23 = .ok (.laload, 1) := by decide +kernel
theorem dX0_sidesRound_24 : decode cX0_sidesRound 24 = .ok (.lstore 7, 2) := by decide +kernel
theorem dX0_sidesRound_26 : decode cX0_sidesRound 26 = .ok (.aload_n 0, 1) := by decide +kernel
theorem dX0_sidesRound_27 : decode cX0_sidesRound 27 = .ok (.getfield 15, 3) := by decide +kernel
theorem dX0_sidesRound_30 : decode cX0_sidesRound 30 = .ok (.iload 6, 2) := by decide +kernel
theorem dX0_sidesRound_32 : decode cX0_sidesRound 32 = .ok (.laload, 1) := by decide +kernel
theorem dX0_sidesRound_33 : decode cX0_sidesRound 33 = .ok (.lstore 9, 2) := by decide +kernel
theorem dX0_sidesRound_35 : decode cX0_sidesRound 35 = .ok (.iload_n 1, 1) := by decide +kernel
theorem dX0_sidesRound_36 : decode cX0_sidesRound 36 = .ok (.lload 7, 2) := by decide +kernel
theorem dX0_sidesRound_38 : decode cX0_sidesRound 38 = .ok (.lload_n 2, 1) := by decide +kernel
theorem dX0_sidesRound_39 : decode cX0_sidesRound 39 = .ok (.lxor, 1) := by decide +kernel
theorem dX0_sidesRound_40 : decode cX0_sidesRound 40 = .ok (.invokestatic 58, 3) := by decide +kernel
theorem dX0_sidesRound_43 : decode cX0_sidesRound 43 = .ok (.lload 9, 2) := by decide +kernel
theorem dX0_sidesRound_45 : decode cX0_sidesRound 45 = .ok (.lload 4, 2) := by decide +kernel
theorem dX0_sidesRound_47 : decode cX0_sidesRound 47 = .ok (.lxor, 1) := by decide +kernel
theorem dX0_sidesRound_48 : decode cX0_sidesRound 48 = .ok (.invokestatic 58, 3) := by decide +kernel
theorem dX0_sidesRound_51 : decode cX0_sidesRound 51 = .ok (.iadd, 1) := by decide +kernel
theorem dX0_sidesRound_52 : decode cX0_sidesRound 52 = .ok (.iadd, 1) := by decide +kernel
theorem dX0_sidesRound_53 : decode cX0_sidesRound 53 = .ok (.istore_n 1, 1) := by decide +kernel
theorem dX0_sidesRound_54 : decode cX0_sidesRound 54 = .ok (.iload_n 1, 1) := by decide +kernel
theorem dX0_sidesRound_55 : decode cX0_sidesRound 55 = .ok (.lload 7, 2) := by decide +kernel
theorem dX0_sidesRound_57 : decode cX0_sidesRound 57 = .ok (.invokestatic 68, 3) := by decide +kernel
theorem dX0_sidesRound_60 : decode cX0_sidesRound 60 = .ok (.invokestatic 58, 3) := by decide +kernel
theorem dX0_sidesRound_63 : decode cX0_sidesRound 63 = .ok (.lload 7, 2) := by decide +kernel
theorem dX0_sidesRound_65 : decode cX0_sidesRound 65 = .ok (.lload 9, 2) := by decide +kernel
theorem dX0_sidesRound_67 : decode cX0_sidesRound 67 = .ok (.invokestatic 72, 3) := by decide +kernel
theorem dX0_sidesRound_70 : decode cX0_sidesRound 70 = .ok (.invokestatic 58, 3) := by decide +kernel
theorem dX0_sidesRound_73 : decode cX0_sidesRound 73 = .ok (.iadd, 1) := by decide +kernel
theorem dX0_sidesRound_74 : decode cX0_sidesRound 74 = .ok (.iadd, 1) := by decide +kernel
theorem dX0_sidesRound_75 : decode cX0_sidesRound 75 = .ok (.istore_n 1, 1) := by decide +kernel
theorem dX0_sidesRound_76 : decode cX0_sidesRound 76 = .ok (.lload 7, 2) := by decide +kernel
theorem dX0_sidesRound_78 : decode cX0_sidesRound 78 = .ok (.lstore_n 2, 1) := by decide +kernel
theorem dX0_sidesRound_79 : decode cX0_sidesRound 79 = .ok (.lload 9, 2) := by decide +kernel
theorem dX0_sidesRound_81 : decode cX0_sidesRound 81 = .ok (.lstore 4, 2) := by decide +kernel
theorem dX0_sidesRound_83 : decode cX0_sidesRound 83 = .ok (.iinc 6 1, 3) := by decide +kernel
theorem dX0_sidesRound_86 : decode cX0_sidesRound 86 = .ok (.goto (-76), 3) := by decide +kernel
theorem dX0_sidesRound_89 : decode cX0_sidesRound 89 = .ok (.iload_n 1, 1) := by decide +kernel
theorem dX0_sidesRound_90 : decode cX0_sidesRound 90 = .ok (.lload_n 2, 1) := by decide +kernel
theorem dX0_sidesRound_91 : decode cX0_sidesRound 91 = .ok (.invokestatic 58, 3) := by decide +kernel
theorem dX0_sidesRound_94 : decode cX0_sidesRound 94 = .ok (.iadd, 1) := by decide +kernel
theorem dX0_sidesRound_95 : decode cX0_sidesRound 95 = .ok (.lload 4, 2) := by decide +kernel
theorem dX0_sidesRound_97 : decode cX0_sidesRound 97 = .ok (.invokestatic 58, 3) := by decide +kernel
theorem dX0_sidesRound_100 : decode cX0_sidesRound 100 = .ok (.iadd, 1) := by decide +kernel
theorem dX0_sidesRound_101 : decode cX0_sidesRound 101 = .ok (.ireturn, 1) := by decide +kernel
theorem dX0_westSides_0 : decode cX0_westSides 0 = .ok (.lload_n 0, 1) := by decide +kernel
theorem dX0_westSides_1 : decode cX0_westSides 1 = .ok (.lload_n 0, 1) := by decide +kernel
theorem dX0_westSides_2 : decode cX0_westSides 2 = .ok (.iconst 1, 1) := by decide +kernel
theorem dX0_westSides_3 : decode cX0_westSides 3 = .ok (.lshl, 1) := by decide +kernel
theorem dX0_westSides_4 : decode cX0_westSides 4 = .ok (.lxor, 1) := by decide +kernel
theorem dX0_westSides_5 : decode cX0_westSides 5 = .ok (.ldc2_w 43, 3) := by decide +kernel
theorem dX0_westSides_8 : decode cX0_westSides 8 = .ok (.land, 1) := by decide +kernel
theorem dX0_westSides_9 : decode cX0_westSides 9 = .ok (.lreturn, 1) := by decide +kernel
theorem dX0_eastSides_0 : decode cX0_eastSides 0 = .ok (.lload_n 2, 1) := by decide +kernel
theorem dX0_eastSides_1 : decode cX0_eastSides 1 = .ok (.lload_n 2, 1) := by decide +kernel
theorem dX0_eastSides_2 : decode cX0_eastSides 2 = .ok (.iconst 1, 1) := by decide +kernel
theorem dX0_eastSides_3 : decode cX0_eastSides 3 = .ok (.lshl, 1) := by decide +kernel
theorem dX0_eastSides_4 : decode cX0_eastSides 4 = .ok (.lload_n 0, 1) := by decide +kernel
theorem dX0_eastSides_5 : decode cX0_eastSides 5 = .ok (.bipush 59, 2) := by decide +kernel
theorem dX0_eastSides_7 : decode cX0_eastSides 7 = .ok (.lushr, 1) := by decide +kernel
theorem dX0_eastSides_8 : decode cX0_eastSides 8 = .ok (.lor, 1) := by decide +kernel
theorem dX0_eastSides_9 : decode cX0_eastSides 9 = .ok (.lxor, 1) := by decide +kernel
theorem dX0_eastSides_10 : decode cX0_eastSides 10 = .ok (.lreturn, 1) := by decide +kernel
theorem dX1_init_0 : decode cX1_init 0 = .ok (.aload_n 0, 1) := by decide +kernel
theorem dX1_init_1 : decode cX1_init 1 = .ok (.invokespecial 3, 3) := by decide +kernel
theorem dX1_init_4 : decode cX1_init 4 = .ok (.aload_n 0, 1) := by decide +kernel
theorem dX1_init_5 : decode cX1_init 5 = .ok (.bipush 60, 2) := by decide +kernel
theorem dX1_init_7 : decode cX1_init 7 = .ok (.newarray .int, 2) := by decide +kernel
theorem dX1_init_9 : decode cX1_init 9 = .ok (.putfield 9, 3) := by decide +kernel
theorem dX1_init_12 : decode cX1_init 12 = .ok (.aload_n 0, 1) := by decide +kernel
theorem dX1_init_13 : decode cX1_init 13 = .ok (.bipush 60, 2) := by decide +kernel
theorem dX1_init_15 : decode cX1_init 15 = .ok (.newarray .int, 2) := by decide +kernel
theorem dX1_init_17 : decode cX1_init 17 = .ok (.putfield 15, 3) := by decide +kernel
theorem dX1_init_20 : decode cX1_init 20 = .ok (.aload_n 0, 1) := by decide +kernel
theorem dX1_init_21 : decode cX1_init 21 = .ok (.bipush 60, 2) := by decide +kernel
theorem dX1_init_23 : decode cX1_init 23 = .ok (.newarray .int, 2) := by decide +kernel
theorem dX1_init_25 : decode cX1_init 25 = .ok (.putfield 18, 3) := by decide +kernel
theorem dX1_init_28 : decode cX1_init 28 = .ok (.aload_n 0, 1) := by decide +kernel
theorem dX1_init_29 : decode cX1_init 29 = .ok (.sipush 300, 3) := by decide +kernel
theorem dX1_init_32 : decode cX1_init 32 = .ok (.newarray .int, 2) := by decide +kernel
theorem dX1_init_34 : decode cX1_init 34 = .ok (.putfield 21, 3) := by decide +kernel
theorem dX1_init_37 : decode cX1_init 37 = .ok (.aload_n 0, 1) := by decide +kernel
theorem dX1_init_38 : decode cX1_init 38 = .ok (.sipush 600, 3) := by decide +kernel
theorem dX1_init_41 : decode cX1_init 41 = .ok (.newarray .int, 2) := by decide +kernel
theorem dX1_init_43 : decode cX1_init 43 = .ok (.putfield 24, 3) := by decide +kernel
theorem dX1_init_46 : decode cX1_init 46 = .ok (.aload_n 0, 1) := by decide +kernel
theorem dX1_init_47 : decode cX1_init 47 = .ok (.sipush 300, 3) := by decide +kernel
theorem dX1_init_50 : decode cX1_init 50 = .ok (.newarray .int, 2) := by decide +kernel
theorem dX1_init_52 : decode cX1_init 52 = .ok (.putfield 27, 3) := by decide +kernel
theorem dX1_init_55 : decode cX1_init 55 = .ok (.return_, 1) := by decide +kernel
theorem dX1_read_0 : decode cX1_read 0 = .ok (.aload_n 0, 1) := by decide +kernel
theorem dX1_read_1 : decode cX1_read 1 = .ok (.iconst 0, 1) := by decide +kernel
theorem dX1_read_2 : decode cX1_read 2 = .ok (.putfield 30, 3) := by decide +kernel
theorem dX1_read_5 : decode cX1_read 5 = .ok (.aload_n 0, 1) := by decide +kernel
theorem dX1_read_6 : decode cX1_read 6 = .ok (.iconst 0, 1) := by decide +kernel
theorem dX1_read_7 : decode cX1_read 7 = .ok (.putfield 34, 3) := by decide +kernel
theorem dX1_read_10 : decode cX1_read 10 = .ok (.lconst 0, 1) := by decide +kernel
theorem dX1_read_11 : decode cX1_read 11 = .ok (.lstore_n 2, 1) := by decide +kernel
theorem dX1_read_12 : decode cX1_read 12 = .ok (.lconst 0, 1) := by decide +kernel
theorem dX1_read_13 : decode cX1_read 13 = .ok (.lstore 4, 2) := by decide +kernel
theorem dX1_read_15 : decode cX1_read 15 = .ok (.iconst 0, 1) := by decide +kernel
theorem dX1_read_16 : decode cX1_read 16 = .ok (.istore 6, 2) := by decide +kernel
theorem dX1_read_18 : decode cX1_read 18 = .ok (.iload 6, 2) := by decide +kernel
theorem dX1_read_20 : decode cX1_read 20 = .ok (.bipush 120, 2) := by decide +kernel
theorem dX1_read_22 : decode cX1_read 22 = .ok (.if_icmp .ge 102, 3) := by decide +kernel
theorem dX1_read_25 : decode cX1_read 25 = .ok (.aload_n 1, 1) := by decide +kernel
theorem dX1_read_26 : decode cX1_read 26 = .ok (.getfield 37, 3) := by decide +kernel
theorem dX1_read_29 : decode cX1_read 29 = .ok (.iload 6, 2) := by decide +kernel
theorem dX1_read_31 : decode cX1_read 31 = .ok (.laload, 1) := by decide +kernel
theorem dX1_read_32 : decode cX1_read 32 = .ok (.lstore 7, 2) := by decide +kernel
theorem dX1_read_34 : decode cX1_read 34 = .ok (.aload_n 1, 1) := by decide +kernel
theorem dX1_read_35 : decode cX1_read 35 = .ok (.getfield 43, 3) := by decide +kernel
theorem dX1_read_38 : decode cX1_read 38 = .ok (.iload 6, 2) := by decide +kernel
theorem dX1_read_40 : decode cX1_read 40 = .ok (.laload, 1) := by decide +kernel
theorem dX1_read_41 : decode cX1_read 41 = .ok (.lstore 9, 2) := by decide +kernel
theorem dX1_read_43 : decode cX1_read 43 = .ok (.lload 7, 2) := by decide +kernel
theorem dX1_read_45 : decode cX1_read 45 = .ok (.lload 9, 2) := by decide +kernel
theorem dX1_read_47 : decode cX1_read 47 = .ok (.lor, 1) := by decide +kernel
theorem dX1_read_48 : decode cX1_read 48 = .ok (.lconst 0, 1) := by decide +kernel
theorem dX1_read_49 : decode cX1_read 49 = .ok (.lcmp, 1) := by decide +kernel
theorem dX1_read_50 : decode cX1_read 50 = .ok (.ifCond .eq 61, 3) := by decide +kernel
theorem dX1_read_53 : decode cX1_read 53 = .ok (.aload_n 0, 1) := by decide +kernel
theorem dX1_read_54 : decode cX1_read 54 = .ok (.getfield 30, 3) := by decide +kernel
theorem dX1_read_57 : decode cX1_read 57 = .ok (.ifCond .le 36, 3) := by decide +kernel
theorem dX1_read_60 : decode cX1_read 60 = .ok (.lload 7, 2) := by decide +kernel
theorem dX1_read_62 : decode cX1_read 62 = .ok (.lload_n 2, 1) := by decide +kernel
theorem dX1_read_63 : decode cX1_read 63 = .ok (.lcmp, 1) := by decide +kernel
theorem dX1_read_64 : decode cX1_read 64 = .ok (.ifCond .ne 29, 3) := by decide +kernel
theorem dX1_read_67 : decode cX1_read 67 = .ok (.lload 9, 2) := by decide +kernel
theorem dX1_read_69 : decode cX1_read 69 = .ok (.lload 4, 2) := by decide +kernel
theorem dX1_read_71 : decode cX1_read 71 = .ok (.lcmp, 1) := by decide +kernel
theorem dX1_read_72 : decode cX1_read 72 = .ok (.ifCond .ne 21, 3) := by decide +kernel
theorem dX1_read_75 : decode cX1_read 75 = .ok (.aload_n 0, 1) := by decide +kernel
theorem dX1_read_76 : decode cX1_read 76 = .ok (.getfield 15, 3) := by decide +kernel
theorem dX1_read_79 : decode cX1_read 79 = .ok (.aload_n 0, 1) := by decide +kernel
theorem dX1_read_80 : decode cX1_read 80 = .ok (.getfield 30, 3) := by decide +kernel
theorem dX1_read_83 : decode cX1_read 83 = .ok (.iconst 1, 1) := by decide +kernel
theorem dX1_read_84 : decode cX1_read 84 = .ok (.isub, 1) := by decide +kernel
theorem dX1_read_85 : decode cX1_read 85 = .ok (.dup2, 1) := by decide +kernel
theorem dX1_read_86 : decode cX1_read 86 = .ok (.iaload, 1) := by decide +kernel
theorem dX1_read_87 : decode cX1_read 87 = .ok (.iconst 1, 1) := by decide +kernel
theorem dX1_read_88 : decode cX1_read 88 = .ok (.iadd, 1) := by decide +kernel
theorem dX1_read_89 : decode cX1_read 89 = .ok (.iastore, 1) := by decide +kernel
theorem dX1_read_90 : decode cX1_read 90 = .ok (.goto 21, 3) := by decide +kernel
theorem dX1_read_93 : decode cX1_read 93 = .ok (.aload_n 0, 1) := by decide +kernel
theorem dX1_read_94 : decode cX1_read 94 = .ok (.iload 6, 2) := by decide +kernel
theorem dX1_read_96 : decode cX1_read 96 = .ok (.bipush 60, 2) := by decide +kernel
theorem dX1_read_98 : decode cX1_read 98 = .ok (.isub, 1) := by decide +kernel
theorem dX1_read_99 : decode cX1_read 99 = .ok (.lload 7, 2) := by decide +kernel
theorem dX1_read_101 : decode cX1_read 101 = .ok (.lload 9, 2) := by decide +kernel
theorem dX1_read_103 : decode cX1_read 103 = .ok (.invokevirtual 46, 3) := by decide +kernel
theorem dX1_read_106 : decode cX1_read 106 = .ok (.ifCond .ne 5, 3) := by decide +kernel
theorem dX1_read_109 : decode cX1_read 109 = .ok (.iconst 0, 1) := by decide +kernel
theorem dX1_read_110 : decode cX1_read 110 = .ok (.ireturn, 1) := by decide +kernel
theorem dX1_read_111 : decode cX1_read 111 = .ok (.lload 7, 2) := by decide +kernel
theorem dX1_read_113 : decode cX1_read 113 = .ok (.lstore_n 2, 1) := by decide +kernel
theorem dX1_read_114 : decode cX1_read 114 = .ok (.lload 9, 2) := by decide +kernel
theorem dX1_read_116 : decode cX1_read 116 = .ok (.lstore 4, 2) := by decide +kernel
theorem dX1_read_118 : decode cX1_read 118 = .ok (.iinc 6 1, 3) := by decide +kernel
theorem dX1_read_121 : decode cX1_read 121 = .ok (.goto (-103), 3) := by decide +kernel
theorem dX1_read_124 : decode cX1_read 124 = .ok (.iconst 1, 1) := by decide +kernel
theorem dX1_read_125 : decode cX1_read 125 = .ok (.ireturn, 1) := by decide +kernel
theorem dX1_addBand_0 : decode cX1_addBand 0 = .ok (.lload_n 2, 1) := by decide +kernel
theorem dX1_addBand_1 : decode cX1_addBand 1 = .ok (.invokestatic 50, 3) := by decide +kernel
theorem dX1_addBand_4 : decode cX1_addBand 4 = .ok (.lstore 6, 2) := by decide +kernel
theorem dX1_addBand_6 : decode cX1_addBand 6 = .ok (.lload_n 2, 1) := by decide +kernel
theorem dX1_addBand_7 : decode cX1_addBand 7 = .ok (.lload 4, 2) := by decide +kernel
theorem dX1_addBand_9 : decode cX1_addBand 9 = .ok (.invokestatic 54, 3) := by decide +kernel
theorem dX1_addBand_12 : decode cX1_addBand 12 = .ok (.lstore 8, 2) := by decide +kernel
theorem dX1_addBand_14 : decode cX1_addBand 14 = .ok (.lload 6, 2) := by decide +kernel
theorem dX1_addBand_16 : decode cX1_addBand 16 = .ok (.invokestatic 58, 3) := by decide +kernel
theorem dX1_addBand_19 : decode cX1_addBand 19 = .ok (.lload 8, 2) := by decide +kernel
theorem dX1_addBand_21 : decode cX1_addBand 21 = .ok (.invokestatic 58, 3) := by decide +kernel
theorem dX1_addBand_24 : decode cX1_addBand 24 = .ok (.iadd, 1) := by decide +kernel
theorem dX1_addBand_25 : decode cX1_addBand 25 = .ok (.iconst 2, 1) := by decide +kernel
theorem dX1_addBand_26 : decode cX1_addBand 26 = .ok (.idiv, 1) := by decide +kernel
theorem dX1_addBand_27 : decode cX1_addBand 27 = .ok (.istore 10, 2) := by decide +kernel
theorem dX1_addBand_29 : decode cX1_addBand 29 = .ok (.aload_n 0, 1) := by decide +kernel
theorem dX1_addBand_30 : decode cX1_addBand 30 = .ok (.getfield 30, 3) := by decide +kernel
theorem dX1_addBand_33 : decode cX1_addBand 33 = .ok (.bipush 60, 2) := by decide +kernel
theorem dX1_addBand_35 : decode cX1_addBand 35 = .ok (.if_icmp .ge 16, 3) := by decide +kernel
theorem dX1_addBand_38 : decode cX1_addBand 38 = .ok (.aload_n 0, 1) := by decide +kernel
theorem dX1_addBand_39 : decode cX1_addBand 39 = .ok (.getfield 34, 3) := by decide +kernel
theorem dX1_addBand_42 : decode cX1_addBand 42 = .ok (.iload 10, 2) := by decide +kernel
theorem dX1_addBand_44 : decode cX1_addBand 44 = .ok (.iadd, 1) := by decide +kernel
theorem dX1_addBand_45 : decode cX1_addBand 45 = .ok (.sipush 300, 3) := by decide +kernel
theorem dX1_addBand_48 : decode cX1_addBand 48 = .ok (.if_icmp .le 5, 3) := by decide +kernel
theorem dX1_addBand_51 : decode cX1_addBand 51 = .ok (.iconst 0, 1) := by decide +kernel
theorem dX1_addBand_52 : decode cX1_addBand 52 = .ok (.ireturn, 1) := by decide +kernel
theorem dX1_addBand_53 : decode cX1_addBand 53 = .ok (.aload_n 0, 1) := by decide +kernel
theorem dX1_addBand_54 : decode cX1_addBand 54 = .ok (.lload 6, 2) := by decide +kernel
theorem dX1_addBand_56 : decode cX1_addBand 56 = .ok (.bipush (-60), 2) := by decide +kernel
theorem dX1_addBand_58 : decode cX1_addBand 58 = .ok (.iconst 2, 1) := by decide +kernel
theorem dX1_addBand_59 : decode cX1_addBand 59 = .ok (.aload_n 0, 1) := by decide +kernel
theorem dX1_addBand_60 : decode cX1_addBand 60 = .ok (.getfield 34, 3) := by decide +kernel
theorem dX1_addBand_63 : decode cX1_addBand 63 = .ok (.imul, 1) := by decide +kernel
theorem dX1_addBand_64 : decode cX1_addBand 64 = .ok (.invokevirtual 64, 3) := by decide +kernel
theorem dX1_addBand_67 : decode cX1_addBand 67 = .ok (.istore 11, 2) := by decide +kernel
theorem dX1_addBand_69 : decode cX1_addBand 69 = .ok (.aload_n 0, 1) := by decide +kernel
theorem dX1_addBand_70 : decode cX1_addBand 70 = .ok (.lload 8, 2) := by decide +kernel
theorem dX1_addBand_72 : decode cX1_addBand 72 = .ok (.iconst 0, 1) := by decide +kernel
theorem dX1_addBand_73 : decode cX1_addBand 73 = .ok (.iload 11, 2) := by decide +kernel
theorem dX1_addBand_75 : decode cX1_addBand 75 = .ok (.invokevirtual 64, 3) := by decide +kernel
theorem dX1_addBand_78 : decode cX1_addBand 78 = .ok (.pop, 1) := by decide +kernel
theorem dX1_addBand_79 : decode cX1_addBand 79 = .ok (.aload_n 0, 1) := by decide +kernel
theorem dX1_addBand_80 : decode cX1_addBand 80 = .ok (.getfield 9, 3) := by decide +kernel
theorem dX1_addBand_83 : decode cX1_addBand 83 = .ok (.aload_n 0, 1) := by decide +kernel
theorem dX1_addBand_84 : decode cX1_addBand 84 = .ok (.getfield 30, 3) := by decide +kernel
theorem dX1_addBand_87 : decode cX1_addBand 87 = .ok (.iload_n 1, 1) := by decide +kernel
theorem dX1_addBand_88 : decode cX1_addBand 88 = .ok (.iastore, 1) := by decide +kernel
theorem dX1_addBand_89 : decode cX1_addBand 89 = .ok (.aload_n 0, 1) := by decide +kernel
theorem dX1_addBand_90 : decode cX1_addBand 90 = .ok (.getfield 15, 3) := by decide +kernel
theorem dX1_addBand_93 : decode cX1_addBand 93 = .ok (.aload_n 0, 1) := by decide +kernel
theorem dX1_addBand_94 : decode cX1_addBand 94 = .ok (.getfield 30, 3) := by decide +kernel
theorem dX1_addBand_97 : decode cX1_addBand 97 = .ok (.iload_n 1, 1) := by decide +kernel
theorem dX1_addBand_98 : decode cX1_addBand 98 = .ok (.iconst 1, 1) := by decide +kernel
theorem dX1_addBand_99 : decode cX1_addBand 99 = .ok (.iadd, 1) := by decide +kernel
theorem dX1_addBand_100 : decode cX1_addBand 100 = .ok (.iastore, 1) := by decide +kernel
theorem dX1_addBand_101 : decode cX1_addBand 101 = .ok (.aload_n 0, 1) := by decide +kernel
theorem dX1_addBand_102 : decode cX1_addBand 102 = .ok (.getfield 18, 3) := by decide +kernel
theorem dX1_addBand_105 : decode cX1_addBand 105 = .ok (.aload_n 0, 1) := by decide +kernel
theorem dX1_addBand_106 : decode cX1_addBand 106 = .ok (.getfield 30, 3) := by decide +kernel
theorem dX1_addBand_109 : decode cX1_addBand 109 = .ok (.aload_n 0, 1) := by decide +kernel
theorem dX1_addBand_110 : decode cX1_addBand 110 = .ok (.getfield 34, 3) := by decide +kernel
theorem dX1_addBand_113 : decode cX1_addBand 113 = .ok (.iastore, 1) := by decide +kernel
theorem dX1_addBand_114 : decode cX1_addBand 114 = .ok (.aload_n 0, 1) := by decide +kernel
theorem dX1_addBand_115 : decode cX1_addBand 115 = .ok (.getfield 34, 3) := by decide +kernel
theorem dX1_addBand_118 : decode cX1_addBand 118 = .ok (.istore 12, 2) := by decide +kernel
theorem dX1_addBand_120 : decode cX1_addBand 120 = .ok (.iload 12, 2) := by decide +kernel
theorem dX1_addBand_122 : decode cX1_addBand 122 = .ok (.aload_n 0, 1) := by decide +kernel
theorem dX1_addBand_123 : decode cX1_addBand 123 = .ok (.getfield 34, 3) := by decide +kernel
theorem dX1_addBand_126 : decode cX1_addBand 126 = .ok (.iload 10, 2) := by decide +kernel
theorem dX1_addBand_128 : decode cX1_addBand 128 = .ok (.iadd, 1) := by decide +kernel
theorem dX1_addBand_129 : decode cX1_addBand 129 = .ok (.if_icmp .ge 20, 3) := by decide +kernel
theorem dX1_addBand_132 : decode cX1_addBand 132 = .ok (.aload_n 0, 1) := by decide +kernel
theorem dX1_addBand_133 : decode cX1_addBand 133 = .ok (.getfield 21, 3) := by decide +kernel
theorem dX1_addBand_136 : decode cX1_addBand 136 = .ok (.iload 12, 2) := by decide +kernel
theorem dX1_addBand_138 : decode cX1_addBand 138 = .ok (.aload_n 0, 1) := by decide +kernel
theorem dX1_addBand_139 : decode cX1_addBand 139 = .ok (.getfield 30, 3) := by decide +kernel
theorem dX1_addBand_142 : decode cX1_addBand 142 = .ok (.iastore, 1) := by decide +kernel
theorem dX1_addBand_143 : decode cX1_addBand 143 = .ok (.iinc 12 1, 3) := by decide +kernel
theorem dX1_addBand_146 : decode cX1_addBand 146 = .ok (.goto (-26), 3) := by decide +kernel
theorem dX1_addBand_149 : decode cX1_addBand 149 = .ok (.aload_n 0, 1) := by decide +kernel
theorem dX1_addBand_150 : decode cX1_addBand 150 = .ok (.dup, 1) := by decide +kernel
theorem dX1_addBand_151 : decode cX1_addBand 151 = .ok (.getfield 30, 3) := by decide +kernel
theorem dX1_addBand_154 : decode cX1_addBand 154 = .ok (.iconst 1, 1) := by decide +kernel
theorem dX1_addBand_155 : decode cX1_addBand 155 = .ok (.iadd, 1) := by decide +kernel
theorem dX1_addBand_156 : decode cX1_addBand 156 = .ok (.putfield 30, 3) := by decide +kernel
theorem dX1_addBand_159 : decode cX1_addBand 159 = .ok (.aload_n 0, 1) := by decide +kernel
theorem dX1_addBand_160 : decode cX1_addBand 160 = .ok (.dup, 1) := by decide +kernel
theorem dX1_addBand_161 : decode cX1_addBand 161 = .ok (.getfield 34, 3) := by decide +kernel
theorem dX1_addBand_164 : decode cX1_addBand 164 = .ok (.iload 10, 2) := by decide +kernel
theorem dX1_addBand_166 : decode cX1_addBand 166 = .ok (.iadd, 1) := by decide +kernel
theorem dX1_addBand_167 : decode cX1_addBand 167 = .ok (.putfield 34, 3) := by decide +kernel
theorem dX1_addBand_170 : decode cX1_addBand 170 = .ok (.iconst 1, 1) := by decide +kernel
theorem dX1_addBand_171 : decode cX1_addBand 171 = .ok (.ireturn, 1) := by decide +kernel
theorem dX1_addSides_0 : decode cX1_addSides 0 = .ok (.iload 4, 2) := by decide +kernel
theorem dX1_addSides_2 : decode cX1_addSides 2 = .ok (.lload_n 1, 1) := by decide +kernel
theorem dX1_addSides_3 : decode cX1_addSides 3 = .ok (.invokestatic 58, 3) := by decide +kernel
theorem dX1_addSides_6 : decode cX1_addSides 6 = .ok (.iadd, 1) := by decide +kernel
theorem dX1_addSides_7 : decode cX1_addSides 7 = .ok (.aload_n 0, 1) := by decide +kernel
theorem dX1_addSides_8 : decode cX1_addSides 8 = .ok (.getfield 24, 3) := by decide +kernel
theorem dX1_addSides_11 : decode cX1_addSides 11 = .ok (.arraylength, 1) := by decide +kernel
theorem dX1_addSides_12 : decode cX1_addSides 12 = .ok (.invokestatic 68, 3) := by decide +kernel
theorem dX1_addSides_15 : decode cX1_addSides 15 = .ok (.istore 5, 2) := by decide +kernel
theorem dX1_addSides_17 : decode cX1_addSides 17 = .ok (.lload_n 1, 1) := by decide +kernel
theorem dX1_addSides_18 : decode cX1_addSides 18 = .ok (.lstore 6, 2) := by decide +kernel
theorem dX1_addSides_20 : decode cX1_addSides 20 = .ok (.iload 4, 2) := by decide +kernel
theorem dX1_addSides_22 : decode cX1_addSides 22 = .ok (.istore 8, 2) := by decide +kernel
theorem dX1_addSides_24 : decode cX1_addSides 24 = .ok (.iload 8, 2) := by decide +kernel
theorem dX1_addSides_26 : decode cX1_addSides 26 = .ok (.iload 5, 2) := by decide +kernel
theorem dX1_addSides_28 : decode cX1_addSides 28 = .ok (.if_icmp .ge 40, 3) := by decide +kernel
theorem dX1_addSides_31 : decode cX1_addSides 31 = .ok (.lload 6, 2) := by decide +kernel
theorem dX1_addSides_33 : decode cX1_addSides 33 = .ok (.lload 6, 2) := by decide +kernel
theorem dX1_addSides_35 : decode cX1_addSides 35 = .ok (.lneg, 1) := by decide +kernel
theorem dX1_addSides_36 : decode cX1_addSides 36 = .ok (.land, 1) := by decide +kernel
theorem dX1_addSides_37 : decode cX1_addSides 37 = .ok (.lstore 9, 2) := by decide +kernel
theorem dX1_addSides_39 : decode cX1_addSides 39 = .ok (.aload_n 0, 1) := by decide +kernel
theorem dX1_addSides_40 : decode cX1_addSides 40 = .ok (.getfield 24, 3) := by decide +kernel
theorem dX1_addSides_43 : decode cX1_addSides 43 = .ok (.iload 8, 2) := by decide +kernel
theorem dX1_addSides_45 : decode cX1_addSides 45 = .ok (.iload_n 3, 1) := by decide +kernel
theorem dX1_addSides_46 : decode cX1_addSides 46 = .ok (.lload 9, 2) := by decide +kernel
theorem dX1_addSides_48 : decode cX1_addSides 48 = .ok (.lconst 1, 1) := by decide +kernel
theorem dX1_addSides_49 : decode cX1_addSides 49 = .ok (.lsub, 1) := by decide +kernel
theorem dX1_addSides_50 : decode cX1_addSides 50 = .ok (.invokestatic 58, 3) := by decide +kernel
theorem dX1_addSides_53 : decode cX1_addSides 53 = .ok (.iadd, 1) := by decide +kernel
theorem dX1_addSides_54 : decode cX1_addSides 54 = .ok (.iastore, 1) := by decide +kernel
theorem dX1_addSides_55 : decode cX1_addSides 55 = .ok (.lload 6, 2) := by decide +kernel
theorem dX1_addSides_57 : decode cX1_addSides 57 = .ok (.lload 9, 2) := by decide +kernel
theorem dX1_addSides_59 : decode cX1_addSides 59 = .ok (.lxor, 1) := by decide +kernel
theorem dX1_addSides_60 : decode cX1_addSides 60 = .ok (.lstore 6, 2) := by decide +kernel
theorem dX1_addSides_62 : decode cX1_addSides 62 = .ok (.iinc 8 1, 3) := by decide +kernel
theorem dX1_addSides_65 : decode cX1_addSides 65 = .ok (.goto (-41), 3) := by decide +kernel
theorem dX1_addSides_68 : decode cX1_addSides 68 = .ok (.iload 5, 2) := by decide +kernel
theorem dX1_addSides_70 : decode cX1_addSides 70 = .ok (.ireturn, 1) := by decide +kernel
theorem dX1_spanSide_0 : decode cX1_spanSide 0 = .ok (.iload_n 2, 1) := by decide +kernel
theorem dX1_spanSide_1 : decode cX1_spanSide 1 = .ok (.tableswitch 59 0 2 #[27, 36, 47], 27) := by decide +kernel
theorem dX1_spanSide_28 : decode cX1_spanSide 28 = .ok (.aload_n 0, 1) := by decide +kernel
theorem dX1_spanSide_29 : decode cX1_spanSide 29 = .ok (.getfield 24, 3) := by decide +kernel
theorem dX1_spanSide_32 : decode cX1_spanSide 32 = .ok (.iconst 2, 1) := by decide +kernel
theorem dX1_spanSide_33 : decode cX1_spanSide 33 = .ok (.iload_n 1, 1) := by decide +kernel
theorem dX1_spanSide_34 : decode cX1_spanSide 34 = .ok (.imul, 1) := by decide +kernel
theorem dX1_spanSide_35 : decode cX1_spanSide 35 = .ok (.iaload, 1) := by decide +kernel
theorem dX1_spanSide_36 : decode cX1_spanSide 36 = .ok (.ireturn, 1) := by decide +kernel
theorem dX1_spanSide_37 : decode cX1_spanSide 37 = .ok (.aload_n 0, 1) := by decide +kernel
theorem dX1_spanSide_38 : decode cX1_spanSide 38 = .ok (.getfield 24, 3) := by decide +kernel
theorem dX1_spanSide_41 : decode cX1_spanSide 41 = .ok (.iconst 2, 1) := by decide +kernel
theorem dX1_spanSide_42 : decode cX1_spanSide 42 = .ok (.iload_n 1, 1) := by decide +kernel
theorem dX1_spanSide_43 : decode cX1_spanSide 43 = .ok (.imul, 1) := by decide +kernel
theorem dX1_spanSide_44 : decode cX1_spanSide 44 = .ok (.iconst 1, 1) := by decide +kernel
theorem dX1_spanSide_45 : decode cX1_spanSide 45 = .ok (.iadd, 1) := by decide +kernel
theorem dX1_spanSide_46 : decode cX1_spanSide 46 = .ok (.iaload, 1) := by decide +kernel
theorem dX1_spanSide_47 : decode cX1_spanSide 47 = .ok (.ireturn, 1) := by decide +kernel
theorem dX1_spanSide_48 : decode cX1_spanSide 48 = .ok (.aload_n 0, 1) := by decide +kernel
theorem dX1_spanSide_49 : decode cX1_spanSide 49 = .ok (.getfield 9, 3) := by decide +kernel
theorem dX1_spanSide_52 : decode cX1_spanSide 52 = .ok (.aload_n 0, 1) := by decide +kernel
theorem dX1_spanSide_53 : decode cX1_spanSide 53 = .ok (.getfield 21, 3) := by decide +kernel
theorem dX1_spanSide_56 : decode cX1_spanSide 56 = .ok (.iload_n 1, 1) := by decide +kernel
theorem dX1_spanSide_57 : decode cX1_spanSide 57 = .ok (.iaload, 1) := by decide +kernel
theorem dX1_spanSide_58 : decode cX1_spanSide 58 = .ok (.iaload, 1) := by decide +kernel
theorem dX1_spanSide_59 : decode cX1_spanSide 59 = .ok (.ireturn, 1) := by decide +kernel
theorem dX1_spanSide_60 : decode cX1_spanSide 60 = .ok (.aload_n 0, 1) := by decide +kernel
theorem dX1_spanSide_61 : decode cX1_spanSide 61 = .ok (.getfield 15, 3) := by decide +kernel
theorem dX1_spanSide_64 : decode cX1_spanSide 64 = .ok (.aload_n 0, 1) := by decide +kernel
theorem dX1_spanSide_65 : decode cX1_spanSide 65 = .ok (.getfield 21, 3) := by decide +kernel
theorem dX1_spanSide_68 : decode cX1_spanSide 68 = .ok (.iload_n 1, 1) := by decide +kernel
theorem dX1_spanSide_69 : decode cX1_spanSide 69 = .ok (.iaload, 1) := by decide +kernel
theorem dX1_spanSide_70 : decode cX1_spanSide 70 = .ok (.iaload, 1) := by decide +kernel
theorem dX1_spanSide_71 : decode cX1_spanSide 71 = .ok (.ireturn, 1) := by decide +kernel
theorem dX1_measure_0 : decode cX1_measure 0 = .ok (.iload_n 1, 1) := by decide +kernel
theorem dX1_measure_1 : decode cX1_measure 1 = .ok (.tableswitch 42 1 3 #[27, 32, 37], 27) := by decide +kernel
theorem dX1_measure_28 : decode cX1_measure 28 = .ok (.aload_n 0, 1) := by decide +kernel
theorem dX1_measure_29 : decode cX1_measure 29 = .ok (.getfield 30, 3) := by decide +kernel
theorem dX1_measure_32 : decode cX1_measure 32 = .ok (.ireturn, 1) := by decide +kernel
theorem dX1_measure_33 : decode cX1_measure 33 = .ok (.aload_n 0, 1) := by decide +kernel
theorem dX1_measure_34 : decode cX1_measure 34 = .ok (.getfield 34, 3) := by decide +kernel
theorem dX1_measure_37 : decode cX1_measure 37 = .ok (.ireturn, 1) := by decide +kernel
theorem dX1_measure_38 : decode cX1_measure 38 = .ok (.aload_n 0, 1) := by decide +kernel
theorem dX1_measure_39 : decode cX1_measure 39 = .ok (.invokevirtual 74, 3) := by decide +kernel
theorem dX1_measure_42 : decode cX1_measure 42 = .ok (.ireturn, 1) := by decide +kernel
theorem dX1_measure_43 : decode cX1_measure 43 = .ok (.aload_n 0, 1) := by decide +kernel
theorem dX1_measure_44 : decode cX1_measure 44 = .ok (.getfield 34, 3) := by decide +kernel
theorem dX1_measure_47 : decode cX1_measure 47 = .ok (.ifCond .ne 9, 3) := by decide +kernel
theorem dX1_measure_50 : decode cX1_measure 50 = .ok (.sipush (-201), 3) := by decide +kernel
theorem dX1_measure_53 : decode cX1_measure 53 = .ok (.goto 8, 3) := by decide +kernel
theorem dX1_measure_56 : decode cX1_measure 56 = .ok (.aload_n 0, 1) := by decide +kernel
theorem dX1_measure_57 : decode cX1_measure 57 = .ok (.iload_n 1, 1) := by decide +kernel
theorem dX1_measure_58 : decode cX1_measure 58 = .ok (.invokevirtual 78, 3) := by decide +kernel
theorem dX1_measure_61 : decode cX1_measure 61 = .ok (.ireturn, 1) := by decide +kernel
theorem dX1_border_0 : decode cX1_border 0 = .ok (.aload_n 0, 1) := by decide +kernel
theorem dX1_border_1 : decode cX1_border 1 = .ok (.iconst 0, 1) := by decide +kernel
theorem dX1_border_2 : decode cX1_border 2 = .ok (.iload_n 1, 1) := by decide +kernel
theorem dX1_border_3 : decode cX1_border 3 = .ok (.iconst 5, 1) := by decide +kernel
theorem dX1_border_4 : decode cX1_border 4 = .ok (.isub, 1) := by decide +kernel
theorem dX1_border_5 : decode cX1_border 5 = .ok (.invokevirtual 82, 3) := by decide +kernel
theorem dX1_border_8 : decode cX1_border 8 = .ok (.istore_n 2, 1) := by decide +kernel
theorem dX1_border_9 : decode cX1_border 9 = .ok (.iconst 1, 1) := by decide +kernel
theorem dX1_border_10 : decode cX1_border 10 = .ok (.istore_n 3, 1) := by decide +kernel
theorem dX1_border_11 : decode cX1_border 11 = .ok (.iload_n 3, 1) := by decide +kernel
theorem dX1_border_12 : decode cX1_border 12 = .ok (.aload_n 0, 1) := by decide +kernel
theorem dX1_border_13 : decode cX1_border 13 = .ok (.getfield 34, 3) := by decide +kernel
theorem dX1_border_16 : decode cX1_border 16 = .ok (.if_icmp .ge 46, 3) := by decide +kernel
theorem dX1_border_19 : decode cX1_border 19 = .ok (.aload_n 0, 1) := by decide +kernel
theorem dX1_border_20 : decode cX1_border 20 = .ok (.iload_n 3, 1) := by decide +kernel
theorem dX1_border_21 : decode cX1_border 21 = .ok (.iload_n 1, 1) := by decide +kernel
theorem dX1_border_22 : decode cX1_border 22 = .ok (.iconst 5, 1) := by decide +kernel
theorem dX1_border_23 : decode cX1_border 23 = .ok (.isub, 1) := by decide +kernel
theorem dX1_border_24 : decode cX1_border 24 = .ok (.invokevirtual 82, 3) := by decide +kernel
theorem dX1_border_27 : decode cX1_border 27 = .ok (.istore 4, 2) := by decide +kernel
theorem dX1_border_29 : decode cX1_border 29 = .ok (.iload_n 1, 1) := by decide +kernel
theorem dX1_border_30 : decode cX1_border 30 = .ok (.iconst 5, 1) := by decide +kernel
theorem dX1_border_31 : decode cX1_border 31 = .ok (.if_icmp .eq 9, 3) := by decide +kernel
theorem dX1_border_34 : decode cX1_border 34 = .ok (.iload_n 1, 1) := by decide +kernel
theorem dX1_border_35 : decode cX1_border 35 = .ok (.bipush 7, 2) := by decide +kernel
theorem dX1_border_37 : decode cX1_border 37 = .ok (.if_icmp .ne 12, 3) := by decide +kernel
theorem dX1_border_40 : decode cX1_border 40 = .ok (.iload_n 2, 1) := by decide +kernel
theorem dX1_border_41 : decode cX1_border 41 = .ok (.iload 4, 2) := by decide +kernel
theorem dX1_border_43 : decode cX1_border 43 = .ok (.invokestatic 68, 3) := by decide +kernel
theorem dX1_border_46 : decode cX1_border 46 = .ok (.goto 9, 3) := by decide +kernel
theorem dX1_border_49 : decode cX1_border 49 = .ok (.iload_n 2, 1) := by decide +kernel
theorem dX1_border_50 : decode cX1_border 50 = .ok (.iload 4, 2) := by decide +kernel
theorem dX1_border_52 : decode cX1_border 52 = .ok (.invokestatic 85, 3) := by decide +kernel
theorem dX1_border_55 : decode cX1_border 55 = .ok (.istore_n 2, 1) := by decide +kernel
theorem dX1_border_56 : decode cX1_border 56 = .ok (.iinc 3 1, 3) := by decide +kernel
theorem dX1_border_59 : decode cX1_border 59 = .ok (.goto (-48), 3) := by decide +kernel
theorem dX1_border_62 : decode cX1_border 62 = .ok (.iload_n 2, 1) := by decide +kernel
theorem dX1_border_63 : decode cX1_border 63 = .ok (.ireturn, 1) := by decide +kernel
theorem dX1_staysInside_0 : decode cX1_staysInside 0 = .ok (.aload_n 0, 1) := by decide +kernel
theorem dX1_staysInside_1 : decode cX1_staysInside 1 = .ok (.getfield 34, 3) := by decide +kernel
theorem dX1_staysInside_4 : decode cX1_staysInside 4 = .ok (.ifCond .eq 54, 3) := by decide +kernel
theorem dX1_staysInside_7 : decode cX1_staysInside 7 = .ok (.aload_n 0, 1) := by decide +kernel
theorem dX1_staysInside_8 : decode cX1_staysInside 8 = .ok (.iconst 5, 1) := by decide +kernel
theorem dX1_staysInside_9 : decode cX1_staysInside 9 = .ok (.invokevirtual 78, 3) := by decide +kernel
theorem dX1_staysInside_12 : decode cX1_staysInside 12 = .ok (.iload_n 1, 1) := by decide +kernel
theorem dX1_staysInside_13 : decode cX1_staysInside 13 = .ok (.iadd, 1) := by decide +kernel
theorem dX1_staysInside_14 : decode cX1_staysInside 14 = .ok (.bipush (-60), 2) := by decide +kernel
theorem dX1_staysInside_16 : decode cX1_staysInside 16 = .ok (.if_icmp .lt 46, 3) := by decide +kernel
theorem dX1_staysInside_19 : decode cX1_staysInside 19 = .ok (.aload_n 0, 1) := by decide +kernel
theorem dX1_staysInside_20 : decode cX1_staysInside 20 = .ok (.bipush 6, 2) := by decide +kernel
theorem dX1_staysInside_22 : decode cX1_staysInside 22 = .ok (.invokevirtual 78, 3) := by decide +kernel
theorem dX1_staysInside_25 : decode cX1_staysInside 25 = .ok (.iload_n 1, 1) := by decide +kernel
theorem dX1_staysInside_26 : decode cX1_staysInside 26 = .ok (.iadd, 1) := by decide +kernel
theorem dX1_staysInside_27 : decode cX1_staysInside 27 = .ok (.bipush 60, 2) := by decide +kernel
theorem dX1_staysInside_29 : decode cX1_staysInside 29 = .ok (.if_icmp .gt 33, 3) := by decide +kernel
theorem dX1_staysInside_32 : decode cX1_staysInside 32 = .ok (.aload_n 0, 1) := by decide +kernel
theorem dX1_staysInside_33 : decode cX1_staysInside 33 = .ok (.bipush 7, 2) := by decide +kernel
theorem dX1_staysInside_35 : decode cX1_staysInside 35 = .ok (.invokevirtual 78, 3) := by decide +kernel
theorem dX1_staysInside_38 : decode cX1_staysInside 38 = .ok (.iload_n 2, 1) := by decide +kernel
theorem dX1_staysInside_39 : decode cX1_staysInside 39 = .ok (.iadd, 1) := by decide +kernel
theorem dX1_staysInside_40 : decode cX1_staysInside 40 = .ok (.bipush (-60), 2) := by decide +kernel
theorem dX1_staysInside_42 : decode cX1_staysInside 42 = .ok (.if_icmp .lt 20, 3) := by decide +kernel
theorem dX1_staysInside_45 : decode cX1_staysInside 45 = .ok (.aload_n 0, 1) := by decide +kernel
theorem dX1_staysInside_46 : decode cX1_staysInside 46 = .ok (.bipush 8, 2) := by decide +kernel
theorem dX1_staysInside_48 : decode cX1_staysInside 48 = .ok (.invokevirtual 78, 3) := by decide +kernel
theorem dX1_staysInside_51 : decode cX1_staysInside 51 = .ok (.iload_n 2, 1) := by decide +kernel
theorem dX1_staysInside_52 : decode cX1_staysInside 52 = .ok (.iadd, 1) := by decide +kernel
theorem dX1_staysInside_53 : decode cX1_staysInside 53 = .ok (.bipush 60, 2) := by decide +kernel
theorem dX1_staysInside_55 : decode cX1_staysInside 55 = .ok (.if_icmp .gt 7, 3) := by decide +kernel
theorem dX1_staysInside_58 : decode cX1_staysInside 58 = .ok (.iconst 1, 1) := by decide +kernel
theorem dX1_staysInside_59 : decode cX1_staysInside 59 = .ok (.goto 4, 3) := by decide +kernel
theorem dX1_staysInside_62 : decode cX1_staysInside 62 = .ok (.iconst 0, 1) := by decide +kernel
theorem dX1_staysInside_63 : decode cX1_staysInside 63 = .ok (.ireturn, 1) := by decide +kernel
theorem dX1_layMoved_0 : decode cX1_layMoved 0 = .ok (.aload_n 1, 1) := by decide +kernel
theorem dX1_layMoved_1 : decode cX1_layMoved 1 = .ok (.invokevirtual 88, 3) := by decide +kernel
theorem dX1_layMoved_4 : decode cX1_layMoved 4 = .ok (.iconst 0, 1) := by decide +kernel
theorem dX1_layMoved_5 : decode cX1_layMoved 5 = .ok (.istore 4, 2) := by decide +kernel
theorem dX1_layMoved_7 : decode cX1_layMoved 7 = .ok (.iload 4, 2) := by decide +kernel
theorem dX1_layMoved_9 : decode cX1_layMoved 9 = .ok (.aload_n 0, 1) := by decide +kernel
theorem dX1_layMoved_10 : decode cX1_layMoved 10 = .ok (.getfield 34, 3) := by decide +kernel
theorem dX1_layMoved_13 : decode cX1_layMoved 13 = .ok (.if_icmp .ge 49, 3) := by decide +kernel
theorem dX1_layMoved_16 : decode cX1_layMoved 16 = .ok (.aload_n 1, 1) := by decide +kernel
theorem dX1_layMoved_17 : decode cX1_layMoved 17 = .ok (.aload_n 0, 1) := by decide +kernel
theorem dX1_layMoved_18 : decode cX1_layMoved 18 = .ok (.iload 4, 2) := by decide +kernel
theorem dX1_layMoved_20 : decode cX1_layMoved 20 = .ok (.iconst 0, 1) := by decide +kernel
theorem dX1_layMoved_21 : decode cX1_layMoved 21 = .ok (.invokevirtual 82, 3) := by decide +kernel
theorem dX1_layMoved_24 : decode cX1_layMoved 24 = .ok (.iload_n 2, 1) := by decide +kernel
theorem dX1_layMoved_25 : decode cX1_layMoved 25 = .ok (.iadd, 1) := by decide +kernel
theorem dX1_layMoved_26 : decode cX1_layMoved 26 = .ok (.aload_n 0, 1) := by decide +kernel
theorem dX1_layMoved_27 : decode cX1_layMoved 27 = .ok (.iload 4, 2) := by decide +kernel
theorem dX1_layMoved_29 : decode cX1_layMoved 29 = .ok (.iconst 2, 1) := by decide +kernel
theorem dX1_layMoved_30 : decode cX1_layMoved 30 = .ok (.invokevirtual 82, 3) := by decide +kernel
theorem dX1_layMoved_33 : decode cX1_layMoved 33 = .ok (.iload_n 3, 1) := by decide +kernel
theorem dX1_layMoved_34 : decode cX1_layMoved 34 = .ok (.iadd, 1) := by decide +kernel
theorem dX1_layMoved_35 : decode cX1_layMoved 35 = .ok (.aload_n 0, 1) := by decide +kernel
theorem dX1_layMoved_36 : decode cX1_layMoved 36 = .ok (.iload 4, 2) := by decide +kernel
theorem dX1_layMoved_38 : decode cX1_layMoved 38 = .ok (.iconst 1, 1) := by decide +kernel
theorem dX1_layMoved_39 : decode cX1_layMoved 39 = .ok (.invokevirtual 82, 3) := by decide +kernel
theorem dX1_layMoved_42 : decode cX1_layMoved 42 = .ok (.iload_n 2, 1) := by decide +kernel
theorem dX1_layMoved_43 : decode cX1_layMoved 43 = .ok (.iadd, 1) := by decide +kernel
theorem dX1_layMoved_44 : decode cX1_layMoved 44 = .ok (.aload_n 0, 1) := by decide +kernel
theorem dX1_layMoved_45 : decode cX1_layMoved 45 = .ok (.iload 4, 2) := by decide +kernel
theorem dX1_layMoved_47 : decode cX1_layMoved 47 = .ok (.iconst 3, 1) := by decide +kernel
theorem dX1_layMoved_48 : decode cX1_layMoved 48 = .ok (.invokevirtual 82, 3) := by decide +kernel
theorem dX1_layMoved_51 : decode cX1_layMoved 51 = .ok (.iload_n 3, 1) := by decide +kernel
theorem dX1_layMoved_52 : decode cX1_layMoved 52 = .ok (.iadd, 1) := by decide +kernel
theorem dX1_layMoved_53 : decode cX1_layMoved 53 = .ok (.invokevirtual 91, 3) := by decide +kernel
theorem dX1_layMoved_56 : decode cX1_layMoved 56 = .ok (.iinc 4 1, 3) := by decide +kernel
theorem dX1_layMoved_59 : decode cX1_layMoved 59 = .ok (.goto (-52), 3) := by decide +kernel
theorem dX1_layMoved_62 : decode cX1_layMoved 62 = .ok (.return_, 1) := by decide +kernel
theorem dX1_layTurned_0 : decode cX1_layTurned 0 = .ok (.aload_n 1, 1) := by decide +kernel
theorem dX1_layTurned_1 : decode cX1_layTurned 1 = .ok (.invokevirtual 88, 3) := by decide +kernel
theorem dX1_layTurned_4 : decode cX1_layTurned 4 = .ok (.iconst 0, 1) := by decide +kernel
theorem dX1_layTurned_5 : decode cX1_layTurned 5 = .ok (.istore_n 3, 1) := by decide +kernel
theorem dX1_layTurned_6 : decode cX1_layTurned 6 = .ok (.iload_n 3, 1) := by decide +kernel
theorem dX1_layTurned_7 : decode cX1_layTurned 7 = .ok (.aload_n 0, 1) := by decide +kernel
theorem dX1_layTurned_8 : decode cX1_layTurned 8 = .ok (.getfield 34, 3) := by decide +kernel
theorem dX1_layTurned_11 : decode cX1_layTurned 11 = .ok (.if_icmp .ge 113, 3) := by decide +kernel
theorem dX1_layTurned_14 : decode cX1_layTurned 14 = .ok (.aload_n 0, 1) := by decide +kernel
theorem dX1_layTurned_15 : decode cX1_layTurned 15 = .ok (.iload_n 3, 1) := by decide +kernel
theorem dX1_layTurned_16 : decode cX1_layTurned 16 = .ok (.iconst 0, 1) := by decide +kernel
theorem dX1_layTurned_17 : decode cX1_layTurned 17 = .ok (.invokevirtual 82, 3) := by decide +kernel
theorem dX1_layTurned_20 : decode cX1_layTurned 20 = .ok (.istore 4, 2) := by decide +kernel
theorem dX1_layTurned_22 : decode cX1_layTurned 22 = .ok (.aload_n 0, 1) := by decide +kernel
theorem dX1_layTurned_23 : decode cX1_layTurned 23 = .ok (.iload_n 3, 1) := by decide +kernel
theorem dX1_layTurned_24 : decode cX1_layTurned 24 = .ok (.iconst 1, 1) := by decide +kernel
theorem dX1_layTurned_25 : decode cX1_layTurned 25 = .ok (.invokevirtual 82, 3) := by decide +kernel
theorem dX1_layTurned_28 : decode cX1_layTurned 28 = .ok (.istore 5, 2) := by decide +kernel
theorem dX1_layTurned_30 : decode cX1_layTurned 30 = .ok (.aload_n 0, 1) := by decide +kernel
theorem dX1_layTurned_31 : decode cX1_layTurned 31 = .ok (.iload_n 3, 1) := by decide +kernel
theorem dX1_layTurned_32 : decode cX1_layTurned 32 = .ok (.iconst 2, 1) := by decide +kernel
theorem dX1_layTurned_33 : decode cX1_layTurned 33 = .ok (.invokevirtual 82, 3) := by decide +kernel
theorem dX1_layTurned_36 : decode cX1_layTurned 36 = .ok (.istore 6, 2) := by decide +kernel
theorem dX1_layTurned_38 : decode cX1_layTurned 38 = .ok (.aload_n 0, 1) := by decide +kernel
theorem dX1_layTurned_39 : decode cX1_layTurned 39 = .ok (.iload_n 3, 1) := by decide +kernel
theorem dX1_layTurned_40 : decode cX1_layTurned 40 = .ok (.iconst 3, 1) := by decide +kernel
theorem dX1_layTurned_41 : decode cX1_layTurned 41 = .ok (.invokevirtual 82, 3) := by decide +kernel
theorem dX1_layTurned_44 : decode cX1_layTurned 44 = .ok (.istore 7, 2) := by decide +kernel
theorem dX1_layTurned_46 : decode cX1_layTurned 46 = .ok (.iload_n 2, 1) := by decide +kernel
theorem dX1_layTurned_47 : decode cX1_layTurned 47 = .ok (.lookupswitch 59 #[(0, 25), (1, 42)], 25) := by decide +kernel
theorem dX1_layTurned_72 : decode cX1_layTurned 72 = .ok (.aload_n 1, 1) := by decide +kernel
theorem dX1_layTurned_73 : decode cX1_layTurned 73 = .ok (.iload 5, 2) := by decide +kernel
theorem dX1_layTurned_75 : decode cX1_layTurned 75 = .ok (.ineg, 1) := by decide +kernel
theorem dX1_layTurned_76 : decode cX1_layTurned 76 = .ok (.iload 6, 2) := by decide +kernel
theorem dX1_layTurned_78 : decode cX1_layTurned 78 = .ok (.iload 4, 2) := by decide +kernel
theorem dX1_layTurned_80 : decode cX1_layTurned 80 = .ok (.ineg, 1) := by decide +kernel
theorem dX1_layTurned_81 : decode cX1_layTurned 81 = .ok (.iload 7, 2) := by decide +kernel
theorem dX1_layTurned_83 : decode cX1_layTurned 83 = .ok (.invokevirtual 91, 3) := by decide +kernel
theorem dX1_layTurned_86 : decode cX1_layTurned 86 = .ok (.goto 32, 3) := by decide +kernel
theorem dX1_layTurned_89 : decode cX1_layTurned 89 = .ok (.aload_n 1, 1) := by decide +kernel
theorem dX1_layTurned_90 : decode cX1_layTurned 90 = .ok (.iload 4, 2) := by decide +kernel
theorem dX1_layTurned_92 : decode cX1_layTurned 92 = .ok (.iload 7, 2) := by decide +kernel
theorem dX1_layTurned_94 : decode cX1_layTurned 94 = .ok (.ineg, 1) := by decide +kernel
theorem dX1_layTurned_95 : decode cX1_layTurned 95 = .ok (.iload 5, 2) := by decide +kernel
theorem dX1_layTurned_97 : decode cX1_layTurned 97 = .ok (.iload 6, 2) := by decide +kernel
theorem dX1_layTurned_99 : decode cX1_layTurned 99 = .ok (.ineg, 1) := by decide +kernel
theorem dX1_layTurned_100 : decode cX1_layTurned 100 = .ok (.invokevirtual 91, 3) := by decide +kernel
theorem dX1_layTurned_103 : decode cX1_layTurned 103 = .ok (.goto 15, 3) := by decide +kernel
theorem dX1_layTurned_106 : decode cX1_layTurned 106 = .ok (.aload_n 1, 1) := by decide +kernel
theorem dX1_layTurned_107 : decode cX1_layTurned 107 = .ok (.iload 6, 2) := by decide +kernel
theorem dX1_layTurned_109 : decode cX1_layTurned 109 = .ok (.iload 4, 2) := by decide +kernel
theorem dX1_layTurned_111 : decode cX1_layTurned 111 = .ok (.iload 7, 2) := by decide +kernel
theorem dX1_layTurned_113 : decode cX1_layTurned 113 = .ok (.iload 5, 2) := by decide +kernel
theorem dX1_layTurned_115 : decode cX1_layTurned 115 = .ok (.invokevirtual 91, 3) := by decide +kernel
theorem dX1_layTurned_118 : decode cX1_layTurned 118 = .ok (.iinc 3 1, 3) := by decide +kernel
theorem dX1_layTurned_121 : decode cX1_layTurned 121 = .ok (.goto (-115), 3) := by decide +kernel
theorem dX1_layTurned_124 : decode cX1_layTurned 124 = .ok (.return_, 1) := by decide +kernel
theorem dX1_joinParts_0 : decode cX1_joinParts 0 = .ok (.aload_n 0, 1) := by decide +kernel
theorem dX1_joinParts_1 : decode cX1_joinParts 1 = .ok (.getfield 34, 3) := by decide +kernel
theorem dX1_joinParts_4 : decode cX1_joinParts 4 = .ok (.istore_n 1, 1) := by decide +kernel
theorem dX1_joinParts_5 : decode cX1_joinParts 5 = .ok (.iconst 0, 1) := by decide +kernel
theorem dX1_joinParts_6 : decode cX1_joinParts 6 = .ok (.istore_n 2, 1) := by decide +kernel
theorem dX1_joinParts_7 : decode cX1_joinParts 7 = .ok (.iload_n 2, 1) := by decide +kernel
theorem dX1_joinParts_8 : decode cX1_joinParts 8 = .ok (.aload_n 0, 1) := by decide +kernel
theorem dX1_joinParts_9 : decode cX1_joinParts 9 = .ok (.getfield 34, 3) := by decide +kernel
theorem dX1_joinParts_12 : decode cX1_joinParts 12 = .ok (.if_icmp .ge 24, 3) := by decide +kernel
theorem dX1_joinParts_15 : decode cX1_joinParts 15 = .ok (.aload_n 0, 1) := by decide +kernel
theorem dX1_joinParts_16 : decode cX1_joinParts 16 = .ok (.getfield 27, 3) := by decide +kernel
theorem dX1_joinParts_19 : decode cX1_joinParts 19 = .ok (.iload_n 2, 1) := by decide +kernel
theorem dX1_joinParts_20 : decode cX1_joinParts 20 = .ok (.iload_n 2, 1) := by decide +kernel
theorem dX1_joinParts_21 : decode cX1_joinParts 21 = .ok (.iastore, 1) := by decide +kernel
theorem dX1_joinParts_22 : decode cX1_joinParts 22 = .ok (.iload_n 1, 1) := by decide +kernel
theorem dX1_joinParts_23 : decode cX1_joinParts 23 = .ok (.aload_n 0, 1) := by decide +kernel
theorem dX1_joinParts_24 : decode cX1_joinParts 24 = .ok (.iload_n 2, 1) := by decide +kernel
theorem dX1_joinParts_25 : decode cX1_joinParts 25 = .ok (.invokevirtual 95, 3) := by decide +kernel
theorem dX1_joinParts_28 : decode cX1_joinParts 28 = .ok (.isub, 1) := by decide +kernel
theorem dX1_joinParts_29 : decode cX1_joinParts 29 = .ok (.istore_n 1, 1) := by decide +kernel
theorem dX1_joinParts_30 : decode cX1_joinParts 30 = .ok (.iinc 2 1, 3) := by decide +kernel
theorem dX1_joinParts_33 : decode cX1_joinParts 33 = .ok (.goto (-26), 3) := by decide +kernel
theorem dX1_joinParts_36 : decode cX1_joinParts 36 = .ok (.iload_n 1, 1) := by decide +kernel
theorem dX1_joinParts_37 : decode cX1_joinParts 37 = .ok (.ireturn, 1) := by decide +kernel
theorem dX1_joinAbove_0 : decode cX1_joinAbove 0 = .ok (.aload_n 0, 1) := by decide +kernel
theorem dX1_joinAbove_1 : decode cX1_joinAbove 1 = .ok (.getfield 21, 3) := by decide +kernel
theorem dX1_joinAbove_4 : decode cX1_joinAbove 4 = .ok (.iload_n 1, 1) := by decide +kernel
theorem dX1_joinAbove_5 : decode cX1_joinAbove 5 = .ok (.iaload, 1) := by decide +kernel
theorem dX1_joinAbove_6 : decode cX1_joinAbove 6 = .ok (.istore_n 2, 1) := by decide +kernel
theorem dX1_joinAbove_7 : decode cX1_joinAbove 7 = .ok (.iload_n 2, 1) := by decide +kernel
theorem dX1_joinAbove_8 : decode cX1_joinAbove 8 = .ok (.ifCond .eq 20, 3) := by decide +kernel
theorem dX1_joinAbove_11 : decode cX1_joinAbove 11 = .ok (.aload_n 0, 1) := by decide +kernel
theorem dX1_joinAbove_12 : decode cX1_joinAbove 12 = .ok (.getfield 15, 3) := by decide +kernel
theorem dX1_joinAbove_15 : decode cX1_joinAbove 15 = .ok (.iload_n 2, 1) := by decide +kernel
theorem dX1_joinAbove_16 : decode cX1_joinAbove 16 = .ok (.iconst 1, 1) := by decide +kernel
theorem dX1_joinAbove_17 : decode cX1_joinAbove 17 = .ok (.isub, 1) := by decide +kernel
theorem dX1_joinAbove_18 : decode cX1_joinAbove 18 = .ok (.iaload, 1) := by decide +kernel
theorem dX1_joinAbove_19 : decode cX1_joinAbove 19 = .ok (.aload_n 0, 1) := by decide +kernel
theorem dX1_joinAbove_20 : decode cX1_joinAbove 20 = .ok (.getfield 9, 3) := by decide +kernel
theorem dX1_joinAbove_23 : decode cX1_joinAbove 23 = .ok (.iload_n 2, 1) := by decide +kernel
theorem dX1_joinAbove_24 : decode cX1_joinAbove 24 = .ok (.iaload, 1) := by decide +kernel
theorem dX1_joinAbove_25 : decode cX1_joinAbove 25 = .ok (.if_icmp .eq 5, 3) := by decide +kernel
theorem dX1_joinAbove_28 : decode cX1_joinAbove 28 = .ok (.iconst 0, 1) := by decide +kernel
theorem dX1_joinAbove_29 : decode cX1_joinAbove 29 = .ok (.ireturn, 1) := by decide +kernel
theorem dX1_joinAbove_30 : decode cX1_joinAbove 30 = .ok (.iconst 0, 1) := by decide +kernel
theorem dX1_joinAbove_31 : decode cX1_joinAbove 31 = .ok (.istore_n 3, 1) := by decide +kernel
theorem dX1_joinAbove_32 : decode cX1_joinAbove 32 = .ok (.aload_n 0, 1) := by decide +kernel
theorem dX1_joinAbove_33 : decode cX1_joinAbove 33 = .ok (.getfield 18, 3) := by decide +kernel
theorem dX1_joinAbove_36 : decode cX1_joinAbove 36 = .ok (.iload_n 2, 1) := by decide +kernel
theorem dX1_joinAbove_37 : decode cX1_joinAbove 37 = .ok (.iconst 1, 1) := by decide +kernel
theorem dX1_joinAbove_38 : decode cX1_joinAbove 38 = .ok (.isub, 1) := by decide +kernel
theorem dX1_joinAbove_39 : decode cX1_joinAbove 39 = .ok (.iaload, 1) := by decide +kernel
theorem dX1_joinAbove_40 : decode cX1_joinAbove 40 = .ok (.istore 4, 2) := by decide +kernel
theorem dX1_joinAbove_42 : decode cX1_joinAbove 42 = .ok (.iload 4, 2) := by decide +kernel
theorem dX1_joinAbove_44 : decode cX1_joinAbove 44 = .ok (.aload_n 0, 1) := by decide +kernel
theorem dX1_joinAbove_45 : decode cX1_joinAbove 45 = .ok (.getfield 18, 3) := by decide +kernel
theorem dX1_joinAbove_48 : decode cX1_joinAbove 48 = .ok (.iload_n 2, 1) := by decide +kernel
theorem dX1_joinAbove_49 : decode cX1_joinAbove 49 = .ok (.iaload, 1) := by decide +kernel
theorem dX1_joinAbove_50 : decode cX1_joinAbove 50 = .ok (.if_icmp .ge 66, 3) := by decide +kernel
theorem dX1_joinAbove_53 : decode cX1_joinAbove 53 = .ok (.aload_n 0, 1) := by decide +kernel
theorem dX1_joinAbove_54 : decode cX1_joinAbove 54 = .ok (.getfield 24, 3) := by decide +kernel
theorem dX1_joinAbove_57 : decode cX1_joinAbove 57 = .ok (.iconst 2, 1) := by decide +kernel
theorem dX1_joinAbove_58 : decode cX1_joinAbove 58 = .ok (.iload 4, 2) := by decide +kernel
theorem dX1_joinAbove_60 : decode cX1_joinAbove 60 = .ok (.imul, 1) := by decide +kernel
theorem dX1_joinAbove_61 : decode cX1_joinAbove 61 = .ok (.iaload, 1) := by decide +kernel
theorem dX1_joinAbove_62 : decode cX1_joinAbove 62 = .ok (.aload_n 0, 1) := by decide +kernel
theorem dX1_joinAbove_63 : decode cX1_joinAbove 63 = .ok (.getfield 24, 3) := by decide +kernel
theorem dX1_joinAbove_66 : decode cX1_joinAbove 66 = .ok (.iconst 2, 1) := by decide +kernel
theorem dX1_joinAbove_67 : decode cX1_joinAbove 67 = .ok (.iload_n 1, 1) := by decide +kernel
theorem dX1_joinAbove_68 : decode cX1_joinAbove 68 = .ok (.imul, 1) := by decide +kernel
theorem dX1_joinAbove_69 : decode cX1_joinAbove 69 = .ok (.iconst 1, 1) := by decide +kernel
theorem dX1_joinAbove_70 : decode cX1_joinAbove 70 = .ok (.iadd, 1) := by decide +kernel
theorem dX1_joinAbove_71 : decode cX1_joinAbove 71 = .ok (.iaload, 1) := by decide +kernel
theorem dX1_joinAbove_72 : decode cX1_joinAbove 72 = .ok (.if_icmp .ge 38, 3) := by decide +kernel
theorem dX1_joinAbove_75 : decode cX1_joinAbove 75 = .ok (.aload_n 0, 1) := by decide +kernel
theorem dX1_joinAbove_76 : decode cX1_joinAbove 76 = .ok (.getfield 24, 3) := by decide +kernel
theorem dX1_joinAbove_79 : decode cX1_joinAbove 79 = .ok (.iconst 2, 1) := by decide +kernel
theorem dX1_joinAbove_80 : decode cX1_joinAbove 80 = .ok (.iload_n 1, 1) := by decide +kernel
theorem dX1_joinAbove_81 : decode cX1_joinAbove 81 = .ok (.imul, 1) := by decide +kernel
theorem dX1_joinAbove_82 : decode cX1_joinAbove 82 = .ok (.iaload, 1) := by decide +kernel
theorem dX1_joinAbove_83 : decode cX1_joinAbove 83 = .ok (.aload_n 0, 1) := by decide +kernel
theorem dX1_joinAbove_84 : decode cX1_joinAbove 84 = .ok (.getfield 24, 3) := by decide +kernel
theorem dX1_joinAbove_87 : decode cX1_joinAbove 87 = .ok (.iconst 2, 1) := by decide +kernel
theorem dX1_joinAbove_88 : decode cX1_joinAbove 88 = .ok (.iload 4, 2) := by decide +kernel
theorem dX1_joinAbove_90 : decode cX1_joinAbove 90 = .ok (.imul, 1) := by decide +kernel
theorem dX1_joinAbove_91 : decode cX1_joinAbove 91 = .ok (.iconst 1, 1) := by decide +kernel
theorem dX1_joinAbove_92 : decode cX1_joinAbove 92 = .ok (.iadd, 1) := by decide +kernel
theorem dX1_joinAbove_93 : decode cX1_joinAbove 93 = .ok (.iaload, 1) := by decide +kernel
theorem dX1_joinAbove_94 : decode cX1_joinAbove 94 = .ok (.if_icmp .ge 16, 3) := by decide +kernel
theorem dX1_joinAbove_97 : decode cX1_joinAbove 97 = .ok (.aload_n 0, 1) := by decide +kernel
theorem dX1_joinAbove_98 : decode cX1_joinAbove 98 = .ok (.iload 4, 2) := by decide +kernel
theorem dX1_joinAbove_100 : decode cX1_joinAbove 100 = .ok (.iload_n 1, 1) := by decide +kernel
theorem dX1_joinAbove_101 : decode cX1_joinAbove 101 = .ok (.invokevirtual 98, 3) := by decide +kernel
theorem dX1_joinAbove_104 : decode cX1_joinAbove 104 = .ok (.ifCond .eq 6, 3) := by decide +kernel
theorem dX1_joinAbove_107 : decode cX1_joinAbove 107 = .ok (.iinc 3 1, 3) := by decide +kernel
theorem dX1_joinAbove_110 : decode cX1_joinAbove 110 = .ok (.iinc 4 1, 3) := by decide +kernel
theorem dX1_joinAbove_113 : decode cX1_joinAbove 113 = .ok (.goto (-71), 3) := by decide +kernel
theorem dX1_joinAbove_116 : decode cX1_joinAbove 116 = .ok (.iload_n 3, 1) := by decide +kernel
theorem dX1_joinAbove_117 : decode cX1_joinAbove 117 = .ok (.ireturn, 1) := by decide +kernel
theorem dX1_join_0 : decode cX1_join 0 = .ok (.aload_n 0, 1) := by decide +kernel
theorem dX1_join_1 : decode cX1_join 1 = .ok (.iload_n 1, 1) := by decide +kernel
theorem dX1_join_2 : decode cX1_join 2 = .ok (.invokevirtual 102, 3) := by decide +kernel
theorem dX1_join_5 : decode cX1_join 5 = .ok (.istore_n 3, 1) := by decide +kernel
theorem dX1_join_6 : decode cX1_join 6 = .ok (.aload_n 0, 1) := by decide +kernel
theorem dX1_join_7 : decode cX1_join 7 = .ok (.iload_n 2, 1) := by decide +kernel
theorem dX1_join_8 : decode cX1_join 8 = .ok (.invokevirtual 102, 3) := by decide +kernel
theorem dX1_join_11 : decode cX1_join 11 = .ok (.istore 4, 2) := by decide +kernel
theorem dX1_join_13 : decode cX1_join 13 = .ok (.aload_n 0, 1) := by decide +kernel
theorem dX1_join_14 : decode cX1_join 14 = .ok (.getfield 27, 3) := by decide +kernel
theorem dX1_join_17 : decode cX1_join 17 = .ok (.iload 4, 2) := by decide +kernel
theorem dX1_join_19 : decode cX1_join 19 = .ok (.iload_n 3, 1) := by decide +kernel
theorem dX1_join_20 : decode cX1_join 20 = .ok (.iastore, 1) := by decide +kernel
theorem dX1_join_21 : decode cX1_join 21 = .ok (.iload_n 3, 1) := by decide +kernel
theorem dX1_join_22 : decode cX1_join 22 = .ok (.iload 4, 2) := by decide +kernel
theorem dX1_join_24 : decode cX1_join 24 = .ok (.if_icmp .eq 7, 3) := by decide +kernel
theorem dX1_join_27 : decode cX1_join 27 = .ok (.iconst 1, 1) := by decide +kernel
theorem dX1_join_28 : decode cX1_join 28 = .ok (.goto 4, 3) := by decide +kernel
theorem dX1_join_31 : decode cX1_join 31 = .ok (.iconst 0, 1) := by decide +kernel
theorem dX1_join_32 : decode cX1_join 32 = .ok (.ireturn, 1) := by decide +kernel
theorem dX1_leader_0 : decode cX1_leader 0 = .ok (.iload_n 1, 1) := by decide +kernel
theorem dX1_leader_1 : decode cX1_leader 1 = .ok (.istore_n 2, 1) := by decide +kernel
theorem dX1_leader_2 : decode cX1_leader 2 = .ok (.iconst 0, 1) := by decide +kernel
theorem dX1_leader_3 : decode cX1_leader 3 = .ok (.istore_n 3, 1) := by decide +kernel
theorem dX1_leader_4 : decode cX1_leader 4 = .ok (.iload_n 3, 1) := by decide +kernel
theorem dX1_leader_5 : decode cX1_leader 5 = .ok (.aload_n 0, 1) := by decide +kernel
theorem dX1_leader_6 : decode cX1_leader 6 = .ok (.getfield 34, 3) := by decide +kernel
theorem dX1_leader_9 : decode cX1_leader 9 = .ok (.if_icmp .ge 26, 3) := by decide +kernel
theorem dX1_leader_12 : decode cX1_leader 12 = .ok (.aload_n 0, 1) := by decide +kernel
theorem dX1_leader_13 : decode cX1_leader 13 = .ok (.getfield 27, 3) := by decide +kernel
theorem dX1_leader_16 : decode cX1_leader 16 = .ok (.iload_n 2, 1) := by decide +kernel
theorem dX1_leader_17 : decode cX1_leader 17 = .ok (.iaload, 1) := by decide +kernel
theorem dX1_leader_18 : decode cX1_leader 18 = .ok (.iload_n 2, 1) := by decide +kernel
theorem dX1_leader_19 : decode cX1_leader 19 = .ok (.if_icmp .eq 16, 3) := by decide +kernel
theorem dX1_leader_22 : decode cX1_leader 22 = .ok (.aload_n 0, 1) := by decide +kernel
theorem dX1_leader_23 : decode cX1_leader 23 = .ok (.getfield 27, 3) := by decide +kernel
theorem dX1_leader_26 : decode cX1_leader 26 = .ok (.iload_n 2, 1) := by decide +kernel
theorem dX1_leader_27 : decode cX1_leader 27 = .ok (.iaload, 1) := by decide +kernel
theorem dX1_leader_28 : decode cX1_leader 28 = .ok (.istore_n 2, 1) := by decide +kernel
theorem dX1_leader_29 : decode cX1_leader 29 = .ok (.iinc 3 1, 3) := by decide +kernel
theorem dX1_leader_32 : decode cX1_leader 32 = .ok (.goto (-28), 3) := by decide +kernel
theorem dX1_leader_35 : decode cX1_leader 35 = .ok (.iload_n 2, 1) := by decide +kernel
theorem dX1_leader_36 : decode cX1_leader 36 = .ok (.ireturn, 1) := by decide +kernel
theorem dX1_layPart_0 : decode cX1_layPart 0 = .ok (.aload_n 0, 1) := by decide +kernel
theorem dX1_layPart_1 : decode cX1_layPart 1 = .ok (.iload_n 2, 1) := by decide +kernel
theorem dX1_layPart_2 : decode cX1_layPart 2 = .ok (.iload_n 3, 1) := by decide +kernel
theorem dX1_layPart_3 : decode cX1_layPart 3 = .ok (.invokevirtual 105, 3) := by decide +kernel
theorem dX1_layPart_6 : decode cX1_layPart 6 = .ok (.istore 4, 2) := by decide +kernel
theorem dX1_layPart_8 : decode cX1_layPart 8 = .ok (.aload_n 1, 1) := by decide +kernel
theorem dX1_layPart_9 : decode cX1_layPart 9 = .ok (.invokevirtual 88, 3) := by decide +kernel
theorem dX1_layPart_12 : decode cX1_layPart 12 = .ok (.iconst 0, 1) := by decide +kernel
theorem dX1_layPart_13 : decode cX1_layPart 13 = .ok (.istore 5, 2) := by decide +kernel
theorem dX1_layPart_15 : decode cX1_layPart 15 = .ok (.iload 5, 2) := by decide +kernel
theorem dX1_layPart_17 : decode cX1_layPart 17 = .ok (.aload_n 0, 1) := by decide +kernel
theorem dX1_layPart_18 : decode cX1_layPart 18 = .ok (.getfield 34, 3) := by decide +kernel
theorem dX1_layPart_21 : decode cX1_layPart 21 = .ok (.if_icmp .ge 52, 3) := by decide +kernel
theorem dX1_layPart_24 : decode cX1_layPart 24 = .ok (.aload_n 0, 1) := by decide +kernel
theorem dX1_layPart_25 : decode cX1_layPart 25 = .ok (.iload 5, 2) := by decide +kernel
theorem dX1_layPart_27 : decode cX1_layPart 27 = .ok (.invokevirtual 102, 3) := by decide +kernel
theorem dX1_layPart_30 : decode cX1_layPart 30 = .ok (.iload 4, 2) := by decide +kernel
theorem dX1_layPart_32 : decode cX1_layPart 32 = .ok (.if_icmp .ne 35, 3) := by decide +kernel
theorem dX1_layPart_35 : decode cX1_layPart 35 = .ok (.aload_n 1, 1) := by decide +kernel
theorem dX1_layPart_36 : decode cX1_layPart 36 = .ok (.aload_n 0, 1) := by decide +kernel
theorem dX1_layPart_37 : decode cX1_layPart 37 = .ok (.iload 5, 2) := by decide +kernel
theorem dX1_layPart_39 : decode cX1_layPart 39 = .ok (.iconst 0, 1) := by decide +kernel
theorem dX1_layPart_40 : decode cX1_layPart 40 = .ok (.invokevirtual 82, 3) := by decide +kernel
theorem dX1_layPart_43 : decode cX1_layPart 43 = .ok (.aload_n 0, 1) := by decide +kernel
theorem dX1_layPart_44 : decode cX1_layPart 44 = .ok (.iload 5, 2) := by decide +kernel
theorem dX1_layPart_46 : decode cX1_layPart 46 = .ok (.iconst 2, 1) := by decide +kernel
theorem dX1_layPart_47 : decode cX1_layPart 47 = .ok (.invokevirtual 82, 3) := by decide +kernel
theorem dX1_layPart_50 : decode cX1_layPart 50 = .ok (.aload_n 0, 1) := by decide +kernel
theorem dX1_layPart_51 : decode cX1_layPart 51 = .ok (.iload 5, 2) := by decide +kernel
theorem dX1_layPart_53 : decode cX1_layPart 53 = .ok (.iconst 1, 1) := by decide +kernel
theorem dX1_layPart_54 : decode cX1_layPart 54 = .ok (.invokevirtual 82, 3) := by decide +kernel
theorem dX1_layPart_57 : decode cX1_layPart 57 = .ok (.aload_n 0, 1) := by decide +kernel
theorem dX1_layPart_58 : decode cX1_layPart 58 = .ok (.iload 5, 2) := by decide +kernel
theorem dX1_layPart_60 : decode cX1_layPart 60 = .ok (.iconst 3, 1) := by decide +kernel
theorem dX1_layPart_61 : decode cX1_layPart 61 = .ok (.invokevirtual 82, 3) := by decide +kernel
theorem dX1_layPart_64 : decode cX1_layPart 64 = .ok (.invokevirtual 91, 3) := by decide +kernel
theorem dX1_layPart_67 : decode cX1_layPart 67 = .ok (.iinc 5 1, 3) := by decide +kernel
theorem dX1_layPart_70 : decode cX1_layPart 70 = .ok (.goto (-55), 3) := by decide +kernel
theorem dX1_layPart_73 : decode cX1_layPart 73 = .ok (.return_, 1) := by decide +kernel
theorem dX1_leaderAt_0 : decode cX1_leaderAt 0 = .ok (.iconst 0, 1) := by decide +kernel
theorem dX1_leaderAt_1 : decode cX1_leaderAt 1 = .ok (.istore_n 3, 1) := by decide +kernel
theorem dX1_leaderAt_2 : decode cX1_leaderAt 2 = .ok (.iload_n 3, 1) := by decide +kernel
theorem dX1_leaderAt_3 : decode cX1_leaderAt 3 = .ok (.aload_n 0, 1) := by decide +kernel
theorem dX1_leaderAt_4 : decode cX1_leaderAt 4 = .ok (.getfield 34, 3) := by decide +kernel
theorem dX1_leaderAt_7 : decode cX1_leaderAt 7 = .ok (.if_icmp .ge 57, 3) := by decide +kernel
theorem dX1_leaderAt_10 : decode cX1_leaderAt 10 = .ok (.iload_n 1, 1) := by decide +kernel
theorem dX1_leaderAt_11 : decode cX1_leaderAt 11 = .ok (.aload_n 0, 1) := by decide +kernel
theorem dX1_leaderAt_12 : decode cX1_leaderAt 12 = .ok (.iload_n 3, 1) := by decide +kernel
theorem dX1_leaderAt_13 : decode cX1_leaderAt 13 = .ok (.iconst 0, 1) := by decide +kernel
theorem dX1_leaderAt_14 : decode cX1_leaderAt 14 = .ok (.invokevirtual 82, 3) := by decide +kernel
theorem dX1_leaderAt_17 : decode cX1_leaderAt 17 = .ok (.aload_n 0, 1) := by decide +kernel
theorem dX1_leaderAt_18 : decode cX1_leaderAt 18 = .ok (.iload_n 3, 1) := by decide +kernel
theorem dX1_leaderAt_19 : decode cX1_leaderAt 19 = .ok (.iconst 1, 1) := by decide +kernel
theorem dX1_leaderAt_20 : decode cX1_leaderAt 20 = .ok (.invokevirtual 82, 3) := by decide +kernel
theorem dX1_leaderAt_23 : decode cX1_leaderAt 23 = .ok (.iconst 1, 1) := by decide +kernel
theorem dX1_leaderAt_24 : decode cX1_leaderAt 24 = .ok (.isub, 1) := by decide +kernel
theorem dX1_leaderAt_25 : decode cX1_leaderAt 25 = .ok (.invokestatic 108, 3) := by decide +kernel
theorem dX1_leaderAt_28 : decode cX1_leaderAt 28 = .ok (.ifCond .eq 30, 3) := by decide +kernel
theorem dX1_leaderAt_31 : decode cX1_leaderAt 31 = .ok (.iload_n 2, 1) := by decide +kernel
theorem dX1_leaderAt_32 : decode cX1_leaderAt 32 = .ok (.aload_n 0, 1) := by decide +kernel
theorem dX1_leaderAt_33 : decode cX1_leaderAt 33 = .ok (.iload_n 3, 1) := by decide +kernel
theorem dX1_leaderAt_34 : decode cX1_leaderAt 34 = .ok (.iconst 2, 1) := by decide +kernel
theorem dX1_leaderAt_35 : decode cX1_leaderAt 35 = .ok (.invokevirtual 82, 3) := by decide +kernel
theorem dX1_leaderAt_38 : decode cX1_leaderAt 38 = .ok (.aload_n 0, 1) := by decide +kernel
theorem dX1_leaderAt_39 : decode cX1_leaderAt 39 = .ok (.iload_n 3, 1) := by decide +kernel
theorem dX1_leaderAt_40 : decode cX1_leaderAt 40 = .ok (.iconst 3, 1) := by decide +kernel
theorem dX1_leaderAt_41 : decode cX1_leaderAt 41 = .ok (.invokevirtual 82, 3) := by decide +kernel
theorem dX1_leaderAt_44 : decode cX1_leaderAt 44 = .ok (.iconst 1, 1) := by decide +kernel
theorem dX1_leaderAt_45 : decode cX1_leaderAt 45 = .ok (.isub, 1) := by decide +kernel
theorem dX1_leaderAt_46 : decode cX1_leaderAt 46 = .ok (.invokestatic 108, 3) := by decide +kernel
theorem dX1_leaderAt_49 : decode cX1_leaderAt 49 = .ok (.ifCond .eq 9, 3) := by decide +kernel
theorem dX1_leaderAt_52 : decode cX1_leaderAt 52 = .ok (.aload_n 0, 1) := by decide +kernel
theorem dX1_leaderAt_53 : decode cX1_leaderAt 53 = .ok (.iload_n 3, 1) := by decide +kernel
theorem dX1_leaderAt_54 : decode cX1_leaderAt 54 = .ok (.invokevirtual 102, 3) := by decide +kernel
theorem dX1_leaderAt_57 : decode cX1_leaderAt 57 = .ok (.ireturn, 1) := by decide +kernel
theorem dX1_leaderAt_58 : decode cX1_leaderAt 58 = .ok (.iinc 3 1, 3) := by decide +kernel
theorem dX1_leaderAt_61 : decode cX1_leaderAt 61 = .ok (.goto (-59), 3) := by decide +kernel
theorem dX1_leaderAt_64 : decode cX1_leaderAt 64 = .ok (.iconst (-1), 1) := by decide +kernel
theorem dX1_leaderAt_65 : decode cX1_leaderAt 65 = .ok (.ireturn, 1) := by decide +kernel
theorem dX1_write_0 : decode cX1_write 0 = .ok (.iconst 0, 1) := by decide +kernel
theorem dX1_write_1 : decode cX1_write 1 = .ok (.istore_n 2, 1) := by decide +kernel
theorem dX1_write_2 : decode cX1_write 2 = .ok (.iload_n 2, 1) := by decide +kernel
theorem dX1_write_3 : decode cX1_write 3 = .ok (.aload_n 0, 1) := by decide +kernel
theorem dX1_write_4 : decode cX1_write 4 = .ok (.getfield 34, 3) := by decide +kernel
theorem dX1_write_7 : decode cX1_write 7 = .ok (.if_icmp .ge 107, 3) := by decide +kernel
theorem dX1_write_10 : decode cX1_write 10 = .ok (.aload_n 0, 1) := by decide +kernel
theorem dX1_write_11 : decode cX1_write 11 = .ok (.getfield 21, 3) := by decide +kernel
theorem dX1_write_14 : decode cX1_write 14 = .ok (.iload_n 2, 1) := by decide +kernel
theorem dX1_write_15 : decode cX1_write 15 = .ok (.iaload, 1) := by decide +kernel
theorem dX1_write_16 : decode cX1_write 16 = .ok (.istore_n 3, 1) := by decide +kernel
theorem dX1_write_17 : decode cX1_write 17 = .ok (.iload_n 2, 1) := by decide +kernel
theorem dX1_write_18 : decode cX1_write 18 = .ok (.aload_n 0, 1) := by decide +kernel
theorem dX1_write_19 : decode cX1_write 19 = .ok (.getfield 18, 3) := by decide +kernel
theorem dX1_write_22 : decode cX1_write 22 = .ok (.iload_n 3, 1) := by decide +kernel
theorem dX1_write_23 : decode cX1_write 23 = .ok (.iaload, 1) := by decide +kernel
theorem dX1_write_24 : decode cX1_write 24 = .ok (.if_icmp .ne 21, 3) := by decide +kernel
theorem dX1_write_27 : decode cX1_write 27 = .ok (.aload_n 1, 1) := by decide +kernel
theorem dX1_write_28 : decode cX1_write 28 = .ok (.aload_n 0, 1) := by decide +kernel
theorem dX1_write_29 : decode cX1_write 29 = .ok (.getfield 9, 3) := by decide +kernel
theorem dX1_write_32 : decode cX1_write 32 = .ok (.iload_n 3, 1) := by decide +kernel
theorem dX1_write_33 : decode cX1_write 33 = .ok (.iaload, 1) := by decide +kernel
theorem dX1_write_34 : decode cX1_write 34 = .ok (.aload_n 0, 1) := by decide +kernel
theorem dX1_write_35 : decode cX1_write 35 = .ok (.getfield 15, 3) := by decide +kernel
theorem dX1_write_38 : decode cX1_write 38 = .ok (.iload_n 3, 1) := by decide +kernel
theorem dX1_write_39 : decode cX1_write 39 = .ok (.iaload, 1) := by decide +kernel
theorem dX1_write_40 : decode cX1_write 40 = .ok (.bipush 58, 2) := by decide +kernel
theorem dX1_write_42 : decode cX1_write 42 = .ok (.invokevirtual 112, 3) := by decide +kernel
theorem dX1_write_45 : decode cX1_write 45 = .ok (.iload_n 2, 1) := by decide +kernel
theorem dX1_write_46 : decode cX1_write 46 = .ok (.iconst 1, 1) := by decide +kernel
theorem dX1_write_47 : decode cX1_write 47 = .ok (.iadd, 1) := by decide +kernel
theorem dX1_write_48 : decode cX1_write 48 = .ok (.aload_n 0, 1) := by decide +kernel
theorem dX1_write_49 : decode cX1_write 49 = .ok (.getfield 34, 3) := by decide +kernel
theorem dX1_write_52 : decode cX1_write 52 = .ok (.if_icmp .eq 15, 3) := by decide +kernel
theorem dX1_write_55 : decode cX1_write 55 = .ok (.aload_n 0, 1) := by decide +kernel
theorem dX1_write_56 : decode cX1_write 56 = .ok (.getfield 21, 3) := by decide +kernel
theorem dX1_write_59 : decode cX1_write 59 = .ok (.iload_n 2, 1) := by decide +kernel
theorem dX1_write_60 : decode cX1_write 60 = .ok (.iconst 1, 1) := by decide +kernel
theorem dX1_write_61 : decode cX1_write 61 = .ok (.iadd, 1) := by decide +kernel
theorem dX1_write_62 : decode cX1_write 62 = .ok (.iaload, 1) := by decide +kernel
theorem dX1_write_63 : decode cX1_write 63 = .ok (.iload_n 3, 1) := by decide +kernel
theorem dX1_write_64 : decode cX1_write 64 = .ok (.if_icmp .eq 7, 3) := by decide +kernel
theorem dX1_write_67 : decode cX1_write 67 = .ok (.iconst 1, 1) := by decide +kernel
theorem dX1_write_68 : decode cX1_write 68 = .ok (.goto 4, 3) := by decide +kernel
theorem dX1_write_71 : decode cX1_write 71 = .ok (.iconst 0, 1) := by decide +kernel
theorem dX1_write_72 : decode cX1_write 72 = .ok (.istore 4, 2) := by decide +kernel
theorem dX1_write_74 : decode cX1_write 74 = .ok (.aload_n 1, 1) := by decide +kernel
theorem dX1_write_75 : decode cX1_write 75 = .ok (.aload_n 0, 1) := by decide +kernel
theorem dX1_write_76 : decode cX1_write 76 = .ok (.getfield 24, 3) := by decide +kernel
theorem dX1_write_79 : decode cX1_write 79 = .ok (.iconst 2, 1) := by decide +kernel
theorem dX1_write_80 : decode cX1_write 80 = .ok (.iload_n 2, 1) := by decide +kernel
theorem dX1_write_81 : decode cX1_write 81 = .ok (.imul, 1) := by decide +kernel
theorem dX1_write_82 : decode cX1_write 82 = .ok (.iaload, 1) := by decide +kernel
theorem dX1_write_83 : decode cX1_write 83 = .ok (.aload_n 0, 1) := by decide +kernel
theorem dX1_write_84 : decode cX1_write 84 = .ok (.getfield 24, 3) := by decide +kernel
theorem dX1_write_87 : decode cX1_write 87 = .ok (.iconst 2, 1) := by decide +kernel
theorem dX1_write_88 : decode cX1_write 88 = .ok (.iload_n 2, 1) := by decide +kernel
theorem dX1_write_89 : decode cX1_write 89 = .ok (.imul, 1) := by decide +kernel
theorem dX1_write_90 : decode cX1_write 90 = .ok (.iconst 1, 1) := by decide +kernel
theorem dX1_write_91 : decode cX1_write 91 = .ok (.iadd, 1) := by decide +kernel
theorem dX1_write_92 : decode cX1_write 92 = .ok (.iaload, 1) := by decide +kernel
theorem dX1_write_93 : decode cX1_write 93 = .ok (.iload 4, 2) := by decide +kernel
theorem dX1_write_95 : decode cX1_write 95 = .ok (.ifCond .eq 8, 3) := by decide +kernel
theorem dX1_write_98 : decode cX1_write 98 = .ok (.bipush 59, 2) := by decide +kernel
theorem dX1_write_100 : decode cX1_write 100 = .ok (.goto 5, 3) := by decide +kernel
theorem dX1_write_103 : decode cX1_write 103 = .ok (.bipush 44, 2) := by decide +kernel
theorem dX1_write_105 : decode cX1_write 105 = .ok (.invokevirtual 112, 3) := by decide +kernel
theorem dX1_write_108 : decode cX1_write 108 = .ok (.iinc 2 1, 3) := by decide +kernel
theorem dX1_write_111 : decode cX1_write 111 = .ok (.goto (-109), 3) := by decide +kernel
theorem dX1_write_114 : decode cX1_write 114 = .ok (.return_, 1) := by decide +kernel
theorem dX2_init_0 : decode cX2_init 0 = .ok (.aload_n 0, 1) := by decide +kernel
theorem dX2_init_1 : decode cX2_init 1 = .ok (.invokespecial 3, 3) := by decide +kernel
theorem dX2_init_4 : decode cX2_init 4 = .ok (.aload_n 0, 1) := by decide +kernel
theorem dX2_init_5 : decode cX2_init 5 = .ok (.bipush 10, 2) := by decide +kernel
theorem dX2_init_7 : decode cX2_init 7 = .ok (.newarray .int, 2) := by decide +kernel
theorem dX2_init_9 : decode cX2_init 9 = .ok (.putfield 9, 3) := by decide +kernel
theorem dX2_init_12 : decode cX2_init 12 = .ok (.aload_n 0, 1) := by decide +kernel
theorem dX2_init_13 : decode cX2_init 13 = .ok (.bipush 10, 2) := by decide +kernel
theorem dX2_init_15 : decode cX2_init 15 = .ok (.newarray .int, 2) := by decide +kernel
theorem dX2_init_17 : decode cX2_init 17 = .ok (.putfield 15, 3) := by decide +kernel
theorem dX2_init_20 : decode cX2_init 20 = .ok (.return_, 1) := by decide +kernel
theorem dX2_add_0 : decode cX2_add 0 = .ok (.aload_n 0, 1) := by decide +kernel
theorem dX2_add_1 : decode cX2_add 1 = .ok (.getfield 18, 3) := by decide +kernel
theorem dX2_add_4 : decode cX2_add 4 = .ok (.bipush 10, 2) := by decide +kernel
theorem dX2_add_6 : decode cX2_add 6 = .ok (.if_icmp .lt 5, 3) := by decide +kernel
theorem dX2_add_9 : decode cX2_add 9 = .ok (.iconst 0, 1) := by decide +kernel
theorem dX2_add_10 : decode cX2_add 10 = .ok (.ireturn, 1) := by decide +kernel
theorem dX2_add_11 : decode cX2_add 11 = .ok (.aload_n 0, 1) := by decide +kernel
theorem dX2_add_12 : decode cX2_add 12 = .ok (.getfield 9, 3) := by decide +kernel
theorem dX2_add_15 : decode cX2_add 15 = .ok (.aload_n 0, 1) := by decide +kernel
theorem dX2_add_16 : decode cX2_add 16 = .ok (.getfield 18, 3) := by decide +kernel
theorem dX2_add_19 : decode cX2_add 19 = .ok (.iload_n 1, 1) := by decide +kernel
theorem dX2_add_20 : decode cX2_add 20 = .ok (.iastore, 1) := by decide +kernel
theorem dX2_add_21 : decode cX2_add 21 = .ok (.aload_n 0, 1) := by decide +kernel
theorem dX2_add_22 : decode cX2_add 22 = .ok (.getfield 15, 3) := by decide +kernel
theorem dX2_add_25 : decode cX2_add 25 = .ok (.aload_n 0, 1) := by decide +kernel
theorem dX2_add_26 : decode cX2_add 26 = .ok (.getfield 18, 3) := by decide +kernel
theorem dX2_add_29 : decode cX2_add 29 = .ok (.iload_n 2, 1) := by decide +kernel
theorem dX2_add_30 : decode cX2_add 30 = .ok (.iastore, 1) := by decide +kernel
theorem dX2_add_31 : decode cX2_add 31 = .ok (.aload_n 0, 1) := by decide +kernel
theorem dX2_add_32 : decode cX2_add 32 = .ok (.dup, 1) := by decide +kernel
theorem dX2_add_33 : decode cX2_add 33 = .ok (.getfield 18, 3) := by decide +kernel
theorem dX2_add_36 : decode cX2_add 36 = .ok (.iconst 1, 1) := by decide +kernel
theorem dX2_add_37 : decode cX2_add 37 = .ok (.iadd, 1) := by decide +kernel
theorem dX2_add_38 : decode cX2_add 38 = .ok (.putfield 18, 3) := by decide +kernel
theorem dX2_add_41 : decode cX2_add 41 = .ok (.iconst 1, 1) := by decide +kernel
theorem dX2_add_42 : decode cX2_add 42 = .ok (.ireturn, 1) := by decide +kernel
theorem dX2_lay_0 : decode cX2_lay 0 = .ok (.aload_n 1, 1) := by decide +kernel
theorem dX2_lay_1 : decode cX2_lay 1 = .ok (.invokevirtual 22, 3) := by decide +kernel
theorem dX2_lay_4 : decode cX2_lay 4 = .ok (.iconst 0, 1) := by decide +kernel
theorem dX2_lay_5 : decode cX2_lay 5 = .ok (.istore_n 2, 1) := by decide +kernel
theorem dX2_lay_6 : decode cX2_lay 6 = .ok (.iload_n 2, 1) := by decide +kernel
theorem dX2_lay_7 : decode cX2_lay 7 = .ok (.aload_n 0, 1) := by decide +kernel
theorem dX2_lay_8 : decode cX2_lay 8 = .ok (.getfield 18, 3) := by decide +kernel
theorem dX2_lay_11 : decode cX2_lay 11 = .ok (.if_icmp .ge 74, 3) := by decide +kernel
theorem dX2_lay_14 : decode cX2_lay 14 = .ok (.iload_n 2, 1) := by decide +kernel
theorem dX2_lay_15 : decode cX2_lay 15 = .ok (.iconst 1, 1) := by decide +kernel
theorem dX2_lay_16 : decode cX2_lay 16 = .ok (.iadd, 1) := by decide +kernel
theorem dX2_lay_17 : decode cX2_lay 17 = .ok (.aload_n 0, 1) := by decide +kernel
theorem dX2_lay_18 : decode cX2_lay 18 = .ok (.getfield 18, 3) := by decide +kernel
theorem dX2_lay_21 : decode cX2_lay 21 = .ok (.if_icmp .ge 9, 3) := by decide +kernel
theorem dX2_lay_24 : decode cX2_lay 24 = .ok (.iload_n 2, 1) := by decide +kernel
theorem dX2_lay_25 : decode cX2_lay 25 = .ok (.iconst 1, 1) := by decide +kernel
theorem dX2_lay_26 : decode cX2_lay 26 = .ok (.iadd, 1) := by decide +kernel
theorem dX2_lay_27 : decode cX2_lay 27 = .ok (.goto 4, 3) := by decide +kernel
theorem dX2_lay_30 : decode cX2_lay 30 = .ok (.iconst 0, 1) := by decide +kernel
theorem dX2_lay_31 : decode cX2_lay 31 = .ok (.istore_n 3, 1) := by decide +kernel
theorem dX2_lay_32 : decode cX2_lay 32 = .ok (.aload_n 0, 1) := by decide +kernel
theorem dX2_lay_33 : decode cX2_lay 33 = .ok (.getfield 15, 3) := by decide +kernel
theorem dX2_lay_36 : decode cX2_lay 36 = .ok (.iload_n 2, 1) := by decide +kernel
theorem dX2_lay_37 : decode cX2_lay 37 = .ok (.iaload, 1) := by decide +kernel
theorem dX2_lay_38 : decode cX2_lay 38 = .ok (.aload_n 0, 1) := by decide +kernel
theorem dX2_lay_39 : decode cX2_lay 39 = .ok (.getfield 15, 3) := by decide +kernel
theorem dX2_lay_42 : decode cX2_lay 42 = .ok (.iload_n 3, 1) := by decide +kernel
theorem dX2_lay_43 : decode cX2_lay 43 = .ok (.iaload, 1) := by decide +kernel
theorem dX2_lay_44 : decode cX2_lay 44 = .ok (.if_icmp .ge 13, 3) := by decide +kernel
theorem dX2_lay_47 : decode cX2_lay 47 = .ok (.aload_n 0, 1) := by decide +kernel
theorem dX2_lay_48 : decode cX2_lay 48 = .ok (.aload_n 1, 1) := by decide +kernel
theorem dX2_lay_49 : decode cX2_lay 49 = .ok (.iload_n 2, 1) := by decide +kernel
theorem dX2_lay_50 : decode cX2_lay 50 = .ok (.iload_n 3, 1) := by decide +kernel
theorem dX2_lay_51 : decode cX2_lay 51 = .ok (.invokevirtual 27, 3) := by decide +kernel
theorem dX2_lay_54 : decode cX2_lay 54 = .ok (.goto 25, 3) := by decide +kernel
theorem dX2_lay_57 : decode cX2_lay 57 = .ok (.aload_n 0, 1) := by decide +kernel
theorem dX2_lay_58 : decode cX2_lay 58 = .ok (.getfield 15, 3) := by decide +kernel
theorem dX2_lay_61 : decode cX2_lay 61 = .ok (.iload_n 2, 1) := by decide +kernel
theorem dX2_lay_62 : decode cX2_lay 62 = .ok (.iaload, 1) := by decide +kernel
theorem dX2_lay_63 : decode cX2_lay 63 = .ok (.aload_n 0, 1) := by decide +kernel
theorem dX2_lay_64 : decode cX2_lay 64 = .ok (.getfield 15, 3) := by decide +kernel
theorem dX2_lay_67 : decode cX2_lay 67 = .ok (.iload_n 3, 1) := by decide +kernel
theorem dX2_lay_68 : decode cX2_lay 68 = .ok (.iaload, 1) := by decide +kernel
theorem dX2_lay_69 : decode cX2_lay 69 = .ok (.if_icmp .le 10, 3) := by decide +kernel
theorem dX2_lay_72 : decode cX2_lay 72 = .ok (.aload_n 0, 1) := by decide +kernel
theorem dX2_lay_73 : decode cX2_lay 73 = .ok (.aload_n 1, 1) := by decide +kernel
theorem dX2_lay_74 : decode cX2_lay 74 = .ok (.iload_n 3, 1) := by decide +kernel
theorem dX2_lay_75 : decode cX2_lay 75 = .ok (.iload_n 2, 1) := by decide +kernel
theorem dX2_lay_76 : decode cX2_lay 76 = .ok (.invokevirtual 27, 3) := by decide +kernel
theorem dX2_lay_79 : decode cX2_lay 79 = .ok (.iinc 2 1, 3) := by decide +kernel
theorem dX2_lay_82 : decode cX2_lay 82 = .ok (.goto (-76), 3) := by decide +kernel
theorem dX2_lay_85 : decode cX2_lay 85 = .ok (.return_, 1) := by decide +kernel
theorem dX2_laySide_0 : decode cX2_laySide 0 = .ok (.aload_n 0, 1) := by decide +kernel
theorem dX2_laySide_1 : decode cX2_laySide 1 = .ok (.getfield 15, 3) := by decide +kernel
theorem dX2_laySide_4 : decode cX2_laySide 4 = .ok (.iload_n 3, 1) := by decide +kernel
theorem dX2_laySide_5 : decode cX2_laySide 5 = .ok (.iaload, 1) := by decide +kernel
theorem dX2_laySide_6 : decode cX2_laySide 6 = .ok (.aload_n 0, 1) := by decide +kernel
theorem dX2_laySide_7 : decode cX2_laySide 7 = .ok (.getfield 15, 3) := by decide +kernel
theorem dX2_laySide_10 : decode cX2_laySide 10 = .ok (.iload_n 2, 1) := by decide +kernel
theorem dX2_laySide_11 : decode cX2_laySide 11 = .ok (.iaload, 1) := by decide +kernel
theorem dX2_laySide_12 : decode cX2_laySide 12 = .ok (.isub, 1) := by decide +kernel
theorem dX2_laySide_13 : decode cX2_laySide 13 = .ok (.istore 4, 2) := by decide +kernel
theorem dX2_laySide_15 : decode cX2_laySide 15 = .ok (.aload_n 0, 1) := by decide +kernel
theorem dX2_laySide_16 : decode cX2_laySide 16 = .ok (.getfield 9, 3) := by decide +kernel
theorem dX2_laySide_19 : decode cX2_laySide 19 = .ok (.iload_n 3, 1) := by decide +kernel
theorem dX2_laySide_20 : decode cX2_laySide 20 = .ok (.iaload, 1) := by decide +kernel
theorem dX2_laySide_21 : decode cX2_laySide 21 = .ok (.aload_n 0, 1) := by decide +kernel
theorem dX2_laySide_22 : decode cX2_laySide 22 = .ok (.getfield 9, 3) := by decide +kernel
theorem dX2_laySide_25 : decode cX2_laySide 25 = .ok (.iload_n 2, 1) := by decide +kernel
theorem dX2_laySide_26 : decode cX2_laySide 26 = .ok (.iaload, 1) := by decide +kernel
theorem dX2_laySide_27 : decode cX2_laySide 27 = .ok (.isub, 1) := by decide +kernel
theorem dX2_laySide_28 : decode cX2_laySide 28 = .ok (.istore 5, 2) := by decide +kernel
theorem dX2_laySide_30 : decode cX2_laySide 30 = .ok (.aload_n 0, 1) := by decide +kernel
theorem dX2_laySide_31 : decode cX2_laySide 31 = .ok (.getfield 15, 3) := by decide +kernel
theorem dX2_laySide_34 : decode cX2_laySide 34 = .ok (.iload_n 2, 1) := by decide +kernel
theorem dX2_laySide_35 : decode cX2_laySide 35 = .ok (.iaload, 1) := by decide +kernel
theorem dX2_laySide_36 : decode cX2_laySide 36 = .ok (.istore 6, 2) := by decide +kernel
theorem dX2_laySide_38 : decode cX2_laySide 38 = .ok (.iload 6, 2) := by decide +kernel
theorem dX2_laySide_40 : decode cX2_laySide 40 = .ok (.aload_n 0, 1) := by decide +kernel
theorem dX2_laySide_41 : decode cX2_laySide 41 = .ok (.getfield 15, 3) := by decide +kernel
theorem dX2_laySide_44 : decode cX2_laySide 44 = .ok (.iload_n 3, 1) := by decide +kernel
theorem dX2_laySide_45 : decode cX2_laySide 45 = .ok (.iaload, 1) := by decide +kernel
theorem dX2_laySide_46 : decode cX2_laySide 46 = .ok (.if_icmp .ge 58, 3) := by decide +kernel
theorem dX2_laySide_49 : decode cX2_laySide 49 = .ok (.iconst 2, 1) := by decide +kernel
theorem dX2_laySide_50 : decode cX2_laySide 50 = .ok (.iload 4, 2) := by decide +kernel
theorem dX2_laySide_52 : decode cX2_laySide 52 = .ok (.imul, 1) := by decide +kernel
theorem dX2_laySide_53 : decode cX2_laySide 53 = .ok (.aload_n 0, 1) := by decide +kernel
theorem dX2_laySide_54 : decode cX2_laySide 54 = .ok (.getfield 9, 3) := by decide +kernel
theorem dX2_laySide_57 : decode cX2_laySide 57 = .ok (.iload_n 2, 1) := by decide +kernel
theorem dX2_laySide_58 : decode cX2_laySide 58 = .ok (.iaload, 1) := by decide +kernel
theorem dX2_laySide_59 : decode cX2_laySide 59 = .ok (.imul, 1) := by decide +kernel
theorem dX2_laySide_60 : decode cX2_laySide 60 = .ok (.iconst 2, 1) := by decide +kernel
theorem dX2_laySide_61 : decode cX2_laySide 61 = .ok (.iload 6, 2) := by decide +kernel
theorem dX2_laySide_63 : decode cX2_laySide 63 = .ok (.aload_n 0, 1) := by decide +kernel
theorem dX2_laySide_64 : decode cX2_laySide 64 = .ok (.getfield 15, 3) := by decide +kernel
theorem dX2_laySide_67 : decode cX2_laySide 67 = .ok (.iload_n 2, 1) := by decide +kernel
theorem dX2_laySide_68 : decode cX2_laySide 68 = .ok (.iaload, 1) := by decide +kernel
theorem dX2_laySide_69 : decode cX2_laySide 69 = .ok (.isub, 1) := by decide +kernel
theorem dX2_laySide_70 : decode cX2_laySide 70 = .ok (.imul, 1) := by decide +kernel
theorem dX2_laySide_71 : decode cX2_laySide 71 = .ok (.iconst 1, 1) := by decide +kernel
theorem dX2_laySide_72 : decode cX2_laySide 72 = .ok (.iadd, 1) := by decide +kernel
theorem dX2_laySide_73 : decode cX2_laySide 73 = .ok (.iload 5, 2) := by decide +kernel
theorem dX2_laySide_75 : decode cX2_laySide 75 = .ok (.imul, 1) := by decide +kernel
theorem dX2_laySide_76 : decode cX2_laySide 76 = .ok (.iadd, 1) := by decide +kernel
theorem dX2_laySide_77 : decode cX2_laySide 77 = .ok (.istore 7, 2) := by decide +kernel
theorem dX2_laySide_79 : decode cX2_laySide 79 = .ok (.aload_n 1, 1) := by decide +kernel
theorem dX2_laySide_80 : decode cX2_laySide 80 = .ok (.iload 6, 2) := by decide +kernel
theorem dX2_laySide_82 : decode cX2_laySide 82 = .ok (.iload 4, 2) := by decide +kernel
theorem dX2_laySide_84 : decode cX2_laySide 84 = .ok (.iload 7, 2) := by decide +kernel
theorem dX2_laySide_86 : decode cX2_laySide 86 = .ok (.isub, 1) := by decide +kernel
theorem dX2_laySide_87 : decode cX2_laySide 87 = .ok (.iconst 2, 1) := by decide +kernel
theorem dX2_laySide_88 : decode cX2_laySide 88 = .ok (.iload 4, 2) := by decide +kernel
theorem dX2_laySide_90 : decode cX2_laySide 90 = .ok (.imul, 1) := by decide +kernel
theorem dX2_laySide_91 : decode cX2_laySide 91 = .ok (.invokestatic 31, 3) := by decide +kernel
theorem dX2_laySide_94 : decode cX2_laySide 94 = .ok (.ineg, 1) := by decide +kernel
theorem dX2_laySide_95 : decode cX2_laySide 95 = .ok (.invokevirtual 37, 3) := by decide +kernel
theorem dX2_laySide_98 : decode cX2_laySide 98 = .ok (.iinc 6 1, 3) := by decide +kernel
theorem dX2_laySide_101 : decode cX2_laySide 101 = .ok (.goto (-63), 3) := by decide +kernel
theorem dX2_laySide_104 : decode cX2_laySide 104 = .ok (.return_, 1) := by decide +kernel
end
section
theorem dX3_init_0 : decode cX3_init 0 = .ok (.aload_n 0, 1) := by decide +kernel
theorem dX3_init_1 : decode cX3_init 1 = .ok (.invokespecial 3, 3) := by decide +kernel
theorem dX3_init_4 : decode cX3_init 4 = .ok (.return_, 1) := by decide +kernel
theorem dX3_begin_0 : decode cX3_begin 0 = .ok (.aload_n 0, 1) := by decide +kernel
theorem dX3_begin_1 : decode cX3_begin 1 = .ok (.iconst 0, 1) := by decide +kernel
theorem dX3_begin_2 : decode cX3_begin 2 = .ok (.putfield 9, 3) := by decide +kernel
theorem dX3_begin_5 : decode cX3_begin 5 = .ok (.aload_n 0, 1) := by decide +kernel
theorem dX3_begin_6 : decode cX3_begin 6 = .ok (.iconst 0, 1) := by decide +kernel
theorem dX3_begin_7 : decode cX3_begin 7 = .ok (.putfield 15, 3) := by decide +kernel
theorem dX3_begin_10 : decode cX3_begin 10 = .ok (.aload_n 0, 1) := by decide +kernel
theorem dX3_begin_11 : decode cX3_begin 11 = .ok (.sipush (-201), 3) := by decide +kernel
theorem dX3_begin_14 : decode cX3_begin 14 = .ok (.putfield 18, 3) := by decide +kernel
theorem dX3_begin_17 : decode cX3_begin 17 = .ok (.aload_n 0, 1) := by decide +kernel
theorem dX3_begin_18 : decode cX3_begin 18 = .ok (.iload_n 1, 1) := by decide +kernel
theorem dX3_begin_19 : decode cX3_begin 19 = .ok (.putfield 21, 3) := by decide +kernel
theorem dX3_begin_22 : decode cX3_begin 22 = .ok (.return_, 1) := by decide +kernel
theorem dX3_putPair_0 : decode cX3_putPair 0 = .ok (.aload_n 0, 1) := by decide +kernel
theorem dX3_putPair_1 : decode cX3_putPair 1 = .ok (.iload_n 1, 1) := by decide +kernel
theorem dX3_putPair_2 : decode cX3_putPair 2 = .ok (.invokevirtual 24, 3) := by decide +kernel
theorem dX3_putPair_5 : decode cX3_putPair 5 = .ok (.aload_n 0, 1) := by decide +kernel
theorem dX3_putPair_6 : decode cX3_putPair 6 = .ok (.bipush 46, 2) := by decide +kernel
theorem dX3_putPair_8 : decode cX3_putPair 8 = .ok (.invokevirtual 28, 3) := by decide +kernel
theorem dX3_putPair_11 : decode cX3_putPair 11 = .ok (.aload_n 0, 1) := by decide +kernel
theorem dX3_putPair_12 : decode cX3_putPair 12 = .ok (.iload_n 2, 1) := by decide +kernel
theorem dX3_putPair_13 : decode cX3_putPair 13 = .ok (.invokevirtual 24, 3) := by decide +kernel
theorem dX3_putPair_16 : decode cX3_putPair 16 = .ok (.aload_n 0, 1) := by decide +kernel
theorem dX3_putPair_17 : decode cX3_putPair 17 = .ok (.iload_n 3, 1) := by decide +kernel
theorem dX3_putPair_18 : decode cX3_putPair 18 = .ok (.invokevirtual 28, 3) := by decide +kernel
theorem dX3_putPair_21 : decode cX3_putPair 21 = .ok (.return_, 1) := by decide +kernel
theorem dX3_putNumber_0 : decode cX3_putNumber 0 = .ok (.iload_n 1, 1) := by decide +kernel
theorem dX3_putNumber_1 : decode cX3_putNumber 1 = .ok (.invokestatic 32, 3) := by decide +kernel
theorem dX3_putNumber_4 : decode cX3_putNumber 4 = .ok (.istore_n 2, 1) := by decide +kernel
theorem dX3_putNumber_5 : decode cX3_putNumber 5 = .ok (.iload_n 1, 1) := by decide +kernel
theorem dX3_putNumber_6 : decode cX3_putNumber 6 = .ok (.ifCond .ge 9, 3) := by decide +kernel
theorem dX3_putNumber_9 : decode cX3_putNumber 9 = .ok (.aload_n 0, 1) := by decide +kernel
theorem dX3_putNumber_10 : decode cX3_putNumber 10 = .ok (.bipush 45, 2) := by decide +kernel
theorem dX3_putNumber_12 : decode cX3_putNumber 12 = .ok (.invokevirtual 28, 3) := by decide +kernel
theorem dX3_putNumber_15 : decode cX3_putNumber 15 = .ok (.iload_n 2, 1) := by decide +kernel
theorem dX3_putNumber_16 : decode cX3_putNumber 16 = .ok (.bipush 10, 2) := by decide +kernel
theorem dX3_putNumber_18 : decode cX3_putNumber 18 = .ok (.if_icmp .lt 15, 3) := by decide +kernel
theorem dX3_putNumber_21 : decode cX3_putNumber 21 = .ok (.aload_n 0, 1) := by decide +kernel
theorem dX3_putNumber_22 : decode cX3_putNumber 22 = .ok (.bipush 48, 2) := by decide +kernel
theorem dX3_putNumber_24 : decode cX3_putNumber 24 = .ok (.iload_n 2, 1) := by decide +kernel
theorem dX3_putNumber_25 : decode cX3_putNumber 25 = .ok (.bipush 10, 2) := by decide +kernel
theorem dX3_putNumber_27 : decode cX3_putNumber 27 = .ok (.idiv, 1) := by decide +kernel
theorem dX3_putNumber_28 : decode cX3_putNumber 28 = .ok (.iadd, 1) := by decide +kernel
theorem dX3_putNumber_29 : decode cX3_putNumber 29 = .ok (.i2c, 1) := by decide +kernel
theorem dX3_putNumber_30 : decode cX3_putNumber 30 = .ok (.invokevirtual 28, 3) := by decide +kernel
theorem dX3_putNumber_33 : decode cX3_putNumber 33 = .ok (.aload_n 0, 1) := by decide +kernel
theorem dX3_putNumber_34 : decode cX3_putNumber 34 = .ok (.bipush 48, 2) := by decide +kernel
theorem dX3_putNumber_36 : decode cX3_putNumber 36 = .ok (.iload_n 2, 1) := by decide +kernel
theorem dX3_putNumber_37 : decode cX3_putNumber 37 = .ok (.bipush 10, 2) := by decide +kernel
theorem dX3_putNumber_39 : decode cX3_putNumber 39 = .ok (.irem, 1) := by decide +kernel
theorem dX3_putNumber_40 : decode cX3_putNumber 40 = .ok (.iadd, 1) := by decide +kernel
theorem dX3_putNumber_41 : decode cX3_putNumber 41 = .ok (.i2c, 1) := by decide +kernel
theorem dX3_putNumber_42 : decode cX3_putNumber 42 = .ok (.invokevirtual 28, 3) := by decide +kernel
theorem dX3_putNumber_45 : decode cX3_putNumber 45 = .ok (.return_, 1) := by decide +kernel
theorem dX3_put_0 : decode cX3_put 0 = .ok (.aload_n 0, 1) := by decide +kernel
theorem dX3_put_1 : decode cX3_put 1 = .ok (.getfield 9, 3) := by decide +kernel
theorem dX3_put_4 : decode cX3_put 4 = .ok (.aload_n 0, 1) := by decide +kernel
theorem dX3_put_5 : decode cX3_put 5 = .ok (.getfield 21, 3) := by decide +kernel
theorem dX3_put_8 : decode cX3_put 8 = .ok (.if_icmp .ne 8, 3) := by decide +kernel
theorem dX3_put_11 : decode cX3_put 11 = .ok (.aload_n 0, 1) := by decide +kernel
theorem dX3_put_12 : decode cX3_put 12 = .ok (.iload_n 1, 1) := by decide +kernel
theorem dX3_put_13 : decode cX3_put 13 = .ok (.putfield 18, 3) := by decide +kernel
theorem dX3_put_16 : decode cX3_put 16 = .ok (.aload_n 0, 1) := by decide +kernel
theorem dX3_put_17 : decode cX3_put 17 = .ok (.dup, 1) := by decide +kernel
theorem dX3_put_18 : decode cX3_put 18 = .ok (.getfield 9, 3) := by decide +kernel
theorem dX3_put_21 : decode cX3_put 21 = .ok (.iconst 1, 1) := by decide +kernel
theorem dX3_put_22 : decode cX3_put 22 = .ok (.iadd, 1) := by decide +kernel
theorem dX3_put_23 : decode cX3_put 23 = .ok (.putfield 9, 3) := by decide +kernel
theorem dX3_put_26 : decode cX3_put 26 = .ok (.aload_n 0, 1) := by decide +kernel
theorem dX3_put_27 : decode cX3_put 27 = .ok (.bipush 31, 2) := by decide +kernel
theorem dX3_put_29 : decode cX3_put 29 = .ok (.aload_n 0, 1) := by decide +kernel
theorem dX3_put_30 : decode cX3_put 30 = .ok (.getfield 15, 3) := by decide +kernel
theorem dX3_put_33 : decode cX3_put 33 = .ok (.imul, 1) := by decide +kernel
theorem dX3_put_34 : decode cX3_put 34 = .ok (.iload_n 1, 1) := by decide +kernel
theorem dX3_put_35 : decode cX3_put 35 = .ok (.iadd, 1) := by decide +kernel
theorem dX3_put_36 : decode cX3_put 36 = .ok (.putfield 15, 3) := by decide +kernel
theorem dX3_put_39 : decode cX3_put 39 = .ok (.return_, 1) := by decide +kernel
theorem dX4_init_0 : decode cX4_init 0 = .ok (.aload_n 0, 1) := by decide +kernel
theorem dX4_init_1 : decode cX4_init 1 = .ok (.invokespecial 3, 3) := by decide +kernel
theorem dX4_init_4 : decode cX4_init 4 = .ok (.aload_n 0, 1) := by decide +kernel
theorem dX4_init_5 : decode cX4_init 5 = .ok (.bipush 120, 2) := by decide +kernel
theorem dX4_init_7 : decode cX4_init 7 = .ok (.newarray .byte, 2) := by decide +kernel
theorem dX4_init_9 : decode cX4_init 9 = .ok (.putfield 9, 3) := by decide +kernel
theorem dX4_init_12 : decode cX4_init 12 = .ok (.aload_n 0, 1) := by decide +kernel
theorem dX4_init_13 : decode cX4_init 13 = .ok (.sipush 144, 3) := by decide +kernel
theorem dX4_init_16 : decode cX4_init 16 = .ok (.newarray .int, 2) := by decide +kernel
theorem dX4_init_18 : decode cX4_init 18 = .ok (.putfield 15, 3) := by decide +kernel
theorem dX4_init_21 : decode cX4_init 21 = .ok (.return_, 1) := by decide +kernel
theorem dX4_add_0 : decode cX4_add 0 = .ok (.aload_n 0, 1) := by decide +kernel
theorem dX4_add_1 : decode cX4_add 1 = .ok (.getfield 19, 3) := by decide +kernel
theorem dX4_add_4 : decode cX4_add 4 = .ok (.bipush 120, 2) := by decide +kernel
theorem dX4_add_6 : decode cX4_add 6 = .ok (.if_icmp .lt 5, 3) := by decide +kernel
theorem dX4_add_9 : decode cX4_add 9 = .ok (.iconst 0, 1) := by decide +kernel
theorem dX4_add_10 : decode cX4_add 10 = .ok (.ireturn, 1) := by decide +kernel
theorem dX4_add_11 : decode cX4_add 11 = .ok (.aload_n 0, 1) := by decide +kernel
theorem dX4_add_12 : decode cX4_add 12 = .ok (.getfield 9, 3) := by decide +kernel
theorem dX4_add_15 : decode cX4_add 15 = .ok (.aload_n 0, 1) := by decide +kernel
theorem dX4_add_16 : decode cX4_add 16 = .ok (.getfield 19, 3) := by decide +kernel
theorem dX4_add_19 : decode cX4_add 19 = .ok (.iload_n 1, 1) := by decide +kernel
theorem dX4_add_20 : decode cX4_add 20 = .ok (.i2b, 1) := by decide +kernel
theorem dX4_add_21 : decode cX4_add 21 = .ok (.bastore, 1) := by decide +kernel
theorem dX4_add_22 : decode cX4_add 22 = .ok (.aload_n 0, 1) := by decide +kernel
theorem dX4_add_23 : decode cX4_add 23 = .ok (.dup, 1) := by decide +kernel
theorem dX4_add_24 : decode cX4_add 24 = .ok (.getfield 19, 3) := by decide +kernel
theorem dX4_add_27 : decode cX4_add 27 = .ok (.iconst 1, 1) := by decide +kernel
theorem dX4_add_28 : decode cX4_add 28 = .ok (.iadd, 1) := by decide +kernel
theorem dX4_add_29 : decode cX4_add 29 = .ok (.putfield 19, 3) := by decide +kernel
theorem dX4_add_32 : decode cX4_add 32 = .ok (.iconst 1, 1) := by decide +kernel
theorem dX4_add_33 : decode cX4_add 33 = .ok (.ireturn, 1) := by decide +kernel
theorem dX4_areaOf_0 : decode cX4_areaOf 0 = .ok (.aload_n 0, 1) := by decide +kernel
theorem dX4_areaOf_1 : decode cX4_areaOf 1 = .ok (.getfield 15, 3) := by decide +kernel
theorem dX4_areaOf_4 : decode cX4_areaOf 4 = .ok (.iload_n 1, 1) := by decide +kernel
theorem dX4_areaOf_5 : decode cX4_areaOf 5 = .ok (.bipush 6, 2) := by decide +kernel
theorem dX4_areaOf_7 : decode cX4_areaOf 7 = .ok (.imul, 1) := by decide +kernel
theorem dX4_areaOf_8 : decode cX4_areaOf 8 = .ok (.iaload, 1) := by decide +kernel
theorem dX4_areaOf_9 : decode cX4_areaOf 9 = .ok (.ireturn, 1) := by decide +kernel
theorem dX4_wordOf_0 : decode cX4_wordOf 0 = .ok (.aload_n 0, 1) := by decide +kernel
theorem dX4_wordOf_1 : decode cX4_wordOf 1 = .ok (.getfield 15, 3) := by decide +kernel
theorem dX4_wordOf_4 : decode cX4_wordOf 4 = .ok (.iload_n 1, 1) := by decide +kernel
theorem dX4_wordOf_5 : decode cX4_wordOf 5 = .ok (.bipush 6, 2) := by decide +kernel
theorem dX4_wordOf_7 : decode cX4_wordOf 7 = .ok (.imul, 1) := by decide +kernel
theorem dX4_wordOf_8 : decode cX4_wordOf 8 = .ok (.iconst 1, 1) := by decide +kernel
theorem dX4_wordOf_9 : decode cX4_wordOf 9 = .ok (.iadd, 1) := by decide +kernel
theorem dX4_wordOf_10 : decode cX4_wordOf 10 = .ok (.iaload, 1) := by decide +kernel
theorem dX4_wordOf_11 : decode cX4_wordOf 11 = .ok (.ireturn, 1) := by decide +kernel
theorem dX4_numberOf_0 : decode cX4_numberOf 0 = .ok (.aload_n 0, 1) := by decide +kernel
theorem dX4_numberOf_1 : decode cX4_numberOf 1 = .ok (.getfield 15, 3) := by decide +kernel
theorem dX4_numberOf_4 : decode cX4_numberOf 4 = .ok (.iload_n 1, 1) := by decide +kernel
theorem dX4_numberOf_5 : decode cX4_numberOf 5 = .ok (.bipush 6, 2) := by decide +kernel
theorem dX4_numberOf_7 : decode cX4_numberOf 7 = .ok (.imul, 1) := by decide +kernel
theorem dX4_numberOf_8 : decode cX4_numberOf 8 = .ok (.iconst 2, 1) := by decide +kernel
theorem dX4_numberOf_9 : decode cX4_numberOf 9 = .ok (.iadd, 1) := by decide +kernel
theorem dX4_numberOf_10 : decode cX4_numberOf 10 = .ok (.iload_n 2, 1) := by decide +kernel
theorem dX4_numberOf_11 : decode cX4_numberOf 11 = .ok (.iadd, 1) := by decide +kernel
theorem dX4_numberOf_12 : decode cX4_numberOf 12 = .ok (.iaload, 1) := by decide +kernel
theorem dX4_numberOf_13 : decode cX4_numberOf 13 = .ok (.ireturn, 1) := by decide +kernel
theorem dX4_parse_0 : decode cX4_parse 0 = .ok (.aload_n 0, 1) := by decide +kernel
theorem dX4_parse_1 : decode cX4_parse 1 = .ok (.iconst 0, 1) := by decide +kernel
theorem dX4_parse_2 : decode cX4_parse 2 = .ok (.putfield 23, 3) := by decide +kernel
theorem dX4_parse_5 : decode cX4_parse 5 = .ok (.aload_n 0, 1) := by decide +kernel
theorem dX4_parse_6 : decode cX4_parse 6 = .ok (.iconst 0, 1) := by decide +kernel
theorem dX4_parse_7 : decode cX4_parse 7 = .ok (.putfield 26, 3) := by decide +kernel
theorem dX4_parse_10 : decode cX4_parse 10 = .ok (.aload_n 0, 1) := by decide +kernel
theorem dX4_parse_11 : decode cX4_parse 11 = .ok (.invokevirtual 29, 3) := by decide +kernel
theorem dX4_parse_14 : decode cX4_parse 14 = .ok (.aload_n 0, 1) := by decide +kernel
theorem dX4_parse_15 : decode cX4_parse 15 = .ok (.getfield 32, 3) := by decide +kernel
theorem dX4_parse_18 : decode cX4_parse 18 = .ok (.ifCond .ne 8, 3) := by decide +kernel
theorem dX4_parse_21 : decode cX4_parse 21 = .ok (.aload_n 0, 1) := by decide +kernel
theorem dX4_parse_22 : decode cX4_parse 22 = .ok (.getfield 35, 3) := by decide +kernel
theorem dX4_parse_25 : decode cX4_parse 25 = .ok (.ireturn, 1) := by decide +kernel
theorem dX4_parse_26 : decode cX4_parse 26 = .ok (.aload_n 0, 1) := by decide +kernel
theorem dX4_parse_27 : decode cX4_parse 27 = .ok (.getfield 32, 3) := by decide +kernel
theorem dX4_parse_30 : decode cX4_parse 30 = .ok (.ifCond .eq 48, 3) := by decide +kernel
theorem dX4_parse_33 : decode cX4_parse 33 = .ok (.aload_n 0, 1) := by decide +kernel
theorem dX4_parse_34 : decode cX4_parse 34 = .ok (.getfield 23, 3) := by decide +kernel
theorem dX4_parse_37 : decode cX4_parse 37 = .ok (.bipush 24, 2) := by decide +kernel
theorem dX4_parse_39 : decode cX4_parse 39 = .ok (.if_icmp .ge 39, 3) := by decide +kernel
theorem dX4_parse_42 : decode cX4_parse 42 = .ok (.aload_n 0, 1) := by decide +kernel
theorem dX4_parse_43 : decode cX4_parse 43 = .ok (.aload_n 0, 1) := by decide +kernel
theorem dX4_parse_44 : decode cX4_parse 44 = .ok (.getfield 23, 3) := by decide +kernel
theorem dX4_parse_47 : decode cX4_parse 47 = .ok (.bipush 6, 2) := by decide +kernel
theorem dX4_parse_49 : decode cX4_parse 49 = .ok (.imul, 1) := by decide +kernel
theorem dX4_parse_50 : decode cX4_parse 50 = .ok (.invokevirtual 38, 3) := by decide +kernel
theorem dX4_parse_53 : decode cX4_parse 53 = .ok (.ifCond .ne 8, 3) := by decide +kernel
theorem dX4_parse_56 : decode cX4_parse 56 = .ok (.aload_n 0, 1) := by decide +kernel
theorem dX4_parse_57 : decode cX4_parse 57 = .ok (.getfield 35, 3) := by decide +kernel
theorem dX4_parse_60 : decode cX4_parse 60 = .ok (.ireturn, 1) := by decide +kernel
theorem dX4_parse_61 : decode cX4_parse 61 = .ok (.aload_n 0, 1) := by decide +kernel
theorem dX4_parse_62 : decode cX4_parse 62 = .ok (.dup, 1) := by decide +kernel
theorem dX4_parse_63 : decode cX4_parse 63 = .ok (.getfield 23, 3) := by decide +kernel
theorem dX4_parse_66 : decode cX4_parse 66 = .ok (.iconst 1, 1) := by decide +kernel
theorem dX4_parse_67 : decode cX4_parse 67 = .ok (.iadd, 1) := by decide +kernel
theorem dX4_parse_68 : decode cX4_parse 68 = .ok (.putfield 23, 3) := by decide +kernel
theorem dX4_parse_71 : decode cX4_parse 71 = .ok (.aload_n 0, 1) := by decide +kernel
theorem dX4_parse_72 : decode cX4_parse 72 = .ok (.invokevirtual 29, 3) := by decide +kernel
theorem dX4_parse_75 : decode cX4_parse 75 = .ok (.goto (-49), 3) := by decide +kernel
theorem dX4_parse_78 : decode cX4_parse 78 = .ok (.iconst (-1), 1) := by decide +kernel
theorem dX4_parse_79 : decode cX4_parse 79 = .ok (.ireturn, 1) := by decide +kernel
theorem dX4_readSentence_0 : decode cX4_readSentence 0 = .ok (.aload_n 0, 1) := by decide +kernel
theorem dX4_readSentence_1 : decode cX4_readSentence 1 = .ok (.iconst 0, 1) := by decide +kernel
theorem dX4_readSentence_2 : decode cX4_readSentence 2 = .ok (.iconst 4, 1) := by decide +kernel
theorem dX4_readSentence_3 : decode cX4_readSentence 3 = .ok (.invokevirtual 42, 3) := by decide +kernel
theorem dX4_readSentence_6 : decode cX4_readSentence 6 = .ok (.ifCond .ne 5, 3) := by decide +kernel
theorem dX4_readSentence_9 : decode cX4_readSentence 9 = .ok (.iconst 0, 1) := by decide +kernel
theorem dX4_readSentence_10 : decode cX4_readSentence 10 = .ok (.ireturn, 1) := by decide +kernel
theorem dX4_readSentence_11 : decode cX4_readSentence 11 = .ok (.aload_n 0, 1) := by decide +kernel
theorem dX4_readSentence_12 : decode cX4_readSentence 12 = .ok (.getfield 15, 3) := by decide +kernel
theorem dX4_readSentence_15 : decode cX4_readSentence 15 = .ok (.iload_n 1, 1) := by decide +kernel
theorem dX4_readSentence_16 : decode cX4_readSentence 16 = .ok (.aload_n 0, 1) := by decide +kernel
theorem dX4_readSentence_17 : decode cX4_readSentence 17 = .ok (.getfield 46, 3) := by decide +kernel
theorem dX4_readSentence_20 : decode cX4_readSentence 20 = .ok (.iastore, 1) := by decide +kernel
theorem dX4_readSentence_21 : decode cX4_readSentence 21 = .ok (.aload_n 0, 1) := by decide +kernel
theorem dX4_readSentence_22 : decode cX4_readSentence 22 = .ok (.invokevirtual 29, 3) := by decide +kernel
theorem dX4_readSentence_25 : decode cX4_readSentence 25 = .ok (.aload_n 0, 1) := by decide +kernel
theorem dX4_readSentence_26 : decode cX4_readSentence 26 = .ok (.getfield 32, 3) := by decide +kernel
theorem dX4_readSentence_29 : decode cX4_readSentence 29 = .ok (.iconst 1, 1) := by decide +kernel
theorem dX4_readSentence_30 : decode cX4_readSentence 30 = .ok (.if_icmp .eq 5, 3) := by decide +kernel
theorem dX4_readSentence_33 : decode cX4_readSentence 33 = .ok (.iconst 0, 1) := by decide +kernel
theorem dX4_readSentence_34 : decode cX4_readSentence 34 = .ok (.ireturn, 1) := by decide +kernel
theorem dX4_readSentence_35 : decode cX4_readSentence 35 = .ok (.aload_n 0, 1) := by decide +kernel
theorem dX4_readSentence_36 : decode cX4_readSentence 36 = .ok (.getfield 46, 3) := by decide +kernel
theorem dX4_readSentence_39 : decode cX4_readSentence 39 = .ok (.istore_n 2, 1) := by decide +kernel
theorem dX4_readSentence_40 : decode cX4_readSentence 40 = .ok (.aload_n 0, 1) := by decide +kernel
theorem dX4_readSentence_41 : decode cX4_readSentence 41 = .ok (.getfield 15, 3) := by decide +kernel
theorem dX4_readSentence_44 : decode cX4_readSentence 44 = .ok (.iload_n 1, 1) := by decide +kernel
theorem dX4_readSentence_45 : decode cX4_readSentence 45 = .ok (.iconst 1, 1) := by decide +kernel
theorem dX4_readSentence_46 : decode cX4_readSentence 46 = .ok (.iadd, 1) := by decide +kernel
theorem dX4_readSentence_47 : decode cX4_readSentence 47 = .ok (.iload_n 2, 1) := by decide +kernel
theorem dX4_readSentence_48 : decode cX4_readSentence 48 = .ok (.iastore, 1) := by decide +kernel
theorem dX4_readSentence_49 : decode cX4_readSentence 49 = .ok (.iload_n 2, 1) := by decide +kernel
theorem dX4_readSentence_50 : decode cX4_readSentence 50 = .ok (.invokestatic 49, 3) := by decide +kernel
theorem dX4_readSentence_53 : decode cX4_readSentence 53 = .ok (.istore_n 3, 1) := by decide +kernel
theorem dX4_readSentence_54 : decode cX4_readSentence 54 = .ok (.iconst 0, 1) := by decide +kernel
theorem dX4_readSentence_55 : decode cX4_readSentence 55 = .ok (.istore 4, 2) := by decide +kernel
theorem dX4_readSentence_57 : decode cX4_readSentence 57 = .ok (.iload 4, 2) := by decide +kernel
theorem dX4_readSentence_59 : decode cX4_readSentence 59 = .ok (.iload_n 3, 1) := by decide +kernel
theorem dX4_readSentence_60 : decode cX4_readSentence 60 = .ok (.if_icmp .ge 49, 3) := by decide +kernel
theorem dX4_readSentence_63 : decode cX4_readSentence 63 = .ok (.aload_n 0, 1) := by decide +kernel
theorem dX4_readSentence_64 : decode cX4_readSentence 64 = .ok (.invokevirtual 29, 3) := by decide +kernel
theorem dX4_readSentence_67 : decode cX4_readSentence 67 = .ok (.aload_n 0, 1) := by decide +kernel
theorem dX4_readSentence_68 : decode cX4_readSentence 68 = .ok (.iload_n 2, 1) := by decide +kernel
theorem dX4_readSentence_69 : decode cX4_readSentence 69 = .ok (.iload 4, 2) := by decide +kernel
theorem dX4_readSentence_71 : decode cX4_readSentence 71 = .ok (.invokestatic 53, 3) := by decide +kernel
theorem dX4_readSentence_74 : decode cX4_readSentence 74 = .ok (.iload_n 2, 1) := by decide +kernel
theorem dX4_readSentence_75 : decode cX4_readSentence 75 = .ok (.iload 4, 2) := by decide +kernel
theorem dX4_readSentence_77 : decode cX4_readSentence 77 = .ok (.invokestatic 57, 3) := by decide +kernel
theorem dX4_readSentence_80 : decode cX4_readSentence 80 = .ok (.invokevirtual 42, 3) := by decide +kernel
theorem dX4_readSentence_83 : decode cX4_readSentence 83 = .ok (.ifCond .ne 5, 3) := by decide +kernel
theorem dX4_readSentence_86 : decode cX4_readSentence 86 = .ok (.iconst 0, 1) := by decide +kernel
theorem dX4_readSentence_87 : decode cX4_readSentence 87 = .ok (.ireturn, 1) := by decide +kernel
theorem dX4_readSentence_88 : decode cX4_readSentence 88 = .ok (.aload_n 0, 1) := by decide +kernel
theorem dX4_readSentence_89 : decode cX4_readSentence 89 = .ok (.getfield 15, 3) := by decide +kernel
theorem dX4_readSentence_92 : decode cX4_readSentence 92 = .ok (.iload_n 1, 1) := by decide +kernel
theorem dX4_readSentence_93 : decode cX4_readSentence 93 = .ok (.iconst 2, 1) := by decide +kernel
theorem dX4_readSentence_94 : decode cX4_readSentence 94 = .ok (.iadd, 1) := by decide +kernel
theorem dX4_readSentence_95 : decode cX4_readSentence 95 = .ok (.iload 4, 2) := by decide +kernel
theorem dX4_readSentence_97 : decode cX4_readSentence 97 = .ok (.iadd, 1) := by decide +kernel
theorem dX4_readSentence_98 : decode cX4_readSentence 98 = .ok (.aload_n 0, 1) := by decide +kernel
theorem dX4_readSentence_99 : decode cX4_readSentence 99 = .ok (.getfield 46, 3) := by decide +kernel
theorem dX4_readSentence_102 : decode cX4_readSentence 102 = .ok (.iastore, 1) := by decide +kernel
theorem dX4_readSentence_103 : decode cX4_readSentence 103 = .ok (.iinc 4 1, 3) := by decide +kernel
theorem dX4_readSentence_106 : decode cX4_readSentence 106 = .ok (.goto (-49), 3) := by decide +kernel
theorem dX4_readSentence_109 : decode cX4_readSentence 109 = .ok (.aload_n 0, 1) := by decide +kernel
theorem dX4_readSentence_110 : decode cX4_readSentence 110 = .ok (.invokevirtual 29, 3) := by decide +kernel
theorem dX4_readSentence_113 : decode cX4_readSentence 113 = .ok (.aload_n 0, 1) := by decide +kernel
theorem dX4_readSentence_114 : decode cX4_readSentence 114 = .ok (.getfield 32, 3) := by decide +kernel
theorem dX4_readSentence_117 : decode cX4_readSentence 117 = .ok (.iconst 3, 1) := by decide +kernel
theorem dX4_readSentence_118 : decode cX4_readSentence 118 = .ok (.if_icmp .ne 7, 3) := by decide +kernel
theorem dX4_readSentence_121 : decode cX4_readSentence 121 = .ok (.iconst 1, 1) := by decide +kernel
theorem dX4_readSentence_122 : decode cX4_readSentence 122 = .ok (.goto 4, 3) := by decide +kernel
theorem dX4_readSentence_125 : decode cX4_readSentence 125 = .ok (.iconst 0, 1) := by decide +kernel
theorem dX4_readSentence_126 : decode cX4_readSentence 126 = .ok (.ireturn, 1) := by decide +kernel
theorem dX4_isNumber_0 : decode cX4_isNumber 0 = .ok (.aload_n 0, 1) := by decide +kernel
theorem dX4_isNumber_1 : decode cX4_isNumber 1 = .ok (.getfield 32, 3) := by decide +kernel
theorem dX4_isNumber_4 : decode cX4_isNumber 4 = .ok (.iconst 2, 1) := by decide +kernel
theorem dX4_isNumber_5 : decode cX4_isNumber 5 = .ok (.if_icmp .ne 19, 3) := by decide +kernel
theorem dX4_isNumber_8 : decode cX4_isNumber 8 = .ok (.aload_n 0, 1) := by decide +kernel
theorem dX4_isNumber_9 : decode cX4_isNumber 9 = .ok (.getfield 46, 3) := by decide +kernel
theorem dX4_isNumber_12 : decode cX4_isNumber 12 = .ok (.iload_n 1, 1) := by decide +kernel
theorem dX4_isNumber_13 : decode cX4_isNumber 13 = .ok (.iload_n 2, 1) := by decide +kernel
theorem dX4_isNumber_14 : decode cX4_isNumber 14 = .ok (.invokestatic 60, 3) := by decide +kernel
theorem dX4_isNumber_17 : decode cX4_isNumber 17 = .ok (.ifCond .eq 7, 3) := by decide +kernel
theorem dX4_isNumber_20 : decode cX4_isNumber 20 = .ok (.iconst 1, 1) := by decide +kernel
theorem dX4_isNumber_21 : decode cX4_isNumber 21 = .ok (.goto 4, 3) := by decide +kernel
theorem dX4_isNumber_24 : decode cX4_isNumber 24 = .ok (.iconst 0, 1) := by decide +kernel
theorem dX4_isNumber_25 : decode cX4_isNumber 25 = .ok (.ireturn, 1) := by decide +kernel
theorem dX4_numbersOf_0 : decode cX4_numbersOf 0 = .ok (.iload_n 0, 1) := by decide +kernel
theorem dX4_numbersOf_1 : decode cX4_numbersOf 1 = .ok (.tableswitch 61 0 9 #[59, 55, 61, 59, 59, 59, 59, 57, 59, 59], 55) := by decide +kernel
theorem dX4_numbersOf_56 : decode cX4_numbersOf 56 = .ok (.iconst 4, 1) := by decide +kernel
theorem dX4_numbersOf_57 : decode cX4_numbersOf 57 = .ok (.ireturn, 1) := by decide +kernel
theorem dX4_numbersOf_58 : decode cX4_numbersOf 58 = .ok (.iconst 2, 1) := by decide +kernel
theorem dX4_numbersOf_59 : decode cX4_numbersOf 59 = .ok (.ireturn, 1) := by decide +kernel
theorem dX4_numbersOf_60 : decode cX4_numbersOf 60 = .ok (.iconst 1, 1) := by decide +kernel
theorem dX4_numbersOf_61 : decode cX4_numbersOf 61 = .ok (.ireturn, 1) := by decide +kernel
theorem dX4_numbersOf_62 : decode cX4_numbersOf 62 = .ok (.iconst 0, 1) := by decide +kernel
theorem dX4_numbersOf_63 : decode cX4_numbersOf 63 = .ok (.ireturn, 1) := by decide +kernel
theorem dX4_least_0 : decode cX4_least 0 = .ok (.iload_n 0, 1) := by decide +kernel
theorem dX4_least_1 : decode cX4_least 1 = .ok (.tableswitch 68 1 9 #[51, 68, 68, 68, 68, 68, 63, 66, 66], 51) := by decide +kernel
theorem dX4_least_52 : decode cX4_least 52 = .ok (.iload_n 1, 1) := by decide +kernel
theorem dX4_least_53 : decode cX4_least 53 = .ok (.iconst 2, 1) := by decide +kernel
theorem dX4_least_54 : decode cX4_least 54 = .ok (.if_icmp .ge 8, 3) := by decide +kernel
theorem dX4_least_57 : decode cX4_least 57 = .ok (.bipush (-60), 2) := by decide +kernel
theorem dX4_least_59 : decode cX4_least 59 = .ok (.goto 4, 3) := by decide +kernel
theorem dX4_least_62 : decode cX4_least 62 = .ok (.iconst 1, 1) := by decide +kernel
theorem dX4_least_63 : decode cX4_least 63 = .ok (.ireturn, 1) := by decide +kernel
theorem dX4_least_64 : decode cX4_least 64 = .ok (.bipush (-99), 2) := by decide +kernel
theorem dX4_least_66 : decode cX4_least 66 = .ok (.ireturn, 1) := by decide +kernel
theorem dX4_least_67 : decode cX4_least 67 = .ok (.iconst 1, 1) := by decide +kernel
theorem dX4_least_68 : decode cX4_least 68 = .ok (.ireturn, 1) := by decide +kernel
theorem dX4_least_69 : decode cX4_least 69 = .ok (.iconst 0, 1) := by decide +kernel
theorem dX4_least_70 : decode cX4_least 70 = .ok (.ireturn, 1) := by decide +kernel
theorem dX4_greatest_0 : decode cX4_greatest 0 = .ok (.iload_n 0, 1) := by decide +kernel
theorem dX4_greatest_1 : decode cX4_greatest 1 = .ok (.tableswitch 70 1 9 #[51, 70, 70, 70, 70, 70, 64, 67, 67], 51) := by decide +kernel
theorem dX4_greatest_52 : decode cX4_greatest 52 = .ok (.iload_n 1, 1) := by decide +kernel
theorem dX4_greatest_53 : decode cX4_greatest 53 = .ok (.iconst 2, 1) := by decide +kernel
theorem dX4_greatest_54 : decode cX4_greatest 54 = .ok (.if_icmp .ge 8, 3) := by decide +kernel
theorem dX4_greatest_57 : decode cX4_greatest 57 = .ok (.bipush 59, 2) := by decide +kernel
theorem dX4_greatest_59 : decode cX4_greatest 59 = .ok (.goto 5, 3) := by decide +kernel
theorem dX4_greatest_62 : decode cX4_greatest 62 = .ok (.bipush 99, 2) := by decide +kernel
theorem dX4_greatest_64 : decode cX4_greatest 64 = .ok (.ireturn, 1) := by decide +kernel
theorem dX4_greatest_65 : decode cX4_greatest 65 = .ok (.bipush 99, 2) := by decide +kernel
theorem dX4_greatest_67 : decode cX4_greatest 67 = .ok (.ireturn, 1) := by decide +kernel
theorem dX4_greatest_68 : decode cX4_greatest 68 = .ok (.bipush 9, 2) := by decide +kernel
theorem dX4_greatest_70 : decode cX4_greatest 70 = .ok (.ireturn, 1) := by decide +kernel
theorem dX4_greatest_71 : decode cX4_greatest 71 = .ok (.iconst 4, 1) := by decide +kernel
theorem dX4_greatest_72 : decode cX4_greatest 72 = .ok (.ireturn, 1) := by decide +kernel
theorem dX4_readNext_0 : decode cX4_readNext 0 = .ok (.aload_n 0, 1) := by decide +kernel
theorem dX4_readNext_1 : decode cX4_readNext 1 = .ok (.getfield 26, 3) := by decide +kernel
theorem dX4_readNext_4 : decode cX4_readNext 4 = .ok (.aload_n 0, 1) := by decide +kernel
theorem dX4_readNext_5 : decode cX4_readNext 5 = .ok (.getfield 19, 3) := by decide +kernel
theorem dX4_readNext_8 : decode cX4_readNext 8 = .ok (.if_icmp .ge 30, 3) := by decide +kernel
theorem dX4_readNext_11 : decode cX4_readNext 11 = .ok (.aload_n 0, 1) := by decide +kernel
theorem dX4_readNext_12 : decode cX4_readNext 12 = .ok (.getfield 9, 3) := by decide +kernel
theorem dX4_readNext_15 : decode cX4_readNext 15 = .ok (.aload_n 0, 1) := by decide +kernel
theorem dX4_readNext_16 : decode cX4_readNext 16 = .ok (.getfield 26, 3) := by decide +kernel
theorem dX4_readNext_19 : decode cX4_readNext 19 = .ok (.baload, 1) := by decide +kernel
theorem dX4_readNext_20 : decode cX4_readNext 20 = .ok (.bipush 32, 2) := by decide +kernel
theorem dX4_readNext_22 : decode cX4_readNext 22 = .ok (.if_icmp .ne 16, 3) := by decide +kernel
theorem dX4_readNext_25 : decode cX4_readNext 25 = .ok (.aload_n 0, 1) := by decide +kernel
theorem dX4_readNext_26 : decode cX4_readNext 26 = .ok (.dup, 1) := by decide +kernel
theorem dX4_readNext_27 : decode cX4_readNext 27 = .ok (.getfield 26, 3) := by decide +kernel
theorem dX4_readNext_30 : decode cX4_readNext 30 = .ok (.iconst 1, 1) := by decide +kernel
theorem dX4_readNext_31 : decode cX4_readNext 31 = .ok (.iadd, 1) := by decide +kernel
theorem dX4_readNext_32 : decode cX4_readNext 32 = .ok (.putfield 26, 3) := by decide +kernel
theorem dX4_readNext_35 : decode cX4_readNext 35 = .ok (.goto (-35), 3) := by decide +kernel
theorem dX4_readNext_38 : decode cX4_readNext 38 = .ok (.aload_n 0, 1) := by decide +kernel
theorem dX4_readNext_39 : decode cX4_readNext 39 = .ok (.aload_n 0, 1) := by decide +kernel
theorem dX4_readNext_40 : decode cX4_readNext 40 = .ok (.getfield 26, 3) := by decide +kernel
theorem dX4_readNext_43 : decode cX4_readNext 43 = .ok (.putfield 35, 3) := by decide +kernel
theorem dX4_readNext_46 : decode cX4_readNext 46 = .ok (.aload_n 0, 1) := by decide +kernel
theorem dX4_readNext_47 : decode cX4_readNext 47 = .ok (.getfield 26, 3) := by decide +kernel
theorem dX4_readNext_50 : decode cX4_readNext 50 = .ok (.aload_n 0, 1) := by decide +kernel
theorem dX4_readNext_51 : decode cX4_readNext 51 = .ok (.getfield 19, 3) := by decide +kernel
theorem dX4_readNext_54 : decode cX4_readNext 54 = .ok (.if_icmp .lt 11, 3) := by decide +kernel
theorem dX4_readNext_57 : decode cX4_readNext 57 = .ok (.aload_n 0, 1) := by decide +kernel
theorem dX4_readNext_58 : decode cX4_readNext 58 = .ok (.iconst 0, 1) := by decide +kernel
theorem dX4_readNext_59 : decode cX4_readNext 59 = .ok (.putfield 32, 3) := by decide +kernel
theorem dX4_readNext_62 : decode cX4_readNext 62 = .ok (.goto 86, 3) := by decide +kernel
theorem dX4_readNext_65 : decode cX4_readNext 65 = .ok (.aload_n 0, 1) := by decide +kernel
theorem dX4_readNext_66 : decode cX4_readNext 66 = .ok (.aload_n 0, 1) := by decide +kernel
theorem dX4_readNext_67 : decode cX4_readNext 67 = .ok (.getfield 26, 3) := by decide +kernel
theorem dX4_readNext_70 : decode cX4_readNext 70 = .ok (.invokevirtual 64, 3) := by decide +kernel
theorem dX4_readNext_73 : decode cX4_readNext 73 = .ok (.ifCond .eq 10, 3) := by decide +kernel
theorem dX4_readNext_76 : decode cX4_readNext 76 = .ok (.aload_n 0, 1) := by decide +kernel
theorem dX4_readNext_77 : decode cX4_readNext 77 = .ok (.invokevirtual 67, 3) := by decide +kernel
theorem dX4_readNext_80 : decode cX4_readNext 80 = .ok (.goto 68, 3) := by decide +kernel
theorem dX4_readNext_83 : decode cX4_readNext 83 = .ok (.aload_n 0, 1) := by decide +kernel
theorem dX4_readNext_84 : decode cX4_readNext 84 = .ok (.getfield 9, 3) := by decide +kernel
theorem dX4_readNext_87 : decode cX4_readNext 87 = .ok (.aload_n 0, 1) := by decide +kernel
theorem dX4_readNext_88 : decode cX4_readNext 88 = .ok (.getfield 26, 3) := by decide +kernel
theorem dX4_readNext_91 : decode cX4_readNext 91 = .ok (.baload, 1) := by decide +kernel
theorem dX4_readNext_92 : decode cX4_readNext 92 = .ok (.bipush 45, 2) := by decide +kernel
theorem dX4_readNext_94 : decode cX4_readNext 94 = .ok (.if_icmp .eq 14, 3) := by decide +kernel
theorem dX4_readNext_97 : decode cX4_readNext 97 = .ok (.aload_n 0, 1) := by decide +kernel
theorem dX4_readNext_98 : decode cX4_readNext 98 = .ok (.aload_n 0, 1) := by decide +kernel
theorem dX4_readNext_99 : decode cX4_readNext 99 = .ok (.getfield 26, 3) := by decide +kernel
theorem dX4_readNext_102 : decode cX4_readNext 102 = .ok (.invokevirtual 70, 3) := by decide +kernel
theorem dX4_readNext_105 : decode cX4_readNext 105 = .ok (.ifCond .eq 10, 3) := by decide +kernel
theorem dX4_readNext_108 : decode cX4_readNext 108 = .ok (.aload_n 0, 1) := by decide +kernel
theorem dX4_readNext_109 : decode cX4_readNext 109 = .ok (.invokevirtual 73, 3) := by decide +kernel
theorem dX4_readNext_112 : decode cX4_readNext 112 = .ok (.goto 36, 3) := by decide +kernel
theorem dX4_readNext_115 : decode cX4_readNext 115 = .ok (.aload_n 0, 1) := by decide +kernel
theorem dX4_readNext_116 : decode cX4_readNext 116 = .ok (.aload_n 0, 1) := by decide +kernel
theorem dX4_readNext_117 : decode cX4_readNext 117 = .ok (.getfield 9, 3) := by decide +kernel
theorem dX4_readNext_120 : decode cX4_readNext 120 = .ok (.aload_n 0, 1) := by decide +kernel
theorem dX4_readNext_121 : decode cX4_readNext 121 = .ok (.getfield 26, 3) := by decide +kernel
theorem dX4_readNext_124 : decode cX4_readNext 124 = .ok (.baload, 1) := by decide +kernel
theorem dX4_readNext_125 : decode cX4_readNext 125 = .ok (.bipush 59, 2) := by decide +kernel
theorem dX4_readNext_127 : decode cX4_readNext 127 = .ok (.if_icmp .ne 7, 3) := by decide +kernel
theorem dX4_readNext_130 : decode cX4_readNext 130 = .ok (.iconst 3, 1) := by decide +kernel
theorem dX4_readNext_131 : decode cX4_readNext 131 = .ok (.goto 4, 3) := by decide +kernel
theorem dX4_readNext_134 : decode cX4_readNext 134 = .ok (.iconst 4, 1) := by decide +kernel
theorem dX4_readNext_135 : decode cX4_readNext 135 = .ok (.putfield 32, 3) := by decide +kernel
theorem dX4_readNext_138 : decode cX4_readNext 138 = .ok (.aload_n 0, 1) := by decide +kernel
theorem dX4_readNext_139 : decode cX4_readNext 139 = .ok (.dup, 1) := by decide +kernel
theorem dX4_readNext_140 : decode cX4_readNext 140 = .ok (.getfield 26, 3) := by decide +kernel
theorem dX4_readNext_143 : decode cX4_readNext 143 = .ok (.iconst 1, 1) := by decide +kernel
theorem dX4_readNext_144 : decode cX4_readNext 144 = .ok (.iadd, 1) := by decide +kernel
theorem dX4_readNext_145 : decode cX4_readNext 145 = .ok (.putfield 26, 3) := by decide +kernel
theorem dX4_readNext_148 : decode cX4_readNext 148 = .ok (.return_, 1) := by decide +kernel
theorem dX4_readWord_0 : decode cX4_readWord 0 = .ok (.aload_n 0, 1) := by decide +kernel
theorem dX4_readWord_1 : decode cX4_readWord 1 = .ok (.getfield 26, 3) := by decide +kernel
theorem dX4_readWord_4 : decode cX4_readWord 4 = .ok (.aload_n 0, 1) := by decide +kernel
theorem dX4_readWord_5 : decode cX4_readWord 5 = .ok (.getfield 19, 3) := by decide +kernel
theorem dX4_readWord_8 : decode cX4_readWord 8 = .ok (.if_icmp .ge 27, 3) := by decide +kernel
theorem dX4_readWord_11 : decode cX4_readWord 11 = .ok (.aload_n 0, 1) := by decide +kernel
theorem dX4_readWord_12 : decode cX4_readWord 12 = .ok (.aload_n 0, 1) := by decide +kernel
theorem dX4_readWord_13 : decode cX4_readWord 13 = .ok (.getfield 26, 3) := by decide +kernel
theorem dX4_readWord_16 : decode cX4_readWord 16 = .ok (.invokevirtual 64, 3) := by decide +kernel
theorem dX4_readWord_19 : decode cX4_readWord 19 = .ok (.ifCond .eq 16, 3) := by decide +kernel
theorem dX4_readWord_22 : decode cX4_readWord 22 = .ok (.aload_n 0, 1) := by decide +kernel
theorem dX4_readWord_23 : decode cX4_readWord 23 = .ok (.dup, 1) := by decide +kernel
theorem dX4_readWord_24 : decode cX4_readWord 24 = .ok (.getfield 26, 3) := by decide +kernel
theorem dX4_readWord_27 : decode cX4_readWord 27 = .ok (.iconst 1, 1) := by decide +kernel
theorem dX4_readWord_28 : decode cX4_readWord 28 = .ok (.iadd, 1) := by decide +kernel
theorem dX4_readWord_29 : decode cX4_readWord 29 = .ok (.putfield 26, 3) := by decide +kernel
theorem dX4_readWord_32 : decode cX4_readWord 32 = .ok (.goto (-32), 3) := by decide +kernel
theorem dX4_readWord_35 : decode cX4_readWord 35 = .ok (.aload_n 0, 1) := by decide +kernel
theorem dX4_readWord_36 : decode cX4_readWord 36 = .ok (.iconst 0, 1) := by decide +kernel
theorem dX4_readWord_37 : decode cX4_readWord 37 = .ok (.putfield 46, 3) := by decide +kernel
theorem dX4_readWord_40 : decode cX4_readWord 40 = .ok (.aload_n 0, 1) := by decide +kernel
theorem dX4_readWord_41 : decode cX4_readWord 41 = .ok (.getfield 46, 3) := by decide +kernel
theorem dX4_readWord_44 : decode cX4_readWord 44 = .ok (.bipush 12, 2) := by decide +kernel
theorem dX4_readWord_46 : decode cX4_readWord 46 = .ok (.if_icmp .ge 27, 3) := by decide +kernel
theorem dX4_readWord_49 : decode cX4_readWord 49 = .ok (.aload_n 0, 1) := by decide +kernel
theorem dX4_readWord_50 : decode cX4_readWord 50 = .ok (.aload_n 0, 1) := by decide +kernel
theorem dX4_readWord_51 : decode cX4_readWord 51 = .ok (.getfield 46, 3) := by decide +kernel
theorem dX4_readWord_54 : decode cX4_readWord 54 = .ok (.invokevirtual 76, 3) := by decide +kernel
theorem dX4_readWord_57 : decode cX4_readWord 57 = .ok (.ifCond .ne 16, 3) := by decide +kernel
theorem dX4_readWord_60 : decode cX4_readWord 60 = .ok (.aload_n 0, 1) := by decide +kernel
theorem dX4_readWord_61 : decode cX4_readWord 61 = .ok (.dup, 1) := by decide +kernel
theorem dX4_readWord_62 : decode cX4_readWord 62 = .ok (.getfield 46, 3) := by decide +kernel
theorem dX4_readWord_65 : decode cX4_readWord 65 = .ok (.iconst 1, 1) := by decide +kernel
theorem dX4_readWord_66 : decode cX4_readWord 66 = .ok (.iadd, 1) := by decide +kernel
theorem dX4_readWord_67 : decode cX4_readWord 67 = .ok (.putfield 46, 3) := by decide +kernel
theorem dX4_readWord_70 : decode cX4_readWord 70 = .ok (.goto (-30), 3) := by decide +kernel
theorem dX4_readWord_73 : decode cX4_readWord 73 = .ok (.aload_n 0, 1) := by decide +kernel
theorem dX4_readWord_74 : decode cX4_readWord 74 = .ok (.aload_n 0, 1) := by decide +kernel
theorem dX4_readWord_75 : decode cX4_readWord 75 = .ok (.getfield 46, 3) := by decide +kernel
theorem dX4_readWord_78 : decode cX4_readWord 78 = .ok (.bipush 12, 2) := by decide +kernel
theorem dX4_readWord_80 : decode cX4_readWord 80 = .ok (.if_icmp .ge 7, 3) := by decide +kernel
theorem dX4_readWord_83 : decode cX4_readWord 83 = .ok (.iconst 1, 1) := by decide +kernel
theorem dX4_readWord_84 : decode cX4_readWord 84 = .ok (.goto 4, 3) := by decide +kernel
theorem dX4_readWord_87 : decode cX4_readWord 87 = .ok (.iconst 4, 1) := by decide +kernel
theorem dX4_readWord_88 : decode cX4_readWord 88 = .ok (.putfield 32, 3) := by decide +kernel
theorem dX4_readWord_91 : decode cX4_readWord 91 = .ok (.return_, 1) := by decide +kernel
theorem dX4_isWord_0 : decode cX4_isWord 0 = .ok (.aload_n 0, 1) := by decide +kernel
theorem dX4_isWord_1 : decode cX4_isWord 1 = .ok (.getfield 26, 3) := by decide +kernel
theorem dX4_isWord_4 : decode cX4_isWord 4 = .ok (.aload_n 0, 1) := by decide +kernel
theorem dX4_isWord_5 : decode cX4_isWord 5 = .ok (.getfield 35, 3) := by decide +kernel
theorem dX4_isWord_8 : decode cX4_isWord 8 = .ok (.isub, 1) := by decide +kernel
theorem dX4_isWord_9 : decode cX4_isWord 9 = .ok (.bipush 6, 2) := by decide +kernel
theorem dX4_isWord_11 : decode cX4_isWord 11 = .ok (.if_icmp .le 5, 3) := by decide +kernel
theorem dX4_isWord_14 : decode cX4_isWord 14 = .ok (.iconst 0, 1) := by decide +kernel
theorem dX4_isWord_15 : decode cX4_isWord 15 = .ok (.ireturn, 1) := by decide +kernel
theorem dX4_isWord_16 : decode cX4_isWord 16 = .ok (.iconst 0, 1) := by decide +kernel
theorem dX4_isWord_17 : decode cX4_isWord 17 = .ok (.istore_n 2, 1) := by decide +kernel
theorem dX4_isWord_18 : decode cX4_isWord 18 = .ok (.iload_n 2, 1) := by decide +kernel
theorem dX4_isWord_19 : decode cX4_isWord 19 = .ok (.bipush 6, 2) := by decide +kernel
theorem dX4_isWord_21 : decode cX4_isWord 21 = .ok (.if_icmp .ge 56, 3) := by decide +kernel
theorem dX4_isWord_24 : decode cX4_isWord 24 = .ok (.aload_n 0, 1) := by decide +kernel
theorem dX4_isWord_25 : decode cX4_isWord 25 = .ok (.getfield 35, 3) := by decide +kernel
theorem dX4_isWord_28 : decode cX4_isWord 28 = .ok (.iload_n 2, 1) := by decide +kernel
theorem dX4_isWord_29 : decode cX4_isWord 29 = .ok (.iadd, 1) := by decide +kernel
theorem dX4_isWord_30 : decode cX4_isWord 30 = .ok (.aload_n 0, 1) := by decide +kernel
theorem dX4_isWord_31 : decode cX4_isWord 31 = .ok (.getfield 26, 3) := by decide +kernel
theorem dX4_isWord_34 : decode cX4_isWord 34 = .ok (.if_icmp .ge 17, 3) := by decide +kernel
theorem dX4_isWord_37 : decode cX4_isWord 37 = .ok (.aload_n 0, 1) := by decide +kernel
theorem dX4_isWord_38 : decode cX4_isWord 38 = .ok (.getfield 9, 3) := by decide +kernel
theorem dX4_isWord_41 : decode cX4_isWord 41 = .ok (.aload_n 0, 1) := by decide +kernel
theorem dX4_isWord_42 : decode cX4_isWord 42 = .ok (.getfield 35, 3) := by decide +kernel
theorem dX4_isWord_45 : decode cX4_isWord 45 = .ok (.iload_n 2, 1) := by decide +kernel
theorem dX4_isWord_46 : decode cX4_isWord 46 = .ok (.iadd, 1) := by decide +kernel
theorem dX4_isWord_47 : decode cX4_isWord 47 = .ok (.baload, 1) := by decide +kernel
theorem dX4_isWord_48 : decode cX4_isWord 48 = .ok (.goto 5, 3) := by decide +kernel
theorem dX4_isWord_51 : decode cX4_isWord 51 = .ok (.bipush 32, 2) := by decide +kernel
theorem dX4_isWord_53 : decode cX4_isWord 53 = .ok (.istore_n 3, 1) := by decide +kernel
theorem dX4_isWord_54 : decode cX4_isWord 54 = .ok (.ldc 79, 2) := by decide +kernel
theorem dX4_isWord_56 : decode cX4_isWord 56 = .ok (.iload_n 1, 1) := by decide +kernel
theorem dX4_isWord_57 : decode cX4_isWord 57 = .ok (.bipush 6, 2) := by decide +kernel
theorem dX4_isWord_59 : decode cX4_isWord 59 = .ok (.imul, 1) := by decide +kernel
theorem dX4_isWord_60 : decode cX4_isWord 60 = .ok (.iload_n 2, 1) := by decide +kernel
theorem dX4_isWord_61 : decode cX4_isWord 61 = .ok (.iadd, 1) := by decide +kernel
theorem dX4_isWord_62 : decode cX4_isWord 62 = .ok (.invokevirtual 81, 3) := by decide +kernel
theorem dX4_isWord_65 : decode cX4_isWord 65 = .ok (.iload_n 3, 1) := by decide +kernel
theorem dX4_isWord_66 : decode cX4_isWord 66 = .ok (.if_icmp .eq 5, 3) := by decide +kernel
theorem dX4_isWord_69 : decode cX4_isWord 69 = .ok (.iconst 0, 1) := by decide +kernel
theorem dX4_isWord_70 : decode cX4_isWord 70 = .ok (.ireturn, 1) := by decide +kernel
theorem dX4_isWord_71 : decode cX4_isWord 71 = .ok (.iinc 2 1, 3) := by decide +kernel
theorem dX4_isWord_74 : decode cX4_isWord 74 = .ok (.goto (-56), 3) := by decide +kernel
theorem dX4_isWord_77 : decode cX4_isWord 77 = .ok (.iconst 1, 1) := by decide +kernel
theorem dX4_isWord_78 : decode cX4_isWord 78 = .ok (.ireturn, 1) := by decide +kernel
theorem dX4_readNumber_0 : decode cX4_readNumber 0 = .ok (.aload_n 0, 1) := by decide +kernel
theorem dX4_readNumber_1 : decode cX4_readNumber 1 = .ok (.getfield 9, 3) := by decide +kernel
theorem dX4_readNumber_4 : decode cX4_readNumber 4 = .ok (.aload_n 0, 1) := by decide +kernel
theorem dX4_readNumber_5 : decode cX4_readNumber 5 = .ok (.getfield 26, 3) := by decide +kernel
theorem dX4_readNumber_8 : decode cX4_readNumber 8 = .ok (.baload, 1) := by decide +kernel
theorem dX4_readNumber_9 : decode cX4_readNumber 9 = .ok (.bipush 45, 2) := by decide +kernel
theorem dX4_readNumber_11 : decode cX4_readNumber 11 = .ok (.if_icmp .ne 7, 3) := by decide +kernel
theorem dX4_readNumber_14 : decode cX4_readNumber 14 = .ok (.iconst 1, 1) := by decide +kernel
theorem dX4_readNumber_15 : decode cX4_readNumber 15 = .ok (.goto 4, 3) := by decide +kernel
theorem dX4_readNumber_18 : decode cX4_readNumber 18 = .ok (.iconst 0, 1) := by decide +kernel
theorem dX4_readNumber_19 : decode cX4_readNumber 19 = .ok (.istore_n 1, 1) := by decide +kernel
theorem dX4_readNumber_20 : decode cX4_readNumber 20 = .ok (.iload_n 1, 1) := by decide +kernel
theorem dX4_readNumber_21 : decode cX4_readNumber 21 = .ok (.ifCond .eq 13, 3) := by decide +kernel
theorem dX4_readNumber_24 : decode cX4_readNumber 24 = .ok (.aload_n 0, 1) := by decide +kernel
theorem dX4_readNumber_25 : decode cX4_readNumber 25 = .ok (.dup, 1) := by decide +kernel
theorem dX4_readNumber_26 : decode cX4_readNumber 26 = .ok (.getfield 26, 3) := by decide +kernel
theorem dX4_readNumber_29 : decode cX4_readNumber 29 = .ok (.iconst 1, 1) := by decide +kernel
theorem dX4_readNumber_30 : decode cX4_readNumber 30 = .ok (.iadd, 1) := by decide +kernel
theorem dX4_readNumber_31 : decode cX4_readNumber 31 = .ok (.putfield 26, 3) := by decide +kernel
theorem dX4_readNumber_34 : decode cX4_readNumber 34 = .ok (.iconst 0, 1) := by decide +kernel
theorem dX4_readNumber_35 : decode cX4_readNumber 35 = .ok (.istore_n 2, 1) := by decide +kernel
theorem dX4_readNumber_36 : decode cX4_readNumber 36 = .ok (.iconst 0, 1) := by decide +kernel
theorem dX4_readNumber_37 : decode cX4_readNumber 37 = .ok (.istore_n 3, 1) := by decide +kernel
theorem dX4_readNumber_38 : decode cX4_readNumber 38 = .ok (.aload_n 0, 1) := by decide +kernel
theorem dX4_readNumber_39 : decode cX4_readNumber 39 = .ok (.getfield 26, 3) := by decide +kernel
theorem dX4_readNumber_42 : decode cX4_readNumber 42 = .ok (.aload_n 0, 1) := by decide +kernel
theorem dX4_readNumber_43 : decode cX4_readNumber 43 = .ok (.getfield 19, 3) := by decide +kernel
theorem dX4_readNumber_46 : decode cX4_readNumber 46 = .ok (.if_icmp .ge 57, 3) := by decide +kernel
theorem dX4_readNumber_49 : decode cX4_readNumber 49 = .ok (.aload_n 0, 1) := by decide +kernel
theorem dX4_readNumber_50 : decode cX4_readNumber 50 = .ok (.aload_n 0, 1) := by decide +kernel
theorem dX4_readNumber_51 : decode cX4_readNumber 51 = .ok (.getfield 26, 3) := by decide +kernel
theorem dX4_readNumber_54 : decode cX4_readNumber 54 = .ok (.invokevirtual 70, 3) := by decide +kernel
theorem dX4_readNumber_57 : decode cX4_readNumber 57 = .ok (.ifCond .eq 46, 3) := by decide +kernel
theorem dX4_readNumber_60 : decode cX4_readNumber 60 = .ok (.iload_n 2, 1) := by decide +kernel
theorem dX4_readNumber_61 : decode cX4_readNumber 61 = .ok (.iconst 2, 1) := by decide +kernel
theorem dX4_readNumber_62 : decode cX4_readNumber 62 = .ok (.if_icmp .ge 23, 3) := by decide +kernel
theorem dX4_readNumber_65 : decode cX4_readNumber 65 = .ok (.bipush 10, 2) := by decide +kernel
theorem dX4_readNumber_67 : decode cX4_readNumber 67 = .ok (.iload_n 3, 1) := by decide +kernel
theorem dX4_readNumber_68 : decode cX4_readNumber 68 = .ok (.imul, 1) := by decide +kernel
theorem dX4_readNumber_69 : decode cX4_readNumber 69 = .ok (.aload_n 0, 1) := by decide +kernel
theorem dX4_readNumber_70 : decode cX4_readNumber 70 = .ok (.getfield 9, 3) := by decide +kernel
theorem dX4_readNumber_73 : decode cX4_readNumber 73 = .ok (.aload_n 0, 1) := by decide +kernel
theorem dX4_readNumber_74 : decode cX4_readNumber 74 = .ok (.getfield 26, 3) := by decide +kernel
theorem dX4_readNumber_77 : decode cX4_readNumber 77 = .ok (.baload, 1) := by decide +kernel
theorem dX4_readNumber_78 : decode cX4_readNumber 78 = .ok (.iadd, 1) := by decide +kernel
theorem dX4_readNumber_79 : decode cX4_readNumber 79 = .ok (.bipush 48, 2) := by decide +kernel
theorem dX4_readNumber_81 : decode cX4_readNumber 81 = .ok (.isub, 1) := by decide +kernel
theorem dX4_readNumber_82 : decode cX4_readNumber 82 = .ok (.goto 4, 3) := by decide +kernel
theorem dX4_readNumber_85 : decode cX4_readNumber 85 = .ok (.iload_n 3, 1) := by decide +kernel
theorem dX4_readNumber_86 : decode cX4_readNumber 86 = .ok (.istore_n 3, 1) := by decide +kernel
theorem dX4_readNumber_87 : decode cX4_readNumber 87 = .ok (.iinc 2 1, 3) := by decide +kernel
theorem dX4_readNumber_90 : decode cX4_readNumber 90 = .ok (.aload_n 0, 1) := by decide +kernel
theorem dX4_readNumber_91 : decode cX4_readNumber 91 = .ok (.dup, 1) := by decide +kernel
theorem dX4_readNumber_92 : decode cX4_readNumber 92 = .ok (.getfield 26, 3) := by decide +kernel
theorem dX4_readNumber_95 : decode cX4_readNumber 95 = .ok (.iconst 1, 1) := by decide +kernel
theorem dX4_readNumber_96 : decode cX4_readNumber 96 = .ok (.iadd, 1) := by decide +kernel
theorem dX4_readNumber_97 : decode cX4_readNumber 97 = .ok (.putfield 26, 3) := by decide +kernel
theorem dX4_readNumber_100 : decode cX4_readNumber 100 = .ok (.goto (-62), 3) := by decide +kernel
theorem dX4_readNumber_103 : decode cX4_readNumber 103 = .ok (.aload_n 0, 1) := by decide +kernel
theorem dX4_readNumber_104 : decode cX4_readNumber 104 = .ok (.iload_n 2, 1) := by decide +kernel
theorem dX4_readNumber_105 : decode cX4_readNumber 105 = .ok (.iconst 1, 1) := by decide +kernel
theorem dX4_readNumber_106 : decode cX4_readNumber 106 = .ok (.if_icmp .eq 8, 3) := by decide +kernel
theorem dX4_readNumber_109 : decode cX4_readNumber 109 = .ok (.iload_n 2, 1) := by decide +kernel
theorem dX4_readNumber_110 : decode cX4_readNumber 110 = .ok (.iconst 2, 1) := by decide +kernel
theorem dX4_readNumber_111 : decode cX4_readNumber 111 = .ok (.if_icmp .ne 7, 3) := by decide +kernel
theorem dX4_readNumber_114 : decode cX4_readNumber 114 = .ok (.iconst 2, 1) := by decide +kernel
theorem dX4_readNumber_115 : decode cX4_readNumber 115 = .ok (.goto 4, 3) := by decide +kernel
theorem dX4_readNumber_118 : decode cX4_readNumber 118 = .ok (.iconst 4, 1) := by decide +kernel
theorem dX4_readNumber_119 : decode cX4_readNumber 119 = .ok (.putfield 32, 3) := by decide +kernel
theorem dX4_readNumber_122 : decode cX4_readNumber 122 = .ok (.aload_n 0, 1) := by decide +kernel
theorem dX4_readNumber_123 : decode cX4_readNumber 123 = .ok (.iload_n 1, 1) := by decide +kernel
theorem dX4_readNumber_124 : decode cX4_readNumber 124 = .ok (.ifCond .eq 8, 3) := by decide +kernel
theorem dX4_readNumber_127 : decode cX4_readNumber 127 = .ok (.iload_n 3, 1) := by decide +kernel
theorem dX4_readNumber_128 : decode cX4_readNumber 128 = .ok (.ineg, 1) := by decide +kernel
theorem dX4_readNumber_129 : decode cX4_readNumber 129 = .ok (.goto 4, 3) := by decide +kernel
theorem dX4_readNumber_132 : decode cX4_readNumber 132 = .ok (.iload_n 3, 1) := by decide +kernel
theorem dX4_readNumber_133 : decode cX4_readNumber 133 = .ok (.putfield 46, 3) := by decide +kernel
theorem dX4_readNumber_136 : decode cX4_readNumber 136 = .ok (.return_, 1) := by decide +kernel
theorem dX4_isLetter_0 : decode cX4_isLetter 0 = .ok (.aload_n 0, 1) := by decide +kernel
theorem dX4_isLetter_1 : decode cX4_isLetter 1 = .ok (.getfield 9, 3) := by decide +kernel
theorem dX4_isLetter_4 : decode cX4_isLetter 4 = .ok (.iload_n 1, 1) := by decide +kernel
theorem dX4_isLetter_5 : decode cX4_isLetter 5 = .ok (.baload, 1) := by decide +kernel
theorem dX4_isLetter_6 : decode cX4_isLetter 6 = .ok (.bipush 97, 2) := by decide +kernel
theorem dX4_isLetter_8 : decode cX4_isLetter 8 = .ok (.bipush 122, 2) := by decide +kernel
theorem dX4_isLetter_10 : decode cX4_isLetter 10 = .ok (.invokestatic 60, 3) := by decide +kernel
theorem dX4_isLetter_13 : decode cX4_isLetter 13 = .ok (.ireturn, 1) := by decide +kernel
theorem dX4_isFigure_0 : decode cX4_isFigure 0 = .ok (.aload_n 0, 1) := by decide +kernel
theorem dX4_isFigure_1 : decode cX4_isFigure 1 = .ok (.getfield 9, 3) := by decide +kernel
theorem dX4_isFigure_4 : decode cX4_isFigure 4 = .ok (.iload_n 1, 1) := by decide +kernel
theorem dX4_isFigure_5 : decode cX4_isFigure 5 = .ok (.baload, 1) := by decide +kernel
theorem dX4_isFigure_6 : decode cX4_isFigure 6 = .ok (.bipush 48, 2) := by decide +kernel
theorem dX4_isFigure_8 : decode cX4_isFigure 8 = .ok (.bipush 57, 2) := by decide +kernel
theorem dX4_isFigure_10 : decode cX4_isFigure 10 = .ok (.invokestatic 60, 3) := by decide +kernel
theorem dX4_isFigure_13 : decode cX4_isFigure 13 = .ok (.ireturn, 1) := by decide +kernel
theorem dX5_init_0 : decode cX5_init 0 = .ok (.aload_n 0, 1) := by decide +kernel
theorem dX5_init_1 : decode cX5_init 1 = .ok (.invokespecial 3, 3) := by decide +kernel
theorem dX5_init_4 : decode cX5_init 4 = .ok (.aload_n 0, 1) := by decide +kernel
theorem dX5_init_5 : decode cX5_init 5 = .ok (.iconst 5, 1) := by decide +kernel
theorem dX5_init_6 : decode cX5_init 6 = .ok (.anewarray 9, 3) := by decide +kernel
theorem dX5_init_9 : decode cX5_init 9 = .ok (.putfield 11, 3) := by decide +kernel
theorem dX5_init_12 : decode cX5_init 12 = .ok (.aload_n 0, 1) := by decide +kernel
theorem dX5_init_13 : decode cX5_init 13 = .ok (.iconst 5, 1) := by decide +kernel
theorem dX5_init_14 : decode cX5_init 14 = .ok (.anewarray 9, 3) := by decide +kernel
theorem dX5_init_17 : decode cX5_init 17 = .ok (.putfield 15, 3) := by decide +kernel
theorem dX5_init_20 : decode cX5_init 20 = .ok (.iconst 0, 1) := by decide +kernel
theorem dX5_init_21 : decode cX5_init 21 = .ok (.istore_n 1, 1) := by decide +kernel
theorem dX5_init_22 : decode cX5_init 22 = .ok (.iload_n 1, 1) := by decide +kernel
theorem dX5_init_23 : decode cX5_init 23 = .ok (.iconst 5, 1) := by decide +kernel
theorem dX5_init_24 : decode cX5_init 24 = .ok (.if_icmp .ge 35, 3) := by decide +kernel
theorem dX5_init_27 : decode cX5_init 27 = .ok (.aload_n 0, 1) := by decide +kernel
theorem dX5_init_28 : decode cX5_init 28 = .ok (.getfield 11, 3) := by decide +kernel
theorem dX5_init_31 : decode cX5_init 31 = .ok (.iload_n 1, 1) := by decide +kernel
theorem dX5_init_32 : decode cX5_init 32 = .ok (.new 9, 3) := by decide +kernel
theorem dX5_init_35 : decode cX5_init 35 = .ok (.dup, 1) := by decide +kernel
theorem dX5_init_36 : decode cX5_init 36 = .ok (.invokespecial 18, 3) := by decide +kernel
theorem dX5_init_39 : decode cX5_init 39 = .ok (.aastore, 1) := by decide +kernel
theorem dX5_init_40 : decode cX5_init 40 = .ok (.aload_n 0, 1) := by decide +kernel
theorem dX5_init_41 : decode cX5_init 41 = .ok (.getfield 15, 3) := by decide +kernel
theorem dX5_init_44 : decode cX5_init 44 = .ok (.iload_n 1, 1) := by decide +kernel
theorem dX5_init_45 : decode cX5_init 45 = .ok (.new 9, 3) := by decide +kernel
theorem dX5_init_48 : decode cX5_init 48 = .ok (.dup, 1) := by decide +kernel
theorem dX5_init_49 : decode cX5_init 49 = .ok (.invokespecial 18, 3) := by decide +kernel
theorem dX5_init_52 : decode cX5_init 52 = .ok (.aastore, 1) := by decide +kernel
theorem dX5_init_53 : decode cX5_init 53 = .ok (.iinc 1 1, 3) := by decide +kernel
theorem dX5_init_56 : decode cX5_init 56 = .ok (.goto (-34), 3) := by decide +kernel
theorem dX5_init_59 : decode cX5_init 59 = .ok (.aload_n 0, 1) := by decide +kernel
theorem dX5_init_60 : decode cX5_init 60 = .ok (.new 9, 3) := by decide +kernel
theorem dX5_init_63 : decode cX5_init 63 = .ok (.dup, 1) := by decide +kernel
theorem dX5_init_64 : decode cX5_init 64 = .ok (.invokespecial 18, 3) := by decide +kernel
theorem dX5_init_67 : decode cX5_init 67 = .ok (.putfield 19, 3) := by decide +kernel
theorem dX5_init_70 : decode cX5_init 70 = .ok (.aload_n 0, 1) := by decide +kernel
theorem dX5_init_71 : decode cX5_init 71 = .ok (.new 23, 3) := by decide +kernel
theorem dX5_init_74 : decode cX5_init 74 = .ok (.dup, 1) := by decide +kernel
theorem dX5_init_75 : decode cX5_init 75 = .ok (.invokespecial 25, 3) := by decide +kernel
theorem dX5_init_78 : decode cX5_init 78 = .ok (.putfield 26, 3) := by decide +kernel
theorem dX5_init_81 : decode cX5_init 81 = .ok (.aload_n 0, 1) := by decide +kernel
theorem dX5_init_82 : decode cX5_init 82 = .ok (.new 30, 3) := by decide +kernel
theorem dX5_init_85 : decode cX5_init 85 = .ok (.dup, 1) := by decide +kernel
theorem dX5_init_86 : decode cX5_init 86 = .ok (.invokespecial 32, 3) := by decide +kernel
theorem dX5_init_89 : decode cX5_init 89 = .ok (.putfield 33, 3) := by decide +kernel
theorem dX5_init_92 : decode cX5_init 92 = .ok (.aload_n 0, 1) := by decide +kernel
theorem dX5_init_93 : decode cX5_init 93 = .ok (.new 37, 3) := by decide +kernel
theorem dX5_init_96 : decode cX5_init 96 = .ok (.dup, 1) := by decide +kernel
theorem dX5_init_97 : decode cX5_init 97 = .ok (.invokespecial 39, 3) := by decide +kernel
theorem dX5_init_100 : decode cX5_init 100 = .ok (.putfield 40, 3) := by decide +kernel
theorem dX5_init_103 : decode cX5_init 103 = .ok (.aload_n 0, 1) := by decide +kernel
theorem dX5_init_104 : decode cX5_init 104 = .ok (.new 44, 3) := by decide +kernel
theorem dX5_init_107 : decode cX5_init 107 = .ok (.dup, 1) := by decide +kernel
theorem dX5_init_108 : decode cX5_init 108 = .ok (.invokespecial 46, 3) := by decide +kernel
theorem dX5_init_111 : decode cX5_init 111 = .ok (.putfield 47, 3) := by decide +kernel
theorem dX5_init_114 : decode cX5_init 114 = .ok (.aload_n 0, 1) := by decide +kernel
theorem dX5_init_115 : decode cX5_init 115 = .ok (.iconst 3, 1) := by decide +kernel
theorem dX5_init_116 : decode cX5_init 116 = .ok (.newarray .int, 2) := by decide +kernel
theorem dX5_init_118 : decode cX5_init 118 = .ok (.putfield 51, 3) := by decide +kernel
theorem dX5_init_121 : decode cX5_init 121 = .ok (.return_, 1) := by decide +kernel
theorem dX5_box_0 : decode cX5_box 0 = .ok (.iload_n 1, 1) := by decide +kernel
theorem dX5_box_1 : decode cX5_box 1 = .ok (.invokestatic 55, 3) := by decide +kernel
theorem dX5_box_4 : decode cX5_box 4 = .ok (.ifCond .eq 43, 3) := by decide +kernel
theorem dX5_box_7 : decode cX5_box 7 = .ok (.iload_n 2, 1) := by decide +kernel
theorem dX5_box_8 : decode cX5_box 8 = .ok (.invokestatic 55, 3) := by decide +kernel
theorem dX5_box_11 : decode cX5_box 11 = .ok (.ifCond .eq 36, 3) := by decide +kernel
theorem dX5_box_14 : decode cX5_box 14 = .ok (.iload_n 3, 1) := by decide +kernel
theorem dX5_box_15 : decode cX5_box 15 = .ok (.iconst 1, 1) := by decide +kernel
theorem dX5_box_16 : decode cX5_box 16 = .ok (.bipush 99, 2) := by decide +kernel
theorem dX5_box_18 : decode cX5_box 18 = .ok (.invokestatic 59, 3) := by decide +kernel
theorem dX5_box_21 : decode cX5_box 21 = .ok (.ifCond .eq 26, 3) := by decide +kernel
theorem dX5_box_24 : decode cX5_box 24 = .ok (.iload 4, 2) := by decide +kernel
theorem dX5_box_26 : decode cX5_box 26 = .ok (.iconst 1, 1) := by decide +kernel
theorem dX5_box_27 : decode cX5_box 27 = .ok (.bipush 99, 2) := by decide +kernel
theorem dX5_box_29 : decode cX5_box 29 = .ok (.invokestatic 59, 3) := by decide +kernel
theorem dX5_box_32 : decode cX5_box 32 = .ok (.ifCond .eq 15, 3) := by decide +kernel
theorem dX5_box_35 : decode cX5_box 35 = .ok (.iload 5, 2) := by decide +kernel
theorem dX5_box_37 : decode cX5_box 37 = .ok (.invokestatic 63, 3) := by decide +kernel
theorem dX5_box_40 : decode cX5_box 40 = .ok (.ifCond .eq 7, 3) := by decide +kernel
theorem dX5_box_43 : decode cX5_box 43 = .ok (.iconst 1, 1) := by decide +kernel
theorem dX5_box_44 : decode cX5_box 44 = .ok (.goto 4, 3) := by decide +kernel
theorem dX5_box_47 : decode cX5_box 47 = .ok (.iconst 0, 1) := by decide +kernel
theorem dX5_box_48 : decode cX5_box 48 = .ok (.istore 6, 2) := by decide +kernel
theorem dX5_box_50 : decode cX5_box 50 = .ok (.iload 6, 2) := by decide +kernel
theorem dX5_box_52 : decode cX5_box 52 = .ok (.ifCond .ne 11, 3) := by decide +kernel
theorem dX5_box_55 : decode cX5_box 55 = .ok (.aload_n 0, 1) := by decide +kernel
theorem dX5_box_56 : decode cX5_box 56 = .ok (.sipush (-202), 3) := by decide +kernel
theorem dX5_box_59 : decode cX5_box 59 = .ok (.invokevirtual 66, 3) := by decide +kernel
theorem dX5_box_62 : decode cX5_box 62 = .ok (.ireturn, 1) := by decide +kernel
theorem dX5_box_63 : decode cX5_box 63 = .ok (.aload_n 0, 1) := by decide +kernel
theorem dX5_box_64 : decode cX5_box 64 = .ok (.aload_n 0, 1) := by decide +kernel
theorem dX5_box_65 : decode cX5_box 65 = .ok (.iload_n 1, 1) := by decide +kernel
theorem dX5_box_66 : decode cX5_box 66 = .ok (.iload_n 2, 1) := by decide +kernel
theorem dX5_box_67 : decode cX5_box 67 = .ok (.iload_n 3, 1) := by decide +kernel
theorem dX5_box_68 : decode cX5_box 68 = .ok (.iload 4, 2) := by decide +kernel
theorem dX5_box_70 : decode cX5_box 70 = .ok (.invokevirtual 70, 3) := by decide +kernel
theorem dX5_box_73 : decode cX5_box 73 = .ok (.ifCond .eq 16, 3) := by decide +kernel
theorem dX5_box_76 : decode cX5_box 76 = .ok (.aload_n 0, 1) := by decide +kernel
theorem dX5_box_77 : decode cX5_box 77 = .ok (.aload_n 0, 1) := by decide +kernel
theorem dX5_box_78 : decode cX5_box 78 = .ok (.getfield 11, 3) := by decide +kernel
theorem dX5_box_81 : decode cX5_box 81 = .ok (.iload 5, 2) := by decide +kernel
theorem dX5_box_83 : decode cX5_box 83 = .ok (.invokevirtual 74, 3) := by decide +kernel
theorem dX5_box_86 : decode cX5_box 86 = .ok (.goto 6, 3) := by decide +kernel
theorem dX5_box_89 : decode cX5_box 89 = .ok (.sipush (-203), 3) := by decide +kernel
theorem dX5_box_92 : decode cX5_box 92 = .ok (.invokevirtual 66, 3) := by decide +kernel
theorem dX5_box_95 : decode cX5_box 95 = .ok (.ireturn, 1) := by decide +kernel
theorem dX5_mix_0 : decode cX5_mix 0 = .ok (.iload_n 1, 1) := by decide +kernel
theorem dX5_mix_1 : decode cX5_mix 1 = .ok (.iconst 0, 1) := by decide +kernel
theorem dX5_mix_2 : decode cX5_mix 2 = .ok (.iconst 3, 1) := by decide +kernel
theorem dX5_mix_3 : decode cX5_mix 3 = .ok (.invokestatic 59, 3) := by decide +kernel
theorem dX5_mix_6 : decode cX5_mix 6 = .ok (.ifCond .eq 25, 3) := by decide +kernel
theorem dX5_mix_9 : decode cX5_mix 9 = .ok (.iload_n 2, 1) := by decide +kernel
theorem dX5_mix_10 : decode cX5_mix 10 = .ok (.invokestatic 63, 3) := by decide +kernel
theorem dX5_mix_13 : decode cX5_mix 13 = .ok (.ifCond .eq 18, 3) := by decide +kernel
theorem dX5_mix_16 : decode cX5_mix 16 = .ok (.iload_n 3, 1) := by decide +kernel
theorem dX5_mix_17 : decode cX5_mix 17 = .ok (.invokestatic 63, 3) := by decide +kernel
theorem dX5_mix_20 : decode cX5_mix 20 = .ok (.ifCond .eq 11, 3) := by decide +kernel
theorem dX5_mix_23 : decode cX5_mix 23 = .ok (.iload 4, 2) := by decide +kernel
theorem dX5_mix_25 : decode cX5_mix 25 = .ok (.invokestatic 63, 3) := by decide +kernel
theorem dX5_mix_28 : decode cX5_mix 28 = .ok (.ifCond .ne 11, 3) := by decide +kernel
theorem dX5_mix_31 : decode cX5_mix 31 = .ok (.aload_n 0, 1) := by decide +kernel
theorem dX5_mix_32 : decode cX5_mix 32 = .ok (.sipush (-202), 3) := by decide +kernel
theorem dX5_mix_35 : decode cX5_mix 35 = .ok (.invokevirtual 66, 3) := by decide +kernel
theorem dX5_mix_38 : decode cX5_mix 38 = .ok (.ireturn, 1) := by decide +kernel
theorem dX5_mix_39 : decode cX5_mix 39 = .ok (.aload_n 0, 1) := by decide +kernel
theorem dX5_mix_40 : decode cX5_mix 40 = .ok (.getfield 19, 3) := by decide +kernel
theorem dX5_mix_43 : decode cX5_mix 43 = .ok (.iload_n 1, 1) := by decide +kernel
theorem dX5_mix_44 : decode cX5_mix 44 = .ok (.aload_n 0, 1) := by decide +kernel
theorem dX5_mix_45 : decode cX5_mix 45 = .ok (.getfield 11, 3) := by decide +kernel
theorem dX5_mix_48 : decode cX5_mix 48 = .ok (.iload_n 2, 1) := by decide +kernel
theorem dX5_mix_49 : decode cX5_mix 49 = .ok (.aaload, 1) := by decide +kernel
theorem dX5_mix_50 : decode cX5_mix 50 = .ok (.aload_n 0, 1) := by decide +kernel
theorem dX5_mix_51 : decode cX5_mix 51 = .ok (.getfield 11, 3) := by decide +kernel
theorem dX5_mix_54 : decode cX5_mix 54 = .ok (.iload_n 3, 1) := by decide +kernel
theorem dX5_mix_55 : decode cX5_mix 55 = .ok (.aaload, 1) := by decide +kernel
theorem dX5_mix_56 : decode cX5_mix 56 = .ok (.invokevirtual 78, 3) := by decide +kernel
theorem dX5_mix_59 : decode cX5_mix 59 = .ok (.aload_n 0, 1) := by decide +kernel
theorem dX5_mix_60 : decode cX5_mix 60 = .ok (.aload_n 0, 1) := by decide +kernel
theorem dX5_mix_61 : decode cX5_mix 61 = .ok (.aload_n 0, 1) := by decide +kernel
theorem dX5_mix_62 : decode cX5_mix 62 = .ok (.getfield 11, 3) := by decide +kernel
theorem dX5_mix_65 : decode cX5_mix 65 = .ok (.iload 4, 2) := by decide +kernel
theorem dX5_mix_67 : decode cX5_mix 67 = .ok (.invokevirtual 74, 3) := by decide +kernel
theorem dX5_mix_70 : decode cX5_mix 70 = .ok (.invokevirtual 66, 3) := by decide +kernel
theorem dX5_mix_73 : decode cX5_mix 73 = .ok (.ireturn, 1) := by decide +kernel
theorem dX5_move_0 : decode cX5_move 0 = .ok (.iload_n 1, 1) := by decide +kernel
theorem dX5_move_1 : decode cX5_move 1 = .ok (.invokestatic 63, 3) := by decide +kernel
theorem dX5_move_4 : decode cX5_move 4 = .ok (.ifCond .eq 33, 3) := by decide +kernel
theorem dX5_move_7 : decode cX5_move 7 = .ok (.iload_n 2, 1) := by decide +kernel
theorem dX5_move_8 : decode cX5_move 8 = .ok (.bipush (-120), 2) := by decide +kernel
theorem dX5_move_10 : decode cX5_move 10 = .ok (.bipush 120, 2) := by decide +kernel
theorem dX5_move_12 : decode cX5_move 12 = .ok (.invokestatic 59, 3) := by decide +kernel
theorem dX5_move_15 : decode cX5_move 15 = .ok (.ifCond .eq 22, 3) := by decide +kernel
theorem dX5_move_18 : decode cX5_move 18 = .ok (.iload_n 3, 1) := by decide +kernel
theorem dX5_move_19 : decode cX5_move 19 = .ok (.bipush (-120), 2) := by decide +kernel
theorem dX5_move_21 : decode cX5_move 21 = .ok (.bipush 120, 2) := by decide +kernel
theorem dX5_move_23 : decode cX5_move 23 = .ok (.invokestatic 59, 3) := by decide +kernel
theorem dX5_move_26 : decode cX5_move 26 = .ok (.ifCond .eq 11, 3) := by decide +kernel
theorem dX5_move_29 : decode cX5_move 29 = .ok (.iload 4, 2) := by decide +kernel
theorem dX5_move_31 : decode cX5_move 31 = .ok (.invokestatic 63, 3) := by decide +kernel
theorem dX5_move_34 : decode cX5_move 34 = .ok (.ifCond .ne 11, 3) := by decide +kernel
theorem dX5_move_37 : decode cX5_move 37 = .ok (.aload_n 0, 1) := by decide +kernel
theorem dX5_move_38 : decode cX5_move 38 = .ok (.sipush (-202), 3) := by decide +kernel
theorem dX5_move_41 : decode cX5_move 41 = .ok (.invokevirtual 66, 3) := by decide +kernel
theorem dX5_move_44 : decode cX5_move 44 = .ok (.ireturn, 1) := by decide +kernel
theorem dX5_move_45 : decode cX5_move 45 = .ok (.aload_n 0, 1) := by decide +kernel
theorem dX5_move_46 : decode cX5_move 46 = .ok (.aload_n 0, 1) := by decide +kernel
theorem dX5_move_47 : decode cX5_move 47 = .ok (.aload_n 0, 1) := by decide +kernel
theorem dX5_move_48 : decode cX5_move 48 = .ok (.getfield 11, 3) := by decide +kernel
theorem dX5_move_51 : decode cX5_move 51 = .ok (.iload_n 1, 1) := by decide +kernel
theorem dX5_move_52 : decode cX5_move 52 = .ok (.aaload, 1) := by decide +kernel
theorem dX5_move_53 : decode cX5_move 53 = .ok (.iload_n 2, 1) := by decide +kernel
theorem dX5_move_54 : decode cX5_move 54 = .ok (.iload_n 3, 1) := by decide +kernel
theorem dX5_move_55 : decode cX5_move 55 = .ok (.invokevirtual 82, 3) := by decide +kernel
theorem dX5_move_58 : decode cX5_move 58 = .ok (.ifCond .eq 16, 3) := by decide +kernel
theorem dX5_move_61 : decode cX5_move 61 = .ok (.aload_n 0, 1) := by decide +kernel
theorem dX5_move_62 : decode cX5_move 62 = .ok (.aload_n 0, 1) := by decide +kernel
theorem dX5_move_63 : decode cX5_move 63 = .ok (.getfield 11, 3) := by decide +kernel
theorem dX5_move_66 : decode cX5_move 66 = .ok (.iload 4, 2) := by decide +kernel
theorem dX5_move_68 : decode cX5_move 68 = .ok (.invokevirtual 74, 3) := by decide +kernel
theorem dX5_move_71 : decode cX5_move 71 = .ok (.goto 6, 3) := by decide +kernel
theorem dX5_move_74 : decode cX5_move 74 = .ok (.sipush (-203), 3) := by decide +kernel
theorem dX5_move_77 : decode cX5_move 77 = .ok (.invokevirtual 66, 3) := by decide +kernel
theorem dX5_move_80 : decode cX5_move 80 = .ok (.ireturn, 1) := by decide +kernel
theorem dX5_grow_0 : decode cX5_grow 0 = .ok (.iload_n 1, 1) := by decide +kernel
theorem dX5_grow_1 : decode cX5_grow 1 = .ok (.invokestatic 63, 3) := by decide +kernel
theorem dX5_grow_4 : decode cX5_grow 4 = .ok (.ifCond .eq 21, 3) := by decide +kernel
theorem dX5_grow_7 : decode cX5_grow 7 = .ok (.iload_n 2, 1) := by decide +kernel
theorem dX5_grow_8 : decode cX5_grow 8 = .ok (.bipush (-9), 2) := by decide +kernel
theorem dX5_grow_10 : decode cX5_grow 10 = .ok (.bipush 9, 2) := by decide +kernel
theorem dX5_grow_12 : decode cX5_grow 12 = .ok (.invokestatic 59, 3) := by decide +kernel
theorem dX5_grow_15 : decode cX5_grow 15 = .ok (.ifCond .eq 10, 3) := by decide +kernel
theorem dX5_grow_18 : decode cX5_grow 18 = .ok (.iload_n 3, 1) := by decide +kernel
theorem dX5_grow_19 : decode cX5_grow 19 = .ok (.invokestatic 63, 3) := by decide +kernel
theorem dX5_grow_22 : decode cX5_grow 22 = .ok (.ifCond .ne 11, 3) := by decide +kernel
theorem dX5_grow_25 : decode cX5_grow 25 = .ok (.aload_n 0, 1) := by decide +kernel
theorem dX5_grow_26 : decode cX5_grow 26 = .ok (.sipush (-202), 3) := by decide +kernel
theorem dX5_grow_29 : decode cX5_grow 29 = .ok (.invokevirtual 66, 3) := by decide +kernel
theorem dX5_grow_32 : decode cX5_grow 32 = .ok (.ireturn, 1) := by decide +kernel
theorem dX5_grow_33 : decode cX5_grow 33 = .ok (.aload_n 0, 1) := by decide +kernel
theorem dX5_grow_34 : decode cX5_grow 34 = .ok (.aload_n 0, 1) := by decide +kernel
theorem dX5_grow_35 : decode cX5_grow 35 = .ok (.getfield 11, 3) := by decide +kernel
theorem dX5_grow_38 : decode cX5_grow 38 = .ok (.iload_n 1, 1) := by decide +kernel
theorem dX5_grow_39 : decode cX5_grow 39 = .ok (.aaload, 1) := by decide +kernel
theorem dX5_grow_40 : decode cX5_grow 40 = .ok (.iload_n 2, 1) := by decide +kernel
theorem dX5_grow_41 : decode cX5_grow 41 = .ok (.invokevirtual 86, 3) := by decide +kernel
theorem dX5_grow_44 : decode cX5_grow 44 = .ok (.aload_n 0, 1) := by decide +kernel
theorem dX5_grow_45 : decode cX5_grow 45 = .ok (.aload_n 0, 1) := by decide +kernel
theorem dX5_grow_46 : decode cX5_grow 46 = .ok (.aload_n 0, 1) := by decide +kernel
theorem dX5_grow_47 : decode cX5_grow 47 = .ok (.getfield 11, 3) := by decide +kernel
theorem dX5_grow_50 : decode cX5_grow 50 = .ok (.iload_n 3, 1) := by decide +kernel
theorem dX5_grow_51 : decode cX5_grow 51 = .ok (.invokevirtual 74, 3) := by decide +kernel
theorem dX5_grow_54 : decode cX5_grow 54 = .ok (.invokevirtual 66, 3) := by decide +kernel
theorem dX5_grow_57 : decode cX5_grow 57 = .ok (.ireturn, 1) := by decide +kernel
theorem dX5_flip_0 : decode cX5_flip 0 = .ok (.iload_n 1, 1) := by decide +kernel
theorem dX5_flip_1 : decode cX5_flip 1 = .ok (.invokestatic 63, 3) := by decide +kernel
theorem dX5_flip_4 : decode cX5_flip 4 = .ok (.ifCond .eq 19, 3) := by decide +kernel
theorem dX5_flip_7 : decode cX5_flip 7 = .ok (.iload_n 2, 1) := by decide +kernel
theorem dX5_flip_8 : decode cX5_flip 8 = .ok (.iconst 0, 1) := by decide +kernel
theorem dX5_flip_9 : decode cX5_flip 9 = .ok (.iconst 2, 1) := by decide +kernel
theorem dX5_flip_10 : decode cX5_flip 10 = .ok (.invokestatic 59, 3) := by decide +kernel
theorem dX5_flip_13 : decode cX5_flip 13 = .ok (.ifCond .eq 10, 3) := by decide +kernel
theorem dX5_flip_16 : decode cX5_flip 16 = .ok (.iload_n 3, 1) := by decide +kernel
theorem dX5_flip_17 : decode cX5_flip 17 = .ok (.invokestatic 63, 3) := by decide +kernel
theorem dX5_flip_20 : decode cX5_flip 20 = .ok (.ifCond .ne 11, 3) := by decide +kernel
theorem dX5_flip_23 : decode cX5_flip 23 = .ok (.aload_n 0, 1) := by decide +kernel
theorem dX5_flip_24 : decode cX5_flip 24 = .ok (.sipush (-202), 3) := by decide +kernel
theorem dX5_flip_27 : decode cX5_flip 27 = .ok (.invokevirtual 66, 3) := by decide +kernel
theorem dX5_flip_30 : decode cX5_flip 30 = .ok (.ireturn, 1) := by decide +kernel
theorem dX5_flip_31 : decode cX5_flip 31 = .ok (.aload_n 0, 1) := by decide +kernel
theorem dX5_flip_32 : decode cX5_flip 32 = .ok (.aload_n 0, 1) := by decide +kernel
theorem dX5_flip_33 : decode cX5_flip 33 = .ok (.getfield 11, 3) := by decide +kernel
theorem dX5_flip_36 : decode cX5_flip 36 = .ok (.iload_n 1, 1) := by decide +kernel
theorem dX5_flip_37 : decode cX5_flip 37 = .ok (.aaload, 1) := by decide +kernel
theorem dX5_flip_38 : decode cX5_flip 38 = .ok (.iload_n 2, 1) := by decide +kernel
theorem dX5_flip_39 : decode cX5_flip 39 = .ok (.invokevirtual 90, 3) := by decide +kernel
theorem dX5_flip_42 : decode cX5_flip 42 = .ok (.aload_n 0, 1) := by decide +kernel
theorem dX5_flip_43 : decode cX5_flip 43 = .ok (.aload_n 0, 1) := by decide +kernel
theorem dX5_flip_44 : decode cX5_flip 44 = .ok (.aload_n 0, 1) := by decide +kernel
theorem dX5_flip_45 : decode cX5_flip 45 = .ok (.getfield 11, 3) := by decide +kernel
theorem dX5_flip_48 : decode cX5_flip 48 = .ok (.iload_n 3, 1) := by decide +kernel
theorem dX5_flip_49 : decode cX5_flip 49 = .ok (.invokevirtual 74, 3) := by decide +kernel
theorem dX5_flip_52 : decode cX5_flip 52 = .ok (.invokevirtual 66, 3) := by decide +kernel
theorem dX5_flip_55 : decode cX5_flip 55 = .ok (.ireturn, 1) := by decide +kernel
theorem dX5_rest_0 : decode cX5_rest 0 = .ok (.iload_n 1, 1) := by decide +kernel
theorem dX5_rest_1 : decode cX5_rest 1 = .ok (.invokestatic 63, 3) := by decide +kernel
theorem dX5_rest_4 : decode cX5_rest 4 = .ok (.ifCond .eq 10, 3) := by decide +kernel
theorem dX5_rest_7 : decode cX5_rest 7 = .ok (.iload_n 2, 1) := by decide +kernel
theorem dX5_rest_8 : decode cX5_rest 8 = .ok (.invokestatic 63, 3) := by decide +kernel
theorem dX5_rest_11 : decode cX5_rest 11 = .ok (.ifCond .ne 11, 3) := by decide +kernel
theorem dX5_rest_14 : decode cX5_rest 14 = .ok (.aload_n 0, 1) := by decide +kernel
theorem dX5_rest_15 : decode cX5_rest 15 = .ok (.sipush (-202), 3) := by decide +kernel
theorem dX5_rest_18 : decode cX5_rest 18 = .ok (.invokevirtual 66, 3) := by decide +kernel
theorem dX5_rest_21 : decode cX5_rest 21 = .ok (.ireturn, 1) := by decide +kernel
theorem dX5_rest_22 : decode cX5_rest 22 = .ok (.aload_n 0, 1) := by decide +kernel
theorem dX5_rest_23 : decode cX5_rest 23 = .ok (.getfield 19, 3) := by decide +kernel
theorem dX5_rest_26 : decode cX5_rest 26 = .ok (.aload_n 0, 1) := by decide +kernel
theorem dX5_rest_27 : decode cX5_rest 27 = .ok (.getfield 11, 3) := by decide +kernel
theorem dX5_rest_30 : decode cX5_rest 30 = .ok (.iload_n 1, 1) := by decide +kernel
theorem dX5_rest_31 : decode cX5_rest 31 = .ok (.aaload, 1) := by decide +kernel
theorem dX5_rest_32 : decode cX5_rest 32 = .ok (.invokevirtual 93, 3) := by decide +kernel
theorem dX5_rest_35 : decode cX5_rest 35 = .ok (.aload_n 0, 1) := by decide +kernel
theorem dX5_rest_36 : decode cX5_rest 36 = .ok (.getfield 19, 3) := by decide +kernel
theorem dX5_rest_39 : decode cX5_rest 39 = .ok (.invokevirtual 97, 3) := by decide +kernel
theorem dX5_rest_42 : decode cX5_rest 42 = .ok (.aload_n 0, 1) := by decide +kernel
theorem dX5_rest_43 : decode cX5_rest 43 = .ok (.aload_n 0, 1) := by decide +kernel
theorem dX5_rest_44 : decode cX5_rest 44 = .ok (.aload_n 0, 1) := by decide +kernel
theorem dX5_rest_45 : decode cX5_rest 45 = .ok (.getfield 11, 3) := by decide +kernel
theorem dX5_rest_48 : decode cX5_rest 48 = .ok (.iload_n 2, 1) := by decide +kernel
theorem dX5_rest_49 : decode cX5_rest 49 = .ok (.invokevirtual 74, 3) := by decide +kernel
theorem dX5_rest_52 : decode cX5_rest 52 = .ok (.invokevirtual 66, 3) := by decide +kernel
theorem dX5_rest_55 : decode cX5_rest 55 = .ok (.ireturn, 1) := by decide +kernel
theorem dX5_part_0 : decode cX5_part 0 = .ok (.iload_n 1, 1) := by decide +kernel
theorem dX5_part_1 : decode cX5_part 1 = .ok (.invokestatic 63, 3) := by decide +kernel
theorem dX5_part_4 : decode cX5_part 4 = .ok (.ifCond .eq 25, 3) := by decide +kernel
theorem dX5_part_7 : decode cX5_part 7 = .ok (.iload_n 2, 1) := by decide +kernel
theorem dX5_part_8 : decode cX5_part 8 = .ok (.invokestatic 55, 3) := by decide +kernel
theorem dX5_part_11 : decode cX5_part 11 = .ok (.ifCond .eq 18, 3) := by decide +kernel
theorem dX5_part_14 : decode cX5_part 14 = .ok (.iload_n 3, 1) := by decide +kernel
theorem dX5_part_15 : decode cX5_part 15 = .ok (.invokestatic 55, 3) := by decide +kernel
theorem dX5_part_18 : decode cX5_part 18 = .ok (.ifCond .eq 11, 3) := by decide +kernel
theorem dX5_part_21 : decode cX5_part 21 = .ok (.iload 4, 2) := by decide +kernel
theorem dX5_part_23 : decode cX5_part 23 = .ok (.invokestatic 63, 3) := by decide +kernel
theorem dX5_part_26 : decode cX5_part 26 = .ok (.ifCond .ne 11, 3) := by decide +kernel
theorem dX5_part_29 : decode cX5_part 29 = .ok (.aload_n 0, 1) := by decide +kernel
theorem dX5_part_30 : decode cX5_part 30 = .ok (.sipush (-202), 3) := by decide +kernel
theorem dX5_part_33 : decode cX5_part 33 = .ok (.invokevirtual 66, 3) := by decide +kernel
theorem dX5_part_36 : decode cX5_part 36 = .ok (.ireturn, 1) := by decide +kernel
theorem dX5_part_37 : decode cX5_part 37 = .ok (.aload_n 0, 1) := by decide +kernel
theorem dX5_part_38 : decode cX5_part 38 = .ok (.getfield 11, 3) := by decide +kernel
theorem dX5_part_41 : decode cX5_part 41 = .ok (.iload_n 1, 1) := by decide +kernel
theorem dX5_part_42 : decode cX5_part 42 = .ok (.aaload, 1) := by decide +kernel
theorem dX5_part_43 : decode cX5_part 43 = .ok (.iload_n 2, 1) := by decide +kernel
theorem dX5_part_44 : decode cX5_part 44 = .ok (.iload_n 3, 1) := by decide +kernel
theorem dX5_part_45 : decode cX5_part 45 = .ok (.invokevirtual 100, 3) := by decide +kernel
theorem dX5_part_48 : decode cX5_part 48 = .ok (.ifCond .ne 11, 3) := by decide +kernel
theorem dX5_part_51 : decode cX5_part 51 = .ok (.aload_n 0, 1) := by decide +kernel
theorem dX5_part_52 : decode cX5_part 52 = .ok (.sipush (-203), 3) := by decide +kernel
theorem dX5_part_55 : decode cX5_part 55 = .ok (.invokevirtual 66, 3) := by decide +kernel
theorem dX5_part_58 : decode cX5_part 58 = .ok (.ireturn, 1) := by decide +kernel
theorem dX5_part_59 : decode cX5_part 59 = .ok (.aload_n 0, 1) := by decide +kernel
theorem dX5_part_60 : decode cX5_part 60 = .ok (.getfield 26, 3) := by decide +kernel
theorem dX5_part_63 : decode cX5_part 63 = .ok (.aload_n 0, 1) := by decide +kernel
theorem dX5_part_64 : decode cX5_part 64 = .ok (.getfield 11, 3) := by decide +kernel
theorem dX5_part_67 : decode cX5_part 67 = .ok (.iload_n 1, 1) := by decide +kernel
theorem dX5_part_68 : decode cX5_part 68 = .ok (.aaload, 1) := by decide +kernel
theorem dX5_part_69 : decode cX5_part 69 = .ok (.invokevirtual 104, 3) := by decide +kernel
theorem dX5_part_72 : decode cX5_part 72 = .ok (.pop, 1) := by decide +kernel
theorem dX5_part_73 : decode cX5_part 73 = .ok (.aload_n 0, 1) := by decide +kernel
theorem dX5_part_74 : decode cX5_part 74 = .ok (.getfield 26, 3) := by decide +kernel
theorem dX5_part_77 : decode cX5_part 77 = .ok (.invokevirtual 108, 3) := by decide +kernel
theorem dX5_part_80 : decode cX5_part 80 = .ok (.pop, 1) := by decide +kernel
theorem dX5_part_81 : decode cX5_part 81 = .ok (.aload_n 0, 1) := by decide +kernel
theorem dX5_part_82 : decode cX5_part 82 = .ok (.getfield 26, 3) := by decide +kernel
theorem dX5_part_85 : decode cX5_part 85 = .ok (.aload_n 0, 1) := by decide +kernel
theorem dX5_part_86 : decode cX5_part 86 = .ok (.getfield 19, 3) := by decide +kernel
theorem dX5_part_89 : decode cX5_part 89 = .ok (.iload_n 2, 1) := by decide +kernel
theorem dX5_part_90 : decode cX5_part 90 = .ok (.iload_n 3, 1) := by decide +kernel
theorem dX5_part_91 : decode cX5_part 91 = .ok (.invokevirtual 112, 3) := by decide +kernel
theorem dX5_part_94 : decode cX5_part 94 = .ok (.aload_n 0, 1) := by decide +kernel
theorem dX5_part_95 : decode cX5_part 95 = .ok (.aload_n 0, 1) := by decide +kernel
theorem dX5_part_96 : decode cX5_part 96 = .ok (.aload_n 0, 1) := by decide +kernel
theorem dX5_part_97 : decode cX5_part 97 = .ok (.getfield 11, 3) := by decide +kernel
theorem dX5_part_100 : decode cX5_part 100 = .ok (.iload 4, 2) := by decide +kernel
theorem dX5_part_102 : decode cX5_part 102 = .ok (.invokevirtual 74, 3) := by decide +kernel
theorem dX5_part_105 : decode cX5_part 105 = .ok (.invokevirtual 66, 3) := by decide +kernel
theorem dX5_part_108 : decode cX5_part 108 = .ok (.ireturn, 1) := by decide +kernel
theorem dX5_corner_0 : decode cX5_corner 0 = .ok (.iload_n 1, 1) := by decide +kernel
theorem dX5_corner_1 : decode cX5_corner 1 = .ok (.bipush (-60), 2) := by decide +kernel
theorem dX5_corner_3 : decode cX5_corner 3 = .ok (.bipush 60, 2) := by decide +kernel
theorem dX5_corner_5 : decode cX5_corner 5 = .ok (.invokestatic 59, 3) := by decide +kernel
theorem dX5_corner_8 : decode cX5_corner 8 = .ok (.ifCond .eq 14, 3) := by decide +kernel
theorem dX5_corner_11 : decode cX5_corner 11 = .ok (.iload_n 2, 1) := by decide +kernel
theorem dX5_corner_12 : decode cX5_corner 12 = .ok (.bipush (-60), 2) := by decide +kernel
theorem dX5_corner_14 : decode cX5_corner 14 = .ok (.bipush 60, 2) := by decide +kernel
theorem dX5_corner_16 : decode cX5_corner 16 = .ok (.invokestatic 59, 3) := by decide +kernel
theorem dX5_corner_19 : decode cX5_corner 19 = .ok (.ifCond .ne 11, 3) := by decide +kernel
theorem dX5_corner_22 : decode cX5_corner 22 = .ok (.aload_n 0, 1) := by decide +kernel
theorem dX5_corner_23 : decode cX5_corner 23 = .ok (.sipush (-202), 3) := by decide +kernel
theorem dX5_corner_26 : decode cX5_corner 26 = .ok (.invokevirtual 66, 3) := by decide +kernel
theorem dX5_corner_29 : decode cX5_corner 29 = .ok (.ireturn, 1) := by decide +kernel
theorem dX5_corner_30 : decode cX5_corner 30 = .ok (.aload_n 0, 1) := by decide +kernel
theorem dX5_corner_31 : decode cX5_corner 31 = .ok (.aload_n 0, 1) := by decide +kernel
theorem dX5_corner_32 : decode cX5_corner 32 = .ok (.getfield 33, 3) := by decide +kernel
theorem dX5_corner_35 : decode cX5_corner 35 = .ok (.iload_n 1, 1) := by decide +kernel
theorem dX5_corner_36 : decode cX5_corner 36 = .ok (.iload_n 2, 1) := by decide +kernel
theorem dX5_corner_37 : decode cX5_corner 37 = .ok (.invokevirtual 116, 3) := by decide +kernel
theorem dX5_corner_40 : decode cX5_corner 40 = .ok (.ifCond .eq 13, 3) := by decide +kernel
theorem dX5_corner_43 : decode cX5_corner 43 = .ok (.aload_n 0, 1) := by decide +kernel
theorem dX5_corner_44 : decode cX5_corner 44 = .ok (.getfield 33, 3) := by decide +kernel
theorem dX5_corner_47 : decode cX5_corner 47 = .ok (.getfield 119, 3) := by decide +kernel
theorem dX5_corner_50 : decode cX5_corner 50 = .ok (.goto 6, 3) := by decide +kernel
theorem dX5_corner_53 : decode cX5_corner 53 = .ok (.sipush (-204), 3) := by decide +kernel
theorem dX5_corner_56 : decode cX5_corner 56 = .ok (.invokevirtual 66, 3) := by decide +kernel
theorem dX5_corner_59 : decode cX5_corner 59 = .ok (.ireturn, 1) := by decide +kernel
theorem dX5_round_0 : decode cX5_round 0 = .ok (.iload_n 1, 1) := by decide +kernel
theorem dX5_round_1 : decode cX5_round 1 = .ok (.invokestatic 63, 3) := by decide +kernel
theorem dX5_round_4 : decode cX5_round 4 = .ok (.ifCond .ne 11, 3) := by decide +kernel
theorem dX5_round_7 : decode cX5_round 7 = .ok (.aload_n 0, 1) := by decide +kernel
theorem dX5_round_8 : decode cX5_round 8 = .ok (.sipush (-202), 3) := by decide +kernel
theorem dX5_round_11 : decode cX5_round 11 = .ok (.invokevirtual 66, 3) := by decide +kernel
theorem dX5_round_14 : decode cX5_round 14 = .ok (.ireturn, 1) := by decide +kernel
theorem dX5_round_15 : decode cX5_round 15 = .ok (.aload_n 0, 1) := by decide +kernel
theorem dX5_round_16 : decode cX5_round 16 = .ok (.getfield 33, 3) := by decide +kernel
theorem dX5_round_19 : decode cX5_round 19 = .ok (.getfield 119, 3) := by decide +kernel
theorem dX5_round_22 : decode cX5_round 22 = .ok (.iconst 3, 1) := by decide +kernel
theorem dX5_round_23 : decode cX5_round 23 = .ok (.if_icmp .ge 11, 3) := by decide +kernel
theorem dX5_round_26 : decode cX5_round 26 = .ok (.aload_n 0, 1) := by decide +kernel
theorem dX5_round_27 : decode cX5_round 27 = .ok (.sipush (-203), 3) := by decide +kernel
theorem dX5_round_30 : decode cX5_round 30 = .ok (.invokevirtual 66, 3) := by decide +kernel
theorem dX5_round_33 : decode cX5_round 33 = .ok (.ireturn, 1) := by decide +kernel
theorem dX5_round_34 : decode cX5_round 34 = .ok (.aload_n 0, 1) := by decide +kernel
theorem dX5_round_35 : decode cX5_round 35 = .ok (.getfield 33, 3) := by decide +kernel
theorem dX5_round_38 : decode cX5_round 38 = .ok (.aload_n 0, 1) := by decide +kernel
theorem dX5_round_39 : decode cX5_round 39 = .ok (.getfield 19, 3) := by decide +kernel
theorem dX5_round_42 : decode cX5_round 42 = .ok (.invokevirtual 123, 3) := by decide +kernel
theorem dX5_round_45 : decode cX5_round 45 = .ok (.aload_n 0, 1) := by decide +kernel
theorem dX5_round_46 : decode cX5_round 46 = .ok (.aload_n 0, 1) := by decide +kernel
theorem dX5_round_47 : decode cX5_round 47 = .ok (.getfield 11, 3) := by decide +kernel
theorem dX5_round_50 : decode cX5_round 50 = .ok (.iload_n 1, 1) := by decide +kernel
theorem dX5_round_51 : decode cX5_round 51 = .ok (.invokevirtual 74, 3) := by decide +kernel
theorem dX5_round_54 : decode cX5_round 54 = .ok (.istore_n 2, 1) := by decide +kernel
theorem dX5_round_55 : decode cX5_round 55 = .ok (.iload_n 2, 1) := by decide +kernel
theorem dX5_round_56 : decode cX5_round 56 = .ok (.sipush (-204), 3) := by decide +kernel
theorem dX5_round_59 : decode cX5_round 59 = .ok (.if_icmp .eq 11, 3) := by decide +kernel
theorem dX5_round_62 : decode cX5_round 62 = .ok (.aload_n 0, 1) := by decide +kernel
theorem dX5_round_63 : decode cX5_round 63 = .ok (.getfield 33, 3) := by decide +kernel
theorem dX5_round_66 : decode cX5_round 66 = .ok (.iconst 0, 1) := by decide +kernel
theorem dX5_round_67 : decode cX5_round 67 = .ok (.putfield 119, 3) := by decide +kernel
theorem dX5_round_70 : decode cX5_round 70 = .ok (.aload_n 0, 1) := by decide +kernel
theorem dX5_round_71 : decode cX5_round 71 = .ok (.iload_n 2, 1) := by decide +kernel
theorem dX5_round_72 : decode cX5_round 72 = .ok (.invokevirtual 66, 3) := by decide +kernel
theorem dX5_round_75 : decode cX5_round 75 = .ok (.ireturn, 1) := by decide +kernel
theorem dX5_draw_0 : decode cX5_draw 0 = .ok (.iload_n 1, 1) := by decide +kernel
theorem dX5_draw_1 : decode cX5_draw 1 = .ok (.iconst 0, 1) := by decide +kernel
theorem dX5_draw_2 : decode cX5_draw 2 = .ok (.ldc 126, 2) := by decide +kernel
theorem dX5_draw_4 : decode cX5_draw 4 = .ok (.invokestatic 59, 3) := by decide +kernel
theorem dX5_draw_7 : decode cX5_draw 7 = .ok (.ifCond .eq 20, 3) := by decide +kernel
theorem dX5_draw_10 : decode cX5_draw 10 = .ok (.iload_n 2, 1) := by decide +kernel
theorem dX5_draw_11 : decode cX5_draw 11 = .ok (.iconst 1, 1) := by decide +kernel
theorem dX5_draw_12 : decode cX5_draw 12 = .ok (.bipush 9, 2) := by decide +kernel
theorem dX5_draw_14 : decode cX5_draw 14 = .ok (.invokestatic 59, 3) := by decide +kernel
theorem dX5_draw_17 : decode cX5_draw 17 = .ok (.ifCond .eq 10, 3) := by decide +kernel
theorem dX5_draw_20 : decode cX5_draw 20 = .ok (.iload_n 3, 1) := by decide +kernel
theorem dX5_draw_21 : decode cX5_draw 21 = .ok (.invokestatic 63, 3) := by decide +kernel
theorem dX5_draw_24 : decode cX5_draw 24 = .ok (.ifCond .ne 11, 3) := by decide +kernel
theorem dX5_draw_27 : decode cX5_draw 27 = .ok (.aload_n 0, 1) := by decide +kernel
theorem dX5_draw_28 : decode cX5_draw 28 = .ok (.sipush (-202), 3) := by decide +kernel
theorem dX5_draw_31 : decode cX5_draw 31 = .ok (.invokevirtual 66, 3) := by decide +kernel
theorem dX5_draw_34 : decode cX5_draw 34 = .ok (.ireturn, 1) := by decide +kernel
theorem dX5_draw_35 : decode cX5_draw 35 = .ok (.aload_n 0, 1) := by decide +kernel
theorem dX5_draw_36 : decode cX5_draw 36 = .ok (.iload_n 1, 1) := by decide +kernel
theorem dX5_draw_37 : decode cX5_draw 37 = .ok (.iload_n 2, 1) := by decide +kernel
theorem dX5_draw_38 : decode cX5_draw 38 = .ok (.invokevirtual 127, 3) := by decide +kernel
theorem dX5_draw_41 : decode cX5_draw 41 = .ok (.aload_n 0, 1) := by decide +kernel
theorem dX5_draw_42 : decode cX5_draw 42 = .ok (.aload_n 0, 1) := by decide +kernel
theorem dX5_draw_43 : decode cX5_draw 43 = .ok (.aload_n 0, 1) := by decide +kernel
theorem dX5_draw_44 : decode cX5_draw 44 = .ok (.getfield 11, 3) := by decide +kernel
theorem dX5_draw_47 : decode cX5_draw 47 = .ok (.iload_n 3, 1) := by decide +kernel
theorem dX5_draw_48 : decode cX5_draw 48 = .ok (.invokevirtual 74, 3) := by decide +kernel
theorem dX5_draw_51 : decode cX5_draw 51 = .ok (.invokevirtual 66, 3) := by decide +kernel
theorem dX5_draw_54 : decode cX5_draw 54 = .ok (.ireturn, 1) := by decide +kernel
theorem dX5_hit_0 : decode cX5_hit 0 = .ok (.iload_n 1, 1) := by decide +kernel
theorem dX5_hit_1 : decode cX5_hit 1 = .ok (.invokestatic 63, 3) := by decide +kernel
theorem dX5_hit_4 : decode cX5_hit 4 = .ok (.ifCond .ne 11, 3) := by decide +kernel
theorem dX5_hit_7 : decode cX5_hit 7 = .ok (.aload_n 0, 1) := by decide +kernel
theorem dX5_hit_8 : decode cX5_hit 8 = .ok (.sipush (-202), 3) := by decide +kernel
theorem dX5_hit_11 : decode cX5_hit 11 = .ok (.invokevirtual 66, 3) := by decide +kernel
theorem dX5_hit_14 : decode cX5_hit 14 = .ok (.ireturn, 1) := by decide +kernel
theorem dX5_hit_15 : decode cX5_hit 15 = .ok (.iload_n 2, 1) := by decide +kernel
theorem dX5_hit_16 : decode cX5_hit 16 = .ok (.invokestatic 55, 3) := by decide +kernel
theorem dX5_hit_19 : decode cX5_hit 19 = .ok (.ifCond .eq 28, 3) := by decide +kernel
theorem dX5_hit_22 : decode cX5_hit 22 = .ok (.iload_n 3, 1) := by decide +kernel
theorem dX5_hit_23 : decode cX5_hit 23 = .ok (.invokestatic 55, 3) := by decide +kernel
theorem dX5_hit_26 : decode cX5_hit 26 = .ok (.ifCond .eq 21, 3) := by decide +kernel
theorem dX5_hit_29 : decode cX5_hit 29 = .ok (.aload_n 0, 1) := by decide +kernel
theorem dX5_hit_30 : decode cX5_hit 30 = .ok (.getfield 11, 3) := by decide +kernel
theorem dX5_hit_33 : decode cX5_hit 33 = .ok (.iload_n 1, 1) := by decide +kernel
theorem dX5_hit_34 : decode cX5_hit 34 = .ok (.aaload, 1) := by decide +kernel
theorem dX5_hit_35 : decode cX5_hit 35 = .ok (.iload_n 2, 1) := by decide +kernel
theorem dX5_hit_36 : decode cX5_hit 36 = .ok (.iload_n 3, 1) := by decide +kernel
theorem dX5_hit_37 : decode cX5_hit 37 = .ok (.invokevirtual 100, 3) := by decide +kernel
theorem dX5_hit_40 : decode cX5_hit 40 = .ok (.ifCond .eq 7, 3) := by decide +kernel
theorem dX5_hit_43 : decode cX5_hit 43 = .ok (.iconst 1, 1) := by decide +kernel
theorem dX5_hit_44 : decode cX5_hit 44 = .ok (.goto 4, 3) := by decide +kernel
theorem dX5_hit_47 : decode cX5_hit 47 = .ok (.iconst 0, 1) := by decide +kernel
theorem dX5_hit_48 : decode cX5_hit 48 = .ok (.ireturn, 1) := by decide +kernel
theorem dX5_of_0 : decode cX5_of 0 = .ok (.iload_n 1, 1) := by decide +kernel
theorem dX5_of_1 : decode cX5_of 1 = .ok (.invokestatic 63, 3) := by decide +kernel
theorem dX5_of_4 : decode cX5_of 4 = .ok (.ifCond .eq 13, 3) := by decide +kernel
theorem dX5_of_7 : decode cX5_of 7 = .ok (.iload_n 2, 1) := by decide +kernel
theorem dX5_of_8 : decode cX5_of 8 = .ok (.iconst 0, 1) := by decide +kernel
theorem dX5_of_9 : decode cX5_of 9 = .ok (.bipush 8, 2) := by decide +kernel
theorem dX5_of_11 : decode cX5_of 11 = .ok (.invokestatic 59, 3) := by decide +kernel
theorem dX5_of_14 : decode cX5_of 14 = .ok (.ifCond .ne 11, 3) := by decide +kernel
theorem dX5_of_17 : decode cX5_of 17 = .ok (.aload_n 0, 1) := by decide +kernel
theorem dX5_of_18 : decode cX5_of 18 = .ok (.sipush (-202), 3) := by decide +kernel
theorem dX5_of_21 : decode cX5_of 21 = .ok (.invokevirtual 66, 3) := by decide +kernel
theorem dX5_of_24 : decode cX5_of 24 = .ok (.ireturn, 1) := by decide +kernel
theorem dX5_of_25 : decode cX5_of 25 = .ok (.iload_n 2, 1) := by decide +kernel
theorem dX5_of_26 : decode cX5_of 26 = .ok (.lookupswitch 46 #[(0, 26), (4, 36)], 26) := by decide +kernel
theorem dX5_of_52 : decode cX5_of 52 = .ok (.aload_n 0, 1) := by decide +kernel
theorem dX5_of_53 : decode cX5_of 53 = .ok (.getfield 11, 3) := by decide +kernel
theorem dX5_of_56 : decode cX5_of 56 = .ok (.iload_n 1, 1) := by decide +kernel
theorem dX5_of_57 : decode cX5_of 57 = .ok (.aaload, 1) := by decide +kernel
theorem dX5_of_58 : decode cX5_of 58 = .ok (.invokevirtual 131, 3) := by decide +kernel
theorem dX5_of_61 : decode cX5_of 61 = .ok (.ireturn, 1) := by decide +kernel
theorem dX5_of_62 : decode cX5_of 62 = .ok (.aload_n 0, 1) := by decide +kernel
theorem dX5_of_63 : decode cX5_of 63 = .ok (.getfield 11, 3) := by decide +kernel
theorem dX5_of_66 : decode cX5_of 66 = .ok (.iload_n 1, 1) := by decide +kernel
theorem dX5_of_67 : decode cX5_of 67 = .ok (.aaload, 1) := by decide +kernel
theorem dX5_of_68 : decode cX5_of 68 = .ok (.invokevirtual 134, 3) := by decide +kernel
theorem dX5_of_71 : decode cX5_of 71 = .ok (.ireturn, 1) := by decide +kernel
theorem dX5_of_72 : decode cX5_of 72 = .ok (.aload_n 0, 1) := by decide +kernel
theorem dX5_of_73 : decode cX5_of 73 = .ok (.getfield 26, 3) := by decide +kernel
theorem dX5_of_76 : decode cX5_of 76 = .ok (.aload_n 0, 1) := by decide +kernel
theorem dX5_of_77 : decode cX5_of 77 = .ok (.getfield 11, 3) := by decide +kernel
theorem dX5_of_80 : decode cX5_of 80 = .ok (.iload_n 1, 1) := by decide +kernel
theorem dX5_of_81 : decode cX5_of 81 = .ok (.aaload, 1) := by decide +kernel
theorem dX5_of_82 : decode cX5_of 82 = .ok (.invokevirtual 104, 3) := by decide +kernel
theorem dX5_of_85 : decode cX5_of 85 = .ok (.pop, 1) := by decide +kernel
theorem dX5_of_86 : decode cX5_of 86 = .ok (.aload_n 0, 1) := by decide +kernel
theorem dX5_of_87 : decode cX5_of 87 = .ok (.getfield 26, 3) := by decide +kernel
theorem dX5_of_90 : decode cX5_of 90 = .ok (.iload_n 2, 1) := by decide +kernel
theorem dX5_of_91 : decode cX5_of 91 = .ok (.invokevirtual 137, 3) := by decide +kernel
theorem dX5_of_94 : decode cX5_of 94 = .ok (.ireturn, 1) := by decide +kernel
theorem dX5_span_0 : decode cX5_span 0 = .ok (.iload_n 1, 1) := by decide +kernel
theorem dX5_span_1 : decode cX5_span 1 = .ok (.invokestatic 63, 3) := by decide +kernel
theorem dX5_span_4 : decode cX5_span 4 = .ok (.ifCond .eq 16, 3) := by decide +kernel
theorem dX5_span_7 : decode cX5_span 7 = .ok (.iload_n 2, 1) := by decide +kernel
theorem dX5_span_8 : decode cX5_span 8 = .ok (.ifCond .lt 12, 3) := by decide +kernel
theorem dX5_span_11 : decode cX5_span 11 = .ok (.iload_n 3, 1) := by decide +kernel
theorem dX5_span_12 : decode cX5_span 12 = .ok (.iconst 0, 1) := by decide +kernel
theorem dX5_span_13 : decode cX5_span 13 = .ok (.iconst 3, 1) := by decide +kernel
theorem dX5_span_14 : decode cX5_span 14 = .ok (.invokestatic 59, 3) := by decide +kernel
theorem dX5_span_17 : decode cX5_span 17 = .ok (.ifCond .ne 11, 3) := by decide +kernel
theorem dX5_span_20 : decode cX5_span 20 = .ok (.aload_n 0, 1) := by decide +kernel
theorem dX5_span_21 : decode cX5_span 21 = .ok (.sipush (-202), 3) := by decide +kernel
theorem dX5_span_24 : decode cX5_span 24 = .ok (.invokevirtual 66, 3) := by decide +kernel
theorem dX5_span_27 : decode cX5_span 27 = .ok (.ireturn, 1) := by decide +kernel
theorem dX5_span_28 : decode cX5_span 28 = .ok (.aload_n 0, 1) := by decide +kernel
theorem dX5_span_29 : decode cX5_span 29 = .ok (.getfield 26, 3) := by decide +kernel
theorem dX5_span_32 : decode cX5_span 32 = .ok (.aload_n 0, 1) := by decide +kernel
theorem dX5_span_33 : decode cX5_span 33 = .ok (.getfield 11, 3) := by decide +kernel
theorem dX5_span_36 : decode cX5_span 36 = .ok (.iload_n 1, 1) := by decide +kernel
theorem dX5_span_37 : decode cX5_span 37 = .ok (.aaload, 1) := by decide +kernel
theorem dX5_span_38 : decode cX5_span 38 = .ok (.invokevirtual 104, 3) := by decide +kernel
theorem dX5_span_41 : decode cX5_span 41 = .ok (.pop, 1) := by decide +kernel
theorem dX5_span_42 : decode cX5_span 42 = .ok (.iload_n 2, 1) := by decide +kernel
theorem dX5_span_43 : decode cX5_span 43 = .ok (.aload_n 0, 1) := by decide +kernel
theorem dX5_span_44 : decode cX5_span 44 = .ok (.getfield 26, 3) := by decide +kernel
theorem dX5_span_47 : decode cX5_span 47 = .ok (.getfield 140, 3) := by decide +kernel
theorem dX5_span_50 : decode cX5_span 50 = .ok (.if_icmp .ge 15, 3) := by decide +kernel
theorem dX5_span_53 : decode cX5_span 53 = .ok (.aload_n 0, 1) := by decide +kernel
theorem dX5_span_54 : decode cX5_span 54 = .ok (.getfield 26, 3) := by decide +kernel
theorem dX5_span_57 : decode cX5_span 57 = .ok (.iload_n 2, 1) := by decide +kernel
theorem dX5_span_58 : decode cX5_span 58 = .ok (.iload_n 3, 1) := by decide +kernel
theorem dX5_span_59 : decode cX5_span 59 = .ok (.invokevirtual 143, 3) := by decide +kernel
theorem dX5_span_62 : decode cX5_span 62 = .ok (.goto 6, 3) := by decide +kernel
theorem dX5_span_65 : decode cX5_span 65 = .ok (.sipush (-201), 3) := by decide +kernel
theorem dX5_span_68 : decode cX5_span 68 = .ok (.ireturn, 1) := by decide +kernel
theorem dX5_two_0 : decode cX5_two 0 = .ok (.iload_n 1, 1) := by decide +kernel
theorem dX5_two_1 : decode cX5_two 1 = .ok (.invokestatic 63, 3) := by decide +kernel
theorem dX5_two_4 : decode cX5_two 4 = .ok (.ifCond .eq 19, 3) := by decide +kernel
theorem dX5_two_7 : decode cX5_two 7 = .ok (.iload_n 2, 1) := by decide +kernel
theorem dX5_two_8 : decode cX5_two 8 = .ok (.invokestatic 63, 3) := by decide +kernel
theorem dX5_two_11 : decode cX5_two 11 = .ok (.ifCond .eq 12, 3) := by decide +kernel
theorem dX5_two_14 : decode cX5_two 14 = .ok (.iload_n 3, 1) := by decide +kernel
theorem dX5_two_15 : decode cX5_two 15 = .ok (.iconst 0, 1) := by decide +kernel
theorem dX5_two_16 : decode cX5_two 16 = .ok (.iconst 3, 1) := by decide +kernel
theorem dX5_two_17 : decode cX5_two 17 = .ok (.invokestatic 59, 3) := by decide +kernel
theorem dX5_two_20 : decode cX5_two 20 = .ok (.ifCond .ne 11, 3) := by decide +kernel
theorem dX5_two_23 : decode cX5_two 23 = .ok (.aload_n 0, 1) := by decide +kernel
theorem dX5_two_24 : decode cX5_two 24 = .ok (.sipush (-202), 3) := by decide +kernel
theorem dX5_two_27 : decode cX5_two 27 = .ok (.invokevirtual 66, 3) := by decide +kernel
theorem dX5_two_30 : decode cX5_two 30 = .ok (.ireturn, 1) := by decide +kernel
theorem dX5_two_31 : decode cX5_two 31 = .ok (.iload_n 3, 1) := by decide +kernel
theorem dX5_two_32 : decode cX5_two 32 = .ok (.tableswitch 114 0 2 #[28, 74, 94], 28) := by decide +kernel
theorem dX5_two_60 : decode cX5_two 60 = .ok (.aload_n 0, 1) := by decide +kernel
theorem dX5_two_61 : decode cX5_two 61 = .ok (.getfield 11, 3) := by decide +kernel
theorem dX5_two_64 : decode cX5_two 64 = .ok (.iload_n 1, 1) := by decide +kernel
theorem dX5_two_65 : decode cX5_two 65 = .ok (.aaload, 1) := by decide +kernel
theorem dX5_two_66 : decode cX5_two 66 = .ok (.aload_n 0, 1) := by decide +kernel
theorem dX5_two_67 : decode cX5_two 67 = .ok (.getfield 11, 3) := by decide +kernel
theorem dX5_two_70 : decode cX5_two 70 = .ok (.iload_n 2, 1) := by decide +kernel
theorem dX5_two_71 : decode cX5_two 71 = .ok (.aaload, 1) := by decide +kernel
theorem dX5_two_72 : decode cX5_two 72 = .ok (.invokevirtual 147, 3) := by decide +kernel
theorem dX5_two_75 : decode cX5_two 75 = .ok (.ifCond .eq 25, 3) := by decide +kernel
theorem dX5_two_78 : decode cX5_two 78 = .ok (.aload_n 0, 1) := by decide +kernel
theorem dX5_two_79 : decode cX5_two 79 = .ok (.getfield 11, 3) := by decide +kernel
theorem dX5_two_82 : decode cX5_two 82 = .ok (.iload_n 2, 1) := by decide +kernel
theorem dX5_two_83 : decode cX5_two 83 = .ok (.aaload, 1) := by decide +kernel
theorem dX5_two_84 : decode cX5_two 84 = .ok (.aload_n 0, 1) := by decide +kernel
theorem dX5_two_85 : decode cX5_two 85 = .ok (.getfield 11, 3) := by decide +kernel
theorem dX5_two_88 : decode cX5_two 88 = .ok (.iload_n 1, 1) := by decide +kernel
theorem dX5_two_89 : decode cX5_two 89 = .ok (.aaload, 1) := by decide +kernel
theorem dX5_two_90 : decode cX5_two 90 = .ok (.invokevirtual 147, 3) := by decide +kernel
theorem dX5_two_93 : decode cX5_two 93 = .ok (.ifCond .eq 7, 3) := by decide +kernel
theorem dX5_two_96 : decode cX5_two 96 = .ok (.iconst 1, 1) := by decide +kernel
theorem dX5_two_97 : decode cX5_two 97 = .ok (.goto 4, 3) := by decide +kernel
theorem dX5_two_100 : decode cX5_two 100 = .ok (.iconst 0, 1) := by decide +kernel
theorem dX5_two_101 : decode cX5_two 101 = .ok (.istore 4, 2) := by decide +kernel
theorem dX5_two_103 : decode cX5_two 103 = .ok (.goto 60, 3) := by decide +kernel
theorem dX5_two_106 : decode cX5_two 106 = .ok (.aload_n 0, 1) := by decide +kernel
theorem dX5_two_107 : decode cX5_two 107 = .ok (.getfield 11, 3) := by decide +kernel
theorem dX5_two_110 : decode cX5_two 110 = .ok (.iload_n 1, 1) := by decide +kernel
theorem dX5_two_111 : decode cX5_two 111 = .ok (.aaload, 1) := by decide +kernel
theorem dX5_two_112 : decode cX5_two 112 = .ok (.aload_n 0, 1) := by decide +kernel
theorem dX5_two_113 : decode cX5_two 113 = .ok (.getfield 11, 3) := by decide +kernel
theorem dX5_two_116 : decode cX5_two 116 = .ok (.iload_n 2, 1) := by decide +kernel
theorem dX5_two_117 : decode cX5_two 117 = .ok (.aaload, 1) := by decide +kernel
theorem dX5_two_118 : decode cX5_two 118 = .ok (.invokevirtual 147, 3) := by decide +kernel
theorem dX5_two_121 : decode cX5_two 121 = .ok (.istore 4, 2) := by decide +kernel
theorem dX5_two_123 : decode cX5_two 123 = .ok (.goto 40, 3) := by decide +kernel
theorem dX5_two_126 : decode cX5_two 126 = .ok (.aload_n 0, 1) := by decide +kernel
theorem dX5_two_127 : decode cX5_two 127 = .ok (.getfield 11, 3) := by decide +kernel
theorem dX5_two_130 : decode cX5_two 130 = .ok (.iload_n 1, 1) := by decide +kernel
theorem dX5_two_131 : decode cX5_two 131 = .ok (.aaload, 1) := by decide +kernel
theorem dX5_two_132 : decode cX5_two 132 = .ok (.aload_n 0, 1) := by decide +kernel
theorem dX5_two_133 : decode cX5_two 133 = .ok (.getfield 11, 3) := by decide +kernel
theorem dX5_two_136 : decode cX5_two 136 = .ok (.iload_n 2, 1) := by decide +kernel
theorem dX5_two_137 : decode cX5_two 137 = .ok (.aaload, 1) := by decide +kernel
theorem dX5_two_138 : decode cX5_two 138 = .ok (.invokevirtual 150, 3) := by decide +kernel
theorem dX5_two_141 : decode cX5_two 141 = .ok (.istore 4, 2) := by decide +kernel
theorem dX5_two_143 : decode cX5_two 143 = .ok (.goto 20, 3) := by decide +kernel
theorem dX5_two_146 : decode cX5_two 146 = .ok (.aload_n 0, 1) := by decide +kernel
theorem dX5_two_147 : decode cX5_two 147 = .ok (.getfield 11, 3) := by decide +kernel
theorem dX5_two_150 : decode cX5_two 150 = .ok (.iload_n 1, 1) := by decide +kernel
theorem dX5_two_151 : decode cX5_two 151 = .ok (.aaload, 1) := by decide +kernel
theorem dX5_two_152 : decode cX5_two 152 = .ok (.aload_n 0, 1) := by decide +kernel
theorem dX5_two_153 : decode cX5_two 153 = .ok (.getfield 11, 3) := by decide +kernel
theorem dX5_two_156 : decode cX5_two 156 = .ok (.iload_n 2, 1) := by decide +kernel
theorem dX5_two_157 : decode cX5_two 157 = .ok (.aaload, 1) := by decide +kernel
theorem dX5_two_158 : decode cX5_two 158 = .ok (.invokevirtual 153, 3) := by decide +kernel
theorem dX5_two_161 : decode cX5_two 161 = .ok (.istore 4, 2) := by decide +kernel
theorem dX5_two_163 : decode cX5_two 163 = .ok (.iload 4, 2) := by decide +kernel
theorem dX5_two_165 : decode cX5_two 165 = .ok (.ifCond .eq 7, 3) := by decide +kernel
theorem dX5_two_168 : decode cX5_two 168 = .ok (.iconst 1, 1) := by decide +kernel
theorem dX5_two_169 : decode cX5_two 169 = .ok (.goto 4, 3) := by decide +kernel
theorem dX5_two_172 : decode cX5_two 172 = .ok (.iconst 0, 1) := by decide +kernel
theorem dX5_two_173 : decode cX5_two 173 = .ok (.ireturn, 1) := by decide +kernel
theorem dX5_common_0 : decode cX5_common 0 = .ok (.iload_n 1, 1) := by decide +kernel
theorem dX5_common_1 : decode cX5_common 1 = .ok (.invokestatic 63, 3) := by decide +kernel
theorem dX5_common_4 : decode cX5_common 4 = .ok (.ifCond .eq 10, 3) := by decide +kernel
theorem dX5_common_7 : decode cX5_common 7 = .ok (.iload_n 2, 1) := by decide +kernel
theorem dX5_common_8 : decode cX5_common 8 = .ok (.invokestatic 63, 3) := by decide +kernel
theorem dX5_common_11 : decode cX5_common 11 = .ok (.ifCond .ne 11, 3) := by decide +kernel
theorem dX5_common_14 : decode cX5_common 14 = .ok (.aload_n 0, 1) := by decide +kernel
theorem dX5_common_15 : decode cX5_common 15 = .ok (.sipush (-202), 3) := by decide +kernel
theorem dX5_common_18 : decode cX5_common 18 = .ok (.invokevirtual 66, 3) := by decide +kernel
theorem dX5_common_21 : decode cX5_common 21 = .ok (.ireturn, 1) := by decide +kernel
theorem dX5_common_22 : decode cX5_common 22 = .ok (.aload_n 0, 1) := by decide +kernel
theorem dX5_common_23 : decode cX5_common 23 = .ok (.getfield 19, 3) := by decide +kernel
theorem dX5_common_26 : decode cX5_common 26 = .ok (.iconst 1, 1) := by decide +kernel
theorem dX5_common_27 : decode cX5_common 27 = .ok (.aload_n 0, 1) := by decide +kernel
theorem dX5_common_28 : decode cX5_common 28 = .ok (.getfield 11, 3) := by decide +kernel
theorem dX5_common_31 : decode cX5_common 31 = .ok (.iload_n 1, 1) := by decide +kernel
theorem dX5_common_32 : decode cX5_common 32 = .ok (.aaload, 1) := by decide +kernel
theorem dX5_common_33 : decode cX5_common 33 = .ok (.aload_n 0, 1) := by decide +kernel
theorem dX5_common_34 : decode cX5_common 34 = .ok (.getfield 11, 3) := by decide +kernel
theorem dX5_common_37 : decode cX5_common 37 = .ok (.iload_n 2, 1) := by decide +kernel
theorem dX5_common_38 : decode cX5_common 38 = .ok (.aaload, 1) := by decide +kernel
theorem dX5_common_39 : decode cX5_common 39 = .ok (.invokevirtual 78, 3) := by decide +kernel
theorem dX5_common_42 : decode cX5_common 42 = .ok (.aload_n 0, 1) := by decide +kernel
theorem dX5_common_43 : decode cX5_common 43 = .ok (.getfield 19, 3) := by decide +kernel
theorem dX5_common_46 : decode cX5_common 46 = .ok (.invokevirtual 131, 3) := by decide +kernel
theorem dX5_common_49 : decode cX5_common 49 = .ok (.ireturn, 1) := by decide +kernel
theorem dX5_across_0 : decode cX5_across 0 = .ok (.iload_n 1, 1) := by decide +kernel
theorem dX5_across_1 : decode cX5_across 1 = .ok (.invokestatic 63, 3) := by decide +kernel
theorem dX5_across_4 : decode cX5_across 4 = .ok (.ifCond .eq 19, 3) := by decide +kernel
theorem dX5_across_7 : decode cX5_across 7 = .ok (.iload_n 2, 1) := by decide +kernel
theorem dX5_across_8 : decode cX5_across 8 = .ok (.iconst 0, 1) := by decide +kernel
theorem dX5_across_9 : decode cX5_across 9 = .ok (.iconst 1, 1) := by decide +kernel
theorem dX5_across_10 : decode cX5_across 10 = .ok (.invokestatic 59, 3) := by decide +kernel
theorem dX5_across_13 : decode cX5_across 13 = .ok (.ifCond .eq 10, 3) := by decide +kernel
theorem dX5_across_16 : decode cX5_across 16 = .ok (.iload_n 3, 1) := by decide +kernel
theorem dX5_across_17 : decode cX5_across 17 = .ok (.invokestatic 55, 3) := by decide +kernel
theorem dX5_across_20 : decode cX5_across 20 = .ok (.ifCond .ne 11, 3) := by decide +kernel
theorem dX5_across_23 : decode cX5_across 23 = .ok (.aload_n 0, 1) := by decide +kernel
theorem dX5_across_24 : decode cX5_across 24 = .ok (.sipush (-202), 3) := by decide +kernel
theorem dX5_across_27 : decode cX5_across 27 = .ok (.invokevirtual 66, 3) := by decide +kernel
theorem dX5_across_30 : decode cX5_across 30 = .ok (.ireturn, 1) := by decide +kernel
theorem dX5_across_31 : decode cX5_across 31 = .ok (.iload_n 2, 1) := by decide +kernel
theorem dX5_across_32 : decode cX5_across 32 = .ok (.ifCond .ne 16, 3) := by decide +kernel
theorem dX5_across_35 : decode cX5_across 35 = .ok (.aload_n 0, 1) := by decide +kernel
theorem dX5_across_36 : decode cX5_across 36 = .ok (.getfield 11, 3) := by decide +kernel
theorem dX5_across_39 : decode cX5_across 39 = .ok (.iload_n 1, 1) := by decide +kernel
theorem dX5_across_40 : decode cX5_across 40 = .ok (.aaload, 1) := by decide +kernel
theorem dX5_across_41 : decode cX5_across 41 = .ok (.iload_n 3, 1) := by decide +kernel
theorem dX5_across_42 : decode cX5_across 42 = .ok (.invokevirtual 156, 3) := by decide +kernel
theorem dX5_across_45 : decode cX5_across 45 = .ok (.goto 13, 3) := by decide +kernel
theorem dX5_across_48 : decode cX5_across 48 = .ok (.aload_n 0, 1) := by decide +kernel
theorem dX5_across_49 : decode cX5_across 49 = .ok (.getfield 11, 3) := by decide +kernel
theorem dX5_across_52 : decode cX5_across 52 = .ok (.iload_n 1, 1) := by decide +kernel
theorem dX5_across_53 : decode cX5_across 53 = .ok (.aaload, 1) := by decide +kernel
theorem dX5_across_54 : decode cX5_across 54 = .ok (.iload_n 3, 1) := by decide +kernel
theorem dX5_across_55 : decode cX5_across 55 = .ok (.invokevirtual 159, 3) := by decide +kernel
theorem dX5_across_58 : decode cX5_across 58 = .ok (.ireturn, 1) := by decide +kernel
theorem dX5_apart_0 : decode cX5_apart 0 = .ok (.iload_n 1, 1) := by decide +kernel
theorem dX5_apart_1 : decode cX5_apart 1 = .ok (.invokestatic 63, 3) := by decide +kernel
theorem dX5_apart_4 : decode cX5_apart 4 = .ok (.ifCond .eq 10, 3) := by decide +kernel
theorem dX5_apart_7 : decode cX5_apart 7 = .ok (.iload_n 2, 1) := by decide +kernel
theorem dX5_apart_8 : decode cX5_apart 8 = .ok (.invokestatic 63, 3) := by decide +kernel
theorem dX5_apart_11 : decode cX5_apart 11 = .ok (.ifCond .ne 11, 3) := by decide +kernel
theorem dX5_apart_14 : decode cX5_apart 14 = .ok (.aload_n 0, 1) := by decide +kernel
theorem dX5_apart_15 : decode cX5_apart 15 = .ok (.sipush (-202), 3) := by decide +kernel
theorem dX5_apart_18 : decode cX5_apart 18 = .ok (.invokevirtual 66, 3) := by decide +kernel
theorem dX5_apart_21 : decode cX5_apart 21 = .ok (.ireturn, 1) := by decide +kernel
theorem dX5_apart_22 : decode cX5_apart 22 = .ok (.aload_n 0, 1) := by decide +kernel
theorem dX5_apart_23 : decode cX5_apart 23 = .ok (.getfield 19, 3) := by decide +kernel
theorem dX5_apart_26 : decode cX5_apart 26 = .ok (.aload_n 0, 1) := by decide +kernel
theorem dX5_apart_27 : decode cX5_apart 27 = .ok (.getfield 11, 3) := by decide +kernel
theorem dX5_apart_30 : decode cX5_apart 30 = .ok (.iload_n 1, 1) := by decide +kernel
theorem dX5_apart_31 : decode cX5_apart 31 = .ok (.aaload, 1) := by decide +kernel
theorem dX5_apart_32 : decode cX5_apart 32 = .ok (.invokevirtual 93, 3) := by decide +kernel
theorem dX5_apart_35 : decode cX5_apart 35 = .ok (.iconst 0, 1) := by decide +kernel
theorem dX5_apart_36 : decode cX5_apart 36 = .ok (.istore_n 3, 1) := by decide +kernel
theorem dX5_apart_37 : decode cX5_apart 37 = .ok (.iload_n 3, 1) := by decide +kernel
theorem dX5_apart_38 : decode cX5_apart 38 = .ok (.bipush 9, 2) := by decide +kernel
theorem dX5_apart_40 : decode cX5_apart 40 = .ok (.if_icmp .gt 35, 3) := by decide +kernel
theorem dX5_apart_43 : decode cX5_apart 43 = .ok (.aload_n 0, 1) := by decide +kernel
theorem dX5_apart_44 : decode cX5_apart 44 = .ok (.getfield 19, 3) := by decide +kernel
theorem dX5_apart_47 : decode cX5_apart 47 = .ok (.aload_n 0, 1) := by decide +kernel
theorem dX5_apart_48 : decode cX5_apart 48 = .ok (.getfield 11, 3) := by decide +kernel
theorem dX5_apart_51 : decode cX5_apart 51 = .ok (.iload_n 2, 1) := by decide +kernel
theorem dX5_apart_52 : decode cX5_apart 52 = .ok (.aaload, 1) := by decide +kernel
theorem dX5_apart_53 : decode cX5_apart 53 = .ok (.invokevirtual 150, 3) := by decide +kernel
theorem dX5_apart_56 : decode cX5_apart 56 = .ok (.ifCond .eq 5, 3) := by decide +kernel
theorem dX5_apart_59 : decode cX5_apart 59 = .ok (.iload_n 3, 1) := by decide +kernel
theorem dX5_apart_60 : decode cX5_apart 60 = .ok (.ireturn, 1) := by decide +kernel
theorem dX5_apart_61 : decode cX5_apart 61 = .ok (.aload_n 0, 1) := by decide +kernel
theorem dX5_apart_62 : decode cX5_apart 62 = .ok (.getfield 19, 3) := by decide +kernel
theorem dX5_apart_65 : decode cX5_apart 65 = .ok (.iconst 0, 1) := by decide +kernel
theorem dX5_apart_66 : decode cX5_apart 66 = .ok (.invokevirtual 162, 3) := by decide +kernel
theorem dX5_apart_69 : decode cX5_apart 69 = .ok (.iinc 3 1, 3) := by decide +kernel
theorem dX5_apart_72 : decode cX5_apart 72 = .ok (.goto (-35), 3) := by decide +kernel
theorem dX5_apart_75 : decode cX5_apart 75 = .ok (.sipush (-201), 3) := by decide +kernel
theorem dX5_apart_78 : decode cX5_apart 78 = .ok (.ireturn, 1) := by decide +kernel
theorem dX5_type_0 : decode cX5_type 0 = .ok (.iload_n 1, 1) := by decide +kernel
theorem dX5_type_1 : decode cX5_type 1 = .ok (.iconst 0, 1) := by decide +kernel
theorem dX5_type_2 : decode cX5_type 2 = .ok (.bipush 127, 2) := by decide +kernel
theorem dX5_type_4 : decode cX5_type 4 = .ok (.invokestatic 59, 3) := by decide +kernel
theorem dX5_type_7 : decode cX5_type 7 = .ok (.ifCond .ne 11, 3) := by decide +kernel
theorem dX5_type_10 : decode cX5_type 10 = .ok (.aload_n 0, 1) := by decide +kernel
theorem dX5_type_11 : decode cX5_type 11 = .ok (.sipush (-202), 3) := by decide +kernel
theorem dX5_type_14 : decode cX5_type 14 = .ok (.invokevirtual 66, 3) := by decide +kernel
theorem dX5_type_17 : decode cX5_type 17 = .ok (.ireturn, 1) := by decide +kernel
theorem dX5_type_18 : decode cX5_type 18 = .ok (.aload_n 0, 1) := by decide +kernel
theorem dX5_type_19 : decode cX5_type 19 = .ok (.aload_n 0, 1) := by decide +kernel
theorem dX5_type_20 : decode cX5_type 20 = .ok (.getfield 40, 3) := by decide +kernel
theorem dX5_type_23 : decode cX5_type 23 = .ok (.iload_n 1, 1) := by decide +kernel
theorem dX5_type_24 : decode cX5_type 24 = .ok (.invokevirtual 166, 3) := by decide +kernel
theorem dX5_type_27 : decode cX5_type 27 = .ok (.ifCond .eq 13, 3) := by decide +kernel
theorem dX5_type_30 : decode cX5_type 30 = .ok (.aload_n 0, 1) := by decide +kernel
theorem dX5_type_31 : decode cX5_type 31 = .ok (.getfield 40, 3) := by decide +kernel
theorem dX5_type_34 : decode cX5_type 34 = .ok (.getfield 168, 3) := by decide +kernel
theorem dX5_type_37 : decode cX5_type 37 = .ok (.goto 6, 3) := by decide +kernel
theorem dX5_type_40 : decode cX5_type 40 = .ok (.sipush (-204), 3) := by decide +kernel
theorem dX5_type_43 : decode cX5_type 43 = .ok (.invokevirtual 66, 3) := by decide +kernel
theorem dX5_type_46 : decode cX5_type 46 = .ok (.ireturn, 1) := by decide +kernel
theorem dX5_clear_0 : decode cX5_clear 0 = .ok (.aload_n 0, 1) := by decide +kernel
theorem dX5_clear_1 : decode cX5_clear 1 = .ok (.getfield 40, 3) := by decide +kernel
theorem dX5_clear_4 : decode cX5_clear 4 = .ok (.getfield 168, 3) := by decide +kernel
theorem dX5_clear_7 : decode cX5_clear 7 = .ok (.istore_n 1, 1) := by decide +kernel
theorem dX5_clear_8 : decode cX5_clear 8 = .ok (.aload_n 0, 1) := by decide +kernel
theorem dX5_clear_9 : decode cX5_clear 9 = .ok (.getfield 40, 3) := by decide +kernel
theorem dX5_clear_12 : decode cX5_clear 12 = .ok (.iconst 0, 1) := by decide +kernel
theorem dX5_clear_13 : decode cX5_clear 13 = .ok (.putfield 168, 3) := by decide +kernel
theorem dX5_clear_16 : decode cX5_clear 16 = .ok (.iload_n 1, 1) := by decide +kernel
theorem dX5_clear_17 : decode cX5_clear 17 = .ok (.ireturn, 1) := by decide +kernel
theorem dX5_does_0 : decode cX5_does 0 = .ok (.aload_n 0, 1) := by decide +kernel
theorem dX5_does_1 : decode cX5_does 1 = .ok (.getfield 40, 3) := by decide +kernel
theorem dX5_does_4 : decode cX5_does 4 = .ok (.invokevirtual 171, 3) := by decide +kernel
theorem dX5_does_7 : decode cX5_does 7 = .ok (.istore_n 1, 1) := by decide +kernel
theorem dX5_does_8 : decode cX5_does 8 = .ok (.iload_n 1, 1) := by decide +kernel
theorem dX5_does_9 : decode cX5_does 9 = .ok (.ifCond .lt 9, 3) := by decide +kernel
theorem dX5_does_12 : decode cX5_does 12 = .ok (.sipush (-300), 3) := by decide +kernel
theorem dX5_does_15 : decode cX5_does 15 = .ok (.iload_n 1, 1) := by decide +kernel
theorem dX5_does_16 : decode cX5_does 16 = .ok (.isub, 1) := by decide +kernel
theorem dX5_does_17 : decode cX5_does 17 = .ok (.ireturn, 1) := by decide +kernel
theorem dX5_does_18 : decode cX5_does 18 = .ok (.iconst 0, 1) := by decide +kernel
theorem dX5_does_19 : decode cX5_does 19 = .ok (.istore_n 2, 1) := by decide +kernel
theorem dX5_does_20 : decode cX5_does 20 = .ok (.iload_n 2, 1) := by decide +kernel
theorem dX5_does_21 : decode cX5_does 21 = .ok (.iconst 5, 1) := by decide +kernel
theorem dX5_does_22 : decode cX5_does 22 = .ok (.if_icmp .ge 24, 3) := by decide +kernel
theorem dX5_does_25 : decode cX5_does 25 = .ok (.aload_n 0, 1) := by decide +kernel
theorem dX5_does_26 : decode cX5_does 26 = .ok (.getfield 15, 3) := by decide +kernel
theorem dX5_does_29 : decode cX5_does 29 = .ok (.iload_n 2, 1) := by decide +kernel
theorem dX5_does_30 : decode cX5_does 30 = .ok (.aaload, 1) := by decide +kernel
theorem dX5_does_31 : decode cX5_does 31 = .ok (.aload_n 0, 1) := by decide +kernel
theorem dX5_does_32 : decode cX5_does 32 = .ok (.getfield 11, 3) := by decide +kernel
theorem dX5_does_35 : decode cX5_does 35 = .ok (.iload_n 2, 1) := by decide +kernel
theorem dX5_does_36 : decode cX5_does 36 = .ok (.aaload, 1) := by decide +kernel
theorem dX5_does_37 : decode cX5_does 37 = .ok (.invokevirtual 93, 3) := by decide +kernel
theorem dX5_does_40 : decode cX5_does 40 = .ok (.iinc 2 1, 3) := by decide +kernel
theorem dX5_does_43 : decode cX5_does 43 = .ok (.goto (-23), 3) := by decide +kernel
theorem dX5_does_46 : decode cX5_does 46 = .ok (.iconst 0, 1) := by decide +kernel
theorem dX5_does_47 : decode cX5_does 47 = .ok (.istore_n 2, 1) := by decide +kernel
theorem dX5_does_48 : decode cX5_does 48 = .ok (.iload_n 2, 1) := by decide +kernel
theorem dX5_does_49 : decode cX5_does 49 = .ok (.aload_n 0, 1) := by decide +kernel
theorem dX5_does_50 : decode cX5_does 50 = .ok (.getfield 40, 3) := by decide +kernel
theorem dX5_does_53 : decode cX5_does 53 = .ok (.getfield 174, 3) := by decide +kernel
theorem dX5_does_56 : decode cX5_does 56 = .ok (.if_icmp .ge 25, 3) := by decide +kernel
theorem dX5_does_59 : decode cX5_does 59 = .ok (.aload_n 0, 1) := by decide +kernel
theorem dX5_does_60 : decode cX5_does 60 = .ok (.iload_n 2, 1) := by decide +kernel
theorem dX5_does_61 : decode cX5_does 61 = .ok (.invokevirtual 175, 3) := by decide +kernel
theorem dX5_does_64 : decode cX5_does 64 = .ok (.istore_n 3, 1) := by decide +kernel
theorem dX5_does_65 : decode cX5_does 65 = .ok (.iload_n 3, 1) := by decide +kernel
theorem dX5_does_66 : decode cX5_does 66 = .ok (.ifCond .ge 9, 3) := by decide +kernel
theorem dX5_does_69 : decode cX5_does 69 = .ok (.aload_n 0, 1) := by decide +kernel
theorem dX5_does_70 : decode cX5_does 70 = .ok (.iload_n 3, 1) := by decide +kernel
theorem dX5_does_71 : decode cX5_does 71 = .ok (.invokevirtual 66, 3) := by decide +kernel
theorem dX5_does_74 : decode cX5_does 74 = .ok (.ireturn, 1) := by decide +kernel
theorem dX5_does_75 : decode cX5_does 75 = .ok (.iinc 2 1, 3) := by decide +kernel
theorem dX5_does_78 : decode cX5_does 78 = .ok (.goto (-30), 3) := by decide +kernel
theorem dX5_does_81 : decode cX5_does 81 = .ok (.aload_n 0, 1) := by decide +kernel
theorem dX5_does_82 : decode cX5_does 82 = .ok (.getfield 11, 3) := by decide +kernel
theorem dX5_does_85 : decode cX5_does 85 = .ok (.astore_n 2, 1) := by decide +kernel
theorem dX5_does_86 : decode cX5_does 86 = .ok (.aload_n 0, 1) := by decide +kernel
theorem dX5_does_87 : decode cX5_does 87 = .ok (.aload_n 0, 1) := by decide +kernel
theorem dX5_does_88 : decode cX5_does 88 = .ok (.getfield 15, 3) := by decide +kernel
theorem dX5_does_91 : decode cX5_does 91 = .ok (.putfield 11, 3) := by decide +kernel
theorem dX5_does_94 : decode cX5_does 94 = .ok (.aload_n 0, 1) := by decide +kernel
theorem dX5_does_95 : decode cX5_does 95 = .ok (.aload_n 2, 1) := by decide +kernel
theorem dX5_does_96 : decode cX5_does 96 = .ok (.putfield 15, 3) := by decide +kernel
theorem dX5_does_99 : decode cX5_does 99 = .ok (.aload_n 0, 1) := by decide +kernel
theorem dX5_does_100 : decode cX5_does 100 = .ok (.getfield 40, 3) := by decide +kernel
theorem dX5_does_103 : decode cX5_does 103 = .ok (.getfield 174, 3) := by decide +kernel
theorem dX5_does_106 : decode cX5_does 106 = .ok (.ireturn, 1) := by decide +kernel
theorem dX5_writing_0 : decode cX5_writing 0 = .ok (.iload_n 1, 1) := by decide +kernel
theorem dX5_writing_1 : decode cX5_writing 1 = .ok (.invokestatic 63, 3) := by decide +kernel
theorem dX5_writing_4 : decode cX5_writing 4 = .ok (.ifCond .eq 8, 3) := by decide +kernel
theorem dX5_writing_7 : decode cX5_writing 7 = .ok (.iload_n 2, 1) := by decide +kernel
theorem dX5_writing_8 : decode cX5_writing 8 = .ok (.iconst (-1), 1) := by decide +kernel
theorem dX5_writing_9 : decode cX5_writing 9 = .ok (.if_icmp .ge 11, 3) := by decide +kernel
theorem dX5_writing_12 : decode cX5_writing 12 = .ok (.aload_n 0, 1) := by decide +kernel
theorem dX5_writing_13 : decode cX5_writing 13 = .ok (.sipush (-202), 3) := by decide +kernel
theorem dX5_writing_16 : decode cX5_writing 16 = .ok (.invokevirtual 66, 3) := by decide +kernel
theorem dX5_writing_19 : decode cX5_writing 19 = .ok (.ireturn, 1) := by decide +kernel
theorem dX5_writing_20 : decode cX5_writing 20 = .ok (.aload_n 0, 1) := by decide +kernel
theorem dX5_writing_21 : decode cX5_writing 21 = .ok (.getfield 47, 3) := by decide +kernel
theorem dX5_writing_24 : decode cX5_writing 24 = .ok (.iload_n 2, 1) := by decide +kernel
theorem dX5_writing_25 : decode cX5_writing 25 = .ok (.invokevirtual 178, 3) := by decide +kernel
theorem dX5_writing_28 : decode cX5_writing 28 = .ok (.aload_n 0, 1) := by decide +kernel
theorem dX5_writing_29 : decode cX5_writing 29 = .ok (.iload_n 1, 1) := by decide +kernel
theorem dX5_writing_30 : decode cX5_writing 30 = .ok (.invokevirtual 182, 3) := by decide +kernel
theorem dX5_writing_33 : decode cX5_writing 33 = .ok (.iload_n 2, 1) := by decide +kernel
theorem dX5_writing_34 : decode cX5_writing 34 = .ok (.iconst (-1), 1) := by decide +kernel
theorem dX5_writing_35 : decode cX5_writing 35 = .ok (.if_icmp .ne 13, 3) := by decide +kernel
theorem dX5_writing_38 : decode cX5_writing 38 = .ok (.aload_n 0, 1) := by decide +kernel
theorem dX5_writing_39 : decode cX5_writing 39 = .ok (.getfield 47, 3) := by decide +kernel
theorem dX5_writing_42 : decode cX5_writing 42 = .ok (.getfield 185, 3) := by decide +kernel
theorem dX5_writing_45 : decode cX5_writing 45 = .ok (.goto 10, 3) := by decide +kernel
theorem dX5_writing_48 : decode cX5_writing 48 = .ok (.aload_n 0, 1) := by decide +kernel
theorem dX5_writing_49 : decode cX5_writing 49 = .ok (.getfield 47, 3) := by decide +kernel
theorem dX5_writing_52 : decode cX5_writing 52 = .ok (.getfield 186, 3) := by decide +kernel
theorem dX5_writing_55 : decode cX5_writing 55 = .ok (.ireturn, 1) := by decide +kernel
theorem dX5_mark_0 : decode cX5_mark 0 = .ok (.iload_n 1, 1) := by decide +kernel
theorem dX5_mark_1 : decode cX5_mark 1 = .ok (.invokestatic 63, 3) := by decide +kernel
theorem dX5_mark_4 : decode cX5_mark 4 = .ok (.ifCond .ne 11, 3) := by decide +kernel
theorem dX5_mark_7 : decode cX5_mark 7 = .ok (.aload_n 0, 1) := by decide +kernel
theorem dX5_mark_8 : decode cX5_mark 8 = .ok (.sipush (-202), 3) := by decide +kernel
theorem dX5_mark_11 : decode cX5_mark 11 = .ok (.invokevirtual 66, 3) := by decide +kernel
theorem dX5_mark_14 : decode cX5_mark 14 = .ok (.ireturn, 1) := by decide +kernel
theorem dX5_mark_15 : decode cX5_mark 15 = .ok (.aload_n 0, 1) := by decide +kernel
theorem dX5_mark_16 : decode cX5_mark 16 = .ok (.getfield 47, 3) := by decide +kernel
theorem dX5_mark_19 : decode cX5_mark 19 = .ok (.iconst (-1), 1) := by decide +kernel
theorem dX5_mark_20 : decode cX5_mark 20 = .ok (.invokevirtual 178, 3) := by decide +kernel
theorem dX5_mark_23 : decode cX5_mark 23 = .ok (.aload_n 0, 1) := by decide +kernel
theorem dX5_mark_24 : decode cX5_mark 24 = .ok (.iload_n 1, 1) := by decide +kernel
theorem dX5_mark_25 : decode cX5_mark 25 = .ok (.invokevirtual 182, 3) := by decide +kernel
theorem dX5_mark_28 : decode cX5_mark 28 = .ok (.aload_n 0, 1) := by decide +kernel
theorem dX5_mark_29 : decode cX5_mark 29 = .ok (.getfield 47, 3) := by decide +kernel
theorem dX5_mark_32 : decode cX5_mark 32 = .ok (.getfield 189, 3) := by decide +kernel
theorem dX5_mark_35 : decode cX5_mark 35 = .ok (.ireturn, 1) := by decide +kernel
theorem dX5_told_0 : decode cX5_told 0 = .ok (.iload_n 1, 1) := by decide +kernel
theorem dX5_told_1 : decode cX5_told 1 = .ok (.tableswitch 67 0 5 #[39, 39, 39, 46, 54, 62], 39) := by decide +kernel
theorem dX5_told_40 : decode cX5_told 40 = .ok (.aload_n 0, 1) := by decide +kernel
theorem dX5_told_41 : decode cX5_told 41 = .ok (.getfield 51, 3) := by decide +kernel
theorem dX5_told_44 : decode cX5_told 44 = .ok (.iload_n 1, 1) := by decide +kernel
theorem dX5_told_45 : decode cX5_told 45 = .ok (.iaload, 1) := by decide +kernel
theorem dX5_told_46 : decode cX5_told 46 = .ok (.ireturn, 1) := by decide +kernel
theorem dX5_told_47 : decode cX5_told 47 = .ok (.aload_n 0, 1) := by decide +kernel
theorem dX5_told_48 : decode cX5_told 48 = .ok (.getfield 40, 3) := by decide +kernel
theorem dX5_told_51 : decode cX5_told 51 = .ok (.getfield 168, 3) := by decide +kernel
theorem dX5_told_54 : decode cX5_told 54 = .ok (.ireturn, 1) := by decide +kernel
theorem dX5_told_55 : decode cX5_told 55 = .ok (.aload_n 0, 1) := by decide +kernel
theorem dX5_told_56 : decode cX5_told 56 = .ok (.getfield 33, 3) := by decide +kernel
theorem dX5_told_59 : decode cX5_told 59 = .ok (.getfield 119, 3) := by decide +kernel
theorem dX5_told_62 : decode cX5_told 62 = .ok (.ireturn, 1) := by decide +kernel
theorem dX5_told_63 : decode cX5_told 63 = .ok (.aload_n 0, 1) := by decide +kernel
theorem dX5_told_64 : decode cX5_told 64 = .ok (.invokevirtual 192, 3) := by decide +kernel
theorem dX5_told_67 : decode cX5_told 67 = .ok (.ireturn, 1) := by decide +kernel
theorem dX5_told_68 : decode cX5_told 68 = .ok (.aload_n 0, 1) := by decide +kernel
theorem dX5_told_69 : decode cX5_told 69 = .ok (.sipush (-202), 3) := by decide +kernel
theorem dX5_told_72 : decode cX5_told 72 = .ok (.invokevirtual 66, 3) := by decide +kernel
theorem dX5_told_75 : decode cX5_told 75 = .ok (.ireturn, 1) := by decide +kernel
theorem dX5_digest_0 : decode cX5_digest 0 = .ok (.ldc2_w 195, 3) := by decide +kernel
theorem dX5_digest_3 : decode cX5_digest 3 = .ok (.lstore_n 1, 1) := by decide +kernel
theorem dX5_digest_4 : decode cX5_digest 4 = .ok (.iconst 0, 1) := by decide +kernel
theorem dX5_digest_5 : decode cX5_digest 5 = .ok (.istore_n 3, 1) := by decide +kernel
theorem dX5_digest_6 : decode cX5_digest 6 = .ok (.iload_n 3, 1) := by decide +kernel
theorem dX5_digest_7 : decode cX5_digest 7 = .ok (.iconst 5, 1) := by decide +kernel
theorem dX5_digest_8 : decode cX5_digest 8 = .ok (.if_icmp .gt 22, 3) := by decide +kernel
theorem dX5_digest_11 : decode cX5_digest 11 = .ok (.ldc2_w 197, 3) := by decide +kernel
theorem dX5_digest_14 : decode cX5_digest 14 = .ok (.lload_n 1, 1) := by decide +kernel
theorem dX5_digest_15 : decode cX5_digest 15 = .ok (.lmul, 1) := by decide +kernel
theorem dX5_digest_16 : decode cX5_digest 16 = .ok (.aload_n 0, 1) := by decide +kernel
theorem dX5_digest_17 : decode cX5_digest 17 = .ok (.iload_n 3, 1) := by decide +kernel
theorem dX5_digest_18 : decode cX5_digest 18 = .ok (.invokevirtual 199, 3) := by decide +kernel
theorem dX5_digest_21 : decode cX5_digest 21 = .ok (.i2l, 1) := by decide +kernel
theorem dX5_digest_22 : decode cX5_digest 22 = .ok (.ladd, 1) := by decide +kernel
theorem dX5_digest_23 : decode cX5_digest 23 = .ok (.lstore_n 1, 1) := by decide +kernel
theorem dX5_digest_24 : decode cX5_digest 24 = .ok (.iinc 3 1, 3) := by decide +kernel
theorem dX5_digest_27 : decode cX5_digest 27 = .ok (.goto (-21), 3) := by decide +kernel
theorem dX5_digest_30 : decode cX5_digest 30 = .ok (.iconst 0, 1) := by decide +kernel
theorem dX5_digest_31 : decode cX5_digest 31 = .ok (.istore_n 3, 1) := by decide +kernel
theorem dX5_digest_32 : decode cX5_digest 32 = .ok (.iload_n 3, 1) := by decide +kernel
theorem dX5_digest_33 : decode cX5_digest 33 = .ok (.iconst 5, 1) := by decide +kernel
theorem dX5_digest_34 : decode cX5_digest 34 = .ok (.if_icmp .ge 64, 3) := by decide +kernel
theorem dX5_digest_37 : decode cX5_digest 37 = .ok (.ldc2_w 197, 3) := by decide +kernel
theorem dX5_digest_40 : decode cX5_digest 40 = .ok (.lload_n 1, 1) := by decide +kernel
theorem dX5_digest_41 : decode cX5_digest 41 = .ok (.lmul, 1) := by decide +kernel
theorem dX5_digest_42 : decode cX5_digest 42 = .ok (.aload_n 0, 1) := by decide +kernel
theorem dX5_digest_43 : decode cX5_digest 43 = .ok (.iload_n 3, 1) := by decide +kernel
theorem dX5_digest_44 : decode cX5_digest 44 = .ok (.iconst 0, 1) := by decide +kernel
theorem dX5_digest_45 : decode cX5_digest 45 = .ok (.invokevirtual 202, 3) := by decide +kernel
theorem dX5_digest_48 : decode cX5_digest 48 = .ok (.i2l, 1) := by decide +kernel
theorem dX5_digest_49 : decode cX5_digest 49 = .ok (.ladd, 1) := by decide +kernel
theorem dX5_digest_50 : decode cX5_digest 50 = .ok (.lstore_n 1, 1) := by decide +kernel
theorem dX5_digest_51 : decode cX5_digest 51 = .ok (.ldc2_w 197, 3) := by decide +kernel
theorem dX5_digest_54 : decode cX5_digest 54 = .ok (.lload_n 1, 1) := by decide +kernel
theorem dX5_digest_55 : decode cX5_digest 55 = .ok (.lmul, 1) := by decide +kernel
theorem dX5_digest_56 : decode cX5_digest 56 = .ok (.aload_n 0, 1) := by decide +kernel
theorem dX5_digest_57 : decode cX5_digest 57 = .ok (.iload_n 3, 1) := by decide +kernel
theorem dX5_digest_58 : decode cX5_digest 58 = .ok (.iconst 1, 1) := by decide +kernel
theorem dX5_digest_59 : decode cX5_digest 59 = .ok (.invokevirtual 202, 3) := by decide +kernel
theorem dX5_digest_62 : decode cX5_digest 62 = .ok (.i2l, 1) := by decide +kernel
theorem dX5_digest_63 : decode cX5_digest 63 = .ok (.ladd, 1) := by decide +kernel
theorem dX5_digest_64 : decode cX5_digest 64 = .ok (.lstore_n 1, 1) := by decide +kernel
theorem dX5_digest_65 : decode cX5_digest 65 = .ok (.ldc2_w 197, 3) := by decide +kernel
theorem dX5_digest_68 : decode cX5_digest 68 = .ok (.lload_n 1, 1) := by decide +kernel
theorem dX5_digest_69 : decode cX5_digest 69 = .ok (.lmul, 1) := by decide +kernel
theorem dX5_digest_70 : decode cX5_digest 70 = .ok (.aload_n 0, 1) := by decide +kernel
theorem dX5_digest_71 : decode cX5_digest 71 = .ok (.iload_n 3, 1) := by decide +kernel
theorem dX5_digest_72 : decode cX5_digest 72 = .ok (.iconst 2, 1) := by decide +kernel
theorem dX5_digest_73 : decode cX5_digest 73 = .ok (.invokevirtual 202, 3) := by decide +kernel
theorem dX5_digest_76 : decode cX5_digest 76 = .ok (.i2l, 1) := by decide +kernel
theorem dX5_digest_77 : decode cX5_digest 77 = .ok (.ladd, 1) := by decide +kernel
theorem dX5_digest_78 : decode cX5_digest 78 = .ok (.lstore_n 1, 1) := by decide +kernel
theorem dX5_digest_79 : decode cX5_digest 79 = .ok (.ldc2_w 197, 3) := by decide +kernel
theorem dX5_digest_82 : decode cX5_digest 82 = .ok (.lload_n 1, 1) := by decide +kernel
theorem dX5_digest_83 : decode cX5_digest 83 = .ok (.lmul, 1) := by decide +kernel
theorem dX5_digest_84 : decode cX5_digest 84 = .ok (.aload_n 0, 1) := by decide +kernel
theorem dX5_digest_85 : decode cX5_digest 85 = .ok (.iload_n 3, 1) := by decide +kernel
theorem dX5_digest_86 : decode cX5_digest 86 = .ok (.invokevirtual 205, 3) := by decide +kernel
theorem dX5_digest_89 : decode cX5_digest 89 = .ok (.i2l, 1) := by decide +kernel
theorem dX5_digest_90 : decode cX5_digest 90 = .ok (.ladd, 1) := by decide +kernel
theorem dX5_digest_91 : decode cX5_digest 91 = .ok (.lstore_n 1, 1) := by decide +kernel
theorem dX5_digest_92 : decode cX5_digest 92 = .ok (.iinc 3 1, 3) := by decide +kernel
theorem dX5_digest_95 : decode cX5_digest 95 = .ok (.goto (-63), 3) := by decide +kernel
theorem dX5_digest_98 : decode cX5_digest 98 = .ok (.lload_n 1, 1) := by decide +kernel
theorem dX5_digest_99 : decode cX5_digest 99 = .ok (.lreturn, 1) := by decide +kernel
theorem dX5_within_0 : decode cX5_within 0 = .ok (.iload_n 0, 1) := by decide +kernel
theorem dX5_within_1 : decode cX5_within 1 = .ok (.iload_n 1, 1) := by decide +kernel
theorem dX5_within_2 : decode cX5_within 2 = .ok (.if_icmp .lt 12, 3) := by decide +kernel
theorem dX5_within_5 : decode cX5_within 5 = .ok (.iload_n 0, 1) := by decide +kernel
theorem dX5_within_6 : decode cX5_within 6 = .ok (.iload_n 2, 1) := by decide +kernel
theorem dX5_within_7 : decode cX5_within 7 = .ok (.if_icmp .gt 7, 3) := by decide +kernel
theorem dX5_within_10 : decode cX5_within 10 = .ok (.iconst 1, 1) := by decide +kernel
theorem dX5_within_11 : decode cX5_within 11 = .ok (.goto 4, 3) := by decide +kernel
theorem dX5_within_14 : decode cX5_within 14 = .ok (.iconst 0, 1) := by decide +kernel
theorem dX5_within_15 : decode cX5_within 15 = .ok (.ireturn, 1) := by decide +kernel
theorem dX5_isPlace_0 : decode cX5_isPlace 0 = .ok (.iload_n 0, 1) := by decide +kernel
theorem dX5_isPlace_1 : decode cX5_isPlace 1 = .ok (.bipush (-60), 2) := by decide +kernel
theorem dX5_isPlace_3 : decode cX5_isPlace 3 = .ok (.bipush 59, 2) := by decide +kernel
theorem dX5_isPlace_5 : decode cX5_isPlace 5 = .ok (.invokestatic 59, 3) := by decide +kernel
theorem dX5_isPlace_8 : decode cX5_isPlace 8 = .ok (.ireturn, 1) := by decide +kernel
theorem dX5_isArea_0 : decode cX5_isArea 0 = .ok (.iload_n 0, 1) := by decide +kernel
theorem dX5_isArea_1 : decode cX5_isArea 1 = .ok (.iconst 0, 1) := by decide +kernel
theorem dX5_isArea_2 : decode cX5_isArea 2 = .ok (.iconst 4, 1) := by decide +kernel
theorem dX5_isArea_3 : decode cX5_isArea 3 = .ok (.invokestatic 59, 3) := by decide +kernel
theorem dX5_isArea_6 : decode cX5_isArea 6 = .ok (.ireturn, 1) := by decide +kernel
theorem dX5_answer_0 : decode cX5_answer 0 = .ok (.iload_n 1, 1) := by decide +kernel
theorem dX5_answer_1 : decode cX5_answer 1 = .ok (.sipush (-204), 3) := by decide +kernel
theorem dX5_answer_4 : decode cX5_answer 4 = .ok (.sipush (-202), 3) := by decide +kernel
theorem dX5_answer_7 : decode cX5_answer 7 = .ok (.invokestatic 59, 3) := by decide +kernel
theorem dX5_answer_10 : decode cX5_answer 10 = .ok (.ifCond .eq 17, 3) := by decide +kernel
theorem dX5_answer_13 : decode cX5_answer 13 = .ok (.aload_n 0, 1) := by decide +kernel
theorem dX5_answer_14 : decode cX5_answer 14 = .ok (.getfield 51, 3) := by decide +kernel
theorem dX5_answer_17 : decode cX5_answer 17 = .ok (.sipush (-202), 3) := by decide +kernel
theorem dX5_answer_20 : decode cX5_answer 20 = .ok (.iload_n 1, 1) := by decide +kernel
theorem dX5_answer_21 : decode cX5_answer 21 = .ok (.isub, 1) := by decide +kernel
theorem dX5_answer_22 : decode cX5_answer 22 = .ok (.dup2, 1) := by decide +kernel
theorem dX5_answer_23 : decode cX5_answer 23 = .ok (.iaload, 1) := by decide +kernel
theorem dX5_answer_24 : decode cX5_answer 24 = .ok (.iconst 1, 1) := by decide +kernel
theorem dX5_answer_25 : decode cX5_answer 25 = .ok (.iadd, 1) := by decide +kernel
theorem dX5_answer_26 : decode cX5_answer 26 = .ok (.iastore, 1) := by decide +kernel
theorem dX5_answer_27 : decode cX5_answer 27 = .ok (.iload_n 1, 1) := by decide +kernel
theorem dX5_answer_28 : decode cX5_answer 28 = .ok (.ireturn, 1) := by decide +kernel
theorem dX5_keep_0 : decode cX5_keep 0 = .ok (.aload_n 0, 1) := by decide +kernel
theorem dX5_keep_1 : decode cX5_keep 1 = .ok (.getfield 26, 3) := by decide +kernel
theorem dX5_keep_4 : decode cX5_keep 4 = .ok (.aload_n 0, 1) := by decide +kernel
theorem dX5_keep_5 : decode cX5_keep 5 = .ok (.getfield 19, 3) := by decide +kernel
theorem dX5_keep_8 : decode cX5_keep 8 = .ok (.invokevirtual 104, 3) := by decide +kernel
theorem dX5_keep_11 : decode cX5_keep 11 = .ok (.ifCond .ne 7, 3) := by decide +kernel
theorem dX5_keep_14 : decode cX5_keep 14 = .ok (.sipush (-204), 3) := by decide +kernel
theorem dX5_keep_17 : decode cX5_keep 17 = .ok (.ireturn, 1) := by decide +kernel
theorem dX5_keep_18 : decode cX5_keep 18 = .ok (.aload_n 1, 1) := by decide +kernel
theorem dX5_keep_19 : decode cX5_keep 19 = .ok (.iload_n 2, 1) := by decide +kernel
theorem dX5_keep_20 : decode cX5_keep 20 = .ok (.aaload, 1) := by decide +kernel
theorem dX5_keep_21 : decode cX5_keep 21 = .ok (.astore_n 3, 1) := by decide +kernel
theorem dX5_keep_22 : decode cX5_keep 22 = .ok (.aload_n 1, 1) := by decide +kernel
theorem dX5_keep_23 : decode cX5_keep 23 = .ok (.iload_n 2, 1) := by decide +kernel
theorem dX5_keep_24 : decode cX5_keep 24 = .ok (.aload_n 0, 1) := by decide +kernel
theorem dX5_keep_25 : decode cX5_keep 25 = .ok (.getfield 19, 3) := by decide +kernel
theorem dX5_keep_28 : decode cX5_keep 28 = .ok (.aastore, 1) := by decide +kernel
theorem dX5_keep_29 : decode cX5_keep 29 = .ok (.aload_n 0, 1) := by decide +kernel
theorem dX5_keep_30 : decode cX5_keep 30 = .ok (.aload_n 3, 1) := by decide +kernel
theorem dX5_keep_31 : decode cX5_keep 31 = .ok (.putfield 19, 3) := by decide +kernel
theorem dX5_keep_34 : decode cX5_keep 34 = .ok (.aload_n 1, 1) := by decide +kernel
theorem dX5_keep_35 : decode cX5_keep 35 = .ok (.iload_n 2, 1) := by decide +kernel
theorem dX5_keep_36 : decode cX5_keep 36 = .ok (.aaload, 1) := by decide +kernel
theorem dX5_keep_37 : decode cX5_keep 37 = .ok (.invokevirtual 131, 3) := by decide +kernel
theorem dX5_keep_40 : decode cX5_keep 40 = .ok (.ireturn, 1) := by decide +kernel
theorem dX5_layBox_0 : decode cX5_layBox 0 = .ok (.iload_n 1, 1) := by decide +kernel
theorem dX5_layBox_1 : decode cX5_layBox 1 = .ok (.iload_n 3, 1) := by decide +kernel
theorem dX5_layBox_2 : decode cX5_layBox 2 = .ok (.iadd, 1) := by decide +kernel
theorem dX5_layBox_3 : decode cX5_layBox 3 = .ok (.bipush 60, 2) := by decide +kernel
theorem dX5_layBox_5 : decode cX5_layBox 5 = .ok (.if_icmp .gt 12, 3) := by decide +kernel
theorem dX5_layBox_8 : decode cX5_layBox 8 = .ok (.iload_n 2, 1) := by decide +kernel
theorem dX5_layBox_9 : decode cX5_layBox 9 = .ok (.iload 4, 2) := by decide +kernel
theorem dX5_layBox_11 : decode cX5_layBox 11 = .ok (.iadd, 1) := by decide +kernel
theorem dX5_layBox_12 : decode cX5_layBox 12 = .ok (.bipush 60, 2) := by decide +kernel
theorem dX5_layBox_14 : decode cX5_layBox 14 = .ok (.if_icmp .le 5, 3) := by decide +kernel
theorem dX5_layBox_17 : decode cX5_layBox 17 = .ok (.iconst 0, 1) := by decide +kernel
theorem dX5_layBox_18 : decode cX5_layBox 18 = .ok (.ireturn, 1) := by decide +kernel
theorem dX5_layBox_19 : decode cX5_layBox 19 = .ok (.aload_n 0, 1) := by decide +kernel
theorem dX5_layBox_20 : decode cX5_layBox 20 = .ok (.getfield 19, 3) := by decide +kernel
theorem dX5_layBox_23 : decode cX5_layBox 23 = .ok (.invokevirtual 208, 3) := by decide +kernel
theorem dX5_layBox_26 : decode cX5_layBox 26 = .ok (.aload_n 0, 1) := by decide +kernel
theorem dX5_layBox_27 : decode cX5_layBox 27 = .ok (.getfield 19, 3) := by decide +kernel
theorem dX5_layBox_30 : decode cX5_layBox 30 = .ok (.iload_n 1, 1) := by decide +kernel
theorem dX5_layBox_31 : decode cX5_layBox 31 = .ok (.iload_n 2, 1) := by decide +kernel
theorem dX5_layBox_32 : decode cX5_layBox 32 = .ok (.iload_n 1, 1) := by decide +kernel
theorem dX5_layBox_33 : decode cX5_layBox 33 = .ok (.iload_n 3, 1) := by decide +kernel
theorem dX5_layBox_34 : decode cX5_layBox 34 = .ok (.iadd, 1) := by decide +kernel
theorem dX5_layBox_35 : decode cX5_layBox 35 = .ok (.iload_n 2, 1) := by decide +kernel
theorem dX5_layBox_36 : decode cX5_layBox 36 = .ok (.iload 4, 2) := by decide +kernel
theorem dX5_layBox_38 : decode cX5_layBox 38 = .ok (.iadd, 1) := by decide +kernel
theorem dX5_layBox_39 : decode cX5_layBox 39 = .ok (.invokevirtual 211, 3) := by decide +kernel
theorem dX5_layBox_42 : decode cX5_layBox 42 = .ok (.iconst 1, 1) := by decide +kernel
theorem dX5_layBox_43 : decode cX5_layBox 43 = .ok (.ireturn, 1) := by decide +kernel
theorem dX5_layMoved_0 : decode cX5_layMoved 0 = .ok (.aload_n 0, 1) := by decide +kernel
theorem dX5_layMoved_1 : decode cX5_layMoved 1 = .ok (.getfield 26, 3) := by decide +kernel
theorem dX5_layMoved_4 : decode cX5_layMoved 4 = .ok (.aload_n 1, 1) := by decide +kernel
theorem dX5_layMoved_5 : decode cX5_layMoved 5 = .ok (.invokevirtual 104, 3) := by decide +kernel
theorem dX5_layMoved_8 : decode cX5_layMoved 8 = .ok (.pop, 1) := by decide +kernel
theorem dX5_layMoved_9 : decode cX5_layMoved 9 = .ok (.aload_n 0, 1) := by decide +kernel
theorem dX5_layMoved_10 : decode cX5_layMoved 10 = .ok (.getfield 26, 3) := by decide +kernel
theorem dX5_layMoved_13 : decode cX5_layMoved 13 = .ok (.iload_n 2, 1) := by decide +kernel
theorem dX5_layMoved_14 : decode cX5_layMoved 14 = .ok (.iload_n 3, 1) := by decide +kernel
theorem dX5_layMoved_15 : decode cX5_layMoved 15 = .ok (.invokevirtual 215, 3) := by decide +kernel
theorem dX5_layMoved_18 : decode cX5_layMoved 18 = .ok (.ifCond .ne 5, 3) := by decide +kernel
theorem dX5_layMoved_21 : decode cX5_layMoved 21 = .ok (.iconst 0, 1) := by decide +kernel
theorem dX5_layMoved_22 : decode cX5_layMoved 22 = .ok (.ireturn, 1) := by decide +kernel
theorem dX5_layMoved_23 : decode cX5_layMoved 23 = .ok (.aload_n 0, 1) := by decide +kernel
theorem dX5_layMoved_24 : decode cX5_layMoved 24 = .ok (.getfield 26, 3) := by decide +kernel
theorem dX5_layMoved_27 : decode cX5_layMoved 27 = .ok (.aload_n 0, 1) := by decide +kernel
theorem dX5_layMoved_28 : decode cX5_layMoved 28 = .ok (.getfield 19, 3) := by decide +kernel
theorem dX5_layMoved_31 : decode cX5_layMoved 31 = .ok (.iload_n 2, 1) := by decide +kernel
theorem dX5_layMoved_32 : decode cX5_layMoved 32 = .ok (.iload_n 3, 1) := by decide +kernel
theorem dX5_layMoved_33 : decode cX5_layMoved 33 = .ok (.invokevirtual 218, 3) := by decide +kernel
theorem dX5_layMoved_36 : decode cX5_layMoved 36 = .ok (.iconst 1, 1) := by decide +kernel
theorem dX5_layMoved_37 : decode cX5_layMoved 37 = .ok (.ireturn, 1) := by decide +kernel
theorem dX5_layGrown_0 : decode cX5_layGrown 0 = .ok (.aload_n 0, 1) := by decide +kernel
theorem dX5_layGrown_1 : decode cX5_layGrown 1 = .ok (.getfield 19, 3) := by decide +kernel
theorem dX5_layGrown_4 : decode cX5_layGrown 4 = .ok (.aload_n 1, 1) := by decide +kernel
theorem dX5_layGrown_5 : decode cX5_layGrown 5 = .ok (.invokevirtual 93, 3) := by decide +kernel
theorem dX5_layGrown_8 : decode cX5_layGrown 8 = .ok (.iload_n 2, 1) := by decide +kernel
theorem dX5_layGrown_9 : decode cX5_layGrown 9 = .ok (.ifCond .ge 10, 3) := by decide +kernel
theorem dX5_layGrown_12 : decode cX5_layGrown 12 = .ok (.aload_n 0, 1) := by decide +kernel
theorem dX5_layGrown_13 : decode cX5_layGrown 13 = .ok (.getfield 19, 3) := by decide +kernel
theorem dX5_layGrown_16 : decode cX5_layGrown 16 = .ok (.invokevirtual 97, 3) := by decide +kernel
theorem dX5_layGrown_19 : decode cX5_layGrown 19 = .ok (.iload_n 2, 1) := by decide +kernel
theorem dX5_layGrown_20 : decode cX5_layGrown 20 = .ok (.invokestatic 220, 3) := by decide +kernel
theorem dX5_layGrown_23 : decode cX5_layGrown 23 = .ok (.istore_n 3, 1) := by decide +kernel
theorem dX5_layGrown_24 : decode cX5_layGrown 24 = .ok (.iload_n 3, 1) := by decide +kernel
theorem dX5_layGrown_25 : decode cX5_layGrown 25 = .ok (.ifCond .le 25, 3) := by decide +kernel
theorem dX5_layGrown_28 : decode cX5_layGrown 28 = .ok (.aload_n 0, 1) := by decide +kernel
theorem dX5_layGrown_29 : decode cX5_layGrown 29 = .ok (.getfield 19, 3) := by decide +kernel
theorem dX5_layGrown_32 : decode cX5_layGrown 32 = .ok (.iload_n 2, 1) := by decide +kernel
theorem dX5_layGrown_33 : decode cX5_layGrown 33 = .ok (.ifCond .ge 7, 3) := by decide +kernel
theorem dX5_layGrown_36 : decode cX5_layGrown 36 = .ok (.iconst 1, 1) := by decide +kernel
theorem dX5_layGrown_37 : decode cX5_layGrown 37 = .ok (.goto 4, 3) := by decide +kernel
theorem dX5_layGrown_40 : decode cX5_layGrown 40 = .ok (.iconst 0, 1) := by decide +kernel
theorem dX5_layGrown_41 : decode cX5_layGrown 41 = .ok (.invokevirtual 162, 3) := by decide +kernel
theorem dX5_layGrown_44 : decode cX5_layGrown 44 = .ok (.iinc 3 (-1), 3) := by decide +kernel
theorem dX5_layGrown_47 : decode cX5_layGrown 47 = .ok (.goto (-23), 3) := by decide +kernel
theorem dX5_layGrown_50 : decode cX5_layGrown 50 = .ok (.iload_n 2, 1) := by decide +kernel
theorem dX5_layGrown_51 : decode cX5_layGrown 51 = .ok (.ifCond .ge 10, 3) := by decide +kernel
theorem dX5_layGrown_54 : decode cX5_layGrown 54 = .ok (.aload_n 0, 1) := by decide +kernel
theorem dX5_layGrown_55 : decode cX5_layGrown 55 = .ok (.getfield 19, 3) := by decide +kernel
theorem dX5_layGrown_58 : decode cX5_layGrown 58 = .ok (.invokevirtual 97, 3) := by decide +kernel
theorem dX5_layGrown_61 : decode cX5_layGrown 61 = .ok (.return_, 1) := by decide +kernel
theorem dX5_layTurned_0 : decode cX5_layTurned 0 = .ok (.aload_n 0, 1) := by decide +kernel
theorem dX5_layTurned_1 : decode cX5_layTurned 1 = .ok (.getfield 26, 3) := by decide +kernel
theorem dX5_layTurned_4 : decode cX5_layTurned 4 = .ok (.aload_n 1, 1) := by decide +kernel
theorem dX5_layTurned_5 : decode cX5_layTurned 5 = .ok (.invokevirtual 104, 3) := by decide +kernel
theorem dX5_layTurned_8 : decode cX5_layTurned 8 = .ok (.pop, 1) := by decide +kernel
theorem dX5_layTurned_9 : decode cX5_layTurned 9 = .ok (.aload_n 0, 1) := by decide +kernel
theorem dX5_layTurned_10 : decode cX5_layTurned 10 = .ok (.getfield 26, 3) := by decide +kernel
theorem dX5_layTurned_13 : decode cX5_layTurned 13 = .ok (.aload_n 0, 1) := by decide +kernel
theorem dX5_layTurned_14 : decode cX5_layTurned 14 = .ok (.getfield 19, 3) := by decide +kernel
theorem dX5_layTurned_17 : decode cX5_layTurned 17 = .ok (.iload_n 2, 1) := by decide +kernel
theorem dX5_layTurned_18 : decode cX5_layTurned 18 = .ok (.invokevirtual 225, 3) := by decide +kernel
theorem dX5_layTurned_21 : decode cX5_layTurned 21 = .ok (.return_, 1) := by decide +kernel
theorem dX5_layDrawn_0 : decode cX5_layDrawn 0 = .ok (.aload_n 0, 1) := by decide +kernel
theorem dX5_layDrawn_1 : decode cX5_layDrawn 1 = .ok (.getfield 19, 3) := by decide +kernel
theorem dX5_layDrawn_4 : decode cX5_layDrawn 4 = .ok (.invokevirtual 208, 3) := by decide +kernel
theorem dX5_layDrawn_7 : decode cX5_layDrawn 7 = .ok (.iload_n 1, 1) := by decide +kernel
theorem dX5_layDrawn_8 : decode cX5_layDrawn 8 = .ok (.i2l, 1) := by decide +kernel
theorem dX5_layDrawn_9 : decode cX5_layDrawn 9 = .ok (.lstore_n 3, 1) := by decide +kernel
theorem dX5_layDrawn_10 : decode cX5_layDrawn 10 = .ok (.iconst 0, 1) := by decide +kernel
theorem dX5_layDrawn_11 : decode cX5_layDrawn 11 = .ok (.istore 5, 2) := by decide +kernel
theorem dX5_layDrawn_13 : decode cX5_layDrawn 13 = .ok (.iload 5, 2) := by decide +kernel
theorem dX5_layDrawn_15 : decode cX5_layDrawn 15 = .ok (.iload_n 2, 1) := by decide +kernel
theorem dX5_layDrawn_16 : decode cX5_layDrawn 16 = .ok (.if_icmp .ge 102, 3) := by decide +kernel
theorem dX5_layDrawn_19 : decode cX5_layDrawn 19 = .ok (.lload_n 3, 1) := by decide +kernel
theorem dX5_layDrawn_20 : decode cX5_layDrawn 20 = .ok (.ldc2_w 226, 3) := by decide +kernel
theorem dX5_layDrawn_23 : decode cX5_layDrawn 23 = .ok (.lmul, 1) := by decide +kernel
theorem dX5_layDrawn_24 : decode cX5_layDrawn 24 = .ok (.ldc2_w 228, 3) := by decide +kernel
theorem dX5_layDrawn_27 : decode cX5_layDrawn 27 = .ok (.ladd, 1) := by decide +kernel
theorem dX5_layDrawn_28 : decode cX5_layDrawn 28 = .ok (.ldc2_w 230, 3) := by decide +kernel
theorem dX5_layDrawn_31 : decode cX5_layDrawn 31 = .ok (.lrem, 1) := by decide +kernel
theorem dX5_layDrawn_32 : decode cX5_layDrawn 32 = .ok (.lstore_n 3, 1) := by decide +kernel
theorem dX5_layDrawn_33 : decode cX5_layDrawn 33 = .ok (.lload_n 3, 1) := by decide +kernel
theorem dX5_layDrawn_34 : decode cX5_layDrawn 34 = .ok (.ldc2_w 232, 3) := by decide +kernel
theorem dX5_layDrawn_37 : decode cX5_layDrawn 37 = .ok (.ldiv, 1) := by decide +kernel
theorem dX5_layDrawn_38 : decode cX5_layDrawn 38 = .ok (.ldc2_w 234, 3) := by decide +kernel
theorem dX5_layDrawn_41 : decode cX5_layDrawn 41 = .ok (.lrem, 1) := by decide +kernel
theorem dX5_layDrawn_42 : decode cX5_layDrawn 42 = .ok (.l2i, 1) := by decide +kernel
theorem dX5_layDrawn_43 : decode cX5_layDrawn 43 = .ok (.bipush 25, 2) := by decide +kernel
theorem dX5_layDrawn_45 : decode cX5_layDrawn 45 = .ok (.isub, 1) := by decide +kernel
theorem dX5_layDrawn_46 : decode cX5_layDrawn 46 = .ok (.istore 6, 2) := by decide +kernel
theorem dX5_layDrawn_48 : decode cX5_layDrawn 48 = .ok (.lload_n 3, 1) := by decide +kernel
theorem dX5_layDrawn_49 : decode cX5_layDrawn 49 = .ok (.ldc2_w 236, 3) := by decide +kernel
theorem dX5_layDrawn_52 : decode cX5_layDrawn 52 = .ok (.ldiv, 1) := by decide +kernel
theorem dX5_layDrawn_53 : decode cX5_layDrawn 53 = .ok (.ldc2_w 234, 3) := by decide +kernel
theorem dX5_layDrawn_56 : decode cX5_layDrawn 56 = .ok (.lrem, 1) := by decide +kernel
theorem dX5_layDrawn_57 : decode cX5_layDrawn 57 = .ok (.l2i, 1) := by decide +kernel
theorem dX5_layDrawn_58 : decode cX5_layDrawn 58 = .ok (.bipush 25, 2) := by decide +kernel
theorem dX5_layDrawn_60 : decode cX5_layDrawn 60 = .ok (.isub, 1) := by decide +kernel
theorem dX5_layDrawn_61 : decode cX5_layDrawn 61 = .ok (.istore 7, 2) := by decide +kernel
theorem dX5_layDrawn_63 : decode cX5_layDrawn 63 = .ok (.lload_n 3, 1) := by decide +kernel
theorem dX5_layDrawn_64 : decode cX5_layDrawn 64 = .ok (.ldc2_w 238, 3) := by decide +kernel
theorem dX5_layDrawn_67 : decode cX5_layDrawn 67 = .ok (.ldiv, 1) := by decide +kernel
theorem dX5_layDrawn_68 : decode cX5_layDrawn 68 = .ok (.ldc2_w 240, 3) := by decide +kernel
theorem dX5_layDrawn_71 : decode cX5_layDrawn 71 = .ok (.lrem, 1) := by decide +kernel
theorem dX5_layDrawn_72 : decode cX5_layDrawn 72 = .ok (.l2i, 1) := by decide +kernel
theorem dX5_layDrawn_73 : decode cX5_layDrawn 73 = .ok (.iconst 1, 1) := by decide +kernel
theorem dX5_layDrawn_74 : decode cX5_layDrawn 74 = .ok (.iadd, 1) := by decide +kernel
theorem dX5_layDrawn_75 : decode cX5_layDrawn 75 = .ok (.istore 8, 2) := by decide +kernel
theorem dX5_layDrawn_77 : decode cX5_layDrawn 77 = .ok (.lload_n 3, 1) := by decide +kernel
theorem dX5_layDrawn_78 : decode cX5_layDrawn 78 = .ok (.ldc2_w 242, 3) := by decide +kernel
theorem dX5_layDrawn_81 : decode cX5_layDrawn 81 = .ok (.ldiv, 1) := by decide +kernel
theorem dX5_layDrawn_82 : decode cX5_layDrawn 82 = .ok (.ldc2_w 240, 3) := by decide +kernel
theorem dX5_layDrawn_85 : decode cX5_layDrawn 85 = .ok (.lrem, 1) := by decide +kernel
theorem dX5_layDrawn_86 : decode cX5_layDrawn 86 = .ok (.l2i, 1) := by decide +kernel
theorem dX5_layDrawn_87 : decode cX5_layDrawn 87 = .ok (.iconst 1, 1) := by decide +kernel
theorem dX5_layDrawn_88 : decode cX5_layDrawn 88 = .ok (.iadd, 1) := by decide +kernel
theorem dX5_layDrawn_89 : decode cX5_layDrawn 89 = .ok (.istore 9, 2) := by decide +kernel
theorem dX5_layDrawn_91 : decode cX5_layDrawn 91 = .ok (.aload_n 0, 1) := by decide +kernel
theorem dX5_layDrawn_92 : decode cX5_layDrawn 92 = .ok (.getfield 19, 3) := by decide +kernel
theorem dX5_layDrawn_95 : decode cX5_layDrawn 95 = .ok (.iload 6, 2) := by decide +kernel
theorem dX5_layDrawn_97 : decode cX5_layDrawn 97 = .ok (.iload 7, 2) := by decide +kernel
theorem dX5_layDrawn_99 : decode cX5_layDrawn 99 = .ok (.iload 6, 2) := by decide +kernel
theorem dX5_layDrawn_101 : decode cX5_layDrawn 101 = .ok (.iload 8, 2) := by decide +kernel
theorem dX5_layDrawn_103 : decode cX5_layDrawn 103 = .ok (.iadd, 1) := by decide +kernel
theorem dX5_layDrawn_104 : decode cX5_layDrawn 104 = .ok (.iload 7, 2) := by decide +kernel
theorem dX5_layDrawn_106 : decode cX5_layDrawn 106 = .ok (.iload 9, 2) := by decide +kernel
theorem dX5_layDrawn_108 : decode cX5_layDrawn 108 = .ok (.iadd, 1) := by decide +kernel
theorem dX5_layDrawn_109 : decode cX5_layDrawn 109 = .ok (.invokevirtual 211, 3) := by decide +kernel
theorem dX5_layDrawn_112 : decode cX5_layDrawn 112 = .ok (.iinc 5 1, 3) := by decide +kernel
theorem dX5_layDrawn_115 : decode cX5_layDrawn 115 = .ok (.goto (-102), 3) := by decide +kernel
theorem dX5_layDrawn_118 : decode cX5_layDrawn 118 = .ok (.return_, 1) := by decide +kernel
theorem dX5_perform_0 : decode cX5_perform 0 = .ok (.aload_n 0, 1) := by decide +kernel
theorem dX5_perform_1 : decode cX5_perform 1 = .ok (.getfield 40, 3) := by decide +kernel
theorem dX5_perform_4 : decode cX5_perform 4 = .ok (.iload_n 1, 1) := by decide +kernel
theorem dX5_perform_5 : decode cX5_perform 5 = .ok (.invokevirtual 244, 3) := by decide +kernel
theorem dX5_perform_8 : decode cX5_perform 8 = .ok (.istore_n 2, 1) := by decide +kernel
theorem dX5_perform_9 : decode cX5_perform 9 = .ok (.aload_n 0, 1) := by decide +kernel
theorem dX5_perform_10 : decode cX5_perform 10 = .ok (.getfield 40, 3) := by decide +kernel
theorem dX5_perform_13 : decode cX5_perform 13 = .ok (.iload_n 1, 1) := by decide +kernel
theorem dX5_perform_14 : decode cX5_perform 14 = .ok (.iconst 0, 1) := by decide +kernel
theorem dX5_perform_15 : decode cX5_perform 15 = .ok (.invokevirtual 247, 3) := by decide +kernel
theorem dX5_perform_18 : decode cX5_perform 18 = .ok (.istore_n 3, 1) := by decide +kernel
theorem dX5_perform_19 : decode cX5_perform 19 = .ok (.aload_n 0, 1) := by decide +kernel
theorem dX5_perform_20 : decode cX5_perform 20 = .ok (.getfield 40, 3) := by decide +kernel
theorem dX5_perform_23 : decode cX5_perform 23 = .ok (.iload_n 1, 1) := by decide +kernel
theorem dX5_perform_24 : decode cX5_perform 24 = .ok (.invokevirtual 250, 3) := by decide +kernel
theorem dX5_perform_27 : decode cX5_perform 27 = .ok (.istore 4, 2) := by decide +kernel
theorem dX5_perform_29 : decode cX5_perform 29 = .ok (.aload_n 0, 1) := by decide +kernel
theorem dX5_perform_30 : decode cX5_perform 30 = .ok (.getfield 15, 3) := by decide +kernel
theorem dX5_perform_33 : decode cX5_perform 33 = .ok (.iload_n 2, 1) := by decide +kernel
theorem dX5_perform_34 : decode cX5_perform 34 = .ok (.aaload, 1) := by decide +kernel
theorem dX5_perform_35 : decode cX5_perform 35 = .ok (.astore 5, 2) := by decide +kernel
theorem dX5_perform_37 : decode cX5_perform 37 = .ok (.iconst 1, 1) := by decide +kernel
theorem dX5_perform_38 : decode cX5_perform 38 = .ok (.istore 6, 2) := by decide +kernel
theorem dX5_perform_40 : decode cX5_perform 40 = .ok (.iload 4, 2) := by decide +kernel
theorem dX5_perform_42 : decode cX5_perform 42 = .ok (.tableswitch 195 0 10 #[58, 74, 111, 121, 121, 121, 121, 143, 164, 174, 185], 58) := by decide +kernel
theorem dX5_perform_100 : decode cX5_perform 100 = .ok (.aload_n 0, 1) := by decide +kernel
theorem dX5_perform_101 : decode cX5_perform 101 = .ok (.getfield 19, 3) := by decide +kernel
theorem dX5_perform_104 : decode cX5_perform 104 = .ok (.aload_n 0, 1) := by decide +kernel
theorem dX5_perform_105 : decode cX5_perform 105 = .ok (.getfield 15, 3) := by decide +kernel
theorem dX5_perform_108 : decode cX5_perform 108 = .ok (.iload_n 3, 1) := by decide +kernel
theorem dX5_perform_109 : decode cX5_perform 109 = .ok (.aaload, 1) := by decide +kernel
theorem dX5_perform_110 : decode cX5_perform 110 = .ok (.invokevirtual 93, 3) := by decide +kernel
theorem dX5_perform_113 : decode cX5_perform 113 = .ok (.goto 131, 3) := by decide +kernel
theorem dX5_perform_116 : decode cX5_perform 116 = .ok (.aload_n 0, 1) := by decide +kernel
theorem dX5_perform_117 : decode cX5_perform 117 = .ok (.iload_n 3, 1) := by decide +kernel
theorem dX5_perform_118 : decode cX5_perform 118 = .ok (.aload_n 0, 1) := by decide +kernel
theorem dX5_perform_119 : decode cX5_perform 119 = .ok (.getfield 40, 3) := by decide +kernel
theorem dX5_perform_122 : decode cX5_perform 122 = .ok (.iload_n 1, 1) := by decide +kernel
theorem dX5_perform_123 : decode cX5_perform 123 = .ok (.iconst 1, 1) := by decide +kernel
theorem dX5_perform_124 : decode cX5_perform 124 = .ok (.invokevirtual 247, 3) := by decide +kernel
theorem dX5_perform_127 : decode cX5_perform 127 = .ok (.aload_n 0, 1) := by decide +kernel
theorem dX5_perform_128 : decode cX5_perform 128 = .ok (.getfield 40, 3) := by decide +kernel
theorem dX5_perform_131 : decode cX5_perform 131 = .ok (.iload_n 1, 1) := by decide +kernel
theorem dX5_perform_132 : decode cX5_perform 132 = .ok (.iconst 2, 1) := by decide +kernel
theorem dX5_perform_133 : decode cX5_perform 133 = .ok (.invokevirtual 247, 3) := by decide +kernel
theorem dX5_perform_136 : decode cX5_perform 136 = .ok (.aload_n 0, 1) := by decide +kernel
theorem dX5_perform_137 : decode cX5_perform 137 = .ok (.getfield 40, 3) := by decide +kernel
theorem dX5_perform_140 : decode cX5_perform 140 = .ok (.iload_n 1, 1) := by decide +kernel
theorem dX5_perform_141 : decode cX5_perform 141 = .ok (.iconst 3, 1) := by decide +kernel
theorem dX5_perform_142 : decode cX5_perform 142 = .ok (.invokevirtual 247, 3) := by decide +kernel
theorem dX5_perform_145 : decode cX5_perform 145 = .ok (.invokevirtual 70, 3) := by decide +kernel
theorem dX5_perform_148 : decode cX5_perform 148 = .ok (.istore 6, 2) := by decide +kernel
theorem dX5_perform_150 : decode cX5_perform 150 = .ok (.goto 94, 3) := by decide +kernel
theorem dX5_perform_153 : decode cX5_perform 153 = .ok (.aload_n 0, 1) := by decide +kernel
theorem dX5_perform_154 : decode cX5_perform 154 = .ok (.getfield 19, 3) := by decide +kernel
theorem dX5_perform_157 : decode cX5_perform 157 = .ok (.invokevirtual 208, 3) := by decide +kernel
theorem dX5_perform_160 : decode cX5_perform 160 = .ok (.goto 84, 3) := by decide +kernel
theorem dX5_perform_163 : decode cX5_perform 163 = .ok (.aload_n 0, 1) := by decide +kernel
theorem dX5_perform_164 : decode cX5_perform 164 = .ok (.getfield 19, 3) := by decide +kernel
theorem dX5_perform_167 : decode cX5_perform 167 = .ok (.iload 4, 2) := by decide +kernel
theorem dX5_perform_169 : decode cX5_perform 169 = .ok (.iconst 3, 1) := by decide +kernel
theorem dX5_perform_170 : decode cX5_perform 170 = .ok (.isub, 1) := by decide +kernel
theorem dX5_perform_171 : decode cX5_perform 171 = .ok (.aload 5, 2) := by decide +kernel
theorem dX5_perform_173 : decode cX5_perform 173 = .ok (.aload_n 0, 1) := by decide +kernel
theorem dX5_perform_174 : decode cX5_perform 174 = .ok (.getfield 15, 3) := by decide +kernel
theorem dX5_perform_177 : decode cX5_perform 177 = .ok (.iload_n 3, 1) := by decide +kernel
theorem dX5_perform_178 : decode cX5_perform 178 = .ok (.aaload, 1) := by decide +kernel
theorem dX5_perform_179 : decode cX5_perform 179 = .ok (.invokevirtual 78, 3) := by decide +kernel
theorem dX5_perform_182 : decode cX5_perform 182 = .ok (.goto 62, 3) := by decide +kernel
theorem dX5_perform_185 : decode cX5_perform 185 = .ok (.aload_n 0, 1) := by decide +kernel
theorem dX5_perform_186 : decode cX5_perform 186 = .ok (.aload 5, 2) := by decide +kernel
theorem dX5_perform_188 : decode cX5_perform 188 = .ok (.iload_n 3, 1) := by decide +kernel
theorem dX5_perform_189 : decode cX5_perform 189 = .ok (.aload_n 0, 1) := by decide +kernel
theorem dX5_perform_190 : decode cX5_perform 190 = .ok (.getfield 40, 3) := by decide +kernel
theorem dX5_perform_193 : decode cX5_perform 193 = .ok (.iload_n 1, 1) := by decide +kernel
theorem dX5_perform_194 : decode cX5_perform 194 = .ok (.iconst 1, 1) := by decide +kernel
theorem dX5_perform_195 : decode cX5_perform 195 = .ok (.invokevirtual 247, 3) := by decide +kernel
theorem dX5_perform_198 : decode cX5_perform 198 = .ok (.invokevirtual 82, 3) := by decide +kernel
theorem dX5_perform_201 : decode cX5_perform 201 = .ok (.istore 6, 2) := by decide +kernel
theorem dX5_perform_203 : decode cX5_perform 203 = .ok (.goto 41, 3) := by decide +kernel
theorem dX5_perform_206 : decode cX5_perform 206 = .ok (.aload_n 0, 1) := by decide +kernel
theorem dX5_perform_207 : decode cX5_perform 207 = .ok (.aload 5, 2) := by decide +kernel
theorem dX5_perform_209 : decode cX5_perform 209 = .ok (.iload_n 3, 1) := by decide +kernel
theorem dX5_perform_210 : decode cX5_perform 210 = .ok (.invokevirtual 86, 3) := by decide +kernel
theorem dX5_perform_213 : decode cX5_perform 213 = .ok (.goto 31, 3) := by decide +kernel
theorem dX5_perform_216 : decode cX5_perform 216 = .ok (.aload_n 0, 1) := by decide +kernel
theorem dX5_perform_217 : decode cX5_perform 217 = .ok (.aload 5, 2) := by decide +kernel
theorem dX5_perform_219 : decode cX5_perform 219 = .ok (.iload_n 3, 1) := by decide +kernel
theorem dX5_perform_220 : decode cX5_perform 220 = .ok (.ineg, 1) := by decide +kernel
theorem dX5_perform_221 : decode cX5_perform 221 = .ok (.invokevirtual 86, 3) := by decide +kernel
theorem dX5_perform_224 : decode cX5_perform 224 = .ok (.goto 20, 3) := by decide +kernel
theorem dX5_perform_227 : decode cX5_perform 227 = .ok (.aload_n 0, 1) := by decide +kernel
theorem dX5_perform_228 : decode cX5_perform 228 = .ok (.aload 5, 2) := by decide +kernel
theorem dX5_perform_230 : decode cX5_perform 230 = .ok (.iconst 0, 1) := by decide +kernel
theorem dX5_perform_231 : decode cX5_perform 231 = .ok (.invokevirtual 90, 3) := by decide +kernel
theorem dX5_perform_234 : decode cX5_perform 234 = .ok (.goto 10, 3) := by decide +kernel
theorem dX5_perform_237 : decode cX5_perform 237 = .ok (.aload_n 0, 1) := by decide +kernel
theorem dX5_perform_238 : decode cX5_perform 238 = .ok (.aload 5, 2) := by decide +kernel
theorem dX5_perform_240 : decode cX5_perform 240 = .ok (.iconst 2, 1) := by decide +kernel
theorem dX5_perform_241 : decode cX5_perform 241 = .ok (.invokevirtual 90, 3) := by decide +kernel
theorem dX5_perform_244 : decode cX5_perform 244 = .ok (.iload 6, 2) := by decide +kernel
theorem dX5_perform_246 : decode cX5_perform 246 = .ok (.ifCond .eq 15, 3) := by decide +kernel
theorem dX5_perform_249 : decode cX5_perform 249 = .ok (.aload_n 0, 1) := by decide +kernel
theorem dX5_perform_250 : decode cX5_perform 250 = .ok (.aload_n 0, 1) := by decide +kernel
theorem dX5_perform_251 : decode cX5_perform 251 = .ok (.getfield 15, 3) := by decide +kernel
theorem dX5_perform_254 : decode cX5_perform 254 = .ok (.iload_n 2, 1) := by decide +kernel
theorem dX5_perform_255 : decode cX5_perform 255 = .ok (.invokevirtual 74, 3) := by decide +kernel
theorem dX5_perform_258 : decode cX5_perform 258 = .ok (.goto 6, 3) := by decide +kernel
theorem dX5_perform_261 : decode cX5_perform 261 = .ok (.sipush (-203), 3) := by decide +kernel
theorem dX5_perform_264 : decode cX5_perform 264 = .ok (.ireturn, 1) := by decide +kernel
theorem dX5_writeOut_0 : decode cX5_writeOut 0 = .ok (.aload_n 0, 1) := by decide +kernel
theorem dX5_writeOut_1 : decode cX5_writeOut 1 = .ok (.getfield 26, 3) := by decide +kernel
theorem dX5_writeOut_4 : decode cX5_writeOut 4 = .ok (.aload_n 0, 1) := by decide +kernel
theorem dX5_writeOut_5 : decode cX5_writeOut 5 = .ok (.getfield 11, 3) := by decide +kernel
theorem dX5_writeOut_8 : decode cX5_writeOut 8 = .ok (.iload_n 1, 1) := by decide +kernel
theorem dX5_writeOut_9 : decode cX5_writeOut 9 = .ok (.aaload, 1) := by decide +kernel
theorem dX5_writeOut_10 : decode cX5_writeOut 10 = .ok (.invokevirtual 104, 3) := by decide +kernel
theorem dX5_writeOut_13 : decode cX5_writeOut 13 = .ok (.pop, 1) := by decide +kernel
theorem dX5_writeOut_14 : decode cX5_writeOut 14 = .ok (.aload_n 0, 1) := by decide +kernel
theorem dX5_writeOut_15 : decode cX5_writeOut 15 = .ok (.getfield 26, 3) := by decide +kernel
theorem dX5_writeOut_18 : decode cX5_writeOut 18 = .ok (.aload_n 0, 1) := by decide +kernel
theorem dX5_writeOut_19 : decode cX5_writeOut 19 = .ok (.getfield 47, 3) := by decide +kernel
theorem dX5_writeOut_22 : decode cX5_writeOut 22 = .ok (.invokevirtual 253, 3) := by decide +kernel
theorem dX5_writeOut_25 : decode cX5_writeOut 25 = .ok (.return_, 1) := by decide +kernel
theorem dX5_cellsOfAll_0 : decode cX5_cellsOfAll 0 = .ok (.iconst 0, 1) := by decide +kernel
theorem dX5_cellsOfAll_1 : decode cX5_cellsOfAll 1 = .ok (.istore_n 1, 1) := by decide +kernel
theorem dX5_cellsOfAll_2 : decode cX5_cellsOfAll 2 = .ok (.iconst 0, 1) := by decide +kernel
theorem dX5_cellsOfAll_3 : decode cX5_cellsOfAll 3 = .ok (.istore_n 2, 1) := by decide +kernel
theorem dX5_cellsOfAll_4 : decode cX5_cellsOfAll 4 = .ok (.iload_n 2, 1) := by decide +kernel
theorem dX5_cellsOfAll_5 : decode cX5_cellsOfAll 5 = .ok (.iconst 5, 1) := by decide +kernel
theorem dX5_cellsOfAll_6 : decode cX5_cellsOfAll 6 = .ok (.if_icmp .ge 21, 3) := by decide +kernel
theorem dX5_cellsOfAll_9 : decode cX5_cellsOfAll 9 = .ok (.iload_n 1, 1) := by decide +kernel
theorem dX5_cellsOfAll_10 : decode cX5_cellsOfAll 10 = .ok (.aload_n 0, 1) := by decide +kernel
theorem dX5_cellsOfAll_11 : decode cX5_cellsOfAll 11 = .ok (.getfield 11, 3) := by decide +kernel
theorem dX5_cellsOfAll_14 : decode cX5_cellsOfAll 14 = .ok (.iload_n 2, 1) := by decide +kernel
theorem dX5_cellsOfAll_15 : decode cX5_cellsOfAll 15 = .ok (.aaload, 1) := by decide +kernel
theorem dX5_cellsOfAll_16 : decode cX5_cellsOfAll 16 = .ok (.invokevirtual 131, 3) := by decide +kernel
theorem dX5_cellsOfAll_19 : decode cX5_cellsOfAll 19 = .ok (.iadd, 1) := by decide +kernel
theorem dX5_cellsOfAll_20 : decode cX5_cellsOfAll 20 = .ok (.istore_n 1, 1) := by decide +kernel
theorem dX5_cellsOfAll_21 : decode cX5_cellsOfAll 21 = .ok (.iinc 2 1, 3) := by decide +kernel
theorem dX5_cellsOfAll_24 : decode cX5_cellsOfAll 24 = .ok (.goto (-20), 3) := by decide +kernel
theorem dX5_cellsOfAll_27 : decode cX5_cellsOfAll 27 = .ok (.iload_n 1, 1) := by decide +kernel
theorem dX5_cellsOfAll_28 : decode cX5_cellsOfAll 28 = .ok (.ireturn, 1) := by decide +kernel
theorem dJ13_bitCount_95d88_0 : decode cJ13_bitCount_95d88 0 = .ok (.lload_n 0, 1) := by decide +kernel
theorem dJ13_bitCount_95d88_1 : decode cJ13_bitCount_95d88 1 = .ok (.lload_n 0, 1) := by decide +kernel
theorem dJ13_bitCount_95d88_2 : decode cJ13_bitCount_95d88 2 = .ok (.iconst 1, 1) := by decide +kernel
theorem dJ13_bitCount_95d88_3 : decode cJ13_bitCount_95d88 3 = .ok (.lushr, 1) := by decide +kernel
theorem dJ13_bitCount_95d88_4 : decode cJ13_bitCount_95d88 4 = .ok (.ldc2_w 314, 3) := by decide +kernel
theorem dJ13_bitCount_95d88_7 : decode cJ13_bitCount_95d88 7 = .ok (.land, 1) := by decide +kernel
theorem dJ13_bitCount_95d88_8 : decode cJ13_bitCount_95d88 8 = .ok (.lsub, 1) := by decide +kernel
theorem dJ13_bitCount_95d88_9 : decode cJ13_bitCount_95d88 9 = .ok (.lstore_n 0, 1) := by decide +kernel
theorem dJ13_bitCount_95d88_10 : decode cJ13_bitCount_95d88 10 = .ok (.lload_n 0, 1) := by decide +kernel
theorem dJ13_bitCount_95d88_11 : decode cJ13_bitCount_95d88 11 = .ok (.ldc2_w 316, 3) := by decide +kernel
theorem dJ13_bitCount_95d88_14 : decode cJ13_bitCount_95d88 14 = .ok (.land, 1) := by decide +kernel
theorem dJ13_bitCount_95d88_15 : decode cJ13_bitCount_95d88 15 = .ok (.lload_n 0, 1) := by decide +kernel
theorem dJ13_bitCount_95d88_16 : decode cJ13_bitCount_95d88 16 = .ok (.iconst 2, 1) := by decide +kernel
theorem dJ13_bitCount_95d88_17 : decode cJ13_bitCount_95d88 17 = .ok (.lushr, 1) := by decide +kernel
theorem dJ13_bitCount_95d88_18 : decode cJ13_bitCount_95d88 18 = .ok (.ldc2_w 316, 3) := by decide +kernel
theorem dJ13_bitCount_95d88_21 : decode cJ13_bitCount_95d88 21 = .ok (.land, 1) := by decide +kernel
theorem dJ13_bitCount_95d88_22 : decode cJ13_bitCount_95d88 22 = .ok (.ladd, 1) := by decide +kernel
theorem dJ13_bitCount_95d88_23 : decode cJ13_bitCount_95d88 23 = .ok (.lstore_n 0, 1) := by decide +kernel
theorem dJ13_bitCount_95d88_24 : decode cJ13_bitCount_95d88 24 = .ok (.lload_n 0, 1) := by decide +kernel
theorem dJ13_bitCount_95d88_25 : decode cJ13_bitCount_95d88 25 = .ok (.lload_n 0, 1) := by decide +kernel
theorem dJ13_bitCount_95d88_26 : decode cJ13_bitCount_95d88 26 = .ok (.iconst 4, 1) := by decide +kernel
theorem dJ13_bitCount_95d88_27 : decode cJ13_bitCount_95d88 27 = .ok (.lushr, 1) := by decide +kernel
theorem dJ13_bitCount_95d88_28 : decode cJ13_bitCount_95d88 28 = .ok (.ladd, 1) := by decide +kernel
theorem dJ13_bitCount_95d88_29 : decode cJ13_bitCount_95d88 29 = .ok (.ldc2_w 318, 3) := by decide +kernel
theorem dJ13_bitCount_95d88_32 : decode cJ13_bitCount_95d88 32 = .ok (.land, 1) := by decide +kernel
theorem dJ13_bitCount_95d88_33 : decode cJ13_bitCount_95d88 33 = .ok (.lstore_n 0, 1) := by decide +kernel
theorem dJ13_bitCount_95d88_34 : decode cJ13_bitCount_95d88 34 = .ok (.lload_n 0, 1) := by decide +kernel
theorem dJ13_bitCount_95d88_35 : decode cJ13_bitCount_95d88 35 = .ok (.lload_n 0, 1) := by decide +kernel
theorem dJ13_bitCount_95d88_36 : decode cJ13_bitCount_95d88 36 = .ok (.bipush 8, 2) := by decide +kernel
theorem dJ13_bitCount_95d88_38 : decode cJ13_bitCount_95d88 38 = .ok (.lushr, 1) := by decide +kernel
theorem dJ13_bitCount_95d88_39 : decode cJ13_bitCount_95d88 39 = .ok (.ladd, 1) := by decide +kernel
theorem dJ13_bitCount_95d88_40 : decode cJ13_bitCount_95d88 40 = .ok (.lstore_n 0, 1) := by decide +kernel
theorem dJ13_bitCount_95d88_41 : decode cJ13_bitCount_95d88 41 = .ok (.lload_n 0, 1) := by decide +kernel
theorem dJ13_bitCount_95d88_42 : decode cJ13_bitCount_95d88 42 = .ok (.lload_n 0, 1) := by decide +kernel
theorem dJ13_bitCount_95d88_43 : decode cJ13_bitCount_95d88 43 = .ok (.bipush 16, 2) := by decide +kernel
theorem dJ13_bitCount_95d88_45 : decode cJ13_bitCount_95d88 45 = .ok (.lushr, 1) := by decide +kernel
theorem dJ13_bitCount_95d88_46 : decode cJ13_bitCount_95d88 46 = .ok (.ladd, 1) := by decide +kernel
theorem dJ13_bitCount_95d88_47 : decode cJ13_bitCount_95d88 47 = .ok (.lstore_n 0, 1) := by decide +kernel
theorem dJ13_bitCount_95d88_48 : decode cJ13_bitCount_95d88 48 = .ok (.lload_n 0, 1) := by decide +kernel
theorem dJ13_bitCount_95d88_49 : decode cJ13_bitCount_95d88 49 = .ok (.lload_n 0, 1) := by decide +kernel
theorem dJ13_bitCount_95d88_50 : decode cJ13_bitCount_95d88 50 = .ok (.bipush 32, 2) := by decide +kernel
theorem dJ13_bitCount_95d88_52 : decode cJ13_bitCount_95d88 52 = .ok (.lushr, 1) := by decide +kernel
theorem dJ13_bitCount_95d88_53 : decode cJ13_bitCount_95d88 53 = .ok (.ladd, 1) := by decide +kernel
theorem dJ13_bitCount_95d88_54 : decode cJ13_bitCount_95d88 54 = .ok (.lstore_n 0, 1) := by decide +kernel
theorem dJ13_bitCount_95d88_55 : decode cJ13_bitCount_95d88 55 = .ok (.lload_n 0, 1) := by decide +kernel
theorem dJ13_bitCount_95d88_56 : decode cJ13_bitCount_95d88 56 = .ok (.l2i, 1) := by decide +kernel
theorem dJ13_bitCount_95d88_57 : decode cJ13_bitCount_95d88 57 = .ok (.bipush 127, 2) := by decide +kernel
theorem dJ13_bitCount_95d88_59 : decode cJ13_bitCount_95d88 59 = .ok (.iand, 1) := by decide +kernel
theorem dJ13_bitCount_95d88_60 : decode cJ13_bitCount_95d88 60 = .ok (.ireturn, 1) := by decide +kernel
theorem dJ9_floorDiv_7cf53_0 : decode cJ9_floorDiv_7cf53 0 = .ok (.iload_n 0, 1) := by decide +kernel
theorem dJ9_floorDiv_7cf53_1 : decode cJ9_floorDiv_7cf53 1 = .ok (.iload_n 1, 1) := by decide +kernel
theorem dJ9_floorDiv_7cf53_2 : decode cJ9_floorDiv_7cf53 2 = .ok (.idiv, 1) := by decide +kernel
theorem dJ9_floorDiv_7cf53_3 : decode cJ9_floorDiv_7cf53 3 = .ok (.istore_n 2, 1) := by decide +kernel
theorem dJ9_floorDiv_7cf53_4 : decode cJ9_floorDiv_7cf53 4 = .ok (.iload_n 0, 1) := by decide +kernel
theorem dJ9_floorDiv_7cf53_5 : decode cJ9_floorDiv_7cf53 5 = .ok (.iload_n 1, 1) := by decide +kernel
theorem dJ9_floorDiv_7cf53_6 : decode cJ9_floorDiv_7cf53 6 = .ok (.ixor, 1) := by decide +kernel
theorem dJ9_floorDiv_7cf53_7 : decode cJ9_floorDiv_7cf53 7 = .ok (.ifCond .ge 14, 3) := by decide +kernel
theorem dJ9_floorDiv_7cf53_10 : decode cJ9_floorDiv_7cf53 10 = .ok (.iload_n 2, 1) := by decide +kernel
theorem dJ9_floorDiv_7cf53_11 : decode cJ9_floorDiv_7cf53 11 = .ok (.iload_n 1, 1) := by decide +kernel
theorem dJ9_floorDiv_7cf53_12 : decode cJ9_floorDiv_7cf53 12 = .ok (.imul, 1) := by decide +kernel
theorem dJ9_floorDiv_7cf53_13 : decode cJ9_floorDiv_7cf53 13 = .ok (.iload_n 0, 1) := by decide +kernel
theorem dJ9_floorDiv_7cf53_14 : decode cJ9_floorDiv_7cf53 14 = .ok (.if_icmp .eq 7, 3) := by decide +kernel
theorem dJ9_floorDiv_7cf53_17 : decode cJ9_floorDiv_7cf53 17 = .ok (.iload_n 2, 1) := by decide +kernel
theorem dJ9_floorDiv_7cf53_18 : decode cJ9_floorDiv_7cf53 18 = .ok (.iconst 1, 1) := by decide +kernel
theorem dJ9_floorDiv_7cf53_19 : decode cJ9_floorDiv_7cf53 19 = .ok (.isub, 1) := by decide +kernel
theorem dJ9_floorDiv_7cf53_20 : decode cJ9_floorDiv_7cf53 20 = .ok (.ireturn, 1) := by decide +kernel
theorem dJ9_floorDiv_7cf53_21 : decode cJ9_floorDiv_7cf53 21 = .ok (.iload_n 2, 1) := by decide +kernel
theorem dJ9_floorDiv_7cf53_22 : decode cJ9_floorDiv_7cf53 22 = .ok (.ireturn, 1) := by decide +kernel
theorem dJ9_abs_0f7a4_0 : decode cJ9_abs_0f7a4 0 = .ok (.iload_n 0, 1) := by decide +kernel
theorem dJ9_abs_0f7a4_1 : decode cJ9_abs_0f7a4 1 = .ok (.ifCond .ge 8, 3) := by decide +kernel
theorem dJ9_abs_0f7a4_4 : decode cJ9_abs_0f7a4 4 = .ok (.iload_n 0, 1) := by decide +kernel
theorem dJ9_abs_0f7a4_5 : decode cJ9_abs_0f7a4 5 = .ok (.ineg, 1) := by decide +kernel
theorem dJ9_abs_0f7a4_6 : decode cJ9_abs_0f7a4 6 = .ok (.goto 4, 3) := by decide +kernel
theorem dJ9_abs_0f7a4_9 : decode cJ9_abs_0f7a4 9 = .ok (.iload_n 0, 1) := by decide +kernel
theorem dJ9_abs_0f7a4_10 : decode cJ9_abs_0f7a4 10 = .ok (.ireturn, 1) := by decide +kernel
theorem dJ9_max_7cf53_0 : decode cJ9_max_7cf53 0 = .ok (.iload_n 0, 1) := by decide +kernel
theorem dJ9_max_7cf53_1 : decode cJ9_max_7cf53 1 = .ok (.iload_n 1, 1) := by decide +kernel
theorem dJ9_max_7cf53_2 : decode cJ9_max_7cf53 2 = .ok (.if_icmp .lt 7, 3) := by decide +kernel
theorem dJ9_max_7cf53_5 : decode cJ9_max_7cf53 5 = .ok (.iload_n 0, 1) := by decide +kernel
theorem dJ9_max_7cf53_6 : decode cJ9_max_7cf53 6 = .ok (.goto 4, 3) := by decide +kernel
theorem dJ9_max_7cf53_9 : decode cJ9_max_7cf53 9 = .ok (.iload_n 1, 1) := by decide +kernel
theorem dJ9_max_7cf53_10 : decode cJ9_max_7cf53 10 = .ok (.ireturn, 1) := by decide +kernel
theorem dJ9_min_7cf53_0 : decode cJ9_min_7cf53 0 = .ok (.iload_n 0, 1) := by decide +kernel
theorem dJ9_min_7cf53_1 : decode cJ9_min_7cf53 1 = .ok (.iload_n 1, 1) := by decide +kernel
theorem dJ9_min_7cf53_2 : decode cJ9_min_7cf53 2 = .ok (.if_icmp .gt 7, 3) := by decide +kernel
theorem dJ9_min_7cf53_5 : decode cJ9_min_7cf53 5 = .ok (.iload_n 0, 1) := by decide +kernel
theorem dJ9_min_7cf53_6 : decode cJ9_min_7cf53 6 = .ok (.goto 4, 3) := by decide +kernel
theorem dJ9_min_7cf53_9 : decode cJ9_min_7cf53 9 = .ok (.iload_n 1, 1) := by decide +kernel
theorem dJ9_min_7cf53_10 : decode cJ9_min_7cf53 10 = .ok (.ireturn, 1) := by decide +kernel
theorem dJ0_charAt_5068e_0 : decode cJ0_charAt_5068e 0 = .ok (.aload_n 0, 1) := by decide +kernel
theorem dJ0_charAt_5068e_1 : decode cJ0_charAt_5068e 1 = .ok (.invokevirtual 492, 3) := by decide +kernel
theorem dJ0_charAt_5068e_4 : decode cJ0_charAt_5068e 4 = .ok (.ifCond .eq 12, 3) := by decide +kernel
theorem dJ0_charAt_5068e_7 : decode cJ0_charAt_5068e 7 = .ok (.aload_n 0, 1) := by decide +kernel
theorem dJ0_charAt_5068e_8 : decode cJ0_charAt_5068e 8 = .ok (.getfield 9, 3) := by decide +kernel
theorem dJ0_charAt_5068e_11 : decode cJ0_charAt_5068e 11 = .ok (.iload_n 1, 1) := by decide +kernel
theorem dJ0_charAt_5068e_12 : decode cJ0_charAt_5068e 12 = .ok (.invokestatic 495, 3) := by decide +kernel
theorem dJ0_charAt_5068e_15 : decode cJ0_charAt_5068e 15 = .ok (.ireturn, 1) := by decide +kernel
theorem dJ0_charAt_5068e_16 : decode cJ0_charAt_5068e 16 = .ok (.aload_n 0, 1) := by decide +kernel
theorem dJ0_charAt_5068e_17 : decode cJ0_charAt_5068e 17 = .ok (.getfield 9, 3) := by decide +kernel
theorem dJ0_charAt_5068e_20 : decode cJ0_charAt_5068e 20 = .ok (.iload_n 1, 1) := by decide +kernel
theorem dJ0_charAt_5068e_21 : decode cJ0_charAt_5068e 21 = .ok (.invokestatic 498, 3) := by decide +kernel
theorem dJ0_charAt_5068e_24 : decode cJ0_charAt_5068e 24 = .ok (.ireturn, 1) := by decide +kernel
theorem dJ0_isLatin1_aae02_0 : decode cJ0_isLatin1_aae02 0 = .ok (.getstatic 38, 3) := by decide +kernel
theorem dJ0_isLatin1_aae02_3 : decode cJ0_isLatin1_aae02 3 = .ok (.ifCond .eq 14, 3) := by decide +kernel
theorem dJ0_isLatin1_aae02_6 : decode cJ0_isLatin1_aae02 6 = .ok (.aload_n 0, 1) := by decide +kernel
theorem dJ0_isLatin1_aae02_7 : decode cJ0_isLatin1_aae02 7 = .ok (.getfield 15, 3) := by decide +kernel
theorem dJ0_isLatin1_aae02_10 : decode cJ0_isLatin1_aae02 10 = .ok (.ifCond .ne 7, 3) := by decide +kernel
theorem dJ0_isLatin1_aae02_13 : decode cJ0_isLatin1_aae02 13 = .ok (.iconst 1, 1) := by decide +kernel
theorem dJ0_isLatin1_aae02_14 : decode cJ0_isLatin1_aae02 14 = .ok (.goto 4, 3) := by decide +kernel
theorem dJ0_isLatin1_aae02_17 : decode cJ0_isLatin1_aae02 17 = .ok (.iconst 0, 1) := by decide +kernel
theorem dJ0_isLatin1_aae02_18 : decode cJ0_isLatin1_aae02 18 = .ok (.ireturn, 1) := by decide +kernel
theorem dJ0_checkIndex_df160_0 : decode cJ0_checkIndex_df160 0 = .ok (.iload_n 0, 1) := by decide +kernel
theorem dJ0_checkIndex_df160_1 : decode cJ0_checkIndex_df160 1 = .ok (.iload_n 1, 1) := by decide +kernel
theorem dJ0_checkIndex_df160_2 : decode cJ0_checkIndex_df160 2 = .ok (.getstatic 1053, 3) := by decide +kernel
theorem dJ0_checkIndex_df160_5 : decode cJ0_checkIndex_df160 5 = .ok (.invokestatic 1059, 3) := by decide +kernel
theorem dJ0_checkIndex_df160_8 : decode cJ0_checkIndex_df160 8 = .ok (.pop, 1) := by decide +kernel
theorem dJ0_checkIndex_df160_9 : decode cJ0_checkIndex_df160 9 = .ok (.return_, 1) := by decide +kernel
theorem dJ1_charAt_3b067_0 : decode cJ1_charAt_3b067 0 = .ok (.iload_n 1, 1) := by decide +kernel
theorem dJ1_charAt_3b067_1 : decode cJ1_charAt_3b067 1 = .ok (.aload_n 0, 1) := by decide +kernel
theorem dJ1_charAt_3b067_2 : decode cJ1_charAt_3b067 2 = .ok (.arraylength, 1) := by decide +kernel
theorem dJ1_charAt_3b067_3 : decode cJ1_charAt_3b067 3 = .ok (.invokestatic 9, 3) := by decide +kernel
theorem dJ1_charAt_3b067_6 : decode cJ1_charAt_3b067 6 = .ok (.aload_n 0, 1) := by decide +kernel
theorem dJ1_charAt_3b067_7 : decode cJ1_charAt_3b067 7 = .ok (.iload_n 1, 1) := by decide +kernel
theorem dJ1_charAt_3b067_8 : decode cJ1_charAt_3b067 8 = .ok (.baload, 1) := by decide +kernel
theorem dJ1_charAt_3b067_9 : decode cJ1_charAt_3b067 9 = .ok (.sipush 255, 3) := by decide +kernel
theorem dJ1_charAt_3b067_12 : decode cJ1_charAt_3b067 12 = .ok (.iand, 1) := by decide +kernel
theorem dJ1_charAt_3b067_13 : decode cJ1_charAt_3b067 13 = .ok (.i2c, 1) := by decide +kernel
theorem dJ1_charAt_3b067_14 : decode cJ1_charAt_3b067 14 = .ok (.ireturn, 1) := by decide +kernel
theorem dJ2_getChar_3b067_0 : decode cJ2_getChar_3b067 0 = .ok (.getstatic 44, 3) := by decide +kernel
theorem dJ2_getChar_3b067_3 : decode cJ2_getChar_3b067 3 = .ok (.ifCond .ne 25, 3) := by decide +kernel
theorem dJ2_getChar_3b067_6 : decode cJ2_getChar_3b067 6 = .ok (.iload_n 1, 1) := by decide +kernel
theorem dJ2_getChar_3b067_7 : decode cJ2_getChar_3b067 7 = .ok (.ifCond .lt 11, 3) := by decide +kernel
theorem dJ2_getChar_3b067_10 : decode cJ2_getChar_3b067 10 = .ok (.iload_n 1, 1) := by decide +kernel
theorem dJ2_getChar_3b067_11 : decode cJ2_getChar_3b067 11 = .ok (.aload_n 0, 1) := by decide +kernel
theorem dJ2_getChar_3b067_12 : decode cJ2_getChar_3b067 12 = .ok (.invokestatic 48, 3) := by decide +kernel
theorem dJ2_getChar_3b067_15 : decode cJ2_getChar_3b067 15 = .ok (.if_icmp .lt 13, 3) := by decide +kernel
theorem dJ2_getChar_3b067_18 : decode cJ2_getChar_3b067 18 = .ok (.new 52, 3) := by decide +kernel
theorem dJ2_getChar_3b067_21 : decode cJ2_getChar_3b067 21 = .ok (.dup, 1) := by decide +kernel
theorem dJ2_getChar_3b067_22 : decode cJ2_getChar_3b067 22 = .ok (.ldc 54, 2) := by decide +kernel
theorem dJ2_getChar_3b067_24 : decode cJ2_getChar_3b067 24 = .ok (.invokespecial 56, 3) := by decide +kernel
theorem dJ2_getChar_3b067_27 : decode cJ2_getChar_3b067 27 = .ok (.athrow, 1) := by decide +kernel
theorem dJ2_getChar_3b067_28 : decode cJ2_getChar_3b067 28 = .ok (.iload_n 1, 1) := by decide +kernel
theorem dJ2_getChar_3b067_29 : decode cJ2_getChar_3b067 29 = .ok (.iconst 1, 1) := by decide +kernel
theorem dJ2_getChar_3b067_30 : decode cJ2_getChar_3b067 30 = .ok (.ishl, 1) := by decide +kernel
theorem dJ2_getChar_3b067_31 : decode cJ2_getChar_3b067 31 = .ok (.istore_n 1, 1) := by decide +kernel
theorem dJ2_getChar_3b067_32 : decode cJ2_getChar_3b067 32 = .ok (.aload_n 0, 1) := by decide +kernel
theorem dJ2_getChar_3b067_33 : decode cJ2_getChar_3b067 33 = .ok (.iload_n 1, 1) := by decide +kernel
theorem dJ2_getChar_3b067_34 : decode cJ2_getChar_3b067 34 = .ok (.iinc 1 1, 3) := by decide +kernel
theorem dJ2_getChar_3b067_37 : decode cJ2_getChar_3b067 37 = .ok (.baload, 1) := by decide +kernel
theorem dJ2_getChar_3b067_38 : decode cJ2_getChar_3b067 38 = .ok (.sipush 255, 3) := by decide +kernel
theorem dJ2_getChar_3b067_41 : decode cJ2_getChar_3b067 41 = .ok (.iand, 1) := by decide +kernel
theorem dJ2_getChar_3b067_42 : decode cJ2_getChar_3b067 42 = .ok (.getstatic 59, 3) := by decide +kernel
theorem dJ2_getChar_3b067_45 : decode cJ2_getChar_3b067 45 = .ok (.ishl, 1) := by decide +kernel
theorem dJ2_getChar_3b067_46 : decode cJ2_getChar_3b067 46 = .ok (.aload_n 0, 1) := by decide +kernel
theorem dJ2_getChar_3b067_47 : decode cJ2_getChar_3b067 47 = .ok (.iload_n 1, 1) := by decide +kernel
theorem dJ2_getChar_3b067_48 : decode cJ2_getChar_3b067 48 = .ok (.baload, 1) := by decide +kernel
theorem dJ2_getChar_3b067_49 : decode cJ2_getChar_3b067 49 = .ok (.sipush 255, 3) := by decide +kernel
theorem dJ2_getChar_3b067_52 : decode cJ2_getChar_3b067 52 = .ok (.iand, 1) := by decide +kernel
theorem dJ2_getChar_3b067_53 : decode cJ2_getChar_3b067 53 = .ok (.getstatic 63, 3) := by decide +kernel
theorem dJ2_getChar_3b067_56 : decode cJ2_getChar_3b067 56 = .ok (.ishl, 1) := by decide +kernel
theorem dJ2_getChar_3b067_57 : decode cJ2_getChar_3b067 57 = .ok (.ior, 1) := by decide +kernel
theorem dJ2_getChar_3b067_58 : decode cJ2_getChar_3b067 58 = .ok (.i2c, 1) := by decide +kernel
theorem dJ2_getChar_3b067_59 : decode cJ2_getChar_3b067 59 = .ok (.ireturn, 1) := by decide +kernel
theorem dJ2_length_9d52b_0 : decode cJ2_length_9d52b 0 = .ok (.aload_n 0, 1) := by decide +kernel
theorem dJ2_length_9d52b_1 : decode cJ2_length_9d52b 1 = .ok (.arraylength, 1) := by decide +kernel
theorem dJ2_length_9d52b_2 : decode cJ2_length_9d52b 2 = .ok (.iconst 1, 1) := by decide +kernel
theorem dJ2_length_9d52b_3 : decode cJ2_length_9d52b 3 = .ok (.ishr, 1) := by decide +kernel
theorem dJ2_length_9d52b_4 : decode cJ2_length_9d52b 4 = .ok (.ireturn, 1) := by decide +kernel
theorem dJ2_charAt_3b067_0 : decode cJ2_charAt_3b067 0 = .ok (.iload_n 1, 1) := by decide +kernel
theorem dJ2_charAt_3b067_1 : decode cJ2_charAt_3b067 1 = .ok (.aload_n 0, 1) := by decide +kernel
theorem dJ2_charAt_3b067_2 : decode cJ2_charAt_3b067 2 = .ok (.invokestatic 67, 3) := by decide +kernel
theorem dJ2_charAt_3b067_5 : decode cJ2_charAt_3b067 5 = .ok (.aload_n 0, 1) := by decide +kernel
theorem dJ2_charAt_3b067_6 : decode cJ2_charAt_3b067 6 = .ok (.iload_n 1, 1) := by decide +kernel
theorem dJ2_charAt_3b067_7 : decode cJ2_charAt_3b067 7 = .ok (.invokestatic 71, 3) := by decide +kernel
theorem dJ2_charAt_3b067_10 : decode cJ2_charAt_3b067 10 = .ok (.ireturn, 1) := by decide +kernel
theorem dJ2_checkIndex_2214a_0 : decode cJ2_checkIndex_2214a 0 = .ok (.iload_n 0, 1) := by decide +kernel
theorem dJ2_checkIndex_2214a_1 : decode cJ2_checkIndex_2214a 1 = .ok (.aload_n 1, 1) := by decide +kernel
theorem dJ2_checkIndex_2214a_2 : decode cJ2_checkIndex_2214a 2 = .ok (.invokestatic 48, 3) := by decide +kernel
theorem dJ2_checkIndex_2214a_5 : decode cJ2_checkIndex_2214a 5 = .ok (.invokestatic 414, 3) := by decide +kernel
theorem dJ2_checkIndex_2214a_8 : decode cJ2_checkIndex_2214a 8 = .ok (.return_, 1) := by decide +kernel
theorem dJ7_fill_d0a16_0 : decode cJ7_fill_d0a16 0 = .ok (.iconst 0, 1) := by decide +kernel
theorem dJ7_fill_d0a16_1 : decode cJ7_fill_d0a16 1 = .ok (.istore_n 3, 1) := by decide +kernel
theorem dJ7_fill_d0a16_2 : decode cJ7_fill_d0a16 2 = .ok (.aload_n 0, 1) := by decide +kernel
theorem dJ7_fill_d0a16_3 : decode cJ7_fill_d0a16 3 = .ok (.arraylength, 1) := by decide +kernel
theorem dJ7_fill_d0a16_4 : decode cJ7_fill_d0a16 4 = .ok (.istore 4, 2) := by decide +kernel
theorem dJ7_fill_d0a16_6 : decode cJ7_fill_d0a16 6 = .ok (.iload_n 3, 1) := by decide +kernel
theorem dJ7_fill_d0a16_7 : decode cJ7_fill_d0a16 7 = .ok (.iload 4, 2) := by decide +kernel
theorem dJ7_fill_d0a16_9 : decode cJ7_fill_d0a16 9 = .ok (.if_icmp .ge 13, 3) := by decide +kernel
theorem dJ7_fill_d0a16_12 : decode cJ7_fill_d0a16 12 = .ok (.aload_n 0, 1) := by decide +kernel
theorem dJ7_fill_d0a16_13 : decode cJ7_fill_d0a16 13 = .ok (.iload_n 3, 1) := by decide +kernel
theorem dJ7_fill_d0a16_14 : decode cJ7_fill_d0a16 14 = .ok (.lload_n 1, 1) := by decide +kernel
theorem dJ7_fill_d0a16_15 : decode cJ7_fill_d0a16 15 = .ok (.lastore, 1) := by decide +kernel
theorem dJ7_fill_d0a16_16 : decode cJ7_fill_d0a16 16 = .ok (.iinc 3 1, 3) := by decide +kernel
theorem dJ7_fill_d0a16_19 : decode cJ7_fill_d0a16 19 = .ok (.goto (-13), 3) := by decide +kernel
theorem dJ7_fill_d0a16_22 : decode cJ7_fill_d0a16 22 = .ok (.return_, 1) := by decide +kernel
theorem dJ3_checkIndex_8e157_0 : decode cJ3_checkIndex_8e157 0 = .ok (.iload_n 0, 1) := by decide +kernel
theorem dJ3_checkIndex_8e157_1 : decode cJ3_checkIndex_8e157 1 = .ok (.ifCond .lt 8, 3) := by decide +kernel
theorem dJ3_checkIndex_8e157_4 : decode cJ3_checkIndex_8e157 4 = .ok (.iload_n 0, 1) := by decide +kernel
theorem dJ3_checkIndex_8e157_5 : decode cJ3_checkIndex_8e157 5 = .ok (.iload_n 1, 1) := by decide +kernel
theorem dJ3_checkIndex_8e157_6 : decode cJ3_checkIndex_8e157 6 = .ok (.if_icmp .lt 10, 3) := by decide +kernel
theorem dJ3_checkIndex_8e157_9 : decode cJ3_checkIndex_8e157 9 = .ok (.aload_n 2, 1) := by decide +kernel
theorem dJ3_checkIndex_8e157_10 : decode cJ3_checkIndex_8e157 10 = .ok (.iload_n 0, 1) := by decide +kernel
theorem dJ3_checkIndex_8e157_11 : decode cJ3_checkIndex_8e157 11 = .ok (.iload_n 1, 1) := by decide +kernel
theorem dJ3_checkIndex_8e157_12 : decode cJ3_checkIndex_8e157 12 = .ok (.invokestatic 95, 3) := by decide +kernel
theorem dJ3_checkIndex_8e157_15 : decode cJ3_checkIndex_8e157 15 = .ok (.athrow, 1) := by decide +kernel
theorem dJ3_checkIndex_8e157_16 : decode cJ3_checkIndex_8e157 16 = .ok (.iload_n 0, 1) := by decide +kernel
theorem dJ3_checkIndex_8e157_17 : decode cJ3_checkIndex_8e157 17 = .ok (.ireturn, 1) := by decide +kernel
end
section
theorem dX6_init_0 : decode cX6_init 0 = .ok (.aload_n 0, 1) := by decide +kernel
theorem dX6_init_1 : decode cX6_init 1 = .ok (.invokespecial 1, 3) := by decide +kernel
theorem dX6_init_4 : decode cX6_init 4 = .ok (.aload_n 0, 1) := by decide +kernel
theorem dX6_init_5 : decode cX6_init 5 = .ok (.sipush 3120, 3) := by decide +kernel
theorem dX6_init_8 : decode cX6_init 8 = .ok (.newarray .long, 2) := by decide +kernel
theorem dX6_init_10 : decode cX6_init 10 = .ok (.putfield 7, 3) := by decide +kernel
theorem dX6_init_13 : decode cX6_init 13 = .ok (.aload_n 0, 1) := by decide +kernel
theorem dX6_init_14 : decode cX6_init 14 = .ok (.iconst 3, 1) := by decide +kernel
theorem dX6_init_15 : decode cX6_init 15 = .ok (.newarray .int, 2) := by decide +kernel
theorem dX6_init_17 : decode cX6_init 17 = .ok (.putfield 13, 3) := by decide +kernel
theorem dX6_init_20 : decode cX6_init 20 = .ok (.aload_n 0, 1) := by decide +kernel
theorem dX6_init_21 : decode cX6_init 21 = .ok (.bipush 120, 2) := by decide +kernel
theorem dX6_init_23 : decode cX6_init 23 = .ok (.newarray .int, 2) := by decide +kernel
theorem dX6_init_25 : decode cX6_init 25 = .ok (.putfield 17, 3) := by decide +kernel
theorem dX6_init_28 : decode cX6_init 28 = .ok (.aload_n 0, 1) := by decide +kernel
theorem dX6_init_29 : decode cX6_init 29 = .ok (.bipush 10, 2) := by decide +kernel
theorem dX6_init_31 : decode cX6_init 31 = .ok (.newarray .int, 2) := by decide +kernel
theorem dX6_init_33 : decode cX6_init 33 = .ok (.putfield 20, 3) := by decide +kernel
theorem dX6_init_36 : decode cX6_init 36 = .ok (.aload_n 0, 1) := by decide +kernel
theorem dX6_init_37 : decode cX6_init 37 = .ok (.bipush 10, 2) := by decide +kernel
theorem dX6_init_39 : decode cX6_init 39 = .ok (.newarray .int, 2) := by decide +kernel
theorem dX6_init_41 : decode cX6_init 41 = .ok (.putfield 23, 3) := by decide +kernel
theorem dX6_init_44 : decode cX6_init 44 = .ok (.aload_n 0, 1) := by decide +kernel
theorem dX6_init_45 : decode cX6_init 45 = .ok (.iconst 4, 1) := by decide +kernel
theorem dX6_init_46 : decode cX6_init 46 = .ok (.newarray .int, 2) := by decide +kernel
theorem dX6_init_48 : decode cX6_init 48 = .ok (.putfield 26, 3) := by decide +kernel
theorem dX6_init_51 : decode cX6_init 51 = .ok (.aload_n 0, 1) := by decide +kernel
theorem dX6_init_52 : decode cX6_init 52 = .ok (.bipush 54, 2) := by decide +kernel
theorem dX6_init_54 : decode cX6_init 54 = .ok (.newarray .char, 2) := by decide +kernel
theorem dX6_init_56 : decode cX6_init 56 = .ok (.dup, 1) := by decide +kernel
theorem dX6_init_57 : decode cX6_init 57 = .ok (.iconst 0, 1) := by decide +kernel
theorem dX6_init_58 : decode cX6_init 58 = .ok (.bipush 98, 2) := by decide +kernel
theorem dX6_init_60 : decode cX6_init 60 = .ok (.castore, 1) := by decide +kernel
theorem dX6_init_61 : decode cX6_init 61 = .ok (.dup, 1) := by decide +kernel
theorem dX6_init_62 : decode cX6_init 62 = .ok (.iconst 1, 1) := by decide +kernel
theorem dX6_init_63 : decode cX6_init 63 = .ok (.bipush 101, 2) := by decide +kernel
theorem dX6_init_65 : decode cX6_init 65 = .ok (.castore, 1) := by decide +kernel
theorem dX6_init_66 : decode cX6_init 66 = .ok (.dup, 1) := by decide +kernel
theorem dX6_init_67 : decode cX6_init 67 = .ok (.iconst 2, 1) := by decide +kernel
theorem dX6_init_68 : decode cX6_init 68 = .ok (.bipush 32, 2) := by decide +kernel
theorem dX6_init_70 : decode cX6_init 70 = .ok (.castore, 1) := by decide +kernel
theorem dX6_init_71 : decode cX6_init 71 = .ok (.dup, 1) := by decide +kernel
theorem dX6_init_72 : decode cX6_init 72 = .ok (.iconst 3, 1) := by decide +kernel
theorem dX6_init_73 : decode cX6_init 73 = .ok (.bipush 98, 2) := by decide +kernel
theorem dX6_init_75 : decode cX6_init 75 = .ok (.castore, 1) := by decide +kernel
theorem dX6_init_76 : decode cX6_init 76 = .ok (.dup, 1) := by decide +kernel
theorem dX6_init_77 : decode cX6_init 77 = .ok (.iconst 4, 1) := by decide +kernel
theorem dX6_init_78 : decode cX6_init 78 = .ok (.bipush 111, 2) := by decide +kernel
theorem dX6_init_80 : decode cX6_init 80 = .ok (.castore, 1) := by decide +kernel
theorem dX6_init_81 : decode cX6_init 81 = .ok (.dup, 1) := by decide +kernel
theorem dX6_init_82 : decode cX6_init 82 = .ok (.iconst 5, 1) := by decide +kernel
theorem dX6_init_83 : decode cX6_init 83 = .ok (.bipush 120, 2) := by decide +kernel
theorem dX6_init_85 : decode cX6_init 85 = .ok (.castore, 1) := by decide +kernel
theorem dX6_init_86 : decode cX6_init 86 = .ok (.dup, 1) := by decide +kernel
theorem dX6_init_87 : decode cX6_init 87 = .ok (.bipush 6, 2) := by decide +kernel
theorem dX6_init_89 : decode cX6_init 89 = .ok (.bipush 32, 2) := by decide +kernel
theorem dX6_init_91 : decode cX6_init 91 = .ok (.castore, 1) := by decide +kernel
theorem dX6_init_92 : decode cX6_init 92 = .ok (.dup, 1) := by decide +kernel
theorem dX6_init_93 : decode cX6_init 93 = .ok (.bipush 7, 2) := by decide +kernel
theorem dX6_init_95 : decode cX6_init 95 = .ok (.bipush 110, 2) := by decide +kernel
theorem dX6_init_97 : decode cX6_init 97 = .ok (.castore, 1) := by decide +kernel
theorem dX6_init_98 : decode cX6_init 98 = .ok (.dup, 1) := by decide +kernel
theorem dX6_init_99 : decode cX6_init 99 = .ok (.bipush 8, 2) := by decide +kernel
theorem dX6_init_101 : decode cX6_init 101 = .ok (.bipush 111, 2) := by decide +kernel
theorem dX6_init_103 : decode cX6_init 103 = .ok (.castore, 1) := by decide +kernel
theorem dX6_init_104 : decode cX6_init 104 = .ok (.dup, 1) := by decide +kernel
theorem dX6_init_105 : decode cX6_init 105 = .ok (.bipush 9, 2) := by decide +kernel
theorem dX6_init_107 : decode cX6_init 107 = .ok (.bipush 110, 2) := by decide +kernel
theorem dX6_init_109 : decode cX6_init 109 = .ok (.castore, 1) := by decide +kernel
theorem dX6_init_110 : decode cX6_init 110 = .ok (.dup, 1) := by decide +kernel
theorem dX6_init_111 : decode cX6_init 111 = .ok (.bipush 10, 2) := by decide +kernel
theorem dX6_init_113 : decode cX6_init 113 = .ok (.bipush 101, 2) := by decide +kernel
theorem dX6_init_115 : decode cX6_init 115 = .ok (.castore, 1) := by decide +kernel
theorem dX6_init_116 : decode cX6_init 116 = .ok (.dup, 1) := by decide +kernel
theorem dX6_init_117 : decode cX6_init 117 = .ok (.bipush 11, 2) := by decide +kernel
theorem dX6_init_119 : decode cX6_init 119 = .ok (.bipush 32, 2) := by decide +kernel
theorem dX6_init_121 : decode cX6_init 121 = .ok (.castore, 1) := by decide +kernel
theorem dX6_init_122 : decode cX6_init 122 = .ok (.dup, 1) := by decide +kernel
theorem dX6_init_123 : decode cX6_init 123 = .ok (.bipush 12, 2) := by decide +kernel
theorem dX6_init_125 : decode cX6_init 125 = .ok (.bipush 111, 2) := by decide +kernel
theorem dX6_init_127 : decode cX6_init 127 = .ok (.castore, 1) := by decide +kernel
theorem dX6_init_128 : decode cX6_init 128 = .ok (.dup, 1) := by decide +kernel
theorem dX6_init_129 : decode cX6_init 129 = .ok (.bipush 13, 2) := by decide +kernel
theorem dX6_init_131 : decode cX6_init 131 = .ok (.bipush 114, 2) := by decide +kernel
theorem dX6_init_133 : decode cX6_init 133 = .ok (.castore, 1) := by decide +kernel
theorem dX6_init_134 : decode cX6_init 134 = .ok (.dup, 1) := by decide +kernel
theorem dX6_init_135 : decode cX6_init 135 = .ok (.bipush 14, 2) := by decide +kernel
theorem dX6_init_137 : decode cX6_init 137 = .ok (.bipush 32, 2) := by decide +kernel
theorem dX6_init_139 : decode cX6_init 139 = .ok (.castore, 1) := by decide +kernel
theorem dX6_init_140 : decode cX6_init 140 = .ok (.dup, 1) := by decide +kernel
theorem dX6_init_141 : decode cX6_init 141 = .ok (.bipush 15, 2) := by decide +kernel
theorem dX6_init_143 : decode cX6_init 143 = .ok (.bipush 97, 2) := by decide +kernel
theorem dX6_init_145 : decode cX6_init 145 = .ok (.castore, 1) := by decide +kernel
theorem dX6_init_146 : decode cX6_init 146 = .ok (.dup, 1) := by decide +kernel
theorem dX6_init_147 : decode cX6_init 147 = .ok (.bipush 16, 2) := by decide +kernel
theorem dX6_init_149 : decode cX6_init 149 = .ok (.bipush 110, 2) := by decide +kernel
theorem dX6_init_151 : decode cX6_init 151 = .ok (.castore, 1) := by decide +kernel
theorem dX6_init_152 : decode cX6_init 152 = .ok (.dup, 1) := by decide +kernel
theorem dX6_init_153 : decode cX6_init 153 = .ok (.bipush 17, 2) := by decide +kernel
theorem dX6_init_155 : decode cX6_init 155 = .ok (.bipush 100, 2) := by decide +kernel
theorem dX6_init_157 : decode cX6_init 157 = .ok (.castore, 1) := by decide +kernel
theorem dX6_init_158 : decode cX6_init 158 = .ok (.dup, 1) := by decide +kernel
theorem dX6_init_159 : decode cX6_init 159 = .ok (.bipush 18, 2) := by decide +kernel
theorem dX6_init_161 : decode cX6_init 161 = .ok (.bipush 32, 2) := by decide +kernel
theorem dX6_init_163 : decode cX6_init 163 = .ok (.castore, 1) := by decide +kernel
theorem dX6_init_164 : decode cX6_init 164 = .ok (.dup, 1) := by decide +kernel
theorem dX6_init_165 : decode cX6_init 165 = .ok (.bipush 19, 2) := by decide +kernel
theorem dX6_init_167 : decode cX6_init 167 = .ok (.bipush 98, 2) := by decide +kernel
theorem dX6_init_169 : decode cX6_init 169 = .ok (.castore, 1) := by decide +kernel
theorem dX6_init_170 : decode cX6_init 170 = .ok (.dup, 1) := by decide +kernel
theorem dX6_init_171 : decode cX6_init 171 = .ok (.bipush 20, 2) := by decide +kernel
theorem dX6_init_173 : decode cX6_init 173 = .ok (.bipush 117, 2) := by decide +kernel
theorem dX6_init_175 : decode cX6_init 175 = .ok (.castore, 1) := by decide +kernel
theorem dX6_init_176 : decode cX6_init 176 = .ok (.dup, 1) := by decide +kernel
theorem dX6_init_177 : decode cX6_init 177 = .ok (.bipush 21, 2) := by decide +kernel
theorem dX6_init_179 : decode cX6_init 179 = .ok (.bipush 116, 2) := by decide +kernel
theorem dX6_init_181 : decode cX6_init 181 = .ok (.castore, 1) := by decide +kernel
theorem dX6_init_182 : decode cX6_init 182 = .ok (.dup, 1) := by decide +kernel
theorem dX6_init_183 : decode cX6_init 183 = .ok (.bipush 22, 2) := by decide +kernel
theorem dX6_init_185 : decode cX6_init 185 = .ok (.bipush 32, 2) := by decide +kernel
theorem dX6_init_187 : decode cX6_init 187 = .ok (.castore, 1) := by decide +kernel
theorem dX6_init_188 : decode cX6_init 188 = .ok (.dup, 1) := by decide +kernel
theorem dX6_init_189 : decode cX6_init 189 = .ok (.bipush 23, 2) := by decide +kernel
theorem dX6_init_191 : decode cX6_init 191 = .ok (.bipush 120, 2) := by decide +kernel
theorem dX6_init_193 : decode cX6_init 193 = .ok (.castore, 1) := by decide +kernel
theorem dX6_init_194 : decode cX6_init 194 = .ok (.dup, 1) := by decide +kernel
theorem dX6_init_195 : decode cX6_init 195 = .ok (.bipush 24, 2) := by decide +kernel
theorem dX6_init_197 : decode cX6_init 197 = .ok (.bipush 111, 2) := by decide +kernel
theorem dX6_init_199 : decode cX6_init 199 = .ok (.castore, 1) := by decide +kernel
theorem dX6_init_200 : decode cX6_init 200 = .ok (.dup, 1) := by decide +kernel
theorem dX6_init_201 : decode cX6_init 201 = .ok (.bipush 25, 2) := by decide +kernel
theorem dX6_init_203 : decode cX6_init 203 = .ok (.bipush 114, 2) := by decide +kernel
theorem dX6_init_205 : decode cX6_init 205 = .ok (.castore, 1) := by decide +kernel
theorem dX6_init_206 : decode cX6_init 206 = .ok (.dup, 1) := by decide +kernel
theorem dX6_init_207 : decode cX6_init 207 = .ok (.bipush 26, 2) := by decide +kernel
theorem dX6_init_209 : decode cX6_init 209 = .ok (.bipush 32, 2) := by decide +kernel
theorem dX6_init_211 : decode cX6_init 211 = .ok (.castore, 1) := by decide +kernel
theorem dX6_init_212 : decode cX6_init 212 = .ok (.dup, 1) := by decide +kernel
theorem dX6_init_213 : decode cX6_init 213 = .ok (.bipush 27, 2) := by decide +kernel
theorem dX6_init_215 : decode cX6_init 215 = .ok (.bipush 109, 2) := by decide +kernel
theorem dX6_init_217 : decode cX6_init 217 = .ok (.castore, 1) := by decide +kernel
theorem dX6_init_218 : decode cX6_init 218 = .ok (.dup, 1) := by decide +kernel
theorem dX6_init_219 : decode cX6_init 219 = .ok (.bipush 28, 2) := by decide +kernel
theorem dX6_init_221 : decode cX6_init 221 = .ok (.bipush 111, 2) := by decide +kernel
theorem dX6_init_223 : decode cX6_init 223 = .ok (.castore, 1) := by decide +kernel
theorem dX6_init_224 : decode cX6_init 224 = .ok (.dup, 1) := by decide +kernel
theorem dX6_init_225 : decode cX6_init 225 = .ok (.bipush 29, 2) := by decide +kernel
theorem dX6_init_227 : decode cX6_init 227 = .ok (.bipush 118, 2) := by decide +kernel
theorem dX6_init_229 : decode cX6_init 229 = .ok (.castore, 1) := by decide +kernel
theorem dX6_init_230 : decode cX6_init 230 = .ok (.dup, 1) := by decide +kernel
theorem dX6_init_231 : decode cX6_init 231 = .ok (.bipush 30, 2) := by decide +kernel
theorem dX6_init_233 : decode cX6_init 233 = .ok (.bipush 101, 2) := by decide +kernel
theorem dX6_init_235 : decode cX6_init 235 = .ok (.castore, 1) := by decide +kernel
theorem dX6_init_236 : decode cX6_init 236 = .ok (.dup, 1) := by decide +kernel
theorem dX6_init_237 : decode cX6_init 237 = .ok (.bipush 31, 2) := by decide +kernel
theorem dX6_init_239 : decode cX6_init 239 = .ok (.bipush 32, 2) := by decide +kernel
theorem dX6_init_241 : decode cX6_init 241 = .ok (.castore, 1) := by decide +kernel
theorem dX6_init_242 : decode cX6_init 242 = .ok (.dup, 1) := by decide +kernel
theorem dX6_init_243 : decode cX6_init 243 = .ok (.bipush 32, 2) := by decide +kernel
theorem dX6_init_245 : decode cX6_init 245 = .ok (.bipush 103, 2) := by decide +kernel
theorem dX6_init_247 : decode cX6_init 247 = .ok (.castore, 1) := by decide +kernel
theorem dX6_init_248 : decode cX6_init 248 = .ok (.dup, 1) := by decide +kernel
theorem dX6_init_249 : decode cX6_init 249 = .ok (.bipush 33, 2) := by decide +kernel
theorem dX6_init_251 : decode cX6_init 251 = .ok (.bipush 114, 2) := by decide +kernel
theorem dX6_init_253 : decode cX6_init 253 = .ok (.castore, 1) := by decide +kernel
theorem dX6_init_254 : decode cX6_init 254 = .ok (.dup, 1) := by decide +kernel
theorem dX6_init_255 : decode cX6_init 255 = .ok (.bipush 34, 2) := by decide +kernel
theorem dX6_init_257 : decode cX6_init 257 = .ok (.bipush 111, 2) := by decide +kernel
theorem dX6_init_259 : decode cX6_init 259 = .ok (.castore, 1) := by decide +kernel
theorem dX6_init_260 : decode cX6_init 260 = .ok (.dup, 1) := by decide +kernel
theorem dX6_init_261 : decode cX6_init 261 = .ok (.bipush 35, 2) := by decide +kernel
theorem dX6_init_263 : decode cX6_init 263 = .ok (.bipush 119, 2) := by decide +kernel
theorem dX6_init_265 : decode cX6_init 265 = .ok (.castore, 1) := by decide +kernel
theorem dX6_init_266 : decode cX6_init 266 = .ok (.dup, 1) := by decide +kernel
theorem dX6_init_267 : decode cX6_init 267 = .ok (.bipush 36, 2) := by decide +kernel
theorem dX6_init_269 : decode cX6_init 269 = .ok (.bipush 32, 2) := by decide +kernel
theorem dX6_init_271 : decode cX6_init 271 = .ok (.castore, 1) := by decide +kernel
theorem dX6_init_272 : decode cX6_init 272 = .ok (.dup, 1) := by decide +kernel
theorem dX6_init_273 : decode cX6_init 273 = .ok (.bipush 37, 2) := by decide +kernel
theorem dX6_init_275 : decode cX6_init 275 = .ok (.bipush 115, 2) := by decide +kernel
theorem dX6_init_277 : decode cX6_init 277 = .ok (.castore, 1) := by decide +kernel
theorem dX6_init_278 : decode cX6_init 278 = .ok (.dup, 1) := by decide +kernel
theorem dX6_init_279 : decode cX6_init 279 = .ok (.bipush 38, 2) := by decide +kernel
theorem dX6_init_281 : decode cX6_init 281 = .ok (.bipush 104, 2) := by decide +kernel
theorem dX6_init_283 : decode cX6_init 283 = .ok (.castore, 1) := by decide +kernel
theorem dX6_init_284 : decode cX6_init 284 = .ok (.dup, 1) := by decide +kernel
theorem dX6_init_285 : decode cX6_init 285 = .ok (.bipush 39, 2) := by decide +kernel
theorem dX6_init_287 : decode cX6_init 287 = .ok (.bipush 114, 2) := by decide +kernel
theorem dX6_init_289 : decode cX6_init 289 = .ok (.castore, 1) := by decide +kernel
theorem dX6_init_290 : decode cX6_init 290 = .ok (.dup, 1) := by decide +kernel
theorem dX6_init_291 : decode cX6_init 291 = .ok (.bipush 40, 2) := by decide +kernel
theorem dX6_init_293 : decode cX6_init 293 = .ok (.bipush 105, 2) := by decide +kernel
theorem dX6_init_295 : decode cX6_init 295 = .ok (.castore, 1) := by decide +kernel
theorem dX6_init_296 : decode cX6_init 296 = .ok (.dup, 1) := by decide +kernel
theorem dX6_init_297 : decode cX6_init 297 = .ok (.bipush 41, 2) := by decide +kernel
theorem dX6_init_299 : decode cX6_init 299 = .ok (.bipush 110, 2) := by decide +kernel
theorem dX6_init_301 : decode cX6_init 301 = .ok (.castore, 1) := by decide +kernel
theorem dX6_init_302 : decode cX6_init 302 = .ok (.dup, 1) := by decide +kernel
theorem dX6_init_303 : decode cX6_init 303 = .ok (.bipush 42, 2) := by decide +kernel
theorem dX6_init_305 : decode cX6_init 305 = .ok (.bipush 107, 2) := by decide +kernel
theorem dX6_init_307 : decode cX6_init 307 = .ok (.castore, 1) := by decide +kernel
theorem dX6_init_308 : decode cX6_init 308 = .ok (.dup, 1) := by decide +kernel
theorem dX6_init_309 : decode cX6_init 309 = .ok (.bipush 43, 2) := by decide +kernel
theorem dX6_init_311 : decode cX6_init 311 = .ok (.bipush 32, 2) := by decide +kernel
theorem dX6_init_313 : decode cX6_init 313 = .ok (.castore, 1) := by decide +kernel
theorem dX6_init_314 : decode cX6_init 314 = .ok (.dup, 1) := by decide +kernel
theorem dX6_init_315 : decode cX6_init 315 = .ok (.bipush 44, 2) := by decide +kernel
theorem dX6_init_317 : decode cX6_init 317 = .ok (.bipush 102, 2) := by decide +kernel
theorem dX6_init_319 : decode cX6_init 319 = .ok (.castore, 1) := by decide +kernel
theorem dX6_init_320 : decode cX6_init 320 = .ok (.dup, 1) := by decide +kernel
theorem dX6_init_321 : decode cX6_init 321 = .ok (.bipush 45, 2) := by decide +kernel
theorem dX6_init_323 : decode cX6_init 323 = .ok (.bipush 108, 2) := by decide +kernel
theorem dX6_init_325 : decode cX6_init 325 = .ok (.castore, 1) := by decide +kernel
theorem dX6_init_326 : decode cX6_init 326 = .ok (.dup, 1) := by decide +kernel
theorem dX6_init_327 : decode cX6_init 327 = .ok (.bipush 46, 2) := by decide +kernel
theorem dX6_init_329 : decode cX6_init 329 = .ok (.bipush 105, 2) := by decide +kernel
theorem dX6_init_331 : decode cX6_init 331 = .ok (.castore, 1) := by decide +kernel
theorem dX6_init_332 : decode cX6_init 332 = .ok (.dup, 1) := by decide +kernel
theorem dX6_init_333 : decode cX6_init 333 = .ok (.bipush 47, 2) := by decide +kernel
theorem dX6_init_335 : decode cX6_init 335 = .ok (.bipush 112, 2) := by decide +kernel
theorem dX6_init_337 : decode cX6_init 337 = .ok (.castore, 1) := by decide +kernel
theorem dX6_init_338 : decode cX6_init 338 = .ok (.dup, 1) := by decide +kernel
theorem dX6_init_339 : decode cX6_init 339 = .ok (.bipush 48, 2) := by decide +kernel
theorem dX6_init_341 : decode cX6_init 341 = .ok (.bipush 32, 2) := by decide +kernel
theorem dX6_init_343 : decode cX6_init 343 = .ok (.castore, 1) := by decide +kernel
theorem dX6_init_344 : decode cX6_init 344 = .ok (.dup, 1) := by decide +kernel
theorem dX6_init_345 : decode cX6_init 345 = .ok (.bipush 49, 2) := by decide +kernel
theorem dX6_init_347 : decode cX6_init 347 = .ok (.bipush 116, 2) := by decide +kernel
theorem dX6_init_349 : decode cX6_init 349 = .ok (.castore, 1) := by decide +kernel
theorem dX6_init_350 : decode cX6_init 350 = .ok (.dup, 1) := by decide +kernel
theorem dX6_init_351 : decode cX6_init 351 = .ok (.bipush 50, 2) := by decide +kernel
theorem dX6_init_353 : decode cX6_init 353 = .ok (.bipush 117, 2) := by decide +kernel
theorem dX6_init_355 : decode cX6_init 355 = .ok (.castore, 1) := by decide +kernel
theorem dX6_init_356 : decode cX6_init 356 = .ok (.dup, 1) := by decide +kernel
theorem dX6_init_357 : decode cX6_init 357 = .ok (.bipush 51, 2) := by decide +kernel
theorem dX6_init_359 : decode cX6_init 359 = .ok (.bipush 114, 2) := by decide +kernel
theorem dX6_init_361 : decode cX6_init 361 = .ok (.castore, 1) := by decide +kernel
theorem dX6_init_362 : decode cX6_init 362 = .ok (.dup, 1) := by decide +kernel
theorem dX6_init_363 : decode cX6_init 363 = .ok (.bipush 52, 2) := by decide +kernel
theorem dX6_init_365 : decode cX6_init 365 = .ok (.bipush 110, 2) := by decide +kernel
theorem dX6_init_367 : decode cX6_init 367 = .ok (.castore, 1) := by decide +kernel
theorem dX6_init_368 : decode cX6_init 368 = .ok (.dup, 1) := by decide +kernel
theorem dX6_init_369 : decode cX6_init 369 = .ok (.bipush 53, 2) := by decide +kernel
theorem dX6_init_371 : decode cX6_init 371 = .ok (.bipush 32, 2) := by decide +kernel
theorem dX6_init_373 : decode cX6_init 373 = .ok (.castore, 1) := by decide +kernel
theorem dX6_init_374 : decode cX6_init 374 = .ok (.putfield 29, 3) := by decide +kernel
theorem dX6_init_377 : decode cX6_init 377 = .ok (.return_, 1) := by decide +kernel
theorem dX6_in_0 : decode cX6_in 0 = .ok (.iload_n 0, 1) := by decide +kernel
theorem dX6_in_1 : decode cX6_in 1 = .ok (.iload_n 1, 1) := by decide +kernel
theorem dX6_in_2 : decode cX6_in 2 = .ok (.if_icmp .lt 12, 3) := by decide +kernel
theorem dX6_in_5 : decode cX6_in 5 = .ok (.iload_n 0, 1) := by decide +kernel
theorem dX6_in_6 : decode cX6_in 6 = .ok (.iload_n 2, 1) := by decide +kernel
theorem dX6_in_7 : decode cX6_in 7 = .ok (.if_icmp .gt 7, 3) := by decide +kernel
theorem dX6_in_10 : decode cX6_in 10 = .ok (.iconst 1, 1) := by decide +kernel
theorem dX6_in_11 : decode cX6_in 11 = .ok (.goto 4, 3) := by decide +kernel
theorem dX6_in_14 : decode cX6_in 14 = .ok (.iconst 0, 1) := by decide +kernel
theorem dX6_in_15 : decode cX6_in 15 = .ok (.ireturn, 1) := by decide +kernel
theorem dX6_refuses_0 : decode cX6_refuses 0 = .ok (.aload_n 0, 1) := by decide +kernel
theorem dX6_refuses_1 : decode cX6_refuses 1 = .ok (.getfield 13, 3) := by decide +kernel
theorem dX6_refuses_4 : decode cX6_refuses 4 = .ok (.sipush (-202), 3) := by decide +kernel
theorem dX6_refuses_7 : decode cX6_refuses 7 = .ok (.iload_n 1, 1) := by decide +kernel
theorem dX6_refuses_8 : decode cX6_refuses 8 = .ok (.isub, 1) := by decide +kernel
theorem dX6_refuses_9 : decode cX6_refuses 9 = .ok (.dup2, 1) := by decide +kernel
theorem dX6_refuses_10 : decode cX6_refuses 10 = .ok (.iaload, 1) := by decide +kernel
theorem dX6_refuses_11 : decode cX6_refuses 11 = .ok (.iconst 1, 1) := by decide +kernel
theorem dX6_refuses_12 : decode cX6_refuses 12 = .ok (.iadd, 1) := by decide +kernel
theorem dX6_refuses_13 : decode cX6_refuses 13 = .ok (.iastore, 1) := by decide +kernel
theorem dX6_refuses_14 : decode cX6_refuses 14 = .ok (.iload_n 1, 1) := by decide +kernel
theorem dX6_refuses_15 : decode cX6_refuses 15 = .ok (.ireturn, 1) := by decide +kernel
theorem dX6_isArea_0 : decode cX6_isArea 0 = .ok (.iload_n 0, 1) := by decide +kernel
theorem dX6_isArea_1 : decode cX6_isArea 1 = .ok (.iconst 0, 1) := by decide +kernel
theorem dX6_isArea_2 : decode cX6_isArea 2 = .ok (.iconst 4, 1) := by decide +kernel
theorem dX6_isArea_3 : decode cX6_isArea 3 = .ok (.invokestatic 33, 3) := by decide +kernel
theorem dX6_isArea_6 : decode cX6_isArea 6 = .ok (.ireturn, 1) := by decide +kernel
theorem dX6_isCell_0 : decode cX6_isCell 0 = .ok (.iload_n 0, 1) := by decide +kernel
theorem dX6_isCell_1 : decode cX6_isCell 1 = .ok (.bipush (-60), 2) := by decide +kernel
theorem dX6_isCell_3 : decode cX6_isCell 3 = .ok (.bipush 59, 2) := by decide +kernel
theorem dX6_isCell_5 : decode cX6_isCell 5 = .ok (.invokestatic 33, 3) := by decide +kernel
theorem dX6_isCell_8 : decode cX6_isCell 8 = .ok (.ifCond .eq 18, 3) := by decide +kernel
theorem dX6_isCell_11 : decode cX6_isCell 11 = .ok (.iload_n 1, 1) := by decide +kernel
theorem dX6_isCell_12 : decode cX6_isCell 12 = .ok (.bipush (-60), 2) := by decide +kernel
theorem dX6_isCell_14 : decode cX6_isCell 14 = .ok (.bipush 59, 2) := by decide +kernel
theorem dX6_isCell_16 : decode cX6_isCell 16 = .ok (.invokestatic 33, 3) := by decide +kernel
theorem dX6_isCell_19 : decode cX6_isCell 19 = .ok (.ifCond .eq 7, 3) := by decide +kernel
theorem dX6_isCell_22 : decode cX6_isCell 22 = .ok (.iconst 1, 1) := by decide +kernel
theorem dX6_isCell_23 : decode cX6_isCell 23 = .ok (.goto 4, 3) := by decide +kernel
theorem dX6_isCell_26 : decode cX6_isCell 26 = .ok (.iconst 0, 1) := by decide +kernel
theorem dX6_isCell_27 : decode cX6_isCell 27 = .ok (.ireturn, 1) := by decide +kernel
theorem dX6_has_0 : decode cX6_has 0 = .ok (.iload_n 2, 1) := by decide +kernel
theorem dX6_has_1 : decode cX6_has 1 = .ok (.iload_n 3, 1) := by decide +kernel
theorem dX6_has_2 : decode cX6_has 2 = .ok (.invokestatic 37, 3) := by decide +kernel
theorem dX6_has_5 : decode cX6_has 5 = .ok (.ifCond .ne 5, 3) := by decide +kernel
theorem dX6_has_8 : decode cX6_has 8 = .ok (.iconst 0, 1) := by decide +kernel
theorem dX6_has_9 : decode cX6_has 9 = .ok (.ireturn, 1) := by decide +kernel
theorem dX6_has_10 : decode cX6_has 10 = .ok (.iload_n 2, 1) := by decide +kernel
theorem dX6_has_11 : decode cX6_has 11 = .ok (.bipush (-60), 2) := by decide +kernel
theorem dX6_has_13 : decode cX6_has 13 = .ok (.isub, 1) := by decide +kernel
theorem dX6_has_14 : decode cX6_has 14 = .ok (.istore 4, 2) := by decide +kernel
theorem dX6_has_16 : decode cX6_has 16 = .ok (.aload_n 0, 1) := by decide +kernel
theorem dX6_has_17 : decode cX6_has 17 = .ok (.getfield 7, 3) := by decide +kernel
theorem dX6_has_20 : decode cX6_has 20 = .ok (.sipush 240, 3) := by decide +kernel
theorem dX6_has_23 : decode cX6_has 23 = .ok (.iload_n 1, 1) := by decide +kernel
theorem dX6_has_24 : decode cX6_has 24 = .ok (.imul, 1) := by decide +kernel
theorem dX6_has_25 : decode cX6_has 25 = .ok (.iconst 2, 1) := by decide +kernel
theorem dX6_has_26 : decode cX6_has 26 = .ok (.iload_n 3, 1) := by decide +kernel
theorem dX6_has_27 : decode cX6_has 27 = .ok (.bipush (-60), 2) := by decide +kernel
theorem dX6_has_29 : decode cX6_has 29 = .ok (.isub, 1) := by decide +kernel
theorem dX6_has_30 : decode cX6_has 30 = .ok (.imul, 1) := by decide +kernel
theorem dX6_has_31 : decode cX6_has 31 = .ok (.iadd, 1) := by decide +kernel
theorem dX6_has_32 : decode cX6_has 32 = .ok (.iload 4, 2) := by decide +kernel
theorem dX6_has_34 : decode cX6_has 34 = .ok (.bipush 60, 2) := by decide +kernel
theorem dX6_has_36 : decode cX6_has 36 = .ok (.idiv, 1) := by decide +kernel
theorem dX6_has_37 : decode cX6_has 37 = .ok (.iadd, 1) := by decide +kernel
theorem dX6_has_38 : decode cX6_has 38 = .ok (.laload, 1) := by decide +kernel
theorem dX6_has_39 : decode cX6_has 39 = .ok (.iload 4, 2) := by decide +kernel
theorem dX6_has_41 : decode cX6_has 41 = .ok (.bipush 60, 2) := by decide +kernel
theorem dX6_has_43 : decode cX6_has 43 = .ok (.irem, 1) := by decide +kernel
theorem dX6_has_44 : decode cX6_has 44 = .ok (.lshr, 1) := by decide +kernel
theorem dX6_has_45 : decode cX6_has 45 = .ok (.lconst 1, 1) := by decide +kernel
theorem dX6_has_46 : decode cX6_has 46 = .ok (.land, 1) := by decide +kernel
theorem dX6_has_47 : decode cX6_has 47 = .ok (.lconst 1, 1) := by decide +kernel
theorem dX6_has_48 : decode cX6_has 48 = .ok (.lcmp, 1) := by decide +kernel
theorem dX6_has_49 : decode cX6_has 49 = .ok (.ifCond .ne 7, 3) := by decide +kernel
theorem dX6_has_52 : decode cX6_has 52 = .ok (.iconst 1, 1) := by decide +kernel
theorem dX6_has_53 : decode cX6_has 53 = .ok (.goto 4, 3) := by decide +kernel
theorem dX6_has_56 : decode cX6_has 56 = .ok (.iconst 0, 1) := by decide +kernel
theorem dX6_has_57 : decode cX6_has 57 = .ok (.ireturn, 1) := by decide +kernel
theorem dX6_lays_0 : decode cX6_lays 0 = .ok (.iload_n 2, 1) := by decide +kernel
theorem dX6_lays_1 : decode cX6_lays 1 = .ok (.bipush (-60), 2) := by decide +kernel
theorem dX6_lays_3 : decode cX6_lays 3 = .ok (.isub, 1) := by decide +kernel
theorem dX6_lays_4 : decode cX6_lays 4 = .ok (.istore 4, 2) := by decide +kernel
theorem dX6_lays_6 : decode cX6_lays 6 = .ok (.aload_n 0, 1) := by decide +kernel
theorem dX6_lays_7 : decode cX6_lays 7 = .ok (.getfield 7, 3) := by decide +kernel
theorem dX6_lays_10 : decode cX6_lays 10 = .ok (.sipush 240, 3) := by decide +kernel
theorem dX6_lays_13 : decode cX6_lays 13 = .ok (.iload_n 1, 1) := by decide +kernel
theorem dX6_lays_14 : decode cX6_lays 14 = .ok (.imul, 1) := by decide +kernel
theorem dX6_lays_15 : decode cX6_lays 15 = .ok (.iconst 2, 1) := by decide +kernel
theorem dX6_lays_16 : decode cX6_lays 16 = .ok (.iload_n 3, 1) := by decide +kernel
theorem dX6_lays_17 : decode cX6_lays 17 = .ok (.bipush (-60), 2) := by decide +kernel
theorem dX6_lays_19 : decode cX6_lays 19 = .ok (.isub, 1) := by decide +kernel
theorem dX6_lays_20 : decode cX6_lays 20 = .ok (.imul, 1) := by decide +kernel
theorem dX6_lays_21 : decode cX6_lays 21 = .ok (.iadd, 1) := by decide +kernel
theorem dX6_lays_22 : decode cX6_lays 22 = .ok (.iload 4, 2) := by decide +kernel
theorem dX6_lays_24 : decode cX6_lays 24 = .ok (.bipush 60, 2) := by decide +kernel
theorem dX6_lays_26 : decode cX6_lays 26 = .ok (.idiv, 1) := by decide +kernel
theorem dX6_lays_27 : decode cX6_lays 27 = .ok (.iadd, 1) := by decide +kernel
theorem dX6_lays_28 : decode cX6_lays 28 = .ok (.dup2, 1) := by decide +kernel
theorem dX6_lays_29 : decode cX6_lays 29 = .ok (.laload, 1) := by decide +kernel
theorem dX6_lays_30 : decode cX6_lays 30 = .ok (.lconst 1, 1) := by decide +kernel
theorem dX6_lays_31 : decode cX6_lays 31 = .ok (.iload 4, 2) := by decide +kernel
theorem dX6_lays_33 : decode cX6_lays 33 = .ok (.bipush 60, 2) := by decide +kernel
theorem dX6_lays_35 : decode cX6_lays 35 = .ok (.irem, 1) := by decide +kernel
theorem dX6_lays_36 : decode cX6_lays 36 = .ok (.lshl, 1) := by decide +kernel
theorem dX6_lays_37 : decode cX6_lays 37 = .ok (.lor, 1) := by decide +kernel
theorem dX6_lays_38 : decode cX6_lays 38 = .ok (.lastore, 1) := by decide +kernel
theorem dX6_lays_39 : decode cX6_lays 39 = .ok (.return_, 1) := by decide +kernel
theorem dX6_empties_0 : decode cX6_empties 0 = .ok (.iconst 0, 1) := by decide +kernel
theorem dX6_empties_1 : decode cX6_empties 1 = .ok (.istore_n 2, 1) := by decide +kernel
theorem dX6_empties_2 : decode cX6_empties 2 = .ok (.iload_n 2, 1) := by decide +kernel
theorem dX6_empties_3 : decode cX6_empties 3 = .ok (.sipush 240, 3) := by decide +kernel
theorem dX6_empties_6 : decode cX6_empties 6 = .ok (.if_icmp .ge 22, 3) := by decide +kernel
theorem dX6_empties_9 : decode cX6_empties 9 = .ok (.aload_n 0, 1) := by decide +kernel
theorem dX6_empties_10 : decode cX6_empties 10 = .ok (.getfield 7, 3) := by decide +kernel
theorem dX6_empties_13 : decode cX6_empties 13 = .ok (.sipush 240, 3) := by decide +kernel
theorem dX6_empties_16 : decode cX6_empties 16 = .ok (.iload_n 1, 1) := by decide +kernel
theorem dX6_empties_17 : decode cX6_empties 17 = .ok (.imul, 1) := by decide +kernel
theorem dX6_empties_18 : decode cX6_empties 18 = .ok (.iload_n 2, 1) := by decide +kernel
theorem dX6_empties_19 : decode cX6_empties 19 = .ok (.iadd, 1) := by decide +kernel
theorem dX6_empties_20 : decode cX6_empties 20 = .ok (.lconst 0, 1) := by decide +kernel
theorem dX6_empties_21 : decode cX6_empties 21 = .ok (.lastore, 1) := by decide +kernel
theorem dX6_empties_22 : decode cX6_empties 22 = .ok (.iinc 2 1, 3) := by decide +kernel
theorem dX6_empties_25 : decode cX6_empties 25 = .ok (.goto (-23), 3) := by decide +kernel
theorem dX6_empties_28 : decode cX6_empties 28 = .ok (.return_, 1) := by decide +kernel
theorem dX6_copies_0 : decode cX6_copies 0 = .ok (.iconst 0, 1) := by decide +kernel
theorem dX6_copies_1 : decode cX6_copies 1 = .ok (.istore_n 3, 1) := by decide +kernel
theorem dX6_copies_2 : decode cX6_copies 2 = .ok (.iload_n 3, 1) := by decide +kernel
theorem dX6_copies_3 : decode cX6_copies 3 = .ok (.sipush 240, 3) := by decide +kernel
theorem dX6_copies_6 : decode cX6_copies 6 = .ok (.if_icmp .ge 33, 3) := by decide +kernel
theorem dX6_copies_9 : decode cX6_copies 9 = .ok (.aload_n 0, 1) := by decide +kernel
theorem dX6_copies_10 : decode cX6_copies 10 = .ok (.getfield 7, 3) := by decide +kernel
theorem dX6_copies_13 : decode cX6_copies 13 = .ok (.sipush 240, 3) := by decide +kernel
theorem dX6_copies_16 : decode cX6_copies 16 = .ok (.iload_n 2, 1) := by decide +kernel
theorem dX6_copies_17 : decode cX6_copies 17 = .ok (.imul, 1) := by decide +kernel
theorem dX6_copies_18 : decode cX6_copies 18 = .ok (.iload_n 3, 1) := by decide +kernel
theorem dX6_copies_19 : decode cX6_copies 19 = .ok (.iadd, 1) := by decide +kernel
theorem dX6_copies_20 : decode cX6_copies 20 = .ok (.aload_n 0, 1) := by decide +kernel
theorem dX6_copies_21 : decode cX6_copies 21 = .ok (.getfield 7, 3) := by decide +kernel
theorem dX6_copies_24 : decode cX6_copies 24 = .ok (.sipush 240, 3) := by decide +kernel
theorem dX6_copies_27 : decode cX6_copies 27 = .ok (.iload_n 1, 1) := by decide +kernel
theorem dX6_copies_28 : decode cX6_copies 28 = .ok (.imul, 1) := by decide +kernel
theorem dX6_copies_29 : decode cX6_copies 29 = .ok (.iload_n 3, 1) := by decide +kernel
theorem dX6_copies_30 : decode cX6_copies 30 = .ok (.iadd, 1) := by decide +kernel
theorem dX6_copies_31 : decode cX6_copies 31 = .ok (.laload, 1) := by decide +kernel
theorem dX6_copies_32 : decode cX6_copies 32 = .ok (.lastore, 1) := by decide +kernel
theorem dX6_copies_33 : decode cX6_copies 33 = .ok (.iinc 3 1, 3) := by decide +kernel
theorem dX6_copies_36 : decode cX6_copies 36 = .ok (.goto (-34), 3) := by decide +kernel
theorem dX6_copies_39 : decode cX6_copies 39 = .ok (.return_, 1) := by decide +kernel
theorem dX6_ones_0 : decode cX6_ones 0 = .ok (.iconst 0, 1) := by decide +kernel
theorem dX6_ones_1 : decode cX6_ones 1 = .ok (.istore_n 2, 1) := by decide +kernel
theorem dX6_ones_2 : decode cX6_ones 2 = .ok (.iconst 0, 1) := by decide +kernel
theorem dX6_ones_3 : decode cX6_ones 3 = .ok (.istore_n 3, 1) := by decide +kernel
theorem dX6_ones_4 : decode cX6_ones 4 = .ok (.iload_n 3, 1) := by decide +kernel
theorem dX6_ones_5 : decode cX6_ones 5 = .ok (.bipush 60, 2) := by decide +kernel
theorem dX6_ones_7 : decode cX6_ones 7 = .ok (.if_icmp .ge 18, 3) := by decide +kernel
theorem dX6_ones_10 : decode cX6_ones 10 = .ok (.iload_n 2, 1) := by decide +kernel
theorem dX6_ones_11 : decode cX6_ones 11 = .ok (.lload_n 0, 1) := by decide +kernel
theorem dX6_ones_12 : decode cX6_ones 12 = .ok (.iload_n 3, 1) := by decide +kernel
theorem dX6_ones_13 : decode cX6_ones 13 = .ok (.lshr, 1) := by decide +kernel
theorem dX6_ones_14 : decode cX6_ones 14 = .ok (.lconst 1, 1) := by decide +kernel
theorem dX6_ones_15 : decode cX6_ones 15 = .ok (.land, 1) := by decide +kernel
theorem dX6_ones_16 : decode cX6_ones 16 = .ok (.l2i, 1) := by decide +kernel
theorem dX6_ones_17 : decode cX6_ones 17 = .ok (.iadd, 1) := by decide +kernel
theorem dX6_ones_18 : decode cX6_ones 18 = .ok (.istore_n 2, 1) := by decide +kernel
theorem dX6_ones_19 : decode cX6_ones 19 = .ok (.iinc 3 1, 3) := by decide +kernel
theorem dX6_ones_22 : decode cX6_ones 22 = .ok (.goto (-18), 3) := by decide +kernel
theorem dX6_ones_25 : decode cX6_ones 25 = .ok (.iload_n 2, 1) := by decide +kernel
theorem dX6_ones_26 : decode cX6_ones 26 = .ok (.ireturn, 1) := by decide +kernel
theorem dX6_cells_0 : decode cX6_cells 0 = .ok (.iconst 0, 1) := by decide +kernel
theorem dX6_cells_1 : decode cX6_cells 1 = .ok (.istore_n 2, 1) := by decide +kernel
theorem dX6_cells_2 : decode cX6_cells 2 = .ok (.iconst 0, 1) := by decide +kernel
theorem dX6_cells_3 : decode cX6_cells 3 = .ok (.istore_n 3, 1) := by decide +kernel
theorem dX6_cells_4 : decode cX6_cells 4 = .ok (.iload_n 3, 1) := by decide +kernel
theorem dX6_cells_5 : decode cX6_cells 5 = .ok (.sipush 240, 3) := by decide +kernel
theorem dX6_cells_8 : decode cX6_cells 8 = .ok (.if_icmp .ge 48, 3) := by decide +kernel
theorem dX6_cells_11 : decode cX6_cells 11 = .ok (.iload_n 2, 1) := by decide +kernel
theorem dX6_cells_12 : decode cX6_cells 12 = .ok (.aload_n 0, 1) := by decide +kernel
theorem dX6_cells_13 : decode cX6_cells 13 = .ok (.getfield 7, 3) := by decide +kernel
theorem dX6_cells_16 : decode cX6_cells 16 = .ok (.sipush 240, 3) := by decide +kernel
theorem dX6_cells_19 : decode cX6_cells 19 = .ok (.iload_n 1, 1) := by decide +kernel
theorem dX6_cells_20 : decode cX6_cells 20 = .ok (.imul, 1) := by decide +kernel
theorem dX6_cells_21 : decode cX6_cells 21 = .ok (.iload_n 3, 1) := by decide +kernel
theorem dX6_cells_22 : decode cX6_cells 22 = .ok (.iadd, 1) := by decide +kernel
theorem dX6_cells_23 : decode cX6_cells 23 = .ok (.laload, 1) := by decide +kernel
theorem dX6_cells_24 : decode cX6_cells 24 = .ok (.lconst 0, 1) := by decide +kernel
theorem dX6_cells_25 : decode cX6_cells 25 = .ok (.lcmp, 1) := by decide +kernel
theorem dX6_cells_26 : decode cX6_cells 26 = .ok (.ifCond .ne 7, 3) := by decide +kernel
theorem dX6_cells_29 : decode cX6_cells 29 = .ok (.iconst 0, 1) := by decide +kernel
theorem dX6_cells_30 : decode cX6_cells 30 = .ok (.goto 18, 3) := by decide +kernel
theorem dX6_cells_33 : decode cX6_cells 33 = .ok (.aload_n 0, 1) := by decide +kernel
theorem dX6_cells_34 : decode cX6_cells 34 = .ok (.getfield 7, 3) := by decide +kernel
theorem dX6_cells_37 : decode cX6_cells 37 = .ok (.sipush 240, 3) := by decide +kernel
theorem dX6_cells_40 : decode cX6_cells 40 = .ok (.iload_n 1, 1) := by decide +kernel
theorem dX6_cells_41 : decode cX6_cells 41 = .ok (.imul, 1) := by decide +kernel
theorem dX6_cells_42 : decode cX6_cells 42 = .ok (.iload_n 3, 1) := by decide +kernel
theorem dX6_cells_43 : decode cX6_cells 43 = .ok (.iadd, 1) := by decide +kernel
theorem dX6_cells_44 : decode cX6_cells 44 = .ok (.laload, 1) := by decide +kernel
theorem dX6_cells_45 : decode cX6_cells 45 = .ok (.invokestatic 41, 3) := by decide +kernel
theorem dX6_cells_48 : decode cX6_cells 48 = .ok (.iadd, 1) := by decide +kernel
theorem dX6_cells_49 : decode cX6_cells 49 = .ok (.istore_n 2, 1) := by decide +kernel
theorem dX6_cells_50 : decode cX6_cells 50 = .ok (.iinc 3 1, 3) := by decide +kernel
theorem dX6_cells_53 : decode cX6_cells 53 = .ok (.goto (-49), 3) := by decide +kernel
theorem dX6_cells_56 : decode cX6_cells 56 = .ok (.iload_n 2, 1) := by decide +kernel
theorem dX6_cells_57 : decode cX6_cells 57 = .ok (.ireturn, 1) := by decide +kernel
theorem dX6_sameRow_0 : decode cX6_sameRow 0 = .ok (.sipush 240, 3) := by decide +kernel
theorem dX6_sameRow_3 : decode cX6_sameRow 3 = .ok (.iload_n 1, 1) := by decide +kernel
theorem dX6_sameRow_4 : decode cX6_sameRow 4 = .ok (.imul, 1) := by decide +kernel
theorem dX6_sameRow_5 : decode cX6_sameRow 5 = .ok (.iconst 2, 1) := by decide +kernel
theorem dX6_sameRow_6 : decode cX6_sameRow 6 = .ok (.iload_n 2, 1) := by decide +kernel
theorem dX6_sameRow_7 : decode cX6_sameRow 7 = .ok (.bipush (-60), 2) := by decide +kernel
theorem dX6_sameRow_9 : decode cX6_sameRow 9 = .ok (.isub, 1) := by decide +kernel
theorem dX6_sameRow_10 : decode cX6_sameRow 10 = .ok (.imul, 1) := by decide +kernel
theorem dX6_sameRow_11 : decode cX6_sameRow 11 = .ok (.iadd, 1) := by decide +kernel
theorem dX6_sameRow_12 : decode cX6_sameRow 12 = .ok (.istore 4, 2) := by decide +kernel
theorem dX6_sameRow_14 : decode cX6_sameRow 14 = .ok (.sipush 240, 3) := by decide +kernel
theorem dX6_sameRow_17 : decode cX6_sameRow 17 = .ok (.iload_n 1, 1) := by decide +kernel
theorem dX6_sameRow_18 : decode cX6_sameRow 18 = .ok (.imul, 1) := by decide +kernel
theorem dX6_sameRow_19 : decode cX6_sameRow 19 = .ok (.iconst 2, 1) := by decide +kernel
theorem dX6_sameRow_20 : decode cX6_sameRow 20 = .ok (.iload_n 3, 1) := by decide +kernel
theorem dX6_sameRow_21 : decode cX6_sameRow 21 = .ok (.bipush (-60), 2) := by decide +kernel
theorem dX6_sameRow_23 : decode cX6_sameRow 23 = .ok (.isub, 1) := by decide +kernel
theorem dX6_sameRow_24 : decode cX6_sameRow 24 = .ok (.imul, 1) := by decide +kernel
theorem dX6_sameRow_25 : decode cX6_sameRow 25 = .ok (.iadd, 1) := by decide +kernel
theorem dX6_sameRow_26 : decode cX6_sameRow 26 = .ok (.istore 5, 2) := by decide +kernel
theorem dX6_sameRow_28 : decode cX6_sameRow 28 = .ok (.aload_n 0, 1) := by decide +kernel
theorem dX6_sameRow_29 : decode cX6_sameRow 29 = .ok (.getfield 7, 3) := by decide +kernel
theorem dX6_sameRow_32 : decode cX6_sameRow 32 = .ok (.iload 4, 2) := by decide +kernel
theorem dX6_sameRow_34 : decode cX6_sameRow 34 = .ok (.laload, 1) := by decide +kernel
theorem dX6_sameRow_35 : decode cX6_sameRow 35 = .ok (.aload_n 0, 1) := by decide +kernel
theorem dX6_sameRow_36 : decode cX6_sameRow 36 = .ok (.getfield 7, 3) := by decide +kernel
theorem dX6_sameRow_39 : decode cX6_sameRow 39 = .ok (.iload 5, 2) := by decide +kernel
theorem dX6_sameRow_41 : decode cX6_sameRow 41 = .ok (.laload, 1) := by decide +kernel
theorem dX6_sameRow_42 : decode cX6_sameRow 42 = .ok (.lcmp, 1) := by decide +kernel
theorem dX6_sameRow_43 : decode cX6_sameRow 43 = .ok (.ifCond .ne 29, 3) := by decide +kernel
theorem dX6_sameRow_46 : decode cX6_sameRow 46 = .ok (.aload_n 0, 1) := by decide +kernel
theorem dX6_sameRow_47 : decode cX6_sameRow 47 = .ok (.getfield 7, 3) := by decide +kernel
theorem dX6_sameRow_50 : decode cX6_sameRow 50 = .ok (.iload 4, 2) := by decide +kernel
theorem dX6_sameRow_52 : decode cX6_sameRow 52 = .ok (.iconst 1, 1) := by decide +kernel
theorem dX6_sameRow_53 : decode cX6_sameRow 53 = .ok (.iadd, 1) := by decide +kernel
theorem dX6_sameRow_54 : decode cX6_sameRow 54 = .ok (.laload, 1) := by decide +kernel
theorem dX6_sameRow_55 : decode cX6_sameRow 55 = .ok (.aload_n 0, 1) := by decide +kernel
theorem dX6_sameRow_56 : decode cX6_sameRow 56 = .ok (.getfield 7, 3) := by decide +kernel
theorem dX6_sameRow_59 : decode cX6_sameRow 59 = .ok (.iload 5, 2) := by decide +kernel
theorem dX6_sameRow_61 : decode cX6_sameRow 61 = .ok (.iconst 1, 1) := by decide +kernel
theorem dX6_sameRow_62 : decode cX6_sameRow 62 = .ok (.iadd, 1) := by decide +kernel
theorem dX6_sameRow_63 : decode cX6_sameRow 63 = .ok (.laload, 1) := by decide +kernel
theorem dX6_sameRow_64 : decode cX6_sameRow 64 = .ok (.lcmp, 1) := by decide +kernel
theorem dX6_sameRow_65 : decode cX6_sameRow 65 = .ok (.ifCond .ne 7, 3) := by decide +kernel
theorem dX6_sameRow_68 : decode cX6_sameRow 68 = .ok (.iconst 1, 1) := by decide +kernel
theorem dX6_sameRow_69 : decode cX6_sameRow 69 = .ok (.goto 4, 3) := by decide +kernel
theorem dX6_sameRow_72 : decode cX6_sameRow 72 = .ok (.iconst 0, 1) := by decide +kernel
theorem dX6_sameRow_73 : decode cX6_sameRow 73 = .ok (.ireturn, 1) := by decide +kernel
theorem dX6_isEmptyRow_0 : decode cX6_isEmptyRow 0 = .ok (.sipush 240, 3) := by decide +kernel
theorem dX6_isEmptyRow_3 : decode cX6_isEmptyRow 3 = .ok (.iload_n 1, 1) := by decide +kernel
theorem dX6_isEmptyRow_4 : decode cX6_isEmptyRow 4 = .ok (.imul, 1) := by decide +kernel
theorem dX6_isEmptyRow_5 : decode cX6_isEmptyRow 5 = .ok (.iconst 2, 1) := by decide +kernel
theorem dX6_isEmptyRow_6 : decode cX6_isEmptyRow 6 = .ok (.iload_n 2, 1) := by decide +kernel
theorem dX6_isEmptyRow_7 : decode cX6_isEmptyRow 7 = .ok (.bipush (-60), 2) := by decide +kernel
theorem dX6_isEmptyRow_9 : decode cX6_isEmptyRow 9 = .ok (.isub, 1) := by decide +kernel
theorem dX6_isEmptyRow_10 : decode cX6_isEmptyRow 10 = .ok (.imul, 1) := by decide +kernel
theorem dX6_isEmptyRow_11 : decode cX6_isEmptyRow 11 = .ok (.iadd, 1) := by decide +kernel
theorem dX6_isEmptyRow_12 : decode cX6_isEmptyRow 12 = .ok (.istore_n 3, 1) := by decide +kernel
theorem dX6_isEmptyRow_13 : decode cX6_isEmptyRow 13 = .ok (.aload_n 0, 1) := by decide +kernel
theorem dX6_isEmptyRow_14 : decode cX6_isEmptyRow 14 = .ok (.getfield 7, 3) := by decide +kernel
theorem dX6_isEmptyRow_17 : decode cX6_isEmptyRow 17 = .ok (.iload_n 3, 1) := by decide +kernel
theorem dX6_isEmptyRow_18 : decode cX6_isEmptyRow 18 = .ok (.laload, 1) := by decide +kernel
theorem dX6_isEmptyRow_19 : decode cX6_isEmptyRow 19 = .ok (.lconst 0, 1) := by decide +kernel
theorem dX6_isEmptyRow_20 : decode cX6_isEmptyRow 20 = .ok (.lcmp, 1) := by decide +kernel
theorem dX6_isEmptyRow_21 : decode cX6_isEmptyRow 21 = .ok (.ifCond .ne 20, 3) := by decide +kernel
theorem dX6_isEmptyRow_24 : decode cX6_isEmptyRow 24 = .ok (.aload_n 0, 1) := by decide +kernel
theorem dX6_isEmptyRow_25 : decode cX6_isEmptyRow 25 = .ok (.getfield 7, 3) := by decide +kernel
theorem dX6_isEmptyRow_28 : decode cX6_isEmptyRow 28 = .ok (.iload_n 3, 1) := by decide +kernel
theorem dX6_isEmptyRow_29 : decode cX6_isEmptyRow 29 = .ok (.iconst 1, 1) := by decide +kernel
theorem dX6_isEmptyRow_30 : decode cX6_isEmptyRow 30 = .ok (.iadd, 1) := by decide +kernel
theorem dX6_isEmptyRow_31 : decode cX6_isEmptyRow 31 = .ok (.laload, 1) := by decide +kernel
theorem dX6_isEmptyRow_32 : decode cX6_isEmptyRow 32 = .ok (.lconst 0, 1) := by decide +kernel
theorem dX6_isEmptyRow_33 : decode cX6_isEmptyRow 33 = .ok (.lcmp, 1) := by decide +kernel
theorem dX6_isEmptyRow_34 : decode cX6_isEmptyRow 34 = .ok (.ifCond .ne 7, 3) := by decide +kernel
theorem dX6_isEmptyRow_37 : decode cX6_isEmptyRow 37 = .ok (.iconst 1, 1) := by decide +kernel
theorem dX6_isEmptyRow_38 : decode cX6_isEmptyRow 38 = .ok (.goto 4, 3) := by decide +kernel
theorem dX6_isEmptyRow_41 : decode cX6_isEmptyRow 41 = .ok (.iconst 0, 1) := by decide +kernel
theorem dX6_isEmptyRow_42 : decode cX6_isEmptyRow 42 = .ok (.ireturn, 1) := by decide +kernel
theorem dX6_writes_0 : decode cX6_writes 0 = .ok (.aload_n 0, 1) := by decide +kernel
theorem dX6_writes_1 : decode cX6_writes 1 = .ok (.aload_n 0, 1) := by decide +kernel
theorem dX6_writes_2 : decode cX6_writes 2 = .ok (.getfield 45, 3) := by decide +kernel
theorem dX6_writes_5 : decode cX6_writes 5 = .ok (.aload_n 0, 1) := by decide +kernel
theorem dX6_writes_6 : decode cX6_writes 6 = .ok (.getfield 49, 3) := by decide +kernel
theorem dX6_writes_9 : decode cX6_writes 9 = .ok (.if_icmp .ne 7, 3) := by decide +kernel
theorem dX6_writes_12 : decode cX6_writes 12 = .ok (.iload_n 1, 1) := by decide +kernel
theorem dX6_writes_13 : decode cX6_writes 13 = .ok (.goto 7, 3) := by decide +kernel
theorem dX6_writes_16 : decode cX6_writes 16 = .ok (.aload_n 0, 1) := by decide +kernel
theorem dX6_writes_17 : decode cX6_writes 17 = .ok (.getfield 52, 3) := by decide +kernel
theorem dX6_writes_20 : decode cX6_writes 20 = .ok (.putfield 52, 3) := by decide +kernel
theorem dX6_writes_23 : decode cX6_writes 23 = .ok (.aload_n 0, 1) := by decide +kernel
theorem dX6_writes_24 : decode cX6_writes 24 = .ok (.bipush 31, 2) := by decide +kernel
theorem dX6_writes_26 : decode cX6_writes 26 = .ok (.aload_n 0, 1) := by decide +kernel
theorem dX6_writes_27 : decode cX6_writes 27 = .ok (.getfield 55, 3) := by decide +kernel
theorem dX6_writes_30 : decode cX6_writes 30 = .ok (.imul, 1) := by decide +kernel
theorem dX6_writes_31 : decode cX6_writes 31 = .ok (.iload_n 1, 1) := by decide +kernel
theorem dX6_writes_32 : decode cX6_writes 32 = .ok (.iadd, 1) := by decide +kernel
theorem dX6_writes_33 : decode cX6_writes 33 = .ok (.putfield 55, 3) := by decide +kernel
theorem dX6_writes_36 : decode cX6_writes 36 = .ok (.aload_n 0, 1) := by decide +kernel
theorem dX6_writes_37 : decode cX6_writes 37 = .ok (.dup, 1) := by decide +kernel
theorem dX6_writes_38 : decode cX6_writes 38 = .ok (.getfield 45, 3) := by decide +kernel
theorem dX6_writes_41 : decode cX6_writes 41 = .ok (.iconst 1, 1) := by decide +kernel
theorem dX6_writes_42 : decode cX6_writes 42 = .ok (.iadd, 1) := by decide +kernel
theorem dX6_writes_43 : decode cX6_writes 43 = .ok (.putfield 45, 3) := by decide +kernel
theorem dX6_writes_46 : decode cX6_writes 46 = .ok (.return_, 1) := by decide +kernel
theorem dX6_writesNumber_0 : decode cX6_writesNumber 0 = .ok (.iload_n 1, 1) := by decide +kernel
theorem dX6_writesNumber_1 : decode cX6_writesNumber 1 = .ok (.ifCond .ge 8, 3) := by decide +kernel
theorem dX6_writesNumber_4 : decode cX6_writesNumber 4 = .ok (.iload_n 1, 1) := by decide +kernel
theorem dX6_writesNumber_5 : decode cX6_writesNumber 5 = .ok (.ineg, 1) := by decide +kernel
theorem dX6_writesNumber_6 : decode cX6_writesNumber 6 = .ok (.goto 4, 3) := by decide +kernel
theorem dX6_writesNumber_9 : decode cX6_writesNumber 9 = .ok (.iload_n 1, 1) := by decide +kernel
theorem dX6_writesNumber_10 : decode cX6_writesNumber 10 = .ok (.istore_n 2, 1) := by decide +kernel
theorem dX6_writesNumber_11 : decode cX6_writesNumber 11 = .ok (.iload_n 1, 1) := by decide +kernel
theorem dX6_writesNumber_12 : decode cX6_writesNumber 12 = .ok (.ifCond .ge 9, 3) := by decide +kernel
theorem dX6_writesNumber_15 : decode cX6_writesNumber 15 = .ok (.aload_n 0, 1) := by decide +kernel
theorem dX6_writesNumber_16 : decode cX6_writesNumber 16 = .ok (.bipush 45, 2) := by decide +kernel
theorem dX6_writesNumber_18 : decode cX6_writesNumber 18 = .ok (.invokevirtual 58, 3) := by decide +kernel
theorem dX6_writesNumber_21 : decode cX6_writesNumber 21 = .ok (.iload_n 2, 1) := by decide +kernel
theorem dX6_writesNumber_22 : decode cX6_writesNumber 22 = .ok (.bipush 9, 2) := by decide +kernel
theorem dX6_writesNumber_24 : decode cX6_writesNumber 24 = .ok (.if_icmp .le 14, 3) := by decide +kernel
theorem dX6_writesNumber_27 : decode cX6_writesNumber 27 = .ok (.aload_n 0, 1) := by decide +kernel
theorem dX6_writesNumber_28 : decode cX6_writesNumber 28 = .ok (.bipush 48, 2) := by decide +kernel
theorem dX6_writesNumber_30 : decode cX6_writesNumber 30 = .ok (.iload_n 2, 1) := by decide +kernel
theorem dX6_writesNumber_31 : decode cX6_writesNumber 31 = .ok (.bipush 10, 2) := by decide +kernel
theorem dX6_writesNumber_33 : decode cX6_writesNumber 33 = .ok (.idiv, 1) := by decide +kernel
theorem dX6_writesNumber_34 : decode cX6_writesNumber 34 = .ok (.iadd, 1) := by decide +kernel
theorem dX6_writesNumber_35 : decode cX6_writesNumber 35 = .ok (.invokevirtual 58, 3) := by decide +kernel
theorem dX6_writesNumber_38 : decode cX6_writesNumber 38 = .ok (.aload_n 0, 1) := by decide +kernel
theorem dX6_writesNumber_39 : decode cX6_writesNumber 39 = .ok (.bipush 48, 2) := by decide +kernel
theorem dX6_writesNumber_41 : decode cX6_writesNumber 41 = .ok (.iload_n 2, 1) := by decide +kernel
theorem dX6_writesNumber_42 : decode cX6_writesNumber 42 = .ok (.bipush 10, 2) := by decide +kernel
theorem dX6_writesNumber_44 : decode cX6_writesNumber 44 = .ok (.irem, 1) := by decide +kernel
theorem dX6_writesNumber_45 : decode cX6_writesNumber 45 = .ok (.iadd, 1) := by decide +kernel
theorem dX6_writesNumber_46 : decode cX6_writesNumber 46 = .ok (.invokevirtual 58, 3) := by decide +kernel
theorem dX6_writesNumber_49 : decode cX6_writesNumber 49 = .ok (.return_, 1) := by decide +kernel
theorem dX6_firstOf_0 : decode cX6_firstOf 0 = .ok (.iload_n 0, 1) := by decide +kernel
theorem dX6_firstOf_1 : decode cX6_firstOf 1 = .ok (.ifCond .ne 7, 3) := by decide +kernel
theorem dX6_firstOf_4 : decode cX6_firstOf 4 = .ok (.iload_n 1, 1) := by decide +kernel
theorem dX6_firstOf_5 : decode cX6_firstOf 5 = .ok (.goto 23, 3) := by decide +kernel
theorem dX6_firstOf_8 : decode cX6_firstOf 8 = .ok (.iload_n 0, 1) := by decide +kernel
theorem dX6_firstOf_9 : decode cX6_firstOf 9 = .ok (.iconst 1, 1) := by decide +kernel
theorem dX6_firstOf_10 : decode cX6_firstOf 10 = .ok (.if_icmp .ne 7, 3) := by decide +kernel
theorem dX6_firstOf_13 : decode cX6_firstOf 13 = .ok (.iload_n 2, 1) := by decide +kernel
theorem dX6_firstOf_14 : decode cX6_firstOf 14 = .ok (.goto 14, 3) := by decide +kernel
theorem dX6_firstOf_17 : decode cX6_firstOf 17 = .ok (.iload_n 0, 1) := by decide +kernel
theorem dX6_firstOf_18 : decode cX6_firstOf 18 = .ok (.iconst 2, 1) := by decide +kernel
theorem dX6_firstOf_19 : decode cX6_firstOf 19 = .ok (.if_icmp .ne 7, 3) := by decide +kernel
theorem dX6_firstOf_22 : decode cX6_firstOf 22 = .ok (.iload_n 3, 1) := by decide +kernel
theorem dX6_firstOf_23 : decode cX6_firstOf 23 = .ok (.goto 5, 3) := by decide +kernel
theorem dX6_firstOf_26 : decode cX6_firstOf 26 = .ok (.iload 4, 2) := by decide +kernel
theorem dX6_firstOf_28 : decode cX6_firstOf 28 = .ok (.ireturn, 1) := by decide +kernel
theorem dX6_band_0 : decode cX6_band 0 = .ok (.aload_n 0, 1) := by decide +kernel
theorem dX6_band_1 : decode cX6_band 1 = .ok (.iload_n 2, 1) := by decide +kernel
theorem dX6_band_2 : decode cX6_band 2 = .ok (.invokevirtual 62, 3) := by decide +kernel
theorem dX6_band_5 : decode cX6_band 5 = .ok (.aload_n 0, 1) := by decide +kernel
theorem dX6_band_6 : decode cX6_band 6 = .ok (.bipush 46, 2) := by decide +kernel
theorem dX6_band_8 : decode cX6_band 8 = .ok (.invokevirtual 58, 3) := by decide +kernel
theorem dX6_band_11 : decode cX6_band 11 = .ok (.aload_n 0, 1) := by decide +kernel
theorem dX6_band_12 : decode cX6_band 12 = .ok (.iload_n 3, 1) := by decide +kernel
theorem dX6_band_13 : decode cX6_band 13 = .ok (.invokevirtual 62, 3) := by decide +kernel
theorem dX6_band_16 : decode cX6_band 16 = .ok (.aload_n 0, 1) := by decide +kernel
theorem dX6_band_17 : decode cX6_band 17 = .ok (.bipush 58, 2) := by decide +kernel
theorem dX6_band_19 : decode cX6_band 19 = .ok (.invokevirtual 58, 3) := by decide +kernel
theorem dX6_band_22 : decode cX6_band 22 = .ok (.iconst 1, 1) := by decide +kernel
theorem dX6_band_23 : decode cX6_band 23 = .ok (.istore 5, 2) := by decide +kernel
theorem dX6_band_25 : decode cX6_band 25 = .ok (.bipush (-60), 2) := by decide +kernel
theorem dX6_band_27 : decode cX6_band 27 = .ok (.istore 6, 2) := by decide +kernel
theorem dX6_band_29 : decode cX6_band 29 = .ok (.iload 6, 2) := by decide +kernel
theorem dX6_band_31 : decode cX6_band 31 = .ok (.bipush 59, 2) := by decide +kernel
theorem dX6_band_33 : decode cX6_band 33 = .ok (.if_icmp .gt 115, 3) := by decide +kernel
theorem dX6_band_36 : decode cX6_band 36 = .ok (.iload 6, 2) := by decide +kernel
theorem dX6_band_38 : decode cX6_band 38 = .ok (.istore 7, 2) := by decide +kernel
theorem dX6_band_40 : decode cX6_band 40 = .ok (.aload_n 0, 1) := by decide +kernel
theorem dX6_band_41 : decode cX6_band 41 = .ok (.iload_n 1, 1) := by decide +kernel
theorem dX6_band_42 : decode cX6_band 42 = .ok (.iload 7, 2) := by decide +kernel
theorem dX6_band_44 : decode cX6_band 44 = .ok (.iload_n 2, 1) := by decide +kernel
theorem dX6_band_45 : decode cX6_band 45 = .ok (.invokevirtual 65, 3) := by decide +kernel
theorem dX6_band_48 : decode cX6_band 48 = .ok (.ifCond .eq 9, 3) := by decide +kernel
theorem dX6_band_51 : decode cX6_band 51 = .ok (.iinc 7 1, 3) := by decide +kernel
theorem dX6_band_54 : decode cX6_band 54 = .ok (.goto (-14), 3) := by decide +kernel
theorem dX6_band_57 : decode cX6_band 57 = .ok (.iload 7, 2) := by decide +kernel
theorem dX6_band_59 : decode cX6_band 59 = .ok (.iload 6, 2) := by decide +kernel
theorem dX6_band_61 : decode cX6_band 61 = .ok (.if_icmp .le 78, 3) := by decide +kernel
theorem dX6_band_64 : decode cX6_band 64 = .ok (.iload 5, 2) := by decide +kernel
theorem dX6_band_66 : decode cX6_band 66 = .ok (.ifCond .ne 9, 3) := by decide +kernel
theorem dX6_band_69 : decode cX6_band 69 = .ok (.aload_n 0, 1) := by decide +kernel
theorem dX6_band_70 : decode cX6_band 70 = .ok (.bipush 44, 2) := by decide +kernel
theorem dX6_band_72 : decode cX6_band 72 = .ok (.invokevirtual 58, 3) := by decide +kernel
theorem dX6_band_75 : decode cX6_band 75 = .ok (.iconst 0, 1) := by decide +kernel
theorem dX6_band_76 : decode cX6_band 76 = .ok (.istore 5, 2) := by decide +kernel
theorem dX6_band_78 : decode cX6_band 78 = .ok (.aload_n 0, 1) := by decide +kernel
theorem dX6_band_79 : decode cX6_band 79 = .ok (.iload 6, 2) := by decide +kernel
theorem dX6_band_81 : decode cX6_band 81 = .ok (.invokevirtual 62, 3) := by decide +kernel
theorem dX6_band_84 : decode cX6_band 84 = .ok (.aload_n 0, 1) := by decide +kernel
theorem dX6_band_85 : decode cX6_band 85 = .ok (.bipush 46, 2) := by decide +kernel
theorem dX6_band_87 : decode cX6_band 87 = .ok (.invokevirtual 58, 3) := by decide +kernel
theorem dX6_band_90 : decode cX6_band 90 = .ok (.aload_n 0, 1) := by decide +kernel
theorem dX6_band_91 : decode cX6_band 91 = .ok (.iload 7, 2) := by decide +kernel
theorem dX6_band_93 : decode cX6_band 93 = .ok (.invokevirtual 62, 3) := by decide +kernel
theorem dX6_band_96 : decode cX6_band 96 = .ok (.aload_n 0, 1) := by decide +kernel
theorem dX6_band_97 : decode cX6_band 97 = .ok (.aload_n 0, 1) := by decide +kernel
theorem dX6_band_98 : decode cX6_band 98 = .ok (.getfield 68, 3) := by decide +kernel
theorem dX6_band_101 : decode cX6_band 101 = .ok (.aload_n 0, 1) := by decide +kernel
theorem dX6_band_102 : decode cX6_band 102 = .ok (.getfield 71, 3) := by decide +kernel
theorem dX6_band_105 : decode cX6_band 105 = .ok (.if_icmp .ne 17, 3) := by decide +kernel
theorem dX6_band_108 : decode cX6_band 108 = .ok (.iload 4, 2) := by decide +kernel
theorem dX6_band_110 : decode cX6_band 110 = .ok (.iload 6, 2) := by decide +kernel
theorem dX6_band_112 : decode cX6_band 112 = .ok (.iload 7, 2) := by decide +kernel
theorem dX6_band_114 : decode cX6_band 114 = .ok (.iload_n 2, 1) := by decide +kernel
theorem dX6_band_115 : decode cX6_band 115 = .ok (.iload_n 3, 1) := by decide +kernel
theorem dX6_band_116 : decode cX6_band 116 = .ok (.invokestatic 74, 3) := by decide +kernel
theorem dX6_band_119 : decode cX6_band 119 = .ok (.goto 7, 3) := by decide +kernel
theorem dX6_band_122 : decode cX6_band 122 = .ok (.aload_n 0, 1) := by decide +kernel
theorem dX6_band_123 : decode cX6_band 123 = .ok (.getfield 78, 3) := by decide +kernel
theorem dX6_band_126 : decode cX6_band 126 = .ok (.putfield 78, 3) := by decide +kernel
theorem dX6_band_129 : decode cX6_band 129 = .ok (.aload_n 0, 1) := by decide +kernel
theorem dX6_band_130 : decode cX6_band 130 = .ok (.dup, 1) := by decide +kernel
theorem dX6_band_131 : decode cX6_band 131 = .ok (.getfield 68, 3) := by decide +kernel
theorem dX6_band_134 : decode cX6_band 134 = .ok (.iconst 1, 1) := by decide +kernel
theorem dX6_band_135 : decode cX6_band 135 = .ok (.iadd, 1) := by decide +kernel
theorem dX6_band_136 : decode cX6_band 136 = .ok (.putfield 68, 3) := by decide +kernel
theorem dX6_band_139 : decode cX6_band 139 = .ok (.iload 7, 2) := by decide +kernel
theorem dX6_band_141 : decode cX6_band 141 = .ok (.iconst 1, 1) := by decide +kernel
theorem dX6_band_142 : decode cX6_band 142 = .ok (.iadd, 1) := by decide +kernel
theorem dX6_band_143 : decode cX6_band 143 = .ok (.istore 6, 2) := by decide +kernel
theorem dX6_band_145 : decode cX6_band 145 = .ok (.goto (-116), 3) := by decide +kernel
theorem dX6_band_148 : decode cX6_band 148 = .ok (.aload_n 0, 1) := by decide +kernel
theorem dX6_band_149 : decode cX6_band 149 = .ok (.bipush 59, 2) := by decide +kernel
theorem dX6_band_151 : decode cX6_band 151 = .ok (.invokevirtual 58, 3) := by decide +kernel
theorem dX6_band_154 : decode cX6_band 154 = .ok (.aload_n 0, 1) := by decide +kernel
theorem dX6_band_155 : decode cX6_band 155 = .ok (.dup, 1) := by decide +kernel
theorem dX6_band_156 : decode cX6_band 156 = .ok (.getfield 81, 3) := by decide +kernel
theorem dX6_band_159 : decode cX6_band 159 = .ok (.iconst 1, 1) := by decide +kernel
theorem dX6_band_160 : decode cX6_band 160 = .ok (.iadd, 1) := by decide +kernel
theorem dX6_band_161 : decode cX6_band 161 = .ok (.putfield 81, 3) := by decide +kernel
theorem dX6_band_164 : decode cX6_band 164 = .ok (.return_, 1) := by decide +kernel
theorem dX6_forms_0 : decode cX6_forms 0 = .ok (.aload_n 0, 1) := by decide +kernel
theorem dX6_forms_1 : decode cX6_forms 1 = .ok (.iconst 0, 1) := by decide +kernel
theorem dX6_forms_2 : decode cX6_forms 2 = .ok (.putfield 68, 3) := by decide +kernel
theorem dX6_forms_5 : decode cX6_forms 5 = .ok (.aload_n 0, 1) := by decide +kernel
theorem dX6_forms_6 : decode cX6_forms 6 = .ok (.iconst 0, 1) := by decide +kernel
theorem dX6_forms_7 : decode cX6_forms 7 = .ok (.putfield 81, 3) := by decide +kernel
theorem dX6_forms_10 : decode cX6_forms 10 = .ok (.aload_n 0, 1) := by decide +kernel
theorem dX6_forms_11 : decode cX6_forms 11 = .ok (.iconst 0, 1) := by decide +kernel
theorem dX6_forms_12 : decode cX6_forms 12 = .ok (.putfield 45, 3) := by decide +kernel
theorem dX6_forms_15 : decode cX6_forms 15 = .ok (.aload_n 0, 1) := by decide +kernel
theorem dX6_forms_16 : decode cX6_forms 16 = .ok (.iconst 0, 1) := by decide +kernel
theorem dX6_forms_17 : decode cX6_forms 17 = .ok (.putfield 55, 3) := by decide +kernel
theorem dX6_forms_20 : decode cX6_forms 20 = .ok (.aload_n 0, 1) := by decide +kernel
theorem dX6_forms_21 : decode cX6_forms 21 = .ok (.iload_n 2, 1) := by decide +kernel
theorem dX6_forms_22 : decode cX6_forms 22 = .ok (.putfield 71, 3) := by decide +kernel
theorem dX6_forms_25 : decode cX6_forms 25 = .ok (.aload_n 0, 1) := by decide +kernel
theorem dX6_forms_26 : decode cX6_forms 26 = .ok (.iload 4, 2) := by decide +kernel
theorem dX6_forms_28 : decode cX6_forms 28 = .ok (.putfield 49, 3) := by decide +kernel
theorem dX6_forms_31 : decode cX6_forms 31 = .ok (.aload_n 0, 1) := by decide +kernel
theorem dX6_forms_32 : decode cX6_forms 32 = .ok (.sipush (-201), 3) := by decide +kernel
theorem dX6_forms_35 : decode cX6_forms 35 = .ok (.putfield 78, 3) := by decide +kernel
theorem dX6_forms_38 : decode cX6_forms 38 = .ok (.aload_n 0, 1) := by decide +kernel
theorem dX6_forms_39 : decode cX6_forms 39 = .ok (.sipush (-201), 3) := by decide +kernel
theorem dX6_forms_42 : decode cX6_forms 42 = .ok (.putfield 52, 3) := by decide +kernel
theorem dX6_forms_45 : decode cX6_forms 45 = .ok (.bipush (-60), 2) := by decide +kernel
theorem dX6_forms_47 : decode cX6_forms 47 = .ok (.istore 5, 2) := by decide +kernel
theorem dX6_forms_49 : decode cX6_forms 49 = .ok (.iload 5, 2) := by decide +kernel
theorem dX6_forms_51 : decode cX6_forms 51 = .ok (.bipush 59, 2) := by decide +kernel
theorem dX6_forms_53 : decode cX6_forms 53 = .ok (.if_icmp .gt 61, 3) := by decide +kernel
theorem dX6_forms_56 : decode cX6_forms 56 = .ok (.iload 5, 2) := by decide +kernel
theorem dX6_forms_58 : decode cX6_forms 58 = .ok (.iconst 1, 1) := by decide +kernel
theorem dX6_forms_59 : decode cX6_forms 59 = .ok (.iadd, 1) := by decide +kernel
theorem dX6_forms_60 : decode cX6_forms 60 = .ok (.istore 6, 2) := by decide +kernel
theorem dX6_forms_62 : decode cX6_forms 62 = .ok (.iload 6, 2) := by decide +kernel
theorem dX6_forms_64 : decode cX6_forms 64 = .ok (.bipush 59, 2) := by decide +kernel
theorem dX6_forms_66 : decode cX6_forms 66 = .ok (.if_icmp .gt 21, 3) := by decide +kernel
theorem dX6_forms_69 : decode cX6_forms 69 = .ok (.aload_n 0, 1) := by decide +kernel
theorem dX6_forms_70 : decode cX6_forms 70 = .ok (.iload_n 1, 1) := by decide +kernel
theorem dX6_forms_71 : decode cX6_forms 71 = .ok (.iload 5, 2) := by decide +kernel
theorem dX6_forms_73 : decode cX6_forms 73 = .ok (.iload 6, 2) := by decide +kernel
theorem dX6_forms_75 : decode cX6_forms 75 = .ok (.invokevirtual 84, 3) := by decide +kernel
theorem dX6_forms_78 : decode cX6_forms 78 = .ok (.ifCond .eq 9, 3) := by decide +kernel
theorem dX6_forms_81 : decode cX6_forms 81 = .ok (.iinc 6 1, 3) := by decide +kernel
theorem dX6_forms_84 : decode cX6_forms 84 = .ok (.goto (-22), 3) := by decide +kernel
theorem dX6_forms_87 : decode cX6_forms 87 = .ok (.aload_n 0, 1) := by decide +kernel
theorem dX6_forms_88 : decode cX6_forms 88 = .ok (.iload_n 1, 1) := by decide +kernel
theorem dX6_forms_89 : decode cX6_forms 89 = .ok (.iload 5, 2) := by decide +kernel
theorem dX6_forms_91 : decode cX6_forms 91 = .ok (.invokevirtual 87, 3) := by decide +kernel
theorem dX6_forms_94 : decode cX6_forms 94 = .ok (.ifCond .ne 13, 3) := by decide +kernel
theorem dX6_forms_97 : decode cX6_forms 97 = .ok (.aload_n 0, 1) := by decide +kernel
theorem dX6_forms_98 : decode cX6_forms 98 = .ok (.iload_n 1, 1) := by decide +kernel
theorem dX6_forms_99 : decode cX6_forms 99 = .ok (.iload 5, 2) := by decide +kernel
theorem dX6_forms_101 : decode cX6_forms 101 = .ok (.iload 6, 2) := by decide +kernel
theorem dX6_forms_103 : decode cX6_forms 103 = .ok (.iload_n 3, 1) := by decide +kernel
theorem dX6_forms_104 : decode cX6_forms 104 = .ok (.invokevirtual 90, 3) := by decide +kernel
theorem dX6_forms_107 : decode cX6_forms 107 = .ok (.iload 6, 2) := by decide +kernel
theorem dX6_forms_109 : decode cX6_forms 109 = .ok (.istore 5, 2) := by decide +kernel
theorem dX6_forms_111 : decode cX6_forms 111 = .ok (.goto (-62), 3) := by decide +kernel
theorem dX6_forms_114 : decode cX6_forms 114 = .ok (.return_, 1) := by decide +kernel
theorem dX6_becomes_0 : decode cX6_becomes 0 = .ok (.aload_n 0, 1) := by decide +kernel
theorem dX6_becomes_1 : decode cX6_becomes 1 = .ok (.iconst 5, 1) := by decide +kernel
theorem dX6_becomes_2 : decode cX6_becomes 2 = .ok (.iconst 0, 1) := by decide +kernel
theorem dX6_becomes_3 : decode cX6_becomes 3 = .ok (.iconst 0, 1) := by decide +kernel
theorem dX6_becomes_4 : decode cX6_becomes 4 = .ok (.iconst 0, 1) := by decide +kernel
theorem dX6_becomes_5 : decode cX6_becomes 5 = .ok (.invokevirtual 94, 3) := by decide +kernel
theorem dX6_becomes_8 : decode cX6_becomes 8 = .ok (.aload_n 0, 1) := by decide +kernel
theorem dX6_becomes_9 : decode cX6_becomes 9 = .ok (.getfield 81, 3) := by decide +kernel
theorem dX6_becomes_12 : decode cX6_becomes 12 = .ok (.bipush 60, 2) := by decide +kernel
theorem dX6_becomes_14 : decode cX6_becomes 14 = .ok (.if_icmp .gt 13, 3) := by decide +kernel
theorem dX6_becomes_17 : decode cX6_becomes 17 = .ok (.aload_n 0, 1) := by decide +kernel
theorem dX6_becomes_18 : decode cX6_becomes 18 = .ok (.getfield 68, 3) := by decide +kernel
theorem dX6_becomes_21 : decode cX6_becomes 21 = .ok (.sipush 300, 3) := by decide +kernel
theorem dX6_becomes_24 : decode cX6_becomes 24 = .ok (.if_icmp .le 7, 3) := by decide +kernel
theorem dX6_becomes_27 : decode cX6_becomes 27 = .ok (.sipush (-204), 3) := by decide +kernel
theorem dX6_becomes_30 : decode cX6_becomes 30 = .ok (.ireturn, 1) := by decide +kernel
theorem dX6_becomes_31 : decode cX6_becomes 31 = .ok (.aload_n 0, 1) := by decide +kernel
theorem dX6_becomes_32 : decode cX6_becomes 32 = .ok (.iconst 5, 1) := by decide +kernel
theorem dX6_becomes_33 : decode cX6_becomes 33 = .ok (.iload_n 1, 1) := by decide +kernel
theorem dX6_becomes_34 : decode cX6_becomes 34 = .ok (.invokevirtual 97, 3) := by decide +kernel
theorem dX6_becomes_37 : decode cX6_becomes 37 = .ok (.aload_n 0, 1) := by decide +kernel
theorem dX6_becomes_38 : decode cX6_becomes 38 = .ok (.iload_n 1, 1) := by decide +kernel
theorem dX6_becomes_39 : decode cX6_becomes 39 = .ok (.invokevirtual 101, 3) := by decide +kernel
theorem dX6_becomes_42 : decode cX6_becomes 42 = .ok (.ireturn, 1) := by decide +kernel
theorem dX6_ends_0 : decode cX6_ends 0 = .ok (.iload_n 1, 1) := by decide +kernel
theorem dX6_ends_1 : decode cX6_ends 1 = .ok (.sipush (-204), 3) := by decide +kernel
theorem dX6_ends_4 : decode cX6_ends 4 = .ok (.if_icmp .eq 10, 3) := by decide +kernel
theorem dX6_ends_7 : decode cX6_ends 7 = .ok (.iload_n 1, 1) := by decide +kernel
theorem dX6_ends_8 : decode cX6_ends 8 = .ok (.sipush (-203), 3) := by decide +kernel
theorem dX6_ends_11 : decode cX6_ends 11 = .ok (.if_icmp .ne 11, 3) := by decide +kernel
theorem dX6_ends_14 : decode cX6_ends 14 = .ok (.aload_n 0, 1) := by decide +kernel
theorem dX6_ends_15 : decode cX6_ends 15 = .ok (.iload_n 1, 1) := by decide +kernel
theorem dX6_ends_16 : decode cX6_ends 16 = .ok (.invokevirtual 105, 3) := by decide +kernel
theorem dX6_ends_19 : decode cX6_ends 19 = .ok (.goto 4, 3) := by decide +kernel
theorem dX6_ends_22 : decode cX6_ends 22 = .ok (.iload_n 1, 1) := by decide +kernel
theorem dX6_ends_23 : decode cX6_ends 23 = .ok (.ireturn, 1) := by decide +kernel
theorem dX6_boxes_0 : decode cX6_boxes 0 = .ok (.iload_n 1, 1) := by decide +kernel
theorem dX6_boxes_1 : decode cX6_boxes 1 = .ok (.iload_n 3, 1) := by decide +kernel
theorem dX6_boxes_2 : decode cX6_boxes 2 = .ok (.iadd, 1) := by decide +kernel
theorem dX6_boxes_3 : decode cX6_boxes 3 = .ok (.bipush 60, 2) := by decide +kernel
theorem dX6_boxes_5 : decode cX6_boxes 5 = .ok (.if_icmp .gt 12, 3) := by decide +kernel
theorem dX6_boxes_8 : decode cX6_boxes 8 = .ok (.iload_n 2, 1) := by decide +kernel
theorem dX6_boxes_9 : decode cX6_boxes 9 = .ok (.iload 4, 2) := by decide +kernel
theorem dX6_boxes_11 : decode cX6_boxes 11 = .ok (.iadd, 1) := by decide +kernel
theorem dX6_boxes_12 : decode cX6_boxes 12 = .ok (.bipush 60, 2) := by decide +kernel
theorem dX6_boxes_14 : decode cX6_boxes 14 = .ok (.if_icmp .le 7, 3) := by decide +kernel
theorem dX6_boxes_17 : decode cX6_boxes 17 = .ok (.sipush (-203), 3) := by decide +kernel
theorem dX6_boxes_20 : decode cX6_boxes 20 = .ok (.ireturn, 1) := by decide +kernel
theorem dX6_boxes_21 : decode cX6_boxes 21 = .ok (.aload_n 0, 1) := by decide +kernel
theorem dX6_boxes_22 : decode cX6_boxes 22 = .ok (.iconst 5, 1) := by decide +kernel
theorem dX6_boxes_23 : decode cX6_boxes 23 = .ok (.invokevirtual 108, 3) := by decide +kernel
theorem dX6_boxes_26 : decode cX6_boxes 26 = .ok (.aload_n 0, 1) := by decide +kernel
theorem dX6_boxes_27 : decode cX6_boxes 27 = .ok (.iload_n 1, 1) := by decide +kernel
theorem dX6_boxes_28 : decode cX6_boxes 28 = .ok (.iload_n 2, 1) := by decide +kernel
theorem dX6_boxes_29 : decode cX6_boxes 29 = .ok (.iload_n 3, 1) := by decide +kernel
theorem dX6_boxes_30 : decode cX6_boxes 30 = .ok (.iload 4, 2) := by decide +kernel
theorem dX6_boxes_32 : decode cX6_boxes 32 = .ok (.invokevirtual 111, 3) := by decide +kernel
theorem dX6_boxes_35 : decode cX6_boxes 35 = .ok (.aload_n 0, 1) := by decide +kernel
theorem dX6_boxes_36 : decode cX6_boxes 36 = .ok (.iload 5, 2) := by decide +kernel
theorem dX6_boxes_38 : decode cX6_boxes 38 = .ok (.invokevirtual 114, 3) := by decide +kernel
theorem dX6_boxes_41 : decode cX6_boxes 41 = .ok (.ireturn, 1) := by decide +kernel
theorem dX6_fills_0 : decode cX6_fills 0 = .ok (.iload_n 2, 1) := by decide +kernel
theorem dX6_fills_1 : decode cX6_fills 1 = .ok (.istore 5, 2) := by decide +kernel
theorem dX6_fills_3 : decode cX6_fills 3 = .ok (.iload 5, 2) := by decide +kernel
theorem dX6_fills_5 : decode cX6_fills 5 = .ok (.iload_n 2, 1) := by decide +kernel
theorem dX6_fills_6 : decode cX6_fills 6 = .ok (.iload 4, 2) := by decide +kernel
theorem dX6_fills_8 : decode cX6_fills 8 = .ok (.iadd, 1) := by decide +kernel
theorem dX6_fills_9 : decode cX6_fills 9 = .ok (.if_icmp .ge 35, 3) := by decide +kernel
theorem dX6_fills_12 : decode cX6_fills 12 = .ok (.iload_n 1, 1) := by decide +kernel
theorem dX6_fills_13 : decode cX6_fills 13 = .ok (.istore 6, 2) := by decide +kernel
theorem dX6_fills_15 : decode cX6_fills 15 = .ok (.iload 6, 2) := by decide +kernel
theorem dX6_fills_17 : decode cX6_fills 17 = .ok (.iload_n 1, 1) := by decide +kernel
theorem dX6_fills_18 : decode cX6_fills 18 = .ok (.iload_n 3, 1) := by decide +kernel
theorem dX6_fills_19 : decode cX6_fills 19 = .ok (.iadd, 1) := by decide +kernel
theorem dX6_fills_20 : decode cX6_fills 20 = .ok (.if_icmp .ge 18, 3) := by decide +kernel
theorem dX6_fills_23 : decode cX6_fills 23 = .ok (.aload_n 0, 1) := by decide +kernel
theorem dX6_fills_24 : decode cX6_fills 24 = .ok (.iconst 5, 1) := by decide +kernel
theorem dX6_fills_25 : decode cX6_fills 25 = .ok (.iload 6, 2) := by decide +kernel
theorem dX6_fills_27 : decode cX6_fills 27 = .ok (.iload 5, 2) := by decide +kernel
theorem dX6_fills_29 : decode cX6_fills 29 = .ok (.invokevirtual 117, 3) := by decide +kernel
theorem dX6_fills_32 : decode cX6_fills 32 = .ok (.iinc 6 1, 3) := by decide +kernel
theorem dX6_fills_35 : decode cX6_fills 35 = .ok (.goto (-20), 3) := by decide +kernel
theorem dX6_fills_38 : decode cX6_fills 38 = .ok (.iinc 5 1, 3) := by decide +kernel
theorem dX6_fills_41 : decode cX6_fills 41 = .ok (.goto (-38), 3) := by decide +kernel
theorem dX6_fills_44 : decode cX6_fills 44 = .ok (.return_, 1) := by decide +kernel
theorem dX6_mixes_0 : decode cX6_mixes 0 = .ok (.iconst 0, 1) := by decide +kernel
theorem dX6_mixes_1 : decode cX6_mixes 1 = .ok (.istore 5, 2) := by decide +kernel
theorem dX6_mixes_3 : decode cX6_mixes 3 = .ok (.iload 5, 2) := by decide +kernel
theorem dX6_mixes_5 : decode cX6_mixes 5 = .ok (.sipush 240, 3) := by decide +kernel
theorem dX6_mixes_8 : decode cX6_mixes 8 = .ok (.if_icmp .ge 97, 3) := by decide +kernel
theorem dX6_mixes_11 : decode cX6_mixes 11 = .ok (.aload_n 0, 1) := by decide +kernel
theorem dX6_mixes_12 : decode cX6_mixes 12 = .ok (.getfield 7, 3) := by decide +kernel
theorem dX6_mixes_15 : decode cX6_mixes 15 = .ok (.sipush 240, 3) := by decide +kernel
theorem dX6_mixes_18 : decode cX6_mixes 18 = .ok (.iload_n 2, 1) := by decide +kernel
theorem dX6_mixes_19 : decode cX6_mixes 19 = .ok (.imul, 1) := by decide +kernel
theorem dX6_mixes_20 : decode cX6_mixes 20 = .ok (.iload 5, 2) := by decide +kernel
theorem dX6_mixes_22 : decode cX6_mixes 22 = .ok (.iadd, 1) := by decide +kernel
theorem dX6_mixes_23 : decode cX6_mixes 23 = .ok (.laload, 1) := by decide +kernel
theorem dX6_mixes_24 : decode cX6_mixes 24 = .ok (.lstore 6, 2) := by decide +kernel
theorem dX6_mixes_26 : decode cX6_mixes 26 = .ok (.aload_n 0, 1) := by decide +kernel
theorem dX6_mixes_27 : decode cX6_mixes 27 = .ok (.getfield 7, 3) := by decide +kernel
theorem dX6_mixes_30 : decode cX6_mixes 30 = .ok (.sipush 240, 3) := by decide +kernel
theorem dX6_mixes_33 : decode cX6_mixes 33 = .ok (.iload_n 3, 1) := by decide +kernel
theorem dX6_mixes_34 : decode cX6_mixes 34 = .ok (.imul, 1) := by decide +kernel
theorem dX6_mixes_35 : decode cX6_mixes 35 = .ok (.iload 5, 2) := by decide +kernel
theorem dX6_mixes_37 : decode cX6_mixes 37 = .ok (.iadd, 1) := by decide +kernel
theorem dX6_mixes_38 : decode cX6_mixes 38 = .ok (.laload, 1) := by decide +kernel
theorem dX6_mixes_39 : decode cX6_mixes 39 = .ok (.lstore 8, 2) := by decide +kernel
theorem dX6_mixes_41 : decode cX6_mixes 41 = .ok (.aload_n 0, 1) := by decide +kernel
theorem dX6_mixes_42 : decode cX6_mixes 42 = .ok (.getfield 7, 3) := by decide +kernel
theorem dX6_mixes_45 : decode cX6_mixes 45 = .ok (.sipush 1200, 3) := by decide +kernel
theorem dX6_mixes_48 : decode cX6_mixes 48 = .ok (.iload 5, 2) := by decide +kernel
theorem dX6_mixes_50 : decode cX6_mixes 50 = .ok (.iadd, 1) := by decide +kernel
theorem dX6_mixes_51 : decode cX6_mixes 51 = .ok (.iload_n 1, 1) := by decide +kernel
theorem dX6_mixes_52 : decode cX6_mixes 52 = .ok (.ifCond .ne 11, 3) := by decide +kernel
theorem dX6_mixes_55 : decode cX6_mixes 55 = .ok (.lload 6, 2) := by decide +kernel
theorem dX6_mixes_57 : decode cX6_mixes 57 = .ok (.lload 8, 2) := by decide +kernel
theorem dX6_mixes_59 : decode cX6_mixes 59 = .ok (.lor, 1) := by decide +kernel
theorem dX6_mixes_60 : decode cX6_mixes 60 = .ok (.goto 38, 3) := by decide +kernel
theorem dX6_mixes_63 : decode cX6_mixes 63 = .ok (.iload_n 1, 1) := by decide +kernel
theorem dX6_mixes_64 : decode cX6_mixes 64 = .ok (.iconst 1, 1) := by decide +kernel
theorem dX6_mixes_65 : decode cX6_mixes 65 = .ok (.if_icmp .ne 11, 3) := by decide +kernel
theorem dX6_mixes_68 : decode cX6_mixes 68 = .ok (.lload 6, 2) := by decide +kernel
theorem dX6_mixes_70 : decode cX6_mixes 70 = .ok (.lload 8, 2) := by decide +kernel
theorem dX6_mixes_72 : decode cX6_mixes 72 = .ok (.land, 1) := by decide +kernel
theorem dX6_mixes_73 : decode cX6_mixes 73 = .ok (.goto 25, 3) := by decide +kernel
theorem dX6_mixes_76 : decode cX6_mixes 76 = .ok (.iload_n 1, 1) := by decide +kernel
theorem dX6_mixes_77 : decode cX6_mixes 77 = .ok (.iconst 2, 1) := by decide +kernel
theorem dX6_mixes_78 : decode cX6_mixes 78 = .ok (.if_icmp .ne 15, 3) := by decide +kernel
theorem dX6_mixes_81 : decode cX6_mixes 81 = .ok (.lload 6, 2) := by decide +kernel
theorem dX6_mixes_83 : decode cX6_mixes 83 = .ok (.lload 8, 2) := by decide +kernel
theorem dX6_mixes_85 : decode cX6_mixes 85 = .ok (.ldc2_w 121, 3) := by decide +kernel
theorem dX6_mixes_88 : decode cX6_mixes 88 = .ok (.lxor, 1) := by decide +kernel
theorem dX6_mixes_89 : decode cX6_mixes 89 = .ok (.land, 1) := by decide +kernel
theorem dX6_mixes_90 : decode cX6_mixes 90 = .ok (.goto 8, 3) := by decide +kernel
theorem dX6_mixes_93 : decode cX6_mixes 93 = .ok (.lload 6, 2) := by decide +kernel
theorem dX6_mixes_95 : decode cX6_mixes 95 = .ok (.lload 8, 2) := by decide +kernel
theorem dX6_mixes_97 : decode cX6_mixes 97 = .ok (.lxor, 1) := by decide +kernel
theorem dX6_mixes_98 : decode cX6_mixes 98 = .ok (.lastore, 1) := by decide +kernel
theorem dX6_mixes_99 : decode cX6_mixes 99 = .ok (.iinc 5 1, 3) := by decide +kernel
theorem dX6_mixes_102 : decode cX6_mixes 102 = .ok (.goto (-99), 3) := by decide +kernel
theorem dX6_mixes_105 : decode cX6_mixes 105 = .ok (.aload_n 0, 1) := by decide +kernel
theorem dX6_mixes_106 : decode cX6_mixes 106 = .ok (.iload 4, 2) := by decide +kernel
theorem dX6_mixes_108 : decode cX6_mixes 108 = .ok (.invokevirtual 114, 3) := by decide +kernel
theorem dX6_mixes_111 : decode cX6_mixes 111 = .ok (.ireturn, 1) := by decide +kernel
theorem dX6_moves_0 : decode cX6_moves 0 = .ok (.aload_n 0, 1) := by decide +kernel
theorem dX6_moves_1 : decode cX6_moves 1 = .ok (.iconst 5, 1) := by decide +kernel
theorem dX6_moves_2 : decode cX6_moves 2 = .ok (.invokevirtual 108, 3) := by decide +kernel
theorem dX6_moves_5 : decode cX6_moves 5 = .ok (.bipush (-60), 2) := by decide +kernel
theorem dX6_moves_7 : decode cX6_moves 7 = .ok (.istore 5, 2) := by decide +kernel
theorem dX6_moves_9 : decode cX6_moves 9 = .ok (.iload 5, 2) := by decide +kernel
theorem dX6_moves_11 : decode cX6_moves 11 = .ok (.bipush 59, 2) := by decide +kernel
theorem dX6_moves_13 : decode cX6_moves 13 = .ok (.if_icmp .gt 69, 3) := by decide +kernel
theorem dX6_moves_16 : decode cX6_moves 16 = .ok (.bipush (-60), 2) := by decide +kernel
theorem dX6_moves_18 : decode cX6_moves 18 = .ok (.istore 6, 2) := by decide +kernel
theorem dX6_moves_20 : decode cX6_moves 20 = .ok (.iload 6, 2) := by decide +kernel
theorem dX6_moves_22 : decode cX6_moves 22 = .ok (.bipush 59, 2) := by decide +kernel
theorem dX6_moves_24 : decode cX6_moves 24 = .ok (.if_icmp .gt 52, 3) := by decide +kernel
theorem dX6_moves_27 : decode cX6_moves 27 = .ok (.aload_n 0, 1) := by decide +kernel
theorem dX6_moves_28 : decode cX6_moves 28 = .ok (.iload_n 1, 1) := by decide +kernel
theorem dX6_moves_29 : decode cX6_moves 29 = .ok (.iload 6, 2) := by decide +kernel
theorem dX6_moves_31 : decode cX6_moves 31 = .ok (.iload 5, 2) := by decide +kernel
theorem dX6_moves_33 : decode cX6_moves 33 = .ok (.invokevirtual 65, 3) := by decide +kernel
theorem dX6_moves_36 : decode cX6_moves 36 = .ok (.ifCond .eq 34, 3) := by decide +kernel
theorem dX6_moves_39 : decode cX6_moves 39 = .ok (.iload 6, 2) := by decide +kernel
theorem dX6_moves_41 : decode cX6_moves 41 = .ok (.iload_n 2, 1) := by decide +kernel
theorem dX6_moves_42 : decode cX6_moves 42 = .ok (.iadd, 1) := by decide +kernel
theorem dX6_moves_43 : decode cX6_moves 43 = .ok (.iload 5, 2) := by decide +kernel
theorem dX6_moves_45 : decode cX6_moves 45 = .ok (.iload_n 3, 1) := by decide +kernel
theorem dX6_moves_46 : decode cX6_moves 46 = .ok (.iadd, 1) := by decide +kernel
theorem dX6_moves_47 : decode cX6_moves 47 = .ok (.invokestatic 37, 3) := by decide +kernel
theorem dX6_moves_50 : decode cX6_moves 50 = .ok (.ifCond .ne 7, 3) := by decide +kernel
theorem dX6_moves_53 : decode cX6_moves 53 = .ok (.sipush (-203), 3) := by decide +kernel
theorem dX6_moves_56 : decode cX6_moves 56 = .ok (.ireturn, 1) := by decide +kernel
theorem dX6_moves_57 : decode cX6_moves 57 = .ok (.aload_n 0, 1) := by decide +kernel
theorem dX6_moves_58 : decode cX6_moves 58 = .ok (.iconst 5, 1) := by decide +kernel
theorem dX6_moves_59 : decode cX6_moves 59 = .ok (.iload 6, 2) := by decide +kernel
theorem dX6_moves_61 : decode cX6_moves 61 = .ok (.iload_n 2, 1) := by decide +kernel
theorem dX6_moves_62 : decode cX6_moves 62 = .ok (.iadd, 1) := by decide +kernel
theorem dX6_moves_63 : decode cX6_moves 63 = .ok (.iload 5, 2) := by decide +kernel
theorem dX6_moves_65 : decode cX6_moves 65 = .ok (.iload_n 3, 1) := by decide +kernel
theorem dX6_moves_66 : decode cX6_moves 66 = .ok (.iadd, 1) := by decide +kernel
theorem dX6_moves_67 : decode cX6_moves 67 = .ok (.invokevirtual 117, 3) := by decide +kernel
theorem dX6_moves_70 : decode cX6_moves 70 = .ok (.iinc 6 1, 3) := by decide +kernel
theorem dX6_moves_73 : decode cX6_moves 73 = .ok (.goto (-53), 3) := by decide +kernel
theorem dX6_moves_76 : decode cX6_moves 76 = .ok (.iinc 5 1, 3) := by decide +kernel
theorem dX6_moves_79 : decode cX6_moves 79 = .ok (.goto (-70), 3) := by decide +kernel
theorem dX6_moves_82 : decode cX6_moves 82 = .ok (.aload_n 0, 1) := by decide +kernel
theorem dX6_moves_83 : decode cX6_moves 83 = .ok (.iload 4, 2) := by decide +kernel
theorem dX6_moves_85 : decode cX6_moves 85 = .ok (.invokevirtual 114, 3) := by decide +kernel
theorem dX6_moves_88 : decode cX6_moves 88 = .ok (.ireturn, 1) := by decide +kernel
theorem dX6_step_0 : decode cX6_step 0 = .ok (.aload_n 0, 1) := by decide +kernel
theorem dX6_step_1 : decode cX6_step 1 = .ok (.iconst 5, 1) := by decide +kernel
theorem dX6_step_2 : decode cX6_step 2 = .ok (.bipush 6, 2) := by decide +kernel
theorem dX6_step_4 : decode cX6_step 4 = .ok (.invokevirtual 97, 3) := by decide +kernel
theorem dX6_step_7 : decode cX6_step 7 = .ok (.bipush (-60), 2) := by decide +kernel
theorem dX6_step_9 : decode cX6_step 9 = .ok (.istore_n 2, 1) := by decide +kernel
theorem dX6_step_10 : decode cX6_step 10 = .ok (.iload_n 2, 1) := by decide +kernel
theorem dX6_step_11 : decode cX6_step 11 = .ok (.bipush 59, 2) := by decide +kernel
theorem dX6_step_13 : decode cX6_step 13 = .ok (.if_icmp .gt 253, 3) := by decide +kernel
theorem dX6_step_16 : decode cX6_step 16 = .ok (.iload_n 1, 1) := by decide +kernel
theorem dX6_step_17 : decode cX6_step 17 = .ok (.ifCond .eq 7, 3) := by decide +kernel
theorem dX6_step_20 : decode cX6_step 20 = .ok (.lconst 0, 1) := by decide +kernel
theorem dX6_step_21 : decode cX6_step 21 = .ok (.goto 6, 3) := by decide +kernel
theorem dX6_step_24 : decode cX6_step 24 = .ok (.ldc2_w 123, 3) := by decide +kernel
theorem dX6_step_27 : decode cX6_step 27 = .ok (.lstore_n 3, 1) := by decide +kernel
theorem dX6_step_28 : decode cX6_step 28 = .ok (.lload_n 3, 1) := by decide +kernel
theorem dX6_step_29 : decode cX6_step 29 = .ok (.lstore 5, 2) := by decide +kernel
theorem dX6_step_31 : decode cX6_step 31 = .ok (.iload_n 2, 1) := by decide +kernel
theorem dX6_step_32 : decode cX6_step 32 = .ok (.iconst 1, 1) := by decide +kernel
theorem dX6_step_33 : decode cX6_step 33 = .ok (.isub, 1) := by decide +kernel
theorem dX6_step_34 : decode cX6_step 34 = .ok (.istore 7, 2) := by decide +kernel
theorem dX6_step_36 : decode cX6_step 36 = .ok (.iload 7, 2) := by decide +kernel
theorem dX6_step_38 : decode cX6_step 38 = .ok (.iload_n 2, 1) := by decide +kernel
theorem dX6_step_39 : decode cX6_step 39 = .ok (.iconst 1, 1) := by decide +kernel
theorem dX6_step_40 : decode cX6_step 40 = .ok (.iadd, 1) := by decide +kernel
theorem dX6_step_41 : decode cX6_step 41 = .ok (.if_icmp .gt 184, 3) := by decide +kernel
theorem dX6_step_44 : decode cX6_step 44 = .ok (.iload 7, 2) := by decide +kernel
theorem dX6_step_46 : decode cX6_step 46 = .ok (.bipush (-60), 2) := by decide +kernel
theorem dX6_step_48 : decode cX6_step 48 = .ok (.bipush 59, 2) := by decide +kernel
theorem dX6_step_50 : decode cX6_step 50 = .ok (.invokestatic 33, 3) := by decide +kernel
theorem dX6_step_53 : decode cX6_step 53 = .ok (.ifCond .eq 22, 3) := by decide +kernel
theorem dX6_step_56 : decode cX6_step 56 = .ok (.aload_n 0, 1) := by decide +kernel
theorem dX6_step_57 : decode cX6_step 57 = .ok (.getfield 7, 3) := by decide +kernel
theorem dX6_step_60 : decode cX6_step 60 = .ok (.sipush 1440, 3) := by decide +kernel
theorem dX6_step_63 : decode cX6_step 63 = .ok (.iconst 2, 1) := by decide +kernel
theorem dX6_step_64 : decode cX6_step 64 = .ok (.iload 7, 2) := by decide +kernel
theorem dX6_step_66 : decode cX6_step 66 = .ok (.bipush (-60), 2) := by decide +kernel
theorem dX6_step_68 : decode cX6_step 68 = .ok (.isub, 1) := by decide +kernel
theorem dX6_step_69 : decode cX6_step 69 = .ok (.imul, 1) := by decide +kernel
theorem dX6_step_70 : decode cX6_step 70 = .ok (.iadd, 1) := by decide +kernel
theorem dX6_step_71 : decode cX6_step 71 = .ok (.laload, 1) := by decide +kernel
theorem dX6_step_72 : decode cX6_step 72 = .ok (.goto 4, 3) := by decide +kernel
theorem dX6_step_75 : decode cX6_step 75 = .ok (.lconst 0, 1) := by decide +kernel
theorem dX6_step_76 : decode cX6_step 76 = .ok (.lstore 8, 2) := by decide +kernel
theorem dX6_step_78 : decode cX6_step 78 = .ok (.iload 7, 2) := by decide +kernel
theorem dX6_step_80 : decode cX6_step 80 = .ok (.bipush (-60), 2) := by decide +kernel
theorem dX6_step_82 : decode cX6_step 82 = .ok (.bipush 59, 2) := by decide +kernel
theorem dX6_step_84 : decode cX6_step 84 = .ok (.invokestatic 33, 3) := by decide +kernel
theorem dX6_step_87 : decode cX6_step 87 = .ok (.ifCond .eq 24, 3) := by decide +kernel
theorem dX6_step_90 : decode cX6_step 90 = .ok (.aload_n 0, 1) := by decide +kernel
theorem dX6_step_91 : decode cX6_step 91 = .ok (.getfield 7, 3) := by decide +kernel
theorem dX6_step_94 : decode cX6_step 94 = .ok (.sipush 1440, 3) := by decide +kernel
theorem dX6_step_97 : decode cX6_step 97 = .ok (.iconst 2, 1) := by decide +kernel
theorem dX6_step_98 : decode cX6_step 98 = .ok (.iload 7, 2) := by decide +kernel
theorem dX6_step_100 : decode cX6_step 100 = .ok (.bipush (-60), 2) := by decide +kernel
theorem dX6_step_102 : decode cX6_step 102 = .ok (.isub, 1) := by decide +kernel
theorem dX6_step_103 : decode cX6_step 103 = .ok (.imul, 1) := by decide +kernel
theorem dX6_step_104 : decode cX6_step 104 = .ok (.iadd, 1) := by decide +kernel
theorem dX6_step_105 : decode cX6_step 105 = .ok (.iconst 1, 1) := by decide +kernel
theorem dX6_step_106 : decode cX6_step 106 = .ok (.iadd, 1) := by decide +kernel
theorem dX6_step_107 : decode cX6_step 107 = .ok (.laload, 1) := by decide +kernel
theorem dX6_step_108 : decode cX6_step 108 = .ok (.goto 4, 3) := by decide +kernel
theorem dX6_step_111 : decode cX6_step 111 = .ok (.lconst 0, 1) := by decide +kernel
theorem dX6_step_112 : decode cX6_step 112 = .ok (.lstore 10, 2) := by decide +kernel
theorem dX6_step_114 : decode cX6_step 114 = .ok (.lload 8, 2) := by decide +kernel
theorem dX6_step_116 : decode cX6_step 116 = .ok (.iconst 1, 1) := by decide +kernel
theorem dX6_step_117 : decode cX6_step 117 = .ok (.lshl, 1) := by decide +kernel
theorem dX6_step_118 : decode cX6_step 118 = .ok (.ldc2_w 123, 3) := by decide +kernel
theorem dX6_step_121 : decode cX6_step 121 = .ok (.land, 1) := by decide +kernel
theorem dX6_step_122 : decode cX6_step 122 = .ok (.lstore 12, 2) := by decide +kernel
theorem dX6_step_124 : decode cX6_step 124 = .ok (.lload 10, 2) := by decide +kernel
theorem dX6_step_126 : decode cX6_step 126 = .ok (.iconst 1, 1) := by decide +kernel
theorem dX6_step_127 : decode cX6_step 127 = .ok (.lshl, 1) := by decide +kernel
theorem dX6_step_128 : decode cX6_step 128 = .ok (.lload 8, 2) := by decide +kernel
theorem dX6_step_130 : decode cX6_step 130 = .ok (.bipush 59, 2) := by decide +kernel
theorem dX6_step_132 : decode cX6_step 132 = .ok (.lshr, 1) := by decide +kernel
theorem dX6_step_133 : decode cX6_step 133 = .ok (.lor, 1) := by decide +kernel
theorem dX6_step_134 : decode cX6_step 134 = .ok (.ldc2_w 123, 3) := by decide +kernel
theorem dX6_step_137 : decode cX6_step 137 = .ok (.land, 1) := by decide +kernel
theorem dX6_step_138 : decode cX6_step 138 = .ok (.lstore 14, 2) := by decide +kernel
theorem dX6_step_140 : decode cX6_step 140 = .ok (.lload 8, 2) := by decide +kernel
theorem dX6_step_142 : decode cX6_step 142 = .ok (.iconst 1, 1) := by decide +kernel
theorem dX6_step_143 : decode cX6_step 143 = .ok (.lshr, 1) := by decide +kernel
theorem dX6_step_144 : decode cX6_step 144 = .ok (.lload 10, 2) := by decide +kernel
theorem dX6_step_146 : decode cX6_step 146 = .ok (.lconst 1, 1) := by decide +kernel
theorem dX6_step_147 : decode cX6_step 147 = .ok (.land, 1) := by decide +kernel
theorem dX6_step_148 : decode cX6_step 148 = .ok (.bipush 59, 2) := by decide +kernel
theorem dX6_step_150 : decode cX6_step 150 = .ok (.lshl, 1) := by decide +kernel
theorem dX6_step_151 : decode cX6_step 151 = .ok (.lor, 1) := by decide +kernel
theorem dX6_step_152 : decode cX6_step 152 = .ok (.lstore 16, 2) := by decide +kernel
theorem dX6_step_154 : decode cX6_step 154 = .ok (.lload 10, 2) := by decide +kernel
theorem dX6_step_156 : decode cX6_step 156 = .ok (.iconst 1, 1) := by decide +kernel
theorem dX6_step_157 : decode cX6_step 157 = .ok (.lshr, 1) := by decide +kernel
theorem dX6_step_158 : decode cX6_step 158 = .ok (.lstore 18, 2) := by decide +kernel
theorem dX6_step_160 : decode cX6_step 160 = .ok (.iload_n 1, 1) := by decide +kernel
theorem dX6_step_161 : decode cX6_step 161 = .ok (.ifCond .eq 16, 3) := by decide +kernel
theorem dX6_step_164 : decode cX6_step 164 = .ok (.lload_n 3, 1) := by decide +kernel
theorem dX6_step_165 : decode cX6_step 165 = .ok (.lload 8, 2) := by decide +kernel
theorem dX6_step_167 : decode cX6_step 167 = .ok (.lor, 1) := by decide +kernel
theorem dX6_step_168 : decode cX6_step 168 = .ok (.lload 12, 2) := by decide +kernel
theorem dX6_step_170 : decode cX6_step 170 = .ok (.lor, 1) := by decide +kernel
theorem dX6_step_171 : decode cX6_step 171 = .ok (.lload 16, 2) := by decide +kernel
theorem dX6_step_173 : decode cX6_step 173 = .ok (.lor, 1) := by decide +kernel
theorem dX6_step_174 : decode cX6_step 174 = .ok (.goto 13, 3) := by decide +kernel
theorem dX6_step_177 : decode cX6_step 177 = .ok (.lload_n 3, 1) := by decide +kernel
theorem dX6_step_178 : decode cX6_step 178 = .ok (.lload 8, 2) := by decide +kernel
theorem dX6_step_180 : decode cX6_step 180 = .ok (.land, 1) := by decide +kernel
theorem dX6_step_181 : decode cX6_step 181 = .ok (.lload 12, 2) := by decide +kernel
theorem dX6_step_183 : decode cX6_step 183 = .ok (.land, 1) := by decide +kernel
theorem dX6_step_184 : decode cX6_step 184 = .ok (.lload 16, 2) := by decide +kernel
theorem dX6_step_186 : decode cX6_step 186 = .ok (.land, 1) := by decide +kernel
theorem dX6_step_187 : decode cX6_step 187 = .ok (.lstore_n 3, 1) := by decide +kernel
theorem dX6_step_188 : decode cX6_step 188 = .ok (.iload_n 1, 1) := by decide +kernel
theorem dX6_step_189 : decode cX6_step 189 = .ok (.ifCond .eq 17, 3) := by decide +kernel
theorem dX6_step_192 : decode cX6_step 192 = .ok (.lload 5, 2) := by decide +kernel
theorem dX6_step_194 : decode cX6_step 194 = .ok (.lload 10, 2) := by decide +kernel
theorem dX6_step_196 : decode cX6_step 196 = .ok (.lor, 1) := by decide +kernel
theorem dX6_step_197 : decode cX6_step 197 = .ok (.lload 14, 2) := by decide +kernel
theorem dX6_step_199 : decode cX6_step 199 = .ok (.lor, 1) := by decide +kernel
theorem dX6_step_200 : decode cX6_step 200 = .ok (.lload 18, 2) := by decide +kernel
theorem dX6_step_202 : decode cX6_step 202 = .ok (.lor, 1) := by decide +kernel
theorem dX6_step_203 : decode cX6_step 203 = .ok (.goto 14, 3) := by decide +kernel
theorem dX6_step_206 : decode cX6_step 206 = .ok (.lload 5, 2) := by decide +kernel
theorem dX6_step_208 : decode cX6_step 208 = .ok (.lload 10, 2) := by decide +kernel
theorem dX6_step_210 : decode cX6_step 210 = .ok (.land, 1) := by decide +kernel
theorem dX6_step_211 : decode cX6_step 211 = .ok (.lload 14, 2) := by decide +kernel
theorem dX6_step_213 : decode cX6_step 213 = .ok (.land, 1) := by decide +kernel
theorem dX6_step_214 : decode cX6_step 214 = .ok (.lload 18, 2) := by decide +kernel
theorem dX6_step_216 : decode cX6_step 216 = .ok (.land, 1) := by decide +kernel
theorem dX6_step_217 : decode cX6_step 217 = .ok (.lstore 5, 2) := by decide +kernel
theorem dX6_step_219 : decode cX6_step 219 = .ok (.iinc 7 1, 3) := by decide +kernel
theorem dX6_step_222 : decode cX6_step 222 = .ok (.goto (-186), 3) := by decide +kernel
theorem dX6_step_225 : decode cX6_step 225 = .ok (.aload_n 0, 1) := by decide +kernel
theorem dX6_step_226 : decode cX6_step 226 = .ok (.getfield 7, 3) := by decide +kernel
theorem dX6_step_229 : decode cX6_step 229 = .ok (.sipush 1200, 3) := by decide +kernel
theorem dX6_step_232 : decode cX6_step 232 = .ok (.iconst 2, 1) := by decide +kernel
theorem dX6_step_233 : decode cX6_step 233 = .ok (.iload_n 2, 1) := by decide +kernel
theorem dX6_step_234 : decode cX6_step 234 = .ok (.bipush (-60), 2) := by decide +kernel
theorem dX6_step_236 : decode cX6_step 236 = .ok (.isub, 1) := by decide +kernel
theorem dX6_step_237 : decode cX6_step 237 = .ok (.imul, 1) := by decide +kernel
theorem dX6_step_238 : decode cX6_step 238 = .ok (.iadd, 1) := by decide +kernel
theorem dX6_step_239 : decode cX6_step 239 = .ok (.lload_n 3, 1) := by decide +kernel
theorem dX6_step_240 : decode cX6_step 240 = .ok (.lastore, 1) := by decide +kernel
theorem dX6_step_241 : decode cX6_step 241 = .ok (.aload_n 0, 1) := by decide +kernel
theorem dX6_step_242 : decode cX6_step 242 = .ok (.getfield 7, 3) := by decide +kernel
theorem dX6_step_245 : decode cX6_step 245 = .ok (.sipush 1200, 3) := by decide +kernel
theorem dX6_step_248 : decode cX6_step 248 = .ok (.iconst 2, 1) := by decide +kernel
theorem dX6_step_249 : decode cX6_step 249 = .ok (.iload_n 2, 1) := by decide +kernel
theorem dX6_step_250 : decode cX6_step 250 = .ok (.bipush (-60), 2) := by decide +kernel
theorem dX6_step_252 : decode cX6_step 252 = .ok (.isub, 1) := by decide +kernel
theorem dX6_step_253 : decode cX6_step 253 = .ok (.imul, 1) := by decide +kernel
theorem dX6_step_254 : decode cX6_step 254 = .ok (.iadd, 1) := by decide +kernel
theorem dX6_step_255 : decode cX6_step 255 = .ok (.iconst 1, 1) := by decide +kernel
theorem dX6_step_256 : decode cX6_step 256 = .ok (.iadd, 1) := by decide +kernel
theorem dX6_step_257 : decode cX6_step 257 = .ok (.lload 5, 2) := by decide +kernel
theorem dX6_step_259 : decode cX6_step 259 = .ok (.lastore, 1) := by decide +kernel
theorem dX6_step_260 : decode cX6_step 260 = .ok (.iinc 2 1, 3) := by decide +kernel
theorem dX6_step_263 : decode cX6_step 263 = .ok (.goto (-253), 3) := by decide +kernel
theorem dX6_step_266 : decode cX6_step 266 = .ok (.return_, 1) := by decide +kernel
theorem dX6_grows_0 : decode cX6_grows 0 = .ok (.aload_n 0, 1) := by decide +kernel
theorem dX6_grows_1 : decode cX6_grows 1 = .ok (.iload_n 1, 1) := by decide +kernel
theorem dX6_grows_2 : decode cX6_grows 2 = .ok (.iconst 5, 1) := by decide +kernel
theorem dX6_grows_3 : decode cX6_grows 3 = .ok (.invokevirtual 97, 3) := by decide +kernel
theorem dX6_grows_6 : decode cX6_grows 6 = .ok (.iconst 0, 1) := by decide +kernel
theorem dX6_grows_7 : decode cX6_grows 7 = .ok (.istore 4, 2) := by decide +kernel
theorem dX6_grows_9 : decode cX6_grows 9 = .ok (.iload 4, 2) := by decide +kernel
theorem dX6_grows_11 : decode cX6_grows 11 = .ok (.iload_n 2, 1) := by decide +kernel
theorem dX6_grows_12 : decode cX6_grows 12 = .ok (.ifCond .ge 8, 3) := by decide +kernel
theorem dX6_grows_15 : decode cX6_grows 15 = .ok (.iload_n 2, 1) := by decide +kernel
theorem dX6_grows_16 : decode cX6_grows 16 = .ok (.ineg, 1) := by decide +kernel
theorem dX6_grows_17 : decode cX6_grows 17 = .ok (.goto 4, 3) := by decide +kernel
theorem dX6_grows_20 : decode cX6_grows 20 = .ok (.iload_n 2, 1) := by decide +kernel
theorem dX6_grows_21 : decode cX6_grows 21 = .ok (.if_icmp .ge 22, 3) := by decide +kernel
theorem dX6_grows_24 : decode cX6_grows 24 = .ok (.aload_n 0, 1) := by decide +kernel
theorem dX6_grows_25 : decode cX6_grows 25 = .ok (.iload_n 2, 1) := by decide +kernel
theorem dX6_grows_26 : decode cX6_grows 26 = .ok (.ifCond .le 7, 3) := by decide +kernel
theorem dX6_grows_29 : decode cX6_grows 29 = .ok (.iconst 1, 1) := by decide +kernel
theorem dX6_grows_30 : decode cX6_grows 30 = .ok (.goto 4, 3) := by decide +kernel
theorem dX6_grows_33 : decode cX6_grows 33 = .ok (.iconst 0, 1) := by decide +kernel
theorem dX6_grows_34 : decode cX6_grows 34 = .ok (.invokevirtual 125, 3) := by decide +kernel
theorem dX6_grows_37 : decode cX6_grows 37 = .ok (.iinc 4 1, 3) := by decide +kernel
theorem dX6_grows_40 : decode cX6_grows 40 = .ok (.goto (-31), 3) := by decide +kernel
theorem dX6_grows_43 : decode cX6_grows 43 = .ok (.aload_n 0, 1) := by decide +kernel
theorem dX6_grows_44 : decode cX6_grows 44 = .ok (.iload_n 3, 1) := by decide +kernel
theorem dX6_grows_45 : decode cX6_grows 45 = .ok (.invokevirtual 114, 3) := by decide +kernel
theorem dX6_grows_48 : decode cX6_grows 48 = .ok (.ireturn, 1) := by decide +kernel
theorem dX6_flips_0 : decode cX6_flips 0 = .ok (.aload_n 0, 1) := by decide +kernel
theorem dX6_flips_1 : decode cX6_flips 1 = .ok (.iconst 5, 1) := by decide +kernel
theorem dX6_flips_2 : decode cX6_flips 2 = .ok (.invokevirtual 108, 3) := by decide +kernel
theorem dX6_flips_5 : decode cX6_flips 5 = .ok (.bipush (-60), 2) := by decide +kernel
theorem dX6_flips_7 : decode cX6_flips 7 = .ok (.istore 4, 2) := by decide +kernel
theorem dX6_flips_9 : decode cX6_flips 9 = .ok (.iload 4, 2) := by decide +kernel
theorem dX6_flips_11 : decode cX6_flips 11 = .ok (.bipush 59, 2) := by decide +kernel
theorem dX6_flips_13 : decode cX6_flips 13 = .ok (.if_icmp .gt 89, 3) := by decide +kernel
theorem dX6_flips_16 : decode cX6_flips 16 = .ok (.bipush (-60), 2) := by decide +kernel
theorem dX6_flips_18 : decode cX6_flips 18 = .ok (.istore 5, 2) := by decide +kernel
theorem dX6_flips_20 : decode cX6_flips 20 = .ok (.iload 5, 2) := by decide +kernel
theorem dX6_flips_22 : decode cX6_flips 22 = .ok (.bipush 59, 2) := by decide +kernel
theorem dX6_flips_24 : decode cX6_flips 24 = .ok (.if_icmp .gt 72, 3) := by decide +kernel
theorem dX6_flips_27 : decode cX6_flips 27 = .ok (.aload_n 0, 1) := by decide +kernel
theorem dX6_flips_28 : decode cX6_flips 28 = .ok (.iload_n 1, 1) := by decide +kernel
theorem dX6_flips_29 : decode cX6_flips 29 = .ok (.iload 5, 2) := by decide +kernel
theorem dX6_flips_31 : decode cX6_flips 31 = .ok (.iload 4, 2) := by decide +kernel
theorem dX6_flips_33 : decode cX6_flips 33 = .ok (.invokevirtual 65, 3) := by decide +kernel
theorem dX6_flips_36 : decode cX6_flips 36 = .ok (.ifCond .eq 54, 3) := by decide +kernel
theorem dX6_flips_39 : decode cX6_flips 39 = .ok (.aload_n 0, 1) := by decide +kernel
theorem dX6_flips_40 : decode cX6_flips 40 = .ok (.iconst 5, 1) := by decide +kernel
theorem dX6_flips_41 : decode cX6_flips 41 = .ok (.iload_n 2, 1) := by decide +kernel
theorem dX6_flips_42 : decode cX6_flips 42 = .ok (.ifCond .ne 10, 3) := by decide +kernel
theorem dX6_flips_45 : decode cX6_flips 45 = .ok (.iconst (-1), 1) := by decide +kernel
theorem dX6_flips_46 : decode cX6_flips 46 = .ok (.iload 5, 2) := by decide +kernel
theorem dX6_flips_48 : decode cX6_flips 48 = .ok (.isub, 1) := by decide +kernel
theorem dX6_flips_49 : decode cX6_flips 49 = .ok (.goto 15, 3) := by decide +kernel
theorem dX6_flips_52 : decode cX6_flips 52 = .ok (.iload_n 2, 1) := by decide +kernel
theorem dX6_flips_53 : decode cX6_flips 53 = .ok (.iconst 1, 1) := by decide +kernel
theorem dX6_flips_54 : decode cX6_flips 54 = .ok (.if_icmp .ne 8, 3) := by decide +kernel
theorem dX6_flips_57 : decode cX6_flips 57 = .ok (.iload 5, 2) := by decide +kernel
theorem dX6_flips_59 : decode cX6_flips 59 = .ok (.goto 5, 3) := by decide +kernel
theorem dX6_flips_62 : decode cX6_flips 62 = .ok (.iload 4, 2) := by decide +kernel
theorem dX6_flips_64 : decode cX6_flips 64 = .ok (.iload_n 2, 1) := by decide +kernel
theorem dX6_flips_65 : decode cX6_flips 65 = .ok (.ifCond .ne 8, 3) := by decide +kernel
theorem dX6_flips_68 : decode cX6_flips 68 = .ok (.iload 4, 2) := by decide +kernel
theorem dX6_flips_70 : decode cX6_flips 70 = .ok (.goto 17, 3) := by decide +kernel
theorem dX6_flips_73 : decode cX6_flips 73 = .ok (.iload_n 2, 1) := by decide +kernel
theorem dX6_flips_74 : decode cX6_flips 74 = .ok (.iconst 1, 1) := by decide +kernel
theorem dX6_flips_75 : decode cX6_flips 75 = .ok (.if_icmp .ne 10, 3) := by decide +kernel
theorem dX6_flips_78 : decode cX6_flips 78 = .ok (.iconst (-1), 1) := by decide +kernel
theorem dX6_flips_79 : decode cX6_flips 79 = .ok (.iload 4, 2) := by decide +kernel
theorem dX6_flips_81 : decode cX6_flips 81 = .ok (.isub, 1) := by decide +kernel
theorem dX6_flips_82 : decode cX6_flips 82 = .ok (.goto 5, 3) := by decide +kernel
theorem dX6_flips_85 : decode cX6_flips 85 = .ok (.iload 5, 2) := by decide +kernel
theorem dX6_flips_87 : decode cX6_flips 87 = .ok (.invokevirtual 117, 3) := by decide +kernel
theorem dX6_flips_90 : decode cX6_flips 90 = .ok (.iinc 5 1, 3) := by decide +kernel
theorem dX6_flips_93 : decode cX6_flips 93 = .ok (.goto (-73), 3) := by decide +kernel
theorem dX6_flips_96 : decode cX6_flips 96 = .ok (.iinc 4 1, 3) := by decide +kernel
theorem dX6_flips_99 : decode cX6_flips 99 = .ok (.goto (-90), 3) := by decide +kernel
theorem dX6_flips_102 : decode cX6_flips 102 = .ok (.aload_n 0, 1) := by decide +kernel
theorem dX6_flips_103 : decode cX6_flips 103 = .ok (.iload_n 3, 1) := by decide +kernel
theorem dX6_flips_104 : decode cX6_flips 104 = .ok (.invokevirtual 114, 3) := by decide +kernel
theorem dX6_flips_107 : decode cX6_flips 107 = .ok (.ireturn, 1) := by decide +kernel
theorem dX6_box_0 : decode cX6_box 0 = .ok (.iload_n 1, 1) := by decide +kernel
theorem dX6_box_1 : decode cX6_box 1 = .ok (.iload_n 2, 1) := by decide +kernel
theorem dX6_box_2 : decode cX6_box 2 = .ok (.invokestatic 37, 3) := by decide +kernel
theorem dX6_box_5 : decode cX6_box 5 = .ok (.ifCond .eq 50, 3) := by decide +kernel
theorem dX6_box_8 : decode cX6_box 8 = .ok (.iload_n 3, 1) := by decide +kernel
theorem dX6_box_9 : decode cX6_box 9 = .ok (.iconst 1, 1) := by decide +kernel
theorem dX6_box_10 : decode cX6_box 10 = .ok (.bipush 99, 2) := by decide +kernel
theorem dX6_box_12 : decode cX6_box 12 = .ok (.invokestatic 33, 3) := by decide +kernel
theorem dX6_box_15 : decode cX6_box 15 = .ok (.ifCond .eq 40, 3) := by decide +kernel
theorem dX6_box_18 : decode cX6_box 18 = .ok (.iload 4, 2) := by decide +kernel
theorem dX6_box_20 : decode cX6_box 20 = .ok (.iconst 1, 1) := by decide +kernel
theorem dX6_box_21 : decode cX6_box 21 = .ok (.bipush 99, 2) := by decide +kernel
theorem dX6_box_23 : decode cX6_box 23 = .ok (.invokestatic 33, 3) := by decide +kernel
theorem dX6_box_26 : decode cX6_box 26 = .ok (.ifCond .eq 29, 3) := by decide +kernel
theorem dX6_box_29 : decode cX6_box 29 = .ok (.iload 5, 2) := by decide +kernel
theorem dX6_box_31 : decode cX6_box 31 = .ok (.invokestatic 129, 3) := by decide +kernel
theorem dX6_box_34 : decode cX6_box 34 = .ok (.ifCond .eq 21, 3) := by decide +kernel
theorem dX6_box_37 : decode cX6_box 37 = .ok (.aload_n 0, 1) := by decide +kernel
theorem dX6_box_38 : decode cX6_box 38 = .ok (.aload_n 0, 1) := by decide +kernel
theorem dX6_box_39 : decode cX6_box 39 = .ok (.iload_n 1, 1) := by decide +kernel
theorem dX6_box_40 : decode cX6_box 40 = .ok (.iload_n 2, 1) := by decide +kernel
theorem dX6_box_41 : decode cX6_box 41 = .ok (.iload_n 3, 1) := by decide +kernel
theorem dX6_box_42 : decode cX6_box 42 = .ok (.iload 4, 2) := by decide +kernel
theorem dX6_box_44 : decode cX6_box 44 = .ok (.iload 5, 2) := by decide +kernel
theorem dX6_box_46 : decode cX6_box 46 = .ok (.invokevirtual 133, 3) := by decide +kernel
theorem dX6_box_49 : decode cX6_box 49 = .ok (.invokevirtual 136, 3) := by decide +kernel
theorem dX6_box_52 : decode cX6_box 52 = .ok (.goto 10, 3) := by decide +kernel
theorem dX6_box_55 : decode cX6_box 55 = .ok (.aload_n 0, 1) := by decide +kernel
theorem dX6_box_56 : decode cX6_box 56 = .ok (.sipush (-202), 3) := by decide +kernel
theorem dX6_box_59 : decode cX6_box 59 = .ok (.invokevirtual 105, 3) := by decide +kernel
theorem dX6_box_62 : decode cX6_box 62 = .ok (.ireturn, 1) := by decide +kernel
theorem dX6_mix_0 : decode cX6_mix 0 = .ok (.iload_n 1, 1) := by decide +kernel
theorem dX6_mix_1 : decode cX6_mix 1 = .ok (.iconst 0, 1) := by decide +kernel
theorem dX6_mix_2 : decode cX6_mix 2 = .ok (.iconst 3, 1) := by decide +kernel
theorem dX6_mix_3 : decode cX6_mix 3 = .ok (.invokestatic 33, 3) := by decide +kernel
theorem dX6_mix_6 : decode cX6_mix 6 = .ok (.ifCond .eq 41, 3) := by decide +kernel
theorem dX6_mix_9 : decode cX6_mix 9 = .ok (.iload_n 2, 1) := by decide +kernel
theorem dX6_mix_10 : decode cX6_mix 10 = .ok (.invokestatic 129, 3) := by decide +kernel
theorem dX6_mix_13 : decode cX6_mix 13 = .ok (.ifCond .eq 34, 3) := by decide +kernel
theorem dX6_mix_16 : decode cX6_mix 16 = .ok (.iload_n 3, 1) := by decide +kernel
theorem dX6_mix_17 : decode cX6_mix 17 = .ok (.invokestatic 129, 3) := by decide +kernel
theorem dX6_mix_20 : decode cX6_mix 20 = .ok (.ifCond .eq 27, 3) := by decide +kernel
theorem dX6_mix_23 : decode cX6_mix 23 = .ok (.iload 4, 2) := by decide +kernel
theorem dX6_mix_25 : decode cX6_mix 25 = .ok (.invokestatic 129, 3) := by decide +kernel
theorem dX6_mix_28 : decode cX6_mix 28 = .ok (.ifCond .eq 19, 3) := by decide +kernel
theorem dX6_mix_31 : decode cX6_mix 31 = .ok (.aload_n 0, 1) := by decide +kernel
theorem dX6_mix_32 : decode cX6_mix 32 = .ok (.aload_n 0, 1) := by decide +kernel
theorem dX6_mix_33 : decode cX6_mix 33 = .ok (.iload_n 1, 1) := by decide +kernel
theorem dX6_mix_34 : decode cX6_mix 34 = .ok (.iload_n 2, 1) := by decide +kernel
theorem dX6_mix_35 : decode cX6_mix 35 = .ok (.iload_n 3, 1) := by decide +kernel
theorem dX6_mix_36 : decode cX6_mix 36 = .ok (.iload 4, 2) := by decide +kernel
theorem dX6_mix_38 : decode cX6_mix 38 = .ok (.invokevirtual 139, 3) := by decide +kernel
theorem dX6_mix_41 : decode cX6_mix 41 = .ok (.invokevirtual 136, 3) := by decide +kernel
theorem dX6_mix_44 : decode cX6_mix 44 = .ok (.goto 10, 3) := by decide +kernel
theorem dX6_mix_47 : decode cX6_mix 47 = .ok (.aload_n 0, 1) := by decide +kernel
theorem dX6_mix_48 : decode cX6_mix 48 = .ok (.sipush (-202), 3) := by decide +kernel
theorem dX6_mix_51 : decode cX6_mix 51 = .ok (.invokevirtual 105, 3) := by decide +kernel
theorem dX6_mix_54 : decode cX6_mix 54 = .ok (.ireturn, 1) := by decide +kernel
theorem dX6_move_0 : decode cX6_move 0 = .ok (.iload_n 1, 1) := by decide +kernel
theorem dX6_move_1 : decode cX6_move 1 = .ok (.invokestatic 129, 3) := by decide +kernel
theorem dX6_move_4 : decode cX6_move 4 = .ok (.ifCond .eq 49, 3) := by decide +kernel
theorem dX6_move_7 : decode cX6_move 7 = .ok (.iload_n 2, 1) := by decide +kernel
theorem dX6_move_8 : decode cX6_move 8 = .ok (.bipush (-120), 2) := by decide +kernel
theorem dX6_move_10 : decode cX6_move 10 = .ok (.bipush 120, 2) := by decide +kernel
theorem dX6_move_12 : decode cX6_move 12 = .ok (.invokestatic 33, 3) := by decide +kernel
theorem dX6_move_15 : decode cX6_move 15 = .ok (.ifCond .eq 38, 3) := by decide +kernel
theorem dX6_move_18 : decode cX6_move 18 = .ok (.iload_n 3, 1) := by decide +kernel
theorem dX6_move_19 : decode cX6_move 19 = .ok (.bipush (-120), 2) := by decide +kernel
theorem dX6_move_21 : decode cX6_move 21 = .ok (.bipush 120, 2) := by decide +kernel
theorem dX6_move_23 : decode cX6_move 23 = .ok (.invokestatic 33, 3) := by decide +kernel
theorem dX6_move_26 : decode cX6_move 26 = .ok (.ifCond .eq 27, 3) := by decide +kernel
theorem dX6_move_29 : decode cX6_move 29 = .ok (.iload 4, 2) := by decide +kernel
theorem dX6_move_31 : decode cX6_move 31 = .ok (.invokestatic 129, 3) := by decide +kernel
theorem dX6_move_34 : decode cX6_move 34 = .ok (.ifCond .eq 19, 3) := by decide +kernel
theorem dX6_move_37 : decode cX6_move 37 = .ok (.aload_n 0, 1) := by decide +kernel
theorem dX6_move_38 : decode cX6_move 38 = .ok (.aload_n 0, 1) := by decide +kernel
theorem dX6_move_39 : decode cX6_move 39 = .ok (.iload_n 1, 1) := by decide +kernel
theorem dX6_move_40 : decode cX6_move 40 = .ok (.iload_n 2, 1) := by decide +kernel
theorem dX6_move_41 : decode cX6_move 41 = .ok (.iload_n 3, 1) := by decide +kernel
theorem dX6_move_42 : decode cX6_move 42 = .ok (.iload 4, 2) := by decide +kernel
theorem dX6_move_44 : decode cX6_move 44 = .ok (.invokevirtual 143, 3) := by decide +kernel
theorem dX6_move_47 : decode cX6_move 47 = .ok (.invokevirtual 136, 3) := by decide +kernel
theorem dX6_move_50 : decode cX6_move 50 = .ok (.goto 10, 3) := by decide +kernel
theorem dX6_move_53 : decode cX6_move 53 = .ok (.aload_n 0, 1) := by decide +kernel
theorem dX6_move_54 : decode cX6_move 54 = .ok (.sipush (-202), 3) := by decide +kernel
theorem dX6_move_57 : decode cX6_move 57 = .ok (.invokevirtual 105, 3) := by decide +kernel
theorem dX6_move_60 : decode cX6_move 60 = .ok (.ireturn, 1) := by decide +kernel
theorem dX6_grow_0 : decode cX6_grow 0 = .ok (.iload_n 1, 1) := by decide +kernel
theorem dX6_grow_1 : decode cX6_grow 1 = .ok (.invokestatic 129, 3) := by decide +kernel
theorem dX6_grow_4 : decode cX6_grow 4 = .ok (.ifCond .eq 35, 3) := by decide +kernel
theorem dX6_grow_7 : decode cX6_grow 7 = .ok (.iload_n 2, 1) := by decide +kernel
theorem dX6_grow_8 : decode cX6_grow 8 = .ok (.bipush (-9), 2) := by decide +kernel
theorem dX6_grow_10 : decode cX6_grow 10 = .ok (.bipush 9, 2) := by decide +kernel
theorem dX6_grow_12 : decode cX6_grow 12 = .ok (.invokestatic 33, 3) := by decide +kernel
theorem dX6_grow_15 : decode cX6_grow 15 = .ok (.ifCond .eq 24, 3) := by decide +kernel
theorem dX6_grow_18 : decode cX6_grow 18 = .ok (.iload_n 3, 1) := by decide +kernel
theorem dX6_grow_19 : decode cX6_grow 19 = .ok (.invokestatic 129, 3) := by decide +kernel
theorem dX6_grow_22 : decode cX6_grow 22 = .ok (.ifCond .eq 17, 3) := by decide +kernel
theorem dX6_grow_25 : decode cX6_grow 25 = .ok (.aload_n 0, 1) := by decide +kernel
theorem dX6_grow_26 : decode cX6_grow 26 = .ok (.aload_n 0, 1) := by decide +kernel
theorem dX6_grow_27 : decode cX6_grow 27 = .ok (.iload_n 1, 1) := by decide +kernel
theorem dX6_grow_28 : decode cX6_grow 28 = .ok (.iload_n 2, 1) := by decide +kernel
theorem dX6_grow_29 : decode cX6_grow 29 = .ok (.iload_n 3, 1) := by decide +kernel
theorem dX6_grow_30 : decode cX6_grow 30 = .ok (.invokevirtual 146, 3) := by decide +kernel
theorem dX6_grow_33 : decode cX6_grow 33 = .ok (.invokevirtual 136, 3) := by decide +kernel
theorem dX6_grow_36 : decode cX6_grow 36 = .ok (.goto 10, 3) := by decide +kernel
theorem dX6_grow_39 : decode cX6_grow 39 = .ok (.aload_n 0, 1) := by decide +kernel
theorem dX6_grow_40 : decode cX6_grow 40 = .ok (.sipush (-202), 3) := by decide +kernel
theorem dX6_grow_43 : decode cX6_grow 43 = .ok (.invokevirtual 105, 3) := by decide +kernel
theorem dX6_grow_46 : decode cX6_grow 46 = .ok (.ireturn, 1) := by decide +kernel
theorem dX6_flip_0 : decode cX6_flip 0 = .ok (.iload_n 1, 1) := by decide +kernel
theorem dX6_flip_1 : decode cX6_flip 1 = .ok (.invokestatic 129, 3) := by decide +kernel
theorem dX6_flip_4 : decode cX6_flip 4 = .ok (.ifCond .eq 33, 3) := by decide +kernel
theorem dX6_flip_7 : decode cX6_flip 7 = .ok (.iload_n 2, 1) := by decide +kernel
theorem dX6_flip_8 : decode cX6_flip 8 = .ok (.iconst 0, 1) := by decide +kernel
theorem dX6_flip_9 : decode cX6_flip 9 = .ok (.iconst 2, 1) := by decide +kernel
theorem dX6_flip_10 : decode cX6_flip 10 = .ok (.invokestatic 33, 3) := by decide +kernel
theorem dX6_flip_13 : decode cX6_flip 13 = .ok (.ifCond .eq 24, 3) := by decide +kernel
theorem dX6_flip_16 : decode cX6_flip 16 = .ok (.iload_n 3, 1) := by decide +kernel
theorem dX6_flip_17 : decode cX6_flip 17 = .ok (.invokestatic 129, 3) := by decide +kernel
theorem dX6_flip_20 : decode cX6_flip 20 = .ok (.ifCond .eq 17, 3) := by decide +kernel
theorem dX6_flip_23 : decode cX6_flip 23 = .ok (.aload_n 0, 1) := by decide +kernel
theorem dX6_flip_24 : decode cX6_flip 24 = .ok (.aload_n 0, 1) := by decide +kernel
theorem dX6_flip_25 : decode cX6_flip 25 = .ok (.iload_n 1, 1) := by decide +kernel
theorem dX6_flip_26 : decode cX6_flip 26 = .ok (.iload_n 2, 1) := by decide +kernel
theorem dX6_flip_27 : decode cX6_flip 27 = .ok (.iload_n 3, 1) := by decide +kernel
theorem dX6_flip_28 : decode cX6_flip 28 = .ok (.invokevirtual 150, 3) := by decide +kernel
theorem dX6_flip_31 : decode cX6_flip 31 = .ok (.invokevirtual 136, 3) := by decide +kernel
theorem dX6_flip_34 : decode cX6_flip 34 = .ok (.goto 10, 3) := by decide +kernel
theorem dX6_flip_37 : decode cX6_flip 37 = .ok (.aload_n 0, 1) := by decide +kernel
theorem dX6_flip_38 : decode cX6_flip 38 = .ok (.sipush (-202), 3) := by decide +kernel
theorem dX6_flip_41 : decode cX6_flip 41 = .ok (.invokevirtual 105, 3) := by decide +kernel
theorem dX6_flip_44 : decode cX6_flip 44 = .ok (.ireturn, 1) := by decide +kernel
theorem dX6_rest_0 : decode cX6_rest 0 = .ok (.iload_n 1, 1) := by decide +kernel
theorem dX6_rest_1 : decode cX6_rest 1 = .ok (.invokestatic 129, 3) := by decide +kernel
theorem dX6_rest_4 : decode cX6_rest 4 = .ok (.ifCond .eq 10, 3) := by decide +kernel
theorem dX6_rest_7 : decode cX6_rest 7 = .ok (.iload_n 2, 1) := by decide +kernel
theorem dX6_rest_8 : decode cX6_rest 8 = .ok (.invokestatic 129, 3) := by decide +kernel
theorem dX6_rest_11 : decode cX6_rest 11 = .ok (.ifCond .ne 11, 3) := by decide +kernel
theorem dX6_rest_14 : decode cX6_rest 14 = .ok (.aload_n 0, 1) := by decide +kernel
theorem dX6_rest_15 : decode cX6_rest 15 = .ok (.sipush (-202), 3) := by decide +kernel
theorem dX6_rest_18 : decode cX6_rest 18 = .ok (.invokevirtual 105, 3) := by decide +kernel
theorem dX6_rest_21 : decode cX6_rest 21 = .ok (.ireturn, 1) := by decide +kernel
theorem dX6_rest_22 : decode cX6_rest 22 = .ok (.iconst 0, 1) := by decide +kernel
theorem dX6_rest_23 : decode cX6_rest 23 = .ok (.istore_n 3, 1) := by decide +kernel
theorem dX6_rest_24 : decode cX6_rest 24 = .ok (.iload_n 3, 1) := by decide +kernel
theorem dX6_rest_25 : decode cX6_rest 25 = .ok (.sipush 240, 3) := by decide +kernel
theorem dX6_rest_28 : decode cX6_rest 28 = .ok (.if_icmp .ge 39, 3) := by decide +kernel
theorem dX6_rest_31 : decode cX6_rest 31 = .ok (.aload_n 0, 1) := by decide +kernel
theorem dX6_rest_32 : decode cX6_rest 32 = .ok (.getfield 7, 3) := by decide +kernel
theorem dX6_rest_35 : decode cX6_rest 35 = .ok (.sipush 1200, 3) := by decide +kernel
theorem dX6_rest_38 : decode cX6_rest 38 = .ok (.iload_n 3, 1) := by decide +kernel
theorem dX6_rest_39 : decode cX6_rest 39 = .ok (.iadd, 1) := by decide +kernel
theorem dX6_rest_40 : decode cX6_rest 40 = .ok (.ldc2_w 123, 3) := by decide +kernel
theorem dX6_rest_43 : decode cX6_rest 43 = .ok (.aload_n 0, 1) := by decide +kernel
theorem dX6_rest_44 : decode cX6_rest 44 = .ok (.getfield 7, 3) := by decide +kernel
theorem dX6_rest_47 : decode cX6_rest 47 = .ok (.sipush 240, 3) := by decide +kernel
theorem dX6_rest_50 : decode cX6_rest 50 = .ok (.iload_n 1, 1) := by decide +kernel
theorem dX6_rest_51 : decode cX6_rest 51 = .ok (.imul, 1) := by decide +kernel
theorem dX6_rest_52 : decode cX6_rest 52 = .ok (.iload_n 3, 1) := by decide +kernel
theorem dX6_rest_53 : decode cX6_rest 53 = .ok (.iadd, 1) := by decide +kernel
theorem dX6_rest_54 : decode cX6_rest 54 = .ok (.laload, 1) := by decide +kernel
theorem dX6_rest_55 : decode cX6_rest 55 = .ok (.ldc2_w 121, 3) := by decide +kernel
theorem dX6_rest_58 : decode cX6_rest 58 = .ok (.lxor, 1) := by decide +kernel
theorem dX6_rest_59 : decode cX6_rest 59 = .ok (.land, 1) := by decide +kernel
theorem dX6_rest_60 : decode cX6_rest 60 = .ok (.lastore, 1) := by decide +kernel
theorem dX6_rest_61 : decode cX6_rest 61 = .ok (.iinc 3 1, 3) := by decide +kernel
theorem dX6_rest_64 : decode cX6_rest 64 = .ok (.goto (-40), 3) := by decide +kernel
theorem dX6_rest_67 : decode cX6_rest 67 = .ok (.aload_n 0, 1) := by decide +kernel
theorem dX6_rest_68 : decode cX6_rest 68 = .ok (.aload_n 0, 1) := by decide +kernel
theorem dX6_rest_69 : decode cX6_rest 69 = .ok (.iload_n 2, 1) := by decide +kernel
theorem dX6_rest_70 : decode cX6_rest 70 = .ok (.invokevirtual 114, 3) := by decide +kernel
theorem dX6_rest_73 : decode cX6_rest 73 = .ok (.invokevirtual 136, 3) := by decide +kernel
theorem dX6_rest_76 : decode cX6_rest 76 = .ok (.ireturn, 1) := by decide +kernel
theorem dX6_hangs_0 : decode cX6_hangs 0 = .ok (.iconst 1, 1) := by decide +kernel
theorem dX6_hangs_1 : decode cX6_hangs 1 = .ok (.istore_n 1, 1) := by decide +kernel
theorem dX6_hangs_2 : decode cX6_hangs 2 = .ok (.iload_n 1, 1) := by decide +kernel
theorem dX6_hangs_3 : decode cX6_hangs 3 = .ok (.ifCond .eq 254, 3) := by decide +kernel
theorem dX6_hangs_6 : decode cX6_hangs 6 = .ok (.iconst 0, 1) := by decide +kernel
theorem dX6_hangs_7 : decode cX6_hangs 7 = .ok (.istore_n 1, 1) := by decide +kernel
theorem dX6_hangs_8 : decode cX6_hangs 8 = .ok (.bipush (-60), 2) := by decide +kernel
theorem dX6_hangs_10 : decode cX6_hangs 10 = .ok (.istore_n 2, 1) := by decide +kernel
theorem dX6_hangs_11 : decode cX6_hangs 11 = .ok (.iload_n 2, 1) := by decide +kernel
theorem dX6_hangs_12 : decode cX6_hangs 12 = .ok (.bipush 59, 2) := by decide +kernel
theorem dX6_hangs_14 : decode cX6_hangs 14 = .ok (.if_icmp .gt 240, 3) := by decide +kernel
theorem dX6_hangs_17 : decode cX6_hangs 17 = .ok (.sipush 1200, 3) := by decide +kernel
theorem dX6_hangs_20 : decode cX6_hangs 20 = .ok (.iconst 2, 1) := by decide +kernel
theorem dX6_hangs_21 : decode cX6_hangs 21 = .ok (.iload_n 2, 1) := by decide +kernel
theorem dX6_hangs_22 : decode cX6_hangs 22 = .ok (.bipush (-60), 2) := by decide +kernel
theorem dX6_hangs_24 : decode cX6_hangs 24 = .ok (.isub, 1) := by decide +kernel
theorem dX6_hangs_25 : decode cX6_hangs 25 = .ok (.imul, 1) := by decide +kernel
theorem dX6_hangs_26 : decode cX6_hangs 26 = .ok (.iadd, 1) := by decide +kernel
theorem dX6_hangs_27 : decode cX6_hangs 27 = .ok (.istore_n 3, 1) := by decide +kernel
theorem dX6_hangs_28 : decode cX6_hangs 28 = .ok (.aload_n 0, 1) := by decide +kernel
theorem dX6_hangs_29 : decode cX6_hangs 29 = .ok (.getfield 7, 3) := by decide +kernel
theorem dX6_hangs_32 : decode cX6_hangs 32 = .ok (.iload_n 3, 1) := by decide +kernel
theorem dX6_hangs_33 : decode cX6_hangs 33 = .ok (.laload, 1) := by decide +kernel
theorem dX6_hangs_34 : decode cX6_hangs 34 = .ok (.lstore 4, 2) := by decide +kernel
theorem dX6_hangs_36 : decode cX6_hangs 36 = .ok (.aload_n 0, 1) := by decide +kernel
theorem dX6_hangs_37 : decode cX6_hangs 37 = .ok (.getfield 7, 3) := by decide +kernel
theorem dX6_hangs_40 : decode cX6_hangs 40 = .ok (.iload_n 3, 1) := by decide +kernel
theorem dX6_hangs_41 : decode cX6_hangs 41 = .ok (.iconst 1, 1) := by decide +kernel
theorem dX6_hangs_42 : decode cX6_hangs 42 = .ok (.iadd, 1) := by decide +kernel
theorem dX6_hangs_43 : decode cX6_hangs 43 = .ok (.laload, 1) := by decide +kernel
theorem dX6_hangs_44 : decode cX6_hangs 44 = .ok (.lstore 6, 2) := by decide +kernel
theorem dX6_hangs_46 : decode cX6_hangs 46 = .ok (.lload 4, 2) := by decide +kernel
theorem dX6_hangs_48 : decode cX6_hangs 48 = .ok (.lload 4, 2) := by decide +kernel
theorem dX6_hangs_50 : decode cX6_hangs 50 = .ok (.iconst 1, 1) := by decide +kernel
theorem dX6_hangs_51 : decode cX6_hangs 51 = .ok (.lshl, 1) := by decide +kernel
theorem dX6_hangs_52 : decode cX6_hangs 52 = .ok (.ldc2_w 123, 3) := by decide +kernel
theorem dX6_hangs_55 : decode cX6_hangs 55 = .ok (.land, 1) := by decide +kernel
theorem dX6_hangs_56 : decode cX6_hangs 56 = .ok (.lor, 1) := by decide +kernel
theorem dX6_hangs_57 : decode cX6_hangs 57 = .ok (.lload 4, 2) := by decide +kernel
theorem dX6_hangs_59 : decode cX6_hangs 59 = .ok (.iconst 1, 1) := by decide +kernel
theorem dX6_hangs_60 : decode cX6_hangs 60 = .ok (.lshr, 1) := by decide +kernel
theorem dX6_hangs_61 : decode cX6_hangs 61 = .ok (.lor, 1) := by decide +kernel
theorem dX6_hangs_62 : decode cX6_hangs 62 = .ok (.lload 6, 2) := by decide +kernel
theorem dX6_hangs_64 : decode cX6_hangs 64 = .ok (.lconst 1, 1) := by decide +kernel
theorem dX6_hangs_65 : decode cX6_hangs 65 = .ok (.land, 1) := by decide +kernel
theorem dX6_hangs_66 : decode cX6_hangs 66 = .ok (.bipush 59, 2) := by decide +kernel
theorem dX6_hangs_68 : decode cX6_hangs 68 = .ok (.lshl, 1) := by decide +kernel
theorem dX6_hangs_69 : decode cX6_hangs 69 = .ok (.lor, 1) := by decide +kernel
theorem dX6_hangs_70 : decode cX6_hangs 70 = .ok (.iload_n 2, 1) := by decide +kernel
theorem dX6_hangs_71 : decode cX6_hangs 71 = .ok (.bipush (-60), 2) := by decide +kernel
theorem dX6_hangs_73 : decode cX6_hangs 73 = .ok (.if_icmp .le 14, 3) := by decide +kernel
theorem dX6_hangs_76 : decode cX6_hangs 76 = .ok (.aload_n 0, 1) := by decide +kernel
theorem dX6_hangs_77 : decode cX6_hangs 77 = .ok (.getfield 7, 3) := by decide +kernel
theorem dX6_hangs_80 : decode cX6_hangs 80 = .ok (.iload_n 3, 1) := by decide +kernel
theorem dX6_hangs_81 : decode cX6_hangs 81 = .ok (.iconst 2, 1) := by decide +kernel
theorem dX6_hangs_82 : decode cX6_hangs 82 = .ok (.isub, 1) := by decide +kernel
theorem dX6_hangs_83 : decode cX6_hangs 83 = .ok (.laload, 1) := by decide +kernel
theorem dX6_hangs_84 : decode cX6_hangs 84 = .ok (.goto 4, 3) := by decide +kernel
theorem dX6_hangs_87 : decode cX6_hangs 87 = .ok (.lconst 0, 1) := by decide +kernel
theorem dX6_hangs_88 : decode cX6_hangs 88 = .ok (.lor, 1) := by decide +kernel
theorem dX6_hangs_89 : decode cX6_hangs 89 = .ok (.iload_n 2, 1) := by decide +kernel
theorem dX6_hangs_90 : decode cX6_hangs 90 = .ok (.bipush 59, 2) := by decide +kernel
theorem dX6_hangs_92 : decode cX6_hangs 92 = .ok (.if_icmp .ge 14, 3) := by decide +kernel
theorem dX6_hangs_95 : decode cX6_hangs 95 = .ok (.aload_n 0, 1) := by decide +kernel
theorem dX6_hangs_96 : decode cX6_hangs 96 = .ok (.getfield 7, 3) := by decide +kernel
theorem dX6_hangs_99 : decode cX6_hangs 99 = .ok (.iload_n 3, 1) := by decide +kernel
theorem dX6_hangs_100 : decode cX6_hangs 100 = .ok (.iconst 2, 1) := by decide +kernel
theorem dX6_hangs_101 : decode cX6_hangs 101 = .ok (.iadd, 1) := by decide +kernel
theorem dX6_hangs_102 : decode cX6_hangs 102 = .ok (.laload, 1) := by decide +kernel
theorem dX6_hangs_103 : decode cX6_hangs 103 = .ok (.goto 4, 3) := by decide +kernel
theorem dX6_hangs_106 : decode cX6_hangs 106 = .ok (.lconst 0, 1) := by decide +kernel
theorem dX6_hangs_107 : decode cX6_hangs 107 = .ok (.lor, 1) := by decide +kernel
theorem dX6_hangs_108 : decode cX6_hangs 108 = .ok (.lstore 8, 2) := by decide +kernel
theorem dX6_hangs_110 : decode cX6_hangs 110 = .ok (.lload 6, 2) := by decide +kernel
theorem dX6_hangs_112 : decode cX6_hangs 112 = .ok (.lload 6, 2) := by decide +kernel
theorem dX6_hangs_114 : decode cX6_hangs 114 = .ok (.iconst 1, 1) := by decide +kernel
theorem dX6_hangs_115 : decode cX6_hangs 115 = .ok (.lshl, 1) := by decide +kernel
theorem dX6_hangs_116 : decode cX6_hangs 116 = .ok (.lload 4, 2) := by decide +kernel
theorem dX6_hangs_118 : decode cX6_hangs 118 = .ok (.bipush 59, 2) := by decide +kernel
theorem dX6_hangs_120 : decode cX6_hangs 120 = .ok (.lshr, 1) := by decide +kernel
theorem dX6_hangs_121 : decode cX6_hangs 121 = .ok (.lor, 1) := by decide +kernel
theorem dX6_hangs_122 : decode cX6_hangs 122 = .ok (.ldc2_w 123, 3) := by decide +kernel
theorem dX6_hangs_125 : decode cX6_hangs 125 = .ok (.land, 1) := by decide +kernel
theorem dX6_hangs_126 : decode cX6_hangs 126 = .ok (.lor, 1) := by decide +kernel
theorem dX6_hangs_127 : decode cX6_hangs 127 = .ok (.lload 6, 2) := by decide +kernel
theorem dX6_hangs_129 : decode cX6_hangs 129 = .ok (.iconst 1, 1) := by decide +kernel
theorem dX6_hangs_130 : decode cX6_hangs 130 = .ok (.lshr, 1) := by decide +kernel
theorem dX6_hangs_131 : decode cX6_hangs 131 = .ok (.lor, 1) := by decide +kernel
theorem dX6_hangs_132 : decode cX6_hangs 132 = .ok (.iload_n 2, 1) := by decide +kernel
theorem dX6_hangs_133 : decode cX6_hangs 133 = .ok (.bipush (-60), 2) := by decide +kernel
theorem dX6_hangs_135 : decode cX6_hangs 135 = .ok (.if_icmp .le 14, 3) := by decide +kernel
theorem dX6_hangs_138 : decode cX6_hangs 138 = .ok (.aload_n 0, 1) := by decide +kernel
theorem dX6_hangs_139 : decode cX6_hangs 139 = .ok (.getfield 7, 3) := by decide +kernel
theorem dX6_hangs_142 : decode cX6_hangs 142 = .ok (.iload_n 3, 1) := by decide +kernel
theorem dX6_hangs_143 : decode cX6_hangs 143 = .ok (.iconst 1, 1) := by decide +kernel
theorem dX6_hangs_144 : decode cX6_hangs 144 = .ok (.isub, 1) := by decide +kernel
theorem dX6_hangs_145 : decode cX6_hangs 145 = .ok (.laload, 1) := by decide +kernel
theorem dX6_hangs_146 : decode cX6_hangs 146 = .ok (.goto 4, 3) := by decide +kernel
theorem dX6_hangs_149 : decode cX6_hangs 149 = .ok (.lconst 0, 1) := by decide +kernel
theorem dX6_hangs_150 : decode cX6_hangs 150 = .ok (.lor, 1) := by decide +kernel
theorem dX6_hangs_151 : decode cX6_hangs 151 = .ok (.iload_n 2, 1) := by decide +kernel
theorem dX6_hangs_152 : decode cX6_hangs 152 = .ok (.bipush 59, 2) := by decide +kernel
theorem dX6_hangs_154 : decode cX6_hangs 154 = .ok (.if_icmp .ge 14, 3) := by decide +kernel
theorem dX6_hangs_157 : decode cX6_hangs 157 = .ok (.aload_n 0, 1) := by decide +kernel
theorem dX6_hangs_158 : decode cX6_hangs 158 = .ok (.getfield 7, 3) := by decide +kernel
theorem dX6_hangs_161 : decode cX6_hangs 161 = .ok (.iload_n 3, 1) := by decide +kernel
theorem dX6_hangs_162 : decode cX6_hangs 162 = .ok (.iconst 3, 1) := by decide +kernel
theorem dX6_hangs_163 : decode cX6_hangs 163 = .ok (.iadd, 1) := by decide +kernel
theorem dX6_hangs_164 : decode cX6_hangs 164 = .ok (.laload, 1) := by decide +kernel
theorem dX6_hangs_165 : decode cX6_hangs 165 = .ok (.goto 4, 3) := by decide +kernel
theorem dX6_hangs_168 : decode cX6_hangs 168 = .ok (.lconst 0, 1) := by decide +kernel
theorem dX6_hangs_169 : decode cX6_hangs 169 = .ok (.lor, 1) := by decide +kernel
theorem dX6_hangs_170 : decode cX6_hangs 170 = .ok (.lstore 10, 2) := by decide +kernel
theorem dX6_hangs_172 : decode cX6_hangs 172 = .ok (.lload 8, 2) := by decide +kernel
theorem dX6_hangs_174 : decode cX6_hangs 174 = .ok (.aload_n 0, 1) := by decide +kernel
theorem dX6_hangs_175 : decode cX6_hangs 175 = .ok (.getfield 7, 3) := by decide +kernel
theorem dX6_hangs_178 : decode cX6_hangs 178 = .ok (.sipush 480, 3) := by decide +kernel
theorem dX6_hangs_181 : decode cX6_hangs 181 = .ok (.iload_n 3, 1) := by decide +kernel
theorem dX6_hangs_182 : decode cX6_hangs 182 = .ok (.iadd, 1) := by decide +kernel
theorem dX6_hangs_183 : decode cX6_hangs 183 = .ok (.laload, 1) := by decide +kernel
theorem dX6_hangs_184 : decode cX6_hangs 184 = .ok (.land, 1) := by decide +kernel
theorem dX6_hangs_185 : decode cX6_hangs 185 = .ok (.lstore 8, 2) := by decide +kernel
theorem dX6_hangs_187 : decode cX6_hangs 187 = .ok (.lload 10, 2) := by decide +kernel
theorem dX6_hangs_189 : decode cX6_hangs 189 = .ok (.aload_n 0, 1) := by decide +kernel
theorem dX6_hangs_190 : decode cX6_hangs 190 = .ok (.getfield 7, 3) := by decide +kernel
theorem dX6_hangs_193 : decode cX6_hangs 193 = .ok (.sipush 480, 3) := by decide +kernel
theorem dX6_hangs_196 : decode cX6_hangs 196 = .ok (.iload_n 3, 1) := by decide +kernel
theorem dX6_hangs_197 : decode cX6_hangs 197 = .ok (.iadd, 1) := by decide +kernel
theorem dX6_hangs_198 : decode cX6_hangs 198 = .ok (.iconst 1, 1) := by decide +kernel
theorem dX6_hangs_199 : decode cX6_hangs 199 = .ok (.iadd, 1) := by decide +kernel
theorem dX6_hangs_200 : decode cX6_hangs 200 = .ok (.laload, 1) := by decide +kernel
theorem dX6_hangs_201 : decode cX6_hangs 201 = .ok (.land, 1) := by decide +kernel
theorem dX6_hangs_202 : decode cX6_hangs 202 = .ok (.lstore 10, 2) := by decide +kernel
theorem dX6_hangs_204 : decode cX6_hangs 204 = .ok (.iload_n 1, 1) := by decide +kernel
theorem dX6_hangs_205 : decode cX6_hangs 205 = .ok (.ifCond .ne 19, 3) := by decide +kernel
theorem dX6_hangs_208 : decode cX6_hangs 208 = .ok (.lload 8, 2) := by decide +kernel
theorem dX6_hangs_210 : decode cX6_hangs 210 = .ok (.lload 4, 2) := by decide +kernel
theorem dX6_hangs_212 : decode cX6_hangs 212 = .ok (.lcmp, 1) := by decide +kernel
theorem dX6_hangs_213 : decode cX6_hangs 213 = .ok (.ifCond .ne 11, 3) := by decide +kernel
theorem dX6_hangs_216 : decode cX6_hangs 216 = .ok (.lload 10, 2) := by decide +kernel
theorem dX6_hangs_218 : decode cX6_hangs 218 = .ok (.lload 6, 2) := by decide +kernel
theorem dX6_hangs_220 : decode cX6_hangs 220 = .ok (.lcmp, 1) := by decide +kernel
theorem dX6_hangs_221 : decode cX6_hangs 221 = .ok (.ifCond .eq 7, 3) := by decide +kernel
theorem dX6_hangs_224 : decode cX6_hangs 224 = .ok (.iconst 1, 1) := by decide +kernel
theorem dX6_hangs_225 : decode cX6_hangs 225 = .ok (.goto 4, 3) := by decide +kernel
theorem dX6_hangs_228 : decode cX6_hangs 228 = .ok (.iconst 0, 1) := by decide +kernel
theorem dX6_hangs_229 : decode cX6_hangs 229 = .ok (.istore_n 1, 1) := by decide +kernel
theorem dX6_hangs_230 : decode cX6_hangs 230 = .ok (.aload_n 0, 1) := by decide +kernel
theorem dX6_hangs_231 : decode cX6_hangs 231 = .ok (.getfield 7, 3) := by decide +kernel
theorem dX6_hangs_234 : decode cX6_hangs 234 = .ok (.iload_n 3, 1) := by decide +kernel
theorem dX6_hangs_235 : decode cX6_hangs 235 = .ok (.lload 8, 2) := by decide +kernel
theorem dX6_hangs_237 : decode cX6_hangs 237 = .ok (.lastore, 1) := by decide +kernel
theorem dX6_hangs_238 : decode cX6_hangs 238 = .ok (.aload_n 0, 1) := by decide +kernel
theorem dX6_hangs_239 : decode cX6_hangs 239 = .ok (.getfield 7, 3) := by decide +kernel
theorem dX6_hangs_242 : decode cX6_hangs 242 = .ok (.iload_n 3, 1) := by decide +kernel
theorem dX6_hangs_243 : decode cX6_hangs 243 = .ok (.iconst 1, 1) := by decide +kernel
theorem dX6_hangs_244 : decode cX6_hangs 244 = .ok (.iadd, 1) := by decide +kernel
theorem dX6_hangs_245 : decode cX6_hangs 245 = .ok (.lload 10, 2) := by decide +kernel
theorem dX6_hangs_247 : decode cX6_hangs 247 = .ok (.lastore, 1) := by decide +kernel
theorem dX6_hangs_248 : decode cX6_hangs 248 = .ok (.iinc 2 1, 3) := by decide +kernel
theorem dX6_hangs_251 : decode cX6_hangs 251 = .ok (.goto (-240), 3) := by decide +kernel
theorem dX6_hangs_254 : decode cX6_hangs 254 = .ok (.goto (-252), 3) := by decide +kernel
theorem dX6_hangs_257 : decode cX6_hangs 257 = .ok (.return_, 1) := by decide +kernel
theorem dX6_part_0 : decode cX6_part 0 = .ok (.iload_n 1, 1) := by decide +kernel
theorem dX6_part_1 : decode cX6_part 1 = .ok (.invokestatic 129, 3) := by decide +kernel
theorem dX6_part_4 : decode cX6_part 4 = .ok (.ifCond .eq 19, 3) := by decide +kernel
theorem dX6_part_7 : decode cX6_part 7 = .ok (.iload_n 2, 1) := by decide +kernel
theorem dX6_part_8 : decode cX6_part 8 = .ok (.iload_n 3, 1) := by decide +kernel
theorem dX6_part_9 : decode cX6_part 9 = .ok (.invokestatic 37, 3) := by decide +kernel
theorem dX6_part_12 : decode cX6_part 12 = .ok (.ifCond .eq 11, 3) := by decide +kernel
theorem dX6_part_15 : decode cX6_part 15 = .ok (.iload 4, 2) := by decide +kernel
theorem dX6_part_17 : decode cX6_part 17 = .ok (.invokestatic 129, 3) := by decide +kernel
theorem dX6_part_20 : decode cX6_part 20 = .ok (.ifCond .ne 11, 3) := by decide +kernel
theorem dX6_part_23 : decode cX6_part 23 = .ok (.aload_n 0, 1) := by decide +kernel
theorem dX6_part_24 : decode cX6_part 24 = .ok (.sipush (-202), 3) := by decide +kernel
theorem dX6_part_27 : decode cX6_part 27 = .ok (.invokevirtual 105, 3) := by decide +kernel
theorem dX6_part_30 : decode cX6_part 30 = .ok (.ireturn, 1) := by decide +kernel
theorem dX6_part_31 : decode cX6_part 31 = .ok (.aload_n 0, 1) := by decide +kernel
theorem dX6_part_32 : decode cX6_part 32 = .ok (.iload_n 1, 1) := by decide +kernel
theorem dX6_part_33 : decode cX6_part 33 = .ok (.iload_n 2, 1) := by decide +kernel
theorem dX6_part_34 : decode cX6_part 34 = .ok (.iload_n 3, 1) := by decide +kernel
theorem dX6_part_35 : decode cX6_part 35 = .ok (.invokevirtual 65, 3) := by decide +kernel
theorem dX6_part_38 : decode cX6_part 38 = .ok (.ifCond .ne 11, 3) := by decide +kernel
theorem dX6_part_41 : decode cX6_part 41 = .ok (.aload_n 0, 1) := by decide +kernel
theorem dX6_part_42 : decode cX6_part 42 = .ok (.sipush (-203), 3) := by decide +kernel
theorem dX6_part_45 : decode cX6_part 45 = .ok (.invokevirtual 105, 3) := by decide +kernel
theorem dX6_part_48 : decode cX6_part 48 = .ok (.ireturn, 1) := by decide +kernel
theorem dX6_part_49 : decode cX6_part 49 = .ok (.aload_n 0, 1) := by decide +kernel
theorem dX6_part_50 : decode cX6_part 50 = .ok (.iload_n 1, 1) := by decide +kernel
theorem dX6_part_51 : decode cX6_part 51 = .ok (.bipush 7, 2) := by decide +kernel
theorem dX6_part_53 : decode cX6_part 53 = .ok (.invokevirtual 97, 3) := by decide +kernel
theorem dX6_part_56 : decode cX6_part 56 = .ok (.aload_n 0, 1) := by decide +kernel
theorem dX6_part_57 : decode cX6_part 57 = .ok (.iconst 5, 1) := by decide +kernel
theorem dX6_part_58 : decode cX6_part 58 = .ok (.invokevirtual 108, 3) := by decide +kernel
theorem dX6_part_61 : decode cX6_part 61 = .ok (.aload_n 0, 1) := by decide +kernel
theorem dX6_part_62 : decode cX6_part 62 = .ok (.iconst 5, 1) := by decide +kernel
theorem dX6_part_63 : decode cX6_part 63 = .ok (.iload_n 2, 1) := by decide +kernel
theorem dX6_part_64 : decode cX6_part 64 = .ok (.iload_n 3, 1) := by decide +kernel
theorem dX6_part_65 : decode cX6_part 65 = .ok (.invokevirtual 117, 3) := by decide +kernel
theorem dX6_part_68 : decode cX6_part 68 = .ok (.aload_n 0, 1) := by decide +kernel
theorem dX6_part_69 : decode cX6_part 69 = .ok (.invokevirtual 153, 3) := by decide +kernel
theorem dX6_part_72 : decode cX6_part 72 = .ok (.aload_n 0, 1) := by decide +kernel
theorem dX6_part_73 : decode cX6_part 73 = .ok (.aload_n 0, 1) := by decide +kernel
theorem dX6_part_74 : decode cX6_part 74 = .ok (.iload 4, 2) := by decide +kernel
theorem dX6_part_76 : decode cX6_part 76 = .ok (.invokevirtual 114, 3) := by decide +kernel
theorem dX6_part_79 : decode cX6_part 79 = .ok (.invokevirtual 136, 3) := by decide +kernel
theorem dX6_part_82 : decode cX6_part 82 = .ok (.ireturn, 1) := by decide +kernel
theorem dX6_partsOf_0 : decode cX6_partsOf 0 = .ok (.iconst 0, 1) := by decide +kernel
theorem dX6_partsOf_1 : decode cX6_partsOf 1 = .ok (.istore_n 2, 1) := by decide +kernel
theorem dX6_partsOf_2 : decode cX6_partsOf 2 = .ok (.aload_n 0, 1) := by decide +kernel
theorem dX6_partsOf_3 : decode cX6_partsOf 3 = .ok (.iload_n 1, 1) := by decide +kernel
theorem dX6_partsOf_4 : decode cX6_partsOf 4 = .ok (.bipush 7, 2) := by decide +kernel
theorem dX6_partsOf_6 : decode cX6_partsOf 6 = .ok (.invokevirtual 97, 3) := by decide +kernel
theorem dX6_partsOf_9 : decode cX6_partsOf 9 = .ok (.bipush (-60), 2) := by decide +kernel
theorem dX6_partsOf_11 : decode cX6_partsOf 11 = .ok (.istore_n 3, 1) := by decide +kernel
theorem dX6_partsOf_12 : decode cX6_partsOf 12 = .ok (.iload_n 3, 1) := by decide +kernel
theorem dX6_partsOf_13 : decode cX6_partsOf 13 = .ok (.bipush 59, 2) := by decide +kernel
theorem dX6_partsOf_15 : decode cX6_partsOf 15 = .ok (.if_icmp .gt 104, 3) := by decide +kernel
theorem dX6_partsOf_18 : decode cX6_partsOf 18 = .ok (.bipush (-60), 2) := by decide +kernel
theorem dX6_partsOf_20 : decode cX6_partsOf 20 = .ok (.istore 4, 2) := by decide +kernel
theorem dX6_partsOf_22 : decode cX6_partsOf 22 = .ok (.iload 4, 2) := by decide +kernel
theorem dX6_partsOf_24 : decode cX6_partsOf 24 = .ok (.bipush 59, 2) := by decide +kernel
theorem dX6_partsOf_26 : decode cX6_partsOf 26 = .ok (.if_icmp .gt 87, 3) := by decide +kernel
theorem dX6_partsOf_29 : decode cX6_partsOf 29 = .ok (.aload_n 0, 1) := by decide +kernel
theorem dX6_partsOf_30 : decode cX6_partsOf 30 = .ok (.bipush 7, 2) := by decide +kernel
theorem dX6_partsOf_32 : decode cX6_partsOf 32 = .ok (.iload 4, 2) := by decide +kernel
theorem dX6_partsOf_34 : decode cX6_partsOf 34 = .ok (.iload_n 3, 1) := by decide +kernel
theorem dX6_partsOf_35 : decode cX6_partsOf 35 = .ok (.invokevirtual 65, 3) := by decide +kernel
theorem dX6_partsOf_38 : decode cX6_partsOf 38 = .ok (.ifCond .eq 69, 3) := by decide +kernel
theorem dX6_partsOf_41 : decode cX6_partsOf 41 = .ok (.iinc 2 1, 3) := by decide +kernel
theorem dX6_partsOf_44 : decode cX6_partsOf 44 = .ok (.aload_n 0, 1) := by decide +kernel
theorem dX6_partsOf_45 : decode cX6_partsOf 45 = .ok (.iconst 5, 1) := by decide +kernel
theorem dX6_partsOf_46 : decode cX6_partsOf 46 = .ok (.invokevirtual 108, 3) := by decide +kernel
theorem dX6_partsOf_49 : decode cX6_partsOf 49 = .ok (.aload_n 0, 1) := by decide +kernel
theorem dX6_partsOf_50 : decode cX6_partsOf 50 = .ok (.iconst 5, 1) := by decide +kernel
theorem dX6_partsOf_51 : decode cX6_partsOf 51 = .ok (.iload 4, 2) := by decide +kernel
theorem dX6_partsOf_53 : decode cX6_partsOf 53 = .ok (.iload_n 3, 1) := by decide +kernel
theorem dX6_partsOf_54 : decode cX6_partsOf 54 = .ok (.invokevirtual 117, 3) := by decide +kernel
theorem dX6_partsOf_57 : decode cX6_partsOf 57 = .ok (.aload_n 0, 1) := by decide +kernel
theorem dX6_partsOf_58 : decode cX6_partsOf 58 = .ok (.invokevirtual 153, 3) := by decide +kernel
theorem dX6_partsOf_61 : decode cX6_partsOf 61 = .ok (.iconst 0, 1) := by decide +kernel
theorem dX6_partsOf_62 : decode cX6_partsOf 62 = .ok (.istore 5, 2) := by decide +kernel
theorem dX6_partsOf_64 : decode cX6_partsOf 64 = .ok (.iload 5, 2) := by decide +kernel
theorem dX6_partsOf_66 : decode cX6_partsOf 66 = .ok (.sipush 240, 3) := by decide +kernel
theorem dX6_partsOf_69 : decode cX6_partsOf 69 = .ok (.if_icmp .ge 38, 3) := by decide +kernel
theorem dX6_partsOf_72 : decode cX6_partsOf 72 = .ok (.aload_n 0, 1) := by decide +kernel
theorem dX6_partsOf_73 : decode cX6_partsOf 73 = .ok (.getfield 7, 3) := by decide +kernel
theorem dX6_partsOf_76 : decode cX6_partsOf 76 = .ok (.sipush 1680, 3) := by decide +kernel
theorem dX6_partsOf_79 : decode cX6_partsOf 79 = .ok (.iload 5, 2) := by decide +kernel
theorem dX6_partsOf_81 : decode cX6_partsOf 81 = .ok (.iadd, 1) := by decide +kernel
theorem dX6_partsOf_82 : decode cX6_partsOf 82 = .ok (.dup2, 1) := by decide +kernel
theorem dX6_partsOf_83 : decode cX6_partsOf 83 = .ok (.laload, 1) := by decide +kernel
theorem dX6_partsOf_84 : decode cX6_partsOf 84 = .ok (.aload_n 0, 1) := by decide +kernel
theorem dX6_partsOf_85 : decode cX6_partsOf 85 = .ok (.getfield 7, 3) := by decide +kernel
theorem dX6_partsOf_88 : decode cX6_partsOf 88 = .ok (.sipush 1200, 3) := by decide +kernel
theorem dX6_partsOf_91 : decode cX6_partsOf 91 = .ok (.iload 5, 2) := by decide +kernel
theorem dX6_partsOf_93 : decode cX6_partsOf 93 = .ok (.iadd, 1) := by decide +kernel
theorem dX6_partsOf_94 : decode cX6_partsOf 94 = .ok (.laload, 1) := by decide +kernel
theorem dX6_partsOf_95 : decode cX6_partsOf 95 = .ok (.ldc2_w 121, 3) := by decide +kernel
theorem dX6_partsOf_98 : decode cX6_partsOf 98 = .ok (.lxor, 1) := by decide +kernel
theorem dX6_partsOf_99 : decode cX6_partsOf 99 = .ok (.land, 1) := by decide +kernel
theorem dX6_partsOf_100 : decode cX6_partsOf 100 = .ok (.lastore, 1) := by decide +kernel
theorem dX6_partsOf_101 : decode cX6_partsOf 101 = .ok (.iinc 5 1, 3) := by decide +kernel
theorem dX6_partsOf_104 : decode cX6_partsOf 104 = .ok (.goto (-40), 3) := by decide +kernel
theorem dX6_partsOf_107 : decode cX6_partsOf 107 = .ok (.iinc 4 1, 3) := by decide +kernel
theorem dX6_partsOf_110 : decode cX6_partsOf 110 = .ok (.goto (-88), 3) := by decide +kernel
theorem dX6_partsOf_113 : decode cX6_partsOf 113 = .ok (.iinc 3 1, 3) := by decide +kernel
theorem dX6_partsOf_116 : decode cX6_partsOf 116 = .ok (.goto (-104), 3) := by decide +kernel
theorem dX6_partsOf_119 : decode cX6_partsOf 119 = .ok (.iload_n 2, 1) := by decide +kernel
theorem dX6_partsOf_120 : decode cX6_partsOf 120 = .ok (.ireturn, 1) := by decide +kernel
theorem dX6_corner_0 : decode cX6_corner 0 = .ok (.iload_n 1, 1) := by decide +kernel
theorem dX6_corner_1 : decode cX6_corner 1 = .ok (.bipush (-60), 2) := by decide +kernel
theorem dX6_corner_3 : decode cX6_corner 3 = .ok (.bipush 60, 2) := by decide +kernel
theorem dX6_corner_5 : decode cX6_corner 5 = .ok (.invokestatic 33, 3) := by decide +kernel
theorem dX6_corner_8 : decode cX6_corner 8 = .ok (.ifCond .eq 14, 3) := by decide +kernel
theorem dX6_corner_11 : decode cX6_corner 11 = .ok (.iload_n 2, 1) := by decide +kernel
theorem dX6_corner_12 : decode cX6_corner 12 = .ok (.bipush (-60), 2) := by decide +kernel
theorem dX6_corner_14 : decode cX6_corner 14 = .ok (.bipush 60, 2) := by decide +kernel
theorem dX6_corner_16 : decode cX6_corner 16 = .ok (.invokestatic 33, 3) := by decide +kernel
theorem dX6_corner_19 : decode cX6_corner 19 = .ok (.ifCond .ne 11, 3) := by decide +kernel
theorem dX6_corner_22 : decode cX6_corner 22 = .ok (.aload_n 0, 1) := by decide +kernel
theorem dX6_corner_23 : decode cX6_corner 23 = .ok (.sipush (-202), 3) := by decide +kernel
theorem dX6_corner_26 : decode cX6_corner 26 = .ok (.invokevirtual 105, 3) := by decide +kernel
theorem dX6_corner_29 : decode cX6_corner 29 = .ok (.ireturn, 1) := by decide +kernel
theorem dX6_corner_30 : decode cX6_corner 30 = .ok (.aload_n 0, 1) := by decide +kernel
theorem dX6_corner_31 : decode cX6_corner 31 = .ok (.getfield 156, 3) := by decide +kernel
theorem dX6_corner_34 : decode cX6_corner 34 = .ok (.bipush 10, 2) := by decide +kernel
theorem dX6_corner_36 : decode cX6_corner 36 = .ok (.if_icmp .ne 11, 3) := by decide +kernel
theorem dX6_corner_39 : decode cX6_corner 39 = .ok (.aload_n 0, 1) := by decide +kernel
theorem dX6_corner_40 : decode cX6_corner 40 = .ok (.sipush (-204), 3) := by decide +kernel
theorem dX6_corner_43 : decode cX6_corner 43 = .ok (.invokevirtual 105, 3) := by decide +kernel
theorem dX6_corner_46 : decode cX6_corner 46 = .ok (.ireturn, 1) := by decide +kernel
theorem dX6_corner_47 : decode cX6_corner 47 = .ok (.aload_n 0, 1) := by decide +kernel
theorem dX6_corner_48 : decode cX6_corner 48 = .ok (.getfield 20, 3) := by decide +kernel
theorem dX6_corner_51 : decode cX6_corner 51 = .ok (.aload_n 0, 1) := by decide +kernel
theorem dX6_corner_52 : decode cX6_corner 52 = .ok (.getfield 156, 3) := by decide +kernel
theorem dX6_corner_55 : decode cX6_corner 55 = .ok (.iload_n 1, 1) := by decide +kernel
theorem dX6_corner_56 : decode cX6_corner 56 = .ok (.iastore, 1) := by decide +kernel
theorem dX6_corner_57 : decode cX6_corner 57 = .ok (.aload_n 0, 1) := by decide +kernel
theorem dX6_corner_58 : decode cX6_corner 58 = .ok (.getfield 23, 3) := by decide +kernel
theorem dX6_corner_61 : decode cX6_corner 61 = .ok (.aload_n 0, 1) := by decide +kernel
theorem dX6_corner_62 : decode cX6_corner 62 = .ok (.getfield 156, 3) := by decide +kernel
theorem dX6_corner_65 : decode cX6_corner 65 = .ok (.iload_n 2, 1) := by decide +kernel
theorem dX6_corner_66 : decode cX6_corner 66 = .ok (.iastore, 1) := by decide +kernel
theorem dX6_corner_67 : decode cX6_corner 67 = .ok (.aload_n 0, 1) := by decide +kernel
theorem dX6_corner_68 : decode cX6_corner 68 = .ok (.dup, 1) := by decide +kernel
theorem dX6_corner_69 : decode cX6_corner 69 = .ok (.getfield 156, 3) := by decide +kernel
theorem dX6_corner_72 : decode cX6_corner 72 = .ok (.iconst 1, 1) := by decide +kernel
theorem dX6_corner_73 : decode cX6_corner 73 = .ok (.iadd, 1) := by decide +kernel
theorem dX6_corner_74 : decode cX6_corner 74 = .ok (.putfield 156, 3) := by decide +kernel
theorem dX6_corner_77 : decode cX6_corner 77 = .ok (.aload_n 0, 1) := by decide +kernel
theorem dX6_corner_78 : decode cX6_corner 78 = .ok (.getfield 156, 3) := by decide +kernel
theorem dX6_corner_81 : decode cX6_corner 81 = .ok (.ireturn, 1) := by decide +kernel
theorem dX6_crossed_0 : decode cX6_crossed 0 = .ok (.iconst 0, 1) := by decide +kernel
theorem dX6_crossed_1 : decode cX6_crossed 1 = .ok (.istore_n 3, 1) := by decide +kernel
theorem dX6_crossed_2 : decode cX6_crossed 2 = .ok (.iconst 0, 1) := by decide +kernel
theorem dX6_crossed_3 : decode cX6_crossed 3 = .ok (.istore 4, 2) := by decide +kernel
theorem dX6_crossed_5 : decode cX6_crossed 5 = .ok (.iload 4, 2) := by decide +kernel
theorem dX6_crossed_7 : decode cX6_crossed 7 = .ok (.aload_n 0, 1) := by decide +kernel
theorem dX6_crossed_8 : decode cX6_crossed 8 = .ok (.getfield 156, 3) := by decide +kernel
theorem dX6_crossed_11 : decode cX6_crossed 11 = .ok (.if_icmp .ge 170, 3) := by decide +kernel
theorem dX6_crossed_14 : decode cX6_crossed 14 = .ok (.iload 4, 2) := by decide +kernel
theorem dX6_crossed_16 : decode cX6_crossed 16 = .ok (.iconst 1, 1) := by decide +kernel
theorem dX6_crossed_17 : decode cX6_crossed 17 = .ok (.iadd, 1) := by decide +kernel
theorem dX6_crossed_18 : decode cX6_crossed 18 = .ok (.aload_n 0, 1) := by decide +kernel
theorem dX6_crossed_19 : decode cX6_crossed 19 = .ok (.getfield 156, 3) := by decide +kernel
theorem dX6_crossed_22 : decode cX6_crossed 22 = .ok (.if_icmp .ge 10, 3) := by decide +kernel
theorem dX6_crossed_25 : decode cX6_crossed 25 = .ok (.iload 4, 2) := by decide +kernel
theorem dX6_crossed_27 : decode cX6_crossed 27 = .ok (.iconst 1, 1) := by decide +kernel
theorem dX6_crossed_28 : decode cX6_crossed 28 = .ok (.iadd, 1) := by decide +kernel
theorem dX6_crossed_29 : decode cX6_crossed 29 = .ok (.goto 4, 3) := by decide +kernel
theorem dX6_crossed_32 : decode cX6_crossed 32 = .ok (.iconst 0, 1) := by decide +kernel
theorem dX6_crossed_33 : decode cX6_crossed 33 = .ok (.istore 5, 2) := by decide +kernel
theorem dX6_crossed_35 : decode cX6_crossed 35 = .ok (.aload_n 0, 1) := by decide +kernel
theorem dX6_crossed_36 : decode cX6_crossed 36 = .ok (.getfield 23, 3) := by decide +kernel
theorem dX6_crossed_39 : decode cX6_crossed 39 = .ok (.iload 5, 2) := by decide +kernel
theorem dX6_crossed_41 : decode cX6_crossed 41 = .ok (.iaload, 1) := by decide +kernel
theorem dX6_crossed_42 : decode cX6_crossed 42 = .ok (.aload_n 0, 1) := by decide +kernel
theorem dX6_crossed_43 : decode cX6_crossed 43 = .ok (.getfield 23, 3) := by decide +kernel
theorem dX6_crossed_46 : decode cX6_crossed 46 = .ok (.iload 4, 2) := by decide +kernel
theorem dX6_crossed_48 : decode cX6_crossed 48 = .ok (.iaload, 1) := by decide +kernel
theorem dX6_crossed_49 : decode cX6_crossed 49 = .ok (.isub, 1) := by decide +kernel
theorem dX6_crossed_50 : decode cX6_crossed 50 = .ok (.istore 6, 2) := by decide +kernel
theorem dX6_crossed_52 : decode cX6_crossed 52 = .ok (.aload_n 0, 1) := by decide +kernel
theorem dX6_crossed_53 : decode cX6_crossed 53 = .ok (.getfield 23, 3) := by decide +kernel
theorem dX6_crossed_56 : decode cX6_crossed 56 = .ok (.iload 4, 2) := by decide +kernel
theorem dX6_crossed_58 : decode cX6_crossed 58 = .ok (.iaload, 1) := by decide +kernel
theorem dX6_crossed_59 : decode cX6_crossed 59 = .ok (.iload_n 2, 1) := by decide +kernel
theorem dX6_crossed_60 : decode cX6_crossed 60 = .ok (.if_icmp .gt 7, 3) := by decide +kernel
theorem dX6_crossed_63 : decode cX6_crossed 63 = .ok (.iconst 1, 1) := by decide +kernel
theorem dX6_crossed_64 : decode cX6_crossed 64 = .ok (.goto 4, 3) := by decide +kernel
theorem dX6_crossed_67 : decode cX6_crossed 67 = .ok (.iconst 0, 1) := by decide +kernel
theorem dX6_crossed_68 : decode cX6_crossed 68 = .ok (.aload_n 0, 1) := by decide +kernel
theorem dX6_crossed_69 : decode cX6_crossed 69 = .ok (.getfield 23, 3) := by decide +kernel
theorem dX6_crossed_72 : decode cX6_crossed 72 = .ok (.iload 5, 2) := by decide +kernel
theorem dX6_crossed_74 : decode cX6_crossed 74 = .ok (.iaload, 1) := by decide +kernel
theorem dX6_crossed_75 : decode cX6_crossed 75 = .ok (.iload_n 2, 1) := by decide +kernel
theorem dX6_crossed_76 : decode cX6_crossed 76 = .ok (.if_icmp .gt 7, 3) := by decide +kernel
theorem dX6_crossed_79 : decode cX6_crossed 79 = .ok (.iconst 1, 1) := by decide +kernel
theorem dX6_crossed_80 : decode cX6_crossed 80 = .ok (.goto 4, 3) := by decide +kernel
theorem dX6_crossed_83 : decode cX6_crossed 83 = .ok (.iconst 0, 1) := by decide +kernel
theorem dX6_crossed_84 : decode cX6_crossed 84 = .ok (.if_icmp .eq 91, 3) := by decide +kernel
theorem dX6_crossed_87 : decode cX6_crossed 87 = .ok (.iconst 2, 1) := by decide +kernel
theorem dX6_crossed_88 : decode cX6_crossed 88 = .ok (.aload_n 0, 1) := by decide +kernel
theorem dX6_crossed_89 : decode cX6_crossed 89 = .ok (.getfield 20, 3) := by decide +kernel
theorem dX6_crossed_92 : decode cX6_crossed 92 = .ok (.iload 4, 2) := by decide +kernel
theorem dX6_crossed_94 : decode cX6_crossed 94 = .ok (.iaload, 1) := by decide +kernel
theorem dX6_crossed_95 : decode cX6_crossed 95 = .ok (.imul, 1) := by decide +kernel
theorem dX6_crossed_96 : decode cX6_crossed 96 = .ok (.iconst 2, 1) := by decide +kernel
theorem dX6_crossed_97 : decode cX6_crossed 97 = .ok (.iload_n 1, 1) := by decide +kernel
theorem dX6_crossed_98 : decode cX6_crossed 98 = .ok (.imul, 1) := by decide +kernel
theorem dX6_crossed_99 : decode cX6_crossed 99 = .ok (.isub, 1) := by decide +kernel
theorem dX6_crossed_100 : decode cX6_crossed 100 = .ok (.iconst 1, 1) := by decide +kernel
theorem dX6_crossed_101 : decode cX6_crossed 101 = .ok (.isub, 1) := by decide +kernel
theorem dX6_crossed_102 : decode cX6_crossed 102 = .ok (.iload 6, 2) := by decide +kernel
theorem dX6_crossed_104 : decode cX6_crossed 104 = .ok (.imul, 1) := by decide +kernel
theorem dX6_crossed_105 : decode cX6_crossed 105 = .ok (.iconst 2, 1) := by decide +kernel
theorem dX6_crossed_106 : decode cX6_crossed 106 = .ok (.iload_n 2, 1) := by decide +kernel
theorem dX6_crossed_107 : decode cX6_crossed 107 = .ok (.imul, 1) := by decide +kernel
theorem dX6_crossed_108 : decode cX6_crossed 108 = .ok (.iconst 1, 1) := by decide +kernel
theorem dX6_crossed_109 : decode cX6_crossed 109 = .ok (.iadd, 1) := by decide +kernel
theorem dX6_crossed_110 : decode cX6_crossed 110 = .ok (.iconst 2, 1) := by decide +kernel
theorem dX6_crossed_111 : decode cX6_crossed 111 = .ok (.aload_n 0, 1) := by decide +kernel
theorem dX6_crossed_112 : decode cX6_crossed 112 = .ok (.getfield 23, 3) := by decide +kernel
theorem dX6_crossed_115 : decode cX6_crossed 115 = .ok (.iload 4, 2) := by decide +kernel
theorem dX6_crossed_117 : decode cX6_crossed 117 = .ok (.iaload, 1) := by decide +kernel
theorem dX6_crossed_118 : decode cX6_crossed 118 = .ok (.imul, 1) := by decide +kernel
theorem dX6_crossed_119 : decode cX6_crossed 119 = .ok (.isub, 1) := by decide +kernel
theorem dX6_crossed_120 : decode cX6_crossed 120 = .ok (.aload_n 0, 1) := by decide +kernel
theorem dX6_crossed_121 : decode cX6_crossed 121 = .ok (.getfield 20, 3) := by decide +kernel
theorem dX6_crossed_124 : decode cX6_crossed 124 = .ok (.iload 5, 2) := by decide +kernel
theorem dX6_crossed_126 : decode cX6_crossed 126 = .ok (.iaload, 1) := by decide +kernel
theorem dX6_crossed_127 : decode cX6_crossed 127 = .ok (.aload_n 0, 1) := by decide +kernel
theorem dX6_crossed_128 : decode cX6_crossed 128 = .ok (.getfield 20, 3) := by decide +kernel
theorem dX6_crossed_131 : decode cX6_crossed 131 = .ok (.iload 4, 2) := by decide +kernel
theorem dX6_crossed_133 : decode cX6_crossed 133 = .ok (.iaload, 1) := by decide +kernel
theorem dX6_crossed_134 : decode cX6_crossed 134 = .ok (.isub, 1) := by decide +kernel
theorem dX6_crossed_135 : decode cX6_crossed 135 = .ok (.imul, 1) := by decide +kernel
theorem dX6_crossed_136 : decode cX6_crossed 136 = .ok (.iadd, 1) := by decide +kernel
theorem dX6_crossed_137 : decode cX6_crossed 137 = .ok (.istore 7, 2) := by decide +kernel
theorem dX6_crossed_139 : decode cX6_crossed 139 = .ok (.iload_n 3, 1) := by decide +kernel
theorem dX6_crossed_140 : decode cX6_crossed 140 = .ok (.iload 6, 2) := by decide +kernel
theorem dX6_crossed_142 : decode cX6_crossed 142 = .ok (.ifCond .le 7, 3) := by decide +kernel
theorem dX6_crossed_145 : decode cX6_crossed 145 = .ok (.iconst 1, 1) := by decide +kernel
theorem dX6_crossed_146 : decode cX6_crossed 146 = .ok (.goto 4, 3) := by decide +kernel
theorem dX6_crossed_149 : decode cX6_crossed 149 = .ok (.iconst 0, 1) := by decide +kernel
theorem dX6_crossed_150 : decode cX6_crossed 150 = .ok (.iload 7, 2) := by decide +kernel
theorem dX6_crossed_152 : decode cX6_crossed 152 = .ok (.ifCond .le 7, 3) := by decide +kernel
theorem dX6_crossed_155 : decode cX6_crossed 155 = .ok (.iconst 1, 1) := by decide +kernel
theorem dX6_crossed_156 : decode cX6_crossed 156 = .ok (.goto 4, 3) := by decide +kernel
theorem dX6_crossed_159 : decode cX6_crossed 159 = .ok (.iconst 0, 1) := by decide +kernel
theorem dX6_crossed_160 : decode cX6_crossed 160 = .ok (.if_icmp .ne 12, 3) := by decide +kernel
theorem dX6_crossed_163 : decode cX6_crossed 163 = .ok (.iload 7, 2) := by decide +kernel
theorem dX6_crossed_165 : decode cX6_crossed 165 = .ok (.ifCond .eq 7, 3) := by decide +kernel
theorem dX6_crossed_168 : decode cX6_crossed 168 = .ok (.iconst 1, 1) := by decide +kernel
theorem dX6_crossed_169 : decode cX6_crossed 169 = .ok (.goto 4, 3) := by decide +kernel
theorem dX6_crossed_172 : decode cX6_crossed 172 = .ok (.iconst 0, 1) := by decide +kernel
theorem dX6_crossed_173 : decode cX6_crossed 173 = .ok (.iadd, 1) := by decide +kernel
theorem dX6_crossed_174 : decode cX6_crossed 174 = .ok (.istore_n 3, 1) := by decide +kernel
theorem dX6_crossed_175 : decode cX6_crossed 175 = .ok (.iinc 4 1, 3) := by decide +kernel
theorem dX6_crossed_178 : decode cX6_crossed 178 = .ok (.goto (-173), 3) := by decide +kernel
theorem dX6_crossed_181 : decode cX6_crossed 181 = .ok (.iload_n 3, 1) := by decide +kernel
theorem dX6_crossed_182 : decode cX6_crossed 182 = .ok (.ireturn, 1) := by decide +kernel
theorem dX6_round_0 : decode cX6_round 0 = .ok (.iload_n 1, 1) := by decide +kernel
theorem dX6_round_1 : decode cX6_round 1 = .ok (.invokestatic 129, 3) := by decide +kernel
theorem dX6_round_4 : decode cX6_round 4 = .ok (.ifCond .ne 11, 3) := by decide +kernel
theorem dX6_round_7 : decode cX6_round 7 = .ok (.aload_n 0, 1) := by decide +kernel
theorem dX6_round_8 : decode cX6_round 8 = .ok (.sipush (-202), 3) := by decide +kernel
theorem dX6_round_11 : decode cX6_round 11 = .ok (.invokevirtual 105, 3) := by decide +kernel
theorem dX6_round_14 : decode cX6_round 14 = .ok (.ireturn, 1) := by decide +kernel
theorem dX6_round_15 : decode cX6_round 15 = .ok (.aload_n 0, 1) := by decide +kernel
theorem dX6_round_16 : decode cX6_round 16 = .ok (.getfield 156, 3) := by decide +kernel
theorem dX6_round_19 : decode cX6_round 19 = .ok (.iconst 3, 1) := by decide +kernel
theorem dX6_round_20 : decode cX6_round 20 = .ok (.if_icmp .ge 11, 3) := by decide +kernel
theorem dX6_round_23 : decode cX6_round 23 = .ok (.aload_n 0, 1) := by decide +kernel
theorem dX6_round_24 : decode cX6_round 24 = .ok (.sipush (-203), 3) := by decide +kernel
theorem dX6_round_27 : decode cX6_round 27 = .ok (.invokevirtual 105, 3) := by decide +kernel
theorem dX6_round_30 : decode cX6_round 30 = .ok (.ireturn, 1) := by decide +kernel
theorem dX6_round_31 : decode cX6_round 31 = .ok (.aload_n 0, 1) := by decide +kernel
theorem dX6_round_32 : decode cX6_round 32 = .ok (.iconst 5, 1) := by decide +kernel
theorem dX6_round_33 : decode cX6_round 33 = .ok (.invokevirtual 108, 3) := by decide +kernel
theorem dX6_round_36 : decode cX6_round 36 = .ok (.bipush (-60), 2) := by decide +kernel
theorem dX6_round_38 : decode cX6_round 38 = .ok (.istore_n 2, 1) := by decide +kernel
theorem dX6_round_39 : decode cX6_round 39 = .ok (.iload_n 2, 1) := by decide +kernel
theorem dX6_round_40 : decode cX6_round 40 = .ok (.bipush 59, 2) := by decide +kernel
theorem dX6_round_42 : decode cX6_round 42 = .ok (.if_icmp .gt 43, 3) := by decide +kernel
theorem dX6_round_45 : decode cX6_round 45 = .ok (.bipush (-60), 2) := by decide +kernel
theorem dX6_round_47 : decode cX6_round 47 = .ok (.istore_n 3, 1) := by decide +kernel
theorem dX6_round_48 : decode cX6_round 48 = .ok (.iload_n 3, 1) := by decide +kernel
theorem dX6_round_49 : decode cX6_round 49 = .ok (.bipush 59, 2) := by decide +kernel
theorem dX6_round_51 : decode cX6_round 51 = .ok (.if_icmp .gt 28, 3) := by decide +kernel
theorem dX6_round_54 : decode cX6_round 54 = .ok (.aload_n 0, 1) := by decide +kernel
theorem dX6_round_55 : decode cX6_round 55 = .ok (.iload_n 3, 1) := by decide +kernel
theorem dX6_round_56 : decode cX6_round 56 = .ok (.iload_n 2, 1) := by decide +kernel
theorem dX6_round_57 : decode cX6_round 57 = .ok (.invokevirtual 159, 3) := by decide +kernel
theorem dX6_round_60 : decode cX6_round 60 = .ok (.iconst 2, 1) := by decide +kernel
theorem dX6_round_61 : decode cX6_round 61 = .ok (.irem, 1) := by decide +kernel
theorem dX6_round_62 : decode cX6_round 62 = .ok (.iconst 1, 1) := by decide +kernel
theorem dX6_round_63 : decode cX6_round 63 = .ok (.if_icmp .ne 10, 3) := by decide +kernel
theorem dX6_round_66 : decode cX6_round 66 = .ok (.aload_n 0, 1) := by decide +kernel
theorem dX6_round_67 : decode cX6_round 67 = .ok (.iconst 5, 1) := by decide +kernel
theorem dX6_round_68 : decode cX6_round 68 = .ok (.iload_n 3, 1) := by decide +kernel
theorem dX6_round_69 : decode cX6_round 69 = .ok (.iload_n 2, 1) := by decide +kernel
theorem dX6_round_70 : decode cX6_round 70 = .ok (.invokevirtual 117, 3) := by decide +kernel
theorem dX6_round_73 : decode cX6_round 73 = .ok (.iinc 3 1, 3) := by decide +kernel
theorem dX6_round_76 : decode cX6_round 76 = .ok (.goto (-28), 3) := by decide +kernel
theorem dX6_round_79 : decode cX6_round 79 = .ok (.iinc 2 1, 3) := by decide +kernel
theorem dX6_round_82 : decode cX6_round 82 = .ok (.goto (-43), 3) := by decide +kernel
theorem dX6_round_85 : decode cX6_round 85 = .ok (.aload_n 0, 1) := by decide +kernel
theorem dX6_round_86 : decode cX6_round 86 = .ok (.iload_n 1, 1) := by decide +kernel
theorem dX6_round_87 : decode cX6_round 87 = .ok (.invokevirtual 114, 3) := by decide +kernel
theorem dX6_round_90 : decode cX6_round 90 = .ok (.istore_n 2, 1) := by decide +kernel
theorem dX6_round_91 : decode cX6_round 91 = .ok (.iload_n 2, 1) := by decide +kernel
theorem dX6_round_92 : decode cX6_round 92 = .ok (.sipush (-204), 3) := by decide +kernel
theorem dX6_round_95 : decode cX6_round 95 = .ok (.if_icmp .ne 11, 3) := by decide +kernel
theorem dX6_round_98 : decode cX6_round 98 = .ok (.aload_n 0, 1) := by decide +kernel
theorem dX6_round_99 : decode cX6_round 99 = .ok (.sipush (-204), 3) := by decide +kernel
theorem dX6_round_102 : decode cX6_round 102 = .ok (.invokevirtual 105, 3) := by decide +kernel
theorem dX6_round_105 : decode cX6_round 105 = .ok (.ireturn, 1) := by decide +kernel
theorem dX6_round_106 : decode cX6_round 106 = .ok (.aload_n 0, 1) := by decide +kernel
theorem dX6_round_107 : decode cX6_round 107 = .ok (.iconst 0, 1) := by decide +kernel
theorem dX6_round_108 : decode cX6_round 108 = .ok (.putfield 156, 3) := by decide +kernel
theorem dX6_round_111 : decode cX6_round 111 = .ok (.iload_n 2, 1) := by decide +kernel
theorem dX6_round_112 : decode cX6_round 112 = .ok (.ireturn, 1) := by decide +kernel
theorem dX6_draw_0 : decode cX6_draw 0 = .ok (.iload_n 1, 1) := by decide +kernel
theorem dX6_draw_1 : decode cX6_draw 1 = .ok (.iconst 0, 1) := by decide +kernel
theorem dX6_draw_2 : decode cX6_draw 2 = .ok (.ldc 163, 2) := by decide +kernel
theorem dX6_draw_4 : decode cX6_draw 4 = .ok (.invokestatic 33, 3) := by decide +kernel
theorem dX6_draw_7 : decode cX6_draw 7 = .ok (.ifCond .eq 20, 3) := by decide +kernel
theorem dX6_draw_10 : decode cX6_draw 10 = .ok (.iload_n 2, 1) := by decide +kernel
theorem dX6_draw_11 : decode cX6_draw 11 = .ok (.iconst 1, 1) := by decide +kernel
theorem dX6_draw_12 : decode cX6_draw 12 = .ok (.bipush 9, 2) := by decide +kernel
theorem dX6_draw_14 : decode cX6_draw 14 = .ok (.invokestatic 33, 3) := by decide +kernel
theorem dX6_draw_17 : decode cX6_draw 17 = .ok (.ifCond .eq 10, 3) := by decide +kernel
theorem dX6_draw_20 : decode cX6_draw 20 = .ok (.iload_n 3, 1) := by decide +kernel
theorem dX6_draw_21 : decode cX6_draw 21 = .ok (.invokestatic 129, 3) := by decide +kernel
theorem dX6_draw_24 : decode cX6_draw 24 = .ok (.ifCond .ne 11, 3) := by decide +kernel
theorem dX6_draw_27 : decode cX6_draw 27 = .ok (.aload_n 0, 1) := by decide +kernel
theorem dX6_draw_28 : decode cX6_draw 28 = .ok (.sipush (-202), 3) := by decide +kernel
theorem dX6_draw_31 : decode cX6_draw 31 = .ok (.invokevirtual 105, 3) := by decide +kernel
theorem dX6_draw_34 : decode cX6_draw 34 = .ok (.ireturn, 1) := by decide +kernel
theorem dX6_draw_35 : decode cX6_draw 35 = .ok (.aload_n 0, 1) := by decide +kernel
theorem dX6_draw_36 : decode cX6_draw 36 = .ok (.iconst 5, 1) := by decide +kernel
theorem dX6_draw_37 : decode cX6_draw 37 = .ok (.invokevirtual 108, 3) := by decide +kernel
theorem dX6_draw_40 : decode cX6_draw 40 = .ok (.iload_n 1, 1) := by decide +kernel
theorem dX6_draw_41 : decode cX6_draw 41 = .ok (.i2l, 1) := by decide +kernel
theorem dX6_draw_42 : decode cX6_draw 42 = .ok (.lstore 4, 2) := by decide +kernel
theorem dX6_draw_44 : decode cX6_draw 44 = .ok (.iconst 0, 1) := by decide +kernel
theorem dX6_draw_45 : decode cX6_draw 45 = .ok (.istore 6, 2) := by decide +kernel
theorem dX6_draw_47 : decode cX6_draw 47 = .ok (.iload 6, 2) := by decide +kernel
theorem dX6_draw_49 : decode cX6_draw 49 = .ok (.iload_n 2, 1) := by decide +kernel
theorem dX6_draw_50 : decode cX6_draw 50 = .ok (.if_icmp .ge 83, 3) := by decide +kernel
theorem dX6_draw_53 : decode cX6_draw 53 = .ok (.lload 4, 2) := by decide +kernel
theorem dX6_draw_55 : decode cX6_draw 55 = .ok (.ldc2_w 164, 3) := by decide +kernel
theorem dX6_draw_58 : decode cX6_draw 58 = .ok (.lmul, 1) := by decide +kernel
theorem dX6_draw_59 : decode cX6_draw 59 = .ok (.ldc2_w 166, 3) := by decide +kernel
theorem dX6_draw_62 : decode cX6_draw 62 = .ok (.ladd, 1) := by decide +kernel
theorem dX6_draw_63 : decode cX6_draw 63 = .ok (.ldc2_w 168, 3) := by decide +kernel
theorem dX6_draw_66 : decode cX6_draw 66 = .ok (.lrem, 1) := by decide +kernel
theorem dX6_draw_67 : decode cX6_draw 67 = .ok (.lstore 4, 2) := by decide +kernel
theorem dX6_draw_69 : decode cX6_draw 69 = .ok (.aload_n 0, 1) := by decide +kernel
theorem dX6_draw_70 : decode cX6_draw 70 = .ok (.lload 4, 2) := by decide +kernel
theorem dX6_draw_72 : decode cX6_draw 72 = .ok (.ldc2_w 170, 3) := by decide +kernel
theorem dX6_draw_75 : decode cX6_draw 75 = .ok (.ldiv, 1) := by decide +kernel
theorem dX6_draw_76 : decode cX6_draw 76 = .ok (.ldc2_w 172, 3) := by decide +kernel
theorem dX6_draw_79 : decode cX6_draw 79 = .ok (.lrem, 1) := by decide +kernel
theorem dX6_draw_80 : decode cX6_draw 80 = .ok (.l2i, 1) := by decide +kernel
theorem dX6_draw_81 : decode cX6_draw 81 = .ok (.bipush 25, 2) := by decide +kernel
theorem dX6_draw_83 : decode cX6_draw 83 = .ok (.isub, 1) := by decide +kernel
theorem dX6_draw_84 : decode cX6_draw 84 = .ok (.lload 4, 2) := by decide +kernel
theorem dX6_draw_86 : decode cX6_draw 86 = .ok (.ldc2_w 174, 3) := by decide +kernel
theorem dX6_draw_89 : decode cX6_draw 89 = .ok (.ldiv, 1) := by decide +kernel
theorem dX6_draw_90 : decode cX6_draw 90 = .ok (.ldc2_w 172, 3) := by decide +kernel
theorem dX6_draw_93 : decode cX6_draw 93 = .ok (.lrem, 1) := by decide +kernel
theorem dX6_draw_94 : decode cX6_draw 94 = .ok (.l2i, 1) := by decide +kernel
theorem dX6_draw_95 : decode cX6_draw 95 = .ok (.bipush 25, 2) := by decide +kernel
theorem dX6_draw_97 : decode cX6_draw 97 = .ok (.isub, 1) := by decide +kernel
theorem dX6_draw_98 : decode cX6_draw 98 = .ok (.lload 4, 2) := by decide +kernel
theorem dX6_draw_100 : decode cX6_draw 100 = .ok (.ldc2_w 176, 3) := by decide +kernel
theorem dX6_draw_103 : decode cX6_draw 103 = .ok (.ldiv, 1) := by decide +kernel
theorem dX6_draw_104 : decode cX6_draw 104 = .ok (.ldc2_w 178, 3) := by decide +kernel
theorem dX6_draw_107 : decode cX6_draw 107 = .ok (.lrem, 1) := by decide +kernel
theorem dX6_draw_108 : decode cX6_draw 108 = .ok (.l2i, 1) := by decide +kernel
theorem dX6_draw_109 : decode cX6_draw 109 = .ok (.iconst 1, 1) := by decide +kernel
theorem dX6_draw_110 : decode cX6_draw 110 = .ok (.iadd, 1) := by decide +kernel
theorem dX6_draw_111 : decode cX6_draw 111 = .ok (.lload 4, 2) := by decide +kernel
theorem dX6_draw_113 : decode cX6_draw 113 = .ok (.ldc2_w 180, 3) := by decide +kernel
theorem dX6_draw_116 : decode cX6_draw 116 = .ok (.ldiv, 1) := by decide +kernel
theorem dX6_draw_117 : decode cX6_draw 117 = .ok (.ldc2_w 178, 3) := by decide +kernel
theorem dX6_draw_120 : decode cX6_draw 120 = .ok (.lrem, 1) := by decide +kernel
theorem dX6_draw_121 : decode cX6_draw 121 = .ok (.l2i, 1) := by decide +kernel
theorem dX6_draw_122 : decode cX6_draw 122 = .ok (.iconst 1, 1) := by decide +kernel
theorem dX6_draw_123 : decode cX6_draw 123 = .ok (.iadd, 1) := by decide +kernel
theorem dX6_draw_124 : decode cX6_draw 124 = .ok (.invokevirtual 111, 3) := by decide +kernel
theorem dX6_draw_127 : decode cX6_draw 127 = .ok (.iinc 6 1, 3) := by decide +kernel
theorem dX6_draw_130 : decode cX6_draw 130 = .ok (.goto (-83), 3) := by decide +kernel
theorem dX6_draw_133 : decode cX6_draw 133 = .ok (.aload_n 0, 1) := by decide +kernel
theorem dX6_draw_134 : decode cX6_draw 134 = .ok (.aload_n 0, 1) := by decide +kernel
theorem dX6_draw_135 : decode cX6_draw 135 = .ok (.iload_n 3, 1) := by decide +kernel
theorem dX6_draw_136 : decode cX6_draw 136 = .ok (.invokevirtual 114, 3) := by decide +kernel
theorem dX6_draw_139 : decode cX6_draw 139 = .ok (.invokevirtual 136, 3) := by decide +kernel
theorem dX6_draw_142 : decode cX6_draw 142 = .ok (.ireturn, 1) := by decide +kernel
theorem dX6_hit_0 : decode cX6_hit 0 = .ok (.iload_n 1, 1) := by decide +kernel
theorem dX6_hit_1 : decode cX6_hit 1 = .ok (.invokestatic 129, 3) := by decide +kernel
theorem dX6_hit_4 : decode cX6_hit 4 = .ok (.ifCond .eq 21, 3) := by decide +kernel
theorem dX6_hit_7 : decode cX6_hit 7 = .ok (.aload_n 0, 1) := by decide +kernel
theorem dX6_hit_8 : decode cX6_hit 8 = .ok (.iload_n 1, 1) := by decide +kernel
theorem dX6_hit_9 : decode cX6_hit 9 = .ok (.iload_n 2, 1) := by decide +kernel
theorem dX6_hit_10 : decode cX6_hit 10 = .ok (.iload_n 3, 1) := by decide +kernel
theorem dX6_hit_11 : decode cX6_hit 11 = .ok (.invokevirtual 65, 3) := by decide +kernel
theorem dX6_hit_14 : decode cX6_hit 14 = .ok (.ifCond .eq 7, 3) := by decide +kernel
theorem dX6_hit_17 : decode cX6_hit 17 = .ok (.iconst 1, 1) := by decide +kernel
theorem dX6_hit_18 : decode cX6_hit 18 = .ok (.goto 14, 3) := by decide +kernel
theorem dX6_hit_21 : decode cX6_hit 21 = .ok (.iconst 0, 1) := by decide +kernel
theorem dX6_hit_22 : decode cX6_hit 22 = .ok (.goto 10, 3) := by decide +kernel
theorem dX6_hit_25 : decode cX6_hit 25 = .ok (.aload_n 0, 1) := by decide +kernel
theorem dX6_hit_26 : decode cX6_hit 26 = .ok (.sipush (-202), 3) := by decide +kernel
theorem dX6_hit_29 : decode cX6_hit 29 = .ok (.invokevirtual 105, 3) := by decide +kernel
theorem dX6_hit_32 : decode cX6_hit 32 = .ok (.ireturn, 1) := by decide +kernel
theorem dX6_sides_0 : decode cX6_sides 0 = .ok (.iconst 0, 1) := by decide +kernel
theorem dX6_sides_1 : decode cX6_sides 1 = .ok (.istore_n 2, 1) := by decide +kernel
theorem dX6_sides_2 : decode cX6_sides 2 = .ok (.bipush (-60), 2) := by decide +kernel
theorem dX6_sides_4 : decode cX6_sides 4 = .ok (.istore_n 3, 1) := by decide +kernel
theorem dX6_sides_5 : decode cX6_sides 5 = .ok (.iload_n 3, 1) := by decide +kernel
theorem dX6_sides_6 : decode cX6_sides 6 = .ok (.bipush 59, 2) := by decide +kernel
theorem dX6_sides_8 : decode cX6_sides 8 = .ok (.if_icmp .gt 115, 3) := by decide +kernel
theorem dX6_sides_11 : decode cX6_sides 11 = .ok (.bipush (-60), 2) := by decide +kernel
theorem dX6_sides_13 : decode cX6_sides 13 = .ok (.istore 4, 2) := by decide +kernel
theorem dX6_sides_15 : decode cX6_sides 15 = .ok (.iload 4, 2) := by decide +kernel
theorem dX6_sides_17 : decode cX6_sides 17 = .ok (.bipush 59, 2) := by decide +kernel
theorem dX6_sides_19 : decode cX6_sides 19 = .ok (.if_icmp .gt 98, 3) := by decide +kernel
theorem dX6_sides_22 : decode cX6_sides 22 = .ok (.aload_n 0, 1) := by decide +kernel
theorem dX6_sides_23 : decode cX6_sides 23 = .ok (.iload_n 1, 1) := by decide +kernel
theorem dX6_sides_24 : decode cX6_sides 24 = .ok (.iload 4, 2) := by decide +kernel
theorem dX6_sides_26 : decode cX6_sides 26 = .ok (.iload_n 3, 1) := by decide +kernel
theorem dX6_sides_27 : decode cX6_sides 27 = .ok (.invokevirtual 65, 3) := by decide +kernel
theorem dX6_sides_30 : decode cX6_sides 30 = .ok (.ifCond .eq 81, 3) := by decide +kernel
theorem dX6_sides_33 : decode cX6_sides 33 = .ok (.iload_n 2, 1) := by decide +kernel
theorem dX6_sides_34 : decode cX6_sides 34 = .ok (.aload_n 0, 1) := by decide +kernel
theorem dX6_sides_35 : decode cX6_sides 35 = .ok (.iload_n 1, 1) := by decide +kernel
theorem dX6_sides_36 : decode cX6_sides 36 = .ok (.iload 4, 2) := by decide +kernel
theorem dX6_sides_38 : decode cX6_sides 38 = .ok (.iconst 1, 1) := by decide +kernel
theorem dX6_sides_39 : decode cX6_sides 39 = .ok (.isub, 1) := by decide +kernel
theorem dX6_sides_40 : decode cX6_sides 40 = .ok (.iload_n 3, 1) := by decide +kernel
theorem dX6_sides_41 : decode cX6_sides 41 = .ok (.invokevirtual 65, 3) := by decide +kernel
theorem dX6_sides_44 : decode cX6_sides 44 = .ok (.ifCond .eq 7, 3) := by decide +kernel
theorem dX6_sides_47 : decode cX6_sides 47 = .ok (.iconst 0, 1) := by decide +kernel
theorem dX6_sides_48 : decode cX6_sides 48 = .ok (.goto 4, 3) := by decide +kernel
theorem dX6_sides_51 : decode cX6_sides 51 = .ok (.iconst 1, 1) := by decide +kernel
theorem dX6_sides_52 : decode cX6_sides 52 = .ok (.aload_n 0, 1) := by decide +kernel
theorem dX6_sides_53 : decode cX6_sides 53 = .ok (.iload_n 1, 1) := by decide +kernel
theorem dX6_sides_54 : decode cX6_sides 54 = .ok (.iload 4, 2) := by decide +kernel
theorem dX6_sides_56 : decode cX6_sides 56 = .ok (.iconst 1, 1) := by decide +kernel
theorem dX6_sides_57 : decode cX6_sides 57 = .ok (.iadd, 1) := by decide +kernel
theorem dX6_sides_58 : decode cX6_sides 58 = .ok (.iload_n 3, 1) := by decide +kernel
theorem dX6_sides_59 : decode cX6_sides 59 = .ok (.invokevirtual 65, 3) := by decide +kernel
theorem dX6_sides_62 : decode cX6_sides 62 = .ok (.ifCond .eq 7, 3) := by decide +kernel
theorem dX6_sides_65 : decode cX6_sides 65 = .ok (.iconst 0, 1) := by decide +kernel
theorem dX6_sides_66 : decode cX6_sides 66 = .ok (.goto 4, 3) := by decide +kernel
theorem dX6_sides_69 : decode cX6_sides 69 = .ok (.iconst 1, 1) := by decide +kernel
theorem dX6_sides_70 : decode cX6_sides 70 = .ok (.iadd, 1) := by decide +kernel
theorem dX6_sides_71 : decode cX6_sides 71 = .ok (.aload_n 0, 1) := by decide +kernel
theorem dX6_sides_72 : decode cX6_sides 72 = .ok (.iload_n 1, 1) := by decide +kernel
theorem dX6_sides_73 : decode cX6_sides 73 = .ok (.iload 4, 2) := by decide +kernel
theorem dX6_sides_75 : decode cX6_sides 75 = .ok (.iload_n 3, 1) := by decide +kernel
theorem dX6_sides_76 : decode cX6_sides 76 = .ok (.iconst 1, 1) := by decide +kernel
theorem dX6_sides_77 : decode cX6_sides 77 = .ok (.isub, 1) := by decide +kernel
theorem dX6_sides_78 : decode cX6_sides 78 = .ok (.invokevirtual 65, 3) := by decide +kernel
theorem dX6_sides_81 : decode cX6_sides 81 = .ok (.ifCond .eq 7, 3) := by decide +kernel
theorem dX6_sides_84 : decode cX6_sides 84 = .ok (.iconst 0, 1) := by decide +kernel
theorem dX6_sides_85 : decode cX6_sides 85 = .ok (.goto 4, 3) := by decide +kernel
theorem dX6_sides_88 : decode cX6_sides 88 = .ok (.iconst 1, 1) := by decide +kernel
theorem dX6_sides_89 : decode cX6_sides 89 = .ok (.iadd, 1) := by decide +kernel
theorem dX6_sides_90 : decode cX6_sides 90 = .ok (.aload_n 0, 1) := by decide +kernel
theorem dX6_sides_91 : decode cX6_sides 91 = .ok (.iload_n 1, 1) := by decide +kernel
theorem dX6_sides_92 : decode cX6_sides 92 = .ok (.iload 4, 2) := by decide +kernel
theorem dX6_sides_94 : decode cX6_sides 94 = .ok (.iload_n 3, 1) := by decide +kernel
theorem dX6_sides_95 : decode cX6_sides 95 = .ok (.iconst 1, 1) := by decide +kernel
theorem dX6_sides_96 : decode cX6_sides 96 = .ok (.iadd, 1) := by decide +kernel
theorem dX6_sides_97 : decode cX6_sides 97 = .ok (.invokevirtual 65, 3) := by decide +kernel
theorem dX6_sides_100 : decode cX6_sides 100 = .ok (.ifCond .eq 7, 3) := by decide +kernel
theorem dX6_sides_103 : decode cX6_sides 103 = .ok (.iconst 0, 1) := by decide +kernel
theorem dX6_sides_104 : decode cX6_sides 104 = .ok (.goto 4, 3) := by decide +kernel
theorem dX6_sides_107 : decode cX6_sides 107 = .ok (.iconst 1, 1) := by decide +kernel
theorem dX6_sides_108 : decode cX6_sides 108 = .ok (.iadd, 1) := by decide +kernel
theorem dX6_sides_109 : decode cX6_sides 109 = .ok (.iadd, 1) := by decide +kernel
theorem dX6_sides_110 : decode cX6_sides 110 = .ok (.istore_n 2, 1) := by decide +kernel
theorem dX6_sides_111 : decode cX6_sides 111 = .ok (.iinc 4 1, 3) := by decide +kernel
theorem dX6_sides_114 : decode cX6_sides 114 = .ok (.goto (-99), 3) := by decide +kernel
theorem dX6_sides_117 : decode cX6_sides 117 = .ok (.iinc 3 1, 3) := by decide +kernel
theorem dX6_sides_120 : decode cX6_sides 120 = .ok (.goto (-115), 3) := by decide +kernel
theorem dX6_sides_123 : decode cX6_sides 123 = .ok (.iload_n 2, 1) := by decide +kernel
theorem dX6_sides_124 : decode cX6_sides 124 = .ok (.ireturn, 1) := by decide +kernel
theorem dX6_bound_0 : decode cX6_bound 0 = .ok (.sipush (-201), 3) := by decide +kernel
theorem dX6_bound_3 : decode cX6_bound 3 = .ok (.istore_n 3, 1) := by decide +kernel
theorem dX6_bound_4 : decode cX6_bound 4 = .ok (.bipush (-60), 2) := by decide +kernel
theorem dX6_bound_6 : decode cX6_bound 6 = .ok (.istore 4, 2) := by decide +kernel
theorem dX6_bound_8 : decode cX6_bound 8 = .ok (.iload 4, 2) := by decide +kernel
theorem dX6_bound_10 : decode cX6_bound 10 = .ok (.bipush 59, 2) := by decide +kernel
theorem dX6_bound_12 : decode cX6_bound 12 = .ok (.if_icmp .gt 114, 3) := by decide +kernel
theorem dX6_bound_15 : decode cX6_bound 15 = .ok (.bipush (-60), 2) := by decide +kernel
theorem dX6_bound_17 : decode cX6_bound 17 = .ok (.istore 5, 2) := by decide +kernel
theorem dX6_bound_19 : decode cX6_bound 19 = .ok (.iload 5, 2) := by decide +kernel
theorem dX6_bound_21 : decode cX6_bound 21 = .ok (.bipush 59, 2) := by decide +kernel
theorem dX6_bound_23 : decode cX6_bound 23 = .ok (.if_icmp .gt 97, 3) := by decide +kernel
theorem dX6_bound_26 : decode cX6_bound 26 = .ok (.aload_n 0, 1) := by decide +kernel
theorem dX6_bound_27 : decode cX6_bound 27 = .ok (.iload_n 1, 1) := by decide +kernel
theorem dX6_bound_28 : decode cX6_bound 28 = .ok (.iload 5, 2) := by decide +kernel
theorem dX6_bound_30 : decode cX6_bound 30 = .ok (.iload 4, 2) := by decide +kernel
theorem dX6_bound_32 : decode cX6_bound 32 = .ok (.invokevirtual 65, 3) := by decide +kernel
theorem dX6_bound_35 : decode cX6_bound 35 = .ok (.ifCond .eq 79, 3) := by decide +kernel
theorem dX6_bound_38 : decode cX6_bound 38 = .ok (.iload_n 2, 1) := by decide +kernel
theorem dX6_bound_39 : decode cX6_bound 39 = .ok (.iconst 5, 1) := by decide +kernel
theorem dX6_bound_40 : decode cX6_bound 40 = .ok (.if_icmp .ne 8, 3) := by decide +kernel
theorem dX6_bound_43 : decode cX6_bound 43 = .ok (.iload 5, 2) := by decide +kernel
theorem dX6_bound_45 : decode cX6_bound 45 = .ok (.goto 31, 3) := by decide +kernel
theorem dX6_bound_48 : decode cX6_bound 48 = .ok (.iload_n 2, 1) := by decide +kernel
theorem dX6_bound_49 : decode cX6_bound 49 = .ok (.bipush 6, 2) := by decide +kernel
theorem dX6_bound_51 : decode cX6_bound 51 = .ok (.if_icmp .ne 10, 3) := by decide +kernel
theorem dX6_bound_54 : decode cX6_bound 54 = .ok (.iload 5, 2) := by decide +kernel
theorem dX6_bound_56 : decode cX6_bound 56 = .ok (.iconst 1, 1) := by decide +kernel
theorem dX6_bound_57 : decode cX6_bound 57 = .ok (.iadd, 1) := by decide +kernel
theorem dX6_bound_58 : decode cX6_bound 58 = .ok (.goto 18, 3) := by decide +kernel
theorem dX6_bound_61 : decode cX6_bound 61 = .ok (.iload_n 2, 1) := by decide +kernel
theorem dX6_bound_62 : decode cX6_bound 62 = .ok (.bipush 7, 2) := by decide +kernel
theorem dX6_bound_64 : decode cX6_bound 64 = .ok (.if_icmp .ne 8, 3) := by decide +kernel
theorem dX6_bound_67 : decode cX6_bound 67 = .ok (.iload 4, 2) := by decide +kernel
theorem dX6_bound_69 : decode cX6_bound 69 = .ok (.goto 7, 3) := by decide +kernel
theorem dX6_bound_72 : decode cX6_bound 72 = .ok (.iload 4, 2) := by decide +kernel
theorem dX6_bound_74 : decode cX6_bound 74 = .ok (.iconst 1, 1) := by decide +kernel
theorem dX6_bound_75 : decode cX6_bound 75 = .ok (.iadd, 1) := by decide +kernel
theorem dX6_bound_76 : decode cX6_bound 76 = .ok (.istore 6, 2) := by decide +kernel
theorem dX6_bound_78 : decode cX6_bound 78 = .ok (.iload_n 3, 1) := by decide +kernel
theorem dX6_bound_79 : decode cX6_bound 79 = .ok (.sipush (-201), 3) := by decide +kernel
theorem dX6_bound_82 : decode cX6_bound 82 = .ok (.if_icmp .eq 25, 3) := by decide +kernel
theorem dX6_bound_85 : decode cX6_bound 85 = .ok (.iload_n 2, 1) := by decide +kernel
theorem dX6_bound_86 : decode cX6_bound 86 = .ok (.iconst 2, 1) := by decide +kernel
theorem dX6_bound_87 : decode cX6_bound 87 = .ok (.irem, 1) := by decide +kernel
theorem dX6_bound_88 : decode cX6_bound 88 = .ok (.iconst 1, 1) := by decide +kernel
theorem dX6_bound_89 : decode cX6_bound 89 = .ok (.if_icmp .ne 12, 3) := by decide +kernel
theorem dX6_bound_92 : decode cX6_bound 92 = .ok (.iload 6, 2) := by decide +kernel
theorem dX6_bound_94 : decode cX6_bound 94 = .ok (.iload_n 3, 1) := by decide +kernel
theorem dX6_bound_95 : decode cX6_bound 95 = .ok (.if_icmp .ge 17, 3) := by decide +kernel
theorem dX6_bound_98 : decode cX6_bound 98 = .ok (.goto 9, 3) := by decide +kernel
theorem dX6_bound_101 : decode cX6_bound 101 = .ok (.iload 6, 2) := by decide +kernel
theorem dX6_bound_103 : decode cX6_bound 103 = .ok (.iload_n 3, 1) := by decide +kernel
theorem dX6_bound_104 : decode cX6_bound 104 = .ok (.if_icmp .le 8, 3) := by decide +kernel
theorem dX6_bound_107 : decode cX6_bound 107 = .ok (.iload 6, 2) := by decide +kernel
theorem dX6_bound_109 : decode cX6_bound 109 = .ok (.goto 4, 3) := by decide +kernel
theorem dX6_bound_112 : decode cX6_bound 112 = .ok (.iload_n 3, 1) := by decide +kernel
theorem dX6_bound_113 : decode cX6_bound 113 = .ok (.istore_n 3, 1) := by decide +kernel
theorem dX6_bound_114 : decode cX6_bound 114 = .ok (.iinc 5 1, 3) := by decide +kernel
theorem dX6_bound_117 : decode cX6_bound 117 = .ok (.goto (-98), 3) := by decide +kernel
theorem dX6_bound_120 : decode cX6_bound 120 = .ok (.iinc 4 1, 3) := by decide +kernel
theorem dX6_bound_123 : decode cX6_bound 123 = .ok (.goto (-115), 3) := by decide +kernel
theorem dX6_bound_126 : decode cX6_bound 126 = .ok (.iload_n 3, 1) := by decide +kernel
theorem dX6_bound_127 : decode cX6_bound 127 = .ok (.ireturn, 1) := by decide +kernel
theorem dX6_of_0 : decode cX6_of 0 = .ok (.iload_n 1, 1) := by decide +kernel
theorem dX6_of_1 : decode cX6_of 1 = .ok (.invokestatic 129, 3) := by decide +kernel
theorem dX6_of_4 : decode cX6_of 4 = .ok (.ifCond .eq 13, 3) := by decide +kernel
theorem dX6_of_7 : decode cX6_of 7 = .ok (.iload_n 2, 1) := by decide +kernel
theorem dX6_of_8 : decode cX6_of 8 = .ok (.iconst 0, 1) := by decide +kernel
theorem dX6_of_9 : decode cX6_of 9 = .ok (.bipush 8, 2) := by decide +kernel
theorem dX6_of_11 : decode cX6_of 11 = .ok (.invokestatic 33, 3) := by decide +kernel
theorem dX6_of_14 : decode cX6_of 14 = .ok (.ifCond .ne 11, 3) := by decide +kernel
theorem dX6_of_17 : decode cX6_of 17 = .ok (.aload_n 0, 1) := by decide +kernel
theorem dX6_of_18 : decode cX6_of 18 = .ok (.sipush (-202), 3) := by decide +kernel
theorem dX6_of_21 : decode cX6_of 21 = .ok (.invokevirtual 105, 3) := by decide +kernel
theorem dX6_of_24 : decode cX6_of 24 = .ok (.ireturn, 1) := by decide +kernel
theorem dX6_of_25 : decode cX6_of 25 = .ok (.iload_n 2, 1) := by decide +kernel
theorem dX6_of_26 : decode cX6_of 26 = .ok (.tableswitch 78 0 4 #[34, 40, 53, 66, 72], 34) := by decide +kernel
theorem dX6_of_60 : decode cX6_of 60 = .ok (.aload_n 0, 1) := by decide +kernel
theorem dX6_of_61 : decode cX6_of 61 = .ok (.iload_n 1, 1) := by decide +kernel
theorem dX6_of_62 : decode cX6_of 62 = .ok (.invokevirtual 101, 3) := by decide +kernel
theorem dX6_of_65 : decode cX6_of 65 = .ok (.ireturn, 1) := by decide +kernel
theorem dX6_of_66 : decode cX6_of 66 = .ok (.aload_n 0, 1) := by decide +kernel
theorem dX6_of_67 : decode cX6_of 67 = .ok (.iload_n 1, 1) := by decide +kernel
theorem dX6_of_68 : decode cX6_of 68 = .ok (.iconst 0, 1) := by decide +kernel
theorem dX6_of_69 : decode cX6_of 69 = .ok (.iconst 0, 1) := by decide +kernel
theorem dX6_of_70 : decode cX6_of 70 = .ok (.iconst 0, 1) := by decide +kernel
theorem dX6_of_71 : decode cX6_of 71 = .ok (.invokevirtual 94, 3) := by decide +kernel
theorem dX6_of_74 : decode cX6_of 74 = .ok (.aload_n 0, 1) := by decide +kernel
theorem dX6_of_75 : decode cX6_of 75 = .ok (.getfield 81, 3) := by decide +kernel
theorem dX6_of_78 : decode cX6_of 78 = .ok (.ireturn, 1) := by decide +kernel
theorem dX6_of_79 : decode cX6_of 79 = .ok (.aload_n 0, 1) := by decide +kernel
theorem dX6_of_80 : decode cX6_of 80 = .ok (.iload_n 1, 1) := by decide +kernel
theorem dX6_of_81 : decode cX6_of 81 = .ok (.iconst 0, 1) := by decide +kernel
theorem dX6_of_82 : decode cX6_of 82 = .ok (.iconst 0, 1) := by decide +kernel
theorem dX6_of_83 : decode cX6_of 83 = .ok (.iconst 0, 1) := by decide +kernel
theorem dX6_of_84 : decode cX6_of 84 = .ok (.invokevirtual 94, 3) := by decide +kernel
theorem dX6_of_87 : decode cX6_of 87 = .ok (.aload_n 0, 1) := by decide +kernel
theorem dX6_of_88 : decode cX6_of 88 = .ok (.getfield 68, 3) := by decide +kernel
theorem dX6_of_91 : decode cX6_of 91 = .ok (.ireturn, 1) := by decide +kernel
theorem dX6_of_92 : decode cX6_of 92 = .ok (.aload_n 0, 1) := by decide +kernel
theorem dX6_of_93 : decode cX6_of 93 = .ok (.iload_n 1, 1) := by decide +kernel
theorem dX6_of_94 : decode cX6_of 94 = .ok (.invokevirtual 182, 3) := by decide +kernel
theorem dX6_of_97 : decode cX6_of 97 = .ok (.ireturn, 1) := by decide +kernel
theorem dX6_of_98 : decode cX6_of 98 = .ok (.aload_n 0, 1) := by decide +kernel
theorem dX6_of_99 : decode cX6_of 99 = .ok (.iload_n 1, 1) := by decide +kernel
theorem dX6_of_100 : decode cX6_of 100 = .ok (.invokevirtual 185, 3) := by decide +kernel
theorem dX6_of_103 : decode cX6_of 103 = .ok (.ireturn, 1) := by decide +kernel
theorem dX6_of_104 : decode cX6_of 104 = .ok (.aload_n 0, 1) := by decide +kernel
theorem dX6_of_105 : decode cX6_of 105 = .ok (.iload_n 1, 1) := by decide +kernel
theorem dX6_of_106 : decode cX6_of 106 = .ok (.iload_n 2, 1) := by decide +kernel
theorem dX6_of_107 : decode cX6_of 107 = .ok (.invokevirtual 188, 3) := by decide +kernel
theorem dX6_of_110 : decode cX6_of 110 = .ok (.ireturn, 1) := by decide +kernel
theorem dX6_span_0 : decode cX6_span 0 = .ok (.iload_n 1, 1) := by decide +kernel
theorem dX6_span_1 : decode cX6_span 1 = .ok (.invokestatic 129, 3) := by decide +kernel
theorem dX6_span_4 : decode cX6_span 4 = .ok (.ifCond .eq 16, 3) := by decide +kernel
theorem dX6_span_7 : decode cX6_span 7 = .ok (.iload_n 2, 1) := by decide +kernel
theorem dX6_span_8 : decode cX6_span 8 = .ok (.ifCond .lt 12, 3) := by decide +kernel
theorem dX6_span_11 : decode cX6_span 11 = .ok (.iload_n 3, 1) := by decide +kernel
theorem dX6_span_12 : decode cX6_span 12 = .ok (.iconst 0, 1) := by decide +kernel
theorem dX6_span_13 : decode cX6_span 13 = .ok (.iconst 3, 1) := by decide +kernel
theorem dX6_span_14 : decode cX6_span 14 = .ok (.invokestatic 33, 3) := by decide +kernel
theorem dX6_span_17 : decode cX6_span 17 = .ok (.ifCond .ne 11, 3) := by decide +kernel
theorem dX6_span_20 : decode cX6_span 20 = .ok (.aload_n 0, 1) := by decide +kernel
theorem dX6_span_21 : decode cX6_span 21 = .ok (.sipush (-202), 3) := by decide +kernel
theorem dX6_span_24 : decode cX6_span 24 = .ok (.invokevirtual 105, 3) := by decide +kernel
theorem dX6_span_27 : decode cX6_span 27 = .ok (.ireturn, 1) := by decide +kernel
theorem dX6_span_28 : decode cX6_span 28 = .ok (.aload_n 0, 1) := by decide +kernel
theorem dX6_span_29 : decode cX6_span 29 = .ok (.iload_n 1, 1) := by decide +kernel
theorem dX6_span_30 : decode cX6_span 30 = .ok (.iload_n 2, 1) := by decide +kernel
theorem dX6_span_31 : decode cX6_span 31 = .ok (.iload_n 3, 1) := by decide +kernel
theorem dX6_span_32 : decode cX6_span 32 = .ok (.iconst 0, 1) := by decide +kernel
theorem dX6_span_33 : decode cX6_span 33 = .ok (.invokevirtual 94, 3) := by decide +kernel
theorem dX6_span_36 : decode cX6_span 36 = .ok (.aload_n 0, 1) := by decide +kernel
theorem dX6_span_37 : decode cX6_span 37 = .ok (.getfield 78, 3) := by decide +kernel
theorem dX6_span_40 : decode cX6_span 40 = .ok (.ireturn, 1) := by decide +kernel
theorem dX6_commonOf_0 : decode cX6_commonOf 0 = .ok (.iconst 0, 1) := by decide +kernel
theorem dX6_commonOf_1 : decode cX6_commonOf 1 = .ok (.istore_n 3, 1) := by decide +kernel
theorem dX6_commonOf_2 : decode cX6_commonOf 2 = .ok (.iconst 0, 1) := by decide +kernel
theorem dX6_commonOf_3 : decode cX6_commonOf 3 = .ok (.istore 4, 2) := by decide +kernel
theorem dX6_commonOf_5 : decode cX6_commonOf 5 = .ok (.iload 4, 2) := by decide +kernel
theorem dX6_commonOf_7 : decode cX6_commonOf 7 = .ok (.sipush 240, 3) := by decide +kernel
theorem dX6_commonOf_10 : decode cX6_commonOf 10 = .ok (.if_icmp .ge 42, 3) := by decide +kernel
theorem dX6_commonOf_13 : decode cX6_commonOf 13 = .ok (.iload_n 3, 1) := by decide +kernel
theorem dX6_commonOf_14 : decode cX6_commonOf 14 = .ok (.aload_n 0, 1) := by decide +kernel
theorem dX6_commonOf_15 : decode cX6_commonOf 15 = .ok (.getfield 7, 3) := by decide +kernel
theorem dX6_commonOf_18 : decode cX6_commonOf 18 = .ok (.sipush 240, 3) := by decide +kernel
theorem dX6_commonOf_21 : decode cX6_commonOf 21 = .ok (.iload_n 1, 1) := by decide +kernel
theorem dX6_commonOf_22 : decode cX6_commonOf 22 = .ok (.imul, 1) := by decide +kernel
theorem dX6_commonOf_23 : decode cX6_commonOf 23 = .ok (.iload 4, 2) := by decide +kernel
theorem dX6_commonOf_25 : decode cX6_commonOf 25 = .ok (.iadd, 1) := by decide +kernel
theorem dX6_commonOf_26 : decode cX6_commonOf 26 = .ok (.laload, 1) := by decide +kernel
theorem dX6_commonOf_27 : decode cX6_commonOf 27 = .ok (.aload_n 0, 1) := by decide +kernel
theorem dX6_commonOf_28 : decode cX6_commonOf 28 = .ok (.getfield 7, 3) := by decide +kernel
theorem dX6_commonOf_31 : decode cX6_commonOf 31 = .ok (.sipush 240, 3) := by decide +kernel
theorem dX6_commonOf_34 : decode cX6_commonOf 34 = .ok (.iload_n 2, 1) := by decide +kernel
theorem dX6_commonOf_35 : decode cX6_commonOf 35 = .ok (.imul, 1) := by decide +kernel
theorem dX6_commonOf_36 : decode cX6_commonOf 36 = .ok (.iload 4, 2) := by decide +kernel
theorem dX6_commonOf_38 : decode cX6_commonOf 38 = .ok (.iadd, 1) := by decide +kernel
theorem dX6_commonOf_39 : decode cX6_commonOf 39 = .ok (.laload, 1) := by decide +kernel
theorem dX6_commonOf_40 : decode cX6_commonOf 40 = .ok (.land, 1) := by decide +kernel
theorem dX6_commonOf_41 : decode cX6_commonOf 41 = .ok (.invokestatic 41, 3) := by decide +kernel
theorem dX6_commonOf_44 : decode cX6_commonOf 44 = .ok (.iadd, 1) := by decide +kernel
theorem dX6_commonOf_45 : decode cX6_commonOf 45 = .ok (.istore_n 3, 1) := by decide +kernel
theorem dX6_commonOf_46 : decode cX6_commonOf 46 = .ok (.iinc 4 1, 3) := by decide +kernel
theorem dX6_commonOf_49 : decode cX6_commonOf 49 = .ok (.goto (-44), 3) := by decide +kernel
theorem dX6_commonOf_52 : decode cX6_commonOf 52 = .ok (.iload_n 3, 1) := by decide +kernel
theorem dX6_commonOf_53 : decode cX6_commonOf 53 = .ok (.ireturn, 1) := by decide +kernel
theorem dX6_beside_0 : decode cX6_beside 0 = .ok (.iconst 0, 1) := by decide +kernel
theorem dX6_beside_1 : decode cX6_beside 1 = .ok (.istore_n 3, 1) := by decide +kernel
theorem dX6_beside_2 : decode cX6_beside 2 = .ok (.bipush (-60), 2) := by decide +kernel
theorem dX6_beside_4 : decode cX6_beside 4 = .ok (.istore 4, 2) := by decide +kernel
theorem dX6_beside_6 : decode cX6_beside 6 = .ok (.iload 4, 2) := by decide +kernel
theorem dX6_beside_8 : decode cX6_beside 8 = .ok (.bipush 59, 2) := by decide +kernel
theorem dX6_beside_10 : decode cX6_beside 10 = .ok (.if_icmp .gt 116, 3) := by decide +kernel
theorem dX6_beside_13 : decode cX6_beside 13 = .ok (.bipush (-60), 2) := by decide +kernel
theorem dX6_beside_15 : decode cX6_beside 15 = .ok (.istore 5, 2) := by decide +kernel
theorem dX6_beside_17 : decode cX6_beside 17 = .ok (.iload 5, 2) := by decide +kernel
theorem dX6_beside_19 : decode cX6_beside 19 = .ok (.bipush 59, 2) := by decide +kernel
theorem dX6_beside_21 : decode cX6_beside 21 = .ok (.if_icmp .gt 99, 3) := by decide +kernel
theorem dX6_beside_24 : decode cX6_beside 24 = .ok (.iload_n 3, 1) := by decide +kernel
theorem dX6_beside_25 : decode cX6_beside 25 = .ok (.ifCond .ne 83, 3) := by decide +kernel
theorem dX6_beside_28 : decode cX6_beside 28 = .ok (.aload_n 0, 1) := by decide +kernel
theorem dX6_beside_29 : decode cX6_beside 29 = .ok (.iload_n 1, 1) := by decide +kernel
theorem dX6_beside_30 : decode cX6_beside 30 = .ok (.iload 5, 2) := by decide +kernel
theorem dX6_beside_32 : decode cX6_beside 32 = .ok (.iload 4, 2) := by decide +kernel
theorem dX6_beside_34 : decode cX6_beside 34 = .ok (.invokevirtual 65, 3) := by decide +kernel
theorem dX6_beside_37 : decode cX6_beside 37 = .ok (.ifCond .eq 75, 3) := by decide +kernel
theorem dX6_beside_40 : decode cX6_beside 40 = .ok (.aload_n 0, 1) := by decide +kernel
theorem dX6_beside_41 : decode cX6_beside 41 = .ok (.iload_n 2, 1) := by decide +kernel
theorem dX6_beside_42 : decode cX6_beside 42 = .ok (.iload 5, 2) := by decide +kernel
theorem dX6_beside_44 : decode cX6_beside 44 = .ok (.iload 4, 2) := by decide +kernel
theorem dX6_beside_46 : decode cX6_beside 46 = .ok (.invokevirtual 65, 3) := by decide +kernel
theorem dX6_beside_49 : decode cX6_beside 49 = .ok (.ifCond .ne 59, 3) := by decide +kernel
theorem dX6_beside_52 : decode cX6_beside 52 = .ok (.aload_n 0, 1) := by decide +kernel
theorem dX6_beside_53 : decode cX6_beside 53 = .ok (.iload_n 2, 1) := by decide +kernel
theorem dX6_beside_54 : decode cX6_beside 54 = .ok (.iload 5, 2) := by decide +kernel
theorem dX6_beside_56 : decode cX6_beside 56 = .ok (.iconst 1, 1) := by decide +kernel
theorem dX6_beside_57 : decode cX6_beside 57 = .ok (.isub, 1) := by decide +kernel
theorem dX6_beside_58 : decode cX6_beside 58 = .ok (.iload 4, 2) := by decide +kernel
theorem dX6_beside_60 : decode cX6_beside 60 = .ok (.invokevirtual 65, 3) := by decide +kernel
theorem dX6_beside_63 : decode cX6_beside 63 = .ok (.ifCond .ne 45, 3) := by decide +kernel
theorem dX6_beside_66 : decode cX6_beside 66 = .ok (.aload_n 0, 1) := by decide +kernel
theorem dX6_beside_67 : decode cX6_beside 67 = .ok (.iload_n 2, 1) := by decide +kernel
theorem dX6_beside_68 : decode cX6_beside 68 = .ok (.iload 5, 2) := by decide +kernel
theorem dX6_beside_70 : decode cX6_beside 70 = .ok (.iconst 1, 1) := by decide +kernel
theorem dX6_beside_71 : decode cX6_beside 71 = .ok (.iadd, 1) := by decide +kernel
theorem dX6_beside_72 : decode cX6_beside 72 = .ok (.iload 4, 2) := by decide +kernel
theorem dX6_beside_74 : decode cX6_beside 74 = .ok (.invokevirtual 65, 3) := by decide +kernel
theorem dX6_beside_77 : decode cX6_beside 77 = .ok (.ifCond .ne 31, 3) := by decide +kernel
theorem dX6_beside_80 : decode cX6_beside 80 = .ok (.aload_n 0, 1) := by decide +kernel
theorem dX6_beside_81 : decode cX6_beside 81 = .ok (.iload_n 2, 1) := by decide +kernel
theorem dX6_beside_82 : decode cX6_beside 82 = .ok (.iload 5, 2) := by decide +kernel
theorem dX6_beside_84 : decode cX6_beside 84 = .ok (.iload 4, 2) := by decide +kernel
theorem dX6_beside_86 : decode cX6_beside 86 = .ok (.iconst 1, 1) := by decide +kernel
theorem dX6_beside_87 : decode cX6_beside 87 = .ok (.isub, 1) := by decide +kernel
theorem dX6_beside_88 : decode cX6_beside 88 = .ok (.invokevirtual 65, 3) := by decide +kernel
theorem dX6_beside_91 : decode cX6_beside 91 = .ok (.ifCond .ne 17, 3) := by decide +kernel
theorem dX6_beside_94 : decode cX6_beside 94 = .ok (.aload_n 0, 1) := by decide +kernel
theorem dX6_beside_95 : decode cX6_beside 95 = .ok (.iload_n 2, 1) := by decide +kernel
theorem dX6_beside_96 : decode cX6_beside 96 = .ok (.iload 5, 2) := by decide +kernel
theorem dX6_beside_98 : decode cX6_beside 98 = .ok (.iload 4, 2) := by decide +kernel
theorem dX6_beside_100 : decode cX6_beside 100 = .ok (.iconst 1, 1) := by decide +kernel
theorem dX6_beside_101 : decode cX6_beside 101 = .ok (.iadd, 1) := by decide +kernel
theorem dX6_beside_102 : decode cX6_beside 102 = .ok (.invokevirtual 65, 3) := by decide +kernel
theorem dX6_beside_105 : decode cX6_beside 105 = .ok (.ifCond .eq 7, 3) := by decide +kernel
theorem dX6_beside_108 : decode cX6_beside 108 = .ok (.iconst 1, 1) := by decide +kernel
theorem dX6_beside_109 : decode cX6_beside 109 = .ok (.goto 4, 3) := by decide +kernel
theorem dX6_beside_112 : decode cX6_beside 112 = .ok (.iconst 0, 1) := by decide +kernel
theorem dX6_beside_113 : decode cX6_beside 113 = .ok (.istore_n 3, 1) := by decide +kernel
theorem dX6_beside_114 : decode cX6_beside 114 = .ok (.iinc 5 1, 3) := by decide +kernel
theorem dX6_beside_117 : decode cX6_beside 117 = .ok (.goto (-100), 3) := by decide +kernel
theorem dX6_beside_120 : decode cX6_beside 120 = .ok (.iinc 4 1, 3) := by decide +kernel
theorem dX6_beside_123 : decode cX6_beside 123 = .ok (.goto (-117), 3) := by decide +kernel
theorem dX6_beside_126 : decode cX6_beside 126 = .ok (.iload_n 3, 1) := by decide +kernel
theorem dX6_beside_127 : decode cX6_beside 127 = .ok (.ireturn, 1) := by decide +kernel
theorem dX6_two_0 : decode cX6_two 0 = .ok (.iload_n 1, 1) := by decide +kernel
theorem dX6_two_1 : decode cX6_two 1 = .ok (.invokestatic 129, 3) := by decide +kernel
theorem dX6_two_4 : decode cX6_two 4 = .ok (.ifCond .eq 19, 3) := by decide +kernel
theorem dX6_two_7 : decode cX6_two 7 = .ok (.iload_n 2, 1) := by decide +kernel
theorem dX6_two_8 : decode cX6_two 8 = .ok (.invokestatic 129, 3) := by decide +kernel
theorem dX6_two_11 : decode cX6_two 11 = .ok (.ifCond .eq 12, 3) := by decide +kernel
theorem dX6_two_14 : decode cX6_two 14 = .ok (.iload_n 3, 1) := by decide +kernel
theorem dX6_two_15 : decode cX6_two 15 = .ok (.iconst 0, 1) := by decide +kernel
theorem dX6_two_16 : decode cX6_two 16 = .ok (.iconst 3, 1) := by decide +kernel
theorem dX6_two_17 : decode cX6_two 17 = .ok (.invokestatic 33, 3) := by decide +kernel
theorem dX6_two_20 : decode cX6_two 20 = .ok (.ifCond .ne 11, 3) := by decide +kernel
theorem dX6_two_23 : decode cX6_two 23 = .ok (.aload_n 0, 1) := by decide +kernel
theorem dX6_two_24 : decode cX6_two 24 = .ok (.sipush (-202), 3) := by decide +kernel
theorem dX6_two_27 : decode cX6_two 27 = .ok (.invokevirtual 105, 3) := by decide +kernel
theorem dX6_two_30 : decode cX6_two 30 = .ok (.ireturn, 1) := by decide +kernel
theorem dX6_two_31 : decode cX6_two 31 = .ok (.aload_n 0, 1) := by decide +kernel
theorem dX6_two_32 : decode cX6_two 32 = .ok (.iload_n 1, 1) := by decide +kernel
theorem dX6_two_33 : decode cX6_two 33 = .ok (.iload_n 2, 1) := by decide +kernel
theorem dX6_two_34 : decode cX6_two 34 = .ok (.invokevirtual 191, 3) := by decide +kernel
theorem dX6_two_37 : decode cX6_two 37 = .ok (.istore 4, 2) := by decide +kernel
theorem dX6_two_39 : decode cX6_two 39 = .ok (.iload 4, 2) := by decide +kernel
theorem dX6_two_41 : decode cX6_two 41 = .ok (.aload_n 0, 1) := by decide +kernel
theorem dX6_two_42 : decode cX6_two 42 = .ok (.iload_n 1, 1) := by decide +kernel
theorem dX6_two_43 : decode cX6_two 43 = .ok (.invokevirtual 101, 3) := by decide +kernel
theorem dX6_two_46 : decode cX6_two 46 = .ok (.if_icmp .ne 7, 3) := by decide +kernel
theorem dX6_two_49 : decode cX6_two 49 = .ok (.iconst 1, 1) := by decide +kernel
theorem dX6_two_50 : decode cX6_two 50 = .ok (.goto 4, 3) := by decide +kernel
theorem dX6_two_53 : decode cX6_two 53 = .ok (.iconst 0, 1) := by decide +kernel
theorem dX6_two_54 : decode cX6_two 54 = .ok (.istore 5, 2) := by decide +kernel
theorem dX6_two_56 : decode cX6_two 56 = .ok (.iload_n 3, 1) := by decide +kernel
theorem dX6_two_57 : decode cX6_two 57 = .ok (.ifCond .ne 26, 3) := by decide +kernel
theorem dX6_two_60 : decode cX6_two 60 = .ok (.iload 5, 2) := by decide +kernel
theorem dX6_two_62 : decode cX6_two 62 = .ok (.ifCond .eq 17, 3) := by decide +kernel
theorem dX6_two_65 : decode cX6_two 65 = .ok (.iload 4, 2) := by decide +kernel
theorem dX6_two_67 : decode cX6_two 67 = .ok (.aload_n 0, 1) := by decide +kernel
theorem dX6_two_68 : decode cX6_two 68 = .ok (.iload_n 2, 1) := by decide +kernel
theorem dX6_two_69 : decode cX6_two 69 = .ok (.invokevirtual 101, 3) := by decide +kernel
theorem dX6_two_72 : decode cX6_two 72 = .ok (.if_icmp .ne 7, 3) := by decide +kernel
theorem dX6_two_75 : decode cX6_two 75 = .ok (.iconst 1, 1) := by decide +kernel
theorem dX6_two_76 : decode cX6_two 76 = .ok (.goto 41, 3) := by decide +kernel
theorem dX6_two_79 : decode cX6_two 79 = .ok (.iconst 0, 1) := by decide +kernel
theorem dX6_two_80 : decode cX6_two 80 = .ok (.goto 37, 3) := by decide +kernel
theorem dX6_two_83 : decode cX6_two 83 = .ok (.iload_n 3, 1) := by decide +kernel
theorem dX6_two_84 : decode cX6_two 84 = .ok (.iconst 1, 1) := by decide +kernel
theorem dX6_two_85 : decode cX6_two 85 = .ok (.if_icmp .ne 8, 3) := by decide +kernel
theorem dX6_two_88 : decode cX6_two 88 = .ok (.iload 5, 2) := by decide +kernel
theorem dX6_two_90 : decode cX6_two 90 = .ok (.goto 27, 3) := by decide +kernel
theorem dX6_two_93 : decode cX6_two 93 = .ok (.iload_n 3, 1) := by decide +kernel
theorem dX6_two_94 : decode cX6_two 94 = .ok (.iconst 2, 1) := by decide +kernel
theorem dX6_two_95 : decode cX6_two 95 = .ok (.if_icmp .ne 16, 3) := by decide +kernel
theorem dX6_two_98 : decode cX6_two 98 = .ok (.iload 4, 2) := by decide +kernel
theorem dX6_two_100 : decode cX6_two 100 = .ok (.ifCond .le 7, 3) := by decide +kernel
theorem dX6_two_103 : decode cX6_two 103 = .ok (.iconst 1, 1) := by decide +kernel
theorem dX6_two_104 : decode cX6_two 104 = .ok (.goto 13, 3) := by decide +kernel
theorem dX6_two_107 : decode cX6_two 107 = .ok (.iconst 0, 1) := by decide +kernel
theorem dX6_two_108 : decode cX6_two 108 = .ok (.goto 9, 3) := by decide +kernel
theorem dX6_two_111 : decode cX6_two 111 = .ok (.aload_n 0, 1) := by decide +kernel
theorem dX6_two_112 : decode cX6_two 112 = .ok (.iload_n 1, 1) := by decide +kernel
theorem dX6_two_113 : decode cX6_two 113 = .ok (.iload_n 2, 1) := by decide +kernel
theorem dX6_two_114 : decode cX6_two 114 = .ok (.invokevirtual 194, 3) := by decide +kernel
theorem dX6_two_117 : decode cX6_two 117 = .ok (.istore 6, 2) := by decide +kernel
theorem dX6_two_119 : decode cX6_two 119 = .ok (.iload 6, 2) := by decide +kernel
theorem dX6_two_121 : decode cX6_two 121 = .ok (.ifCond .eq 7, 3) := by decide +kernel
theorem dX6_two_124 : decode cX6_two 124 = .ok (.iconst 1, 1) := by decide +kernel
theorem dX6_two_125 : decode cX6_two 125 = .ok (.goto 4, 3) := by decide +kernel
theorem dX6_two_128 : decode cX6_two 128 = .ok (.iconst 0, 1) := by decide +kernel
theorem dX6_two_129 : decode cX6_two 129 = .ok (.ireturn, 1) := by decide +kernel
theorem dX6_common_0 : decode cX6_common 0 = .ok (.iload_n 1, 1) := by decide +kernel
theorem dX6_common_1 : decode cX6_common 1 = .ok (.invokestatic 129, 3) := by decide +kernel
theorem dX6_common_4 : decode cX6_common 4 = .ok (.ifCond .eq 19, 3) := by decide +kernel
theorem dX6_common_7 : decode cX6_common 7 = .ok (.iload_n 2, 1) := by decide +kernel
theorem dX6_common_8 : decode cX6_common 8 = .ok (.invokestatic 129, 3) := by decide +kernel
theorem dX6_common_11 : decode cX6_common 11 = .ok (.ifCond .eq 12, 3) := by decide +kernel
theorem dX6_common_14 : decode cX6_common 14 = .ok (.aload_n 0, 1) := by decide +kernel
theorem dX6_common_15 : decode cX6_common 15 = .ok (.iload_n 1, 1) := by decide +kernel
theorem dX6_common_16 : decode cX6_common 16 = .ok (.iload_n 2, 1) := by decide +kernel
theorem dX6_common_17 : decode cX6_common 17 = .ok (.invokevirtual 191, 3) := by decide +kernel
theorem dX6_common_20 : decode cX6_common 20 = .ok (.goto 10, 3) := by decide +kernel
theorem dX6_common_23 : decode cX6_common 23 = .ok (.aload_n 0, 1) := by decide +kernel
theorem dX6_common_24 : decode cX6_common 24 = .ok (.sipush (-202), 3) := by decide +kernel
theorem dX6_common_27 : decode cX6_common 27 = .ok (.invokevirtual 105, 3) := by decide +kernel
theorem dX6_common_30 : decode cX6_common 30 = .ok (.ireturn, 1) := by decide +kernel
theorem dX6_across_0 : decode cX6_across 0 = .ok (.iload_n 1, 1) := by decide +kernel
theorem dX6_across_1 : decode cX6_across 1 = .ok (.invokestatic 129, 3) := by decide +kernel
theorem dX6_across_4 : decode cX6_across 4 = .ok (.ifCond .eq 23, 3) := by decide +kernel
theorem dX6_across_7 : decode cX6_across 7 = .ok (.iload_n 2, 1) := by decide +kernel
theorem dX6_across_8 : decode cX6_across 8 = .ok (.iconst 0, 1) := by decide +kernel
theorem dX6_across_9 : decode cX6_across 9 = .ok (.iconst 1, 1) := by decide +kernel
theorem dX6_across_10 : decode cX6_across 10 = .ok (.invokestatic 33, 3) := by decide +kernel
theorem dX6_across_13 : decode cX6_across 13 = .ok (.ifCond .eq 14, 3) := by decide +kernel
theorem dX6_across_16 : decode cX6_across 16 = .ok (.iload_n 3, 1) := by decide +kernel
theorem dX6_across_17 : decode cX6_across 17 = .ok (.bipush (-60), 2) := by decide +kernel
theorem dX6_across_19 : decode cX6_across 19 = .ok (.bipush 59, 2) := by decide +kernel
theorem dX6_across_21 : decode cX6_across 21 = .ok (.invokestatic 33, 3) := by decide +kernel
theorem dX6_across_24 : decode cX6_across 24 = .ok (.ifCond .ne 11, 3) := by decide +kernel
theorem dX6_across_27 : decode cX6_across 27 = .ok (.aload_n 0, 1) := by decide +kernel
theorem dX6_across_28 : decode cX6_across 28 = .ok (.sipush (-202), 3) := by decide +kernel
theorem dX6_across_31 : decode cX6_across 31 = .ok (.invokevirtual 105, 3) := by decide +kernel
theorem dX6_across_34 : decode cX6_across 34 = .ok (.ireturn, 1) := by decide +kernel
theorem dX6_across_35 : decode cX6_across 35 = .ok (.iconst 0, 1) := by decide +kernel
theorem dX6_across_36 : decode cX6_across 36 = .ok (.istore 4, 2) := by decide +kernel
theorem dX6_across_38 : decode cX6_across 38 = .ok (.bipush (-60), 2) := by decide +kernel
theorem dX6_across_40 : decode cX6_across 40 = .ok (.istore 5, 2) := by decide +kernel
theorem dX6_across_42 : decode cX6_across 42 = .ok (.iload 5, 2) := by decide +kernel
theorem dX6_across_44 : decode cX6_across 44 = .ok (.bipush 59, 2) := by decide +kernel
theorem dX6_across_46 : decode cX6_across 46 = .ok (.if_icmp .gt 48, 3) := by decide +kernel
theorem dX6_across_49 : decode cX6_across 49 = .ok (.iload 4, 2) := by decide +kernel
theorem dX6_across_51 : decode cX6_across 51 = .ok (.iload_n 2, 1) := by decide +kernel
theorem dX6_across_52 : decode cX6_across 52 = .ok (.ifCond .ne 17, 3) := by decide +kernel
theorem dX6_across_55 : decode cX6_across 55 = .ok (.aload_n 0, 1) := by decide +kernel
theorem dX6_across_56 : decode cX6_across 56 = .ok (.iload_n 1, 1) := by decide +kernel
theorem dX6_across_57 : decode cX6_across 57 = .ok (.iload 5, 2) := by decide +kernel
theorem dX6_across_59 : decode cX6_across 59 = .ok (.iload_n 3, 1) := by decide +kernel
theorem dX6_across_60 : decode cX6_across 60 = .ok (.invokevirtual 65, 3) := by decide +kernel
theorem dX6_across_63 : decode cX6_across 63 = .ok (.ifCond .eq 21, 3) := by decide +kernel
theorem dX6_across_66 : decode cX6_across 66 = .ok (.goto 14, 3) := by decide +kernel
theorem dX6_across_69 : decode cX6_across 69 = .ok (.aload_n 0, 1) := by decide +kernel
theorem dX6_across_70 : decode cX6_across 70 = .ok (.iload_n 1, 1) := by decide +kernel
theorem dX6_across_71 : decode cX6_across 71 = .ok (.iload_n 3, 1) := by decide +kernel
theorem dX6_across_72 : decode cX6_across 72 = .ok (.iload 5, 2) := by decide +kernel
theorem dX6_across_74 : decode cX6_across 74 = .ok (.invokevirtual 65, 3) := by decide +kernel
theorem dX6_across_77 : decode cX6_across 77 = .ok (.ifCond .eq 7, 3) := by decide +kernel
theorem dX6_across_80 : decode cX6_across 80 = .ok (.iconst 1, 1) := by decide +kernel
theorem dX6_across_81 : decode cX6_across 81 = .ok (.goto 4, 3) := by decide +kernel
theorem dX6_across_84 : decode cX6_across 84 = .ok (.iconst 0, 1) := by decide +kernel
theorem dX6_across_85 : decode cX6_across 85 = .ok (.iadd, 1) := by decide +kernel
theorem dX6_across_86 : decode cX6_across 86 = .ok (.istore 4, 2) := by decide +kernel
theorem dX6_across_88 : decode cX6_across 88 = .ok (.iinc 5 1, 3) := by decide +kernel
theorem dX6_across_91 : decode cX6_across 91 = .ok (.goto (-49), 3) := by decide +kernel
theorem dX6_across_94 : decode cX6_across 94 = .ok (.iload 4, 2) := by decide +kernel
theorem dX6_across_96 : decode cX6_across 96 = .ok (.ireturn, 1) := by decide +kernel
theorem dX6_apart_0 : decode cX6_apart 0 = .ok (.iload_n 1, 1) := by decide +kernel
theorem dX6_apart_1 : decode cX6_apart 1 = .ok (.invokestatic 129, 3) := by decide +kernel
theorem dX6_apart_4 : decode cX6_apart 4 = .ok (.ifCond .eq 10, 3) := by decide +kernel
theorem dX6_apart_7 : decode cX6_apart 7 = .ok (.iload_n 2, 1) := by decide +kernel
theorem dX6_apart_8 : decode cX6_apart 8 = .ok (.invokestatic 129, 3) := by decide +kernel
theorem dX6_apart_11 : decode cX6_apart 11 = .ok (.ifCond .ne 11, 3) := by decide +kernel
theorem dX6_apart_14 : decode cX6_apart 14 = .ok (.aload_n 0, 1) := by decide +kernel
theorem dX6_apart_15 : decode cX6_apart 15 = .ok (.sipush (-202), 3) := by decide +kernel
theorem dX6_apart_18 : decode cX6_apart 18 = .ok (.invokevirtual 105, 3) := by decide +kernel
theorem dX6_apart_21 : decode cX6_apart 21 = .ok (.ireturn, 1) := by decide +kernel
theorem dX6_apart_22 : decode cX6_apart 22 = .ok (.aload_n 0, 1) := by decide +kernel
theorem dX6_apart_23 : decode cX6_apart 23 = .ok (.iload_n 1, 1) := by decide +kernel
theorem dX6_apart_24 : decode cX6_apart 24 = .ok (.iconst 5, 1) := by decide +kernel
theorem dX6_apart_25 : decode cX6_apart 25 = .ok (.invokevirtual 97, 3) := by decide +kernel
theorem dX6_apart_28 : decode cX6_apart 28 = .ok (.iconst 0, 1) := by decide +kernel
theorem dX6_apart_29 : decode cX6_apart 29 = .ok (.istore_n 3, 1) := by decide +kernel
theorem dX6_apart_30 : decode cX6_apart 30 = .ok (.iload_n 3, 1) := by decide +kernel
theorem dX6_apart_31 : decode cX6_apart 31 = .ok (.bipush 10, 2) := by decide +kernel
theorem dX6_apart_33 : decode cX6_apart 33 = .ok (.if_icmp .ge 25, 3) := by decide +kernel
theorem dX6_apart_36 : decode cX6_apart 36 = .ok (.aload_n 0, 1) := by decide +kernel
theorem dX6_apart_37 : decode cX6_apart 37 = .ok (.iconst 5, 1) := by decide +kernel
theorem dX6_apart_38 : decode cX6_apart 38 = .ok (.iload_n 2, 1) := by decide +kernel
theorem dX6_apart_39 : decode cX6_apart 39 = .ok (.invokevirtual 191, 3) := by decide +kernel
theorem dX6_apart_42 : decode cX6_apart 42 = .ok (.ifCond .le 5, 3) := by decide +kernel
theorem dX6_apart_45 : decode cX6_apart 45 = .ok (.iload_n 3, 1) := by decide +kernel
theorem dX6_apart_46 : decode cX6_apart 46 = .ok (.ireturn, 1) := by decide +kernel
theorem dX6_apart_47 : decode cX6_apart 47 = .ok (.aload_n 0, 1) := by decide +kernel
theorem dX6_apart_48 : decode cX6_apart 48 = .ok (.iconst 1, 1) := by decide +kernel
theorem dX6_apart_49 : decode cX6_apart 49 = .ok (.invokevirtual 125, 3) := by decide +kernel
theorem dX6_apart_52 : decode cX6_apart 52 = .ok (.iinc 3 1, 3) := by decide +kernel
theorem dX6_apart_55 : decode cX6_apart 55 = .ok (.goto (-25), 3) := by decide +kernel
theorem dX6_apart_58 : decode cX6_apart 58 = .ok (.sipush (-201), 3) := by decide +kernel
theorem dX6_apart_61 : decode cX6_apart 61 = .ok (.ireturn, 1) := by decide +kernel
theorem dX6_type_0 : decode cX6_type 0 = .ok (.iload_n 1, 1) := by decide +kernel
theorem dX6_type_1 : decode cX6_type 1 = .ok (.iconst 0, 1) := by decide +kernel
theorem dX6_type_2 : decode cX6_type 2 = .ok (.bipush 127, 2) := by decide +kernel
theorem dX6_type_4 : decode cX6_type 4 = .ok (.invokestatic 33, 3) := by decide +kernel
theorem dX6_type_7 : decode cX6_type 7 = .ok (.ifCond .ne 11, 3) := by decide +kernel
theorem dX6_type_10 : decode cX6_type 10 = .ok (.aload_n 0, 1) := by decide +kernel
theorem dX6_type_11 : decode cX6_type 11 = .ok (.sipush (-202), 3) := by decide +kernel
theorem dX6_type_14 : decode cX6_type 14 = .ok (.invokevirtual 105, 3) := by decide +kernel
theorem dX6_type_17 : decode cX6_type 17 = .ok (.ireturn, 1) := by decide +kernel
theorem dX6_type_18 : decode cX6_type 18 = .ok (.aload_n 0, 1) := by decide +kernel
theorem dX6_type_19 : decode cX6_type 19 = .ok (.getfield 197, 3) := by decide +kernel
theorem dX6_type_22 : decode cX6_type 22 = .ok (.bipush 120, 2) := by decide +kernel
theorem dX6_type_24 : decode cX6_type 24 = .ok (.if_icmp .ne 11, 3) := by decide +kernel
theorem dX6_type_27 : decode cX6_type 27 = .ok (.aload_n 0, 1) := by decide +kernel
theorem dX6_type_28 : decode cX6_type 28 = .ok (.sipush (-204), 3) := by decide +kernel
theorem dX6_type_31 : decode cX6_type 31 = .ok (.invokevirtual 105, 3) := by decide +kernel
theorem dX6_type_34 : decode cX6_type 34 = .ok (.ireturn, 1) := by decide +kernel
theorem dX6_type_35 : decode cX6_type 35 = .ok (.aload_n 0, 1) := by decide +kernel
theorem dX6_type_36 : decode cX6_type 36 = .ok (.getfield 17, 3) := by decide +kernel
theorem dX6_type_39 : decode cX6_type 39 = .ok (.aload_n 0, 1) := by decide +kernel
theorem dX6_type_40 : decode cX6_type 40 = .ok (.getfield 197, 3) := by decide +kernel
theorem dX6_type_43 : decode cX6_type 43 = .ok (.iload_n 1, 1) := by decide +kernel
theorem dX6_type_44 : decode cX6_type 44 = .ok (.iastore, 1) := by decide +kernel
theorem dX6_type_45 : decode cX6_type 45 = .ok (.aload_n 0, 1) := by decide +kernel
theorem dX6_type_46 : decode cX6_type 46 = .ok (.dup, 1) := by decide +kernel
theorem dX6_type_47 : decode cX6_type 47 = .ok (.getfield 197, 3) := by decide +kernel
theorem dX6_type_50 : decode cX6_type 50 = .ok (.iconst 1, 1) := by decide +kernel
theorem dX6_type_51 : decode cX6_type 51 = .ok (.iadd, 1) := by decide +kernel
theorem dX6_type_52 : decode cX6_type 52 = .ok (.putfield 197, 3) := by decide +kernel
theorem dX6_type_55 : decode cX6_type 55 = .ok (.aload_n 0, 1) := by decide +kernel
theorem dX6_type_56 : decode cX6_type 56 = .ok (.getfield 197, 3) := by decide +kernel
theorem dX6_type_59 : decode cX6_type 59 = .ok (.ireturn, 1) := by decide +kernel
theorem dX6_clear_0 : decode cX6_clear 0 = .ok (.aload_n 0, 1) := by decide +kernel
theorem dX6_clear_1 : decode cX6_clear 1 = .ok (.getfield 197, 3) := by decide +kernel
theorem dX6_clear_4 : decode cX6_clear 4 = .ok (.istore_n 1, 1) := by decide +kernel
theorem dX6_clear_5 : decode cX6_clear 5 = .ok (.aload_n 0, 1) := by decide +kernel
theorem dX6_clear_6 : decode cX6_clear 6 = .ok (.iconst 0, 1) := by decide +kernel
theorem dX6_clear_7 : decode cX6_clear 7 = .ok (.putfield 197, 3) := by decide +kernel
theorem dX6_clear_10 : decode cX6_clear 10 = .ok (.iload_n 1, 1) := by decide +kernel
theorem dX6_clear_11 : decode cX6_clear 11 = .ok (.ireturn, 1) := by decide +kernel
theorem dX6_byteAt_0 : decode cX6_byteAt 0 = .ok (.iload_n 1, 1) := by decide +kernel
theorem dX6_byteAt_1 : decode cX6_byteAt 1 = .ok (.aload_n 0, 1) := by decide +kernel
theorem dX6_byteAt_2 : decode cX6_byteAt 2 = .ok (.getfield 197, 3) := by decide +kernel
theorem dX6_byteAt_5 : decode cX6_byteAt 5 = .ok (.if_icmp .ge 12, 3) := by decide +kernel
theorem dX6_byteAt_8 : decode cX6_byteAt 8 = .ok (.aload_n 0, 1) := by decide +kernel
theorem dX6_byteAt_9 : decode cX6_byteAt 9 = .ok (.getfield 17, 3) := by decide +kernel
theorem dX6_byteAt_12 : decode cX6_byteAt 12 = .ok (.iload_n 1, 1) := by decide +kernel
theorem dX6_byteAt_13 : decode cX6_byteAt 13 = .ok (.iaload, 1) := by decide +kernel
theorem dX6_byteAt_14 : decode cX6_byteAt 14 = .ok (.goto 4, 3) := by decide +kernel
theorem dX6_byteAt_17 : decode cX6_byteAt 17 = .ok (.iconst (-1), 1) := by decide +kernel
theorem dX6_byteAt_18 : decode cX6_byteAt 18 = .ok (.ireturn, 1) := by decide +kernel
theorem dX6_skips_0 : decode cX6_skips 0 = .ok (.aload_n 0, 1) := by decide +kernel
theorem dX6_skips_1 : decode cX6_skips 1 = .ok (.aload_n 0, 1) := by decide +kernel
theorem dX6_skips_2 : decode cX6_skips 2 = .ok (.getfield 200, 3) := by decide +kernel
theorem dX6_skips_5 : decode cX6_skips 5 = .ok (.invokevirtual 203, 3) := by decide +kernel
theorem dX6_skips_8 : decode cX6_skips 8 = .ok (.bipush 32, 2) := by decide +kernel
theorem dX6_skips_10 : decode cX6_skips 10 = .ok (.if_icmp .ne 16, 3) := by decide +kernel
theorem dX6_skips_13 : decode cX6_skips 13 = .ok (.aload_n 0, 1) := by decide +kernel
theorem dX6_skips_14 : decode cX6_skips 14 = .ok (.dup, 1) := by decide +kernel
theorem dX6_skips_15 : decode cX6_skips 15 = .ok (.getfield 200, 3) := by decide +kernel
theorem dX6_skips_18 : decode cX6_skips 18 = .ok (.iconst 1, 1) := by decide +kernel
theorem dX6_skips_19 : decode cX6_skips 19 = .ok (.iadd, 1) := by decide +kernel
theorem dX6_skips_20 : decode cX6_skips 20 = .ok (.putfield 200, 3) := by decide +kernel
theorem dX6_skips_23 : decode cX6_skips 23 = .ok (.goto (-23), 3) := by decide +kernel
theorem dX6_skips_26 : decode cX6_skips 26 = .ok (.return_, 1) := by decide +kernel
theorem dX6_isDigit_0 : decode cX6_isDigit 0 = .ok (.iload_n 0, 1) := by decide +kernel
theorem dX6_isDigit_1 : decode cX6_isDigit 1 = .ok (.bipush 48, 2) := by decide +kernel
theorem dX6_isDigit_3 : decode cX6_isDigit 3 = .ok (.bipush 57, 2) := by decide +kernel
theorem dX6_isDigit_5 : decode cX6_isDigit 5 = .ok (.invokestatic 33, 3) := by decide +kernel
theorem dX6_isDigit_8 : decode cX6_isDigit 8 = .ok (.ireturn, 1) := by decide +kernel
theorem dX6_number_0 : decode cX6_number 0 = .ok (.aload_n 0, 1) := by decide +kernel
theorem dX6_number_1 : decode cX6_number 1 = .ok (.invokevirtual 206, 3) := by decide +kernel
theorem dX6_number_4 : decode cX6_number 4 = .ok (.aload_n 0, 1) := by decide +kernel
theorem dX6_number_5 : decode cX6_number 5 = .ok (.aload_n 0, 1) := by decide +kernel
theorem dX6_number_6 : decode cX6_number 6 = .ok (.getfield 200, 3) := by decide +kernel
theorem dX6_number_9 : decode cX6_number 9 = .ok (.invokevirtual 203, 3) := by decide +kernel
theorem dX6_number_12 : decode cX6_number 12 = .ok (.bipush 45, 2) := by decide +kernel
theorem dX6_number_14 : decode cX6_number 14 = .ok (.if_icmp .ne 7, 3) := by decide +kernel
theorem dX6_number_17 : decode cX6_number 17 = .ok (.iconst 1, 1) := by decide +kernel
theorem dX6_number_18 : decode cX6_number 18 = .ok (.goto 4, 3) := by decide +kernel
theorem dX6_number_21 : decode cX6_number 21 = .ok (.iconst 0, 1) := by decide +kernel
theorem dX6_number_22 : decode cX6_number 22 = .ok (.istore 4, 2) := by decide +kernel
theorem dX6_number_24 : decode cX6_number 24 = .ok (.iload 4, 2) := by decide +kernel
theorem dX6_number_26 : decode cX6_number 26 = .ok (.ifCond .eq 12, 3) := by decide +kernel
theorem dX6_number_29 : decode cX6_number 29 = .ok (.aload_n 0, 1) := by decide +kernel
theorem dX6_number_30 : decode cX6_number 30 = .ok (.getfield 200, 3) := by decide +kernel
theorem dX6_number_33 : decode cX6_number 33 = .ok (.iconst 1, 1) := by decide +kernel
theorem dX6_number_34 : decode cX6_number 34 = .ok (.iadd, 1) := by decide +kernel
theorem dX6_number_35 : decode cX6_number 35 = .ok (.goto 7, 3) := by decide +kernel
theorem dX6_number_38 : decode cX6_number 38 = .ok (.aload_n 0, 1) := by decide +kernel
theorem dX6_number_39 : decode cX6_number 39 = .ok (.getfield 200, 3) := by decide +kernel
theorem dX6_number_42 : decode cX6_number 42 = .ok (.istore 5, 2) := by decide +kernel
theorem dX6_number_44 : decode cX6_number 44 = .ok (.iload 5, 2) := by decide +kernel
theorem dX6_number_46 : decode cX6_number 46 = .ok (.istore 6, 2) := by decide +kernel
theorem dX6_number_48 : decode cX6_number 48 = .ok (.iconst 0, 1) := by decide +kernel
theorem dX6_number_49 : decode cX6_number 49 = .ok (.istore 7, 2) := by decide +kernel
theorem dX6_number_51 : decode cX6_number 51 = .ok (.aload_n 0, 1) := by decide +kernel
theorem dX6_number_52 : decode cX6_number 52 = .ok (.iload 6, 2) := by decide +kernel
theorem dX6_number_54 : decode cX6_number 54 = .ok (.invokevirtual 203, 3) := by decide +kernel
theorem dX6_number_57 : decode cX6_number 57 = .ok (.invokestatic 209, 3) := by decide +kernel
theorem dX6_number_60 : decode cX6_number 60 = .ok (.ifCond .eq 36, 3) := by decide +kernel
theorem dX6_number_63 : decode cX6_number 63 = .ok (.iload 6, 2) := by decide +kernel
theorem dX6_number_65 : decode cX6_number 65 = .ok (.iload 5, 2) := by decide +kernel
theorem dX6_number_67 : decode cX6_number 67 = .ok (.isub, 1) := by decide +kernel
theorem dX6_number_68 : decode cX6_number 68 = .ok (.iconst 3, 1) := by decide +kernel
theorem dX6_number_69 : decode cX6_number 69 = .ok (.if_icmp .ge 27, 3) := by decide +kernel
theorem dX6_number_72 : decode cX6_number 72 = .ok (.bipush 10, 2) := by decide +kernel
theorem dX6_number_74 : decode cX6_number 74 = .ok (.iload 7, 2) := by decide +kernel
theorem dX6_number_76 : decode cX6_number 76 = .ok (.imul, 1) := by decide +kernel
theorem dX6_number_77 : decode cX6_number 77 = .ok (.aload_n 0, 1) := by decide +kernel
theorem dX6_number_78 : decode cX6_number 78 = .ok (.getfield 17, 3) := by decide +kernel
theorem dX6_number_81 : decode cX6_number 81 = .ok (.iload 6, 2) := by decide +kernel
theorem dX6_number_83 : decode cX6_number 83 = .ok (.iaload, 1) := by decide +kernel
theorem dX6_number_84 : decode cX6_number 84 = .ok (.iadd, 1) := by decide +kernel
theorem dX6_number_85 : decode cX6_number 85 = .ok (.bipush 48, 2) := by decide +kernel
theorem dX6_number_87 : decode cX6_number 87 = .ok (.isub, 1) := by decide +kernel
theorem dX6_number_88 : decode cX6_number 88 = .ok (.istore 7, 2) := by decide +kernel
theorem dX6_number_90 : decode cX6_number 90 = .ok (.iinc 6 1, 3) := by decide +kernel
theorem dX6_number_93 : decode cX6_number 93 = .ok (.goto (-42), 3) := by decide +kernel
theorem dX6_number_96 : decode cX6_number 96 = .ok (.iload 4, 2) := by decide +kernel
theorem dX6_number_98 : decode cX6_number 98 = .ok (.ifCond .eq 9, 3) := by decide +kernel
theorem dX6_number_101 : decode cX6_number 101 = .ok (.iload 7, 2) := by decide +kernel
theorem dX6_number_103 : decode cX6_number 103 = .ok (.ineg, 1) := by decide +kernel
theorem dX6_number_104 : decode cX6_number 104 = .ok (.goto 5, 3) := by decide +kernel
theorem dX6_number_107 : decode cX6_number 107 = .ok (.iload 7, 2) := by decide +kernel
theorem dX6_number_109 : decode cX6_number 109 = .ok (.istore 7, 2) := by decide +kernel
theorem dX6_number_111 : decode cX6_number 111 = .ok (.iload 6, 2) := by decide +kernel
theorem dX6_number_113 : decode cX6_number 113 = .ok (.iload 5, 2) := by decide +kernel
theorem dX6_number_115 : decode cX6_number 115 = .ok (.if_icmp .le 26, 3) := by decide +kernel
theorem dX6_number_118 : decode cX6_number 118 = .ok (.iload 6, 2) := by decide +kernel
theorem dX6_number_120 : decode cX6_number 120 = .ok (.iload 5, 2) := by decide +kernel
theorem dX6_number_122 : decode cX6_number 122 = .ok (.isub, 1) := by decide +kernel
theorem dX6_number_123 : decode cX6_number 123 = .ok (.iconst 3, 1) := by decide +kernel
theorem dX6_number_124 : decode cX6_number 124 = .ok (.if_icmp .ge 17, 3) := by decide +kernel
theorem dX6_number_127 : decode cX6_number 127 = .ok (.iload 7, 2) := by decide +kernel
theorem dX6_number_129 : decode cX6_number 129 = .ok (.iload_n 2, 1) := by decide +kernel
theorem dX6_number_130 : decode cX6_number 130 = .ok (.iload_n 3, 1) := by decide +kernel
theorem dX6_number_131 : decode cX6_number 131 = .ok (.invokestatic 33, 3) := by decide +kernel
theorem dX6_number_134 : decode cX6_number 134 = .ok (.ifCond .eq 7, 3) := by decide +kernel
theorem dX6_number_137 : decode cX6_number 137 = .ok (.iconst 1, 1) := by decide +kernel
theorem dX6_number_138 : decode cX6_number 138 = .ok (.goto 4, 3) := by decide +kernel
theorem dX6_number_141 : decode cX6_number 141 = .ok (.iconst 0, 1) := by decide +kernel
theorem dX6_number_142 : decode cX6_number 142 = .ok (.istore 8, 2) := by decide +kernel
theorem dX6_number_144 : decode cX6_number 144 = .ok (.aload_n 0, 1) := by decide +kernel
theorem dX6_number_145 : decode cX6_number 145 = .ok (.getfield 26, 3) := by decide +kernel
theorem dX6_number_148 : decode cX6_number 148 = .ok (.iload_n 1, 1) := by decide +kernel
theorem dX6_number_149 : decode cX6_number 149 = .ok (.iload 7, 2) := by decide +kernel
theorem dX6_number_151 : decode cX6_number 151 = .ok (.iastore, 1) := by decide +kernel
theorem dX6_number_152 : decode cX6_number 152 = .ok (.aload_n 0, 1) := by decide +kernel
theorem dX6_number_153 : decode cX6_number 153 = .ok (.iload 8, 2) := by decide +kernel
theorem dX6_number_155 : decode cX6_number 155 = .ok (.ifCond .eq 8, 3) := by decide +kernel
theorem dX6_number_158 : decode cX6_number 158 = .ok (.iload 6, 2) := by decide +kernel
theorem dX6_number_160 : decode cX6_number 160 = .ok (.goto 7, 3) := by decide +kernel
theorem dX6_number_163 : decode cX6_number 163 = .ok (.aload_n 0, 1) := by decide +kernel
theorem dX6_number_164 : decode cX6_number 164 = .ok (.getfield 200, 3) := by decide +kernel
theorem dX6_number_167 : decode cX6_number 167 = .ok (.putfield 200, 3) := by decide +kernel
theorem dX6_number_170 : decode cX6_number 170 = .ok (.iload 8, 2) := by decide +kernel
theorem dX6_number_172 : decode cX6_number 172 = .ok (.ireturn, 1) := by decide +kernel
theorem dX6_isWord_0 : decode cX6_isWord 0 = .ok (.iconst 1, 1) := by decide +kernel
theorem dX6_isWord_1 : decode cX6_isWord 1 = .ok (.istore_n 3, 1) := by decide +kernel
theorem dX6_isWord_2 : decode cX6_isWord 2 = .ok (.iconst 0, 1) := by decide +kernel
theorem dX6_isWord_3 : decode cX6_isWord 3 = .ok (.istore 4, 2) := by decide +kernel
theorem dX6_isWord_5 : decode cX6_isWord 5 = .ok (.iload 4, 2) := by decide +kernel
theorem dX6_isWord_7 : decode cX6_isWord 7 = .ok (.iload_n 2, 1) := by decide +kernel
theorem dX6_isWord_8 : decode cX6_isWord 8 = .ok (.if_icmp .ge 42, 3) := by decide +kernel
theorem dX6_isWord_11 : decode cX6_isWord 11 = .ok (.iload_n 3, 1) := by decide +kernel
theorem dX6_isWord_12 : decode cX6_isWord 12 = .ok (.ifCond .eq 30, 3) := by decide +kernel
theorem dX6_isWord_15 : decode cX6_isWord 15 = .ok (.aload_n 0, 1) := by decide +kernel
theorem dX6_isWord_16 : decode cX6_isWord 16 = .ok (.aload_n 0, 1) := by decide +kernel
theorem dX6_isWord_17 : decode cX6_isWord 17 = .ok (.getfield 200, 3) := by decide +kernel
theorem dX6_isWord_20 : decode cX6_isWord 20 = .ok (.iload 4, 2) := by decide +kernel
theorem dX6_isWord_22 : decode cX6_isWord 22 = .ok (.iadd, 1) := by decide +kernel
theorem dX6_isWord_23 : decode cX6_isWord 23 = .ok (.invokevirtual 203, 3) := by decide +kernel
theorem dX6_isWord_26 : decode cX6_isWord 26 = .ok (.aload_n 0, 1) := by decide +kernel
theorem dX6_isWord_27 : decode cX6_isWord 27 = .ok (.getfield 29, 3) := by decide +kernel
theorem dX6_isWord_30 : decode cX6_isWord 30 = .ok (.iload_n 1, 1) := by decide +kernel
theorem dX6_isWord_31 : decode cX6_isWord 31 = .ok (.iload 4, 2) := by decide +kernel
theorem dX6_isWord_33 : decode cX6_isWord 33 = .ok (.iadd, 1) := by decide +kernel
theorem dX6_isWord_34 : decode cX6_isWord 34 = .ok (.caload, 1) := by decide +kernel
theorem dX6_isWord_35 : decode cX6_isWord 35 = .ok (.if_icmp .ne 7, 3) := by decide +kernel
theorem dX6_isWord_38 : decode cX6_isWord 38 = .ok (.iconst 1, 1) := by decide +kernel
theorem dX6_isWord_39 : decode cX6_isWord 39 = .ok (.goto 4, 3) := by decide +kernel
theorem dX6_isWord_42 : decode cX6_isWord 42 = .ok (.iconst 0, 1) := by decide +kernel
theorem dX6_isWord_43 : decode cX6_isWord 43 = .ok (.istore_n 3, 1) := by decide +kernel
theorem dX6_isWord_44 : decode cX6_isWord 44 = .ok (.iinc 4 1, 3) := by decide +kernel
theorem dX6_isWord_47 : decode cX6_isWord 47 = .ok (.goto (-42), 3) := by decide +kernel
theorem dX6_isWord_50 : decode cX6_isWord 50 = .ok (.iload_n 3, 1) := by decide +kernel
theorem dX6_isWord_51 : decode cX6_isWord 51 = .ok (.ifCond .eq 27, 3) := by decide +kernel
theorem dX6_isWord_54 : decode cX6_isWord 54 = .ok (.aload_n 0, 1) := by decide +kernel
theorem dX6_isWord_55 : decode cX6_isWord 55 = .ok (.aload_n 0, 1) := by decide +kernel
theorem dX6_isWord_56 : decode cX6_isWord 56 = .ok (.getfield 200, 3) := by decide +kernel
theorem dX6_isWord_59 : decode cX6_isWord 59 = .ok (.iload_n 2, 1) := by decide +kernel
theorem dX6_isWord_60 : decode cX6_isWord 60 = .ok (.iadd, 1) := by decide +kernel
theorem dX6_isWord_61 : decode cX6_isWord 61 = .ok (.invokevirtual 203, 3) := by decide +kernel
theorem dX6_isWord_64 : decode cX6_isWord 64 = .ok (.bipush 97, 2) := by decide +kernel
theorem dX6_isWord_66 : decode cX6_isWord 66 = .ok (.bipush 122, 2) := by decide +kernel
theorem dX6_isWord_68 : decode cX6_isWord 68 = .ok (.invokestatic 33, 3) := by decide +kernel
theorem dX6_isWord_71 : decode cX6_isWord 71 = .ok (.ifCond .ne 7, 3) := by decide +kernel
theorem dX6_isWord_74 : decode cX6_isWord 74 = .ok (.iconst 1, 1) := by decide +kernel
theorem dX6_isWord_75 : decode cX6_isWord 75 = .ok (.goto 4, 3) := by decide +kernel
theorem dX6_isWord_78 : decode cX6_isWord 78 = .ok (.iconst 0, 1) := by decide +kernel
theorem dX6_isWord_79 : decode cX6_isWord 79 = .ok (.ireturn, 1) := by decide +kernel
theorem dX6_word_0 : decode cX6_word 0 = .ok (.aload_n 0, 1) := by decide +kernel
theorem dX6_word_1 : decode cX6_word 1 = .ok (.invokevirtual 206, 3) := by decide +kernel
theorem dX6_word_4 : decode cX6_word 4 = .ok (.iconst 0, 1) := by decide +kernel
theorem dX6_word_5 : decode cX6_word 5 = .ok (.istore_n 1, 1) := by decide +kernel
theorem dX6_word_6 : decode cX6_word 6 = .ok (.iconst 0, 1) := by decide +kernel
theorem dX6_word_7 : decode cX6_word 7 = .ok (.istore_n 2, 1) := by decide +kernel
theorem dX6_word_8 : decode cX6_word 8 = .ok (.iload_n 2, 1) := by decide +kernel
theorem dX6_word_9 : decode cX6_word 9 = .ok (.aload_n 0, 1) := by decide +kernel
theorem dX6_word_10 : decode cX6_word 10 = .ok (.getfield 29, 3) := by decide +kernel
theorem dX6_word_13 : decode cX6_word 13 = .ok (.arraylength, 1) := by decide +kernel
theorem dX6_word_14 : decode cX6_word 14 = .ok (.if_icmp .ge 57, 3) := by decide +kernel
theorem dX6_word_17 : decode cX6_word 17 = .ok (.iconst 0, 1) := by decide +kernel
theorem dX6_word_18 : decode cX6_word 18 = .ok (.istore_n 3, 1) := by decide +kernel
theorem dX6_word_19 : decode cX6_word 19 = .ok (.aload_n 0, 1) := by decide +kernel
theorem dX6_word_20 : decode cX6_word 20 = .ok (.getfield 29, 3) := by decide +kernel
theorem dX6_word_23 : decode cX6_word 23 = .ok (.iload_n 2, 1) := by decide +kernel
theorem dX6_word_24 : decode cX6_word 24 = .ok (.iload_n 3, 1) := by decide +kernel
theorem dX6_word_25 : decode cX6_word 25 = .ok (.iadd, 1) := by decide +kernel
theorem dX6_word_26 : decode cX6_word 26 = .ok (.caload, 1) := by decide +kernel
theorem dX6_word_27 : decode cX6_word 27 = .ok (.bipush 32, 2) := by decide +kernel
theorem dX6_word_29 : decode cX6_word 29 = .ok (.if_icmp .eq 9, 3) := by decide +kernel
theorem dX6_word_32 : decode cX6_word 32 = .ok (.iinc 3 1, 3) := by decide +kernel
theorem dX6_word_35 : decode cX6_word 35 = .ok (.goto (-16), 3) := by decide +kernel
theorem dX6_word_38 : decode cX6_word 38 = .ok (.aload_n 0, 1) := by decide +kernel
theorem dX6_word_39 : decode cX6_word 39 = .ok (.iload_n 2, 1) := by decide +kernel
theorem dX6_word_40 : decode cX6_word 40 = .ok (.iload_n 3, 1) := by decide +kernel
theorem dX6_word_41 : decode cX6_word 41 = .ok (.invokevirtual 212, 3) := by decide +kernel
theorem dX6_word_44 : decode cX6_word 44 = .ok (.ifCond .eq 15, 3) := by decide +kernel
theorem dX6_word_47 : decode cX6_word 47 = .ok (.aload_n 0, 1) := by decide +kernel
theorem dX6_word_48 : decode cX6_word 48 = .ok (.dup, 1) := by decide +kernel
theorem dX6_word_49 : decode cX6_word 49 = .ok (.getfield 200, 3) := by decide +kernel
theorem dX6_word_52 : decode cX6_word 52 = .ok (.iload_n 3, 1) := by decide +kernel
theorem dX6_word_53 : decode cX6_word 53 = .ok (.iadd, 1) := by decide +kernel
theorem dX6_word_54 : decode cX6_word 54 = .ok (.putfield 200, 3) := by decide +kernel
theorem dX6_word_57 : decode cX6_word 57 = .ok (.iload_n 1, 1) := by decide +kernel
theorem dX6_word_58 : decode cX6_word 58 = .ok (.ireturn, 1) := by decide +kernel
theorem dX6_word_59 : decode cX6_word 59 = .ok (.iinc 1 1, 3) := by decide +kernel
theorem dX6_word_62 : decode cX6_word 62 = .ok (.iload_n 2, 1) := by decide +kernel
theorem dX6_word_63 : decode cX6_word 63 = .ok (.iload_n 3, 1) := by decide +kernel
theorem dX6_word_64 : decode cX6_word 64 = .ok (.iconst 1, 1) := by decide +kernel
theorem dX6_word_65 : decode cX6_word 65 = .ok (.iadd, 1) := by decide +kernel
theorem dX6_word_66 : decode cX6_word 66 = .ok (.iadd, 1) := by decide +kernel
theorem dX6_word_67 : decode cX6_word 67 = .ok (.istore_n 2, 1) := by decide +kernel
theorem dX6_word_68 : decode cX6_word 68 = .ok (.goto (-60), 3) := by decide +kernel
theorem dX6_word_71 : decode cX6_word 71 = .ok (.iconst (-1), 1) := by decide +kernel
theorem dX6_word_72 : decode cX6_word 72 = .ok (.ireturn, 1) := by decide +kernel
theorem dX6_sentence_0 : decode cX6_sentence 0 = .ok (.aload_n 0, 1) := by decide +kernel
theorem dX6_sentence_1 : decode cX6_sentence 1 = .ok (.iconst 0, 1) := by decide +kernel
theorem dX6_sentence_2 : decode cX6_sentence 2 = .ok (.iconst 0, 1) := by decide +kernel
theorem dX6_sentence_3 : decode cX6_sentence 3 = .ok (.iconst 4, 1) := by decide +kernel
theorem dX6_sentence_4 : decode cX6_sentence 4 = .ok (.invokevirtual 215, 3) := by decide +kernel
theorem dX6_sentence_7 : decode cX6_sentence 7 = .ok (.ifCond .ne 5, 3) := by decide +kernel
theorem dX6_sentence_10 : decode cX6_sentence 10 = .ok (.iconst (-1), 1) := by decide +kernel
theorem dX6_sentence_11 : decode cX6_sentence 11 = .ok (.ireturn, 1) := by decide +kernel
theorem dX6_sentence_12 : decode cX6_sentence 12 = .ok (.aload_n 0, 1) := by decide +kernel
theorem dX6_sentence_13 : decode cX6_sentence 13 = .ok (.aload_n 0, 1) := by decide +kernel
theorem dX6_sentence_14 : decode cX6_sentence 14 = .ok (.getfield 26, 3) := by decide +kernel
theorem dX6_sentence_17 : decode cX6_sentence 17 = .ok (.iconst 0, 1) := by decide +kernel
theorem dX6_sentence_18 : decode cX6_sentence 18 = .ok (.iaload, 1) := by decide +kernel
theorem dX6_sentence_19 : decode cX6_sentence 19 = .ok (.putfield 218, 3) := by decide +kernel
theorem dX6_sentence_22 : decode cX6_sentence 22 = .ok (.aload_n 0, 1) := by decide +kernel
theorem dX6_sentence_23 : decode cX6_sentence 23 = .ok (.invokevirtual 221, 3) := by decide +kernel
theorem dX6_sentence_26 : decode cX6_sentence 26 = .ok (.istore_n 1, 1) := by decide +kernel
theorem dX6_sentence_27 : decode cX6_sentence 27 = .ok (.iload_n 1, 1) := by decide +kernel
theorem dX6_sentence_28 : decode cX6_sentence 28 = .ok (.ifCond .lt 7, 3) := by decide +kernel
theorem dX6_sentence_31 : decode cX6_sentence 31 = .ok (.iconst 1, 1) := by decide +kernel
theorem dX6_sentence_32 : decode cX6_sentence 32 = .ok (.goto 4, 3) := by decide +kernel
theorem dX6_sentence_35 : decode cX6_sentence 35 = .ok (.iconst 0, 1) := by decide +kernel
theorem dX6_sentence_36 : decode cX6_sentence 36 = .ok (.istore_n 2, 1) := by decide +kernel
theorem dX6_sentence_37 : decode cX6_sentence 37 = .ok (.iload_n 1, 1) := by decide +kernel
theorem dX6_sentence_38 : decode cX6_sentence 38 = .ok (.ifCond .eq 14, 3) := by decide +kernel
theorem dX6_sentence_41 : decode cX6_sentence 41 = .ok (.iload_n 1, 1) := by decide +kernel
theorem dX6_sentence_42 : decode cX6_sentence 42 = .ok (.iconst 3, 1) := by decide +kernel
theorem dX6_sentence_43 : decode cX6_sentence 43 = .ok (.if_icmp .lt 20, 3) := by decide +kernel
theorem dX6_sentence_46 : decode cX6_sentence 46 = .ok (.iload_n 1, 1) := by decide +kernel
theorem dX6_sentence_47 : decode cX6_sentence 47 = .ok (.bipush 7, 2) := by decide +kernel
theorem dX6_sentence_49 : decode cX6_sentence 49 = .ok (.if_icmp .ge 14, 3) := by decide +kernel
theorem dX6_sentence_52 : decode cX6_sentence 52 = .ok (.aload_n 0, 1) := by decide +kernel
theorem dX6_sentence_53 : decode cX6_sentence 53 = .ok (.iconst 0, 1) := by decide +kernel
theorem dX6_sentence_54 : decode cX6_sentence 54 = .ok (.iconst 0, 1) := by decide +kernel
theorem dX6_sentence_55 : decode cX6_sentence 55 = .ok (.iconst 4, 1) := by decide +kernel
theorem dX6_sentence_56 : decode cX6_sentence 56 = .ok (.invokevirtual 215, 3) := by decide +kernel
theorem dX6_sentence_59 : decode cX6_sentence 59 = .ok (.istore_n 2, 1) := by decide +kernel
theorem dX6_sentence_60 : decode cX6_sentence 60 = .ok (.goto 123, 3) := by decide +kernel
theorem dX6_sentence_63 : decode cX6_sentence 63 = .ok (.iload_n 1, 1) := by decide +kernel
theorem dX6_sentence_64 : decode cX6_sentence 64 = .ok (.iconst 1, 1) := by decide +kernel
theorem dX6_sentence_65 : decode cX6_sentence 65 = .ok (.if_icmp .ne 58, 3) := by decide +kernel
theorem dX6_sentence_68 : decode cX6_sentence 68 = .ok (.aload_n 0, 1) := by decide +kernel
theorem dX6_sentence_69 : decode cX6_sentence 69 = .ok (.iconst 0, 1) := by decide +kernel
theorem dX6_sentence_70 : decode cX6_sentence 70 = .ok (.bipush (-60), 2) := by decide +kernel
theorem dX6_sentence_72 : decode cX6_sentence 72 = .ok (.bipush 59, 2) := by decide +kernel
theorem dX6_sentence_74 : decode cX6_sentence 74 = .ok (.invokevirtual 215, 3) := by decide +kernel
theorem dX6_sentence_77 : decode cX6_sentence 77 = .ok (.ifCond .eq 41, 3) := by decide +kernel
theorem dX6_sentence_80 : decode cX6_sentence 80 = .ok (.aload_n 0, 1) := by decide +kernel
theorem dX6_sentence_81 : decode cX6_sentence 81 = .ok (.iconst 1, 1) := by decide +kernel
theorem dX6_sentence_82 : decode cX6_sentence 82 = .ok (.bipush (-60), 2) := by decide +kernel
theorem dX6_sentence_84 : decode cX6_sentence 84 = .ok (.bipush 59, 2) := by decide +kernel
theorem dX6_sentence_86 : decode cX6_sentence 86 = .ok (.invokevirtual 215, 3) := by decide +kernel
theorem dX6_sentence_89 : decode cX6_sentence 89 = .ok (.ifCond .eq 29, 3) := by decide +kernel
theorem dX6_sentence_92 : decode cX6_sentence 92 = .ok (.aload_n 0, 1) := by decide +kernel
theorem dX6_sentence_93 : decode cX6_sentence 93 = .ok (.iconst 2, 1) := by decide +kernel
theorem dX6_sentence_94 : decode cX6_sentence 94 = .ok (.iconst 1, 1) := by decide +kernel
theorem dX6_sentence_95 : decode cX6_sentence 95 = .ok (.bipush 99, 2) := by decide +kernel
theorem dX6_sentence_97 : decode cX6_sentence 97 = .ok (.invokevirtual 215, 3) := by decide +kernel
theorem dX6_sentence_100 : decode cX6_sentence 100 = .ok (.ifCond .eq 18, 3) := by decide +kernel
theorem dX6_sentence_103 : decode cX6_sentence 103 = .ok (.aload_n 0, 1) := by decide +kernel
theorem dX6_sentence_104 : decode cX6_sentence 104 = .ok (.iconst 3, 1) := by decide +kernel
theorem dX6_sentence_105 : decode cX6_sentence 105 = .ok (.iconst 1, 1) := by decide +kernel
theorem dX6_sentence_106 : decode cX6_sentence 106 = .ok (.bipush 99, 2) := by decide +kernel
theorem dX6_sentence_108 : decode cX6_sentence 108 = .ok (.invokevirtual 215, 3) := by decide +kernel
theorem dX6_sentence_111 : decode cX6_sentence 111 = .ok (.ifCond .eq 7, 3) := by decide +kernel
theorem dX6_sentence_114 : decode cX6_sentence 114 = .ok (.iconst 1, 1) := by decide +kernel
theorem dX6_sentence_115 : decode cX6_sentence 115 = .ok (.goto 4, 3) := by decide +kernel
theorem dX6_sentence_118 : decode cX6_sentence 118 = .ok (.iconst 0, 1) := by decide +kernel
theorem dX6_sentence_119 : decode cX6_sentence 119 = .ok (.istore_n 2, 1) := by decide +kernel
theorem dX6_sentence_120 : decode cX6_sentence 120 = .ok (.goto 63, 3) := by decide +kernel
theorem dX6_sentence_123 : decode cX6_sentence 123 = .ok (.iload_n 1, 1) := by decide +kernel
theorem dX6_sentence_124 : decode cX6_sentence 124 = .ok (.bipush 7, 2) := by decide +kernel
theorem dX6_sentence_126 : decode cX6_sentence 126 = .ok (.if_icmp .ne 36, 3) := by decide +kernel
theorem dX6_sentence_129 : decode cX6_sentence 129 = .ok (.aload_n 0, 1) := by decide +kernel
theorem dX6_sentence_130 : decode cX6_sentence 130 = .ok (.iconst 0, 1) := by decide +kernel
theorem dX6_sentence_131 : decode cX6_sentence 131 = .ok (.bipush (-99), 2) := by decide +kernel
theorem dX6_sentence_133 : decode cX6_sentence 133 = .ok (.bipush 99, 2) := by decide +kernel
theorem dX6_sentence_135 : decode cX6_sentence 135 = .ok (.invokevirtual 215, 3) := by decide +kernel
theorem dX6_sentence_138 : decode cX6_sentence 138 = .ok (.ifCond .eq 19, 3) := by decide +kernel
theorem dX6_sentence_141 : decode cX6_sentence 141 = .ok (.aload_n 0, 1) := by decide +kernel
theorem dX6_sentence_142 : decode cX6_sentence 142 = .ok (.iconst 1, 1) := by decide +kernel
theorem dX6_sentence_143 : decode cX6_sentence 143 = .ok (.bipush (-99), 2) := by decide +kernel
theorem dX6_sentence_145 : decode cX6_sentence 145 = .ok (.bipush 99, 2) := by decide +kernel
theorem dX6_sentence_147 : decode cX6_sentence 147 = .ok (.invokevirtual 215, 3) := by decide +kernel
theorem dX6_sentence_150 : decode cX6_sentence 150 = .ok (.ifCond .eq 7, 3) := by decide +kernel
theorem dX6_sentence_153 : decode cX6_sentence 153 = .ok (.iconst 1, 1) := by decide +kernel
theorem dX6_sentence_154 : decode cX6_sentence 154 = .ok (.goto 4, 3) := by decide +kernel
theorem dX6_sentence_157 : decode cX6_sentence 157 = .ok (.iconst 0, 1) := by decide +kernel
theorem dX6_sentence_158 : decode cX6_sentence 158 = .ok (.istore_n 2, 1) := by decide +kernel
theorem dX6_sentence_159 : decode cX6_sentence 159 = .ok (.goto 24, 3) := by decide +kernel
theorem dX6_sentence_162 : decode cX6_sentence 162 = .ok (.iload_n 1, 1) := by decide +kernel
theorem dX6_sentence_163 : decode cX6_sentence 163 = .ok (.bipush 8, 2) := by decide +kernel
theorem dX6_sentence_165 : decode cX6_sentence 165 = .ok (.if_icmp .eq 9, 3) := by decide +kernel
theorem dX6_sentence_168 : decode cX6_sentence 168 = .ok (.iload_n 1, 1) := by decide +kernel
theorem dX6_sentence_169 : decode cX6_sentence 169 = .ok (.bipush 9, 2) := by decide +kernel
theorem dX6_sentence_171 : decode cX6_sentence 171 = .ok (.if_icmp .ne 12, 3) := by decide +kernel
theorem dX6_sentence_174 : decode cX6_sentence 174 = .ok (.aload_n 0, 1) := by decide +kernel
theorem dX6_sentence_175 : decode cX6_sentence 175 = .ok (.iconst 0, 1) := by decide +kernel
theorem dX6_sentence_176 : decode cX6_sentence 176 = .ok (.iconst 1, 1) := by decide +kernel
theorem dX6_sentence_177 : decode cX6_sentence 177 = .ok (.bipush 9, 2) := by decide +kernel
theorem dX6_sentence_179 : decode cX6_sentence 179 = .ok (.invokevirtual 215, 3) := by decide +kernel
theorem dX6_sentence_182 : decode cX6_sentence 182 = .ok (.istore_n 2, 1) := by decide +kernel
theorem dX6_sentence_183 : decode cX6_sentence 183 = .ok (.iload_n 2, 1) := by decide +kernel
theorem dX6_sentence_184 : decode cX6_sentence 184 = .ok (.ifCond .ne 5, 3) := by decide +kernel
theorem dX6_sentence_187 : decode cX6_sentence 187 = .ok (.iconst (-1), 1) := by decide +kernel
theorem dX6_sentence_188 : decode cX6_sentence 188 = .ok (.ireturn, 1) := by decide +kernel
theorem dX6_sentence_189 : decode cX6_sentence 189 = .ok (.aload_n 0, 1) := by decide +kernel
theorem dX6_sentence_190 : decode cX6_sentence 190 = .ok (.invokevirtual 206, 3) := by decide +kernel
theorem dX6_sentence_193 : decode cX6_sentence 193 = .ok (.aload_n 0, 1) := by decide +kernel
theorem dX6_sentence_194 : decode cX6_sentence 194 = .ok (.aload_n 0, 1) := by decide +kernel
theorem dX6_sentence_195 : decode cX6_sentence 195 = .ok (.getfield 200, 3) := by decide +kernel
theorem dX6_sentence_198 : decode cX6_sentence 198 = .ok (.invokevirtual 203, 3) := by decide +kernel
theorem dX6_sentence_201 : decode cX6_sentence 201 = .ok (.bipush 59, 2) := by decide +kernel
theorem dX6_sentence_203 : decode cX6_sentence 203 = .ok (.if_icmp .eq 5, 3) := by decide +kernel
theorem dX6_sentence_206 : decode cX6_sentence 206 = .ok (.iconst (-1), 1) := by decide +kernel
theorem dX6_sentence_207 : decode cX6_sentence 207 = .ok (.ireturn, 1) := by decide +kernel
theorem dX6_sentence_208 : decode cX6_sentence 208 = .ok (.aload_n 0, 1) := by decide +kernel
theorem dX6_sentence_209 : decode cX6_sentence 209 = .ok (.dup, 1) := by decide +kernel
theorem dX6_sentence_210 : decode cX6_sentence 210 = .ok (.getfield 200, 3) := by decide +kernel
theorem dX6_sentence_213 : decode cX6_sentence 213 = .ok (.iconst 1, 1) := by decide +kernel
theorem dX6_sentence_214 : decode cX6_sentence 214 = .ok (.iadd, 1) := by decide +kernel
theorem dX6_sentence_215 : decode cX6_sentence 215 = .ok (.putfield 200, 3) := by decide +kernel
theorem dX6_sentence_218 : decode cX6_sentence 218 = .ok (.iload_n 1, 1) := by decide +kernel
theorem dX6_sentence_219 : decode cX6_sentence 219 = .ok (.ireturn, 1) := by decide +kernel
theorem dX6_done_0 : decode cX6_done 0 = .ok (.aload_n 0, 1) := by decide +kernel
theorem dX6_done_1 : decode cX6_done 1 = .ok (.getfield 26, 3) := by decide +kernel
theorem dX6_done_4 : decode cX6_done 4 = .ok (.iconst 0, 1) := by decide +kernel
theorem dX6_done_5 : decode cX6_done 5 = .ok (.iaload, 1) := by decide +kernel
theorem dX6_done_6 : decode cX6_done 6 = .ok (.istore_n 2, 1) := by decide +kernel
theorem dX6_done_7 : decode cX6_done 7 = .ok (.iload_n 1, 1) := by decide +kernel
theorem dX6_done_8 : decode cX6_done 8 = .ok (.ifCond .ne 15, 3) := by decide +kernel
theorem dX6_done_11 : decode cX6_done 11 = .ok (.aload_n 0, 1) := by decide +kernel
theorem dX6_done_12 : decode cX6_done 12 = .ok (.iload_n 2, 1) := by decide +kernel
theorem dX6_done_13 : decode cX6_done 13 = .ok (.iconst 0, 1) := by decide +kernel
theorem dX6_done_14 : decode cX6_done 14 = .ok (.iconst 0, 1) := by decide +kernel
theorem dX6_done_15 : decode cX6_done 15 = .ok (.aload_n 0, 1) := by decide +kernel
theorem dX6_done_16 : decode cX6_done 16 = .ok (.getfield 218, 3) := by decide +kernel
theorem dX6_done_19 : decode cX6_done 19 = .ok (.invokevirtual 143, 3) := by decide +kernel
theorem dX6_done_22 : decode cX6_done 22 = .ok (.ireturn, 1) := by decide +kernel
theorem dX6_done_23 : decode cX6_done 23 = .ok (.iload_n 1, 1) := by decide +kernel
theorem dX6_done_24 : decode cX6_done 24 = .ok (.iconst 1, 1) := by decide +kernel
theorem dX6_done_25 : decode cX6_done 25 = .ok (.if_icmp .ne 31, 3) := by decide +kernel
theorem dX6_done_28 : decode cX6_done 28 = .ok (.aload_n 0, 1) := by decide +kernel
theorem dX6_done_29 : decode cX6_done 29 = .ok (.iload_n 2, 1) := by decide +kernel
theorem dX6_done_30 : decode cX6_done 30 = .ok (.aload_n 0, 1) := by decide +kernel
theorem dX6_done_31 : decode cX6_done 31 = .ok (.getfield 26, 3) := by decide +kernel
theorem dX6_done_34 : decode cX6_done 34 = .ok (.iconst 1, 1) := by decide +kernel
theorem dX6_done_35 : decode cX6_done 35 = .ok (.iaload, 1) := by decide +kernel
theorem dX6_done_36 : decode cX6_done 36 = .ok (.aload_n 0, 1) := by decide +kernel
theorem dX6_done_37 : decode cX6_done 37 = .ok (.getfield 26, 3) := by decide +kernel
theorem dX6_done_40 : decode cX6_done 40 = .ok (.iconst 2, 1) := by decide +kernel
theorem dX6_done_41 : decode cX6_done 41 = .ok (.iaload, 1) := by decide +kernel
theorem dX6_done_42 : decode cX6_done 42 = .ok (.aload_n 0, 1) := by decide +kernel
theorem dX6_done_43 : decode cX6_done 43 = .ok (.getfield 26, 3) := by decide +kernel
theorem dX6_done_46 : decode cX6_done 46 = .ok (.iconst 3, 1) := by decide +kernel
theorem dX6_done_47 : decode cX6_done 47 = .ok (.iaload, 1) := by decide +kernel
theorem dX6_done_48 : decode cX6_done 48 = .ok (.aload_n 0, 1) := by decide +kernel
theorem dX6_done_49 : decode cX6_done 49 = .ok (.getfield 218, 3) := by decide +kernel
theorem dX6_done_52 : decode cX6_done 52 = .ok (.invokevirtual 133, 3) := by decide +kernel
theorem dX6_done_55 : decode cX6_done 55 = .ok (.ireturn, 1) := by decide +kernel
theorem dX6_done_56 : decode cX6_done 56 = .ok (.iload_n 1, 1) := by decide +kernel
theorem dX6_done_57 : decode cX6_done 57 = .ok (.iconst 2, 1) := by decide +kernel
theorem dX6_done_58 : decode cX6_done 58 = .ok (.if_icmp .ne 13, 3) := by decide +kernel
theorem dX6_done_61 : decode cX6_done 61 = .ok (.aload_n 0, 1) := by decide +kernel
theorem dX6_done_62 : decode cX6_done 62 = .ok (.aload_n 0, 1) := by decide +kernel
theorem dX6_done_63 : decode cX6_done 63 = .ok (.getfield 218, 3) := by decide +kernel
theorem dX6_done_66 : decode cX6_done 66 = .ok (.invokevirtual 108, 3) := by decide +kernel
theorem dX6_done_69 : decode cX6_done 69 = .ok (.iconst 0, 1) := by decide +kernel
theorem dX6_done_70 : decode cX6_done 70 = .ok (.ireturn, 1) := by decide +kernel
theorem dX6_done_71 : decode cX6_done 71 = .ok (.iload_n 1, 1) := by decide +kernel
theorem dX6_done_72 : decode cX6_done 72 = .ok (.bipush 7, 2) := by decide +kernel
theorem dX6_done_74 : decode cX6_done 74 = .ok (.if_icmp .ge 20, 3) := by decide +kernel
theorem dX6_done_77 : decode cX6_done 77 = .ok (.aload_n 0, 1) := by decide +kernel
theorem dX6_done_78 : decode cX6_done 78 = .ok (.iload_n 1, 1) := by decide +kernel
theorem dX6_done_79 : decode cX6_done 79 = .ok (.iconst 3, 1) := by decide +kernel
theorem dX6_done_80 : decode cX6_done 80 = .ok (.isub, 1) := by decide +kernel
theorem dX6_done_81 : decode cX6_done 81 = .ok (.aload_n 0, 1) := by decide +kernel
theorem dX6_done_82 : decode cX6_done 82 = .ok (.getfield 218, 3) := by decide +kernel
theorem dX6_done_85 : decode cX6_done 85 = .ok (.iload_n 2, 1) := by decide +kernel
theorem dX6_done_86 : decode cX6_done 86 = .ok (.aload_n 0, 1) := by decide +kernel
theorem dX6_done_87 : decode cX6_done 87 = .ok (.getfield 218, 3) := by decide +kernel
theorem dX6_done_90 : decode cX6_done 90 = .ok (.invokevirtual 139, 3) := by decide +kernel
theorem dX6_done_93 : decode cX6_done 93 = .ok (.ireturn, 1) := by decide +kernel
theorem dX6_done_94 : decode cX6_done 94 = .ok (.iload_n 1, 1) := by decide +kernel
theorem dX6_done_95 : decode cX6_done 95 = .ok (.bipush 7, 2) := by decide +kernel
theorem dX6_done_97 : decode cX6_done 97 = .ok (.if_icmp .ne 23, 3) := by decide +kernel
theorem dX6_done_100 : decode cX6_done 100 = .ok (.aload_n 0, 1) := by decide +kernel
theorem dX6_done_101 : decode cX6_done 101 = .ok (.aload_n 0, 1) := by decide +kernel
theorem dX6_done_102 : decode cX6_done 102 = .ok (.getfield 218, 3) := by decide +kernel
theorem dX6_done_105 : decode cX6_done 105 = .ok (.iload_n 2, 1) := by decide +kernel
theorem dX6_done_106 : decode cX6_done 106 = .ok (.aload_n 0, 1) := by decide +kernel
theorem dX6_done_107 : decode cX6_done 107 = .ok (.getfield 26, 3) := by decide +kernel
theorem dX6_done_110 : decode cX6_done 110 = .ok (.iconst 1, 1) := by decide +kernel
theorem dX6_done_111 : decode cX6_done 111 = .ok (.iaload, 1) := by decide +kernel
theorem dX6_done_112 : decode cX6_done 112 = .ok (.aload_n 0, 1) := by decide +kernel
theorem dX6_done_113 : decode cX6_done 113 = .ok (.getfield 218, 3) := by decide +kernel
theorem dX6_done_116 : decode cX6_done 116 = .ok (.invokevirtual 143, 3) := by decide +kernel
theorem dX6_done_119 : decode cX6_done 119 = .ok (.ireturn, 1) := by decide +kernel
theorem dX6_done_120 : decode cX6_done 120 = .ok (.iload_n 1, 1) := by decide +kernel
theorem dX6_done_121 : decode cX6_done 121 = .ok (.bipush 10, 2) := by decide +kernel
theorem dX6_done_123 : decode cX6_done 123 = .ok (.if_icmp .ge 30, 3) := by decide +kernel
theorem dX6_done_126 : decode cX6_done 126 = .ok (.aload_n 0, 1) := by decide +kernel
theorem dX6_done_127 : decode cX6_done 127 = .ok (.aload_n 0, 1) := by decide +kernel
theorem dX6_done_128 : decode cX6_done 128 = .ok (.getfield 218, 3) := by decide +kernel
theorem dX6_done_131 : decode cX6_done 131 = .ok (.iload_n 1, 1) := by decide +kernel
theorem dX6_done_132 : decode cX6_done 132 = .ok (.bipush 8, 2) := by decide +kernel
theorem dX6_done_134 : decode cX6_done 134 = .ok (.if_icmp .ne 7, 3) := by decide +kernel
theorem dX6_done_137 : decode cX6_done 137 = .ok (.iload_n 2, 1) := by decide +kernel
theorem dX6_done_138 : decode cX6_done 138 = .ok (.goto 5, 3) := by decide +kernel
theorem dX6_done_141 : decode cX6_done 141 = .ok (.iload_n 2, 1) := by decide +kernel
theorem dX6_done_142 : decode cX6_done 142 = .ok (.ineg, 1) := by decide +kernel
theorem dX6_done_143 : decode cX6_done 143 = .ok (.aload_n 0, 1) := by decide +kernel
theorem dX6_done_144 : decode cX6_done 144 = .ok (.getfield 218, 3) := by decide +kernel
theorem dX6_done_147 : decode cX6_done 147 = .ok (.invokevirtual 146, 3) := by decide +kernel
theorem dX6_done_150 : decode cX6_done 150 = .ok (.goto 26, 3) := by decide +kernel
theorem dX6_done_153 : decode cX6_done 153 = .ok (.aload_n 0, 1) := by decide +kernel
theorem dX6_done_154 : decode cX6_done 154 = .ok (.aload_n 0, 1) := by decide +kernel
theorem dX6_done_155 : decode cX6_done 155 = .ok (.getfield 218, 3) := by decide +kernel
theorem dX6_done_158 : decode cX6_done 158 = .ok (.iload_n 1, 1) := by decide +kernel
theorem dX6_done_159 : decode cX6_done 159 = .ok (.bipush 10, 2) := by decide +kernel
theorem dX6_done_161 : decode cX6_done 161 = .ok (.if_icmp .ne 7, 3) := by decide +kernel
theorem dX6_done_164 : decode cX6_done 164 = .ok (.iconst 0, 1) := by decide +kernel
theorem dX6_done_165 : decode cX6_done 165 = .ok (.goto 4, 3) := by decide +kernel
theorem dX6_done_168 : decode cX6_done 168 = .ok (.iconst 2, 1) := by decide +kernel
theorem dX6_done_169 : decode cX6_done 169 = .ok (.aload_n 0, 1) := by decide +kernel
theorem dX6_done_170 : decode cX6_done 170 = .ok (.getfield 218, 3) := by decide +kernel
theorem dX6_done_173 : decode cX6_done 173 = .ok (.invokevirtual 150, 3) := by decide +kernel
theorem dX6_done_176 : decode cX6_done 176 = .ok (.ireturn, 1) := by decide +kernel
theorem dX6_goesThrough_0 : decode cX6_goesThrough 0 = .ok (.iconst 0, 1) := by decide +kernel
theorem dX6_goesThrough_1 : decode cX6_goesThrough 1 = .ok (.istore_n 2, 1) := by decide +kernel
theorem dX6_goesThrough_2 : decode cX6_goesThrough 2 = .ok (.aload_n 0, 1) := by decide +kernel
theorem dX6_goesThrough_3 : decode cX6_goesThrough 3 = .ok (.iconst 0, 1) := by decide +kernel
theorem dX6_goesThrough_4 : decode cX6_goesThrough 4 = .ok (.putfield 200, 3) := by decide +kernel
theorem dX6_goesThrough_7 : decode cX6_goesThrough 7 = .ok (.aload_n 0, 1) := by decide +kernel
theorem dX6_goesThrough_8 : decode cX6_goesThrough 8 = .ok (.invokevirtual 206, 3) := by decide +kernel
theorem dX6_goesThrough_11 : decode cX6_goesThrough 11 = .ok (.aload_n 0, 1) := by decide +kernel
theorem dX6_goesThrough_12 : decode cX6_goesThrough 12 = .ok (.getfield 200, 3) := by decide +kernel
theorem dX6_goesThrough_15 : decode cX6_goesThrough 15 = .ok (.aload_n 0, 1) := by decide +kernel
theorem dX6_goesThrough_16 : decode cX6_goesThrough 16 = .ok (.getfield 197, 3) := by decide +kernel
theorem dX6_goesThrough_19 : decode cX6_goesThrough 19 = .ok (.if_icmp .lt 7, 3) := by decide +kernel
theorem dX6_goesThrough_22 : decode cX6_goesThrough 22 = .ok (.iload_n 2, 1) := by decide +kernel
theorem dX6_goesThrough_23 : decode cX6_goesThrough 23 = .ok (.ifCond .ne 49, 3) := by decide +kernel
theorem dX6_goesThrough_26 : decode cX6_goesThrough 26 = .ok (.aload_n 0, 1) := by decide +kernel
theorem dX6_goesThrough_27 : decode cX6_goesThrough 27 = .ok (.invokevirtual 225, 3) := by decide +kernel
theorem dX6_goesThrough_30 : decode cX6_goesThrough 30 = .ok (.istore_n 3, 1) := by decide +kernel
theorem dX6_goesThrough_31 : decode cX6_goesThrough 31 = .ok (.iload_n 3, 1) := by decide +kernel
theorem dX6_goesThrough_32 : decode cX6_goesThrough 32 = .ok (.ifCond .ge 7, 3) := by decide +kernel
theorem dX6_goesThrough_35 : decode cX6_goesThrough 35 = .ok (.sipush (-201), 3) := by decide +kernel
theorem dX6_goesThrough_38 : decode cX6_goesThrough 38 = .ok (.ireturn, 1) := by decide +kernel
theorem dX6_goesThrough_39 : decode cX6_goesThrough 39 = .ok (.iload_n 1, 1) := by decide +kernel
theorem dX6_goesThrough_40 : decode cX6_goesThrough 40 = .ok (.ifCond .eq 11, 3) := by decide +kernel
theorem dX6_goesThrough_43 : decode cX6_goesThrough 43 = .ok (.aload_n 0, 1) := by decide +kernel
theorem dX6_goesThrough_44 : decode cX6_goesThrough 44 = .ok (.iload_n 3, 1) := by decide +kernel
theorem dX6_goesThrough_45 : decode cX6_goesThrough 45 = .ok (.invokevirtual 228, 3) := by decide +kernel
theorem dX6_goesThrough_48 : decode cX6_goesThrough 48 = .ok (.goto 4, 3) := by decide +kernel
theorem dX6_goesThrough_51 : decode cX6_goesThrough 51 = .ok (.iconst 0, 1) := by decide +kernel
theorem dX6_goesThrough_52 : decode cX6_goesThrough 52 = .ok (.istore 4, 2) := by decide +kernel
theorem dX6_goesThrough_54 : decode cX6_goesThrough 54 = .ok (.iload 4, 2) := by decide +kernel
theorem dX6_goesThrough_56 : decode cX6_goesThrough 56 = .ok (.ifCond .ge 6, 3) := by decide +kernel
theorem dX6_goesThrough_59 : decode cX6_goesThrough 59 = .ok (.iload 4, 2) := by decide +kernel
theorem dX6_goesThrough_61 : decode cX6_goesThrough 61 = .ok (.ireturn, 1) := by decide +kernel
theorem dX6_goesThrough_62 : decode cX6_goesThrough 62 = .ok (.iinc 2 1, 3) := by decide +kernel
theorem dX6_goesThrough_65 : decode cX6_goesThrough 65 = .ok (.aload_n 0, 1) := by decide +kernel
theorem dX6_goesThrough_66 : decode cX6_goesThrough 66 = .ok (.invokevirtual 206, 3) := by decide +kernel
theorem dX6_goesThrough_69 : decode cX6_goesThrough 69 = .ok (.goto (-58), 3) := by decide +kernel
theorem dX6_goesThrough_72 : decode cX6_goesThrough 72 = .ok (.iload_n 2, 1) := by decide +kernel
theorem dX6_goesThrough_73 : decode cX6_goesThrough 73 = .ok (.ireturn, 1) := by decide +kernel
theorem dX6_does_0 : decode cX6_does 0 = .ok (.aload_n 0, 1) := by decide +kernel
theorem dX6_does_1 : decode cX6_does 1 = .ok (.iconst 0, 1) := by decide +kernel
theorem dX6_does_2 : decode cX6_does 2 = .ok (.invokevirtual 231, 3) := by decide +kernel
theorem dX6_does_5 : decode cX6_does 5 = .ok (.sipush (-201), 3) := by decide +kernel
theorem dX6_does_8 : decode cX6_does 8 = .ok (.if_icmp .ne 12, 3) := by decide +kernel
theorem dX6_does_11 : decode cX6_does 11 = .ok (.sipush (-300), 3) := by decide +kernel
theorem dX6_does_14 : decode cX6_does 14 = .ok (.aload_n 0, 1) := by decide +kernel
theorem dX6_does_15 : decode cX6_does 15 = .ok (.getfield 200, 3) := by decide +kernel
theorem dX6_does_18 : decode cX6_does 18 = .ok (.isub, 1) := by decide +kernel
theorem dX6_does_19 : decode cX6_does 19 = .ok (.ireturn, 1) := by decide +kernel
theorem dX6_does_20 : decode cX6_does 20 = .ok (.iconst 0, 1) := by decide +kernel
theorem dX6_does_21 : decode cX6_does 21 = .ok (.istore_n 1, 1) := by decide +kernel
theorem dX6_does_22 : decode cX6_does 22 = .ok (.iload_n 1, 1) := by decide +kernel
theorem dX6_does_23 : decode cX6_does 23 = .ok (.iconst 5, 1) := by decide +kernel
theorem dX6_does_24 : decode cX6_does 24 = .ok (.if_icmp .ge 18, 3) := by decide +kernel
theorem dX6_does_27 : decode cX6_does 27 = .ok (.aload_n 0, 1) := by decide +kernel
theorem dX6_does_28 : decode cX6_does 28 = .ok (.iload_n 1, 1) := by decide +kernel
theorem dX6_does_29 : decode cX6_does 29 = .ok (.bipush 8, 2) := by decide +kernel
theorem dX6_does_31 : decode cX6_does 31 = .ok (.iload_n 1, 1) := by decide +kernel
theorem dX6_does_32 : decode cX6_does 32 = .ok (.iadd, 1) := by decide +kernel
theorem dX6_does_33 : decode cX6_does 33 = .ok (.invokevirtual 97, 3) := by decide +kernel
theorem dX6_does_36 : decode cX6_does 36 = .ok (.iinc 1 1, 3) := by decide +kernel
theorem dX6_does_39 : decode cX6_does 39 = .ok (.goto (-17), 3) := by decide +kernel
theorem dX6_does_42 : decode cX6_does 42 = .ok (.aload_n 0, 1) := by decide +kernel
theorem dX6_does_43 : decode cX6_does 43 = .ok (.iconst 1, 1) := by decide +kernel
theorem dX6_does_44 : decode cX6_does 44 = .ok (.invokevirtual 231, 3) := by decide +kernel
theorem dX6_does_47 : decode cX6_does 47 = .ok (.istore_n 1, 1) := by decide +kernel
theorem dX6_does_48 : decode cX6_does 48 = .ok (.iload_n 1, 1) := by decide +kernel
theorem dX6_does_49 : decode cX6_does 49 = .ok (.ifCond .ge 25, 3) := by decide +kernel
theorem dX6_does_52 : decode cX6_does 52 = .ok (.iconst 0, 1) := by decide +kernel
theorem dX6_does_53 : decode cX6_does 53 = .ok (.istore_n 2, 1) := by decide +kernel
theorem dX6_does_54 : decode cX6_does 54 = .ok (.iload_n 2, 1) := by decide +kernel
theorem dX6_does_55 : decode cX6_does 55 = .ok (.iconst 5, 1) := by decide +kernel
theorem dX6_does_56 : decode cX6_does 56 = .ok (.if_icmp .ge 18, 3) := by decide +kernel
theorem dX6_does_59 : decode cX6_does 59 = .ok (.aload_n 0, 1) := by decide +kernel
theorem dX6_does_60 : decode cX6_does 60 = .ok (.bipush 8, 2) := by decide +kernel
theorem dX6_does_62 : decode cX6_does 62 = .ok (.iload_n 2, 1) := by decide +kernel
theorem dX6_does_63 : decode cX6_does 63 = .ok (.iadd, 1) := by decide +kernel
theorem dX6_does_64 : decode cX6_does 64 = .ok (.iload_n 2, 1) := by decide +kernel
theorem dX6_does_65 : decode cX6_does 65 = .ok (.invokevirtual 97, 3) := by decide +kernel
theorem dX6_does_68 : decode cX6_does 68 = .ok (.iinc 2 1, 3) := by decide +kernel
theorem dX6_does_71 : decode cX6_does 71 = .ok (.goto (-17), 3) := by decide +kernel
theorem dX6_does_74 : decode cX6_does 74 = .ok (.aload_n 0, 1) := by decide +kernel
theorem dX6_does_75 : decode cX6_does 75 = .ok (.iload_n 1, 1) := by decide +kernel
theorem dX6_does_76 : decode cX6_does 76 = .ok (.invokevirtual 136, 3) := by decide +kernel
theorem dX6_does_79 : decode cX6_does 79 = .ok (.ireturn, 1) := by decide +kernel
theorem dX6_writing_0 : decode cX6_writing 0 = .ok (.iload_n 1, 1) := by decide +kernel
theorem dX6_writing_1 : decode cX6_writing 1 = .ok (.invokestatic 129, 3) := by decide +kernel
theorem dX6_writing_4 : decode cX6_writing 4 = .ok (.ifCond .eq 8, 3) := by decide +kernel
theorem dX6_writing_7 : decode cX6_writing 7 = .ok (.iload_n 2, 1) := by decide +kernel
theorem dX6_writing_8 : decode cX6_writing 8 = .ok (.iconst (-1), 1) := by decide +kernel
theorem dX6_writing_9 : decode cX6_writing 9 = .ok (.if_icmp .ge 11, 3) := by decide +kernel
theorem dX6_writing_12 : decode cX6_writing 12 = .ok (.aload_n 0, 1) := by decide +kernel
theorem dX6_writing_13 : decode cX6_writing 13 = .ok (.sipush (-202), 3) := by decide +kernel
theorem dX6_writing_16 : decode cX6_writing 16 = .ok (.invokevirtual 105, 3) := by decide +kernel
theorem dX6_writing_19 : decode cX6_writing 19 = .ok (.ireturn, 1) := by decide +kernel
theorem dX6_writing_20 : decode cX6_writing 20 = .ok (.aload_n 0, 1) := by decide +kernel
theorem dX6_writing_21 : decode cX6_writing 21 = .ok (.iload_n 1, 1) := by decide +kernel
theorem dX6_writing_22 : decode cX6_writing 22 = .ok (.iconst 0, 1) := by decide +kernel
theorem dX6_writing_23 : decode cX6_writing 23 = .ok (.iconst 0, 1) := by decide +kernel
theorem dX6_writing_24 : decode cX6_writing 24 = .ok (.iload_n 2, 1) := by decide +kernel
theorem dX6_writing_25 : decode cX6_writing 25 = .ok (.invokevirtual 94, 3) := by decide +kernel
theorem dX6_writing_28 : decode cX6_writing 28 = .ok (.iload_n 2, 1) := by decide +kernel
theorem dX6_writing_29 : decode cX6_writing 29 = .ok (.iconst (-1), 1) := by decide +kernel
theorem dX6_writing_30 : decode cX6_writing 30 = .ok (.if_icmp .ne 10, 3) := by decide +kernel
theorem dX6_writing_33 : decode cX6_writing 33 = .ok (.aload_n 0, 1) := by decide +kernel
theorem dX6_writing_34 : decode cX6_writing 34 = .ok (.getfield 45, 3) := by decide +kernel
theorem dX6_writing_37 : decode cX6_writing 37 = .ok (.goto 7, 3) := by decide +kernel
theorem dX6_writing_40 : decode cX6_writing 40 = .ok (.aload_n 0, 1) := by decide +kernel
theorem dX6_writing_41 : decode cX6_writing 41 = .ok (.getfield 52, 3) := by decide +kernel
theorem dX6_writing_44 : decode cX6_writing 44 = .ok (.ireturn, 1) := by decide +kernel
theorem dX6_markOf_0 : decode cX6_markOf 0 = .ok (.aload_n 0, 1) := by decide +kernel
theorem dX6_markOf_1 : decode cX6_markOf 1 = .ok (.iload_n 1, 1) := by decide +kernel
theorem dX6_markOf_2 : decode cX6_markOf 2 = .ok (.iconst 0, 1) := by decide +kernel
theorem dX6_markOf_3 : decode cX6_markOf 3 = .ok (.iconst 0, 1) := by decide +kernel
theorem dX6_markOf_4 : decode cX6_markOf 4 = .ok (.iconst 0, 1) := by decide +kernel
theorem dX6_markOf_5 : decode cX6_markOf 5 = .ok (.invokevirtual 94, 3) := by decide +kernel
theorem dX6_markOf_8 : decode cX6_markOf 8 = .ok (.aload_n 0, 1) := by decide +kernel
theorem dX6_markOf_9 : decode cX6_markOf 9 = .ok (.getfield 55, 3) := by decide +kernel
theorem dX6_markOf_12 : decode cX6_markOf 12 = .ok (.ireturn, 1) := by decide +kernel
theorem dX6_mark_0 : decode cX6_mark 0 = .ok (.iload_n 1, 1) := by decide +kernel
theorem dX6_mark_1 : decode cX6_mark 1 = .ok (.invokestatic 129, 3) := by decide +kernel
theorem dX6_mark_4 : decode cX6_mark 4 = .ok (.ifCond .eq 11, 3) := by decide +kernel
theorem dX6_mark_7 : decode cX6_mark 7 = .ok (.aload_n 0, 1) := by decide +kernel
theorem dX6_mark_8 : decode cX6_mark 8 = .ok (.iload_n 1, 1) := by decide +kernel
theorem dX6_mark_9 : decode cX6_mark 9 = .ok (.invokevirtual 235, 3) := by decide +kernel
theorem dX6_mark_12 : decode cX6_mark 12 = .ok (.goto 10, 3) := by decide +kernel
theorem dX6_mark_15 : decode cX6_mark 15 = .ok (.aload_n 0, 1) := by decide +kernel
theorem dX6_mark_16 : decode cX6_mark 16 = .ok (.sipush (-202), 3) := by decide +kernel
theorem dX6_mark_19 : decode cX6_mark 19 = .ok (.invokevirtual 105, 3) := by decide +kernel
theorem dX6_mark_22 : decode cX6_mark 22 = .ok (.ireturn, 1) := by decide +kernel
theorem dX6_toldOf_0 : decode cX6_toldOf 0 = .ok (.iconst 0, 1) := by decide +kernel
theorem dX6_toldOf_1 : decode cX6_toldOf 1 = .ok (.istore_n 2, 1) := by decide +kernel
theorem dX6_toldOf_2 : decode cX6_toldOf 2 = .ok (.iload_n 1, 1) := by decide +kernel
theorem dX6_toldOf_3 : decode cX6_toldOf 3 = .ok (.tableswitch 50 0 4 #[33, 33, 33, 40, 45], 33) := by decide +kernel
theorem dX6_toldOf_36 : decode cX6_toldOf 36 = .ok (.aload_n 0, 1) := by decide +kernel
theorem dX6_toldOf_37 : decode cX6_toldOf 37 = .ok (.getfield 13, 3) := by decide +kernel
theorem dX6_toldOf_40 : decode cX6_toldOf 40 = .ok (.iload_n 1, 1) := by decide +kernel
theorem dX6_toldOf_41 : decode cX6_toldOf 41 = .ok (.iaload, 1) := by decide +kernel
theorem dX6_toldOf_42 : decode cX6_toldOf 42 = .ok (.ireturn, 1) := by decide +kernel
theorem dX6_toldOf_43 : decode cX6_toldOf 43 = .ok (.aload_n 0, 1) := by decide +kernel
theorem dX6_toldOf_44 : decode cX6_toldOf 44 = .ok (.getfield 197, 3) := by decide +kernel
theorem dX6_toldOf_47 : decode cX6_toldOf 47 = .ok (.ireturn, 1) := by decide +kernel
theorem dX6_toldOf_48 : decode cX6_toldOf 48 = .ok (.aload_n 0, 1) := by decide +kernel
theorem dX6_toldOf_49 : decode cX6_toldOf 49 = .ok (.getfield 156, 3) := by decide +kernel
theorem dX6_toldOf_52 : decode cX6_toldOf 52 = .ok (.ireturn, 1) := by decide +kernel
theorem dX6_toldOf_53 : decode cX6_toldOf 53 = .ok (.iconst 0, 1) := by decide +kernel
theorem dX6_toldOf_54 : decode cX6_toldOf 54 = .ok (.istore_n 3, 1) := by decide +kernel
theorem dX6_toldOf_55 : decode cX6_toldOf 55 = .ok (.iload_n 3, 1) := by decide +kernel
theorem dX6_toldOf_56 : decode cX6_toldOf 56 = .ok (.iconst 5, 1) := by decide +kernel
theorem dX6_toldOf_57 : decode cX6_toldOf 57 = .ok (.if_icmp .ge 17, 3) := by decide +kernel
theorem dX6_toldOf_60 : decode cX6_toldOf 60 = .ok (.iload_n 2, 1) := by decide +kernel
theorem dX6_toldOf_61 : decode cX6_toldOf 61 = .ok (.aload_n 0, 1) := by decide +kernel
theorem dX6_toldOf_62 : decode cX6_toldOf 62 = .ok (.iload_n 3, 1) := by decide +kernel
theorem dX6_toldOf_63 : decode cX6_toldOf 63 = .ok (.invokevirtual 101, 3) := by decide +kernel
theorem dX6_toldOf_66 : decode cX6_toldOf 66 = .ok (.iadd, 1) := by decide +kernel
theorem dX6_toldOf_67 : decode cX6_toldOf 67 = .ok (.istore_n 2, 1) := by decide +kernel
theorem dX6_toldOf_68 : decode cX6_toldOf 68 = .ok (.iinc 3 1, 3) := by decide +kernel
theorem dX6_toldOf_71 : decode cX6_toldOf 71 = .ok (.goto (-16), 3) := by decide +kernel
theorem dX6_toldOf_74 : decode cX6_toldOf 74 = .ok (.iload_n 2, 1) := by decide +kernel
theorem dX6_toldOf_75 : decode cX6_toldOf 75 = .ok (.ireturn, 1) := by decide +kernel
theorem dX6_told_0 : decode cX6_told 0 = .ok (.iload_n 1, 1) := by decide +kernel
theorem dX6_told_1 : decode cX6_told 1 = .ok (.iconst 0, 1) := by decide +kernel
theorem dX6_told_2 : decode cX6_told 2 = .ok (.iconst 5, 1) := by decide +kernel
theorem dX6_told_3 : decode cX6_told 3 = .ok (.invokestatic 33, 3) := by decide +kernel
theorem dX6_told_6 : decode cX6_told 6 = .ok (.ifCond .eq 11, 3) := by decide +kernel
theorem dX6_told_9 : decode cX6_told 9 = .ok (.aload_n 0, 1) := by decide +kernel
theorem dX6_told_10 : decode cX6_told 10 = .ok (.iload_n 1, 1) := by decide +kernel
theorem dX6_told_11 : decode cX6_told 11 = .ok (.invokevirtual 238, 3) := by decide +kernel
theorem dX6_told_14 : decode cX6_told 14 = .ok (.goto 10, 3) := by decide +kernel
theorem dX6_told_17 : decode cX6_told 17 = .ok (.aload_n 0, 1) := by decide +kernel
theorem dX6_told_18 : decode cX6_told 18 = .ok (.sipush (-202), 3) := by decide +kernel
theorem dX6_told_21 : decode cX6_told 21 = .ok (.invokevirtual 105, 3) := by decide +kernel
theorem dX6_told_24 : decode cX6_told 24 = .ok (.ireturn, 1) := by decide +kernel
theorem dX6_digest_0 : decode cX6_digest 0 = .ok (.ldc2_w 241, 3) := by decide +kernel
theorem dX6_digest_3 : decode cX6_digest 3 = .ok (.lstore_n 1, 1) := by decide +kernel
theorem dX6_digest_4 : decode cX6_digest 4 = .ok (.iconst 0, 1) := by decide +kernel
theorem dX6_digest_5 : decode cX6_digest 5 = .ok (.istore_n 3, 1) := by decide +kernel
theorem dX6_digest_6 : decode cX6_digest 6 = .ok (.iload_n 3, 1) := by decide +kernel
theorem dX6_digest_7 : decode cX6_digest 7 = .ok (.bipush 6, 2) := by decide +kernel
theorem dX6_digest_9 : decode cX6_digest 9 = .ok (.if_icmp .ge 22, 3) := by decide +kernel
theorem dX6_digest_12 : decode cX6_digest 12 = .ok (.ldc2_w 243, 3) := by decide +kernel
theorem dX6_digest_15 : decode cX6_digest 15 = .ok (.lload_n 1, 1) := by decide +kernel
theorem dX6_digest_16 : decode cX6_digest 16 = .ok (.lmul, 1) := by decide +kernel
theorem dX6_digest_17 : decode cX6_digest 17 = .ok (.aload_n 0, 1) := by decide +kernel
theorem dX6_digest_18 : decode cX6_digest 18 = .ok (.iload_n 3, 1) := by decide +kernel
theorem dX6_digest_19 : decode cX6_digest 19 = .ok (.invokevirtual 238, 3) := by decide +kernel
theorem dX6_digest_22 : decode cX6_digest 22 = .ok (.i2l, 1) := by decide +kernel
theorem dX6_digest_23 : decode cX6_digest 23 = .ok (.ladd, 1) := by decide +kernel
theorem dX6_digest_24 : decode cX6_digest 24 = .ok (.lstore_n 1, 1) := by decide +kernel
theorem dX6_digest_25 : decode cX6_digest 25 = .ok (.iinc 3 1, 3) := by decide +kernel
theorem dX6_digest_28 : decode cX6_digest 28 = .ok (.goto (-22), 3) := by decide +kernel
theorem dX6_digest_31 : decode cX6_digest 31 = .ok (.iconst 0, 1) := by decide +kernel
theorem dX6_digest_32 : decode cX6_digest 32 = .ok (.istore_n 3, 1) := by decide +kernel
theorem dX6_digest_33 : decode cX6_digest 33 = .ok (.iload_n 3, 1) := by decide +kernel
theorem dX6_digest_34 : decode cX6_digest 34 = .ok (.iconst 5, 1) := by decide +kernel
theorem dX6_digest_35 : decode cX6_digest 35 = .ok (.if_icmp .ge 63, 3) := by decide +kernel
theorem dX6_digest_38 : decode cX6_digest 38 = .ok (.aload_n 0, 1) := by decide +kernel
theorem dX6_digest_39 : decode cX6_digest 39 = .ok (.iload_n 3, 1) := by decide +kernel
theorem dX6_digest_40 : decode cX6_digest 40 = .ok (.invokevirtual 235, 3) := by decide +kernel
theorem dX6_digest_43 : decode cX6_digest 43 = .ok (.istore 4, 2) := by decide +kernel
theorem dX6_digest_45 : decode cX6_digest 45 = .ok (.ldc2_w 243, 3) := by decide +kernel
theorem dX6_digest_48 : decode cX6_digest 48 = .ok (.lload_n 1, 1) := by decide +kernel
theorem dX6_digest_49 : decode cX6_digest 49 = .ok (.lmul, 1) := by decide +kernel
theorem dX6_digest_50 : decode cX6_digest 50 = .ok (.aload_n 0, 1) := by decide +kernel
theorem dX6_digest_51 : decode cX6_digest 51 = .ok (.iload_n 3, 1) := by decide +kernel
theorem dX6_digest_52 : decode cX6_digest 52 = .ok (.invokevirtual 101, 3) := by decide +kernel
theorem dX6_digest_55 : decode cX6_digest 55 = .ok (.i2l, 1) := by decide +kernel
theorem dX6_digest_56 : decode cX6_digest 56 = .ok (.ladd, 1) := by decide +kernel
theorem dX6_digest_57 : decode cX6_digest 57 = .ok (.lstore_n 1, 1) := by decide +kernel
theorem dX6_digest_58 : decode cX6_digest 58 = .ok (.ldc2_w 243, 3) := by decide +kernel
theorem dX6_digest_61 : decode cX6_digest 61 = .ok (.lload_n 1, 1) := by decide +kernel
theorem dX6_digest_62 : decode cX6_digest 62 = .ok (.lmul, 1) := by decide +kernel
theorem dX6_digest_63 : decode cX6_digest 63 = .ok (.aload_n 0, 1) := by decide +kernel
theorem dX6_digest_64 : decode cX6_digest 64 = .ok (.getfield 81, 3) := by decide +kernel
theorem dX6_digest_67 : decode cX6_digest 67 = .ok (.i2l, 1) := by decide +kernel
theorem dX6_digest_68 : decode cX6_digest 68 = .ok (.ladd, 1) := by decide +kernel
theorem dX6_digest_69 : decode cX6_digest 69 = .ok (.lstore_n 1, 1) := by decide +kernel
theorem dX6_digest_70 : decode cX6_digest 70 = .ok (.ldc2_w 243, 3) := by decide +kernel
theorem dX6_digest_73 : decode cX6_digest 73 = .ok (.lload_n 1, 1) := by decide +kernel
theorem dX6_digest_74 : decode cX6_digest 74 = .ok (.lmul, 1) := by decide +kernel
theorem dX6_digest_75 : decode cX6_digest 75 = .ok (.aload_n 0, 1) := by decide +kernel
theorem dX6_digest_76 : decode cX6_digest 76 = .ok (.getfield 68, 3) := by decide +kernel
theorem dX6_digest_79 : decode cX6_digest 79 = .ok (.i2l, 1) := by decide +kernel
theorem dX6_digest_80 : decode cX6_digest 80 = .ok (.ladd, 1) := by decide +kernel
theorem dX6_digest_81 : decode cX6_digest 81 = .ok (.lstore_n 1, 1) := by decide +kernel
theorem dX6_digest_82 : decode cX6_digest 82 = .ok (.ldc2_w 243, 3) := by decide +kernel
theorem dX6_digest_85 : decode cX6_digest 85 = .ok (.lload_n 1, 1) := by decide +kernel
theorem dX6_digest_86 : decode cX6_digest 86 = .ok (.lmul, 1) := by decide +kernel
theorem dX6_digest_87 : decode cX6_digest 87 = .ok (.iload 4, 2) := by decide +kernel
theorem dX6_digest_89 : decode cX6_digest 89 = .ok (.i2l, 1) := by decide +kernel
theorem dX6_digest_90 : decode cX6_digest 90 = .ok (.ladd, 1) := by decide +kernel
theorem dX6_digest_91 : decode cX6_digest 91 = .ok (.lstore_n 1, 1) := by decide +kernel
theorem dX6_digest_92 : decode cX6_digest 92 = .ok (.iinc 3 1, 3) := by decide +kernel
theorem dX6_digest_95 : decode cX6_digest 95 = .ok (.goto (-62), 3) := by decide +kernel
theorem dX6_digest_98 : decode cX6_digest 98 = .ok (.lload_n 1, 1) := by decide +kernel
theorem dX6_digest_99 : decode cX6_digest 99 = .ok (.lreturn, 1) := by decide +kernel
end
section
theorem dL_law_0 : decode cL_law 0 = .ok (.new 7, 3) := by decide +kernel
theorem dL_law_3 : decode cL_law 3 = .ok (.dup, 1) := by decide +kernel
theorem dL_law_4 : decode cL_law 4 = .ok (.invokespecial 9, 3) := by decide +kernel
theorem dL_law_7 : decode cL_law 7 = .ok (.astore_n 1, 1) := by decide +kernel
theorem dL_law_8 : decode cL_law 8 = .ok (.new 10, 3) := by decide +kernel
theorem dL_law_11 : decode cL_law 11 = .ok (.dup, 1) := by decide +kernel
theorem dL_law_12 : decode cL_law 12 = .ok (.invokespecial 12, 3) := by decide +kernel
theorem dL_law_15 : decode cL_law 15 = .ok (.astore_n 2, 1) := by decide +kernel
theorem dL_law_16 : decode cL_law 16 = .ok (.iconst 0, 1) := by decide +kernel
theorem dL_law_17 : decode cL_law 17 = .ok (.istore_n 3, 1) := by decide +kernel
theorem dL_law_18 : decode cL_law 18 = .ok (.iload_n 3, 1) := by decide +kernel
theorem dL_law_19 : decode cL_law 19 = .ok (.aload_n 0, 1) := by decide +kernel
theorem dL_law_20 : decode cL_law 20 = .ok (.arraylength, 1) := by decide +kernel
theorem dL_law_21 : decode cL_law 21 = .ok (.bipush 6, 2) := by decide +kernel
theorem dL_law_23 : decode cL_law 23 = .ok (.isub, 1) := by decide +kernel
theorem dL_law_24 : decode cL_law 24 = .ok (.if_icmp .gt 979, 3) := by decide +kernel
theorem dL_law_27 : decode cL_law 27 = .ok (.aload_n 0, 1) := by decide +kernel
theorem dL_law_28 : decode cL_law 28 = .ok (.iload_n 3, 1) := by decide +kernel
theorem dL_law_29 : decode cL_law 29 = .ok (.iaload, 1) := by decide +kernel
theorem dL_law_30 : decode cL_law 30 = .ok (.bipush 31, 2) := by decide +kernel
theorem dL_law_32 : decode cL_law 32 = .ok (.iand, 1) := by decide +kernel
theorem dL_law_33 : decode cL_law 33 = .ok (.tableswitch 964 0 23 #[111, 174, 227, 280, 323, 366, 399, 452, 485, 508, 551, 594, 627, 670, 713, 746, 789, 822, 845, 858, 871, 904, 927, 950], 111) := by decide +kernel
theorem dL_law_144 : decode cL_law 144 = .ok (.aload_n 1, 1) := by decide +kernel
theorem dL_law_145 : decode cL_law 145 = .ok (.aload_n 0, 1) := by decide +kernel
theorem dL_law_146 : decode cL_law 146 = .ok (.iload_n 3, 1) := by decide +kernel
theorem dL_law_147 : decode cL_law 147 = .ok (.iconst 1, 1) := by decide +kernel
theorem dL_law_148 : decode cL_law 148 = .ok (.iadd, 1) := by decide +kernel
theorem dL_law_149 : decode cL_law 149 = .ok (.iaload, 1) := by decide +kernel
theorem dL_law_150 : decode cL_law 150 = .ok (.aload_n 0, 1) := by decide +kernel
theorem dL_law_151 : decode cL_law 151 = .ok (.iload_n 3, 1) := by decide +kernel
theorem dL_law_152 : decode cL_law 152 = .ok (.iconst 2, 1) := by decide +kernel
theorem dL_law_153 : decode cL_law 153 = .ok (.iadd, 1) := by decide +kernel
theorem dL_law_154 : decode cL_law 154 = .ok (.iaload, 1) := by decide +kernel
theorem dL_law_155 : decode cL_law 155 = .ok (.aload_n 0, 1) := by decide +kernel
theorem dL_law_156 : decode cL_law 156 = .ok (.iload_n 3, 1) := by decide +kernel
theorem dL_law_157 : decode cL_law 157 = .ok (.iconst 3, 1) := by decide +kernel
theorem dL_law_158 : decode cL_law 158 = .ok (.iadd, 1) := by decide +kernel
theorem dL_law_159 : decode cL_law 159 = .ok (.iaload, 1) := by decide +kernel
theorem dL_law_160 : decode cL_law 160 = .ok (.aload_n 0, 1) := by decide +kernel
theorem dL_law_161 : decode cL_law 161 = .ok (.iload_n 3, 1) := by decide +kernel
theorem dL_law_162 : decode cL_law 162 = .ok (.iconst 4, 1) := by decide +kernel
theorem dL_law_163 : decode cL_law 163 = .ok (.iadd, 1) := by decide +kernel
theorem dL_law_164 : decode cL_law 164 = .ok (.iaload, 1) := by decide +kernel
theorem dL_law_165 : decode cL_law 165 = .ok (.aload_n 0, 1) := by decide +kernel
theorem dL_law_166 : decode cL_law 166 = .ok (.iload_n 3, 1) := by decide +kernel
theorem dL_law_167 : decode cL_law 167 = .ok (.iconst 5, 1) := by decide +kernel
theorem dL_law_168 : decode cL_law 168 = .ok (.iadd, 1) := by decide +kernel
theorem dL_law_169 : decode cL_law 169 = .ok (.iaload, 1) := by decide +kernel
theorem dL_law_170 : decode cL_law 170 = .ok (.invokevirtual 13, 3) := by decide +kernel
theorem dL_law_173 : decode cL_law 173 = .ok (.aload_n 2, 1) := by decide +kernel
theorem dL_law_174 : decode cL_law 174 = .ok (.aload_n 0, 1) := by decide +kernel
theorem dL_law_175 : decode cL_law 175 = .ok (.iload_n 3, 1) := by decide +kernel
theorem dL_law_176 : decode cL_law 176 = .ok (.iconst 1, 1) := by decide +kernel
theorem dL_law_177 : decode cL_law 177 = .ok (.iadd, 1) := by decide +kernel
theorem dL_law_178 : decode cL_law 178 = .ok (.iaload, 1) := by decide +kernel
theorem dL_law_179 : decode cL_law 179 = .ok (.aload_n 0, 1) := by decide +kernel
theorem dL_law_180 : decode cL_law 180 = .ok (.iload_n 3, 1) := by decide +kernel
theorem dL_law_181 : decode cL_law 181 = .ok (.iconst 2, 1) := by decide +kernel
theorem dL_law_182 : decode cL_law 182 = .ok (.iadd, 1) := by decide +kernel
theorem dL_law_183 : decode cL_law 183 = .ok (.iaload, 1) := by decide +kernel
theorem dL_law_184 : decode cL_law 184 = .ok (.aload_n 0, 1) := by decide +kernel
theorem dL_law_185 : decode cL_law 185 = .ok (.iload_n 3, 1) := by decide +kernel
theorem dL_law_186 : decode cL_law 186 = .ok (.iconst 3, 1) := by decide +kernel
theorem dL_law_187 : decode cL_law 187 = .ok (.iadd, 1) := by decide +kernel
theorem dL_law_188 : decode cL_law 188 = .ok (.iaload, 1) := by decide +kernel
theorem dL_law_189 : decode cL_law 189 = .ok (.aload_n 0, 1) := by decide +kernel
theorem dL_law_190 : decode cL_law 190 = .ok (.iload_n 3, 1) := by decide +kernel
theorem dL_law_191 : decode cL_law 191 = .ok (.iconst 4, 1) := by decide +kernel
theorem dL_law_192 : decode cL_law 192 = .ok (.iadd, 1) := by decide +kernel
theorem dL_law_193 : decode cL_law 193 = .ok (.iaload, 1) := by decide +kernel
theorem dL_law_194 : decode cL_law 194 = .ok (.aload_n 0, 1) := by decide +kernel
theorem dL_law_195 : decode cL_law 195 = .ok (.iload_n 3, 1) := by decide +kernel
theorem dL_law_196 : decode cL_law 196 = .ok (.iconst 5, 1) := by decide +kernel
theorem dL_law_197 : decode cL_law 197 = .ok (.iadd, 1) := by decide +kernel
theorem dL_law_198 : decode cL_law 198 = .ok (.iaload, 1) := by decide +kernel
theorem dL_law_199 : decode cL_law 199 = .ok (.invokevirtual 17, 3) := by decide +kernel
theorem dL_law_202 : decode cL_law 202 = .ok (.if_icmp .eq 795, 3) := by decide +kernel
theorem dL_law_205 : decode cL_law 205 = .ok (.iconst 0, 1) := by decide +kernel
theorem dL_law_206 : decode cL_law 206 = .ok (.ireturn, 1) := by decide +kernel
theorem dL_law_207 : decode cL_law 207 = .ok (.aload_n 1, 1) := by decide +kernel
theorem dL_law_208 : decode cL_law 208 = .ok (.aload_n 0, 1) := by decide +kernel
theorem dL_law_209 : decode cL_law 209 = .ok (.iload_n 3, 1) := by decide +kernel
theorem dL_law_210 : decode cL_law 210 = .ok (.iconst 1, 1) := by decide +kernel
theorem dL_law_211 : decode cL_law 211 = .ok (.iadd, 1) := by decide +kernel
theorem dL_law_212 : decode cL_law 212 = .ok (.iaload, 1) := by decide +kernel
theorem dL_law_213 : decode cL_law 213 = .ok (.aload_n 0, 1) := by decide +kernel
theorem dL_law_214 : decode cL_law 214 = .ok (.iload_n 3, 1) := by decide +kernel
theorem dL_law_215 : decode cL_law 215 = .ok (.iconst 2, 1) := by decide +kernel
theorem dL_law_216 : decode cL_law 216 = .ok (.iadd, 1) := by decide +kernel
theorem dL_law_217 : decode cL_law 217 = .ok (.iaload, 1) := by decide +kernel
theorem dL_law_218 : decode cL_law 218 = .ok (.aload_n 0, 1) := by decide +kernel
theorem dL_law_219 : decode cL_law 219 = .ok (.iload_n 3, 1) := by decide +kernel
theorem dL_law_220 : decode cL_law 220 = .ok (.iconst 3, 1) := by decide +kernel
theorem dL_law_221 : decode cL_law 221 = .ok (.iadd, 1) := by decide +kernel
theorem dL_law_222 : decode cL_law 222 = .ok (.iaload, 1) := by decide +kernel
theorem dL_law_223 : decode cL_law 223 = .ok (.aload_n 0, 1) := by decide +kernel
theorem dL_law_224 : decode cL_law 224 = .ok (.iload_n 3, 1) := by decide +kernel
theorem dL_law_225 : decode cL_law 225 = .ok (.iconst 4, 1) := by decide +kernel
theorem dL_law_226 : decode cL_law 226 = .ok (.iadd, 1) := by decide +kernel
theorem dL_law_227 : decode cL_law 227 = .ok (.iaload, 1) := by decide +kernel
theorem dL_law_228 : decode cL_law 228 = .ok (.invokevirtual 18, 3) := by decide +kernel
theorem dL_law_231 : decode cL_law 231 = .ok (.aload_n 2, 1) := by decide +kernel
theorem dL_law_232 : decode cL_law 232 = .ok (.aload_n 0, 1) := by decide +kernel
theorem dL_law_233 : decode cL_law 233 = .ok (.iload_n 3, 1) := by decide +kernel
theorem dL_law_234 : decode cL_law 234 = .ok (.iconst 1, 1) := by decide +kernel
theorem dL_law_235 : decode cL_law 235 = .ok (.iadd, 1) := by decide +kernel
theorem dL_law_236 : decode cL_law 236 = .ok (.iaload, 1) := by decide +kernel
theorem dL_law_237 : decode cL_law 237 = .ok (.aload_n 0, 1) := by decide +kernel
theorem dL_law_238 : decode cL_law 238 = .ok (.iload_n 3, 1) := by decide +kernel
theorem dL_law_239 : decode cL_law 239 = .ok (.iconst 2, 1) := by decide +kernel
theorem dL_law_240 : decode cL_law 240 = .ok (.iadd, 1) := by decide +kernel
theorem dL_law_241 : decode cL_law 241 = .ok (.iaload, 1) := by decide +kernel
theorem dL_law_242 : decode cL_law 242 = .ok (.aload_n 0, 1) := by decide +kernel
theorem dL_law_243 : decode cL_law 243 = .ok (.iload_n 3, 1) := by decide +kernel
theorem dL_law_244 : decode cL_law 244 = .ok (.iconst 3, 1) := by decide +kernel
theorem dL_law_245 : decode cL_law 245 = .ok (.iadd, 1) := by decide +kernel
theorem dL_law_246 : decode cL_law 246 = .ok (.iaload, 1) := by decide +kernel
theorem dL_law_247 : decode cL_law 247 = .ok (.aload_n 0, 1) := by decide +kernel
theorem dL_law_248 : decode cL_law 248 = .ok (.iload_n 3, 1) := by decide +kernel
theorem dL_law_249 : decode cL_law 249 = .ok (.iconst 4, 1) := by decide +kernel
theorem dL_law_250 : decode cL_law 250 = .ok (.iadd, 1) := by decide +kernel
theorem dL_law_251 : decode cL_law 251 = .ok (.iaload, 1) := by decide +kernel
theorem dL_law_252 : decode cL_law 252 = .ok (.invokevirtual 22, 3) := by decide +kernel
theorem dL_law_255 : decode cL_law 255 = .ok (.if_icmp .eq 742, 3) := by decide +kernel
theorem dL_law_258 : decode cL_law 258 = .ok (.iconst 0, 1) := by decide +kernel
theorem dL_law_259 : decode cL_law 259 = .ok (.ireturn, 1) := by decide +kernel
theorem dL_law_260 : decode cL_law 260 = .ok (.aload_n 1, 1) := by decide +kernel
theorem dL_law_261 : decode cL_law 261 = .ok (.aload_n 0, 1) := by decide +kernel
theorem dL_law_262 : decode cL_law 262 = .ok (.iload_n 3, 1) := by decide +kernel
theorem dL_law_263 : decode cL_law 263 = .ok (.iconst 1, 1) := by decide +kernel
theorem dL_law_264 : decode cL_law 264 = .ok (.iadd, 1) := by decide +kernel
theorem dL_law_265 : decode cL_law 265 = .ok (.iaload, 1) := by decide +kernel
theorem dL_law_266 : decode cL_law 266 = .ok (.aload_n 0, 1) := by decide +kernel
theorem dL_law_267 : decode cL_law 267 = .ok (.iload_n 3, 1) := by decide +kernel
theorem dL_law_268 : decode cL_law 268 = .ok (.iconst 2, 1) := by decide +kernel
theorem dL_law_269 : decode cL_law 269 = .ok (.iadd, 1) := by decide +kernel
theorem dL_law_270 : decode cL_law 270 = .ok (.iaload, 1) := by decide +kernel
theorem dL_law_271 : decode cL_law 271 = .ok (.aload_n 0, 1) := by decide +kernel
theorem dL_law_272 : decode cL_law 272 = .ok (.iload_n 3, 1) := by decide +kernel
theorem dL_law_273 : decode cL_law 273 = .ok (.iconst 3, 1) := by decide +kernel
theorem dL_law_274 : decode cL_law 274 = .ok (.iadd, 1) := by decide +kernel
theorem dL_law_275 : decode cL_law 275 = .ok (.iaload, 1) := by decide +kernel
theorem dL_law_276 : decode cL_law 276 = .ok (.aload_n 0, 1) := by decide +kernel
theorem dL_law_277 : decode cL_law 277 = .ok (.iload_n 3, 1) := by decide +kernel
theorem dL_law_278 : decode cL_law 278 = .ok (.iconst 4, 1) := by decide +kernel
theorem dL_law_279 : decode cL_law 279 = .ok (.iadd, 1) := by decide +kernel
theorem dL_law_280 : decode cL_law 280 = .ok (.iaload, 1) := by decide +kernel
theorem dL_law_281 : decode cL_law 281 = .ok (.invokevirtual 23, 3) := by decide +kernel
theorem dL_law_284 : decode cL_law 284 = .ok (.aload_n 2, 1) := by decide +kernel
theorem dL_law_285 : decode cL_law 285 = .ok (.aload_n 0, 1) := by decide +kernel
theorem dL_law_286 : decode cL_law 286 = .ok (.iload_n 3, 1) := by decide +kernel
theorem dL_law_287 : decode cL_law 287 = .ok (.iconst 1, 1) := by decide +kernel
theorem dL_law_288 : decode cL_law 288 = .ok (.iadd, 1) := by decide +kernel
theorem dL_law_289 : decode cL_law 289 = .ok (.iaload, 1) := by decide +kernel
theorem dL_law_290 : decode cL_law 290 = .ok (.aload_n 0, 1) := by decide +kernel
theorem dL_law_291 : decode cL_law 291 = .ok (.iload_n 3, 1) := by decide +kernel
theorem dL_law_292 : decode cL_law 292 = .ok (.iconst 2, 1) := by decide +kernel
theorem dL_law_293 : decode cL_law 293 = .ok (.iadd, 1) := by decide +kernel
theorem dL_law_294 : decode cL_law 294 = .ok (.iaload, 1) := by decide +kernel
theorem dL_law_295 : decode cL_law 295 = .ok (.aload_n 0, 1) := by decide +kernel
theorem dL_law_296 : decode cL_law 296 = .ok (.iload_n 3, 1) := by decide +kernel
theorem dL_law_297 : decode cL_law 297 = .ok (.iconst 3, 1) := by decide +kernel
theorem dL_law_298 : decode cL_law 298 = .ok (.iadd, 1) := by decide +kernel
theorem dL_law_299 : decode cL_law 299 = .ok (.iaload, 1) := by decide +kernel
theorem dL_law_300 : decode cL_law 300 = .ok (.aload_n 0, 1) := by decide +kernel
theorem dL_law_301 : decode cL_law 301 = .ok (.iload_n 3, 1) := by decide +kernel
theorem dL_law_302 : decode cL_law 302 = .ok (.iconst 4, 1) := by decide +kernel
theorem dL_law_303 : decode cL_law 303 = .ok (.iadd, 1) := by decide +kernel
theorem dL_law_304 : decode cL_law 304 = .ok (.iaload, 1) := by decide +kernel
theorem dL_law_305 : decode cL_law 305 = .ok (.invokevirtual 26, 3) := by decide +kernel
theorem dL_law_308 : decode cL_law 308 = .ok (.if_icmp .eq 689, 3) := by decide +kernel
theorem dL_law_311 : decode cL_law 311 = .ok (.iconst 0, 1) := by decide +kernel
theorem dL_law_312 : decode cL_law 312 = .ok (.ireturn, 1) := by decide +kernel
theorem dL_law_313 : decode cL_law 313 = .ok (.aload_n 1, 1) := by decide +kernel
theorem dL_law_314 : decode cL_law 314 = .ok (.aload_n 0, 1) := by decide +kernel
theorem dL_law_315 : decode cL_law 315 = .ok (.iload_n 3, 1) := by decide +kernel
theorem dL_law_316 : decode cL_law 316 = .ok (.iconst 1, 1) := by decide +kernel
theorem dL_law_317 : decode cL_law 317 = .ok (.iadd, 1) := by decide +kernel
theorem dL_law_318 : decode cL_law 318 = .ok (.iaload, 1) := by decide +kernel
theorem dL_law_319 : decode cL_law 319 = .ok (.aload_n 0, 1) := by decide +kernel
theorem dL_law_320 : decode cL_law 320 = .ok (.iload_n 3, 1) := by decide +kernel
theorem dL_law_321 : decode cL_law 321 = .ok (.iconst 2, 1) := by decide +kernel
theorem dL_law_322 : decode cL_law 322 = .ok (.iadd, 1) := by decide +kernel
theorem dL_law_323 : decode cL_law 323 = .ok (.iaload, 1) := by decide +kernel
theorem dL_law_324 : decode cL_law 324 = .ok (.aload_n 0, 1) := by decide +kernel
theorem dL_law_325 : decode cL_law 325 = .ok (.iload_n 3, 1) := by decide +kernel
theorem dL_law_326 : decode cL_law 326 = .ok (.iconst 3, 1) := by decide +kernel
theorem dL_law_327 : decode cL_law 327 = .ok (.iadd, 1) := by decide +kernel
theorem dL_law_328 : decode cL_law 328 = .ok (.iaload, 1) := by decide +kernel
theorem dL_law_329 : decode cL_law 329 = .ok (.invokevirtual 27, 3) := by decide +kernel
theorem dL_law_332 : decode cL_law 332 = .ok (.aload_n 2, 1) := by decide +kernel
theorem dL_law_333 : decode cL_law 333 = .ok (.aload_n 0, 1) := by decide +kernel
theorem dL_law_334 : decode cL_law 334 = .ok (.iload_n 3, 1) := by decide +kernel
theorem dL_law_335 : decode cL_law 335 = .ok (.iconst 1, 1) := by decide +kernel
theorem dL_law_336 : decode cL_law 336 = .ok (.iadd, 1) := by decide +kernel
theorem dL_law_337 : decode cL_law 337 = .ok (.iaload, 1) := by decide +kernel
theorem dL_law_338 : decode cL_law 338 = .ok (.aload_n 0, 1) := by decide +kernel
theorem dL_law_339 : decode cL_law 339 = .ok (.iload_n 3, 1) := by decide +kernel
theorem dL_law_340 : decode cL_law 340 = .ok (.iconst 2, 1) := by decide +kernel
theorem dL_law_341 : decode cL_law 341 = .ok (.iadd, 1) := by decide +kernel
theorem dL_law_342 : decode cL_law 342 = .ok (.iaload, 1) := by decide +kernel
theorem dL_law_343 : decode cL_law 343 = .ok (.aload_n 0, 1) := by decide +kernel
theorem dL_law_344 : decode cL_law 344 = .ok (.iload_n 3, 1) := by decide +kernel
theorem dL_law_345 : decode cL_law 345 = .ok (.iconst 3, 1) := by decide +kernel
theorem dL_law_346 : decode cL_law 346 = .ok (.iadd, 1) := by decide +kernel
theorem dL_law_347 : decode cL_law 347 = .ok (.iaload, 1) := by decide +kernel
theorem dL_law_348 : decode cL_law 348 = .ok (.invokevirtual 31, 3) := by decide +kernel
theorem dL_law_351 : decode cL_law 351 = .ok (.if_icmp .eq 646, 3) := by decide +kernel
theorem dL_law_354 : decode cL_law 354 = .ok (.iconst 0, 1) := by decide +kernel
theorem dL_law_355 : decode cL_law 355 = .ok (.ireturn, 1) := by decide +kernel
theorem dL_law_356 : decode cL_law 356 = .ok (.aload_n 1, 1) := by decide +kernel
theorem dL_law_357 : decode cL_law 357 = .ok (.aload_n 0, 1) := by decide +kernel
theorem dL_law_358 : decode cL_law 358 = .ok (.iload_n 3, 1) := by decide +kernel
theorem dL_law_359 : decode cL_law 359 = .ok (.iconst 1, 1) := by decide +kernel
theorem dL_law_360 : decode cL_law 360 = .ok (.iadd, 1) := by decide +kernel
theorem dL_law_361 : decode cL_law 361 = .ok (.iaload, 1) := by decide +kernel
theorem dL_law_362 : decode cL_law 362 = .ok (.aload_n 0, 1) := by decide +kernel
theorem dL_law_363 : decode cL_law 363 = .ok (.iload_n 3, 1) := by decide +kernel
theorem dL_law_364 : decode cL_law 364 = .ok (.iconst 2, 1) := by decide +kernel
theorem dL_law_365 : decode cL_law 365 = .ok (.iadd, 1) := by decide +kernel
theorem dL_law_366 : decode cL_law 366 = .ok (.iaload, 1) := by decide +kernel
theorem dL_law_367 : decode cL_law 367 = .ok (.aload_n 0, 1) := by decide +kernel
theorem dL_law_368 : decode cL_law 368 = .ok (.iload_n 3, 1) := by decide +kernel
theorem dL_law_369 : decode cL_law 369 = .ok (.iconst 3, 1) := by decide +kernel
theorem dL_law_370 : decode cL_law 370 = .ok (.iadd, 1) := by decide +kernel
theorem dL_law_371 : decode cL_law 371 = .ok (.iaload, 1) := by decide +kernel
theorem dL_law_372 : decode cL_law 372 = .ok (.invokevirtual 32, 3) := by decide +kernel
theorem dL_law_375 : decode cL_law 375 = .ok (.aload_n 2, 1) := by decide +kernel
theorem dL_law_376 : decode cL_law 376 = .ok (.aload_n 0, 1) := by decide +kernel
theorem dL_law_377 : decode cL_law 377 = .ok (.iload_n 3, 1) := by decide +kernel
theorem dL_law_378 : decode cL_law 378 = .ok (.iconst 1, 1) := by decide +kernel
theorem dL_law_379 : decode cL_law 379 = .ok (.iadd, 1) := by decide +kernel
theorem dL_law_380 : decode cL_law 380 = .ok (.iaload, 1) := by decide +kernel
theorem dL_law_381 : decode cL_law 381 = .ok (.aload_n 0, 1) := by decide +kernel
theorem dL_law_382 : decode cL_law 382 = .ok (.iload_n 3, 1) := by decide +kernel
theorem dL_law_383 : decode cL_law 383 = .ok (.iconst 2, 1) := by decide +kernel
theorem dL_law_384 : decode cL_law 384 = .ok (.iadd, 1) := by decide +kernel
theorem dL_law_385 : decode cL_law 385 = .ok (.iaload, 1) := by decide +kernel
theorem dL_law_386 : decode cL_law 386 = .ok (.aload_n 0, 1) := by decide +kernel
theorem dL_law_387 : decode cL_law 387 = .ok (.iload_n 3, 1) := by decide +kernel
theorem dL_law_388 : decode cL_law 388 = .ok (.iconst 3, 1) := by decide +kernel
theorem dL_law_389 : decode cL_law 389 = .ok (.iadd, 1) := by decide +kernel
theorem dL_law_390 : decode cL_law 390 = .ok (.iaload, 1) := by decide +kernel
theorem dL_law_391 : decode cL_law 391 = .ok (.invokevirtual 35, 3) := by decide +kernel
theorem dL_law_394 : decode cL_law 394 = .ok (.if_icmp .eq 603, 3) := by decide +kernel
theorem dL_law_397 : decode cL_law 397 = .ok (.iconst 0, 1) := by decide +kernel
theorem dL_law_398 : decode cL_law 398 = .ok (.ireturn, 1) := by decide +kernel
theorem dL_law_399 : decode cL_law 399 = .ok (.aload_n 1, 1) := by decide +kernel
theorem dL_law_400 : decode cL_law 400 = .ok (.aload_n 0, 1) := by decide +kernel
theorem dL_law_401 : decode cL_law 401 = .ok (.iload_n 3, 1) := by decide +kernel
theorem dL_law_402 : decode cL_law 402 = .ok (.iconst 1, 1) := by decide +kernel
theorem dL_law_403 : decode cL_law 403 = .ok (.iadd, 1) := by decide +kernel
theorem dL_law_404 : decode cL_law 404 = .ok (.iaload, 1) := by decide +kernel
theorem dL_law_405 : decode cL_law 405 = .ok (.aload_n 0, 1) := by decide +kernel
theorem dL_law_406 : decode cL_law 406 = .ok (.iload_n 3, 1) := by decide +kernel
theorem dL_law_407 : decode cL_law 407 = .ok (.iconst 2, 1) := by decide +kernel
theorem dL_law_408 : decode cL_law 408 = .ok (.iadd, 1) := by decide +kernel
theorem dL_law_409 : decode cL_law 409 = .ok (.iaload, 1) := by decide +kernel
theorem dL_law_410 : decode cL_law 410 = .ok (.invokevirtual 36, 3) := by decide +kernel
theorem dL_law_413 : decode cL_law 413 = .ok (.aload_n 2, 1) := by decide +kernel
theorem dL_law_414 : decode cL_law 414 = .ok (.aload_n 0, 1) := by decide +kernel
theorem dL_law_415 : decode cL_law 415 = .ok (.iload_n 3, 1) := by decide +kernel
theorem dL_law_416 : decode cL_law 416 = .ok (.iconst 1, 1) := by decide +kernel
theorem dL_law_417 : decode cL_law 417 = .ok (.iadd, 1) := by decide +kernel
theorem dL_law_418 : decode cL_law 418 = .ok (.iaload, 1) := by decide +kernel
theorem dL_law_419 : decode cL_law 419 = .ok (.aload_n 0, 1) := by decide +kernel
theorem dL_law_420 : decode cL_law 420 = .ok (.iload_n 3, 1) := by decide +kernel
theorem dL_law_421 : decode cL_law 421 = .ok (.iconst 2, 1) := by decide +kernel
theorem dL_law_422 : decode cL_law 422 = .ok (.iadd, 1) := by decide +kernel
theorem dL_law_423 : decode cL_law 423 = .ok (.iaload, 1) := by decide +kernel
theorem dL_law_424 : decode cL_law 424 = .ok (.invokevirtual 40, 3) := by decide +kernel
theorem dL_law_427 : decode cL_law 427 = .ok (.if_icmp .eq 570, 3) := by decide +kernel
theorem dL_law_430 : decode cL_law 430 = .ok (.iconst 0, 1) := by decide +kernel
theorem dL_law_431 : decode cL_law 431 = .ok (.ireturn, 1) := by decide +kernel
theorem dL_law_432 : decode cL_law 432 = .ok (.aload_n 1, 1) := by decide +kernel
theorem dL_law_433 : decode cL_law 433 = .ok (.aload_n 0, 1) := by decide +kernel
theorem dL_law_434 : decode cL_law 434 = .ok (.iload_n 3, 1) := by decide +kernel
theorem dL_law_435 : decode cL_law 435 = .ok (.iconst 1, 1) := by decide +kernel
theorem dL_law_436 : decode cL_law 436 = .ok (.iadd, 1) := by decide +kernel
theorem dL_law_437 : decode cL_law 437 = .ok (.iaload, 1) := by decide +kernel
theorem dL_law_438 : decode cL_law 438 = .ok (.aload_n 0, 1) := by decide +kernel
theorem dL_law_439 : decode cL_law 439 = .ok (.iload_n 3, 1) := by decide +kernel
theorem dL_law_440 : decode cL_law 440 = .ok (.iconst 2, 1) := by decide +kernel
theorem dL_law_441 : decode cL_law 441 = .ok (.iadd, 1) := by decide +kernel
theorem dL_law_442 : decode cL_law 442 = .ok (.iaload, 1) := by decide +kernel
theorem dL_law_443 : decode cL_law 443 = .ok (.aload_n 0, 1) := by decide +kernel
theorem dL_law_444 : decode cL_law 444 = .ok (.iload_n 3, 1) := by decide +kernel
theorem dL_law_445 : decode cL_law 445 = .ok (.iconst 3, 1) := by decide +kernel
theorem dL_law_446 : decode cL_law 446 = .ok (.iadd, 1) := by decide +kernel
theorem dL_law_447 : decode cL_law 447 = .ok (.iaload, 1) := by decide +kernel
theorem dL_law_448 : decode cL_law 448 = .ok (.aload_n 0, 1) := by decide +kernel
theorem dL_law_449 : decode cL_law 449 = .ok (.iload_n 3, 1) := by decide +kernel
theorem dL_law_450 : decode cL_law 450 = .ok (.iconst 4, 1) := by decide +kernel
theorem dL_law_451 : decode cL_law 451 = .ok (.iadd, 1) := by decide +kernel
theorem dL_law_452 : decode cL_law 452 = .ok (.iaload, 1) := by decide +kernel
theorem dL_law_453 : decode cL_law 453 = .ok (.invokevirtual 41, 3) := by decide +kernel
theorem dL_law_456 : decode cL_law 456 = .ok (.aload_n 2, 1) := by decide +kernel
theorem dL_law_457 : decode cL_law 457 = .ok (.aload_n 0, 1) := by decide +kernel
theorem dL_law_458 : decode cL_law 458 = .ok (.iload_n 3, 1) := by decide +kernel
theorem dL_law_459 : decode cL_law 459 = .ok (.iconst 1, 1) := by decide +kernel
theorem dL_law_460 : decode cL_law 460 = .ok (.iadd, 1) := by decide +kernel
theorem dL_law_461 : decode cL_law 461 = .ok (.iaload, 1) := by decide +kernel
theorem dL_law_462 : decode cL_law 462 = .ok (.aload_n 0, 1) := by decide +kernel
theorem dL_law_463 : decode cL_law 463 = .ok (.iload_n 3, 1) := by decide +kernel
theorem dL_law_464 : decode cL_law 464 = .ok (.iconst 2, 1) := by decide +kernel
theorem dL_law_465 : decode cL_law 465 = .ok (.iadd, 1) := by decide +kernel
theorem dL_law_466 : decode cL_law 466 = .ok (.iaload, 1) := by decide +kernel
theorem dL_law_467 : decode cL_law 467 = .ok (.aload_n 0, 1) := by decide +kernel
theorem dL_law_468 : decode cL_law 468 = .ok (.iload_n 3, 1) := by decide +kernel
theorem dL_law_469 : decode cL_law 469 = .ok (.iconst 3, 1) := by decide +kernel
theorem dL_law_470 : decode cL_law 470 = .ok (.iadd, 1) := by decide +kernel
theorem dL_law_471 : decode cL_law 471 = .ok (.iaload, 1) := by decide +kernel
theorem dL_law_472 : decode cL_law 472 = .ok (.aload_n 0, 1) := by decide +kernel
theorem dL_law_473 : decode cL_law 473 = .ok (.iload_n 3, 1) := by decide +kernel
theorem dL_law_474 : decode cL_law 474 = .ok (.iconst 4, 1) := by decide +kernel
theorem dL_law_475 : decode cL_law 475 = .ok (.iadd, 1) := by decide +kernel
theorem dL_law_476 : decode cL_law 476 = .ok (.iaload, 1) := by decide +kernel
theorem dL_law_477 : decode cL_law 477 = .ok (.invokevirtual 44, 3) := by decide +kernel
theorem dL_law_480 : decode cL_law 480 = .ok (.if_icmp .eq 517, 3) := by decide +kernel
theorem dL_law_483 : decode cL_law 483 = .ok (.iconst 0, 1) := by decide +kernel
theorem dL_law_484 : decode cL_law 484 = .ok (.ireturn, 1) := by decide +kernel
theorem dL_law_485 : decode cL_law 485 = .ok (.aload_n 1, 1) := by decide +kernel
theorem dL_law_486 : decode cL_law 486 = .ok (.aload_n 0, 1) := by decide +kernel
theorem dL_law_487 : decode cL_law 487 = .ok (.iload_n 3, 1) := by decide +kernel
theorem dL_law_488 : decode cL_law 488 = .ok (.iconst 1, 1) := by decide +kernel
theorem dL_law_489 : decode cL_law 489 = .ok (.iadd, 1) := by decide +kernel
theorem dL_law_490 : decode cL_law 490 = .ok (.iaload, 1) := by decide +kernel
theorem dL_law_491 : decode cL_law 491 = .ok (.aload_n 0, 1) := by decide +kernel
theorem dL_law_492 : decode cL_law 492 = .ok (.iload_n 3, 1) := by decide +kernel
theorem dL_law_493 : decode cL_law 493 = .ok (.iconst 2, 1) := by decide +kernel
theorem dL_law_494 : decode cL_law 494 = .ok (.iadd, 1) := by decide +kernel
theorem dL_law_495 : decode cL_law 495 = .ok (.iaload, 1) := by decide +kernel
theorem dL_law_496 : decode cL_law 496 = .ok (.invokevirtual 45, 3) := by decide +kernel
theorem dL_law_499 : decode cL_law 499 = .ok (.aload_n 2, 1) := by decide +kernel
theorem dL_law_500 : decode cL_law 500 = .ok (.aload_n 0, 1) := by decide +kernel
theorem dL_law_501 : decode cL_law 501 = .ok (.iload_n 3, 1) := by decide +kernel
theorem dL_law_502 : decode cL_law 502 = .ok (.iconst 1, 1) := by decide +kernel
theorem dL_law_503 : decode cL_law 503 = .ok (.iadd, 1) := by decide +kernel
theorem dL_law_504 : decode cL_law 504 = .ok (.iaload, 1) := by decide +kernel
theorem dL_law_505 : decode cL_law 505 = .ok (.aload_n 0, 1) := by decide +kernel
theorem dL_law_506 : decode cL_law 506 = .ok (.iload_n 3, 1) := by decide +kernel
theorem dL_law_507 : decode cL_law 507 = .ok (.iconst 2, 1) := by decide +kernel
theorem dL_law_508 : decode cL_law 508 = .ok (.iadd, 1) := by decide +kernel
theorem dL_law_509 : decode cL_law 509 = .ok (.iaload, 1) := by decide +kernel
theorem dL_law_510 : decode cL_law 510 = .ok (.invokevirtual 48, 3) := by decide +kernel
theorem dL_law_513 : decode cL_law 513 = .ok (.if_icmp .eq 484, 3) := by decide +kernel
theorem dL_law_516 : decode cL_law 516 = .ok (.iconst 0, 1) := by decide +kernel
theorem dL_law_517 : decode cL_law 517 = .ok (.ireturn, 1) := by decide +kernel
theorem dL_law_518 : decode cL_law 518 = .ok (.aload_n 1, 1) := by decide +kernel
theorem dL_law_519 : decode cL_law 519 = .ok (.aload_n 0, 1) := by decide +kernel
theorem dL_law_520 : decode cL_law 520 = .ok (.iload_n 3, 1) := by decide +kernel
theorem dL_law_521 : decode cL_law 521 = .ok (.iconst 1, 1) := by decide +kernel
theorem dL_law_522 : decode cL_law 522 = .ok (.iadd, 1) := by decide +kernel
theorem dL_law_523 : decode cL_law 523 = .ok (.iaload, 1) := by decide +kernel
theorem dL_law_524 : decode cL_law 524 = .ok (.invokevirtual 49, 3) := by decide +kernel
theorem dL_law_527 : decode cL_law 527 = .ok (.aload_n 2, 1) := by decide +kernel
theorem dL_law_528 : decode cL_law 528 = .ok (.aload_n 0, 1) := by decide +kernel
theorem dL_law_529 : decode cL_law 529 = .ok (.iload_n 3, 1) := by decide +kernel
theorem dL_law_530 : decode cL_law 530 = .ok (.iconst 1, 1) := by decide +kernel
theorem dL_law_531 : decode cL_law 531 = .ok (.iadd, 1) := by decide +kernel
theorem dL_law_532 : decode cL_law 532 = .ok (.iaload, 1) := by decide +kernel
theorem dL_law_533 : decode cL_law 533 = .ok (.invokevirtual 53, 3) := by decide +kernel
theorem dL_law_536 : decode cL_law 536 = .ok (.if_icmp .eq 461, 3) := by decide +kernel
theorem dL_law_539 : decode cL_law 539 = .ok (.iconst 0, 1) := by decide +kernel
theorem dL_law_540 : decode cL_law 540 = .ok (.ireturn, 1) := by decide +kernel
theorem dL_law_541 : decode cL_law 541 = .ok (.aload_n 1, 1) := by decide +kernel
theorem dL_law_542 : decode cL_law 542 = .ok (.aload_n 0, 1) := by decide +kernel
theorem dL_law_543 : decode cL_law 543 = .ok (.iload_n 3, 1) := by decide +kernel
theorem dL_law_544 : decode cL_law 544 = .ok (.iconst 1, 1) := by decide +kernel
theorem dL_law_545 : decode cL_law 545 = .ok (.iadd, 1) := by decide +kernel
theorem dL_law_546 : decode cL_law 546 = .ok (.iaload, 1) := by decide +kernel
theorem dL_law_547 : decode cL_law 547 = .ok (.aload_n 0, 1) := by decide +kernel
theorem dL_law_548 : decode cL_law 548 = .ok (.iload_n 3, 1) := by decide +kernel
theorem dL_law_549 : decode cL_law 549 = .ok (.iconst 2, 1) := by decide +kernel
theorem dL_law_550 : decode cL_law 550 = .ok (.iadd, 1) := by decide +kernel
theorem dL_law_551 : decode cL_law 551 = .ok (.iaload, 1) := by decide +kernel
theorem dL_law_552 : decode cL_law 552 = .ok (.aload_n 0, 1) := by decide +kernel
theorem dL_law_553 : decode cL_law 553 = .ok (.iload_n 3, 1) := by decide +kernel
theorem dL_law_554 : decode cL_law 554 = .ok (.iconst 3, 1) := by decide +kernel
theorem dL_law_555 : decode cL_law 555 = .ok (.iadd, 1) := by decide +kernel
theorem dL_law_556 : decode cL_law 556 = .ok (.iaload, 1) := by decide +kernel
theorem dL_law_557 : decode cL_law 557 = .ok (.invokevirtual 54, 3) := by decide +kernel
theorem dL_law_560 : decode cL_law 560 = .ok (.aload_n 2, 1) := by decide +kernel
theorem dL_law_561 : decode cL_law 561 = .ok (.aload_n 0, 1) := by decide +kernel
theorem dL_law_562 : decode cL_law 562 = .ok (.iload_n 3, 1) := by decide +kernel
theorem dL_law_563 : decode cL_law 563 = .ok (.iconst 1, 1) := by decide +kernel
theorem dL_law_564 : decode cL_law 564 = .ok (.iadd, 1) := by decide +kernel
theorem dL_law_565 : decode cL_law 565 = .ok (.iaload, 1) := by decide +kernel
theorem dL_law_566 : decode cL_law 566 = .ok (.aload_n 0, 1) := by decide +kernel
theorem dL_law_567 : decode cL_law 567 = .ok (.iload_n 3, 1) := by decide +kernel
theorem dL_law_568 : decode cL_law 568 = .ok (.iconst 2, 1) := by decide +kernel
theorem dL_law_569 : decode cL_law 569 = .ok (.iadd, 1) := by decide +kernel
theorem dL_law_570 : decode cL_law 570 = .ok (.iaload, 1) := by decide +kernel
theorem dL_law_571 : decode cL_law 571 = .ok (.aload_n 0, 1) := by decide +kernel
theorem dL_law_572 : decode cL_law 572 = .ok (.iload_n 3, 1) := by decide +kernel
theorem dL_law_573 : decode cL_law 573 = .ok (.iconst 3, 1) := by decide +kernel
theorem dL_law_574 : decode cL_law 574 = .ok (.iadd, 1) := by decide +kernel
theorem dL_law_575 : decode cL_law 575 = .ok (.iaload, 1) := by decide +kernel
theorem dL_law_576 : decode cL_law 576 = .ok (.invokevirtual 57, 3) := by decide +kernel
theorem dL_law_579 : decode cL_law 579 = .ok (.if_icmp .eq 418, 3) := by decide +kernel
theorem dL_law_582 : decode cL_law 582 = .ok (.iconst 0, 1) := by decide +kernel
theorem dL_law_583 : decode cL_law 583 = .ok (.ireturn, 1) := by decide +kernel
theorem dL_law_584 : decode cL_law 584 = .ok (.aload_n 1, 1) := by decide +kernel
theorem dL_law_585 : decode cL_law 585 = .ok (.aload_n 0, 1) := by decide +kernel
theorem dL_law_586 : decode cL_law 586 = .ok (.iload_n 3, 1) := by decide +kernel
theorem dL_law_587 : decode cL_law 587 = .ok (.iconst 1, 1) := by decide +kernel
theorem dL_law_588 : decode cL_law 588 = .ok (.iadd, 1) := by decide +kernel
theorem dL_law_589 : decode cL_law 589 = .ok (.iaload, 1) := by decide +kernel
theorem dL_law_590 : decode cL_law 590 = .ok (.aload_n 0, 1) := by decide +kernel
theorem dL_law_591 : decode cL_law 591 = .ok (.iload_n 3, 1) := by decide +kernel
theorem dL_law_592 : decode cL_law 592 = .ok (.iconst 2, 1) := by decide +kernel
theorem dL_law_593 : decode cL_law 593 = .ok (.iadd, 1) := by decide +kernel
theorem dL_law_594 : decode cL_law 594 = .ok (.iaload, 1) := by decide +kernel
theorem dL_law_595 : decode cL_law 595 = .ok (.aload_n 0, 1) := by decide +kernel
theorem dL_law_596 : decode cL_law 596 = .ok (.iload_n 3, 1) := by decide +kernel
theorem dL_law_597 : decode cL_law 597 = .ok (.iconst 3, 1) := by decide +kernel
theorem dL_law_598 : decode cL_law 598 = .ok (.iadd, 1) := by decide +kernel
theorem dL_law_599 : decode cL_law 599 = .ok (.iaload, 1) := by decide +kernel
theorem dL_law_600 : decode cL_law 600 = .ok (.invokevirtual 58, 3) := by decide +kernel
theorem dL_law_603 : decode cL_law 603 = .ok (.aload_n 2, 1) := by decide +kernel
theorem dL_law_604 : decode cL_law 604 = .ok (.aload_n 0, 1) := by decide +kernel
theorem dL_law_605 : decode cL_law 605 = .ok (.iload_n 3, 1) := by decide +kernel
theorem dL_law_606 : decode cL_law 606 = .ok (.iconst 1, 1) := by decide +kernel
theorem dL_law_607 : decode cL_law 607 = .ok (.iadd, 1) := by decide +kernel
theorem dL_law_608 : decode cL_law 608 = .ok (.iaload, 1) := by decide +kernel
theorem dL_law_609 : decode cL_law 609 = .ok (.aload_n 0, 1) := by decide +kernel
theorem dL_law_610 : decode cL_law 610 = .ok (.iload_n 3, 1) := by decide +kernel
theorem dL_law_611 : decode cL_law 611 = .ok (.iconst 2, 1) := by decide +kernel
theorem dL_law_612 : decode cL_law 612 = .ok (.iadd, 1) := by decide +kernel
theorem dL_law_613 : decode cL_law 613 = .ok (.iaload, 1) := by decide +kernel
theorem dL_law_614 : decode cL_law 614 = .ok (.aload_n 0, 1) := by decide +kernel
theorem dL_law_615 : decode cL_law 615 = .ok (.iload_n 3, 1) := by decide +kernel
theorem dL_law_616 : decode cL_law 616 = .ok (.iconst 3, 1) := by decide +kernel
theorem dL_law_617 : decode cL_law 617 = .ok (.iadd, 1) := by decide +kernel
theorem dL_law_618 : decode cL_law 618 = .ok (.iaload, 1) := by decide +kernel
theorem dL_law_619 : decode cL_law 619 = .ok (.invokevirtual 61, 3) := by decide +kernel
theorem dL_law_622 : decode cL_law 622 = .ok (.if_icmp .eq 375, 3) := by decide +kernel
theorem dL_law_625 : decode cL_law 625 = .ok (.iconst 0, 1) := by decide +kernel
theorem dL_law_626 : decode cL_law 626 = .ok (.ireturn, 1) := by decide +kernel
theorem dL_law_627 : decode cL_law 627 = .ok (.aload_n 1, 1) := by decide +kernel
theorem dL_law_628 : decode cL_law 628 = .ok (.aload_n 0, 1) := by decide +kernel
theorem dL_law_629 : decode cL_law 629 = .ok (.iload_n 3, 1) := by decide +kernel
theorem dL_law_630 : decode cL_law 630 = .ok (.iconst 1, 1) := by decide +kernel
theorem dL_law_631 : decode cL_law 631 = .ok (.iadd, 1) := by decide +kernel
theorem dL_law_632 : decode cL_law 632 = .ok (.iaload, 1) := by decide +kernel
theorem dL_law_633 : decode cL_law 633 = .ok (.aload_n 0, 1) := by decide +kernel
theorem dL_law_634 : decode cL_law 634 = .ok (.iload_n 3, 1) := by decide +kernel
theorem dL_law_635 : decode cL_law 635 = .ok (.iconst 2, 1) := by decide +kernel
theorem dL_law_636 : decode cL_law 636 = .ok (.iadd, 1) := by decide +kernel
theorem dL_law_637 : decode cL_law 637 = .ok (.iaload, 1) := by decide +kernel
theorem dL_law_638 : decode cL_law 638 = .ok (.invokevirtual 62, 3) := by decide +kernel
theorem dL_law_641 : decode cL_law 641 = .ok (.aload_n 2, 1) := by decide +kernel
theorem dL_law_642 : decode cL_law 642 = .ok (.aload_n 0, 1) := by decide +kernel
theorem dL_law_643 : decode cL_law 643 = .ok (.iload_n 3, 1) := by decide +kernel
theorem dL_law_644 : decode cL_law 644 = .ok (.iconst 1, 1) := by decide +kernel
theorem dL_law_645 : decode cL_law 645 = .ok (.iadd, 1) := by decide +kernel
theorem dL_law_646 : decode cL_law 646 = .ok (.iaload, 1) := by decide +kernel
theorem dL_law_647 : decode cL_law 647 = .ok (.aload_n 0, 1) := by decide +kernel
theorem dL_law_648 : decode cL_law 648 = .ok (.iload_n 3, 1) := by decide +kernel
theorem dL_law_649 : decode cL_law 649 = .ok (.iconst 2, 1) := by decide +kernel
theorem dL_law_650 : decode cL_law 650 = .ok (.iadd, 1) := by decide +kernel
theorem dL_law_651 : decode cL_law 651 = .ok (.iaload, 1) := by decide +kernel
theorem dL_law_652 : decode cL_law 652 = .ok (.invokevirtual 65, 3) := by decide +kernel
theorem dL_law_655 : decode cL_law 655 = .ok (.if_icmp .eq 342, 3) := by decide +kernel
theorem dL_law_658 : decode cL_law 658 = .ok (.iconst 0, 1) := by decide +kernel
theorem dL_law_659 : decode cL_law 659 = .ok (.ireturn, 1) := by decide +kernel
theorem dL_law_660 : decode cL_law 660 = .ok (.aload_n 1, 1) := by decide +kernel
theorem dL_law_661 : decode cL_law 661 = .ok (.aload_n 0, 1) := by decide +kernel
theorem dL_law_662 : decode cL_law 662 = .ok (.iload_n 3, 1) := by decide +kernel
theorem dL_law_663 : decode cL_law 663 = .ok (.iconst 1, 1) := by decide +kernel
theorem dL_law_664 : decode cL_law 664 = .ok (.iadd, 1) := by decide +kernel
theorem dL_law_665 : decode cL_law 665 = .ok (.iaload, 1) := by decide +kernel
theorem dL_law_666 : decode cL_law 666 = .ok (.aload_n 0, 1) := by decide +kernel
theorem dL_law_667 : decode cL_law 667 = .ok (.iload_n 3, 1) := by decide +kernel
theorem dL_law_668 : decode cL_law 668 = .ok (.iconst 2, 1) := by decide +kernel
theorem dL_law_669 : decode cL_law 669 = .ok (.iadd, 1) := by decide +kernel
theorem dL_law_670 : decode cL_law 670 = .ok (.iaload, 1) := by decide +kernel
theorem dL_law_671 : decode cL_law 671 = .ok (.aload_n 0, 1) := by decide +kernel
theorem dL_law_672 : decode cL_law 672 = .ok (.iload_n 3, 1) := by decide +kernel
theorem dL_law_673 : decode cL_law 673 = .ok (.iconst 3, 1) := by decide +kernel
theorem dL_law_674 : decode cL_law 674 = .ok (.iadd, 1) := by decide +kernel
theorem dL_law_675 : decode cL_law 675 = .ok (.iaload, 1) := by decide +kernel
theorem dL_law_676 : decode cL_law 676 = .ok (.invokevirtual 66, 3) := by decide +kernel
theorem dL_law_679 : decode cL_law 679 = .ok (.aload_n 2, 1) := by decide +kernel
theorem dL_law_680 : decode cL_law 680 = .ok (.aload_n 0, 1) := by decide +kernel
theorem dL_law_681 : decode cL_law 681 = .ok (.iload_n 3, 1) := by decide +kernel
theorem dL_law_682 : decode cL_law 682 = .ok (.iconst 1, 1) := by decide +kernel
theorem dL_law_683 : decode cL_law 683 = .ok (.iadd, 1) := by decide +kernel
theorem dL_law_684 : decode cL_law 684 = .ok (.iaload, 1) := by decide +kernel
theorem dL_law_685 : decode cL_law 685 = .ok (.aload_n 0, 1) := by decide +kernel
theorem dL_law_686 : decode cL_law 686 = .ok (.iload_n 3, 1) := by decide +kernel
theorem dL_law_687 : decode cL_law 687 = .ok (.iconst 2, 1) := by decide +kernel
theorem dL_law_688 : decode cL_law 688 = .ok (.iadd, 1) := by decide +kernel
theorem dL_law_689 : decode cL_law 689 = .ok (.iaload, 1) := by decide +kernel
theorem dL_law_690 : decode cL_law 690 = .ok (.aload_n 0, 1) := by decide +kernel
theorem dL_law_691 : decode cL_law 691 = .ok (.iload_n 3, 1) := by decide +kernel
theorem dL_law_692 : decode cL_law 692 = .ok (.iconst 3, 1) := by decide +kernel
theorem dL_law_693 : decode cL_law 693 = .ok (.iadd, 1) := by decide +kernel
theorem dL_law_694 : decode cL_law 694 = .ok (.iaload, 1) := by decide +kernel
theorem dL_law_695 : decode cL_law 695 = .ok (.invokevirtual 69, 3) := by decide +kernel
theorem dL_law_698 : decode cL_law 698 = .ok (.if_icmp .eq 299, 3) := by decide +kernel
theorem dL_law_701 : decode cL_law 701 = .ok (.iconst 0, 1) := by decide +kernel
theorem dL_law_702 : decode cL_law 702 = .ok (.ireturn, 1) := by decide +kernel
theorem dL_law_703 : decode cL_law 703 = .ok (.aload_n 1, 1) := by decide +kernel
theorem dL_law_704 : decode cL_law 704 = .ok (.aload_n 0, 1) := by decide +kernel
theorem dL_law_705 : decode cL_law 705 = .ok (.iload_n 3, 1) := by decide +kernel
theorem dL_law_706 : decode cL_law 706 = .ok (.iconst 1, 1) := by decide +kernel
theorem dL_law_707 : decode cL_law 707 = .ok (.iadd, 1) := by decide +kernel
theorem dL_law_708 : decode cL_law 708 = .ok (.iaload, 1) := by decide +kernel
theorem dL_law_709 : decode cL_law 709 = .ok (.aload_n 0, 1) := by decide +kernel
theorem dL_law_710 : decode cL_law 710 = .ok (.iload_n 3, 1) := by decide +kernel
theorem dL_law_711 : decode cL_law 711 = .ok (.iconst 2, 1) := by decide +kernel
theorem dL_law_712 : decode cL_law 712 = .ok (.iadd, 1) := by decide +kernel
theorem dL_law_713 : decode cL_law 713 = .ok (.iaload, 1) := by decide +kernel
theorem dL_law_714 : decode cL_law 714 = .ok (.aload_n 0, 1) := by decide +kernel
theorem dL_law_715 : decode cL_law 715 = .ok (.iload_n 3, 1) := by decide +kernel
theorem dL_law_716 : decode cL_law 716 = .ok (.iconst 3, 1) := by decide +kernel
theorem dL_law_717 : decode cL_law 717 = .ok (.iadd, 1) := by decide +kernel
theorem dL_law_718 : decode cL_law 718 = .ok (.iaload, 1) := by decide +kernel
theorem dL_law_719 : decode cL_law 719 = .ok (.invokevirtual 70, 3) := by decide +kernel
theorem dL_law_722 : decode cL_law 722 = .ok (.aload_n 2, 1) := by decide +kernel
theorem dL_law_723 : decode cL_law 723 = .ok (.aload_n 0, 1) := by decide +kernel
theorem dL_law_724 : decode cL_law 724 = .ok (.iload_n 3, 1) := by decide +kernel
theorem dL_law_725 : decode cL_law 725 = .ok (.iconst 1, 1) := by decide +kernel
theorem dL_law_726 : decode cL_law 726 = .ok (.iadd, 1) := by decide +kernel
theorem dL_law_727 : decode cL_law 727 = .ok (.iaload, 1) := by decide +kernel
theorem dL_law_728 : decode cL_law 728 = .ok (.aload_n 0, 1) := by decide +kernel
theorem dL_law_729 : decode cL_law 729 = .ok (.iload_n 3, 1) := by decide +kernel
theorem dL_law_730 : decode cL_law 730 = .ok (.iconst 2, 1) := by decide +kernel
theorem dL_law_731 : decode cL_law 731 = .ok (.iadd, 1) := by decide +kernel
theorem dL_law_732 : decode cL_law 732 = .ok (.iaload, 1) := by decide +kernel
theorem dL_law_733 : decode cL_law 733 = .ok (.aload_n 0, 1) := by decide +kernel
theorem dL_law_734 : decode cL_law 734 = .ok (.iload_n 3, 1) := by decide +kernel
theorem dL_law_735 : decode cL_law 735 = .ok (.iconst 3, 1) := by decide +kernel
theorem dL_law_736 : decode cL_law 736 = .ok (.iadd, 1) := by decide +kernel
theorem dL_law_737 : decode cL_law 737 = .ok (.iaload, 1) := by decide +kernel
theorem dL_law_738 : decode cL_law 738 = .ok (.invokevirtual 73, 3) := by decide +kernel
theorem dL_law_741 : decode cL_law 741 = .ok (.if_icmp .eq 256, 3) := by decide +kernel
theorem dL_law_744 : decode cL_law 744 = .ok (.iconst 0, 1) := by decide +kernel
theorem dL_law_745 : decode cL_law 745 = .ok (.ireturn, 1) := by decide +kernel
theorem dL_law_746 : decode cL_law 746 = .ok (.aload_n 1, 1) := by decide +kernel
theorem dL_law_747 : decode cL_law 747 = .ok (.aload_n 0, 1) := by decide +kernel
theorem dL_law_748 : decode cL_law 748 = .ok (.iload_n 3, 1) := by decide +kernel
theorem dL_law_749 : decode cL_law 749 = .ok (.iconst 1, 1) := by decide +kernel
theorem dL_law_750 : decode cL_law 750 = .ok (.iadd, 1) := by decide +kernel
theorem dL_law_751 : decode cL_law 751 = .ok (.iaload, 1) := by decide +kernel
theorem dL_law_752 : decode cL_law 752 = .ok (.aload_n 0, 1) := by decide +kernel
theorem dL_law_753 : decode cL_law 753 = .ok (.iload_n 3, 1) := by decide +kernel
theorem dL_law_754 : decode cL_law 754 = .ok (.iconst 2, 1) := by decide +kernel
theorem dL_law_755 : decode cL_law 755 = .ok (.iadd, 1) := by decide +kernel
theorem dL_law_756 : decode cL_law 756 = .ok (.iaload, 1) := by decide +kernel
theorem dL_law_757 : decode cL_law 757 = .ok (.invokevirtual 74, 3) := by decide +kernel
theorem dL_law_760 : decode cL_law 760 = .ok (.aload_n 2, 1) := by decide +kernel
theorem dL_law_761 : decode cL_law 761 = .ok (.aload_n 0, 1) := by decide +kernel
theorem dL_law_762 : decode cL_law 762 = .ok (.iload_n 3, 1) := by decide +kernel
theorem dL_law_763 : decode cL_law 763 = .ok (.iconst 1, 1) := by decide +kernel
theorem dL_law_764 : decode cL_law 764 = .ok (.iadd, 1) := by decide +kernel
theorem dL_law_765 : decode cL_law 765 = .ok (.iaload, 1) := by decide +kernel
theorem dL_law_766 : decode cL_law 766 = .ok (.aload_n 0, 1) := by decide +kernel
theorem dL_law_767 : decode cL_law 767 = .ok (.iload_n 3, 1) := by decide +kernel
theorem dL_law_768 : decode cL_law 768 = .ok (.iconst 2, 1) := by decide +kernel
theorem dL_law_769 : decode cL_law 769 = .ok (.iadd, 1) := by decide +kernel
theorem dL_law_770 : decode cL_law 770 = .ok (.iaload, 1) := by decide +kernel
theorem dL_law_771 : decode cL_law 771 = .ok (.invokevirtual 77, 3) := by decide +kernel
theorem dL_law_774 : decode cL_law 774 = .ok (.if_icmp .eq 223, 3) := by decide +kernel
theorem dL_law_777 : decode cL_law 777 = .ok (.iconst 0, 1) := by decide +kernel
theorem dL_law_778 : decode cL_law 778 = .ok (.ireturn, 1) := by decide +kernel
theorem dL_law_779 : decode cL_law 779 = .ok (.aload_n 1, 1) := by decide +kernel
theorem dL_law_780 : decode cL_law 780 = .ok (.aload_n 0, 1) := by decide +kernel
theorem dL_law_781 : decode cL_law 781 = .ok (.iload_n 3, 1) := by decide +kernel
theorem dL_law_782 : decode cL_law 782 = .ok (.iconst 1, 1) := by decide +kernel
theorem dL_law_783 : decode cL_law 783 = .ok (.iadd, 1) := by decide +kernel
theorem dL_law_784 : decode cL_law 784 = .ok (.iaload, 1) := by decide +kernel
theorem dL_law_785 : decode cL_law 785 = .ok (.aload_n 0, 1) := by decide +kernel
theorem dL_law_786 : decode cL_law 786 = .ok (.iload_n 3, 1) := by decide +kernel
theorem dL_law_787 : decode cL_law 787 = .ok (.iconst 2, 1) := by decide +kernel
theorem dL_law_788 : decode cL_law 788 = .ok (.iadd, 1) := by decide +kernel
theorem dL_law_789 : decode cL_law 789 = .ok (.iaload, 1) := by decide +kernel
theorem dL_law_790 : decode cL_law 790 = .ok (.aload_n 0, 1) := by decide +kernel
theorem dL_law_791 : decode cL_law 791 = .ok (.iload_n 3, 1) := by decide +kernel
theorem dL_law_792 : decode cL_law 792 = .ok (.iconst 3, 1) := by decide +kernel
theorem dL_law_793 : decode cL_law 793 = .ok (.iadd, 1) := by decide +kernel
theorem dL_law_794 : decode cL_law 794 = .ok (.iaload, 1) := by decide +kernel
theorem dL_law_795 : decode cL_law 795 = .ok (.invokevirtual 78, 3) := by decide +kernel
theorem dL_law_798 : decode cL_law 798 = .ok (.aload_n 2, 1) := by decide +kernel
theorem dL_law_799 : decode cL_law 799 = .ok (.aload_n 0, 1) := by decide +kernel
theorem dL_law_800 : decode cL_law 800 = .ok (.iload_n 3, 1) := by decide +kernel
theorem dL_law_801 : decode cL_law 801 = .ok (.iconst 1, 1) := by decide +kernel
theorem dL_law_802 : decode cL_law 802 = .ok (.iadd, 1) := by decide +kernel
theorem dL_law_803 : decode cL_law 803 = .ok (.iaload, 1) := by decide +kernel
theorem dL_law_804 : decode cL_law 804 = .ok (.aload_n 0, 1) := by decide +kernel
theorem dL_law_805 : decode cL_law 805 = .ok (.iload_n 3, 1) := by decide +kernel
theorem dL_law_806 : decode cL_law 806 = .ok (.iconst 2, 1) := by decide +kernel
theorem dL_law_807 : decode cL_law 807 = .ok (.iadd, 1) := by decide +kernel
theorem dL_law_808 : decode cL_law 808 = .ok (.iaload, 1) := by decide +kernel
theorem dL_law_809 : decode cL_law 809 = .ok (.aload_n 0, 1) := by decide +kernel
theorem dL_law_810 : decode cL_law 810 = .ok (.iload_n 3, 1) := by decide +kernel
theorem dL_law_811 : decode cL_law 811 = .ok (.iconst 3, 1) := by decide +kernel
theorem dL_law_812 : decode cL_law 812 = .ok (.iadd, 1) := by decide +kernel
theorem dL_law_813 : decode cL_law 813 = .ok (.iaload, 1) := by decide +kernel
theorem dL_law_814 : decode cL_law 814 = .ok (.invokevirtual 81, 3) := by decide +kernel
theorem dL_law_817 : decode cL_law 817 = .ok (.if_icmp .eq 180, 3) := by decide +kernel
theorem dL_law_820 : decode cL_law 820 = .ok (.iconst 0, 1) := by decide +kernel
theorem dL_law_821 : decode cL_law 821 = .ok (.ireturn, 1) := by decide +kernel
theorem dL_law_822 : decode cL_law 822 = .ok (.aload_n 1, 1) := by decide +kernel
theorem dL_law_823 : decode cL_law 823 = .ok (.aload_n 0, 1) := by decide +kernel
theorem dL_law_824 : decode cL_law 824 = .ok (.iload_n 3, 1) := by decide +kernel
theorem dL_law_825 : decode cL_law 825 = .ok (.iconst 1, 1) := by decide +kernel
theorem dL_law_826 : decode cL_law 826 = .ok (.iadd, 1) := by decide +kernel
theorem dL_law_827 : decode cL_law 827 = .ok (.iaload, 1) := by decide +kernel
theorem dL_law_828 : decode cL_law 828 = .ok (.aload_n 0, 1) := by decide +kernel
theorem dL_law_829 : decode cL_law 829 = .ok (.iload_n 3, 1) := by decide +kernel
theorem dL_law_830 : decode cL_law 830 = .ok (.iconst 2, 1) := by decide +kernel
theorem dL_law_831 : decode cL_law 831 = .ok (.iadd, 1) := by decide +kernel
theorem dL_law_832 : decode cL_law 832 = .ok (.iaload, 1) := by decide +kernel
theorem dL_law_833 : decode cL_law 833 = .ok (.invokevirtual 82, 3) := by decide +kernel
theorem dL_law_836 : decode cL_law 836 = .ok (.aload_n 2, 1) := by decide +kernel
theorem dL_law_837 : decode cL_law 837 = .ok (.aload_n 0, 1) := by decide +kernel
theorem dL_law_838 : decode cL_law 838 = .ok (.iload_n 3, 1) := by decide +kernel
theorem dL_law_839 : decode cL_law 839 = .ok (.iconst 1, 1) := by decide +kernel
theorem dL_law_840 : decode cL_law 840 = .ok (.iadd, 1) := by decide +kernel
theorem dL_law_841 : decode cL_law 841 = .ok (.iaload, 1) := by decide +kernel
theorem dL_law_842 : decode cL_law 842 = .ok (.aload_n 0, 1) := by decide +kernel
theorem dL_law_843 : decode cL_law 843 = .ok (.iload_n 3, 1) := by decide +kernel
theorem dL_law_844 : decode cL_law 844 = .ok (.iconst 2, 1) := by decide +kernel
theorem dL_law_845 : decode cL_law 845 = .ok (.iadd, 1) := by decide +kernel
theorem dL_law_846 : decode cL_law 846 = .ok (.iaload, 1) := by decide +kernel
theorem dL_law_847 : decode cL_law 847 = .ok (.invokevirtual 85, 3) := by decide +kernel
theorem dL_law_850 : decode cL_law 850 = .ok (.if_icmp .eq 147, 3) := by decide +kernel
theorem dL_law_853 : decode cL_law 853 = .ok (.iconst 0, 1) := by decide +kernel
theorem dL_law_854 : decode cL_law 854 = .ok (.ireturn, 1) := by decide +kernel
theorem dL_law_855 : decode cL_law 855 = .ok (.aload_n 1, 1) := by decide +kernel
theorem dL_law_856 : decode cL_law 856 = .ok (.aload_n 0, 1) := by decide +kernel
theorem dL_law_857 : decode cL_law 857 = .ok (.iload_n 3, 1) := by decide +kernel
theorem dL_law_858 : decode cL_law 858 = .ok (.iconst 1, 1) := by decide +kernel
theorem dL_law_859 : decode cL_law 859 = .ok (.iadd, 1) := by decide +kernel
theorem dL_law_860 : decode cL_law 860 = .ok (.iaload, 1) := by decide +kernel
theorem dL_law_861 : decode cL_law 861 = .ok (.invokevirtual 86, 3) := by decide +kernel
theorem dL_law_864 : decode cL_law 864 = .ok (.aload_n 2, 1) := by decide +kernel
theorem dL_law_865 : decode cL_law 865 = .ok (.aload_n 0, 1) := by decide +kernel
theorem dL_law_866 : decode cL_law 866 = .ok (.iload_n 3, 1) := by decide +kernel
theorem dL_law_867 : decode cL_law 867 = .ok (.iconst 1, 1) := by decide +kernel
theorem dL_law_868 : decode cL_law 868 = .ok (.iadd, 1) := by decide +kernel
theorem dL_law_869 : decode cL_law 869 = .ok (.iaload, 1) := by decide +kernel
theorem dL_law_870 : decode cL_law 870 = .ok (.invokevirtual 89, 3) := by decide +kernel
theorem dL_law_873 : decode cL_law 873 = .ok (.if_icmp .eq 124, 3) := by decide +kernel
theorem dL_law_876 : decode cL_law 876 = .ok (.iconst 0, 1) := by decide +kernel
theorem dL_law_877 : decode cL_law 877 = .ok (.ireturn, 1) := by decide +kernel
theorem dL_law_878 : decode cL_law 878 = .ok (.aload_n 1, 1) := by decide +kernel
theorem dL_law_879 : decode cL_law 879 = .ok (.invokevirtual 90, 3) := by decide +kernel
theorem dL_law_882 : decode cL_law 882 = .ok (.aload_n 2, 1) := by decide +kernel
theorem dL_law_883 : decode cL_law 883 = .ok (.invokevirtual 94, 3) := by decide +kernel
theorem dL_law_886 : decode cL_law 886 = .ok (.if_icmp .eq 111, 3) := by decide +kernel
theorem dL_law_889 : decode cL_law 889 = .ok (.iconst 0, 1) := by decide +kernel
theorem dL_law_890 : decode cL_law 890 = .ok (.ireturn, 1) := by decide +kernel
theorem dL_law_891 : decode cL_law 891 = .ok (.aload_n 1, 1) := by decide +kernel
theorem dL_law_892 : decode cL_law 892 = .ok (.invokevirtual 95, 3) := by decide +kernel
theorem dL_law_895 : decode cL_law 895 = .ok (.aload_n 2, 1) := by decide +kernel
theorem dL_law_896 : decode cL_law 896 = .ok (.invokevirtual 98, 3) := by decide +kernel
theorem dL_law_899 : decode cL_law 899 = .ok (.if_icmp .eq 98, 3) := by decide +kernel
theorem dL_law_902 : decode cL_law 902 = .ok (.iconst 0, 1) := by decide +kernel
theorem dL_law_903 : decode cL_law 903 = .ok (.ireturn, 1) := by decide +kernel
theorem dL_law_904 : decode cL_law 904 = .ok (.aload_n 1, 1) := by decide +kernel
theorem dL_law_905 : decode cL_law 905 = .ok (.aload_n 0, 1) := by decide +kernel
theorem dL_law_906 : decode cL_law 906 = .ok (.iload_n 3, 1) := by decide +kernel
theorem dL_law_907 : decode cL_law 907 = .ok (.iconst 1, 1) := by decide +kernel
theorem dL_law_908 : decode cL_law 908 = .ok (.iadd, 1) := by decide +kernel
theorem dL_law_909 : decode cL_law 909 = .ok (.iaload, 1) := by decide +kernel
theorem dL_law_910 : decode cL_law 910 = .ok (.aload_n 0, 1) := by decide +kernel
theorem dL_law_911 : decode cL_law 911 = .ok (.iload_n 3, 1) := by decide +kernel
theorem dL_law_912 : decode cL_law 912 = .ok (.iconst 2, 1) := by decide +kernel
theorem dL_law_913 : decode cL_law 913 = .ok (.iadd, 1) := by decide +kernel
theorem dL_law_914 : decode cL_law 914 = .ok (.iaload, 1) := by decide +kernel
theorem dL_law_915 : decode cL_law 915 = .ok (.invokevirtual 99, 3) := by decide +kernel
theorem dL_law_918 : decode cL_law 918 = .ok (.aload_n 2, 1) := by decide +kernel
theorem dL_law_919 : decode cL_law 919 = .ok (.aload_n 0, 1) := by decide +kernel
theorem dL_law_920 : decode cL_law 920 = .ok (.iload_n 3, 1) := by decide +kernel
theorem dL_law_921 : decode cL_law 921 = .ok (.iconst 1, 1) := by decide +kernel
theorem dL_law_922 : decode cL_law 922 = .ok (.iadd, 1) := by decide +kernel
theorem dL_law_923 : decode cL_law 923 = .ok (.iaload, 1) := by decide +kernel
theorem dL_law_924 : decode cL_law 924 = .ok (.aload_n 0, 1) := by decide +kernel
theorem dL_law_925 : decode cL_law 925 = .ok (.iload_n 3, 1) := by decide +kernel
theorem dL_law_926 : decode cL_law 926 = .ok (.iconst 2, 1) := by decide +kernel
theorem dL_law_927 : decode cL_law 927 = .ok (.iadd, 1) := by decide +kernel
theorem dL_law_928 : decode cL_law 928 = .ok (.iaload, 1) := by decide +kernel
theorem dL_law_929 : decode cL_law 929 = .ok (.invokevirtual 102, 3) := by decide +kernel
theorem dL_law_932 : decode cL_law 932 = .ok (.if_icmp .eq 65, 3) := by decide +kernel
theorem dL_law_935 : decode cL_law 935 = .ok (.iconst 0, 1) := by decide +kernel
theorem dL_law_936 : decode cL_law 936 = .ok (.ireturn, 1) := by decide +kernel
theorem dL_law_937 : decode cL_law 937 = .ok (.aload_n 1, 1) := by decide +kernel
theorem dL_law_938 : decode cL_law 938 = .ok (.aload_n 0, 1) := by decide +kernel
theorem dL_law_939 : decode cL_law 939 = .ok (.iload_n 3, 1) := by decide +kernel
theorem dL_law_940 : decode cL_law 940 = .ok (.iconst 1, 1) := by decide +kernel
theorem dL_law_941 : decode cL_law 941 = .ok (.iadd, 1) := by decide +kernel
theorem dL_law_942 : decode cL_law 942 = .ok (.iaload, 1) := by decide +kernel
theorem dL_law_943 : decode cL_law 943 = .ok (.invokevirtual 103, 3) := by decide +kernel
theorem dL_law_946 : decode cL_law 946 = .ok (.aload_n 2, 1) := by decide +kernel
theorem dL_law_947 : decode cL_law 947 = .ok (.aload_n 0, 1) := by decide +kernel
theorem dL_law_948 : decode cL_law 948 = .ok (.iload_n 3, 1) := by decide +kernel
theorem dL_law_949 : decode cL_law 949 = .ok (.iconst 1, 1) := by decide +kernel
theorem dL_law_950 : decode cL_law 950 = .ok (.iadd, 1) := by decide +kernel
theorem dL_law_951 : decode cL_law 951 = .ok (.iaload, 1) := by decide +kernel
theorem dL_law_952 : decode cL_law 952 = .ok (.invokevirtual 106, 3) := by decide +kernel
theorem dL_law_955 : decode cL_law 955 = .ok (.if_icmp .eq 42, 3) := by decide +kernel
theorem dL_law_958 : decode cL_law 958 = .ok (.iconst 0, 1) := by decide +kernel
theorem dL_law_959 : decode cL_law 959 = .ok (.ireturn, 1) := by decide +kernel
theorem dL_law_960 : decode cL_law 960 = .ok (.aload_n 1, 1) := by decide +kernel
theorem dL_law_961 : decode cL_law 961 = .ok (.aload_n 0, 1) := by decide +kernel
theorem dL_law_962 : decode cL_law 962 = .ok (.iload_n 3, 1) := by decide +kernel
theorem dL_law_963 : decode cL_law 963 = .ok (.iconst 1, 1) := by decide +kernel
theorem dL_law_964 : decode cL_law 964 = .ok (.iadd, 1) := by decide +kernel
theorem dL_law_965 : decode cL_law 965 = .ok (.iaload, 1) := by decide +kernel
theorem dL_law_966 : decode cL_law 966 = .ok (.invokevirtual 107, 3) := by decide +kernel
theorem dL_law_969 : decode cL_law 969 = .ok (.aload_n 2, 1) := by decide +kernel
theorem dL_law_970 : decode cL_law 970 = .ok (.aload_n 0, 1) := by decide +kernel
theorem dL_law_971 : decode cL_law 971 = .ok (.iload_n 3, 1) := by decide +kernel
theorem dL_law_972 : decode cL_law 972 = .ok (.iconst 1, 1) := by decide +kernel
theorem dL_law_973 : decode cL_law 973 = .ok (.iadd, 1) := by decide +kernel
theorem dL_law_974 : decode cL_law 974 = .ok (.iaload, 1) := by decide +kernel
theorem dL_law_975 : decode cL_law 975 = .ok (.invokevirtual 110, 3) := by decide +kernel
theorem dL_law_978 : decode cL_law 978 = .ok (.if_icmp .eq 19, 3) := by decide +kernel
theorem dL_law_981 : decode cL_law 981 = .ok (.iconst 0, 1) := by decide +kernel
theorem dL_law_982 : decode cL_law 982 = .ok (.ireturn, 1) := by decide +kernel
theorem dL_law_983 : decode cL_law 983 = .ok (.aload_n 1, 1) := by decide +kernel
theorem dL_law_984 : decode cL_law 984 = .ok (.invokevirtual 111, 3) := by decide +kernel
theorem dL_law_987 : decode cL_law 987 = .ok (.aload_n 2, 1) := by decide +kernel
theorem dL_law_988 : decode cL_law 988 = .ok (.invokevirtual 115, 3) := by decide +kernel
theorem dL_law_991 : decode cL_law 991 = .ok (.lcmp, 1) := by decide +kernel
theorem dL_law_992 : decode cL_law 992 = .ok (.ifCond .eq 5, 3) := by decide +kernel
theorem dL_law_995 : decode cL_law 995 = .ok (.iconst 0, 1) := by decide +kernel
theorem dL_law_996 : decode cL_law 996 = .ok (.ireturn, 1) := by decide +kernel
theorem dL_law_997 : decode cL_law 997 = .ok (.iinc 3 6, 3) := by decide +kernel
theorem dL_law_1000 : decode cL_law 1000 = .ok (.goto (-982), 3) := by decide +kernel
theorem dL_law_1003 : decode cL_law 1003 = .ok (.iconst 1, 1) := by decide +kernel
theorem dL_law_1004 : decode cL_law 1004 = .ok (.ireturn, 1) := by decide +kernel
end
section
/-! Layout. A cell of the run is named by (tag, k). The pictures of all cells are a function of D = (ints by tag and place, longs by tag, k and place, references). -/
abbrev Dt : Type := (Nat → Nat → Int32) × (Nat → Fin 11 → Nat → Int64) × (Nat → Nat → Fin 11)
abbrev Le : Type := ((Nat × Fin 11) → Nat) × va_G × (Nat → ClassId) × Nat × Nat
def b2 (z : Fin 11) : Fin 11 := if z = 0 then 0 else 1
def ids : List (Nat × Fin 11) := [(0, 0), (1, 0), (1, 1), (1, 2), (1, 3), (1, 4), (1, 5), (1, 6), (1, 7), (1, 8), (1, 9), (1, 10), (2, 0), (2, 1), (2, 2), (2, 3), (2, 4), (2, 5), (2, 6), (2, 7), (2, 8), (2, 9), (2, 10), (3, 0), (3, 1), (3, 2), (3, 3), (3, 4), (3, 5), (3, 6), (3, 7), (3, 8), (3, 9), (3, 10), (4, 0), (4, 1), (5, 0), (6, 0), (7, 0), (8, 0), (9, 0), (10, 0), (11, 0), (12, 0), (13, 0), (14, 0), (15, 0), (16, 0), (17, 0), (18, 0), (19, 0), (20, 0), (21, 0), (22, 0), (23, 0), (24, 0), (25, 0), (26, 0), (27, 0)]
def cellOf (E : Le) (D : Dt) (q : Nat × Fin 11) : va_E := match q.1 with
  | 0 => .inr (5, [.ref (E.1 (4, b2 (D.2.2 0 0))), .ref (E.1 (4, b2 (D.2.2 0 1))), .ref (E.1 (1, D.2.2 0 2)), .ref (E.1 (5, 0)), .ref (E.1 (12, 0)), .ref (E.1 (15, 0)), .ref (E.1 (18, 0)), .ref (E.1 (19, 0))])
  | 1 => .inr (0, [.ref (E.1 (2, q.2)), .ref (E.1 (3, q.2))])
  | 2 => .inl (E.2.2.1 3, 120, .inr (.inl (D.2.1 2 q.2)))
  | 3 => .inl (E.2.2.1 3, 120, .inr (.inl (D.2.1 3 q.2)))
  | 4 => .inl (E.2.2.1 4, 5, .inr (.inr (.inr (.inr (fun i => some (E.1 (1, D.2.2 (1 + q.2.val) i)))))))
  | 5 => .inr (1, [.ref (E.1 (6, 0)), .ref (E.1 (7, 0)), .ref (E.1 (8, 0)), .ref (E.1 (9, 0)), .ref (E.1 (10, 0)), .ref (E.1 (11, 0)), .int (D.1 5 6), .int (D.1 5 7)])
  | 6 => .inl (E.2.2.1 2, 60, .inl (D.1 6))
  | 7 => .inl (E.2.2.1 2, 60, .inl (D.1 7))
  | 8 => .inl (E.2.2.1 2, 60, .inl (D.1 8))
  | 9 => .inl (E.2.2.1 2, 300, .inl (D.1 9))
  | 10 => .inl (E.2.2.1 2, 600, .inl (D.1 10))
  | 11 => .inl (E.2.2.1 2, 300, .inl (D.1 11))
  | 12 => .inr (2, [.ref (E.1 (13, 0)), .ref (E.1 (14, 0)), .int (D.1 12 2)])
  | 13 => .inl (E.2.2.1 2, 10, .inl (D.1 13))
  | 14 => .inl (E.2.2.1 2, 10, .inl (D.1 14))
  | 15 => .inr (4, [.ref (E.1 (16, 0)), .int (D.1 15 1), .ref (E.1 (17, 0)), .int (D.1 15 3), .int (D.1 15 4), .int (D.1 15 5), .int (D.1 15 6), .int (D.1 15 7)])
  | 16 => .inl (E.2.2.1 0, 120, .inl (D.1 16))
  | 17 => .inl (E.2.2.1 2, 144, .inl (D.1 17))
  | 18 => .inr (3, [.int (D.1 18 0), .int (D.1 18 1), .int (D.1 18 2), .int (D.1 18 3)])
  | 19 => .inl (E.2.2.1 2, 3, .inl (D.1 19))
  | 20 => .inr (6, [.ref (E.1 (21, 0)), .ref (E.1 (22, 0)), .ref (E.1 (23, 0)), .int (D.1 20 3), .ref (E.1 (24, 0)), .ref (E.1 (25, 0)), .int (D.1 20 6), .int (D.1 20 7), .ref (E.1 (26, 0)), .int (D.1 20 9), .int (D.1 20 10), .int (D.1 20 11), .int (D.1 20 12), .int (D.1 20 13), .int (D.1 20 14), .int (D.1 20 15), .int (D.1 20 16), .ref (E.1 (27, 0)), .int (D.1 20 18)])
  | 21 => .inl (E.2.2.1 3, 3120, .inr (.inl (D.2.1 21 0)))
  | 22 => .inl (E.2.2.1 2, 3, .inl (D.1 22))
  | 23 => .inl (E.2.2.1 2, 120, .inl (D.1 23))
  | 24 => .inl (E.2.2.1 2, 10, .inl (D.1 24))
  | 25 => .inl (E.2.2.1 2, 10, .inl (D.1 25))
  | 26 => .inl (E.2.2.1 2, 4, .inl (D.1 26))
  | 27 => .inl (E.2.2.1 1, 54, .inl (D.1 27))
  | _ => .inr (0, [])
def wsD (E : Le) (D : Dt) : va_W := ids.map (fun q => (E.1 q, cellOf E D q))
def tysE (E : Le) : List (ClassId × FieldType) := [(E.2.2.1 0, .byte), (E.2.2.1 1, .char), (E.2.2.1 2, .int), (E.2.2.1 3, .long), (E.2.2.1 4, .object "BandAreas$Area")]
def Wf (E : Le) : Prop := ∀ (i j : Nat) (q r : Nat × Fin 11), ids[i]? = some q → ids[j]? = some r → E.1 q = E.1 r → i = j
def inW (E : Le) : Nat → Prop := fun x => ∃ q ∈ ids, E.1 q = x
theorem wsD_get {E : Le} {D : Dt} {p : Nat} {q : Nat × Fin 11} (h : ids[p]? = some q) : (wsD E D)[p]? = some (E.1 q, cellOf E D q) := by
  simp [wsD, h]
theorem wsD_D {E : Le} {D : Dt} {A : Nat → Prop} (hW : Wf E) (hA : ∀ q ∈ ids, A (E.1 q)) : va_D A (wsD E D) := by
  refine ⟨fun i j x y hi hj hxy => ?_, fun k x hk => ?_⟩
  · rw [wsD, List.getElem?_map] at hi hj
    cases h1 : ids[i]? with
    | none => rw [h1] at hi; cases hi
    | some q =>
      cases h2 : ids[j]? with
      | none => rw [h2] at hj; cases hj
      | some r =>
        rw [h1] at hi; rw [h2] at hj
        cases hi; cases hj
        exact hW i j q r h1 h2 hxy
  · rw [wsD, List.getElem?_map] at hk
    cases h1 : ids[k]? with
    | none => rw [h1] at hk; cases hk
    | some q => rw [h1] at hk; cases hk; exact hA q (List.mem_of_getElem? h1)
theorem ids_nd : ∀ (i j : Nat) (q : Nat × Fin 11), ids[i]? = some q → ids[j]? = some q → i = j := by
  have h : ids.Nodup := by decide +kernel
  intro i j q hi hj
  have hl := (List.getElem?_eq_some_iff.mp hi).1
  exact (List.getElem?_inj hl h).mp (hi.trans hj.symm)
theorem wsD_set {E : Le} {D D' : Dt} {p : Nat} {q : Nat × Fin 11} (h : ids[p]? = some q) {e : va_E} (he : cellOf E D' q = e) (ho : ∀ r, r ≠ q → cellOf E D' r = cellOf E D r) : (wsD E D).set p (E.1 q, e) = wsD E D' := by
  apply List.ext_getElem?
  intro k
  by_cases hk : k = p
  · subst hk
    have hl : k < (wsD E D).length := by rw [wsD, List.length_map]; exact (List.getElem?_eq_some_iff.mp h).1
    rw [List.getElem?_set_self hl, wsD_get h, he]
  · rw [List.getElem?_set_ne (Ne.symm hk), wsD, wsD, List.getElem?_map, List.getElem?_map]
    cases h1 : ids[k]? with
    | none => rfl
    | some r =>
      have hr : r ≠ q := fun z => hk (ids_nd k p q (z ▸ h1) h)
      show some (E.1 r, cellOf E D r) = some (E.1 r, cellOf E D' r)
      rw [ho r hr]
/-! updates of D: a row of ints, a row of longs, a row of references -/
def rU (D : Dt) (t : Nat) (f : Nat → Int32) : Dt := (fun x => if x = t then f else D.1 x, D.2)
def lU (D : Dt) (t : Nat) (k : Fin 11) (f : Nat → Int64) : Dt := (D.1, fun x z => if x = t ∧ z = k then f else D.2.1 x z, D.2.2)
def pU (D : Dt) (t : Nat) (f : Nat → Fin 11) : Dt := (D.1, D.2.1, fun x => if x = t then f else D.2.2 x)
def pS (f : Nat → Fin 11) (k : Nat) (z : Fin 11) : Nat → Fin 11 := fun j => if j = k then z else f j
theorem cell_rU (E : Le) (D : Dt) (t : Nat) (f : Nat → Int32) (r : Nat × Fin 11) (h : r.1 ≠ t) : cellOf E (rU D t f) r = cellOf E D r := by
  obtain ⟨x, k⟩ := r
  have h : x ≠ t := h
  have e : ∀ y, y = x → (rU D t f).1 y = D.1 y := fun y hy => by subst hy; simp [rU, h]
  have e2 : (rU D t f).2 = D.2 := rfl
  unfold cellOf
  dsimp only
  split <;> simp only [e2, e _ rfl]

theorem cell_lU (E : Le) (D : Dt) (t : Nat) (k : Fin 11) (f : Nat → Int64) (r : Nat × Fin 11) (h : r ≠ (t, k)) (h2 : r.1 ≠ 21 ∨ t ≠ 21) : cellOf E (lU D t k f) r = cellOf E D r := by
  obtain ⟨x, z⟩ := r
  have e : ∀ y w, ¬ (y = t ∧ w = k) → (lU D t k f).2.1 y w = D.2.1 y w := fun y w hy => by simp only [lU, if_neg hy]
  have e1 : (lU D t k f).1 = D.1 := rfl
  have e2 : (lU D t k f).2.2 = D.2.2 := rfl
  have h3 : ¬ (x = t ∧ z = k) := fun q => h (by rw [q.1, q.2])
  have h4 : x = 21 → ¬ (21 = t ∧ (0 : Fin 11) = k) := fun q => by
    rcases h2 with h2 | h2
    · exact absurd q h2
    · exact fun z => h2 z.1.symm
  unfold cellOf
  dsimp only
  split <;> first | rfl | rw [e _ _ h3] | rw [e _ _ (h4 rfl)]
theorem cell_lU21 (E : Le) (D : Dt) (f : Nat → Int64) (r : Nat × Fin 11) (h : r.1 ≠ 21) : cellOf E (lU D 21 0 f) r = cellOf E D r :=
  cell_lU E D 21 0 f r (fun q => h (by rw [q])) (Or.inl h)
theorem cell_pU0 (E : Le) (D : Dt) (f : Nat → Fin 11) (r : Nat × Fin 11) (h : r.1 ≠ 0) : cellOf E (pU D 0 f) r = cellOf E D r := by
  obtain ⟨x, z⟩ := r
  have h : x ≠ 0 := h
  have e : ∀ y, (pU D 0 f).2.2 (1 + y) = D.2.2 (1 + y) := fun y => by simp only [pU]; rw [if_neg (by omega)]
  have e1 : (pU D 0 f).1 = D.1 := rfl
  have e2 : (pU D 0 f).2.1 = D.2.1 := rfl
  unfold cellOf
  dsimp only
  split <;> first | rfl | simp only [e] | exact absurd rfl h
theorem cell_pU1 (E : Le) (D : Dt) (k : Fin 11) (f : Nat → Fin 11) (r : Nat × Fin 11) (h : r ≠ (4, k)) : cellOf E (pU D (1 + k.val) f) r = cellOf E D r := by
  obtain ⟨x, z⟩ := r
  have e0 : (pU D (1 + k.val) f).2.2 0 = D.2.2 0 := by simp only [pU]; rw [if_neg (by omega)]
  have e : x = 4 → (pU D (1 + k.val) f).2.2 (1 + z.val) = D.2.2 (1 + z.val) := fun q => by
    simp only [pU]
    rw [if_neg]
    intro w
    have w2 : z = k := Fin.ext (by omega)
    exact h (by rw [q, w2])
  have e1 : (pU D (1 + k.val) f).1 = D.1 := rfl
  have e2 : (pU D (1 + k.val) f).2.1 = D.2.1 := rfl
  unfold cellOf
  dsimp only
  split <;> first | rfl | rw [e rfl] | simp only [e0]
/-! places of the cells -/
theorem ix_0 : ids[0]? = some (0, 0) := rfl
theorem ix_1 (k : Fin 11) : ids[1 + k.val]? = some (1, k) := by revert k; decide +kernel
theorem ix_2 (k : Fin 11) : ids[12 + k.val]? = some (2, k) := by revert k; decide +kernel
theorem ix_3 (k : Fin 11) : ids[23 + k.val]? = some (3, k) := by revert k; decide +kernel
theorem ix_4 (z : Fin 11) : ids[34 + (b2 z).val]? = some (4, b2 z) := by revert z; decide +kernel
theorem ix_5 : ids[36]? = some (5, 0) := rfl
theorem ix_6 : ids[37]? = some (6, 0) := rfl
theorem ix_7 : ids[38]? = some (7, 0) := rfl
theorem ix_8 : ids[39]? = some (8, 0) := rfl
theorem ix_9 : ids[40]? = some (9, 0) := rfl
theorem ix_10 : ids[41]? = some (10, 0) := rfl
theorem ix_11 : ids[42]? = some (11, 0) := rfl
theorem ix_12 : ids[43]? = some (12, 0) := rfl
theorem ix_13 : ids[44]? = some (13, 0) := rfl
theorem ix_14 : ids[45]? = some (14, 0) := rfl
theorem ix_15 : ids[46]? = some (15, 0) := rfl
theorem ix_16 : ids[47]? = some (16, 0) := rfl
theorem ix_17 : ids[48]? = some (17, 0) := rfl
theorem ix_18 : ids[49]? = some (18, 0) := rfl
theorem ix_19 : ids[50]? = some (19, 0) := rfl
theorem ix_20 : ids[51]? = some (20, 0) := rfl
theorem ix_21 : ids[52]? = some (21, 0) := rfl
theorem ix_22 : ids[53]? = some (22, 0) := rfl
theorem ix_23 : ids[54]? = some (23, 0) := rfl
theorem ix_24 : ids[55]? = some (24, 0) := rfl
theorem ix_25 : ids[56]? = some (25, 0) := rfl
theorem ix_26 : ids[57]? = some (26, 0) := rfl
theorem ix_27 : ids[58]? = some (27, 0) := rfl
/-! locals: the first entry of a place counts; none: nothing is known -/
abbrev Lv : Type := List (Nat × Option Value)
def lk : Lv → Nat → Option Value
  | [], _ => none
  | (i, v) :: r, j => if j = i then v else lk r j
def lvOK (ls : Array Slot) (nL : Nat) (lv : Lv) : Prop := ls.size = nL ∧ lv_wf ls ∧ ∀ j v, lk lv j = some v → ls[j]? = some (.val v)
def lvE : List (Nat × Value) → Lv := List.map (fun q => (q.1, some q.2))
def lvs : Lv → Lv → Prop
  | [], _ => True
  | (i, some v) :: r, l => lk l i = some v ∧ lvs r l
  | (_, none) :: r, l => lvs r l
/-- what stands below place i isn't a long -/
def noL (lv : Lv) (i : Nat) : Bool := match i with
  | 0 => true
  | j + 1 => match lk lv j with
    | none => true
    | some v => v.category != 2
def lvl (lv : Lv) (n : Nat) : List (Nat × Value) := (List.range n).filterMap (fun j => (lk lv j).map (fun v => (j, v)))
theorem lvl_mem {lv : Lv} {n j : Nat} {v : Value} : (j, v) ∈ lvl lv n ↔ j < n ∧ lk lv j = some v := by
  unfold lvl
  rw [List.mem_filterMap]
  constructor
  · rintro ⟨i, hi, h⟩
    cases h2 : lk lv i with
    | none => rw [h2] at h; cases h
    | some w => rw [h2] at h; cases h; exact ⟨List.mem_range.mp hi, h2⟩
  · rintro ⟨h1, h2⟩
    exact ⟨j, List.mem_range.mpr h1, by rw [h2]; rfl⟩
theorem lvl_has {ls : Array Slot} {nL : Nat} {lv : Lv} (h : lvOK ls nL lv) : lv_has ls nL (lvl lv nL) :=
  ⟨h.1, h.2.1, fun q hq => h.2.2 q.1 q.2 ((lvl_mem (v := q.2)).mp hq).2⟩
theorem lvOK_lt {ls : Array Slot} {nL : Nat} {lv : Lv} (h : lvOK ls nL lv) {j : Nat} {v : Value} (hj : lk lv j = some v) : j < nL := by
  have := lv_lt (h.2.2 j v hj)
  rw [h.1] at this
  exact this
theorem lvOK_st1 {ls ls' : Array Slot} {nL : Nat} {lv : Lv} {i : Nat} {v : Value} (h : lvOK ls nL lv) (hn : noL lv i = true) (h' : lv_has ls' nL ((i, v) :: (lvl lv nL).filter (fun q => !(q.1 == i) && !(q.1 + 1 == i && q.2.category == 2)))) : lvOK ls' nL ((i, some v) :: lv) := by
  refine ⟨h'.1, h'.2.1, fun j w hj => ?_⟩
  by_cases e : j = i
  · rw [lk, if_pos e] at hj
    cases hj
    exact h'.2.2 (j, v) (by rw [e]; exact List.mem_cons_self)
  · rw [lk, if_neg e] at hj
    refine h'.2.2 (j, w) (List.mem_cons_of_mem _ (List.mem_filter.mpr ⟨lvl_mem.mpr ⟨lvOK_lt h hj, hj⟩, ?_⟩))
    by_cases e2 : j + 1 = i
    · subst e2
      unfold noL at hn
      simp only [hj] at hn
      simp at hn
      simp [hn]
    · simp [e, e2]
theorem lvOK_st2 {ls ls' : Array Slot} {nL : Nat} {lv : Lv} {i : Nat} {v : Value} (h : lvOK ls nL lv) (hn : noL lv i = true) (h' : lv_has ls' nL ((i, v) :: (lvl lv nL).filter (fun q => !(q.1 == i) && (!(q.1 == i + 1) && !(q.1 + 1 == i && q.2.category == 2))))) : lvOK ls' nL ((i, some v) :: (i + 1, none) :: lv) := by
  refine ⟨h'.1, h'.2.1, fun j w hj => ?_⟩
  by_cases e : j = i
  · rw [lk, if_pos e] at hj
    cases hj
    exact h'.2.2 (j, v) (by rw [e]; exact List.mem_cons_self)
  · rw [lk, if_neg e, lk] at hj
    by_cases e3 : j = i + 1
    · rw [if_pos e3] at hj; cases hj
    rw [if_neg e3] at hj
    refine h'.2.2 (j, w) (List.mem_cons_of_mem _ (List.mem_filter.mpr ⟨lvl_mem.mpr ⟨lvOK_lt h hj, hj⟩, ?_⟩))
    by_cases e2 : j + 1 = i
    · subst e2
      unfold noL at hn
      simp only [hj] at hn
      simp at hn
      simp [hn]
      omega
    · simp [e, e2, e3]
theorem lvOK_sub {ls : Array Slot} {nL : Nat} {lv : Lv} (h : lvOK ls nL lv) : ∀ {l : Lv}, lvs l lv → lvOK ls nL l := by
  intro l hl
  refine ⟨h.1, h.2.1, fun j v hj => ?_⟩
  apply h.2.2
  induction l with
  | nil => cases hj
  | cons q r ih =>
    obtain ⟨i, o⟩ := q
    cases o with
    | none =>
      rw [lk] at hj
      split at hj
      · cases hj
      · exact ih hl hj
    | some w =>
      obtain ⟨h1, h2⟩ := hl
      rw [lk] at hj
      split at hj
      · rename_i e; cases hj; rw [e]; exact h1
      · exact ih h2 hj
theorem lk_map : ∀ (l : List (Nat × Value)) (j : Nat) (v : Value), lk (lvE l) j = some v → (j, v) ∈ l
  | [], _, _, h => by cases h
  | (i, w) :: r, j, v, h => by
    have h : (if j = i then some w else lk (lvE r) j) = some v := h
    split at h
    · rename_i e; cases h; rw [e]; exact List.mem_cons_self
    · exact List.mem_cons_of_mem _ (lk_map r j v h)
theorem lvOK_of {ls : Array Slot} {nL : Nat} {l : List (Nat × Value)} (h : lv_has ls nL l) : lvOK ls nL (lvE l) :=
  ⟨h.1, h.2.1, fun j v hj => h.2.2 (j, v) (lk_map l j v hj)⟩
/-! THE JUDGEMENT: a method (context X) goes on at pc with locals lv, stack st and the cells of D -/
def tblG : List Cond := lw_tbl.filter goodWord
theorem inG {w : Cond} (h : w ∈ lw_tbl) (g : goodWord w = true) : w ∈ tblG := List.mem_filter.mpr ⟨h, g⟩
def wtx : String := "be    box   none  or    and   but   xor   move  grow  shrinkflip  turn  "
def wby : List Int32 := [98, 101, 32, 32, 32, 32, 98, 111, 120, 32, 32, 32, 110, 111, 110, 101, 32, 32, 111, 114, 32, 32, 32, 32, 97, 110, 100, 32, 32, 32, 98, 117, 116, 32, 32, 32, 120, 111, 114, 32, 32, 32, 109, 111, 118, 101, 32, 32, 103, 114, 111, 119, 32, 32, 115, 104, 114, 105, 110, 107, 102, 108, 105, 112, 32, 32, 116, 117, 114, 110, 32, 32]
/-- what the tables and the start say beside the words: two links of nest mates, the String constant, two statics of the JDK's -/
def Stc (E : Le) (A : Nat → Prop) (U : State) (H : Heap) : Prop :=
  va_Nw (.methodLinkNest RX1 108 yX5_within RX5) U ∧ va_Nw (.methodLinkNest RX4 60 yX5_within RX5) U ∧ vk_R RX4 79 wtx E.2.2.2.1 U ∧ vk_S 1 [72] [wby] (fun _ => E.2.2.2.1) (fun _ => E.2.2.2.2) A U H ∧ va_Z "java/lang/String" "COMPACT_STRINGS" "Z" (.int 1) A U H ∧ va_Zq "jdk/internal/util/Preconditions" "SIOOBE_FORMATTER" "Ljava/util/function/BiFunction;" A U H
theorem Stc.warm {E : Le} {A : Nat → Prop} {s U : State} {H : Heap} (hW : s.WarmedH U.vm) (h : Stc E A s H) : Stc E A U H :=
  ⟨va_Nw.warmM hW h.1, va_Nw.warmM hW h.2.1, vk_R.warm hW h.2.2.1, vk_S.moved hW.alike h.2.2.2.1, va_Z.moved hW.alike h.2.2.2.2.1, va_Zq.moved hW.alike h.2.2.2.2.2⟩
theorem Stc.same {E : Le} {A : Nat → Prop} {u U : State} {H : Heap} (hv : u.vm = U.vm) (h : Stc E A u H) : Stc E A U H :=
  ⟨va_Nw.same rfl hv h.1, va_Nw.same rfl hv h.2.1, vk_R.same hv.symm h.2.2.1, vk_S.moved (hv ▸ Vm.Alike.refl u.vm) h.2.2.2.1, va_Z.moved (hv ▸ Vm.Alike.refl u.vm) h.2.2.2.2.1, va_Zq.moved (hv ▸ Vm.Alike.refl u.vm) h.2.2.2.2.2⟩
theorem Stc.kept {E : Le} {A : Nat → Prop} {U : State} {H H1 : Heap} (h : Stc E A U H) (hq : ∀ a : Nat, a < H.size → ¬ A a → H1[a]? = H[a]?) : Stc E A U H1 :=
  ⟨h.1, h.2.1, h.2.2.1, h.2.2.2.1.kept hq, h.2.2.2.2.1.kept hq, h.2.2.2.2.2.kept hq⟩
theorem Stc.narrow {E : Le} {A B : Nat → Prop} {U : State} {H : Heap} (h : Stc E A U H) (hAB : ∀ q, B q → A q) : Stc E B U H :=
  ⟨h.1, h.2.1, h.2.2.1, h.2.2.2.1.narrow hAB, h.2.2.2.2.1.narrow hAB, h.2.2.2.2.2.narrow hAB⟩
def Cx : Type := Program × Launch × Env × Room × State × MethodId × Array Value × List Frame × Method × Code × Nat × Nat × (State → Prop) × (Nat → Prop)
def Vw (E : Le) (X : Cx) (nL : Nat) (D : Dt) (pc : Nat) (lv : Lv) (st : List Value) : Prop := match X with
  | (p, l, e, R, s, m, args, below, meth, c, cells, slots, Q, A) => ∀ (H : Heap) (locs : List Loc) (ls : Array Slot), va_P E.2.1 vwCl (wsD E D) H → va_S A s.heap H locs → lvOK ls nL lv → W p l e R s m args below meth c H locs cells slots Q (F0 m pc ls st)
def Amb (E : Le) (X : Cx) (cc : ByteArray) (own : String) (nL n : Nat) : Prop := match X with
  | (p, _, _, R, s, m, args, _, _, c, cells, slots, _, A) => p.tables.exec = Jvm.exec ∧ c.code = cc ∧ c.maxLocals = nL ∧ s.vm.findClass own = some m.cls ∧ (∀ w ∈ tblG, w.before args s = true) ∧ va_K E.2.1 vwCl (tysE E) s ∧ Wf E ∧ (∀ q ∈ ids, A (E.1 q)) ∧ (n ≤ R.frames ∧ 39 * n ≤ R.locals ∧ cells ≤ R.cells ∧ slots ≤ R.slots) ∧ Stc E A s s.heap
def Xl (X : Cx) : Launch := X.2.1
def QcB (E : Le) (Φ : Option Value → Dt → Prop) : Array Value → State → Outcome → State → Prop := fun _ st oc t => (∃ (v : Option Value) (D' : Dt), oc = .returned v ∧ Φ v D' ∧ va_P E.2.1 vwCl (wsD E D') t.heap) ∧ va_F (inW E) st t
def Ret (E : Le) (X : Cx) (ret : Option FieldType) (Φ : Option Value → Dt → Prop) : Prop := match X with
  | (_, _, _, _, s, _, args, below, meth, _, cells, slots, Q, A) => meth.sig.returnType = ret ∧ meth.locks = false ∧ Q = MQ below (QcB E Φ) args s cells slots (inW E) ∧ A = inW E
def rmB (n : Nat) : Room := { frames := n, cells := 0, slots := 0, locals := 39 * n }
def PcB (E : Le) (D : Dt) : State → Prop := fun U => va_P E.2.1 vwCl (wsD E D) U.heap ∧ va_K E.2.1 vwCl (tysE E) U ∧ Wf E ∧ Stc E (inW E) U U.heap
/-- THE CONTRACT of a method: called with 'as' where the cells are D, it returns v and leaves D' with Φ v D' -/
def Con (E : Le) (l : Launch) (y : MethodName) (cc : ByteArray) (mL : Nat) (ret : Option FieldType) (n : Nat) (as : List Value) (D : Dt) (Φ : Option Value → Dt → Prop) : Prop :=
  Met l y (.code y cc mL ret :: tblG) (rmB n) (va_Pc as (PcB E D)) (QcB E Φ) 0 0 (inW E)
theorem Con_of {E : Le} {l : Launch} {y : MethodName} {cc : ByteArray} {mL : Nat} {ret : Option FieldType} {n : Nat} {as : List Value} {D : Dt} {Φ : Option Value → Dt → Prop} (hy : plainName y.cls = true) (hm : (lg_sl as).length ≤ mL)
    (h : ∀ X : Cx, Amb E X cc y.cls mL n → Ret E X ret Φ → Xl X = l → Vw E X mL D 0 (lvE (lv_args 0 as)) []) : Con E l y cc mL ret n as D Φ := by
  refine Met.ofW (cc := cc) (maxL := mL) (ret := ret) hy rfl ?_
  intro p e s m args below meth c s₁ B hml hv
  obtain ⟨rfl, hP, hK, hW, hT⟩ := hv
  have hl := lv_entry as (n := mL) hm
  rw [lg_entry_eq]
  refine h (p, l, e, rmB n, s, m, as.toArray, below, meth, c, 0, 0, _, inW E) ⟨B.exec, B.bytes, hml, findClass_of_methodNamed B.named, fun w hw => atoms_spec (ws := .code y cc mL ret :: tblG) B.pre w (List.mem_cons_of_mem _ hw), hK, hW, fun q hq => ⟨q, hq, rfl⟩, ⟨Nat.le_refl _, Nat.le_refl _, Nat.zero_le _, Nat.zero_le _⟩, hT⟩ ⟨B.returns, B.notSynchronized, rfl, rfl⟩ rfl s.heap [] _ hP va_S.rf (lvOK_of hl)
section RULES
variable {E : Le} {X : Cx} {cc : ByteArray} {own : String} {nL n : Nat} {D : Dt} {pc : Nat} {lv : Lv} {st : List Value}
theorem V_cut (l : Lv) (h : lvs l lv) (k : Vw E X nL D pc l st) : Vw E X nL D pc lv st := by
  obtain ⟨p, l', e, R, s, m, args, below, meth, c, cells, slots, Q, A⟩ := X
  exact fun H locs ls hP hS hl => k H locs ls hP hS (lvOK_sub hl h)
theorem V_heap {D' : Dt} (h : D = D') (k : Vw E X nL D' pc lv st) : Vw E X nL D pc lv st := h ▸ k
theorem V_st {st' : List Value} (h : st = st') (k : Vw E X nL D pc lv st') : Vw E X nL D pc lv st := h ▸ k
theorem V_topi {x : Int32} (y : Int32) (h : x = y) (k : Vw E X nL D pc lv (.int y :: st)) : Vw E X nL D pc lv (.int x :: st) := h ▸ k
theorem V_topl {x : Int64} (y : Int64) (h : x = y) (k : Vw E X nL D pc lv (.long y :: st)) : Vw E X nL D pc lv (.long x :: st) := h ▸ k
theorem V_iconst (hX : Amb E X cc own nL n) {z : Int} (v : Int32) (hv : Int32.ofInt z = v) (d : decode cc pc = .ok (.iconst z, 1)) (k : Vw E X nL D (pc + 1) lv (.int v :: st)) : Vw E X nL D pc lv st := by
  obtain ⟨p, l, e, R, s, m, args, below, meth, c, cells, slots, Q, A⟩ := X
  exact fun H locs ls hP hS hl => lv_iconst hX.1 hX.2.1 d hv (k H locs ls hP hS hl)
theorem V_bipush (hX : Amb E X cc own nL n) {z : Int} (v : Int32) (hv : (Int8.ofInt z).toInt32 = v) (d : decode cc pc = .ok (.bipush z, 2)) (k : Vw E X nL D (pc + 2) lv (.int v :: st)) : Vw E X nL D pc lv st := by
  obtain ⟨p, l, e, R, s, m, args, below, meth, c, cells, slots, Q, A⟩ := X
  exact fun H locs ls hP hS hl => lv_bipush hX.1 hX.2.1 d hv (k H locs ls hP hS hl)
theorem V_sipush (hX : Amb E X cc own nL n) {z : Int} (v : Int32) (hv : (Int16.ofInt z).toInt32 = v) (d : decode cc pc = .ok (.sipush z, 3)) (k : Vw E X nL D (pc + 3) lv (.int v :: st)) : Vw E X nL D pc lv st := by
  obtain ⟨p, l, e, R, s, m, args, below, meth, c, cells, slots, Q, A⟩ := X
  exact fun H locs ls hP hS hl => lv_sipush hX.1 hX.2.1 d hv (k H locs ls hP hS hl)
theorem V_lconst (hX : Amb E X cc own nL n) {z : Fin 2} (v : Int64) (hv : Int64.ofNat (z : Nat) = v) (d : decode cc pc = .ok (.lconst z, 1)) (k : Vw E X nL D (pc + 1) lv (.long v :: st)) : Vw E X nL D pc lv st := by
  obtain ⟨p, l, e, R, s, m, args, below, meth, c, cells, slots, Q, A⟩ := X
  exact fun H locs ls hP hS hl => lv_lconst hX.1 hX.2.1 d hv (k H locs ls hP hS hl)
theorem V_ldc (hX : Amb E X cc own nL n) {i : Nat} (v : Int32) (hw : Cond.constant own i v ∈ tblG) (d : decode cc pc = .ok (.ldc i, 2)) (k : Vw E X nL D (pc + 2) lv (.int v :: st)) : Vw E X nL D pc lv st := by
  obtain ⟨p, l, e, R, s, m, args, below, meth, c, cells, slots, Q, A⟩ := X
  exact fun H locs ls hP hS hl => lv_ldc hX.1 hX.2.1 hX.2.2.2.1 (hX.2.2.2.2.1 _ hw) d (k H locs ls hP hS hl)
theorem V_ldc2 (hX : Amb E X cc own nL n) {i : Nat} (v : Int64) (hw : Cond.constantLong own i v ∈ tblG) (d : decode cc pc = .ok (.ldc2_w i, 3)) (k : Vw E X nL D (pc + 3) lv (.long v :: st)) : Vw E X nL D pc lv st := by
  obtain ⟨p, l, e, R, s, m, args, below, meth, c, cells, slots, Q, A⟩ := X
  exact fun H locs ls hP hS hl => lv_ldc2 hX.1 hX.2.1 hX.2.2.2.1 (hX.2.2.2.2.1 _ hw) d (k H locs ls hP hS hl)
theorem V_iload_n (hX : Amb E X cc own nL n) {j : Fin 4} (i : Nat) (hi : (j : Nat) = i) {x : Int32} (hl0 : lk lv i = some (.int x)) (d : decode cc pc = .ok (.iload_n j, 1)) (k : Vw E X nL D (pc + 1) lv (.int x :: st)) : Vw E X nL D pc lv st := by
  obtain ⟨p, l, e, R, s, m, args, below, meth, c, cells, slots, Q, A⟩ := X
  exact fun H locs ls hP hS hl => lv_iload_n hX.1 hX.2.1 d hi (hl.2.2 _ _ hl0) (k H locs ls hP hS hl)
theorem V_iload (hX : Amb E X cc own nL n) {i : Nat} {x : Int32} (hl0 : lk lv i = some (.int x)) (d : decode cc pc = .ok (.iload i, 2)) (k : Vw E X nL D (pc + 2) lv (.int x :: st)) : Vw E X nL D pc lv st := by
  obtain ⟨p, l, e, R, s, m, args, below, meth, c, cells, slots, Q, A⟩ := X
  exact fun H locs ls hP hS hl => lv_iload hX.1 hX.2.1 d (hl.2.2 _ _ hl0) (k H locs ls hP hS hl)
theorem V_istore_n (hX : Amb E X cc own nL n) {j : Fin 4} (i : Nat) (hi : (j : Nat) = i) {x : Int32} (hb : i < nL) (hn : noL lv i = true) (d : decode cc pc = .ok (.istore_n j, 1)) (k : Vw E X nL D (pc + 1) ((i, some (.int x)) :: lv) st) : Vw E X nL D pc lv (.int x :: st) := by
  obtain ⟨p, l, e, R, s, m, args, below, meth, c, cells, slots, Q, A⟩ := X
  exact fun H locs ls hP hS hl => lv_istore_n hX.1 hX.2.1 d hi (lvl_has hl) hb rfl (fun ls2 h2 => k H locs ls2 hP hS (lvOK_st1 hl hn h2))
theorem V_istore (hX : Amb E X cc own nL n) {i : Nat} {x : Int32} (hb : i < nL) (hn : noL lv i = true) (d : decode cc pc = .ok (.istore i, 2)) (k : Vw E X nL D (pc + 2) ((i, some (.int x)) :: lv) st) : Vw E X nL D pc lv (.int x :: st) := by
  obtain ⟨p, l, e, R, s, m, args, below, meth, c, cells, slots, Q, A⟩ := X
  exact fun H locs ls hP hS hl => lv_istore hX.1 hX.2.1 d (lvl_has hl) hb rfl (fun ls2 h2 => k H locs ls2 hP hS (lvOK_st1 hl hn h2))
theorem V_lload_n (hX : Amb E X cc own nL n) {j : Fin 4} (i : Nat) (hi : (j : Nat) = i) {x : Int64} (hl0 : lk lv i = some (.long x)) (d : decode cc pc = .ok (.lload_n j, 1)) (k : Vw E X nL D (pc + 1) lv (.long x :: st)) : Vw E X nL D pc lv st := by
  obtain ⟨p, l, e, R, s, m, args, below, meth, c, cells, slots, Q, A⟩ := X
  exact fun H locs ls hP hS hl => lv_lload_n hX.1 hX.2.1 d hi (hl.2.2 _ _ hl0) (k H locs ls hP hS hl)
theorem V_lload (hX : Amb E X cc own nL n) {i : Nat} {x : Int64} (hl0 : lk lv i = some (.long x)) (d : decode cc pc = .ok (.lload i, 2)) (k : Vw E X nL D (pc + 2) lv (.long x :: st)) : Vw E X nL D pc lv st := by
  obtain ⟨p, l, e, R, s, m, args, below, meth, c, cells, slots, Q, A⟩ := X
  exact fun H locs ls hP hS hl => lv_lload hX.1 hX.2.1 d (hl.2.2 _ _ hl0) (k H locs ls hP hS hl)
theorem V_lstore_n (hX : Amb E X cc own nL n) {j : Fin 4} (i : Nat) (hi : (j : Nat) = i) {x : Int64} (hb : i + 1 < nL) (hn : noL lv i = true) (d : decode cc pc = .ok (.lstore_n j, 1)) (k : Vw E X nL D (pc + 1) ((i, some (.long x)) :: (i + 1, none) :: lv) st) : Vw E X nL D pc lv (.long x :: st) := by
  obtain ⟨p, l, e, R, s, m, args, below, meth, c, cells, slots, Q, A⟩ := X
  exact fun H locs ls hP hS hl => lv_lstore_n hX.1 hX.2.1 d hi (lvl_has hl) hb rfl (fun ls2 h2 => k H locs ls2 hP hS (lvOK_st2 hl hn h2))
theorem V_lstore (hX : Amb E X cc own nL n) {i : Nat} {x : Int64} (hb : i + 1 < nL) (hn : noL lv i = true) (d : decode cc pc = .ok (.lstore i, 2)) (k : Vw E X nL D (pc + 2) ((i, some (.long x)) :: (i + 1, none) :: lv) st) : Vw E X nL D pc lv (.long x :: st) := by
  obtain ⟨p, l, e, R, s, m, args, below, meth, c, cells, slots, Q, A⟩ := X
  exact fun H locs ls hP hS hl => lv_lstore hX.1 hX.2.1 d (lvl_has hl) hb rfl (fun ls2 h2 => k H locs ls2 hP hS (lvOK_st2 hl hn h2))
theorem V_aload_n (hX : Amb E X cc own nL n) {j : Fin 4} (i : Nat) (hi : (j : Nat) = i) {x : Nat} (hl0 : lk lv i = some (.ref x)) (d : decode cc pc = .ok (.aload_n j, 1)) (k : Vw E X nL D (pc + 1) lv (.ref x :: st)) : Vw E X nL D pc lv st := by
  obtain ⟨p, l, e, R, s, m, args, below, meth, c, cells, slots, Q, A⟩ := X
  exact fun H locs ls hP hS hl => lv_aload_n hX.1 hX.2.1 d hi (hl.2.2 _ _ hl0) (k H locs ls hP hS hl)
theorem V_aload (hX : Amb E X cc own nL n) {i : Nat} {x : Nat} (hl0 : lk lv i = some (.ref x)) (d : decode cc pc = .ok (.aload i, 2)) (k : Vw E X nL D (pc + 2) lv (.ref x :: st)) : Vw E X nL D pc lv st := by
  obtain ⟨p, l, e, R, s, m, args, below, meth, c, cells, slots, Q, A⟩ := X
  exact fun H locs ls hP hS hl => lv_aload hX.1 hX.2.1 d (hl.2.2 _ _ hl0) (k H locs ls hP hS hl)
theorem V_astore_n (hX : Amb E X cc own nL n) {j : Fin 4} (i : Nat) (hi : (j : Nat) = i) {x : Nat} (hb : i < nL) (hn : noL lv i = true) (d : decode cc pc = .ok (.astore_n j, 1)) (k : Vw E X nL D (pc + 1) ((i, some (.ref x)) :: lv) st) : Vw E X nL D pc lv (.ref x :: st) := by
  obtain ⟨p, l, e, R, s, m, args, below, meth, c, cells, slots, Q, A⟩ := X
  exact fun H locs ls hP hS hl => lv_astore_n hX.1 hX.2.1 d hi (lvl_has hl) hb rfl (fun ls2 h2 => k H locs ls2 hP hS (lvOK_st1 hl hn h2))
theorem V_astore (hX : Amb E X cc own nL n) {i : Nat} {x : Nat} (hb : i < nL) (hn : noL lv i = true) (d : decode cc pc = .ok (.astore i, 2)) (k : Vw E X nL D (pc + 2) ((i, some (.ref x)) :: lv) st) : Vw E X nL D pc lv (.ref x :: st) := by
  obtain ⟨p, l, e, R, s, m, args, below, meth, c, cells, slots, Q, A⟩ := X
  exact fun H locs ls hP hS hl => lv_astore hX.1 hX.2.1 d (lvl_has hl) hb rfl (fun ls2 h2 => k H locs ls2 hP hS (lvOK_st1 hl hn h2))
theorem V_iinc (hX : Amb E X cc own nL n) {i : Nat} {z : Int} {x : Int32} (c : Int32) (hc : Int32.ofInt z = c) (hl0 : lk lv i = some (.int x)) (hn : noL lv i = true) (d : decode cc pc = .ok (.iinc i z, 3)) (k : Vw E X nL D (pc + 3) ((i, some (.int (x + c))) :: lv) st) : Vw E X nL D pc lv st := by
  obtain ⟨p, l, e, R, s, m, args, below, meth, cd, cells, slots, Q, A⟩ := X
  refine fun H locs ls hP hS hl => ?_
  have hm : (i, Value.int x) ∈ lvl lv nL := lvl_mem.mpr ⟨lvOK_lt hl hl0, hl0⟩
  obtain ⟨q, hq⟩ := List.getElem?_of_mem hm
  exact lv_iinc hX.1 hX.2.1 d (lvl_has hl) hq (by rw [hc]) (lvOK_lt hl hl0) rfl (fun ls2 h2 => k H locs ls2 hP hS (lvOK_st1 hl hn h2))
theorem V_iadd (hX : Amb E X cc own nL n) {x y : Int32} (d : decode cc pc = .ok (.iadd, 1)) (k : Vw E X nL D (pc + 1) lv (.int (x + y) :: st)) : Vw E X nL D pc lv (.int y :: .int x :: st) := by
  obtain ⟨p, l, e, R, s, m, args, below, meth, c, cells, slots, Q, A⟩ := X
  exact fun H locs ls hP hS hl => lv_iadd hX.1 hX.2.1 d (k H locs ls hP hS hl)
theorem V_isub (hX : Amb E X cc own nL n) {x y : Int32} (d : decode cc pc = .ok (.isub, 1)) (k : Vw E X nL D (pc + 1) lv (.int (x - y) :: st)) : Vw E X nL D pc lv (.int y :: .int x :: st) := by
  obtain ⟨p, l, e, R, s, m, args, below, meth, c, cells, slots, Q, A⟩ := X
  exact fun H locs ls hP hS hl => lv_isub hX.1 hX.2.1 d (k H locs ls hP hS hl)
theorem V_imul (hX : Amb E X cc own nL n) {x y : Int32} (d : decode cc pc = .ok (.imul, 1)) (k : Vw E X nL D (pc + 1) lv (.int (x * y) :: st)) : Vw E X nL D pc lv (.int y :: .int x :: st) := by
  obtain ⟨p, l, e, R, s, m, args, below, meth, c, cells, slots, Q, A⟩ := X
  exact fun H locs ls hP hS hl => lv_imul hX.1 hX.2.1 d (k H locs ls hP hS hl)
theorem V_iand (hX : Amb E X cc own nL n) {x y : Int32} (d : decode cc pc = .ok (.iand, 1)) (k : Vw E X nL D (pc + 1) lv (.int (x &&& y) :: st)) : Vw E X nL D pc lv (.int y :: .int x :: st) := by
  obtain ⟨p, l, e, R, s, m, args, below, meth, c, cells, slots, Q, A⟩ := X
  exact fun H locs ls hP hS hl => lv_iand hX.1 hX.2.1 d (k H locs ls hP hS hl)
theorem V_ior (hX : Amb E X cc own nL n) {x y : Int32} (d : decode cc pc = .ok (.ior, 1)) (k : Vw E X nL D (pc + 1) lv (.int (x ||| y) :: st)) : Vw E X nL D pc lv (.int y :: .int x :: st) := by
  obtain ⟨p, l, e, R, s, m, args, below, meth, c, cells, slots, Q, A⟩ := X
  exact fun H locs ls hP hS hl => lv_ior hX.1 hX.2.1 d (k H locs ls hP hS hl)
theorem V_ixor (hX : Amb E X cc own nL n) {x y : Int32} (d : decode cc pc = .ok (.ixor, 1)) (k : Vw E X nL D (pc + 1) lv (.int (x ^^^ y) :: st)) : Vw E X nL D pc lv (.int y :: .int x :: st) := by
  obtain ⟨p, l, e, R, s, m, args, below, meth, c, cells, slots, Q, A⟩ := X
  exact fun H locs ls hP hS hl => lv_ixor hX.1 hX.2.1 d (k H locs ls hP hS hl)
theorem V_ladd (hX : Amb E X cc own nL n) {x y : Int64} (d : decode cc pc = .ok (.ladd, 1)) (k : Vw E X nL D (pc + 1) lv (.long (x + y) :: st)) : Vw E X nL D pc lv (.long y :: .long x :: st) := by
  obtain ⟨p, l, e, R, s, m, args, below, meth, c, cells, slots, Q, A⟩ := X
  exact fun H locs ls hP hS hl => lv_ladd hX.1 hX.2.1 d (k H locs ls hP hS hl)
theorem V_lsub (hX : Amb E X cc own nL n) {x y : Int64} (d : decode cc pc = .ok (.lsub, 1)) (k : Vw E X nL D (pc + 1) lv (.long (x - y) :: st)) : Vw E X nL D pc lv (.long y :: .long x :: st) := by
  obtain ⟨p, l, e, R, s, m, args, below, meth, c, cells, slots, Q, A⟩ := X
  exact fun H locs ls hP hS hl => lv_lsub hX.1 hX.2.1 d (k H locs ls hP hS hl)
theorem V_lmul (hX : Amb E X cc own nL n) {x y : Int64} (d : decode cc pc = .ok (.lmul, 1)) (k : Vw E X nL D (pc + 1) lv (.long (x * y) :: st)) : Vw E X nL D pc lv (.long y :: .long x :: st) := by
  obtain ⟨p, l, e, R, s, m, args, below, meth, c, cells, slots, Q, A⟩ := X
  exact fun H locs ls hP hS hl => lv_lmul hX.1 hX.2.1 d (k H locs ls hP hS hl)
theorem V_land (hX : Amb E X cc own nL n) {x y : Int64} (d : decode cc pc = .ok (.land, 1)) (k : Vw E X nL D (pc + 1) lv (.long (x &&& y) :: st)) : Vw E X nL D pc lv (.long y :: .long x :: st) := by
  obtain ⟨p, l, e, R, s, m, args, below, meth, c, cells, slots, Q, A⟩ := X
  exact fun H locs ls hP hS hl => lv_land hX.1 hX.2.1 d (k H locs ls hP hS hl)
theorem V_lor (hX : Amb E X cc own nL n) {x y : Int64} (d : decode cc pc = .ok (.lor, 1)) (k : Vw E X nL D (pc + 1) lv (.long (x ||| y) :: st)) : Vw E X nL D pc lv (.long y :: .long x :: st) := by
  obtain ⟨p, l, e, R, s, m, args, below, meth, c, cells, slots, Q, A⟩ := X
  exact fun H locs ls hP hS hl => lv_lor hX.1 hX.2.1 d (k H locs ls hP hS hl)
theorem V_lxor (hX : Amb E X cc own nL n) {x y : Int64} (d : decode cc pc = .ok (.lxor, 1)) (k : Vw E X nL D (pc + 1) lv (.long (x ^^^ y) :: st)) : Vw E X nL D pc lv (.long y :: .long x :: st) := by
  obtain ⟨p, l, e, R, s, m, args, below, meth, c, cells, slots, Q, A⟩ := X
  exact fun H locs ls hP hS hl => lv_lxor hX.1 hX.2.1 d (k H locs ls hP hS hl)
theorem V_idiv (hX : Amb E X cc own nL n) {x y : Int32} (hne : ¬ y = 0) (d : decode cc pc = .ok (.idiv, 1)) (k : Vw E X nL D (pc + 1) lv (.int (x / y) :: st)) : Vw E X nL D pc lv (.int y :: .int x :: st) := by
  obtain ⟨p, l, e, R, s, m, args, below, meth, c, cells, slots, Q, A⟩ := X
  exact fun H locs ls hP hS hl => lv_idiv hX.1 hX.2.1 d hne (k H locs ls hP hS hl)
theorem V_irem (hX : Amb E X cc own nL n) {x y : Int32} (hne : ¬ y = 0) (d : decode cc pc = .ok (.irem, 1)) (k : Vw E X nL D (pc + 1) lv (.int (x - x / y * y) :: st)) : Vw E X nL D pc lv (.int y :: .int x :: st) := by
  obtain ⟨p, l, e, R, s, m, args, below, meth, c, cells, slots, Q, A⟩ := X
  exact fun H locs ls hP hS hl => lv_irem hX.1 hX.2.1 d hne (k H locs ls hP hS hl)
theorem V_ldiv (hX : Amb E X cc own nL n) {x y : Int64} (hne : ¬ y = 0) (d : decode cc pc = .ok (.ldiv, 1)) (k : Vw E X nL D (pc + 1) lv (.long (x / y) :: st)) : Vw E X nL D pc lv (.long y :: .long x :: st) := by
  obtain ⟨p, l, e, R, s, m, args, below, meth, c, cells, slots, Q, A⟩ := X
  exact fun H locs ls hP hS hl => lv_ldiv hX.1 hX.2.1 d hne (k H locs ls hP hS hl)
theorem V_lrem (hX : Amb E X cc own nL n) {x y : Int64} (hne : ¬ y = 0) (d : decode cc pc = .ok (.lrem, 1)) (k : Vw E X nL D (pc + 1) lv (.long (x - x / y * y) :: st)) : Vw E X nL D pc lv (.long y :: .long x :: st) := by
  obtain ⟨p, l, e, R, s, m, args, below, meth, c, cells, slots, Q, A⟩ := X
  exact fun H locs ls hP hS hl => lv_lrem hX.1 hX.2.1 d hne (k H locs ls hP hS hl)
theorem V_ineg (hX : Amb E X cc own nL n) {x : Int32} (d : decode cc pc = .ok (.ineg, 1)) (k : Vw E X nL D (pc + 1) lv (.int (-x) :: st)) : Vw E X nL D pc lv (.int x :: st) := by
  obtain ⟨p, l, e, R, s, m, args, below, meth, c, cells, slots, Q, A⟩ := X
  exact fun H locs ls hP hS hl => lv_ineg hX.1 hX.2.1 d (k H locs ls hP hS hl)
theorem V_lneg (hX : Amb E X cc own nL n) {x : Int64} (d : decode cc pc = .ok (.lneg, 1)) (k : Vw E X nL D (pc + 1) lv (.long (-x) :: st)) : Vw E X nL D pc lv (.long x :: st) := by
  obtain ⟨p, l, e, R, s, m, args, below, meth, c, cells, slots, Q, A⟩ := X
  exact fun H locs ls hP hS hl => lv_lneg hX.1 hX.2.1 d (k H locs ls hP hS hl)
theorem V_i2l (hX : Amb E X cc own nL n) {x : Int32} (d : decode cc pc = .ok (.i2l, 1)) (k : Vw E X nL D (pc + 1) lv (.long x.toInt64 :: st)) : Vw E X nL D pc lv (.int x :: st) := by
  obtain ⟨p, l, e, R, s, m, args, below, meth, c, cells, slots, Q, A⟩ := X
  exact fun H locs ls hP hS hl => lv_i2l hX.1 hX.2.1 d rfl (k H locs ls hP hS hl)
theorem V_l2i (hX : Amb E X cc own nL n) {x : Int64} (d : decode cc pc = .ok (.l2i, 1)) (k : Vw E X nL D (pc + 1) lv (.int x.toInt32 :: st)) : Vw E X nL D pc lv (.long x :: st) := by
  obtain ⟨p, l, e, R, s, m, args, below, meth, c, cells, slots, Q, A⟩ := X
  exact fun H locs ls hP hS hl => lv_l2i hX.1 hX.2.1 d rfl (k H locs ls hP hS hl)
theorem V_i2b (hX : Amb E X cc own nL n) {x : Int32} (d : decode cc pc = .ok (.i2b, 1)) (k : Vw E X nL D (pc + 1) lv (.int x.toInt8.toInt32 :: st)) : Vw E X nL D pc lv (.int x :: st) := by
  obtain ⟨p, l, e, R, s, m, args, below, meth, c, cells, slots, Q, A⟩ := X
  exact fun H locs ls hP hS hl => lv_i2b hX.1 hX.2.1 d rfl (k H locs ls hP hS hl)
theorem V_i2c (hX : Amb E X cc own nL n) {x : Int32} (d : decode cc pc = .ok (.i2c, 1)) (k : Vw E X nL D (pc + 1) lv (.int (x.toUInt32 % 65536).toInt32 :: st)) : Vw E X nL D pc lv (.int x :: st) := by
  obtain ⟨p, l, e, R, s, m, args, below, meth, c, cells, slots, Q, A⟩ := X
  exact fun H locs ls hP hS hl => lv_i2c hX.1 hX.2.1 d rfl (k H locs ls hP hS hl)
theorem V_lushr (hX : Amb E X cc own nL n) {x : Int64} {y : Int32} (d : decode cc pc = .ok (.lushr, 1)) (k : Vw E X nL D (pc + 1) lv (.long (x.toUInt64 >>> (y.toInt64.toUInt64 &&& Int64.toUInt64 63)).toInt64 :: st)) : Vw E X nL D pc lv (.int y :: .long x :: st) := by
  obtain ⟨p, l, e, R, s, m, args, below, meth, c, cells, slots, Q, A⟩ := X
  exact fun H locs ls hP hS hl => lv_lushr hX.1 hX.2.1 d rfl (k H locs ls hP hS hl)
theorem V_lshl (hX : Amb E X cc own nL n) {x : Int64} {y : Int32} (d : decode cc pc = .ok (.lshl, 1)) (k : Vw E X nL D (pc + 1) lv (.long (x <<< (y.toInt64 &&& 63)) :: st)) : Vw E X nL D pc lv (.int y :: .long x :: st) := by
  obtain ⟨p, l, e, R, s, m, args, below, meth, c, cells, slots, Q, A⟩ := X
  exact fun H locs ls hP hS hl => lv_lshl hX.1 hX.2.1 d rfl (k H locs ls hP hS hl)
theorem V_lshr (hX : Amb E X cc own nL n) {x : Int64} {y : Int32} (d : decode cc pc = .ok (.lshr, 1)) (k : Vw E X nL D (pc + 1) lv (.long (x >>> (y.toInt64 &&& 63)) :: st)) : Vw E X nL D pc lv (.int y :: .long x :: st) := by
  obtain ⟨p, l, e, R, s, m, args, below, meth, c, cells, slots, Q, A⟩ := X
  exact fun H locs ls hP hS hl => lv_lshr hX.1 hX.2.1 d rfl (k H locs ls hP hS hl)
theorem V_dup (hX : Amb E X cc own nL n) {v : Value} (hv : v.category = 1) (d : decode cc pc = .ok (.dup, 1)) (k : Vw E X nL D (pc + 1) lv (v :: v :: st)) : Vw E X nL D pc lv (v :: st) := by
  obtain ⟨p, l, e, R, s, m, args, below, meth, c, cells, slots, Q, A⟩ := X
  exact fun H locs ls hP hS hl => lv_dup hX.1 hX.2.1 d hv (k H locs ls hP hS hl)
theorem V_dup2_11 (hX : Amb E X cc own nL n) {v w : Value} (hv : v.category = 1) (hw : w.category = 1) (d : decode cc pc = .ok (.dup2, 1)) (k : Vw E X nL D (pc + 1) lv (v :: w :: v :: w :: st)) : Vw E X nL D pc lv (v :: w :: st) := by
  obtain ⟨p, l, e, R, s, m, args, below, meth, c, cells, slots, Q, A⟩ := X
  exact fun H locs ls hP hS hl => lv_dup2_11 hX.1 hX.2.1 d hv hw (k H locs ls hP hS hl)
theorem V_pop (hX : Amb E X cc own nL n) {v : Value} (hv : v.category = 1) (d : decode cc pc = .ok (.pop, 1)) (k : Vw E X nL D (pc + 1) lv st) : Vw E X nL D pc lv (v :: st) := by
  obtain ⟨p, l, e, R, s, m, args, below, meth, c, cells, slots, Q, A⟩ := X
  exact fun H locs ls hP hS hl => lv_pop hX.1 hX.2.1 d hv (k H locs ls hP hS hl)
theorem V_goto (hX : Amb E X cc own nL n) {off : Int} {tgt : Nat} (ht : (pc : Int) + off = (tgt : Int)) (d : decode cc pc = .ok (.goto off, 3)) (k : Vw E X nL D tgt lv st) : Vw E X nL D pc lv st := by
  obtain ⟨p, l, e, R, s, m, args, below, meth, c, cells, slots, Q, A⟩ := X
  exact fun H locs ls hP hS hl => lv_goto hX.1 hX.2.1 d ht (k H locs ls hP hS hl)
theorem V_if_eq (hX : Amb E X cc own nL n) {x : Int32} {off : Int} {tgt : Nat} (d : decode cc pc = .ok (.ifCond .eq off, 3)) (ht : (pc : Int) + off = (tgt : Int)) (k1 : x = 0 → Vw E X nL D tgt lv st) (k2 : ¬ x = 0 → Vw E X nL D (pc + 3) lv st) : Vw E X nL D pc lv (.int x :: st) := by
  obtain ⟨p, l, e, R, s, m, args, below, meth, c, cells, slots, Q, A⟩ := X
  exact fun H locs ls hP hS hl => lv_if_eq hX.1 hX.2.1 d ht (fun h => k1 h H locs ls hP hS hl) (fun h => k2 h H locs ls hP hS hl)
theorem V_icmp_eq (hX : Amb E X cc own nL n) {x y : Int32} {off : Int} {tgt : Nat} (d : decode cc pc = .ok (.if_icmp .eq off, 3)) (ht : (pc : Int) + off = (tgt : Int)) (k1 : x = y → Vw E X nL D tgt lv st) (k2 : ¬ x = y → Vw E X nL D (pc + 3) lv st) : Vw E X nL D pc lv (.int y :: .int x :: st) := by
  obtain ⟨p, l, e, R, s, m, args, below, meth, c, cells, slots, Q, A⟩ := X
  exact fun H locs ls hP hS hl => lv_icmp_eq hX.1 hX.2.1 d ht (fun h => k1 h H locs ls hP hS hl) (fun h => k2 h H locs ls hP hS hl)
theorem V_if_lt (hX : Amb E X cc own nL n) {x : Int32} {off : Int} {tgt : Nat} (d : decode cc pc = .ok (.ifCond .lt off, 3)) (ht : (pc : Int) + off = (tgt : Int)) (k1 : x < 0 → Vw E X nL D tgt lv st) (k2 : ¬ x < 0 → Vw E X nL D (pc + 3) lv st) : Vw E X nL D pc lv (.int x :: st) := by
  obtain ⟨p, l, e, R, s, m, args, below, meth, c, cells, slots, Q, A⟩ := X
  exact fun H locs ls hP hS hl => lv_if_lt hX.1 hX.2.1 d ht (fun h => k1 h H locs ls hP hS hl) (fun h => k2 h H locs ls hP hS hl)
theorem V_icmp_lt (hX : Amb E X cc own nL n) {x y : Int32} {off : Int} {tgt : Nat} (d : decode cc pc = .ok (.if_icmp .lt off, 3)) (ht : (pc : Int) + off = (tgt : Int)) (k1 : x < y → Vw E X nL D tgt lv st) (k2 : ¬ x < y → Vw E X nL D (pc + 3) lv st) : Vw E X nL D pc lv (.int y :: .int x :: st) := by
  obtain ⟨p, l, e, R, s, m, args, below, meth, c, cells, slots, Q, A⟩ := X
  exact fun H locs ls hP hS hl => lv_icmp_lt hX.1 hX.2.1 d ht (fun h => k1 h H locs ls hP hS hl) (fun h => k2 h H locs ls hP hS hl)
theorem V_if_ge (hX : Amb E X cc own nL n) {x : Int32} {off : Int} {tgt : Nat} (d : decode cc pc = .ok (.ifCond .ge off, 3)) (ht : (pc : Int) + off = (tgt : Int)) (k1 : 0 ≤ x → Vw E X nL D tgt lv st) (k2 : ¬ 0 ≤ x → Vw E X nL D (pc + 3) lv st) : Vw E X nL D pc lv (.int x :: st) := by
  obtain ⟨p, l, e, R, s, m, args, below, meth, c, cells, slots, Q, A⟩ := X
  exact fun H locs ls hP hS hl => lv_if_ge hX.1 hX.2.1 d ht (fun h => k1 h H locs ls hP hS hl) (fun h => k2 h H locs ls hP hS hl)
theorem V_icmp_ge (hX : Amb E X cc own nL n) {x y : Int32} {off : Int} {tgt : Nat} (d : decode cc pc = .ok (.if_icmp .ge off, 3)) (ht : (pc : Int) + off = (tgt : Int)) (k1 : y ≤ x → Vw E X nL D tgt lv st) (k2 : ¬ y ≤ x → Vw E X nL D (pc + 3) lv st) : Vw E X nL D pc lv (.int y :: .int x :: st) := by
  obtain ⟨p, l, e, R, s, m, args, below, meth, c, cells, slots, Q, A⟩ := X
  exact fun H locs ls hP hS hl => lv_icmp_ge hX.1 hX.2.1 d ht (fun h => k1 h H locs ls hP hS hl) (fun h => k2 h H locs ls hP hS hl)
theorem V_if_gt (hX : Amb E X cc own nL n) {x : Int32} {off : Int} {tgt : Nat} (d : decode cc pc = .ok (.ifCond .gt off, 3)) (ht : (pc : Int) + off = (tgt : Int)) (k1 : 0 < x → Vw E X nL D tgt lv st) (k2 : ¬ 0 < x → Vw E X nL D (pc + 3) lv st) : Vw E X nL D pc lv (.int x :: st) := by
  obtain ⟨p, l, e, R, s, m, args, below, meth, c, cells, slots, Q, A⟩ := X
  exact fun H locs ls hP hS hl => lv_if_gt hX.1 hX.2.1 d ht (fun h => k1 h H locs ls hP hS hl) (fun h => k2 h H locs ls hP hS hl)
theorem V_icmp_gt (hX : Amb E X cc own nL n) {x y : Int32} {off : Int} {tgt : Nat} (d : decode cc pc = .ok (.if_icmp .gt off, 3)) (ht : (pc : Int) + off = (tgt : Int)) (k1 : y < x → Vw E X nL D tgt lv st) (k2 : ¬ y < x → Vw E X nL D (pc + 3) lv st) : Vw E X nL D pc lv (.int y :: .int x :: st) := by
  obtain ⟨p, l, e, R, s, m, args, below, meth, c, cells, slots, Q, A⟩ := X
  exact fun H locs ls hP hS hl => lv_icmp_gt hX.1 hX.2.1 d ht (fun h => k1 h H locs ls hP hS hl) (fun h => k2 h H locs ls hP hS hl)
theorem V_if_le (hX : Amb E X cc own nL n) {x : Int32} {off : Int} {tgt : Nat} (d : decode cc pc = .ok (.ifCond .le off, 3)) (ht : (pc : Int) + off = (tgt : Int)) (k1 : x ≤ 0 → Vw E X nL D tgt lv st) (k2 : ¬ x ≤ 0 → Vw E X nL D (pc + 3) lv st) : Vw E X nL D pc lv (.int x :: st) := by
  obtain ⟨p, l, e, R, s, m, args, below, meth, c, cells, slots, Q, A⟩ := X
  exact fun H locs ls hP hS hl => lv_if_le hX.1 hX.2.1 d ht (fun h => k1 h H locs ls hP hS hl) (fun h => k2 h H locs ls hP hS hl)
theorem V_icmp_le (hX : Amb E X cc own nL n) {x y : Int32} {off : Int} {tgt : Nat} (d : decode cc pc = .ok (.if_icmp .le off, 3)) (ht : (pc : Int) + off = (tgt : Int)) (k1 : x ≤ y → Vw E X nL D tgt lv st) (k2 : ¬ x ≤ y → Vw E X nL D (pc + 3) lv st) : Vw E X nL D pc lv (.int y :: .int x :: st) := by
  obtain ⟨p, l, e, R, s, m, args, below, meth, c, cells, slots, Q, A⟩ := X
  exact fun H locs ls hP hS hl => lv_icmp_le hX.1 hX.2.1 d ht (fun h => k1 h H locs ls hP hS hl) (fun h => k2 h H locs ls hP hS hl)
theorem V_if_ne (hX : Amb E X cc own nL n) {x : Int32} {off : Int} {tgt : Nat} (d : decode cc pc = .ok (.ifCond .ne off, 3)) (ht : (pc : Int) + off = (tgt : Int)) (k1 : ¬ x = 0 → Vw E X nL D tgt lv st) (k2 : x = 0 → Vw E X nL D (pc + 3) lv st) : Vw E X nL D pc lv (.int x :: st) := by
  obtain ⟨p, l, e, R, s, m, args, below, meth, c, cells, slots, Q, A⟩ := X
  exact fun H locs ls hP hS hl => lv_if_ne hX.1 hX.2.1 d ht (fun h => k1 h H locs ls hP hS hl) (fun h => k2 h H locs ls hP hS hl)
theorem V_icmp_ne (hX : Amb E X cc own nL n) {x y : Int32} {off : Int} {tgt : Nat} (d : decode cc pc = .ok (.if_icmp .ne off, 3)) (ht : (pc : Int) + off = (tgt : Int)) (k1 : ¬ x = y → Vw E X nL D tgt lv st) (k2 : x = y → Vw E X nL D (pc + 3) lv st) : Vw E X nL D pc lv (.int y :: .int x :: st) := by
  obtain ⟨p, l, e, R, s, m, args, below, meth, c, cells, slots, Q, A⟩ := X
  exact fun H locs ls hP hS hl => lv_icmp_ne hX.1 hX.2.1 d ht (fun h => k1 h H locs ls hP hS hl) (fun h => k2 h H locs ls hP hS hl)
theorem V_lcmp (hX : Amb E X cc own nL n) {x y : Int64} (d : decode cc pc = .ok (.lcmp, 1)) (k : Vw E X nL D (pc + 1) lv (.int (lg_cmp x y) :: st)) : Vw E X nL D pc lv (.long y :: .long x :: st) := by
  obtain ⟨p, l, e, R, s, m, args, below, meth, c, cells, slots, Q, A⟩ := X
  exact fun H locs ls hP hS hl => W.lcmp hX.1 hX.2.1 d (k H locs ls hP hS hl)
theorem V_lookup (hX : Amb E X cc own nL n) {dflt : Int} {ps : Array (Int × Int)} {len : Nat} {x : Int32} {off : Int} {tgt : Nat} (d : decode cc pc = .ok (.lookupswitch dflt ps, len)) (hp : (ps.toList.zip (ps.toList.drop 1)).all (fun (a, next) => a.1 < next.1) = true) (ho : Op.lookupswitch.offset ps.toList dflt x.toInt = off) (ht : (pc : Int) + off = (tgt : Int)) (k : Vw E X nL D tgt lv st) : Vw E X nL D pc lv (.int x :: st) := by
  obtain ⟨p, l, e, R, s, m, args, below, meth, c, cells, slots, Q, A⟩ := X
  exact fun H locs ls hP hS hl => lv_lookup hX.1 hX.2.1 d hp ho ht (k H locs ls hP hS hl)
theorem V_tableOut (hX : Amb E X cc own nL n) {dflt lo hi : Int} {offs : Array Int} {len : Nat} {x : Int32} {tgt : Nat} (d : decode cc pc = .ok (.tableswitch dflt lo hi offs, len)) (h : x.toInt < lo ∨ hi < x.toInt) (ht : (pc : Int) + dflt = (tgt : Int)) (k : Vw E X nL D tgt lv st) : Vw E X nL D pc lv (.int x :: st) := by
  obtain ⟨p, l, e, R, s, m, args, below, meth, c, cells, slots, Q, A⟩ := X
  exact fun H locs ls hP hS hl => lv_tableOut hX.1 hX.2.1 d h ht (k H locs ls hP hS hl)
theorem V_tableIn (hX : Amb E X cc own nL n) {dflt lo hi : Int} {offs : Array Int} {len : Nat} {x : Int32} {off : Int} {tgt : Nat} (d : decode cc pc = .ok (.tableswitch dflt lo hi offs, len)) (h1 : ¬ x.toInt < lo) (h2 : ¬ hi < x.toInt) (ho : offs[(x.toInt - lo).toNat]? = some off) (ht : (pc : Int) + off = (tgt : Int)) (k : Vw E X nL D tgt lv st) : Vw E X nL D pc lv (.int x :: st) := by
  obtain ⟨p, l, e, R, s, m, args, below, meth, c, cells, slots, Q, A⟩ := X
  exact fun H locs ls hP hS hl => lv_tableIn hX.1 hX.2.1 d h1 h2 ho ht (k H locs ls hP hS hl)
theorem V_iret {Φ : Option Value → Dt → Prop} (hX : Amb E X cc own nL n) (hR : Ret E X (some .int) Φ) {v : Int32} (d : decode cc pc = .ok (.ireturn, 1)) (hq : Φ (some (.int v)) D) : Vw E X nL D pc lv [.int v] := by
  obtain ⟨p, l, e, R, s, m, args, below, meth, c, cells, slots, Q, A⟩ := X
  obtain ⟨h1, h2, rfl, rfl⟩ := hR
  exact fun H locs ls hP hS hl => W.iret hX.1 hX.2.1 h1 (fun t ht hW => ⟨⟨_, D, rfl, hq, by rw [ht]; exact hP⟩, hS.F ht⟩) hS.2.2 d h2
theorem V_zret {Φ : Option Value → Dt → Prop} (hX : Amb E X cc own nL n) (hR : Ret E X (some .boolean) Φ) {v : Int32} (hn : narrow .boolean (.int v) = .int v) (d : decode cc pc = .ok (.ireturn, 1)) (hq : Φ (some (.int v)) D) : Vw E X nL D pc lv [.int v] := by
  obtain ⟨p, l, e, R, s, m, args, below, meth, c, cells, slots, Q, A⟩ := X
  obtain ⟨h1, h2, rfl, rfl⟩ := hR
  exact fun H locs ls hP hS hl => W.zret hX.1 hX.2.1 h1 hn (fun t ht hW => ⟨⟨_, D, rfl, hq, by rw [ht]; exact hP⟩, hS.F ht⟩) hS.2.2 d h2
theorem V_lret {Φ : Option Value → Dt → Prop} (hX : Amb E X cc own nL n) (hR : Ret E X (some .long) Φ) {v : Int64} (d : decode cc pc = .ok (.lreturn, 1)) (hq : Φ (some (.long v)) D) : Vw E X nL D pc lv [.long v] := by
  obtain ⟨p, l, e, R, s, m, args, below, meth, c, cells, slots, Q, A⟩ := X
  obtain ⟨h1, h2, rfl, rfl⟩ := hR
  exact fun H locs ls hP hS hl => W.lret hX.1 hX.2.1 h1 (fun t ht hW => ⟨⟨_, D, rfl, hq, by rw [ht]; exact hP⟩, hS.F ht⟩) hS.2.2 d h2
theorem V_vret {Φ : Option Value → Dt → Prop} (hX : Amb E X cc own nL n) (hR : Ret E X none Φ) (d : decode cc pc = .ok (.return_, 1)) (hq : Φ none D) : Vw E X nL D pc lv [] := by
  obtain ⟨p, l, e, R, s, m, args, below, meth, c, cells, slots, Q, A⟩ := X
  obtain ⟨h1, h2, rfl, rfl⟩ := hR
  exact fun H locs ls hP hS hl => W.vret hX.1 hX.2.1 h1 (fun t ht hW => ⟨⟨_, D, rfl, hq, by rw [ht]; exact hP⟩, hS.F ht⟩) hS.2.2 d h2
theorem V_get (hX : Amb E X cc own nL n) {ip : Nat} {q : Nat × Fin 11} (hp : ids[ip]? = some q) {ci : Nat} {fs : List Value} (he : cellOf E D q = .inr (ci, fs)) {C : String} {T : u_T} {N : Nat} (hc : vwCl[ci]? = some (C, T, N)) (hin : ∀ w ∈ u_ws C T N, w ∈ tblG) (k0 : Nat) (hk : k0 < N) {index : Nat} (hw : Cond.fieldLink own index (T k0).1 (T k0).2.1 (T k0).2.2.1 ∈ tblG) {v : Value} (hv : fs[k0]? = some v) (d : decode cc pc = .ok (.getfield index, 3)) (k : Vw E X nL D (pc + 3) lv (v :: st)) : Vw E X nL D pc lv (.ref (E.1 q) :: st) := by
  obtain ⟨p, l, e, R, s, m, args, below, meth, c, cells, slots, Q, A⟩ := X
  exact fun H locs ls hP hS hl => va_get hX.1 hX.2.1 hX.2.2.2.2.1 hin hX.2.2.2.1 hX.2.2.2.2.2.1 hP ip (by rw [wsD_get hp, he]) hc k0 hk (hX.2.2.2.2.1 _ hw) (fun _ h => h) hv d (k H locs ls hP hS hl)
theorem V_put (hX : Amb E X cc own nL n) {ip : Nat} {q : Nat × Fin 11} (hp : ids[ip]? = some q) {ci : Nat} {fs : List Value} (he : cellOf E D q = .inr (ci, fs)) {C : String} {T : u_T} {N : Nat} (hc : vwCl[ci]? = some (C, T, N)) (hin : ∀ w ∈ u_ws C T N, w ∈ tblG) (ty0 : Nat → FieldType) (hty : ∀ k, k < N → parseFieldDescriptor (T k).2.2.1 = some (ty0 k)) (hnm : ∀ a, a < N → ∀ b, b < N → a ≠ b → (T a).2.1 ≠ (T b).2.1) (k0 : Nat) (hk : k0 < N) {index : Nat} (hw : Cond.fieldLink own index (T k0).1 (T k0).2.1 (T k0).2.2.1 ∈ tblG) (hfin : (T k0).2.2.2 = false) {ty : FieldType} {v : Value} (hd : parseFieldDescriptor (T k0).2.2.1 = some ty) (hn : narrow ty v = v) (hfit : fits ty v = true) (hl0 : k0 < fs.length) (D' : Dt) (he' : cellOf E D' q = .inr (ci, fs.set k0 v)) (ho : ∀ r, r ≠ q → cellOf E D' r = cellOf E D r) (d : decode cc pc = .ok (.putfield index, 3)) (k : Vw E X nL D' (pc + 3) lv st) : Vw E X nL D pc lv (v :: .ref (E.1 q) :: st) := by
  obtain ⟨p, l, e, R, s, m, args, below, meth, c, cells, slots, Q, A⟩ := X
  refine fun H locs ls hP hS hl => va_put hX.1 hX.2.1 hX.2.2.2.2.1 hin ty0 hty hnm hX.2.2.2.1 hX.2.2.2.2.2.1 hP (wsD_D hX.2.2.2.2.2.2.1 hX.2.2.2.2.2.2.2.1) hS ip (by rw [wsD_get hp, he]) hc k0 hk (hX.2.2.2.2.1 _ hw) (fun _ h => h) hfin hd hn hfit hl0 d (fun H1 locs1 hP1 _ hS1 => ?_)
  rw [wsD_set hp he' ho] at hP1
  exact k H1 locs1 ls hP1 hS1 hl
/-! arrays -/
theorem V_iald (hX : Amb E X cc own nL n) {ip : Nat} {q : Nat × Fin 11} (hp : ids[ip]? = some q) {N : Nat} {f : Nat → Int32} (he : cellOf E D q = .inl (E.2.2.1 2, N, .inl f)) {x : Int32} (i : Nat) (hx : x = nI i) (hi : i < N) (hN : N < 2 ^ 31) (d : decode cc pc = .ok (.iaload, 1)) (k : Vw E X nL D (pc + 1) lv (.int (f i) :: st)) : Vw E X nL D pc lv (.int x :: .ref (E.1 q) :: st) := by
  obtain ⟨p, l, e, R, s, m, args, below, meth, c, cells, slots, Q, A⟩ := X
  subst hx
  refine fun H locs ls hP hS hl => va_iald hX.1 hX.2.1 hX.2.2.2.2.2.1 hP ip 2 (by rw [wsD_get hp, he]) rfl (vp_in_nI hi hN) d ?_
  rw [nI_clamp (Nat.lt_trans hi hN)]
  exact k H locs ls hP hS hl
theorem V_bald (hX : Amb E X cc own nL n) {ip : Nat} {q : Nat × Fin 11} (hp : ids[ip]? = some q) {N : Nat} {f : Nat → Int32} (he : cellOf E D q = .inl (E.2.2.1 0, N, .inl f)) {x : Int32} (i : Nat) (hx : x = nI i) (hi : i < N) (hN : N < 2 ^ 31) (d : decode cc pc = .ok (.baload, 1)) (k : Vw E X nL D (pc + 1) lv (.int (f i) :: st)) : Vw E X nL D pc lv (.int x :: .ref (E.1 q) :: st) := by
  obtain ⟨p, l, e, R, s, m, args, below, meth, c, cells, slots, Q, A⟩ := X
  subst hx
  refine fun H locs ls hP hS hl => va_bald hX.1 hX.2.1 hX.2.2.2.2.2.1 hP ip 0 (by rw [wsD_get hp, he]) rfl (vp_in_nI hi hN) d ?_
  rw [nI_clamp (Nat.lt_trans hi hN)]
  exact k H locs ls hP hS hl
theorem V_cald (hX : Amb E X cc own nL n) {ip : Nat} {q : Nat × Fin 11} (hp : ids[ip]? = some q) {N : Nat} {f : Nat → Int32} (he : cellOf E D q = .inl (E.2.2.1 1, N, .inl f)) {x : Int32} (i : Nat) (hx : x = nI i) (hi : i < N) (hN : N < 2 ^ 31) (d : decode cc pc = .ok (.caload, 1)) (k : Vw E X nL D (pc + 1) lv (.int (f i) :: st)) : Vw E X nL D pc lv (.int x :: .ref (E.1 q) :: st) := by
  obtain ⟨p, l, e, R, s, m, args, below, meth, c, cells, slots, Q, A⟩ := X
  subst hx
  refine fun H locs ls hP hS hl => va_cald hX.1 hX.2.1 hX.2.2.2.2.2.1 hP ip 1 (by rw [wsD_get hp, he]) rfl (vp_in_nI hi hN) d ?_
  rw [nI_clamp (Nat.lt_trans hi hN)]
  exact k H locs ls hP hS hl
theorem V_lald (hX : Amb E X cc own nL n) {ip : Nat} {q : Nat × Fin 11} (hp : ids[ip]? = some q) {N : Nat} {f : Nat → Int64} (he : cellOf E D q = .inl (E.2.2.1 3, N, .inr (.inl f))) {x : Int32} (i : Nat) (hx : x = nI i) (hi : i < N) (hN : N < 2 ^ 31) (d : decode cc pc = .ok (.laload, 1)) (k : Vw E X nL D (pc + 1) lv (.long (f i) :: st)) : Vw E X nL D pc lv (.int x :: .ref (E.1 q) :: st) := by
  obtain ⟨p, l, e, R, s, m, args, below, meth, c, cells, slots, Q, A⟩ := X
  subst hx
  refine fun H locs ls hP hS hl => va_lald hX.1 hX.2.1 hX.2.2.2.2.2.1 hP ip 3 (by rw [wsD_get hp, he]) rfl (vp_in_nI hi hN) d ?_
  rw [nI_clamp (Nat.lt_trans hi hN)]
  exact k H locs ls hP hS hl
theorem V_alen (hX : Amb E X cc own nL n) {ip : Nat} {q : Nat × Fin 11} (hp : ids[ip]? = some q) {cA : ClassId} {x : vp_A} (he : cellOf E D q = .inl (cA, x)) (t0 : Nat) {ty : FieldType} (ht : (tysE E)[t0]? = some (cA, ty)) (v : Int32) (hv : Int32.ofNat x.1 = v) (d : decode cc pc = .ok (.arraylength, 1)) (k : Vw E X nL D (pc + 1) lv (.int v :: st)) : Vw E X nL D pc lv (.ref (E.1 q) :: st) := by
  obtain ⟨p, l, e, R, s, m, args, below, meth, c, cells, slots, Q, A⟩ := X
  exact fun H locs ls hP hS hl => va_alen hX.1 hX.2.1 hX.2.2.2.2.2.1 hP ip t0 (by rw [wsD_get hp, he]) ht hv d (k H locs ls hP hS hl)
theorem V_iast (hX : Amb E X cc own nL n) {ip t : Nat} (hp : ids[ip]? = some (t, 0)) {N : Nat} (he : ∀ D, cellOf E D (t, 0) = .inl (E.2.2.1 2, N, .inl (D.1 t))) {x y : Int32} (i : Nat) (hx : x = nI i) (hi : i < N) (hN : N < 2 ^ 31) (ho : ∀ D (r : Nat × Fin 11), r ≠ (t, 0) → cellOf E (rU D t (upd (D.1 t) i y)) r = cellOf E D r) (d : decode cc pc = .ok (.iastore, 1)) (k : Vw E X nL (rU D t (upd (D.1 t) i y)) (pc + 1) lv st) : Vw E X nL D pc lv (.int y :: .int x :: .ref (E.1 (t, 0)) :: st) := by
  obtain ⟨p, l, e, R, s, m, args, below, meth, c, cells, slots, Q, A⟩ := X
  subst hx
  refine fun H locs ls hP hS hl => va_iast hX.1 hX.2.1 hX.2.2.2.2.2.1 hP (wsD_D hX.2.2.2.2.2.2.1 hX.2.2.2.2.2.2.2.1) hS ip 2 (by rw [wsD_get hp, he]) rfl (vp_in_nI hi hN) d (fun H1 locs1 hP1 _ hS1 => ?_)
  rw [nI_clamp (Nat.lt_trans hi hN), wsD_set (D' := rU D t (upd (D.1 t) i y)) hp (by rw [he]; simp [rU]) (ho D)] at hP1
  exact k H1 locs1 ls hP1 hS1 hl
theorem V_bast (hX : Amb E X cc own nL n) {ip t : Nat} (hp : ids[ip]? = some (t, 0)) {N : Nat} (he : ∀ D, cellOf E D (t, 0) = .inl (E.2.2.1 0, N, .inl (D.1 t))) {x y : Int32} (i : Nat) (hx : x = nI i) (hi : i < N) (hN : N < 2 ^ 31) (hy : vp_nar .byte y = y) (ho : ∀ D (r : Nat × Fin 11), r ≠ (t, 0) → cellOf E (rU D t (upd (D.1 t) i y)) r = cellOf E D r) (d : decode cc pc = .ok (.bastore, 1)) (k : Vw E X nL (rU D t (upd (D.1 t) i y)) (pc + 1) lv st) : Vw E X nL D pc lv (.int y :: .int x :: .ref (E.1 (t, 0)) :: st) := by
  obtain ⟨p, l, e, R, s, m, args, below, meth, c, cells, slots, Q, A⟩ := X
  subst hx
  refine fun H locs ls hP hS hl => va_bast hX.1 hX.2.1 hX.2.2.2.2.2.1 hP (wsD_D hX.2.2.2.2.2.2.1 hX.2.2.2.2.2.2.2.1) hS ip 0 (by rw [wsD_get hp, he]) rfl (vp_in_nI hi hN) d (fun H1 locs1 hP1 _ hS1 => ?_)
  rw [nI_clamp (Nat.lt_trans hi hN), hy, wsD_set (D' := rU D t (upd (D.1 t) i y)) hp (by rw [he]; simp [rU]) (ho D)] at hP1
  exact k H1 locs1 ls hP1 hS1 hl
theorem V_last (hX : Amb E X cc own nL n) {ip t : Nat} {z : Fin 11} (hp : ids[ip]? = some (t, z)) {N : Nat} (he : ∀ D, cellOf E D (t, z) = .inl (E.2.2.1 3, N, .inr (.inl (D.2.1 t z)))) {x : Int32} {y : Int64} (i : Nat) (hx : x = nI i) (hi : i < N) (hN : N < 2 ^ 31) (ho : ∀ D (r : Nat × Fin 11), r ≠ (t, z) → cellOf E (lU D t z (vp_updL (D.2.1 t z) i y)) r = cellOf E D r) (d : decode cc pc = .ok (.lastore, 1)) (k : Vw E X nL (lU D t z (vp_updL (D.2.1 t z) i y)) (pc + 1) lv st) : Vw E X nL D pc lv (.long y :: .int x :: .ref (E.1 (t, z)) :: st) := by
  obtain ⟨p, l, e, R, s, m, args, below, meth, c, cells, slots, Q, A⟩ := X
  subst hx
  refine fun H locs ls hP hS hl => va_last hX.1 hX.2.1 hX.2.2.2.2.2.1 hP (wsD_D hX.2.2.2.2.2.2.1 hX.2.2.2.2.2.2.2.1) hS ip 3 (by rw [wsD_get hp, he]) rfl (vp_in_nI hi hN) d (fun H1 locs1 hP1 _ hS1 => ?_)
  rw [nI_clamp (Nat.lt_trans hi hN), wsD_set (D' := lU D t z (vp_updL (D.2.1 t z) i y)) hp (by rw [he]; simp [lU]) (ho D)] at hP1
  exact k H1 locs1 ls hP1 hS1 hl
theorem V_aald (hX : Amb E X cc own nL n) {z : Fin 11} {x : Int32} (i : Nat) (hx : x = nI i) (hi : i < 5) (d : decode cc pc = .ok (.aaload, 1)) (k : Vw E X nL D (pc + 1) lv (.ref (E.1 (1, D.2.2 (1 + (b2 z).val) i)) :: st)) : Vw E X nL D pc lv (.int x :: .ref (E.1 (4, b2 z)) :: st) := by
  obtain ⟨p, l, e, R, s, m, args, below, meth, c, cells, slots, Q, A⟩ := X
  subst hx
  refine fun H locs ls hP hS hl => va_aldq hX.1 hX.2.1 hX.2.2.2.2.2.1 hP (34 + (b2 z).val) 4 (f := fun i => some (E.1 (1, D.2.2 (1 + (b2 z).val) i))) (by rw [wsD_get (ix_4 z)]; rfl) rfl (vp_in_nI hi (by decide)) d ?_
  rw [nI_clamp (Nat.lt_trans hi (by decide))]
  exact k H locs ls hP hS hl
theorem V_aast (hX : Amb E X cc own nL n) {z w : Fin 11} {x : Int32} (i : Nat) (hx : x = nI i) (hi : i < 5) (d : decode cc pc = .ok (.aastore, 1)) (k : Vw E X nL (pU D (1 + (b2 z).val) (pS (D.2.2 (1 + (b2 z).val)) i w)) (pc + 1) lv st) : Vw E X nL D pc lv (.ref (E.1 (1, w)) :: .int x :: .ref (E.1 (4, b2 z)) :: st) := by
  obtain ⟨p, l, e, R, s, m, args, below, meth, c, cells, slots, Q, A⟩ := X
  subst hx
  refine fun H locs ls hP hS hl => va_astq hX.1 hX.2.1 hX.2.2.2.2.2.1 hP (wsD_D hX.2.2.2.2.2.2.1 hX.2.2.2.2.2.2.2.1) hS (34 + (b2 z).val) 4 (1 + w.val) 0 (r := (RX0, TX0, 2)) (f := fun i => some (E.1 (1, D.2.2 (1 + (b2 z).val) i))) (by rw [wsD_get (ix_4 z)]; rfl) rfl (by rw [wsD_get (ix_1 w)]; rfl) rfl (vp_in_nI hi (by decide)) d (fun H1 locs1 hP1 _ hS1 => ?_)
  rw [nI_clamp (Nat.lt_trans hi (by decide)), wsD_set (D' := pU D (1 + (b2 z).val) (pS (D.2.2 (1 + (b2 z).val)) i w)) (ix_4 z) ?_ (fun r hr => cell_pU1 E D (b2 z) _ r hr)] at hP1
  · exact k H1 locs1 ls hP1 hS1 hl
  · show Sum.inl (E.2.2.1 4, 5, _) = Sum.inl (E.2.2.1 4, 5, _)
    congr 7
    funext j
    by_cases hj : j = i <;> simp [pU, pS, va_up, hj]
/-! calls -/
def Site (own : String) (idx : Nat) (y : MethodName) (cc : ByteArray) (mL : Nat) (ret : Option FieldType) (na : Nat) : Prop := Cond.methodLink own idx y ∈ tblG ∧ Cond.initialized y.cls ∈ tblG ∧ Cond.code y cc mL ret ∈ tblG ∧ (y.cls ≠ "java/lang/invoke/MethodHandle" ∧ y.cls ≠ "java/lang/invoke/VarHandle" ∧ (parseMethodDescriptor y.desc).map (fun d => d.parameters.length) = some na) ∧ mL ≤ 20
def SiteN (own : String) (idx : Nat) (y : MethodName) (host : String) (cc : ByteArray) (mL : Nat) (ret : Option FieldType) (na : Nat) : Prop := Cond.methodLinkNest own idx y host ∈ tblG ∧ Cond.initialized y.cls ∈ tblG ∧ Cond.code y cc mL ret ∈ tblG ∧ (y.cls ≠ "java/lang/invoke/MethodHandle" ∧ y.cls ≠ "java/lang/invoke/VarHandle" ∧ (parseMethodDescriptor y.desc).map (fun d => d.parameters.length) = some na) ∧ mL ≤ 20
theorem pcb_blind {E : Le} {D : Dt} {as : List Value} : FrameBlind (va_Pc as (PcB E D)) := by
  intro a U g mk q
  obtain ⟨q0, qP, qK, qW, qS⟩ := q
  exact ⟨q0, qP, va_K.moved (u := U) (U := U.calling g mk a) (Vm.Alike.refl U.vm) qK, qW, Stc.same (u := U) rfl qS⟩
theorem goodTbl {y : MethodName} {cc : ByteArray} {mL : Nat} {ret : Option FieldType} (h : Cond.code y cc mL ret ∈ tblG) : GoodIn tblG (Cond.code y cc mL ret :: tblG) := by
  intro w hw
  have hm : w ∈ tblG := by
    rcases List.mem_cons.mp hw with rfl | h2
    · exact h
    · exact h2
  exact ⟨hm, good_of_word (List.mem_filter.mp hm).2⟩
theorem roomB {X : Cx} {n2 mL : Nat} (hX : Amb E X cc own nL n) (hn : n2 < n) (hm : mL ≤ 20) : match X with
  | (_, _, _, R, _) => (rmB n2).frames + 1 ≤ R.frames ∧ 8 + (mL + 11) + (rmB n2).locals ≤ R.locals := by
  obtain ⟨p, l, e, R, s, m, args, below, meth, c, cells, slots, Q, A⟩ := X
  obtain ⟨-, -, -, -, -, -, -, -, ⟨h1, h2, -, -⟩, -⟩ := hX
  simp only [rmB]
  omega
theorem V_callCore {y : MethodName} {cy : ByteArray} {mL : Nat} {ret : Option FieldType} {n2 : Nat} {as rest st0 : List Value} {Φ : Option Value → Dt → Prop} (hX : Amb E X cc own nL n)
    (hr : match X with
      | (p, l, e, R, s, m, args, below, meth, c, cells, slots, _, A) => ∀ (H : Heap) (locs : List Loc) (ls : Array Slot), va_P E.2.1 vwCl (wsD E D) H → va_S A s.heap H locs → ls.size = nL → va_Run p l e R s m args below meth c H locs cells slots 0 0 (F0 m pc ls st0) rest (QcB E Φ as.toArray) (inW E))
    (k : ∀ (v : Option Value) (D' : Dt), Φ v D' → Vw E X nL D' (pc + 3) lv (v.toList ++ rest)) : Vw E X nL D pc lv st0 := by
  obtain ⟨p, l, e, R, s, m, args, below, meth, c, cells, slots, Q, A⟩ := X
  intro H locs ls hP hS hl
  intro T hT XX
  obtain ⟨v, st₀, t, T', L, h0, X', hL, e1, e2, ⟨⟨v2, D', hv, hq, hP'⟩, hz, hk⟩, sp⟩ := hr H locs ls hP hS hl.1 T hT XX
  cases hv
  rw [h0] at hz hk
  have hA : ∀ q, inW E q → A q := fun q ⟨i, hi, e⟩ => e ▸ hX.2.2.2.2.2.2.2.1 i hi
  obtain ⟨t2, a1, b1⟩ := k v D' hq T'.heap (locs ++ L) ls (by rw [e1]; exact hP')
    ⟨Nat.le_trans hS.1 (by rw [e1]; exact hz), fun q h1 h2 => by rw [e1, hk q (Nat.lt_of_lt_of_le h1 hS.1) (fun z => h2 (hA q z))]; exact hS.2.1 q h1 h2, fun q hq => by
      rcases List.mem_append.mp hq with h | h
      · exact hS.2.2 q h
      · exact hA _ (hL q h)⟩ hl T' rfl X'
  exact ⟨t2, sp t2 a1, b1⟩
theorem pre_B {p : Program} {l : Launch} {e : Env} {R : Room} {s : State} {m : MethodId} {args : Array Value} {below : List Frame} {meth : Method} {c : Code} {cells slots : Nat} {Q : State → Prop} {A : Nat → Prop} {as : List Value} (hX : Amb E (p, l, e, R, s, m, args, below, meth, c, cells, slots, Q, A) cc own nL n) {H : Heap} {locs : List Loc} (hP : va_P E.2.1 vwCl (wsD E D) H) (hS : va_S A s.heap H locs) : ∀ U : State, U.heap = H → s.WarmedH U.vm → va_Pc as (PcB E D) as.toArray U := by
  intro U hU hW
  have hA : ∀ q, inW E q → A q := fun q ⟨i, hi, e⟩ => e ▸ hX.2.2.2.2.2.2.2.1 i hi
  obtain ⟨-, -, -, -, -, hK, hWf, -, -, hT⟩ := hX
  refine ⟨rfl, by rw [hU]; exact hP, va_K.moved hW.alike hK, hWf, ?_⟩
  rw [hU]
  exact ((Stc.warm hW hT).kept hS.2.1).narrow hA
theorem V_callV {y : MethodName} {cy : ByteArray} {mL : Nat} {ret : Option FieldType} {n2 na idx : Nat} {C : String} {as rest st0 : List Value} {Φ : Option Value → Dt → Prop} {q : Nat × Fin 11} {ip ci : Nat} {fs : List Value} {r : vw_C} (hX : Amb E X cc own nL n)
    (hM : Con E (Xl X) y cy mL ret n2 (.ref (E.1 q) :: as) D Φ) (hn : n2 < n) (hs : Site own idx y cy mL ret na) (hi : Cond.instanceMethod y ∈ tblG) (hse : Cond.selects C y y ∈ tblG) (hC : y.cls = C) (hp : ids[ip]? = some q) (he : cellOf E D q = .inr (ci, fs)) (hc : vwCl[ci]? = some r) (hr : r.1 = C) (hna : as.length = na) (hst : st0 = as.reverse ++ .ref (E.1 q) :: rest) (hsm : (rest.map fun v => v.category).sum ≤ 8) (d : decode cc pc = .ok (.invokevirtual idx, 3))
    (k : ∀ (v : Option Value) (D' : Dt), Φ v D' → Vw E X nL D' (pc + 3) lv (v.toList ++ rest)) : Vw E X nL D pc lv st0 := by
  have hR := roomB hX hn hs.2.2.2.2
  refine V_callCore (y := y) (cy := cy) (mL := mL) (ret := ret) (n2 := n2) (as := .ref (E.1 q) :: as) (rest := rest) hX ?_ k
  obtain ⟨p, l, e, R, s, m, args, below, meth, c, cells, slots, Q, A⟩ := X
  intro H locs ls hP hS hl
  have hw := hX.2.2.2.2.1
  subst hr
  refine va_runV (As := as) (rest := rest) (Ts := tblG) ⟨hX.1, hX.2.1, hX.2.2.1, hX.2.2.2.1, hw⟩ hM ⟨callB_of na hw (goodTbl hs.2.2.1) rfl rfl rfl (hw _ hs.2.1) (hw _ hs.1) hs.2.2.2.1 hR, hw _ hi, hw _ hse⟩ ⟨pcb_blind, va_recv hX.2.2.2.2.2.1 hP hc (q0 := ip) (by rw [wsD_get hp, he]), pre_B hX hP hS⟩ rfl hna hl hst (lv_room hsm) d ⟨hX.2.2.2.2.2.2.2.2.1.2.2.1, hX.2.2.2.2.2.2.2.2.1.2.2.2⟩
theorem V_callS {y : MethodName} {cy : ByteArray} {mL : Nat} {ret : Option FieldType} {n2 na idx : Nat} {as rest st0 : List Value} {Φ : Option Value → Dt → Prop} (hX : Amb E X cc own nL n)
    (hM : Con E (Xl X) y cy mL ret n2 as D Φ) (hn : n2 < n) (hs : Site own idx y cy mL ret na) (hi : Cond.static y ∈ tblG) (hna : as.length = na) (hst : st0 = as.reverse ++ rest) (hsm : (rest.map fun v => v.category).sum ≤ 8) (d : decode cc pc = .ok (.invokestatic idx, 3))
    (k : ∀ (v : Option Value) (D' : Dt), Φ v D' → Vw E X nL D' (pc + 3) lv (v.toList ++ rest)) : Vw E X nL D pc lv st0 := by
  have hR := roomB hX hn hs.2.2.2.2
  refine V_callCore (y := y) (cy := cy) (mL := mL) (ret := ret) (n2 := n2) (as := as) (rest := rest) hX ?_ k
  obtain ⟨p, l, e, R, s, m, args, below, meth, c, cells, slots, Q, A⟩ := X
  intro H locs ls hP hS hl
  have hw := hX.2.2.2.2.1
  exact va_runS (As := as) (rest := rest) (Ts := tblG) ⟨hX.1, hX.2.1, hX.2.2.1, hX.2.2.2.1, hw⟩ hM ⟨callB_of na hw (goodTbl hs.2.2.1) rfl rfl rfl (hw _ hs.2.1) (hw _ hs.1) hs.2.2.2.1 hR, hw _ hi⟩ ⟨pcb_blind, pre_B hX hP hS⟩ rfl hna hl hst (lv_room hsm) d ⟨hX.2.2.2.2.2.2.2.2.1.2.2.1, hX.2.2.2.2.2.2.2.2.1.2.2.2⟩
theorem V_callN {y : MethodName} {cy : ByteArray} {mL : Nat} {ret : Option FieldType} {n2 na idx : Nat} {host : String} {as rest st0 : List Value} {Φ : Option Value → Dt → Prop} (hX : Amb E X cc own nL n)
    (hM : Con E (Xl X) y cy mL ret n2 as D Φ) (hn : n2 < n) (hl0 : ∀ (A : Nat → Prop) (s : State) (H : Heap), Stc E A s H → va_Nw (.methodLinkNest own idx y host) s) (hini : Cond.initialized y.cls ∈ tblG) (hcd : Cond.code y cy mL ret ∈ tblG) (hd : y.cls ≠ "java/lang/invoke/MethodHandle" ∧ y.cls ≠ "java/lang/invoke/VarHandle" ∧ (parseMethodDescriptor y.desc).map (fun d => d.parameters.length) = some na) (hmL : mL ≤ 20) (hi : Cond.static y ∈ tblG) (hna : as.length = na) (hst : st0 = as.reverse ++ rest) (hsm : (rest.map fun v => v.category).sum ≤ 8) (d : decode cc pc = .ok (.invokestatic idx, 3))
    (k : ∀ (v : Option Value) (D' : Dt), Φ v D' → Vw E X nL D' (pc + 3) lv (v.toList ++ rest)) : Vw E X nL D pc lv st0 := by
  have hR := roomB hX hn hmL
  refine V_callCore (y := y) (cy := cy) (mL := mL) (ret := ret) (n2 := n2) (as := as) (rest := rest) hX ?_ k
  obtain ⟨p, l, e, R, s, m, args, below, meth, c, cells, slots, Q, A⟩ := X
  intro H locs ls hP hS hl
  have hw := hX.2.2.2.2.1
  exact va_runSN (As := as) (rest := rest) (Ts := tblG) ⟨hX.1, hX.2.1, hX.2.2.1, hX.2.2.2.1, hw⟩ hM ⟨va_cnB na hw (goodTbl hcd) rfl rfl rfl (hl0 A s s.heap hX.2.2.2.2.2.2.2.2.2) (hw _ hini) hd hR, hw _ hi, trivial⟩ ⟨pcb_blind, pre_B hX hP hS⟩ rfl hna hl hst (lv_room hsm) d ⟨hX.2.2.2.2.2.2.2.2.1.2.2.1, hX.2.2.2.2.2.2.2.2.1.2.2.2⟩
/-! the JDK's Math: min, max, abs -/
theorem V_mmax (hX : Amb E X cc own nL n) {idx : Nat} {x y : Int32} (hn : 0 < n) (h1 : Cond.methodLink own idx Lib.Math.max.name ∈ tblG) (h2 : Cond.static Lib.Math.max.name ∈ tblG) (h3 : Cond.initialized "java/lang/Math" ∈ tblG) (h4 : Cond.code Lib.Math.max.name Lib.Math.max.code 2 (some .int) ∈ tblG) (hsm : (st.map fun v => v.category).sum ≤ 8) (d : decode cc pc = .ok (.invokestatic idx, 3)) (k : Vw E X nL D (pc + 3) lv (.int (if x < y then y else x) :: st)) : Vw E X nL D pc lv (.int y :: .int x :: st) := by
  obtain ⟨p, l, e, R, s, m, args, below, meth, c, cells, slots, Q, A⟩ := X
  have hw := hX.2.2.2.2.1
  obtain ⟨r1, r2, r3, r4⟩ := hX.2.2.2.2.2.2.2.2.1
  exact fun H locs ls hP hS hl => va_mmax hX.1 hX.2.1 (hX.2.2.1.trans hl.1.symm) hX.2.2.2.1 (hw _ h1) (hw _ h2) (hw _ h3) (hw _ h4) (by omega) (by omega) r3 r4 d (k H locs ls hP hS hl)
theorem V_mmin (hX : Amb E X cc own nL n) {idx : Nat} {x y : Int32} (hn : 0 < n) (h1 : Cond.methodLink own idx Lib.Math.min.name ∈ tblG) (h2 : Cond.static Lib.Math.min.name ∈ tblG) (h3 : Cond.initialized "java/lang/Math" ∈ tblG) (h4 : Cond.code Lib.Math.min.name Lib.Math.min.code 2 (some .int) ∈ tblG) (hsm : (st.map fun v => v.category).sum ≤ 8) (d : decode cc pc = .ok (.invokestatic idx, 3)) (k : Vw E X nL D (pc + 3) lv (.int (if y < x then y else x) :: st)) : Vw E X nL D pc lv (.int y :: .int x :: st) := by
  obtain ⟨p, l, e, R, s, m, args, below, meth, c, cells, slots, Q, A⟩ := X
  have hw := hX.2.2.2.2.1
  obtain ⟨r1, r2, r3, r4⟩ := hX.2.2.2.2.2.2.2.2.1
  exact fun H locs ls hP hS hl => va_mmin hX.1 hX.2.1 (hX.2.2.1.trans hl.1.symm) hX.2.2.2.1 (hw _ h1) (hw _ h2) (hw _ h3) (hw _ h4) (by omega) (by omega) r3 r4 d (k H locs ls hP hS hl)
theorem V_mabs (hX : Amb E X cc own nL n) {idx : Nat} {x : Int32} (hn : 0 < n) (h1 : Cond.methodLink own idx Lib.Math.abs.name ∈ tblG) (h2 : Cond.static Lib.Math.abs.name ∈ tblG) (h3 : Cond.initialized "java/lang/Math" ∈ tblG) (h4 : Cond.code Lib.Math.abs.name Lib.Math.abs.code 1 (some .int) ∈ tblG) (hsm : (st.map fun v => v.category).sum ≤ 8) (d : decode cc pc = .ok (.invokestatic idx, 3)) (k : Vw E X nL D (pc + 3) lv (.int (if 0 ≤ x then x else 0 - x) :: st)) : Vw E X nL D pc lv (.int x :: st) := by
  obtain ⟨p, l, e, R, s, m, args, below, meth, c, cells, slots, Q, A⟩ := X
  have hw := hX.2.2.2.2.1
  obtain ⟨r1, r2, r3, r4⟩ := hX.2.2.2.2.2.2.2.2.1
  exact fun H locs ls hP hS hl => va_mabs hX.1 hX.2.1 (hX.2.2.1.trans hl.1.symm) hX.2.2.2.1 (hw _ h1) (hw _ h2) (hw _ h3) (hw _ h4) (by omega) (by omega) r3 r4 d (k H locs ls hP hS hl)
theorem V_copyl (hX : Amb E X cc own nL n) {idx : Nat} {t0 t1 : Nat} {z0 z1 : Fin 11} {i0 i1 N0 N1 : Nat} (hn : 0 < n) (h1 : Cond.methodLink own idx arraycopyName ∈ tblG) (h2 : Cond.native arraycopyName ∈ tblG) (h3 : Cond.static arraycopyName ∈ tblG) (h4 : Cond.initialized "java/lang/System" ∈ tblG) (p0 : ids[i0]? = some (t0, z0)) (p1 : ids[i1]? = some (t1, z1)) (he0 : cellOf E D (t0, z0) = .inl (E.2.2.1 3, N0, .inr (.inl (D.2.1 t0 z0)))) (he1 : ∀ D, cellOf E D (t1, z1) = .inl (E.2.2.1 3, N1, .inr (.inl (D.2.1 t1 z1)))) {x : Int32} (len : Nat) (hx : x = nI len) (hl0 : len ≤ N0) (hl1 : len ≤ N1) (hN : N0 < 2 ^ 31) (ho : ∀ D f (r : Nat × Fin 11), r ≠ (t1, z1) → cellOf E (lU D t1 z1 f) r = cellOf E D r) (hsm : (st.map fun v => v.category).sum ≤ 8) (d : decode cc pc = .ok (.invokestatic idx, 3)) (k : Vw E X nL (lU D t1 z1 (fun j => if j < len then D.2.1 t0 z0 j else D.2.1 t1 z1 j)) (pc + 3) lv st) : Vw E X nL D pc lv (.int x :: .int 0 :: .ref (E.1 (t1, z1)) :: .int 0 :: .ref (E.1 (t0, z0)) :: st) := by
  obtain ⟨p, l, e, R, s, m, args, below, meth, c, cells, slots, Q, A⟩ := X
  have hw := hX.2.2.2.2.1
  obtain ⟨r1, r2, r3, r4⟩ := hX.2.2.2.2.2.2.2.2.1
  subst hx
  have hcl : (nI len).toNatClampNeg = len := nI_clamp (by omega)
  have hnat0 : nativeFrameWords "java/lang/System" "arraycopy" 5 + 11 ≤ 31 := by decide
  have hnat : (st.map fun v => v.category).sum + (nativeFrameWords "java/lang/System" "arraycopy" 5 + 11) ≤ R.locals := by omega
  refine fun H locs ls hP hS hl => va_copyl hX.1 hX.2.1 (hX.2.2.1.trans hl.1.symm) hX.2.2.2.1 (hw _ h1) (hw _ h2) (hw _ h3) (hw _ h4) hX.2.2.2.2.2.1 hP (wsD_D hX.2.2.2.2.2.2.1 hX.2.2.2.2.2.2.2.1) hS i0 i1 3 3 (n := nI len) (by rw [wsD_get p0, he0]) (by rw [wsD_get p1, he1]) rfl rfl rfl (by decide) (by decide) (nI_pos (by omega)) (sp := 0) (dp := 0) (by rw [hcl, show (0 : Int32).toNatClampNeg = 0 from rfl]; omega) (by rw [hcl, show (0 : Int32).toNatClampNeg = 0 from rfl]; omega) (fun i _ => rfl) (by omega) hnat d (fun H1 locs1 hP1 _ hS1 => ?_)
  rw [wsD_set (D' := lU D t1 z1 (fun j => if j < len then D.2.1 t0 z0 j else D.2.1 t1 z1 j)) p1 ?_ (ho D _)] at hP1
  · exact k H1 locs1 ls hP1 hS1 hl
  · rw [he1, hcl]
    congr 4
    simp only [lU, and_self, if_true]
    congr 1
    funext j
    show (if j < len then D.2.1 t0 z0 j else D.2.1 t1 z1 j) = (if 0 ≤ j ∧ j < 0 + len then D.2.1 t0 z0 (0 + (j - 0)) else D.2.1 t1 z1 j)
    by_cases hj : j < len
    · rw [if_pos hj, if_pos ⟨Nat.zero_le _, by omega⟩]
      congr 1
      omega
    · rw [if_neg hj, if_neg (by omega)]

end RULES
end
