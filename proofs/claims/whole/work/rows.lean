section
-- ===== PART A: goes FIRST, ahead of the names: the tables' words, and 'selects' of the private methods out of them =====
/-- a private method of a class that the tables say can be made, by its rows of tables_1 -/
def lw_okq (q : MethodName × Nat) : Prop := (q.1.cls ≠ "java/lang/invoke/MethodHandle" ∧ q.1.cls ≠ "java/lang/invoke/VarHandle") ∧ Cond.instantiable q.1.cls q.2 ∈ tables_1 ∧ Cond.privateMethod q.1 ∈ tables_1 ∧ Cond.instanceMethod q.1 ∈ tables_1
theorem lw_p0 : lw_okq (⟨"BetweenLaws$Pad", "readCases", "(LBetweenLaws$Law;)Z"⟩, 3) := ⟨⟨by decide +kernel, by decide +kernel⟩, List.mem_of_getElem? (i := 26) (by decide +kernel), List.mem_of_getElem? (i := 430) (by decide +kernel), List.mem_of_getElem? (i := 431) (by decide +kernel)⟩
theorem lw_p1 : lw_okq (⟨"BetweenLaws$Pad", "readCase", "(LBetweenLaws$Law;)Z"⟩, 3) := ⟨⟨by decide +kernel, by decide +kernel⟩, List.mem_of_getElem? (i := 26) (by decide +kernel), List.mem_of_getElem? (i := 434) (by decide +kernel), List.mem_of_getElem? (i := 435) (by decide +kernel)⟩
theorem lw_p2 : lw_okq (⟨"BetweenLaws$Pad", "readMarks", "()I"⟩, 3) := ⟨⟨by decide +kernel, by decide +kernel⟩, List.mem_of_getElem? (i := 26) (by decide +kernel), List.mem_of_getElem? (i := 438) (by decide +kernel), List.mem_of_getElem? (i := 439) (by decide +kernel)⟩
theorem lw_p3 : lw_okq (⟨"BetweenLaws$Pad", "takes", "(I)Z"⟩, 3) := ⟨⟨by decide +kernel, by decide +kernel⟩, List.mem_of_getElem? (i := 26) (by decide +kernel), List.mem_of_getElem? (i := 442) (by decide +kernel), List.mem_of_getElem? (i := 443) (by decide +kernel)⟩
theorem lw_p4 : lw_okq (⟨"BetweenLaws$Pad", "next", "()I"⟩, 3) := ⟨⟨by decide +kernel, by decide +kernel⟩, List.mem_of_getElem? (i := 26) (by decide +kernel), List.mem_of_getElem? (i := 446) (by decide +kernel), List.mem_of_getElem? (i := 447) (by decide +kernel)⟩
theorem lw_p5 : lw_okq (⟨"BetweenLaws$Pad", "readLawNumber", "()I"⟩, 3) := ⟨⟨by decide +kernel, by decide +kernel⟩, List.mem_of_getElem? (i := 26) (by decide +kernel), List.mem_of_getElem? (i := 450) (by decide +kernel), List.mem_of_getElem? (i := 451) (by decide +kernel)⟩
theorem lw_p6 : lw_okq (⟨"BetweenLaws$Pad", "readDigit", "(I)I"⟩, 3) := ⟨⟨by decide +kernel, by decide +kernel⟩, List.mem_of_getElem? (i := 26) (by decide +kernel), List.mem_of_getElem? (i := 454) (by decide +kernel), List.mem_of_getElem? (i := 455) (by decide +kernel)⟩
theorem lw_p7 : lw_okq (⟨"BetweenLaws$Pad", "readNumber", "()I"⟩, 3) := ⟨⟨by decide +kernel, by decide +kernel⟩, List.mem_of_getElem? (i := 26) (by decide +kernel), List.mem_of_getElem? (i := 459) (by decide +kernel), List.mem_of_getElem? (i := 460) (by decide +kernel)⟩
theorem lw_p8 : lw_okq (⟨"BetweenLaws$Pad", "readWords", "(LBetweenLaws$Law;)Z"⟩, 3) := ⟨⟨by decide +kernel, by decide +kernel⟩, List.mem_of_getElem? (i := 26) (by decide +kernel), List.mem_of_getElem? (i := 467) (by decide +kernel), List.mem_of_getElem? (i := 468) (by decide +kernel)⟩
theorem lw_p9 : lw_okq (⟨"BetweenLaws$Pad", "readWord", "(LBetweenLaws$Law;I)I"⟩, 3) := ⟨⟨by decide +kernel, by decide +kernel⟩, List.mem_of_getElem? (i := 26) (by decide +kernel), List.mem_of_getElem? (i := 471) (by decide +kernel), List.mem_of_getElem? (i := 472) (by decide +kernel)⟩
theorem lw_p10 : lw_okq (⟨"BetweenLaws$Pad", "readTime", "(LBetweenLaws$Law;)Z"⟩, 3) := ⟨⟨by decide +kernel, by decide +kernel⟩, List.mem_of_getElem? (i := 26) (by decide +kernel), List.mem_of_getElem? (i := 478) (by decide +kernel), List.mem_of_getElem? (i := 479) (by decide +kernel)⟩
theorem lw_p11 : lw_okq (⟨"BetweenLaws$Pad", "readTerm", "(LBetweenLaws$Law;)Z"⟩, 3) := ⟨⟨by decide +kernel, by decide +kernel⟩, List.mem_of_getElem? (i := 26) (by decide +kernel), List.mem_of_getElem? (i := 482) (by decide +kernel), List.mem_of_getElem? (i := 483) (by decide +kernel)⟩
theorem lw_p12 : lw_okq (⟨"BetweenLaws$Law", "firstFitting", "(I)I"⟩, 15) := ⟨⟨by decide +kernel, by decide +kernel⟩, List.mem_of_getElem? (i := 44) (by decide +kernel), List.mem_of_getElem? (i := 490) (by decide +kernel), List.mem_of_getElem? (i := 491) (by decide +kernel)⟩
theorem lw_p13 : lw_okq (⟨"BetweenLaws", "refusedLaw", "(III)I"⟩, 10) := ⟨⟨by decide +kernel, by decide +kernel⟩, List.mem_of_getElem? (i := 18) (by decide +kernel), List.mem_of_getElem? (i := 607) (by decide +kernel), List.mem_of_getElem? (i := 608) (by decide +kernel)⟩
theorem lw_p14 : lw_okq (⟨"BetweenLaws", "refusedPiece", "(II)I"⟩, 10) := ⟨⟨by decide +kernel, by decide +kernel⟩, List.mem_of_getElem? (i := 18) (by decide +kernel), List.mem_of_getElem? (i := 611) (by decide +kernel), List.mem_of_getElem? (i := 612) (by decide +kernel)⟩
theorem lw_p15 : lw_okq (⟨"BetweenLaws$Court", "choose", "(LBetweenLaws$Piece;III)I"⟩, 4) := ⟨⟨by decide +kernel, by decide +kernel⟩, List.mem_of_getElem? (i := 237) (by decide +kernel), List.mem_of_getElem? (i := 645) (by decide +kernel), List.mem_of_getElem? (i := 646) (by decide +kernel)⟩
def lw_privs_1 : List (MethodName × Nat) := [(⟨"BetweenLaws$Pad", "readCases", "(LBetweenLaws$Law;)Z"⟩, 3), (⟨"BetweenLaws$Pad", "readCase", "(LBetweenLaws$Law;)Z"⟩, 3), (⟨"BetweenLaws$Pad", "readMarks", "()I"⟩, 3), (⟨"BetweenLaws$Pad", "takes", "(I)Z"⟩, 3), (⟨"BetweenLaws$Pad", "next", "()I"⟩, 3), (⟨"BetweenLaws$Pad", "readLawNumber", "()I"⟩, 3), (⟨"BetweenLaws$Pad", "readDigit", "(I)I"⟩, 3), (⟨"BetweenLaws$Pad", "readNumber", "()I"⟩, 3), (⟨"BetweenLaws$Pad", "readWords", "(LBetweenLaws$Law;)Z"⟩, 3), (⟨"BetweenLaws$Pad", "readWord", "(LBetweenLaws$Law;I)I"⟩, 3), (⟨"BetweenLaws$Pad", "readTime", "(LBetweenLaws$Law;)Z"⟩, 3), (⟨"BetweenLaws$Pad", "readTerm", "(LBetweenLaws$Law;)Z"⟩, 3), (⟨"BetweenLaws$Law", "firstFitting", "(I)I"⟩, 15), (⟨"BetweenLaws", "refusedLaw", "(III)I"⟩, 10), (⟨"BetweenLaws", "refusedPiece", "(II)I"⟩, 10), (⟨"BetweenLaws$Court", "choose", "(LBetweenLaws$Piece;III)I"⟩, 4)]
theorem lw_r1 : ∀ q ∈ lw_privs_1, lw_okq q := List.forall_mem_cons.mpr ⟨lw_p0, List.forall_mem_cons.mpr ⟨lw_p1, List.forall_mem_cons.mpr ⟨lw_p2, List.forall_mem_cons.mpr ⟨lw_p3, List.forall_mem_cons.mpr ⟨lw_p4, List.forall_mem_cons.mpr ⟨lw_p5, List.forall_mem_cons.mpr ⟨lw_p6, List.forall_mem_cons.mpr ⟨lw_p7, List.forall_mem_cons.mpr ⟨lw_p8, List.forall_mem_cons.mpr ⟨lw_p9, List.forall_mem_cons.mpr ⟨lw_p10, List.forall_mem_cons.mpr ⟨lw_p11, List.forall_mem_cons.mpr ⟨lw_p12, List.forall_mem_cons.mpr ⟨lw_p13, List.forall_mem_cons.mpr ⟨lw_p14, List.forall_mem_cons.mpr ⟨lw_p15, fun _ h => absurd h List.not_mem_nil⟩⟩⟩⟩⟩⟩⟩⟩⟩⟩⟩⟩⟩⟩⟩⟩
theorem lw_p16 : lw_okq (⟨"BetweenLaws$Court", "compare", "(LBetweenLaws$Law;LBetweenLaws$Law;I)I"⟩, 4) := ⟨⟨by decide +kernel, by decide +kernel⟩, List.mem_of_getElem? (i := 237) (by decide +kernel), List.mem_of_getElem? (i := 650) (by decide +kernel), List.mem_of_getElem? (i := 651) (by decide +kernel)⟩
theorem lw_p17 : lw_okq (⟨"BetweenLaws$Course", "begin", "(LBetweenLaws$Piece;)V"⟩, 7) := ⟨⟨by decide +kernel, by decide +kernel⟩, List.mem_of_getElem? (i := 258) (by decide +kernel), List.mem_of_getElem? (i := 702) (by decide +kernel), List.mem_of_getElem? (i := 703) (by decide +kernel)⟩
theorem lw_p18 : lw_okq (⟨"BetweenLaws$Course", "goOn", "(LBetweenLaws$Piece;II)V"⟩, 7) := ⟨⟨by decide +kernel, by decide +kernel⟩, List.mem_of_getElem? (i := 258) (by decide +kernel), List.mem_of_getElem? (i := 706) (by decide +kernel), List.mem_of_getElem? (i := 707) (by decide +kernel)⟩
theorem lw_p19 : lw_okq (⟨"BetweenLaws$Course", "carryTerm", "(III)V"⟩, 7) := ⟨⟨by decide +kernel, by decide +kernel⟩, List.mem_of_getElem? (i := 258) (by decide +kernel), List.mem_of_getElem? (i := 716) (by decide +kernel), List.mem_of_getElem? (i := 717) (by decide +kernel)⟩
theorem lw_p20 : lw_okq (⟨"BetweenLaws$Court", "everGoverns", "(ILBetweenLaws$Piece;)Z"⟩, 4) := ⟨⟨by decide +kernel, by decide +kernel⟩, List.mem_of_getElem? (i := 237) (by decide +kernel), List.mem_of_getElem? (i := 768) (by decide +kernel), List.mem_of_getElem? (i := 769) (by decide +kernel)⟩
theorem lw_p21 : lw_okq (⟨"BetweenLaws$Readings", "readBy", "(I)V"⟩, 5) := ⟨⟨by decide +kernel, by decide +kernel⟩, List.mem_of_getElem? (i := 291) (by decide +kernel), List.mem_of_getElem? (i := 781) (by decide +kernel), List.mem_of_getElem? (i := 782) (by decide +kernel)⟩
theorem lw_p22 : lw_okq (⟨"BetweenLaws$Readings", "timeWords", "()I"⟩, 5) := ⟨⟨by decide +kernel, by decide +kernel⟩, List.mem_of_getElem? (i := 291) (by decide +kernel), List.mem_of_getElem? (i := 794) (by decide +kernel), List.mem_of_getElem? (i := 795) (by decide +kernel)⟩
theorem lw_p23 : lw_okq (⟨"BetweenLaws$Readings", "hanging", "(II)I"⟩, 5) := ⟨⟨by decide +kernel, by decide +kernel⟩, List.mem_of_getElem? (i := 291) (by decide +kernel), List.mem_of_getElem? (i := 828) (by decide +kernel), List.mem_of_getElem? (i := 829) (by decide +kernel)⟩
theorem lw_p24 : lw_okq (⟨"BetweenLaws$Mender", "settleDue", "(I)V"⟩, 7) := ⟨⟨by decide +kernel, by decide +kernel⟩, List.mem_of_getElem? (i := 315) (by decide +kernel), List.mem_of_getElem? (i := 844) (by decide +kernel), List.mem_of_getElem? (i := 845) (by decide +kernel)⟩
theorem lw_p25 : lw_okq (⟨"BetweenLaws$Mender", "comesOut", "(I)Z"⟩, 7) := ⟨⟨by decide +kernel, by decide +kernel⟩, List.mem_of_getElem? (i := 315) (by decide +kernel), List.mem_of_getElem? (i := 851) (by decide +kernel), List.mem_of_getElem? (i := 852) (by decide +kernel)⟩
theorem lw_p26 : lw_okq (⟨"BetweenLaws$Mender", "keep", "(ILBetweenLaws$Law;I)V"⟩, 7) := ⟨⟨by decide +kernel, by decide +kernel⟩, List.mem_of_getElem? (i := 315) (by decide +kernel), List.mem_of_getElem? (i := 855) (by decide +kernel), List.mem_of_getElem? (i := 856) (by decide +kernel)⟩
theorem lw_p27 : lw_okq (⟨"BetweenLawsModel", "beginText", "()V"⟩, 42) := ⟨⟨by decide +kernel, by decide +kernel⟩, List.mem_of_getElem? (i := 904) (by decide +kernel), List.mem_of_getElem? (i := 1054) (by decide +kernel), List.mem_of_getElem? (i := 1055) (by decide +kernel)⟩
theorem lw_p28 : lw_okq (⟨"BetweenLawsModel", "stepOf", "(II)I"⟩, 42) := ⟨⟨by decide +kernel, by decide +kernel⟩, List.mem_of_getElem? (i := 904) (by decide +kernel), List.mem_of_getElem? (i := 1058) (by decide +kernel), List.mem_of_getElem? (i := 1059) (by decide +kernel)⟩
theorem lw_p29 : lw_okq (⟨"BetweenLawsModel", "behindGift", "(I)I"⟩, 42) := ⟨⟨by decide +kernel, by decide +kernel⟩, List.mem_of_getElem? (i := 904) (by decide +kernel), List.mem_of_getElem? (i := 1069) (by decide +kernel), List.mem_of_getElem? (i := 1070) (by decide +kernel)⟩
theorem lw_p30 : lw_okq (⟨"BetweenLawsModel", "beginWord", "(I)I"⟩, 42) := ⟨⟨by decide +kernel, by decide +kernel⟩, List.mem_of_getElem? (i := 904) (by decide +kernel), List.mem_of_getElem? (i := 1074) (by decide +kernel), List.mem_of_getElem? (i := 1075) (by decide +kernel)⟩
theorem lw_p31 : lw_okq (⟨"BetweenLawsModel", "stepWord", "(II)I"⟩, 42) := ⟨⟨by decide +kernel, by decide +kernel⟩, List.mem_of_getElem? (i := 904) (by decide +kernel), List.mem_of_getElem? (i := 1081) (by decide +kernel), List.mem_of_getElem? (i := 1082) (by decide +kernel)⟩
def lw_privs_2 : List (MethodName × Nat) := [(⟨"BetweenLaws$Court", "compare", "(LBetweenLaws$Law;LBetweenLaws$Law;I)I"⟩, 4), (⟨"BetweenLaws$Course", "begin", "(LBetweenLaws$Piece;)V"⟩, 7), (⟨"BetweenLaws$Course", "goOn", "(LBetweenLaws$Piece;II)V"⟩, 7), (⟨"BetweenLaws$Course", "carryTerm", "(III)V"⟩, 7), (⟨"BetweenLaws$Court", "everGoverns", "(ILBetweenLaws$Piece;)Z"⟩, 4), (⟨"BetweenLaws$Readings", "readBy", "(I)V"⟩, 5), (⟨"BetweenLaws$Readings", "timeWords", "()I"⟩, 5), (⟨"BetweenLaws$Readings", "hanging", "(II)I"⟩, 5), (⟨"BetweenLaws$Mender", "settleDue", "(I)V"⟩, 7), (⟨"BetweenLaws$Mender", "comesOut", "(I)Z"⟩, 7), (⟨"BetweenLaws$Mender", "keep", "(ILBetweenLaws$Law;I)V"⟩, 7), (⟨"BetweenLawsModel", "beginText", "()V"⟩, 42), (⟨"BetweenLawsModel", "stepOf", "(II)I"⟩, 42), (⟨"BetweenLawsModel", "behindGift", "(I)I"⟩, 42), (⟨"BetweenLawsModel", "beginWord", "(I)I"⟩, 42), (⟨"BetweenLawsModel", "stepWord", "(II)I"⟩, 42)]
theorem lw_r2 : ∀ q ∈ lw_privs_2, lw_okq q := List.forall_mem_cons.mpr ⟨lw_p16, List.forall_mem_cons.mpr ⟨lw_p17, List.forall_mem_cons.mpr ⟨lw_p18, List.forall_mem_cons.mpr ⟨lw_p19, List.forall_mem_cons.mpr ⟨lw_p20, List.forall_mem_cons.mpr ⟨lw_p21, List.forall_mem_cons.mpr ⟨lw_p22, List.forall_mem_cons.mpr ⟨lw_p23, List.forall_mem_cons.mpr ⟨lw_p24, List.forall_mem_cons.mpr ⟨lw_p25, List.forall_mem_cons.mpr ⟨lw_p26, List.forall_mem_cons.mpr ⟨lw_p27, List.forall_mem_cons.mpr ⟨lw_p28, List.forall_mem_cons.mpr ⟨lw_p29, List.forall_mem_cons.mpr ⟨lw_p30, List.forall_mem_cons.mpr ⟨lw_p31, fun _ h => absurd h List.not_mem_nil⟩⟩⟩⟩⟩⟩⟩⟩⟩⟩⟩⟩⟩⟩⟩⟩
theorem lw_p32 : lw_okq (⟨"BetweenLawsModel", "layText", "(I)V"⟩, 42) := ⟨⟨by decide +kernel, by decide +kernel⟩, List.mem_of_getElem? (i := 904) (by decide +kernel), List.mem_of_getElem? (i := 1101) (by decide +kernel), List.mem_of_getElem? (i := 1102) (by decide +kernel)⟩
theorem lw_p33 : lw_okq (⟨"BetweenLawsModel", "layWord", "(III)V"⟩, 42) := ⟨⟨by decide +kernel, by decide +kernel⟩, List.mem_of_getElem? (i := 904) (by decide +kernel), List.mem_of_getElem? (i := 1105) (by decide +kernel), List.mem_of_getElem? (i := 1106) (by decide +kernel)⟩
theorem lw_p34 : lw_okq (⟨"BetweenLawsModel", "isLaw", "(I)Z"⟩, 42) := ⟨⟨by decide +kernel, by decide +kernel⟩, List.mem_of_getElem? (i := 904) (by decide +kernel), List.mem_of_getElem? (i := 1113) (by decide +kernel), List.mem_of_getElem? (i := 1114) (by decide +kernel)⟩
theorem lw_p35 : lw_okq (⟨"BetweenLawsModel", "forceOf", "(I)I"⟩, 42) := ⟨⟨by decide +kernel, by decide +kernel⟩, List.mem_of_getElem? (i := 904) (by decide +kernel), List.mem_of_getElem? (i := 1134) (by decide +kernel), List.mem_of_getElem? (i := 1135) (by decide +kernel)⟩
theorem lw_p36 : lw_okq (⟨"BetweenLawsModel", "isInForce", "(II)Z"⟩, 42) := ⟨⟨by decide +kernel, by decide +kernel⟩, List.mem_of_getElem? (i := 904) (by decide +kernel), List.mem_of_getElem? (i := 1138) (by decide +kernel), List.mem_of_getElem? (i := 1139) (by decide +kernel)⟩
theorem lw_p37 : lw_okq (⟨"BetweenLawsModel", "undoneOf", "(I)I"⟩, 42) := ⟨⟨by decide +kernel, by decide +kernel⟩, List.mem_of_getElem? (i := 904) (by decide +kernel), List.mem_of_getElem? (i := 1142) (by decide +kernel), List.mem_of_getElem? (i := 1143) (by decide +kernel)⟩
theorem lw_p38 : lw_okq (⟨"BetweenLawsModel", "layPiece", "(III)V"⟩, 42) := ⟨⟨by decide +kernel, by decide +kernel⟩, List.mem_of_getElem? (i := 904) (by decide +kernel), List.mem_of_getElem? (i := 1155) (by decide +kernel), List.mem_of_getElem? (i := 1156) (by decide +kernel)⟩
theorem lw_p39 : lw_okq (⟨"BetweenLawsModel", "isPiece", "(I)Z"⟩, 42) := ⟨⟨by decide +kernel, by decide +kernel⟩, List.mem_of_getElem? (i := 904) (by decide +kernel), List.mem_of_getElem? (i := 1163) (by decide +kernel), List.mem_of_getElem? (i := 1164) (by decide +kernel)⟩
theorem lw_p40 : lw_okq (⟨"BetweenLawsModel", "sameDay", "(II)I"⟩, 42) := ⟨⟨by decide +kernel, by decide +kernel⟩, List.mem_of_getElem? (i := 904) (by decide +kernel), List.mem_of_getElem? (i := 1179) (by decide +kernel), List.mem_of_getElem? (i := 1180) (by decide +kernel)⟩
theorem lw_p41 : lw_okq (⟨"BetweenLawsModel", "lackOf", "(IIII)I"⟩, 42) := ⟨⟨by decide +kernel, by decide +kernel⟩, List.mem_of_getElem? (i := 904) (by decide +kernel), List.mem_of_getElem? (i := 1183) (by decide +kernel), List.mem_of_getElem? (i := 1184) (by decide +kernel)⟩
theorem lw_p42 : lw_okq (⟨"BetweenLawsModel", "fitting", "(II)I"⟩, 42) := ⟨⟨by decide +kernel, by decide +kernel⟩, List.mem_of_getElem? (i := 904) (by decide +kernel), List.mem_of_getElem? (i := 1187) (by decide +kernel), List.mem_of_getElem? (i := 1188) (by decide +kernel)⟩
theorem lw_p43 : lw_okq (⟨"BetweenLawsModel", "timeOf", "(I)I"⟩, 42) := ⟨⟨by decide +kernel, by decide +kernel⟩, List.mem_of_getElem? (i := 904) (by decide +kernel), List.mem_of_getElem? (i := 1191) (by decide +kernel), List.mem_of_getElem? (i := 1192) (by decide +kernel)⟩
theorem lw_p44 : lw_okq (⟨"BetweenLawsModel", "isSecond", "(II)Z"⟩, 42) := ⟨⟨by decide +kernel, by decide +kernel⟩, List.mem_of_getElem? (i := 904) (by decide +kernel), List.mem_of_getElem? (i := 1195) (by decide +kernel), List.mem_of_getElem? (i := 1196) (by decide +kernel)⟩
theorem lw_p45 : lw_okq (⟨"BetweenLawsModel", "governs0", "(II)I"⟩, 42) := ⟨⟨by decide +kernel, by decide +kernel⟩, List.mem_of_getElem? (i := 904) (by decide +kernel), List.mem_of_getElem? (i := 1203) (by decide +kernel), List.mem_of_getElem? (i := 1204) (by decide +kernel)⟩
theorem lw_p46 : lw_okq (⟨"BetweenLawsModel", "governing", "(II)I"⟩, 42) := ⟨⟨by decide +kernel, by decide +kernel⟩, List.mem_of_getElem? (i := 904) (by decide +kernel), List.mem_of_getElem? (i := 1207) (by decide +kernel), List.mem_of_getElem? (i := 1208) (by decide +kernel)⟩
theorem lw_p47 : lw_okq (⟨"BetweenLawsModel", "chosen", "(II)I"⟩, 42) := ⟨⟨by decide +kernel, by decide +kernel⟩, List.mem_of_getElem? (i := 904) (by decide +kernel), List.mem_of_getElem? (i := 1211) (by decide +kernel), List.mem_of_getElem? (i := 1212) (by decide +kernel)⟩
def lw_privs_3 : List (MethodName × Nat) := [(⟨"BetweenLawsModel", "layText", "(I)V"⟩, 42), (⟨"BetweenLawsModel", "layWord", "(III)V"⟩, 42), (⟨"BetweenLawsModel", "isLaw", "(I)Z"⟩, 42), (⟨"BetweenLawsModel", "forceOf", "(I)I"⟩, 42), (⟨"BetweenLawsModel", "isInForce", "(II)Z"⟩, 42), (⟨"BetweenLawsModel", "undoneOf", "(I)I"⟩, 42), (⟨"BetweenLawsModel", "layPiece", "(III)V"⟩, 42), (⟨"BetweenLawsModel", "isPiece", "(I)Z"⟩, 42), (⟨"BetweenLawsModel", "sameDay", "(II)I"⟩, 42), (⟨"BetweenLawsModel", "lackOf", "(IIII)I"⟩, 42), (⟨"BetweenLawsModel", "fitting", "(II)I"⟩, 42), (⟨"BetweenLawsModel", "timeOf", "(I)I"⟩, 42), (⟨"BetweenLawsModel", "isSecond", "(II)Z"⟩, 42), (⟨"BetweenLawsModel", "governs0", "(II)I"⟩, 42), (⟨"BetweenLawsModel", "governing", "(II)I"⟩, 42), (⟨"BetweenLawsModel", "chosen", "(II)I"⟩, 42)]
theorem lw_r3 : ∀ q ∈ lw_privs_3, lw_okq q := List.forall_mem_cons.mpr ⟨lw_p32, List.forall_mem_cons.mpr ⟨lw_p33, List.forall_mem_cons.mpr ⟨lw_p34, List.forall_mem_cons.mpr ⟨lw_p35, List.forall_mem_cons.mpr ⟨lw_p36, List.forall_mem_cons.mpr ⟨lw_p37, List.forall_mem_cons.mpr ⟨lw_p38, List.forall_mem_cons.mpr ⟨lw_p39, List.forall_mem_cons.mpr ⟨lw_p40, List.forall_mem_cons.mpr ⟨lw_p41, List.forall_mem_cons.mpr ⟨lw_p42, List.forall_mem_cons.mpr ⟨lw_p43, List.forall_mem_cons.mpr ⟨lw_p44, List.forall_mem_cons.mpr ⟨lw_p45, List.forall_mem_cons.mpr ⟨lw_p46, List.forall_mem_cons.mpr ⟨lw_p47, fun _ h => absurd h List.not_mem_nil⟩⟩⟩⟩⟩⟩⟩⟩⟩⟩⟩⟩⟩⟩⟩⟩
theorem lw_p48 : lw_okq (⟨"BetweenLawsModel", "heldAgainst", "(III)I"⟩, 42) := ⟨⟨by decide +kernel, by decide +kernel⟩, List.mem_of_getElem? (i := 904) (by decide +kernel), List.mem_of_getElem? (i := 1215) (by decide +kernel), List.mem_of_getElem? (i := 1216) (by decide +kernel)⟩
theorem lw_p49 : lw_okq (⟨"BetweenLawsModel", "marksAt", "(II)I"⟩, 42) := ⟨⟨by decide +kernel, by decide +kernel⟩, List.mem_of_getElem? (i := 904) (by decide +kernel), List.mem_of_getElem? (i := 1219) (by decide +kernel), List.mem_of_getElem? (i := 1220) (by decide +kernel)⟩
theorem lw_p50 : lw_okq (⟨"BetweenLawsModel", "plainGift", "(II)I"⟩, 42) := ⟨⟨by decide +kernel, by decide +kernel⟩, List.mem_of_getElem? (i := 904) (by decide +kernel), List.mem_of_getElem? (i := 1235) (by decide +kernel), List.mem_of_getElem? (i := 1236) (by decide +kernel)⟩
theorem lw_p51 : lw_okq (⟨"BetweenLawsModel", "giftOf", "(II)I"⟩, 42) := ⟨⟨by decide +kernel, by decide +kernel⟩, List.mem_of_getElem? (i := 904) (by decide +kernel), List.mem_of_getElem? (i := 1243) (by decide +kernel), List.mem_of_getElem? (i := 1244) (by decide +kernel)⟩
theorem lw_p52 : lw_okq (⟨"BetweenLawsModel", "beginTerm", "(I)V"⟩, 42) := ⟨⟨by decide +kernel, by decide +kernel⟩, List.mem_of_getElem? (i := 904) (by decide +kernel), List.mem_of_getElem? (i := 1263) (by decide +kernel), List.mem_of_getElem? (i := 1264) (by decide +kernel)⟩
theorem lw_p53 : lw_okq (⟨"BetweenLawsModel", "carry", "(II)V"⟩, 42) := ⟨⟨by decide +kernel, by decide +kernel⟩, List.mem_of_getElem? (i := 904) (by decide +kernel), List.mem_of_getElem? (i := 1267) (by decide +kernel), List.mem_of_getElem? (i := 1268) (by decide +kernel)⟩
theorem lw_p54 : lw_okq (⟨"BetweenLawsModel", "wayOf", "(I)I"⟩, 42) := ⟨⟨by decide +kernel, by decide +kernel⟩, List.mem_of_getElem? (i := 904) (by decide +kernel), List.mem_of_getElem? (i := 1271) (by decide +kernel), List.mem_of_getElem? (i := 1272) (by decide +kernel)⟩
theorem lw_p55 : lw_okq (⟨"BetweenLawsModel", "giftBy", "(III)I"⟩, 42) := ⟨⟨by decide +kernel, by decide +kernel⟩, List.mem_of_getElem? (i := 904) (by decide +kernel), List.mem_of_getElem? (i := 1296) (by decide +kernel), List.mem_of_getElem? (i := 1297) (by decide +kernel)⟩
theorem lw_p56 : lw_okq (⟨"BetweenLawsModel", "clearWere", "()V"⟩, 42) := ⟨⟨by decide +kernel, by decide +kernel⟩, List.mem_of_getElem? (i := 904) (by decide +kernel), List.mem_of_getElem? (i := 1304) (by decide +kernel), List.mem_of_getElem? (i := 1305) (by decide +kernel)⟩
theorem lw_p57 : lw_okq (⟨"BetweenLawsModel", "opens", "()I"⟩, 42) := ⟨⟨by decide +kernel, by decide +kernel⟩, List.mem_of_getElem? (i := 904) (by decide +kernel), List.mem_of_getElem? (i := 1308) (by decide +kernel), List.mem_of_getElem? (i := 1309) (by decide +kernel)⟩
theorem lw_p58 : lw_okq (⟨"BetweenLawsModel", "note", "(I)V"⟩, 42) := ⟨⟨by decide +kernel, by decide +kernel⟩, List.mem_of_getElem? (i := 904) (by decide +kernel), List.mem_of_getElem? (i := 1313) (by decide +kernel), List.mem_of_getElem? (i := 1314) (by decide +kernel)⟩
theorem lw_p59 : lw_okq (⟨"BetweenLawsModel", "manyWere", "()I"⟩, 42) := ⟨⟨by decide +kernel, by decide +kernel⟩, List.mem_of_getElem? (i := 904) (by decide +kernel), List.mem_of_getElem? (i := 1317) (by decide +kernel), List.mem_of_getElem? (i := 1318) (by decide +kernel)⟩
theorem lw_p60 : lw_okq (⟨"BetweenLawsModel", "areAsWished", "(I)Z"⟩, 42) := ⟨⟨by decide +kernel, by decide +kernel⟩, List.mem_of_getElem? (i := 904) (by decide +kernel), List.mem_of_getElem? (i := 1337) (by decide +kernel), List.mem_of_getElem? (i := 1338) (by decide +kernel)⟩
theorem lw_p61 : lw_okq (⟨"BetweenLawsModel", "passAll", "()V"⟩, 42) := ⟨⟨by decide +kernel, by decide +kernel⟩, List.mem_of_getElem? (i := 904) (by decide +kernel), List.mem_of_getElem? (i := 1349) (by decide +kernel), List.mem_of_getElem? (i := 1350) (by decide +kernel)⟩
theorem lw_p62 : lw_okq (⟨"BetweenLawsModel", "pass", "(I)I"⟩, 42) := ⟨⟨by decide +kernel, by decide +kernel⟩, List.mem_of_getElem? (i := 904) (by decide +kernel), List.mem_of_getElem? (i := 1353) (by decide +kernel), List.mem_of_getElem? (i := 1354) (by decide +kernel)⟩
def lw_privs_4 : List (MethodName × Nat) := [(⟨"BetweenLawsModel", "heldAgainst", "(III)I"⟩, 42), (⟨"BetweenLawsModel", "marksAt", "(II)I"⟩, 42), (⟨"BetweenLawsModel", "plainGift", "(II)I"⟩, 42), (⟨"BetweenLawsModel", "giftOf", "(II)I"⟩, 42), (⟨"BetweenLawsModel", "beginTerm", "(I)V"⟩, 42), (⟨"BetweenLawsModel", "carry", "(II)V"⟩, 42), (⟨"BetweenLawsModel", "wayOf", "(I)I"⟩, 42), (⟨"BetweenLawsModel", "giftBy", "(III)I"⟩, 42), (⟨"BetweenLawsModel", "clearWere", "()V"⟩, 42), (⟨"BetweenLawsModel", "opens", "()I"⟩, 42), (⟨"BetweenLawsModel", "note", "(I)V"⟩, 42), (⟨"BetweenLawsModel", "manyWere", "()I"⟩, 42), (⟨"BetweenLawsModel", "areAsWished", "(I)Z"⟩, 42), (⟨"BetweenLawsModel", "passAll", "()V"⟩, 42), (⟨"BetweenLawsModel", "pass", "(I)I"⟩, 42)]
theorem lw_r4 : ∀ q ∈ lw_privs_4, lw_okq q := List.forall_mem_cons.mpr ⟨lw_p48, List.forall_mem_cons.mpr ⟨lw_p49, List.forall_mem_cons.mpr ⟨lw_p50, List.forall_mem_cons.mpr ⟨lw_p51, List.forall_mem_cons.mpr ⟨lw_p52, List.forall_mem_cons.mpr ⟨lw_p53, List.forall_mem_cons.mpr ⟨lw_p54, List.forall_mem_cons.mpr ⟨lw_p55, List.forall_mem_cons.mpr ⟨lw_p56, List.forall_mem_cons.mpr ⟨lw_p57, List.forall_mem_cons.mpr ⟨lw_p58, List.forall_mem_cons.mpr ⟨lw_p59, List.forall_mem_cons.mpr ⟨lw_p60, List.forall_mem_cons.mpr ⟨lw_p61, List.forall_mem_cons.mpr ⟨lw_p62, fun _ h => absurd h List.not_mem_nil⟩⟩⟩⟩⟩⟩⟩⟩⟩⟩⟩⟩⟩⟩⟩
def lw_privs : List (MethodName × Nat) := lw_privs_1 ++ (lw_privs_2 ++ (lw_privs_3 ++ (lw_privs_4)))
def lw_tbl : List Cond := k2_sels lw_privs ++ tables_1
theorem lw_privs_ok : ∀ q ∈ lw_privs, lw_okq q := by
  show ∀ q ∈ lw_privs_1 ++ (lw_privs_2 ++ (lw_privs_3 ++ (lw_privs_4))), lw_okq q
  exact List.forall_mem_append.mpr ⟨lw_r1, List.forall_mem_append.mpr ⟨lw_r2, List.forall_mem_append.mpr ⟨lw_r3, lw_r4⟩⟩⟩
end
section
def RX0 : String := "BetweenLaws$Answers"
def TX0 : u_T := fun k => match k with
  | 0 => ("BetweenLaws$Answers", "low", "J", false)
  | _ => ("BetweenLaws$Answers", "high", "J", false)
def tyX0 : Nat → FieldType := fun k => match k with
  | 0 => .long
  | _ => .long
theorem nmX0 : ∀ a, a < 2 → ∀ b, b < 2 → a ≠ b → (TX0 a).2.1 ≠ (TX0 b).2.1 := by decide +kernel
theorem tyX0_ok : ∀ k, k < 2 → parseFieldDescriptor (TX0 k).2.2.1 = some (tyX0 k) := by decide +kernel
abbrev cX0_init : ByteArray := prog_2_method_1_code
def yX0_init : MethodName := ⟨RX0, "<init>", "()V"⟩
abbrev cX0_clear : ByteArray := prog_2_method_2_code
def yX0_clear : MethodName := ⟨RX0, "clear", "()V"⟩
abbrev cX0_put : ByteArray := prog_2_method_3_code
def yX0_put : MethodName := ⟨RX0, "put", "(I)V"⟩
abbrev cX0_count : ByteArray := prog_2_method_4_code
def yX0_count : MethodName := ⟨RX0, "count", "()I"⟩
def RX1 : String := "BetweenLaws$Course"
def TX1 : u_T := fun k => match k with
  | 0 => ("BetweenLaws$Course", "world", "LBetweenLaws$World;", true)
  | 1 => ("BetweenLaws$Course", "court", "LBetweenLaws$Court;", true)
  | 2 => ("BetweenLaws$Course", "passed", "I", false)
  | 3 => ("BetweenLaws$Course", "passedOn", "I", false)
  | 4 => ("BetweenLaws$Course", "governor", "I", false)
  | 5 => ("BetweenLaws$Course", "start", "I", false)
  | _ => ("BetweenLaws$Course", "end", "I", false)
def tyX1 : Nat → FieldType := fun k => match k with
  | 0 => .object "BetweenLaws$World"
  | 1 => .object "BetweenLaws$Court"
  | 2 => .int
  | 3 => .int
  | 4 => .int
  | 5 => .int
  | _ => .int
theorem nmX1 : ∀ a, a < 7 → ∀ b, b < 7 → a ≠ b → (TX1 a).2.1 ≠ (TX1 b).2.1 := by decide +kernel
theorem tyX1_ok : ∀ k, k < 7 → parseFieldDescriptor (TX1 k).2.2.1 = some (tyX1 k) := by decide +kernel
abbrev cX1_init : ByteArray := prog_3_method_1_code
def yX1_init : MethodName := ⟨RX1, "<init>", "(LBetweenLaws$World;LBetweenLaws$Court;)V"⟩
abbrev cX1_begin : ByteArray := prog_3_method_2_code
def yX1_begin : MethodName := ⟨RX1, "begin", "(LBetweenLaws$Piece;)V"⟩
abbrev cX1_goThrough : ByteArray := prog_3_method_3_code
def yX1_goThrough : MethodName := ⟨RX1, "goThrough", "(LBetweenLaws$Piece;I)Z"⟩
abbrev cX1_goTill : ByteArray := prog_3_method_4_code
def yX1_goTill : MethodName := ⟨RX1, "goTill", "(LBetweenLaws$Piece;I)V"⟩
abbrev cX1_wholeFrom : ByteArray := prog_3_method_5_code
def yX1_wholeFrom : MethodName := ⟨RX1, "wholeFrom", "(LBetweenLaws$Piece;I)I"⟩
abbrev cX1_goOn : ByteArray := prog_3_method_6_code
def yX1_goOn : MethodName := ⟨RX1, "goOn", "(LBetweenLaws$Piece;II)V"⟩
abbrev cX1_carryTerm : ByteArray := prog_3_method_7_code
def yX1_carryTerm : MethodName := ⟨RX1, "carryTerm", "(III)V"⟩
def RX2 : String := "BetweenLaws$Court"
def TX2 : u_T := fun k => match k with
  | 0 => ("BetweenLaws$Court", "world", "LBetweenLaws$World;", true)
  | 1 => ("BetweenLaws$Court", "two", "Z", false)
  | 2 => ("BetweenLaws$Court", "path", "[I", true)
  | _ => ("BetweenLaws$Court", "steps", "I", false)
def tyX2 : Nat → FieldType := fun k => match k with
  | 0 => .object "BetweenLaws$World"
  | 1 => .boolean
  | 2 => .array .int
  | _ => .int
theorem nmX2 : ∀ a, a < 4 → ∀ b, b < 4 → a ≠ b → (TX2 a).2.1 ≠ (TX2 b).2.1 := by decide +kernel
theorem tyX2_ok : ∀ k, k < 4 → parseFieldDescriptor (TX2 k).2.2.1 = some (tyX2 k) := by decide +kernel
abbrev cX2_init : ByteArray := prog_4_method_1_code
def yX2_init : MethodName := ⟨RX2, "<init>", "(LBetweenLaws$World;)V"⟩
abbrev cX2_obstacle : ByteArray := prog_4_method_2_code
def yX2_obstacle : MethodName := ⟨RX2, "obstacle", "(ILBetweenLaws$Piece;II)I"⟩
abbrev cX2_governor : ByteArray := prog_4_method_3_code
def yX2_governor : MethodName := ⟨RX2, "governor", "(LBetweenLaws$Piece;I)I"⟩
abbrev cX2_choose : ByteArray := prog_4_method_4_code
def yX2_choose : MethodName := ⟨RX2, "choose", "(LBetweenLaws$Piece;III)I"⟩
abbrev cX2_compare : ByteArray := prog_4_method_5_code
def yX2_compare : MethodName := ⟨RX2, "compare", "(LBetweenLaws$Law;LBetweenLaws$Law;I)I"⟩
abbrev cX2_follow : ByteArray := prog_4_method_6_code
def yX2_follow : MethodName := ⟨RX2, "follow", "(LBetweenLaws$Piece;II)I"⟩
abbrev cX2_given : ByteArray := prog_4_method_7_code
def yX2_given : MethodName := ⟨RX2, "given", "(LBetweenLaws$Piece;I)I"⟩
abbrev cX2_isOfThose : ByteArray := prog_4_method_8_code
def yX2_isOfThose : MethodName := ⟨RX2, "isOfThose", "(LBetweenLaws$Piece;II)Z"⟩
abbrev cX2_takenBy : ByteArray := prog_4_method_9_code
def yX2_takenBy : MethodName := ⟨RX2, "takenBy", "(I)I"⟩
abbrev cX2_caughtBy : ByteArray := prog_4_method_10_code
def yX2_caughtBy : MethodName := ⟨RX2, "caughtBy", "(I)I"⟩
abbrev cX2_everGoverns : ByteArray := prog_4_method_11_code
def yX2_everGoverns : MethodName := ⟨RX2, "everGoverns", "(ILBetweenLaws$Piece;)Z"⟩
def RX3 : String := "BetweenLaws$Law"
def TX3 : u_T := fun k => match k with
  | 0 => ("BetweenLaws$Law", "from", "I", false)
  | 1 => ("BetweenLaws$Law", "till", "I", false)
  | 2 => ("BetweenLaws$Law", "cases", "I", false)
  | 3 => ("BetweenLaws$Law", "caseMarks", "[I", true)
  | 4 => ("BetweenLaws$Law", "caseGift", "[I", true)
  | 5 => ("BetweenLaws$Law", "gifts", "[I", true)
  | 6 => ("BetweenLaws$Law", "weights", "[I", true)
  | 7 => ("BetweenLaws$Law", "time", "I", false)
  | 8 => ("BetweenLaws$Law", "secondTime", "I", false)
  | 9 => ("BetweenLaws$Law", "timeRead", "I", false)
  | 10 => ("BetweenLaws$Law", "lasting", "Z", false)
  | 11 => ("BetweenLaws$Law", "length", "I", false)
  | 12 => ("BetweenLaws$Law", "way", "I", false)
  | 13 => ("BetweenLaws$Law", "secondWay", "I", false)
  | _ => ("BetweenLaws$Law", "undoings", "I", false)
def tyX3 : Nat → FieldType := fun k => match k with
  | 0 => .int
  | 1 => .int
  | 2 => .int
  | 3 => .array .int
  | 4 => .array .int
  | 5 => .array .int
  | 6 => .array .int
  | 7 => .int
  | 8 => .int
  | 9 => .int
  | 10 => .boolean
  | 11 => .int
  | 12 => .int
  | 13 => .int
  | _ => .int
theorem nmX3 : ∀ a, a < 15 → ∀ b, b < 15 → a ≠ b → (TX3 a).2.1 ≠ (TX3 b).2.1 := by decide +kernel
theorem tyX3_ok : ∀ k, k < 15 → parseFieldDescriptor (TX3 k).2.2.1 = some (tyX3 k) := by decide +kernel
abbrev cX3_init : ByteArray := prog_5_method_1_code
def yX3_init : MethodName := ⟨RX3, "<init>", "()V"⟩
abbrev cX3_blank : ByteArray := prog_5_method_2_code
def yX3_blank : MethodName := ⟨RX3, "blank", "()V"⟩
abbrev cX3_addCase : ByteArray := prog_5_method_3_code
def yX3_addCase : MethodName := ⟨RX3, "addCase", "(II)V"⟩
abbrev cX3_fitCases : ByteArray := prog_5_method_4_code
def yX3_fitCases : MethodName := ⟨RX3, "fitCases", "()V"⟩
abbrev cX3_firstFitting : ByteArray := prog_5_method_5_code
def yX3_firstFitting : MethodName := ⟨RX3, "firstFitting", "(I)I"⟩
abbrev cX3_takeText : ByteArray := prog_5_method_6_code
def yX3_takeText : MethodName := ⟨RX3, "takeText", "(LBetweenLaws$Law;)V"⟩
abbrev cX3_copyFrom : ByteArray := prog_5_method_7_code
def yX3_copyFrom : MethodName := ⟨RX3, "copyFrom", "(LBetweenLaws$Law;)V"⟩
abbrev cX3_isInForce : ByteArray := prog_5_method_8_code
def yX3_isInForce : MethodName := ⟨RX3, "isInForce", "(I)Z"⟩
abbrev cX3_daysInForce : ByteArray := prog_5_method_9_code
def yX3_daysInForce : MethodName := ⟨RX3, "daysInForce", "()I"⟩
abbrev cX3_giftFor : ByteArray := prog_5_method_10_code
def yX3_giftFor : MethodName := ⟨RX3, "giftFor", "(I)I"⟩
abbrev cX3_weightFor : ByteArray := prog_5_method_11_code
def yX3_weightFor : MethodName := ⟨RX3, "weightFor", "(I)I"⟩
abbrev cX3_reachesByTime : ByteArray := prog_5_method_12_code
def yX3_reachesByTime : MethodName := ⟨RX3, "reachesByTime", "(LBetweenLaws$Piece;)Z"⟩
def RX4 : String := "BetweenLaws$Mender"
def TX4 : u_T := fun k => match k with
  | 0 => ("BetweenLaws$Mender", "world", "LBetweenLaws$World;", true)
  | 1 => ("BetweenLaws$Mender", "court", "LBetweenLaws$Court;", true)
  | 2 => ("BetweenLaws$Mender", "due", "[I", true)
  | 3 => ("BetweenLaws$Mender", "fewest", "I", false)
  | 4 => ("BetweenLaws$Mender", "time", "I", false)
  | 5 => ("BetweenLaws$Mender", "lasting", "I", false)
  | _ => ("BetweenLaws$Mender", "undoing", "I", false)
def tyX4 : Nat → FieldType := fun k => match k with
  | 0 => .object "BetweenLaws$World"
  | 1 => .object "BetweenLaws$Court"
  | 2 => .array .int
  | 3 => .int
  | 4 => .int
  | 5 => .int
  | _ => .int
theorem nmX4 : ∀ a, a < 7 → ∀ b, b < 7 → a ≠ b → (TX4 a).2.1 ≠ (TX4 b).2.1 := by decide +kernel
theorem tyX4_ok : ∀ k, k < 7 → parseFieldDescriptor (TX4 k).2.2.1 = some (tyX4 k) := by decide +kernel
abbrev cX4_init : ByteArray := prog_6_method_1_code
def yX4_init : MethodName := ⟨RX4, "<init>", "(LBetweenLaws$World;LBetweenLaws$Court;)V"⟩
abbrev cX4_search : ByteArray := prog_6_method_2_code
def yX4_search : MethodName := ⟨RX4, "search", "(LBetweenLaws$Law;I)V"⟩
abbrev cX4_settleDue : ByteArray := prog_6_method_3_code
def yX4_settleDue : MethodName := ⟨RX4, "settleDue", "(I)V"⟩
abbrev cX4_keep : ByteArray := prog_6_method_4_code
def yX4_keep : MethodName := ⟨RX4, "keep", "(ILBetweenLaws$Law;I)V"⟩
abbrev cX4_comesOut : ByteArray := prog_6_method_5_code
def yX4_comesOut : MethodName := ⟨RX4, "comesOut", "(I)Z"⟩
def RX5 : String := "BetweenLaws$Pad"
def TX5 : u_T := fun k => match k with
  | 0 => ("BetweenLaws$Pad", "signs", "[I", true)
  | 1 => ("BetweenLaws$Pad", "count", "I", false)
  | _ => ("BetweenLaws$Pad", "at", "I", false)
def tyX5 : Nat → FieldType := fun k => match k with
  | 0 => .array .int
  | 1 => .int
  | _ => .int
theorem nmX5 : ∀ a, a < 3 → ∀ b, b < 3 → a ≠ b → (TX5 a).2.1 ≠ (TX5 b).2.1 := by decide +kernel
theorem tyX5_ok : ∀ k, k < 3 → parseFieldDescriptor (TX5 k).2.2.1 = some (tyX5 k) := by decide +kernel
abbrev cX5_init : ByteArray := prog_7_method_1_code
def yX5_init : MethodName := ⟨RX5, "<init>", "()V"⟩
abbrev cX5_add : ByteArray := prog_7_method_2_code
def yX5_add : MethodName := ⟨RX5, "add", "(I)Z"⟩
abbrev cX5_clear : ByteArray := prog_7_method_3_code
def yX5_clear : MethodName := ⟨RX5, "clear", "()V"⟩
abbrev cX5_readInto : ByteArray := prog_7_method_4_code
def yX5_readInto : MethodName := ⟨RX5, "readInto", "(LBetweenLaws$Law;)I"⟩
abbrev cX5_readCases : ByteArray := prog_7_method_5_code
def yX5_readCases : MethodName := ⟨RX5, "readCases", "(LBetweenLaws$Law;)Z"⟩
abbrev cX5_readCase : ByteArray := prog_7_method_6_code
def yX5_readCase : MethodName := ⟨RX5, "readCase", "(LBetweenLaws$Law;)Z"⟩
abbrev cX5_readMarks : ByteArray := prog_7_method_7_code
def yX5_readMarks : MethodName := ⟨RX5, "readMarks", "()I"⟩
abbrev cX5_readLawNumber : ByteArray := prog_7_method_8_code
def yX5_readLawNumber : MethodName := ⟨RX5, "readLawNumber", "()I"⟩
abbrev cX5_readNumber : ByteArray := prog_7_method_9_code
def yX5_readNumber : MethodName := ⟨RX5, "readNumber", "()I"⟩
abbrev cX5_readDigit : ByteArray := prog_7_method_10_code
def yX5_readDigit : MethodName := ⟨RX5, "readDigit", "(I)I"⟩
abbrev cX5_readWords : ByteArray := prog_7_method_11_code
def yX5_readWords : MethodName := ⟨RX5, "readWords", "(LBetweenLaws$Law;)Z"⟩
abbrev cX5_readWord : ByteArray := prog_7_method_12_code
def yX5_readWord : MethodName := ⟨RX5, "readWord", "(LBetweenLaws$Law;I)I"⟩
abbrev cX5_readTime : ByteArray := prog_7_method_13_code
def yX5_readTime : MethodName := ⟨RX5, "readTime", "(LBetweenLaws$Law;)Z"⟩
abbrev cX5_readTerm : ByteArray := prog_7_method_14_code
def yX5_readTerm : MethodName := ⟨RX5, "readTerm", "(LBetweenLaws$Law;)Z"⟩
abbrev cX5_takes : ByteArray := prog_7_method_15_code
def yX5_takes : MethodName := ⟨RX5, "takes", "(I)Z"⟩
abbrev cX5_next : ByteArray := prog_7_method_16_code
def yX5_next : MethodName := ⟨RX5, "next", "()I"⟩
abbrev cX5_isOneOf : ByteArray := prog_7_method_17_code
def yX5_isOneOf : MethodName := ⟨RX5, "isOneOf", "(IIII)Z"⟩
def RX6 : String := "BetweenLaws$Piece"
def TX6 : u_T := fun k => match k with
  | 0 => ("BetweenLaws$Piece", "began", "I", false)
  | 1 => ("BetweenLaws$Piece", "ended", "I", false)
  | 2 => ("BetweenLaws$Piece", "judged", "I", false)
  | 3 => ("BetweenLaws$Piece", "marks", "I", false)
  | _ => ("BetweenLaws$Piece", "wish", "I", false)
def tyX6 : Nat → FieldType := fun k => match k with
  | 0 => .int
  | 1 => .int
  | 2 => .int
  | 3 => .int
  | _ => .int
theorem nmX6 : ∀ a, a < 5 → ∀ b, b < 5 → a ≠ b → (TX6 a).2.1 ≠ (TX6 b).2.1 := by decide +kernel
theorem tyX6_ok : ∀ k, k < 5 → parseFieldDescriptor (TX6 k).2.2.1 = some (tyX6 k) := by decide +kernel
abbrev cX6_init : ByteArray := prog_8_method_1_code
def yX6_init : MethodName := ⟨RX6, "<init>", "()V"⟩
abbrev cX6_begin : ByteArray := prog_8_method_2_code
def yX6_begin : MethodName := ⟨RX6, "begin", "(II)V"⟩
abbrev cX6_copyFrom : ByteArray := prog_8_method_3_code
def yX6_copyFrom : MethodName := ⟨RX6, "copyFrom", "(LBetweenLaws$Piece;)V"⟩
abbrev cX6_dayOn : ByteArray := prog_8_method_4_code
def yX6_dayOn : MethodName := ⟨RX6, "dayOn", "(I)I"⟩
def RX7 : String := "BetweenLaws$Readings"
def TX7 : u_T := fun k => match k with
  | 0 => ("BetweenLaws$Readings", "world", "LBetweenLaws$World;", true)
  | 1 => ("BetweenLaws$Readings", "court", "LBetweenLaws$Court;", true)
  | 2 => ("BetweenLaws$Readings", "answers", "LBetweenLaws$Answers;", true)
  | 3 => ("BetweenLaws$Readings", "heaviest", "I", false)
  | _ => ("BetweenLaws$Readings", "weight", "I", false)
def tyX7 : Nat → FieldType := fun k => match k with
  | 0 => .object "BetweenLaws$World"
  | 1 => .object "BetweenLaws$Court"
  | 2 => .object "BetweenLaws$Answers"
  | 3 => .int
  | _ => .int
theorem nmX7 : ∀ a, a < 5 → ∀ b, b < 5 → a ≠ b → (TX7 a).2.1 ≠ (TX7 b).2.1 := by decide +kernel
theorem tyX7_ok : ∀ k, k < 5 → parseFieldDescriptor (TX7 k).2.2.1 = some (tyX7 k) := by decide +kernel
abbrev cX7_init : ByteArray := prog_9_method_1_code
def yX7_init : MethodName := ⟨RX7, "<init>", "(LBetweenLaws$World;LBetweenLaws$Court;LBetweenLaws$Answers;)V"⟩
abbrev cX7_count : ByteArray := prog_9_method_2_code
def yX7_count : MethodName := ⟨RX7, "count", "()I"⟩
abbrev cX7_word : ByteArray := prog_9_method_3_code
def yX7_word : MethodName := ⟨RX7, "word", "(I)I"⟩
abbrev cX7_timeWords : ByteArray := prog_9_method_4_code
def yX7_timeWords : MethodName := ⟨RX7, "timeWords", "()I"⟩
abbrev cX7_readBy : ByteArray := prog_9_method_5_code
def yX7_readBy : MethodName := ⟨RX7, "readBy", "(I)V"⟩
abbrev cX7_givenBy : ByteArray := prog_9_method_6_code
def yX7_givenBy : MethodName := ⟨RX7, "givenBy", "(ILBetweenLaws$Piece;I)I"⟩
abbrev cX7_unlike : ByteArray := prog_9_method_7_code
def yX7_unlike : MethodName := ⟨RX7, "unlike", "(LBetweenLaws$Piece;I)I"⟩
abbrev cX7_weigh : ByteArray := prog_9_method_8_code
def yX7_weigh : MethodName := ⟨RX7, "weigh", "(I)V"⟩
abbrev cX7_hanging : ByteArray := prog_9_method_9_code
def yX7_hanging : MethodName := ⟨RX7, "hanging", "(II)I"⟩
def RX8 : String := "BetweenLaws$Survey"
def TX8 : u_T := fun k => match k with
  | 0 => ("BetweenLaws$Survey", "world", "LBetweenLaws$World;", true)
  | 1 => ("BetweenLaws$Survey", "court", "LBetweenLaws$Court;", true)
  | 2 => ("BetweenLaws$Survey", "answers", "LBetweenLaws$Answers;", true)
  | _ => ("BetweenLaws$Survey", "could", "LBetweenLaws$Piece;", true)
def tyX8 : Nat → FieldType := fun k => match k with
  | 0 => .object "BetweenLaws$World"
  | 1 => .object "BetweenLaws$Court"
  | 2 => .object "BetweenLaws$Answers"
  | _ => .object "BetweenLaws$Piece"
theorem nmX8 : ∀ a, a < 4 → ∀ b, b < 4 → a ≠ b → (TX8 a).2.1 ≠ (TX8 b).2.1 := by decide +kernel
theorem tyX8_ok : ∀ k, k < 4 → parseFieldDescriptor (TX8 k).2.2.1 = some (tyX8 k) := by decide +kernel
abbrev cX8_init : ByteArray := prog_10_method_1_code
def yX8_init : MethodName := ⟨RX8, "<init>", "(LBetweenLaws$World;LBetweenLaws$Court;LBetweenLaws$Answers;)V"⟩
abbrev cX8_unlike : ByteArray := prog_10_method_2_code
def yX8_unlike : MethodName := ⟨RX8, "unlike", "(I)I"⟩
abbrev cX8_firstUngoverned : ByteArray := prog_10_method_3_code
def yX8_firstUngoverned : MethodName := ⟨RX8, "firstUngoverned", "(I)I"⟩
def RX9 : String := "BetweenLaws$World"
def TX9 : u_T := fun k => match k with
  | 0 => ("BetweenLaws$World", "laws", "[LBetweenLaws$Law;", true)
  | 1 => ("BetweenLaws$World", "lawCount", "I", false)
  | 2 => ("BetweenLaws$World", "latestFirst", "[I", true)
  | 3 => ("BetweenLaws$World", "pieces", "[LBetweenLaws$Piece;", true)
  | 4 => ("BetweenLaws$World", "pieceCount", "I", false)
  | 5 => ("BetweenLaws$World", "order", "I", false)
  | 6 => ("BetweenLaws$World", "behind", "I", false)
  | _ => ("BetweenLaws$World", "mild", "I", false)
def tyX9 : Nat → FieldType := fun k => match k with
  | 0 => .array (.object "BetweenLaws$Law")
  | 1 => .int
  | 2 => .array .int
  | 3 => .array (.object "BetweenLaws$Piece")
  | 4 => .int
  | 5 => .int
  | 6 => .int
  | _ => .int
theorem nmX9 : ∀ a, a < 8 → ∀ b, b < 8 → a ≠ b → (TX9 a).2.1 ≠ (TX9 b).2.1 := by decide +kernel
theorem tyX9_ok : ∀ k, k < 8 → parseFieldDescriptor (TX9 k).2.2.1 = some (tyX9 k) := by decide +kernel
abbrev cX9_init : ByteArray := prog_11_method_1_code
def yX9_init : MethodName := ⟨RX9, "<init>", "()V"⟩
abbrev cX9_hasLaw : ByteArray := prog_11_method_2_code
def yX9_hasLaw : MethodName := ⟨RX9, "hasLaw", "(I)Z"⟩
abbrev cX9_hasPiece : ByteArray := prog_11_method_3_code
def yX9_hasPiece : MethodName := ⟨RX9, "hasPiece", "(I)Z"⟩
abbrev cX9_addLaw : ByteArray := prog_11_method_4_code
def yX9_addLaw : MethodName := ⟨RX9, "addLaw", "(LBetweenLaws$Law;II)I"⟩
abbrev cX9_addPiece : ByteArray := prog_11_method_5_code
def yX9_addPiece : MethodName := ⟨RX9, "addPiece", "(II)I"⟩
abbrev cX9_orderLaws : ByteArray := prog_11_method_6_code
def yX9_orderLaws : MethodName := ⟨RX9, "orderLaws", "()V"⟩
abbrev cX9_lawsInForce : ByteArray := prog_11_method_7_code
def yX9_lawsInForce : MethodName := ⟨RX9, "lawsInForce", "(I)I"⟩
abbrev cX9_undone : ByteArray := prog_11_method_8_code
def yX9_undone : MethodName := ⟨RX9, "undone", "(I)I"⟩
abbrev cX9_turnsOn : ByteArray := prog_11_method_9_code
def yX9_turnsOn : MethodName := ⟨RX9, "turnsOn", "(I)Z"⟩
abbrev cX9_briefest : ByteArray := prog_11_method_10_code
def yX9_briefest : MethodName := ⟨RX9, "briefest", "()I"⟩
abbrev cX9_copyFrom : ByteArray := prog_11_method_11_code
def yX9_copyFrom : MethodName := ⟨RX9, "copyFrom", "(LBetweenLaws$World;)V"⟩
def RX10 : String := "BetweenLaws"
def TX10 : u_T := fun k => match k with
  | 0 => ("BetweenLaws", "pad", "LBetweenLaws$Pad;", true)
  | 1 => ("BetweenLaws", "draft", "LBetweenLaws$Law;", true)
  | 2 => ("BetweenLaws", "now", "LBetweenLaws$World;", true)
  | 3 => ("BetweenLaws", "images", "[LBetweenLaws$World;", true)
  | 4 => ("BetweenLaws", "kept", "[Z", true)
  | 5 => ("BetweenLaws", "court", "LBetweenLaws$Court;", true)
  | 6 => ("BetweenLaws", "course", "LBetweenLaws$Course;", true)
  | 7 => ("BetweenLaws", "readings", "LBetweenLaws$Readings;", true)
  | 8 => ("BetweenLaws", "mender", "LBetweenLaws$Mender;", true)
  | _ => ("BetweenLaws", "survey", "LBetweenLaws$Survey;", true)
def tyX10 : Nat → FieldType := fun k => match k with
  | 0 => .object "BetweenLaws$Pad"
  | 1 => .object "BetweenLaws$Law"
  | 2 => .object "BetweenLaws$World"
  | 3 => .array (.object "BetweenLaws$World")
  | 4 => .array .boolean
  | 5 => .object "BetweenLaws$Court"
  | 6 => .object "BetweenLaws$Course"
  | 7 => .object "BetweenLaws$Readings"
  | 8 => .object "BetweenLaws$Mender"
  | _ => .object "BetweenLaws$Survey"
theorem nmX10 : ∀ a, a < 10 → ∀ b, b < 10 → a ≠ b → (TX10 a).2.1 ≠ (TX10 b).2.1 := by decide +kernel
theorem tyX10_ok : ∀ k, k < 10 → parseFieldDescriptor (TX10 k).2.2.1 = some (tyX10 k) := by decide +kernel
abbrev cX10_init : ByteArray := prog_1_method_1_code
def yX10_init : MethodName := ⟨RX10, "<init>", "()V"⟩
abbrev cX10_say : ByteArray := prog_1_method_2_code
def yX10_say : MethodName := ⟨RX10, "say", "(I)I"⟩
abbrev cX10_wipe : ByteArray := prog_1_method_3_code
def yX10_wipe : MethodName := ⟨RX10, "wipe", "()I"⟩
abbrev cX10_fault : ByteArray := prog_1_method_4_code
def yX10_fault : MethodName := ⟨RX10, "fault", "()I"⟩
abbrev cX10_law : ByteArray := prog_1_method_5_code
def yX10_law : MethodName := ⟨RX10, "law", "(II)I"⟩
abbrev cX10_anew : ByteArray := prog_1_method_6_code
def yX10_anew : MethodName := ⟨RX10, "anew", "(I)I"⟩
abbrev cX10_move : ByteArray := prog_1_method_7_code
def yX10_move : MethodName := ⟨RX10, "move", "(III)I"⟩
abbrev cX10_of : ByteArray := prog_1_method_8_code
def yX10_of : MethodName := ⟨RX10, "of", "(II)I"⟩
abbrev cX10_part : ByteArray := prog_1_method_9_code
def yX10_part : MethodName := ⟨RX10, "part", "(III)I"⟩
abbrev cX10_force : ByteArray := prog_1_method_10_code
def yX10_force : MethodName := ⟨RX10, "force", "(II)I"⟩
abbrev cX10_open : ByteArray := prog_1_method_11_code
def yX10_open : MethodName := ⟨RX10, "open", "(I)I"⟩
abbrev cX10_piece : ByteArray := prog_1_method_12_code
def yX10_piece : MethodName := ⟨RX10, "piece", "(II)I"⟩
abbrev cX10_about : ByteArray := prog_1_method_13_code
def yX10_about : MethodName := ⟨RX10, "about", "(II)I"⟩
abbrev cX10_change : ByteArray := prog_1_method_14_code
def yX10_change : MethodName := ⟨RX10, "change", "(III)I"⟩
abbrev cX10_set : ByteArray := prog_1_method_15_code
def yX10_set : MethodName := ⟨RX10, "set", "(II)I"⟩
abbrev cX10_meets : ByteArray := prog_1_method_16_code
def yX10_meets : MethodName := ⟨RX10, "meets", "(III)I"⟩
abbrev cX10_why : ByteArray := prog_1_method_17_code
def yX10_why : MethodName := ⟨RX10, "why", "(III)I"⟩
abbrev cX10_governs : ByteArray := prog_1_method_18_code
def yX10_governs : MethodName := ⟨RX10, "governs", "(II)I"⟩
abbrev cX10_those : ByteArray := prog_1_method_19_code
def yX10_those : MethodName := ⟨RX10, "those", "(II)I"⟩
abbrev cX10_gives : ByteArray := prog_1_method_20_code
def yX10_gives : MethodName := ⟨RX10, "gives", "(II)I"⟩
abbrev cX10_route : ByteArray := prog_1_method_21_code
def yX10_route : MethodName := ⟨RX10, "route", "(III)I"⟩
abbrev cX10_sum : ByteArray := prog_1_method_22_code
def yX10_sum : MethodName := ⟨RX10, "sum", "(I)I"⟩
abbrev cX10_passage : ByteArray := prog_1_method_23_code
def yX10_passage : MethodName := ⟨RX10, "passage", "(III)I"⟩
abbrev cX10_term : ByteArray := prog_1_method_24_code
def yX10_term : MethodName := ⟨RX10, "term", "(III)I"⟩
abbrev cX10_whole : ByteArray := prog_1_method_25_code
def yX10_whole : MethodName := ⟨RX10, "whole", "(II)I"⟩
abbrev cX10_taken : ByteArray := prog_1_method_26_code
def yX10_taken : MethodName := ⟨RX10, "taken", "(I)I"⟩
abbrev cX10_brief : ByteArray := prog_1_method_27_code
def yX10_brief : MethodName := ⟨RX10, "brief", "(I)I"⟩
abbrev cX10_caught : ByteArray := prog_1_method_28_code
def yX10_caught : MethodName := ⟨RX10, "caught", "(I)I"⟩
abbrev cX10_read : ByteArray := prog_1_method_29_code
def yX10_read : MethodName := ⟨RX10, "read", "(III)I"⟩
abbrev cX10_ways : ByteArray := prog_1_method_30_code
def yX10_ways : MethodName := ⟨RX10, "ways", "(II)I"⟩
abbrev cX10_hangs : ByteArray := prog_1_method_31_code
def yX10_hangs : MethodName := ⟨RX10, "hangs", "(II)I"⟩
abbrev cX10_wish : ByteArray := prog_1_method_32_code
def yX10_wish : MethodName := ⟨RX10, "wish", "(II)I"⟩
abbrev cX10_mend : ByteArray := prog_1_method_33_code
def yX10_mend : MethodName := ⟨RX10, "mend", "(III)I"⟩
abbrev cX10_all : ByteArray := prog_1_method_34_code
def yX10_all : MethodName := ⟨RX10, "all", "(II)I"⟩
abbrev cX10_image : ByteArray := prog_1_method_35_code
def yX10_image : MethodName := ⟨RX10, "image", "(I)I"⟩
abbrev cX10_restore : ByteArray := prog_1_method_36_code
def yX10_restore : MethodName := ⟨RX10, "restore", "(I)I"⟩
abbrev cX10_told : ByteArray := prog_1_method_37_code
def yX10_told : MethodName := ⟨RX10, "told", "(I)I"⟩
abbrev cX10_refusedPiece : ByteArray := prog_1_method_38_code
def yX10_refusedPiece : MethodName := ⟨RX10, "refusedPiece", "(II)I"⟩
abbrev cX10_refusedLaw : ByteArray := prog_1_method_39_code
def yX10_refusedLaw : MethodName := ⟨RX10, "refusedLaw", "(III)I"⟩
abbrev cX10_within : ByteArray := prog_1_method_40_code
def yX10_within : MethodName := ⟨RX10, "within", "(III)Z"⟩
abbrev cX10_isDay : ByteArray := prog_1_method_41_code
def yX10_isDay : MethodName := ⟨RX10, "isDay", "(I)Z"⟩
abbrev cX10_isMarks : ByteArray := prog_1_method_42_code
def yX10_isMarks : MethodName := ⟨RX10, "isMarks", "(I)Z"⟩
def RX11 : String := "BetweenLawsModel"
def TX11 : u_T := fun k => match k with
  | 0 => ("BetweenLawsModel", "signs", "[I", true)
  | 1 => ("BetweenLawsModel", "signMany", "I", false)
  | 2 => ("BetweenLawsModel", "caseNow", "I", false)
  | 3 => ("BetweenLawsModel", "markNow", "I", false)
  | 4 => ("BetweenLawsModel", "letterNow", "I", false)
  | 5 => ("BetweenLawsModel", "wordNow", "I", false)
  | 6 => ("BetweenLawsModel", "firstDay", "[I", true)
  | 7 => ("BetweenLawsModel", "tillDay", "[I", true)
  | 8 => ("BetweenLawsModel", "caseMany", "[I", true)
  | 9 => ("BetweenLawsModel", "caseMarks", "[I", true)
  | 10 => ("BetweenLawsModel", "caseGift", "[I", true)
  | 11 => ("BetweenLawsModel", "time", "[I", true)
  | 12 => ("BetweenLawsModel", "timeTwo", "[I", true)
  | 13 => ("BetweenLawsModel", "isW", "[I", true)
  | 14 => ("BetweenLawsModel", "term", "[I", true)
  | 15 => ("BetweenLawsModel", "way", "[I", true)
  | 16 => ("BetweenLawsModel", "wayTwo", "[I", true)
  | 17 => ("BetweenLawsModel", "undoes", "[I", true)
  | 18 => ("BetweenLawsModel", "laws", "I", false)
  | 19 => ("BetweenLawsModel", "reading", "I", false)
  | 20 => ("BetweenLawsModel", "allWays", "I", false)
  | 21 => ("BetweenLawsModel", "begun", "[I", true)
  | 22 => ("BetweenLawsModel", "ended", "[I", true)
  | 23 => ("BetweenLawsModel", "judged", "[I", true)
  | 24 => ("BetweenLawsModel", "marksOf", "[I", true)
  | 25 => ("BetweenLawsModel", "wishes", "[I", true)
  | 26 => ("BetweenLawsModel", "pieces", "I", false)
  | 27 => ("BetweenLawsModel", "orderIs", "I", false)
  | 28 => ("BetweenLawsModel", "behindIs", "I", false)
  | 29 => ("BetweenLawsModel", "mildIs", "I", false)
  | 30 => ("BetweenLawsModel", "isTwo", "Z", false)
  | 31 => ("BetweenLawsModel", "sent", "[I", true)
  | 32 => ("BetweenLawsModel", "sentMany", "I", false)
  | 33 => ("BetweenLawsModel", "startIs", "I", false)
  | 34 => ("BetweenLawsModel", "endIs", "I", false)
  | 35 => ("BetweenLawsModel", "lawWas", "I", false)
  | 36 => ("BetweenLawsModel", "were", "[Z", true)
  | 37 => ("BetweenLawsModel", "givesNow", "[I", true)
  | 38 => ("BetweenLawsModel", "kept", "[I", true)
  | 39 => ("BetweenLawsModel", "isKept", "[Z", true)
  | 40 => ("BetweenLawsModel", "at", "I", false)
  | _ => ("BetweenLawsModel", "isWriting", "Z", false)
def tyX11 : Nat → FieldType := fun k => match k with
  | 0 => .array .int
  | 1 => .int
  | 2 => .int
  | 3 => .int
  | 4 => .int
  | 5 => .int
  | 6 => .array .int
  | 7 => .array .int
  | 8 => .array .int
  | 9 => .array .int
  | 10 => .array .int
  | 11 => .array .int
  | 12 => .array .int
  | 13 => .array .int
  | 14 => .array .int
  | 15 => .array .int
  | 16 => .array .int
  | 17 => .array .int
  | 18 => .int
  | 19 => .int
  | 20 => .int
  | 21 => .array .int
  | 22 => .array .int
  | 23 => .array .int
  | 24 => .array .int
  | 25 => .array .int
  | 26 => .int
  | 27 => .int
  | 28 => .int
  | 29 => .int
  | 30 => .boolean
  | 31 => .array .int
  | 32 => .int
  | 33 => .int
  | 34 => .int
  | 35 => .int
  | 36 => .array .boolean
  | 37 => .array .int
  | 38 => .array .int
  | 39 => .array .boolean
  | 40 => .int
  | _ => .boolean
theorem nmX11 : ∀ a, a < 42 → ∀ b, b < 42 → a ≠ b → (TX11 a).2.1 ≠ (TX11 b).2.1 := by decide +kernel
theorem tyX11_ok : ∀ k, k < 42 → parseFieldDescriptor (TX11 k).2.2.1 = some (tyX11 k) := by decide +kernel
abbrev cX11_init : ByteArray := prog_13_method_1_code
def yX11_init : MethodName := ⟨RX11, "<init>", "()V"⟩
abbrev cX11_in : ByteArray := prog_13_method_3_code
def yX11_in : MethodName := ⟨RX11, "in", "(JJJ)Z"⟩
abbrev cX11_ones : ByteArray := prog_13_method_4_code
def yX11_ones : MethodName := ⟨RX11, "ones", "(I)I"⟩
abbrev cX11_isDay : ByteArray := prog_13_method_5_code
def yX11_isDay : MethodName := ⟨RX11, "isDay", "(I)Z"⟩
abbrev cX11_say : ByteArray := prog_13_method_6_code
def yX11_say : MethodName := ⟨RX11, "say", "(I)I"⟩
abbrev cX11_wipe : ByteArray := prog_13_method_7_code
def yX11_wipe : MethodName := ⟨RX11, "wipe", "()I"⟩
abbrev cX11_isDigit : ByteArray := prog_13_method_8_code
def yX11_isDigit : MethodName := ⟨RX11, "isDigit", "(I)Z"⟩
abbrev cX11_isTime : ByteArray := prog_13_method_9_code
def yX11_isTime : MethodName := ⟨RX11, "isTime", "(I)Z"⟩
abbrev cX11_isWay : ByteArray := prog_13_method_10_code
def yX11_isWay : MethodName := ⟨RX11, "isWay", "(I)Z"⟩
abbrev cX11_beginText : ByteArray := prog_13_method_11_code
def yX11_beginText : MethodName := ⟨RX11, "beginText", "()V"⟩
abbrev cX11_behindGift : ByteArray := prog_13_method_12_code
def yX11_behindGift : MethodName := ⟨RX11, "behindGift", "(I)I"⟩
abbrev cX11_beginWord : ByteArray := prog_13_method_13_code
def yX11_beginWord : MethodName := ⟨RX11, "beginWord", "(I)I"⟩
abbrev cX11_stepOf : ByteArray := prog_13_method_14_code
def yX11_stepOf : MethodName := ⟨RX11, "stepOf", "(II)I"⟩
abbrev cX11_stepWord : ByteArray := prog_13_method_15_code
def yX11_stepWord : MethodName := ⟨RX11, "stepWord", "(II)I"⟩
abbrev cX11_isWhole : ByteArray := prog_13_method_16_code
def yX11_isWhole : MethodName := ⟨RX11, "isWhole", "(I)Z"⟩
abbrev cX11_fault : ByteArray := prog_13_method_17_code
def yX11_fault : MethodName := ⟨RX11, "fault", "()I"⟩
abbrev cX11_isLaw : ByteArray := prog_13_method_18_code
def yX11_isLaw : MethodName := ⟨RX11, "isLaw", "(I)Z"⟩
abbrev cX11_layText : ByteArray := prog_13_method_19_code
def yX11_layText : MethodName := ⟨RX11, "layText", "(I)V"⟩
abbrev cX11_layWord : ByteArray := prog_13_method_20_code
def yX11_layWord : MethodName := ⟨RX11, "layWord", "(III)V"⟩
abbrev cX11_law : ByteArray := prog_13_method_21_code
def yX11_law : MethodName := ⟨RX11, "law", "(II)I"⟩
abbrev cX11_anew : ByteArray := prog_13_method_22_code
def yX11_anew : MethodName := ⟨RX11, "anew", "(I)I"⟩
abbrev cX11_move : ByteArray := prog_13_method_23_code
def yX11_move : MethodName := ⟨RX11, "move", "(III)I"⟩
abbrev cX11_of : ByteArray := prog_13_method_24_code
def yX11_of : MethodName := ⟨RX11, "of", "(II)I"⟩
abbrev cX11_part : ByteArray := prog_13_method_25_code
def yX11_part : MethodName := ⟨RX11, "part", "(III)I"⟩
abbrev cX11_isInForce : ByteArray := prog_13_method_26_code
def yX11_isInForce : MethodName := ⟨RX11, "isInForce", "(II)Z"⟩
abbrev cX11_forceOf : ByteArray := prog_13_method_27_code
def yX11_forceOf : MethodName := ⟨RX11, "forceOf", "(I)I"⟩
abbrev cX11_undoneOf : ByteArray := prog_13_method_28_code
def yX11_undoneOf : MethodName := ⟨RX11, "undoneOf", "(I)I"⟩
abbrev cX11_force : ByteArray := prog_13_method_29_code
def yX11_force : MethodName := ⟨RX11, "force", "(II)I"⟩
abbrev cX11_open : ByteArray := prog_13_method_30_code
def yX11_open : MethodName := ⟨RX11, "open", "(I)I"⟩
abbrev cX11_isSecond : ByteArray := prog_13_method_31_code
def yX11_isSecond : MethodName := ⟨RX11, "isSecond", "(II)Z"⟩
abbrev cX11_timeOf : ByteArray := prog_13_method_32_code
def yX11_timeOf : MethodName := ⟨RX11, "timeOf", "(I)I"⟩
abbrev cX11_wayOf : ByteArray := prog_13_method_33_code
def yX11_wayOf : MethodName := ⟨RX11, "wayOf", "(I)I"⟩
abbrev cX11_isPiece : ByteArray := prog_13_method_34_code
def yX11_isPiece : MethodName := ⟨RX11, "isPiece", "(I)Z"⟩
abbrev cX11_layPiece : ByteArray := prog_13_method_35_code
def yX11_layPiece : MethodName := ⟨RX11, "layPiece", "(III)V"⟩
abbrev cX11_piece : ByteArray := prog_13_method_36_code
def yX11_piece : MethodName := ⟨RX11, "piece", "(II)I"⟩
abbrev cX11_about : ByteArray := prog_13_method_37_code
def yX11_about : MethodName := ⟨RX11, "about", "(II)I"⟩
abbrev cX11_change : ByteArray := prog_13_method_38_code
def yX11_change : MethodName := ⟨RX11, "change", "(III)I"⟩
abbrev cX11_set : ByteArray := prog_13_method_39_code
def yX11_set : MethodName := ⟨RX11, "set", "(II)I"⟩
abbrev cX11_fitting : ByteArray := prog_13_method_40_code
def yX11_fitting : MethodName := ⟨RX11, "fitting", "(II)I"⟩
abbrev cX11_lackOf : ByteArray := prog_13_method_41_code
def yX11_lackOf : MethodName := ⟨RX11, "lackOf", "(IIII)I"⟩
abbrev cX11_sameDay : ByteArray := prog_13_method_42_code
def yX11_sameDay : MethodName := ⟨RX11, "sameDay", "(II)I"⟩
abbrev cX11_chosen : ByteArray := prog_13_method_43_code
def yX11_chosen : MethodName := ⟨RX11, "chosen", "(II)I"⟩
abbrev cX11_heldAgainst : ByteArray := prog_13_method_44_code
def yX11_heldAgainst : MethodName := ⟨RX11, "heldAgainst", "(III)I"⟩
abbrev cX11_marksAt : ByteArray := prog_13_method_45_code
def yX11_marksAt : MethodName := ⟨RX11, "marksAt", "(II)I"⟩
abbrev cX11_governing : ByteArray := prog_13_method_46_code
def yX11_governing : MethodName := ⟨RX11, "governing", "(II)I"⟩
abbrev cX11_governs0 : ByteArray := prog_13_method_47_code
def yX11_governs0 : MethodName := ⟨RX11, "governs0", "(II)I"⟩
abbrev cX11_meets : ByteArray := prog_13_method_48_code
def yX11_meets : MethodName := ⟨RX11, "meets", "(III)I"⟩
abbrev cX11_why : ByteArray := prog_13_method_49_code
def yX11_why : MethodName := ⟨RX11, "why", "(III)I"⟩
abbrev cX11_governs : ByteArray := prog_13_method_50_code
def yX11_governs : MethodName := ⟨RX11, "governs", "(II)I"⟩
abbrev cX11_those : ByteArray := prog_13_method_51_code
def yX11_those : MethodName := ⟨RX11, "those", "(II)I"⟩
abbrev cX11_plainGift : ByteArray := prog_13_method_52_code
def yX11_plainGift : MethodName := ⟨RX11, "plainGift", "(II)I"⟩
abbrev cX11_giftOf : ByteArray := prog_13_method_53_code
def yX11_giftOf : MethodName := ⟨RX11, "giftOf", "(II)I"⟩
abbrev cX11_gives : ByteArray := prog_13_method_54_code
def yX11_gives : MethodName := ⟨RX11, "gives", "(II)I"⟩
abbrev cX11_route : ByteArray := prog_13_method_55_code
def yX11_route : MethodName := ⟨RX11, "route", "(III)I"⟩
abbrev cX11_sum : ByteArray := prog_13_method_56_code
def yX11_sum : MethodName := ⟨RX11, "sum", "(I)I"⟩
abbrev cX11_passage : ByteArray := prog_13_method_57_code
def yX11_passage : MethodName := ⟨RX11, "passage", "(III)I"⟩
abbrev cX11_carry : ByteArray := prog_13_method_58_code
def yX11_carry : MethodName := ⟨RX11, "carry", "(II)V"⟩
abbrev cX11_beginTerm : ByteArray := prog_13_method_59_code
def yX11_beginTerm : MethodName := ⟨RX11, "beginTerm", "(I)V"⟩
abbrev cX11_term : ByteArray := prog_13_method_60_code
def yX11_term : MethodName := ⟨RX11, "term", "(III)I"⟩
abbrev cX11_whole : ByteArray := prog_13_method_61_code
def yX11_whole : MethodName := ⟨RX11, "whole", "(II)I"⟩
abbrev cX11_taken : ByteArray := prog_13_method_62_code
def yX11_taken : MethodName := ⟨RX11, "taken", "(I)I"⟩
abbrev cX11_brief : ByteArray := prog_13_method_63_code
def yX11_brief : MethodName := ⟨RX11, "brief", "(I)I"⟩
abbrev cX11_caught : ByteArray := prog_13_method_64_code
def yX11_caught : MethodName := ⟨RX11, "caught", "(I)I"⟩
abbrev cX11_giftBy : ByteArray := prog_13_method_65_code
def yX11_giftBy : MethodName := ⟨RX11, "giftBy", "(III)I"⟩
abbrev cX11_read : ByteArray := prog_13_method_66_code
def yX11_read : MethodName := ⟨RX11, "read", "(III)I"⟩
abbrev cX11_opens : ByteArray := prog_13_method_67_code
def yX11_opens : MethodName := ⟨RX11, "opens", "()I"⟩
abbrev cX11_clearWere : ByteArray := prog_13_method_68_code
def yX11_clearWere : MethodName := ⟨RX11, "clearWere", "()V"⟩
abbrev cX11_note : ByteArray := prog_13_method_69_code
def yX11_note : MethodName := ⟨RX11, "note", "(I)V"⟩
abbrev cX11_manyWere : ByteArray := prog_13_method_70_code
def yX11_manyWere : MethodName := ⟨RX11, "manyWere", "()I"⟩
abbrev cX11_ways : ByteArray := prog_13_method_71_code
def yX11_ways : MethodName := ⟨RX11, "ways", "(II)I"⟩
abbrev cX11_hangs : ByteArray := prog_13_method_72_code
def yX11_hangs : MethodName := ⟨RX11, "hangs", "(II)I"⟩
abbrev cX11_wish : ByteArray := prog_13_method_73_code
def yX11_wish : MethodName := ⟨RX11, "wish", "(II)I"⟩
abbrev cX11_areAsWished : ByteArray := prog_13_method_74_code
def yX11_areAsWished : MethodName := ⟨RX11, "areAsWished", "(I)Z"⟩
abbrev cX11_timeAt : ByteArray := prog_13_method_75_code
def yX11_timeAt : MethodName := ⟨RX11, "timeAt", "(I)I"⟩
abbrev cX11_mend : ByteArray := prog_13_method_76_code
def yX11_mend : MethodName := ⟨RX11, "mend", "(III)I"⟩
abbrev cX11_all : ByteArray := prog_13_method_77_code
def yX11_all : MethodName := ⟨RX11, "all", "(II)I"⟩
abbrev cX11_pass : ByteArray := prog_13_method_78_code
def yX11_pass : MethodName := ⟨RX11, "pass", "(I)I"⟩
abbrev cX11_passAll : ByteArray := prog_13_method_79_code
def yX11_passAll : MethodName := ⟨RX11, "passAll", "()V"⟩
abbrev cX11_image : ByteArray := prog_13_method_80_code
def yX11_image : MethodName := ⟨RX11, "image", "(I)I"⟩
abbrev cX11_restore : ByteArray := prog_13_method_81_code
def yX11_restore : MethodName := ⟨RX11, "restore", "(I)I"⟩
abbrev cX11_told : ByteArray := prog_13_method_82_code
def yX11_told : MethodName := ⟨RX11, "told", "(I)I"⟩
def RJ6 : String := "java/lang/Integer"
def TJ6 : u_T := fun k => match k with
  | _ => ("", "", "", false)
def tyJ6 : Nat → FieldType := fun k => match k with
  | _ => .int
theorem nmJ6 : ∀ a, a < 0 → ∀ b, b < 0 → a ≠ b → (TJ6 a).2.1 ≠ (TJ6 b).2.1 := by decide +kernel
theorem tyJ6_ok : ∀ k, k < 0 → parseFieldDescriptor (TJ6 k).2.2.1 = some (tyJ6 k) := by decide +kernel
abbrev cJ6_bitCount_0f7a4 : ByteArray := prog_14_method_49_code
def yJ6_bitCount_0f7a4 : MethodName := ⟨RJ6, "bitCount", "(I)I"⟩
def RJ13 : String := "java/lang/Long"
def TJ13 : u_T := fun k => match k with
  | _ => ("", "", "", false)
def tyJ13 : Nat → FieldType := fun k => match k with
  | _ => .int
theorem nmJ13 : ∀ a, a < 0 → ∀ b, b < 0 → a ≠ b → (TJ13 a).2.1 ≠ (TJ13 b).2.1 := by decide +kernel
theorem tyJ13_ok : ∀ k, k < 0 → parseFieldDescriptor (TJ13 k).2.2.1 = some (tyJ13 k) := by decide +kernel
abbrev cJ13_bitCount_95d88 : ByteArray := prog_15_method_50_code
def yJ13_bitCount_95d88 : MethodName := ⟨RJ13, "bitCount", "(J)I"⟩
def RJ9 : String := "java/lang/Math"
def TJ9 : u_T := fun k => match k with
  | _ => ("", "", "", false)
def tyJ9 : Nat → FieldType := fun k => match k with
  | _ => .int
theorem nmJ9 : ∀ a, a < 0 → ∀ b, b < 0 → a ≠ b → (TJ9 a).2.1 ≠ (TJ9 b).2.1 := by decide +kernel
theorem tyJ9_ok : ∀ k, k < 0 → parseFieldDescriptor (TJ9 k).2.2.1 = some (tyJ9 k) := by decide +kernel
abbrev cJ9_min_7cf53 : ByteArray := prog_16_method_69_code
def yJ9_min_7cf53 : MethodName := ⟨RJ9, "min", "(II)I"⟩
def RJ10 : String := "java/lang/System"
def TJ10 : u_T := fun k => match k with
  | _ => ("", "", "", false)
def tyJ10 : Nat → FieldType := fun k => match k with
  | _ => .int
theorem nmJ10 : ∀ a, a < 0 → ∀ b, b < 0 → a ≠ b → (TJ10 a).2.1 ≠ (TJ10 b).2.1 := by decide +kernel
theorem tyJ10_ok : ∀ k, k < 0 → parseFieldDescriptor (TJ10 k).2.2.1 = some (tyJ10 k) := by decide +kernel
def RL : String := "BetweenLawsLaw"
abbrev cL_law : ByteArray := code
def yL_law : MethodName := ⟨RL, "law", "([I)Z"⟩
abbrev vwCl : List vw_C := [(RX0, TX0, 2), (RX1, TX1, 7), (RX2, TX2, 4), (RX3, TX3, 15), (RX4, TX4, 7), (RX5, TX5, 3), (RX6, TX6, 5), (RX7, TX7, 5), (RX8, TX8, 4), (RX9, TX9, 8), (RX10, TX10, 10), (RX11, TX11, 42)]
end
section
theorem dX0_init_0 : decode cX0_init 0 = .ok (.aload_n 0, 1) := by decide +kernel
theorem dX0_init_1 : decode cX0_init 1 = .ok (.invokespecial 3, 3) := by decide +kernel
theorem dX0_init_4 : decode cX0_init 4 = .ok (.return_, 1) := by decide +kernel
theorem dX0_clear_0 : decode cX0_clear 0 = .ok (.aload_n 0, 1) := by decide +kernel
theorem dX0_clear_1 : decode cX0_clear 1 = .ok (.lconst 0, 1) := by decide +kernel
theorem dX0_clear_2 : decode cX0_clear 2 = .ok (.putfield 9, 3) := by decide +kernel
theorem dX0_clear_5 : decode cX0_clear 5 = .ok (.aload_n 0, 1) := by decide +kernel
theorem dX0_clear_6 : decode cX0_clear 6 = .ok (.lconst 0, 1) := by decide +kernel
theorem dX0_clear_7 : decode cX0_clear 7 = .ok (.putfield 15, 3) := by decide +kernel
theorem dX0_clear_10 : decode cX0_clear 10 = .ok (.return_, 1) := by decide +kernel
theorem dX0_put_0 : decode cX0_put 0 = .ok (.iload_n 1, 1) := by decide +kernel
theorem dX0_put_1 : decode cX0_put 1 = .ok (.bipush (-6), 2) := by decide +kernel
theorem dX0_put_3 : decode cX0_put 3 = .ok (.if_icmp .ne 7, 3) := by decide +kernel
theorem dX0_put_6 : decode cX0_put 6 = .ok (.iconst 0, 1) := by decide +kernel
theorem dX0_put_7 : decode cX0_put 7 = .ok (.goto 16, 3) := by decide +kernel
theorem dX0_put_10 : decode cX0_put 10 = .ok (.iload_n 1, 1) := by decide +kernel
theorem dX0_put_11 : decode cX0_put 11 = .ok (.bipush (-3), 2) := by decide +kernel
theorem dX0_put_13 : decode cX0_put 13 = .ok (.if_icmp .ne 7, 3) := by decide +kernel
theorem dX0_put_16 : decode cX0_put 16 = .ok (.iconst 1, 1) := by decide +kernel
theorem dX0_put_17 : decode cX0_put 17 = .ok (.goto 6, 3) := by decide +kernel
theorem dX0_put_20 : decode cX0_put 20 = .ok (.iload_n 1, 1) := by decide +kernel
theorem dX0_put_21 : decode cX0_put 21 = .ok (.iconst 2, 1) := by decide +kernel
theorem dX0_put_22 : decode cX0_put 22 = .ok (.iadd, 1) := by decide +kernel
theorem dX0_put_23 : decode cX0_put 23 = .ok (.istore_n 2, 1) := by decide +kernel
theorem dX0_put_24 : decode cX0_put 24 = .ok (.iload_n 2, 1) := by decide +kernel
theorem dX0_put_25 : decode cX0_put 25 = .ok (.bipush 64, 2) := by decide +kernel
theorem dX0_put_27 : decode cX0_put 27 = .ok (.if_icmp .ge 18, 3) := by decide +kernel
theorem dX0_put_30 : decode cX0_put 30 = .ok (.aload_n 0, 1) := by decide +kernel
theorem dX0_put_31 : decode cX0_put 31 = .ok (.dup, 1) := by decide +kernel
theorem dX0_put_32 : decode cX0_put 32 = .ok (.getfield 9, 3) := by decide +kernel
theorem dX0_put_35 : decode cX0_put 35 = .ok (.lconst 1, 1) := by decide +kernel
theorem dX0_put_36 : decode cX0_put 36 = .ok (.iload_n 2, 1) := by decide +kernel
theorem dX0_put_37 : decode cX0_put 37 = .ok (.lshl, 1) := by decide +kernel
theorem dX0_put_38 : decode cX0_put 38 = .ok (.lor, 1) := by decide +kernel
theorem dX0_put_39 : decode cX0_put 39 = .ok (.putfield 9, 3) := by decide +kernel
theorem dX0_put_42 : decode cX0_put 42 = .ok (.goto 18, 3) := by decide +kernel
theorem dX0_put_45 : decode cX0_put 45 = .ok (.aload_n 0, 1) := by decide +kernel
theorem dX0_put_46 : decode cX0_put 46 = .ok (.dup, 1) := by decide +kernel
theorem dX0_put_47 : decode cX0_put 47 = .ok (.getfield 15, 3) := by decide +kernel
theorem dX0_put_50 : decode cX0_put 50 = .ok (.lconst 1, 1) := by decide +kernel
theorem dX0_put_51 : decode cX0_put 51 = .ok (.iload_n 2, 1) := by decide +kernel
theorem dX0_put_52 : decode cX0_put 52 = .ok (.bipush 64, 2) := by decide +kernel
theorem dX0_put_54 : decode cX0_put 54 = .ok (.isub, 1) := by decide +kernel
theorem dX0_put_55 : decode cX0_put 55 = .ok (.lshl, 1) := by decide +kernel
theorem dX0_put_56 : decode cX0_put 56 = .ok (.lor, 1) := by decide +kernel
theorem dX0_put_57 : decode cX0_put 57 = .ok (.putfield 15, 3) := by decide +kernel
theorem dX0_put_60 : decode cX0_put 60 = .ok (.return_, 1) := by decide +kernel
theorem dX0_count_0 : decode cX0_count 0 = .ok (.aload_n 0, 1) := by decide +kernel
theorem dX0_count_1 : decode cX0_count 1 = .ok (.getfield 9, 3) := by decide +kernel
theorem dX0_count_4 : decode cX0_count 4 = .ok (.invokestatic 18, 3) := by decide +kernel
theorem dX0_count_7 : decode cX0_count 7 = .ok (.aload_n 0, 1) := by decide +kernel
theorem dX0_count_8 : decode cX0_count 8 = .ok (.getfield 15, 3) := by decide +kernel
theorem dX0_count_11 : decode cX0_count 11 = .ok (.invokestatic 18, 3) := by decide +kernel
theorem dX0_count_14 : decode cX0_count 14 = .ok (.iadd, 1) := by decide +kernel
theorem dX0_count_15 : decode cX0_count 15 = .ok (.ireturn, 1) := by decide +kernel
theorem dX1_init_0 : decode cX1_init 0 = .ok (.aload_n 0, 1) := by decide +kernel
theorem dX1_init_1 : decode cX1_init 1 = .ok (.invokespecial 3, 3) := by decide +kernel
theorem dX1_init_4 : decode cX1_init 4 = .ok (.aload_n 0, 1) := by decide +kernel
theorem dX1_init_5 : decode cX1_init 5 = .ok (.aload_n 1, 1) := by decide +kernel
theorem dX1_init_6 : decode cX1_init 6 = .ok (.putfield 9, 3) := by decide +kernel
theorem dX1_init_9 : decode cX1_init 9 = .ok (.aload_n 0, 1) := by decide +kernel
theorem dX1_init_10 : decode cX1_init 10 = .ok (.aload_n 2, 1) := by decide +kernel
theorem dX1_init_11 : decode cX1_init 11 = .ok (.putfield 15, 3) := by decide +kernel
theorem dX1_init_14 : decode cX1_init 14 = .ok (.return_, 1) := by decide +kernel
theorem dX1_begin_0 : decode cX1_begin 0 = .ok (.aload_n 0, 1) := by decide +kernel
theorem dX1_begin_1 : decode cX1_begin 1 = .ok (.iconst 0, 1) := by decide +kernel
theorem dX1_begin_2 : decode cX1_begin 2 = .ok (.putfield 19, 3) := by decide +kernel
theorem dX1_begin_5 : decode cX1_begin 5 = .ok (.aload_n 0, 1) := by decide +kernel
theorem dX1_begin_6 : decode cX1_begin 6 = .ok (.bipush (-6), 2) := by decide +kernel
theorem dX1_begin_8 : decode cX1_begin 8 = .ok (.putfield 23, 3) := by decide +kernel
theorem dX1_begin_11 : decode cX1_begin 11 = .ok (.aload_n 0, 1) := by decide +kernel
theorem dX1_begin_12 : decode cX1_begin 12 = .ok (.bipush (-6), 2) := by decide +kernel
theorem dX1_begin_14 : decode cX1_begin 14 = .ok (.putfield 26, 3) := by decide +kernel
theorem dX1_begin_17 : decode cX1_begin 17 = .ok (.aload_n 0, 1) := by decide +kernel
theorem dX1_begin_18 : decode cX1_begin 18 = .ok (.aload_n 1, 1) := by decide +kernel
theorem dX1_begin_19 : decode cX1_begin 19 = .ok (.getfield 29, 3) := by decide +kernel
theorem dX1_begin_22 : decode cX1_begin 22 = .ok (.putfield 34, 3) := by decide +kernel
theorem dX1_begin_25 : decode cX1_begin 25 = .ok (.aload_n 0, 1) := by decide +kernel
theorem dX1_begin_26 : decode cX1_begin 26 = .ok (.bipush (-6), 2) := by decide +kernel
theorem dX1_begin_28 : decode cX1_begin 28 = .ok (.putfield 37, 3) := by decide +kernel
theorem dX1_begin_31 : decode cX1_begin 31 = .ok (.return_, 1) := by decide +kernel
theorem dX1_goThrough_0 : decode cX1_goThrough 0 = .ok (.aload_n 0, 1) := by decide +kernel
theorem dX1_goThrough_1 : decode cX1_goThrough 1 = .ok (.aload_n 1, 1) := by decide +kernel
theorem dX1_goThrough_2 : decode cX1_goThrough 2 = .ok (.invokevirtual 40, 3) := by decide +kernel
theorem dX1_goThrough_5 : decode cX1_goThrough 5 = .ok (.aload_n 1, 1) := by decide +kernel
theorem dX1_goThrough_6 : decode cX1_goThrough 6 = .ok (.getfield 29, 3) := by decide +kernel
theorem dX1_goThrough_9 : decode cX1_goThrough 9 = .ok (.istore_n 3, 1) := by decide +kernel
theorem dX1_goThrough_10 : decode cX1_goThrough 10 = .ok (.iload_n 3, 1) := by decide +kernel
theorem dX1_goThrough_11 : decode cX1_goThrough 11 = .ok (.bipush 100, 2) := by decide +kernel
theorem dX1_goThrough_13 : decode cX1_goThrough 13 = .ok (.if_icmp .ge 29, 3) := by decide +kernel
theorem dX1_goThrough_16 : decode cX1_goThrough 16 = .ok (.aload_n 0, 1) := by decide +kernel
theorem dX1_goThrough_17 : decode cX1_goThrough 17 = .ok (.aload_n 1, 1) := by decide +kernel
theorem dX1_goThrough_18 : decode cX1_goThrough 18 = .ok (.iload_n 3, 1) := by decide +kernel
theorem dX1_goThrough_19 : decode cX1_goThrough 19 = .ok (.bipush (-6), 2) := by decide +kernel
theorem dX1_goThrough_21 : decode cX1_goThrough 21 = .ok (.invokevirtual 44, 3) := by decide +kernel
theorem dX1_goThrough_24 : decode cX1_goThrough 24 = .ok (.aload_n 0, 1) := by decide +kernel
theorem dX1_goThrough_25 : decode cX1_goThrough 25 = .ok (.getfield 19, 3) := by decide +kernel
theorem dX1_goThrough_28 : decode cX1_goThrough 28 = .ok (.iconst 1, 1) := by decide +kernel
theorem dX1_goThrough_29 : decode cX1_goThrough 29 = .ok (.isub, 1) := by decide +kernel
theorem dX1_goThrough_30 : decode cX1_goThrough 30 = .ok (.iload_n 2, 1) := by decide +kernel
theorem dX1_goThrough_31 : decode cX1_goThrough 31 = .ok (.if_icmp .ne 5, 3) := by decide +kernel
theorem dX1_goThrough_34 : decode cX1_goThrough 34 = .ok (.iconst 1, 1) := by decide +kernel
theorem dX1_goThrough_35 : decode cX1_goThrough 35 = .ok (.ireturn, 1) := by decide +kernel
theorem dX1_goThrough_36 : decode cX1_goThrough 36 = .ok (.iinc 3 1, 3) := by decide +kernel
theorem dX1_goThrough_39 : decode cX1_goThrough 39 = .ok (.goto (-29), 3) := by decide +kernel
theorem dX1_goThrough_42 : decode cX1_goThrough 42 = .ok (.iconst 0, 1) := by decide +kernel
theorem dX1_goThrough_43 : decode cX1_goThrough 43 = .ok (.ireturn, 1) := by decide +kernel
theorem dX1_goTill_0 : decode cX1_goTill 0 = .ok (.aload_n 0, 1) := by decide +kernel
theorem dX1_goTill_1 : decode cX1_goTill 1 = .ok (.aload_n 1, 1) := by decide +kernel
theorem dX1_goTill_2 : decode cX1_goTill 2 = .ok (.invokevirtual 40, 3) := by decide +kernel
theorem dX1_goTill_5 : decode cX1_goTill 5 = .ok (.aload_n 1, 1) := by decide +kernel
theorem dX1_goTill_6 : decode cX1_goTill 6 = .ok (.getfield 29, 3) := by decide +kernel
theorem dX1_goTill_9 : decode cX1_goTill 9 = .ok (.istore_n 3, 1) := by decide +kernel
theorem dX1_goTill_10 : decode cX1_goTill 10 = .ok (.iload_n 3, 1) := by decide +kernel
theorem dX1_goTill_11 : decode cX1_goTill 11 = .ok (.iload_n 2, 1) := by decide +kernel
theorem dX1_goTill_12 : decode cX1_goTill 12 = .ok (.if_icmp .gt 23, 3) := by decide +kernel
theorem dX1_goTill_15 : decode cX1_goTill 15 = .ok (.iload_n 3, 1) := by decide +kernel
theorem dX1_goTill_16 : decode cX1_goTill 16 = .ok (.bipush 100, 2) := by decide +kernel
theorem dX1_goTill_18 : decode cX1_goTill 18 = .ok (.if_icmp .ge 17, 3) := by decide +kernel
theorem dX1_goTill_21 : decode cX1_goTill 21 = .ok (.aload_n 0, 1) := by decide +kernel
theorem dX1_goTill_22 : decode cX1_goTill 22 = .ok (.aload_n 1, 1) := by decide +kernel
theorem dX1_goTill_23 : decode cX1_goTill 23 = .ok (.iload_n 3, 1) := by decide +kernel
theorem dX1_goTill_24 : decode cX1_goTill 24 = .ok (.bipush (-6), 2) := by decide +kernel
theorem dX1_goTill_26 : decode cX1_goTill 26 = .ok (.invokevirtual 44, 3) := by decide +kernel
theorem dX1_goTill_29 : decode cX1_goTill 29 = .ok (.iinc 3 1, 3) := by decide +kernel
theorem dX1_goTill_32 : decode cX1_goTill 32 = .ok (.goto (-22), 3) := by decide +kernel
theorem dX1_goTill_35 : decode cX1_goTill 35 = .ok (.return_, 1) := by decide +kernel
theorem dX1_wholeFrom_0 : decode cX1_wholeFrom 0 = .ok (.aload_n 0, 1) := by decide +kernel
theorem dX1_wholeFrom_1 : decode cX1_wholeFrom 1 = .ok (.aload_n 1, 1) := by decide +kernel
theorem dX1_wholeFrom_2 : decode cX1_wholeFrom 2 = .ok (.invokevirtual 40, 3) := by decide +kernel
theorem dX1_wholeFrom_5 : decode cX1_wholeFrom 5 = .ok (.aload_n 1, 1) := by decide +kernel
theorem dX1_wholeFrom_6 : decode cX1_wholeFrom 6 = .ok (.getfield 29, 3) := by decide +kernel
theorem dX1_wholeFrom_9 : decode cX1_wholeFrom 9 = .ok (.istore_n 3, 1) := by decide +kernel
theorem dX1_wholeFrom_10 : decode cX1_wholeFrom 10 = .ok (.iload_n 3, 1) := by decide +kernel
theorem dX1_wholeFrom_11 : decode cX1_wholeFrom 11 = .ok (.bipush 100, 2) := by decide +kernel
theorem dX1_wholeFrom_13 : decode cX1_wholeFrom 13 = .ok (.if_icmp .ge 35, 3) := by decide +kernel
theorem dX1_wholeFrom_16 : decode cX1_wholeFrom 16 = .ok (.aload_n 0, 1) := by decide +kernel
theorem dX1_wholeFrom_17 : decode cX1_wholeFrom 17 = .ok (.aload_n 1, 1) := by decide +kernel
theorem dX1_wholeFrom_18 : decode cX1_wholeFrom 18 = .ok (.iload_n 3, 1) := by decide +kernel
theorem dX1_wholeFrom_19 : decode cX1_wholeFrom 19 = .ok (.iload_n 2, 1) := by decide +kernel
theorem dX1_wholeFrom_20 : decode cX1_wholeFrom 20 = .ok (.invokevirtual 44, 3) := by decide +kernel
theorem dX1_wholeFrom_23 : decode cX1_wholeFrom 23 = .ok (.aload_n 0, 1) := by decide +kernel
theorem dX1_wholeFrom_24 : decode cX1_wholeFrom 24 = .ok (.getfield 37, 3) := by decide +kernel
theorem dX1_wholeFrom_27 : decode cX1_wholeFrom 27 = .ok (.bipush (-6), 2) := by decide +kernel
theorem dX1_wholeFrom_29 : decode cX1_wholeFrom 29 = .ok (.if_icmp .eq 13, 3) := by decide +kernel
theorem dX1_wholeFrom_32 : decode cX1_wholeFrom 32 = .ok (.iload_n 3, 1) := by decide +kernel
theorem dX1_wholeFrom_33 : decode cX1_wholeFrom 33 = .ok (.aload_n 0, 1) := by decide +kernel
theorem dX1_wholeFrom_34 : decode cX1_wholeFrom 34 = .ok (.getfield 37, 3) := by decide +kernel
theorem dX1_wholeFrom_37 : decode cX1_wholeFrom 37 = .ok (.if_icmp .lt 5, 3) := by decide +kernel
theorem dX1_wholeFrom_40 : decode cX1_wholeFrom 40 = .ok (.iload_n 3, 1) := by decide +kernel
theorem dX1_wholeFrom_41 : decode cX1_wholeFrom 41 = .ok (.ireturn, 1) := by decide +kernel
theorem dX1_wholeFrom_42 : decode cX1_wholeFrom 42 = .ok (.iinc 3 1, 3) := by decide +kernel
theorem dX1_wholeFrom_45 : decode cX1_wholeFrom 45 = .ok (.goto (-35), 3) := by decide +kernel
theorem dX1_wholeFrom_48 : decode cX1_wholeFrom 48 = .ok (.bipush (-6), 2) := by decide +kernel
theorem dX1_wholeFrom_50 : decode cX1_wholeFrom 50 = .ok (.ireturn, 1) := by decide +kernel
theorem dX1_goOn_0 : decode cX1_goOn 0 = .ok (.iload_n 2, 1) := by decide +kernel
theorem dX1_goOn_1 : decode cX1_goOn 1 = .ok (.aload_n 1, 1) := by decide +kernel
theorem dX1_goOn_2 : decode cX1_goOn 2 = .ok (.getfield 29, 3) := by decide +kernel
theorem dX1_goOn_5 : decode cX1_goOn 5 = .ok (.if_icmp .ne 7, 3) := by decide +kernel
theorem dX1_goOn_8 : decode cX1_goOn 8 = .ok (.iconst 1, 1) := by decide +kernel
theorem dX1_goOn_9 : decode cX1_goOn 9 = .ok (.goto 4, 3) := by decide +kernel
theorem dX1_goOn_12 : decode cX1_goOn 12 = .ok (.iconst 0, 1) := by decide +kernel
theorem dX1_goOn_13 : decode cX1_goOn 13 = .ok (.istore 4, 2) := by decide +kernel
theorem dX1_goOn_15 : decode cX1_goOn 15 = .ok (.iload 4, 2) := by decide +kernel
theorem dX1_goOn_17 : decode cX1_goOn 17 = .ok (.ifCond .ne 15, 3) := by decide +kernel
theorem dX1_goOn_20 : decode cX1_goOn 20 = .ok (.aload_n 0, 1) := by decide +kernel
theorem dX1_goOn_21 : decode cX1_goOn 21 = .ok (.getfield 9, 3) := by decide +kernel
theorem dX1_goOn_24 : decode cX1_goOn 24 = .ok (.iload_n 2, 1) := by decide +kernel
theorem dX1_goOn_25 : decode cX1_goOn 25 = .ok (.invokevirtual 48, 3) := by decide +kernel
theorem dX1_goOn_28 : decode cX1_goOn 28 = .ok (.ifCond .ne 4, 3) := by decide +kernel
theorem dX1_goOn_31 : decode cX1_goOn 31 = .ok (.return_, 1) := by decide +kernel
theorem dX1_goOn_32 : decode cX1_goOn 32 = .ok (.aload_n 0, 1) := by decide +kernel
theorem dX1_goOn_33 : decode cX1_goOn 33 = .ok (.getfield 15, 3) := by decide +kernel
theorem dX1_goOn_36 : decode cX1_goOn 36 = .ok (.aload_n 1, 1) := by decide +kernel
theorem dX1_goOn_37 : decode cX1_goOn 37 = .ok (.iload_n 2, 1) := by decide +kernel
theorem dX1_goOn_38 : decode cX1_goOn 38 = .ok (.invokevirtual 54, 3) := by decide +kernel
theorem dX1_goOn_41 : decode cX1_goOn 41 = .ok (.istore 5, 2) := by decide +kernel
theorem dX1_goOn_43 : decode cX1_goOn 43 = .ok (.iload 4, 2) := by decide +kernel
theorem dX1_goOn_45 : decode cX1_goOn 45 = .ok (.ifCond .ne 13, 3) := by decide +kernel
theorem dX1_goOn_48 : decode cX1_goOn 48 = .ok (.iload 5, 2) := by decide +kernel
theorem dX1_goOn_50 : decode cX1_goOn 50 = .ok (.aload_n 0, 1) := by decide +kernel
theorem dX1_goOn_51 : decode cX1_goOn 51 = .ok (.getfield 26, 3) := by decide +kernel
theorem dX1_goOn_54 : decode cX1_goOn 54 = .ok (.if_icmp .ne 4, 3) := by decide +kernel
theorem dX1_goOn_57 : decode cX1_goOn 57 = .ok (.return_, 1) := by decide +kernel
theorem dX1_goOn_58 : decode cX1_goOn 58 = .ok (.aload_n 0, 1) := by decide +kernel
theorem dX1_goOn_59 : decode cX1_goOn 59 = .ok (.dup, 1) := by decide +kernel
theorem dX1_goOn_60 : decode cX1_goOn 60 = .ok (.getfield 19, 3) := by decide +kernel
theorem dX1_goOn_63 : decode cX1_goOn 63 = .ok (.iconst 1, 1) := by decide +kernel
theorem dX1_goOn_64 : decode cX1_goOn 64 = .ok (.iadd, 1) := by decide +kernel
theorem dX1_goOn_65 : decode cX1_goOn 65 = .ok (.putfield 19, 3) := by decide +kernel
theorem dX1_goOn_68 : decode cX1_goOn 68 = .ok (.aload_n 0, 1) := by decide +kernel
theorem dX1_goOn_69 : decode cX1_goOn 69 = .ok (.iload_n 2, 1) := by decide +kernel
theorem dX1_goOn_70 : decode cX1_goOn 70 = .ok (.putfield 23, 3) := by decide +kernel
theorem dX1_goOn_73 : decode cX1_goOn 73 = .ok (.aload_n 0, 1) := by decide +kernel
theorem dX1_goOn_74 : decode cX1_goOn 74 = .ok (.iload 5, 2) := by decide +kernel
theorem dX1_goOn_76 : decode cX1_goOn 76 = .ok (.putfield 26, 3) := by decide +kernel
theorem dX1_goOn_79 : decode cX1_goOn 79 = .ok (.aload_n 0, 1) := by decide +kernel
theorem dX1_goOn_80 : decode cX1_goOn 80 = .ok (.getfield 9, 3) := by decide +kernel
theorem dX1_goOn_83 : decode cX1_goOn 83 = .ok (.iload 5, 2) := by decide +kernel
theorem dX1_goOn_85 : decode cX1_goOn 85 = .ok (.invokevirtual 59, 3) := by decide +kernel
theorem dX1_goOn_88 : decode cX1_goOn 88 = .ok (.ifCond .eq 21, 3) := by decide +kernel
theorem dX1_goOn_91 : decode cX1_goOn 91 = .ok (.aload_n 0, 1) := by decide +kernel
theorem dX1_goOn_92 : decode cX1_goOn 92 = .ok (.getfield 9, 3) := by decide +kernel
theorem dX1_goOn_95 : decode cX1_goOn 95 = .ok (.getfield 62, 3) := by decide +kernel
theorem dX1_goOn_98 : decode cX1_goOn 98 = .ok (.iload 5, 2) := by decide +kernel
theorem dX1_goOn_100 : decode cX1_goOn 100 = .ok (.aaload, 1) := by decide +kernel
theorem dX1_goOn_101 : decode cX1_goOn 101 = .ok (.getfield 66, 3) := by decide +kernel
theorem dX1_goOn_104 : decode cX1_goOn 104 = .ok (.bipush (-6), 2) := by decide +kernel
theorem dX1_goOn_106 : decode cX1_goOn 106 = .ok (.if_icmp .ne 10, 3) := by decide +kernel
theorem dX1_goOn_109 : decode cX1_goOn 109 = .ok (.aload_n 0, 1) := by decide +kernel
theorem dX1_goOn_110 : decode cX1_goOn 110 = .ok (.bipush (-6), 2) := by decide +kernel
theorem dX1_goOn_112 : decode cX1_goOn 112 = .ok (.putfield 37, 3) := by decide +kernel
theorem dX1_goOn_115 : decode cX1_goOn 115 = .ok (.return_, 1) := by decide +kernel
theorem dX1_goOn_116 : decode cX1_goOn 116 = .ok (.aload_n 0, 1) := by decide +kernel
theorem dX1_goOn_117 : decode cX1_goOn 117 = .ok (.getfield 9, 3) := by decide +kernel
theorem dX1_goOn_120 : decode cX1_goOn 120 = .ok (.getfield 62, 3) := by decide +kernel
theorem dX1_goOn_123 : decode cX1_goOn 123 = .ok (.iload 5, 2) := by decide +kernel
theorem dX1_goOn_125 : decode cX1_goOn 125 = .ok (.aaload, 1) := by decide +kernel
theorem dX1_goOn_126 : decode cX1_goOn 126 = .ok (.astore 6, 2) := by decide +kernel
theorem dX1_goOn_128 : decode cX1_goOn 128 = .ok (.aload_n 0, 1) := by decide +kernel
theorem dX1_goOn_129 : decode cX1_goOn 129 = .ok (.aload 6, 2) := by decide +kernel
theorem dX1_goOn_131 : decode cX1_goOn 131 = .ok (.getfield 66, 3) := by decide +kernel
theorem dX1_goOn_134 : decode cX1_goOn 134 = .ok (.iload_n 3, 1) := by decide +kernel
theorem dX1_goOn_135 : decode cX1_goOn 135 = .ok (.bipush (-6), 2) := by decide +kernel
theorem dX1_goOn_137 : decode cX1_goOn 137 = .ok (.if_icmp .ne 11, 3) := by decide +kernel
theorem dX1_goOn_140 : decode cX1_goOn 140 = .ok (.aload 6, 2) := by decide +kernel
theorem dX1_goOn_142 : decode cX1_goOn 142 = .ok (.getfield 71, 3) := by decide +kernel
theorem dX1_goOn_145 : decode cX1_goOn 145 = .ok (.goto 4, 3) := by decide +kernel
theorem dX1_goOn_148 : decode cX1_goOn 148 = .ok (.iload_n 3, 1) := by decide +kernel
theorem dX1_goOn_149 : decode cX1_goOn 149 = .ok (.iload_n 2, 1) := by decide +kernel
theorem dX1_goOn_150 : decode cX1_goOn 150 = .ok (.invokevirtual 74, 3) := by decide +kernel
theorem dX1_goOn_153 : decode cX1_goOn 153 = .ok (.return_, 1) := by decide +kernel
theorem dX1_carryTerm_0 : decode cX1_carryTerm 0 = .ok (.aload_n 0, 1) := by decide +kernel
theorem dX1_carryTerm_1 : decode cX1_carryTerm 1 = .ok (.getfield 37, 3) := by decide +kernel
theorem dX1_carryTerm_4 : decode cX1_carryTerm 4 = .ok (.bipush (-6), 2) := by decide +kernel
theorem dX1_carryTerm_6 : decode cX1_carryTerm 6 = .ok (.if_icmp .eq 9, 3) := by decide +kernel
theorem dX1_carryTerm_9 : decode cX1_carryTerm 9 = .ok (.iload_n 2, 1) := by decide +kernel
theorem dX1_carryTerm_10 : decode cX1_carryTerm 10 = .ok (.bipush 99, 2) := by decide +kernel
theorem dX1_carryTerm_12 : decode cX1_carryTerm 12 = .ok (.if_icmp .ne 16, 3) := by decide +kernel
theorem dX1_carryTerm_15 : decode cX1_carryTerm 15 = .ok (.aload_n 0, 1) := by decide +kernel
theorem dX1_carryTerm_16 : decode cX1_carryTerm 16 = .ok (.aload_n 0, 1) := by decide +kernel
theorem dX1_carryTerm_17 : decode cX1_carryTerm 17 = .ok (.getfield 34, 3) := by decide +kernel
theorem dX1_carryTerm_20 : decode cX1_carryTerm 20 = .ok (.iload_n 1, 1) := by decide +kernel
theorem dX1_carryTerm_21 : decode cX1_carryTerm 21 = .ok (.iadd, 1) := by decide +kernel
theorem dX1_carryTerm_22 : decode cX1_carryTerm 22 = .ok (.putfield 37, 3) := by decide +kernel
theorem dX1_carryTerm_25 : decode cX1_carryTerm 25 = .ok (.goto 38, 3) := by decide +kernel
theorem dX1_carryTerm_28 : decode cX1_carryTerm 28 = .ok (.iload_n 2, 1) := by decide +kernel
theorem dX1_carryTerm_29 : decode cX1_carryTerm 29 = .ok (.bipush 98, 2) := by decide +kernel
theorem dX1_carryTerm_31 : decode cX1_carryTerm 31 = .ok (.if_icmp .ne 18, 3) := by decide +kernel
theorem dX1_carryTerm_34 : decode cX1_carryTerm 34 = .ok (.aload_n 0, 1) := by decide +kernel
theorem dX1_carryTerm_35 : decode cX1_carryTerm 35 = .ok (.iload_n 3, 1) := by decide +kernel
theorem dX1_carryTerm_36 : decode cX1_carryTerm 36 = .ok (.putfield 34, 3) := by decide +kernel
theorem dX1_carryTerm_39 : decode cX1_carryTerm 39 = .ok (.aload_n 0, 1) := by decide +kernel
theorem dX1_carryTerm_40 : decode cX1_carryTerm 40 = .ok (.iload_n 3, 1) := by decide +kernel
theorem dX1_carryTerm_41 : decode cX1_carryTerm 41 = .ok (.iload_n 1, 1) := by decide +kernel
theorem dX1_carryTerm_42 : decode cX1_carryTerm 42 = .ok (.iadd, 1) := by decide +kernel
theorem dX1_carryTerm_43 : decode cX1_carryTerm 43 = .ok (.putfield 37, 3) := by decide +kernel
theorem dX1_carryTerm_46 : decode cX1_carryTerm 46 = .ok (.goto 17, 3) := by decide +kernel
theorem dX1_carryTerm_49 : decode cX1_carryTerm 49 = .ok (.aload_n 0, 1) := by decide +kernel
theorem dX1_carryTerm_50 : decode cX1_carryTerm 50 = .ok (.aload_n 0, 1) := by decide +kernel
theorem dX1_carryTerm_51 : decode cX1_carryTerm 51 = .ok (.getfield 37, 3) := by decide +kernel
theorem dX1_carryTerm_54 : decode cX1_carryTerm 54 = .ok (.iload_n 3, 1) := by decide +kernel
theorem dX1_carryTerm_55 : decode cX1_carryTerm 55 = .ok (.iload_n 1, 1) := by decide +kernel
theorem dX1_carryTerm_56 : decode cX1_carryTerm 56 = .ok (.iadd, 1) := by decide +kernel
theorem dX1_carryTerm_57 : decode cX1_carryTerm 57 = .ok (.invokestatic 78, 3) := by decide +kernel
theorem dX1_carryTerm_60 : decode cX1_carryTerm 60 = .ok (.putfield 37, 3) := by decide +kernel
theorem dX1_carryTerm_63 : decode cX1_carryTerm 63 = .ok (.return_, 1) := by decide +kernel
theorem dX2_init_0 : decode cX2_init 0 = .ok (.aload_n 0, 1) := by decide +kernel
theorem dX2_init_1 : decode cX2_init 1 = .ok (.invokespecial 3, 3) := by decide +kernel
theorem dX2_init_4 : decode cX2_init 4 = .ok (.aload_n 0, 1) := by decide +kernel
theorem dX2_init_5 : decode cX2_init 5 = .ok (.aload_n 1, 1) := by decide +kernel
theorem dX2_init_6 : decode cX2_init 6 = .ok (.putfield 9, 3) := by decide +kernel
theorem dX2_init_9 : decode cX2_init 9 = .ok (.aload_n 0, 1) := by decide +kernel
theorem dX2_init_10 : decode cX2_init 10 = .ok (.bipush 8, 2) := by decide +kernel
theorem dX2_init_12 : decode cX2_init 12 = .ok (.newarray .int, 2) := by decide +kernel
theorem dX2_init_14 : decode cX2_init 14 = .ok (.putfield 15, 3) := by decide +kernel
theorem dX2_init_17 : decode cX2_init 17 = .ok (.return_, 1) := by decide +kernel
theorem dX2_obstacle_0 : decode cX2_obstacle 0 = .ok (.aload_n 0, 1) := by decide +kernel
theorem dX2_obstacle_1 : decode cX2_obstacle 1 = .ok (.getfield 9, 3) := by decide +kernel
theorem dX2_obstacle_4 : decode cX2_obstacle 4 = .ok (.iload_n 1, 1) := by decide +kernel
theorem dX2_obstacle_5 : decode cX2_obstacle 5 = .ok (.invokevirtual 19, 3) := by decide +kernel
theorem dX2_obstacle_8 : decode cX2_obstacle 8 = .ok (.ifCond .ne 5, 3) := by decide +kernel
theorem dX2_obstacle_11 : decode cX2_obstacle 11 = .ok (.iconst 1, 1) := by decide +kernel
theorem dX2_obstacle_12 : decode cX2_obstacle 12 = .ok (.ireturn, 1) := by decide +kernel
theorem dX2_obstacle_13 : decode cX2_obstacle 13 = .ok (.aload_n 0, 1) := by decide +kernel
theorem dX2_obstacle_14 : decode cX2_obstacle 14 = .ok (.getfield 9, 3) := by decide +kernel
theorem dX2_obstacle_17 : decode cX2_obstacle 17 = .ok (.getfield 25, 3) := by decide +kernel
theorem dX2_obstacle_20 : decode cX2_obstacle 20 = .ok (.iload_n 1, 1) := by decide +kernel
theorem dX2_obstacle_21 : decode cX2_obstacle 21 = .ok (.aaload, 1) := by decide +kernel
theorem dX2_obstacle_22 : decode cX2_obstacle 22 = .ok (.astore 5, 2) := by decide +kernel
theorem dX2_obstacle_24 : decode cX2_obstacle 24 = .ok (.aload 5, 2) := by decide +kernel
theorem dX2_obstacle_26 : decode cX2_obstacle 26 = .ok (.iload_n 3, 1) := by decide +kernel
theorem dX2_obstacle_27 : decode cX2_obstacle 27 = .ok (.invokevirtual 29, 3) := by decide +kernel
theorem dX2_obstacle_30 : decode cX2_obstacle 30 = .ok (.ifCond .ne 5, 3) := by decide +kernel
theorem dX2_obstacle_33 : decode cX2_obstacle 33 = .ok (.iconst 1, 1) := by decide +kernel
theorem dX2_obstacle_34 : decode cX2_obstacle 34 = .ok (.ireturn, 1) := by decide +kernel
theorem dX2_obstacle_35 : decode cX2_obstacle 35 = .ok (.iload 4, 2) := by decide +kernel
theorem dX2_obstacle_37 : decode cX2_obstacle 37 = .ok (.iload_n 1, 1) := by decide +kernel
theorem dX2_obstacle_38 : decode cX2_obstacle 38 = .ok (.ishr, 1) := by decide +kernel
theorem dX2_obstacle_39 : decode cX2_obstacle 39 = .ok (.iconst 1, 1) := by decide +kernel
theorem dX2_obstacle_40 : decode cX2_obstacle 40 = .ok (.iand, 1) := by decide +kernel
theorem dX2_obstacle_41 : decode cX2_obstacle 41 = .ok (.ifCond .eq 5, 3) := by decide +kernel
theorem dX2_obstacle_44 : decode cX2_obstacle 44 = .ok (.iconst 2, 1) := by decide +kernel
theorem dX2_obstacle_45 : decode cX2_obstacle 45 = .ok (.ireturn, 1) := by decide +kernel
theorem dX2_obstacle_46 : decode cX2_obstacle 46 = .ok (.iload_n 3, 1) := by decide +kernel
theorem dX2_obstacle_47 : decode cX2_obstacle 47 = .ok (.aload_n 2, 1) := by decide +kernel
theorem dX2_obstacle_48 : decode cX2_obstacle 48 = .ok (.getfield 34, 3) := by decide +kernel
theorem dX2_obstacle_51 : decode cX2_obstacle 51 = .ok (.if_icmp .ge 5, 3) := by decide +kernel
theorem dX2_obstacle_54 : decode cX2_obstacle 54 = .ok (.iconst 3, 1) := by decide +kernel
theorem dX2_obstacle_55 : decode cX2_obstacle 55 = .ok (.ireturn, 1) := by decide +kernel
theorem dX2_obstacle_56 : decode cX2_obstacle 56 = .ok (.aload 5, 2) := by decide +kernel
theorem dX2_obstacle_58 : decode cX2_obstacle 58 = .ok (.aload_n 2, 1) := by decide +kernel
theorem dX2_obstacle_59 : decode cX2_obstacle 59 = .ok (.getfield 40, 3) := by decide +kernel
theorem dX2_obstacle_62 : decode cX2_obstacle 62 = .ok (.invokevirtual 43, 3) := by decide +kernel
theorem dX2_obstacle_65 : decode cX2_obstacle 65 = .ok (.bipush (-6), 2) := by decide +kernel
theorem dX2_obstacle_67 : decode cX2_obstacle 67 = .ok (.if_icmp .ne 5, 3) := by decide +kernel
theorem dX2_obstacle_70 : decode cX2_obstacle 70 = .ok (.iconst 4, 1) := by decide +kernel
theorem dX2_obstacle_71 : decode cX2_obstacle 71 = .ok (.ireturn, 1) := by decide +kernel
theorem dX2_obstacle_72 : decode cX2_obstacle 72 = .ok (.aload 5, 2) := by decide +kernel
theorem dX2_obstacle_74 : decode cX2_obstacle 74 = .ok (.aload_n 2, 1) := by decide +kernel
theorem dX2_obstacle_75 : decode cX2_obstacle 75 = .ok (.invokevirtual 47, 3) := by decide +kernel
theorem dX2_obstacle_78 : decode cX2_obstacle 78 = .ok (.ifCond .eq 7, 3) := by decide +kernel
theorem dX2_obstacle_81 : decode cX2_obstacle 81 = .ok (.iconst 0, 1) := by decide +kernel
theorem dX2_obstacle_82 : decode cX2_obstacle 82 = .ok (.goto 4, 3) := by decide +kernel
theorem dX2_obstacle_85 : decode cX2_obstacle 85 = .ok (.iconst 5, 1) := by decide +kernel
theorem dX2_obstacle_86 : decode cX2_obstacle 86 = .ok (.ireturn, 1) := by decide +kernel
theorem dX2_governor_0 : decode cX2_governor 0 = .ok (.aload_n 0, 1) := by decide +kernel
theorem dX2_governor_1 : decode cX2_governor 1 = .ok (.iconst 0, 1) := by decide +kernel
theorem dX2_governor_2 : decode cX2_governor 2 = .ok (.putfield 51, 3) := by decide +kernel
theorem dX2_governor_5 : decode cX2_governor 5 = .ok (.iload_n 2, 1) := by decide +kernel
theorem dX2_governor_6 : decode cX2_governor 6 = .ok (.aload_n 1, 1) := by decide +kernel
theorem dX2_governor_7 : decode cX2_governor 7 = .ok (.getfield 34, 3) := by decide +kernel
theorem dX2_governor_10 : decode cX2_governor 10 = .ok (.if_icmp .ge 6, 3) := by decide +kernel
theorem dX2_governor_13 : decode cX2_governor 13 = .ok (.bipush (-6), 2) := by decide +kernel
theorem dX2_governor_15 : decode cX2_governor 15 = .ok (.ireturn, 1) := by decide +kernel
theorem dX2_governor_16 : decode cX2_governor 16 = .ok (.aload_n 0, 1) := by decide +kernel
theorem dX2_governor_17 : decode cX2_governor 17 = .ok (.getfield 9, 3) := by decide +kernel
theorem dX2_governor_20 : decode cX2_governor 20 = .ok (.iload_n 2, 1) := by decide +kernel
theorem dX2_governor_21 : decode cX2_governor 21 = .ok (.invokevirtual 55, 3) := by decide +kernel
theorem dX2_governor_24 : decode cX2_governor 24 = .ok (.istore_n 3, 1) := by decide +kernel
theorem dX2_governor_25 : decode cX2_governor 25 = .ok (.aload_n 0, 1) := by decide +kernel
theorem dX2_governor_26 : decode cX2_governor 26 = .ok (.aload_n 1, 1) := by decide +kernel
theorem dX2_governor_27 : decode cX2_governor 27 = .ok (.iload_n 2, 1) := by decide +kernel
theorem dX2_governor_28 : decode cX2_governor 28 = .ok (.iload_n 3, 1) := by decide +kernel
theorem dX2_governor_29 : decode cX2_governor 29 = .ok (.iconst 0, 1) := by decide +kernel
theorem dX2_governor_30 : decode cX2_governor 30 = .ok (.invokevirtual 58, 3) := by decide +kernel
theorem dX2_governor_33 : decode cX2_governor 33 = .ok (.istore 4, 2) := by decide +kernel
theorem dX2_governor_35 : decode cX2_governor 35 = .ok (.iload 4, 2) := by decide +kernel
theorem dX2_governor_37 : decode cX2_governor 37 = .ok (.bipush (-6), 2) := by decide +kernel
theorem dX2_governor_39 : decode cX2_governor 39 = .ok (.if_icmp .ne 27, 3) := by decide +kernel
theorem dX2_governor_42 : decode cX2_governor 42 = .ok (.aload_n 0, 1) := by decide +kernel
theorem dX2_governor_43 : decode cX2_governor 43 = .ok (.getfield 9, 3) := by decide +kernel
theorem dX2_governor_46 : decode cX2_governor 46 = .ok (.getfield 62, 3) := by decide +kernel
theorem dX2_governor_49 : decode cX2_governor 49 = .ok (.iconst 1, 1) := by decide +kernel
theorem dX2_governor_50 : decode cX2_governor 50 = .ok (.if_icmp .ne 16, 3) := by decide +kernel
theorem dX2_governor_53 : decode cX2_governor 53 = .ok (.aload_n 0, 1) := by decide +kernel
theorem dX2_governor_54 : decode cX2_governor 54 = .ok (.aload_n 1, 1) := by decide +kernel
theorem dX2_governor_55 : decode cX2_governor 55 = .ok (.aload_n 1, 1) := by decide +kernel
theorem dX2_governor_56 : decode cX2_governor 56 = .ok (.getfield 34, 3) := by decide +kernel
theorem dX2_governor_59 : decode cX2_governor 59 = .ok (.iload_n 3, 1) := by decide +kernel
theorem dX2_governor_60 : decode cX2_governor 60 = .ok (.iconst 5, 1) := by decide +kernel
theorem dX2_governor_61 : decode cX2_governor 61 = .ok (.invokevirtual 58, 3) := by decide +kernel
theorem dX2_governor_64 : decode cX2_governor 64 = .ok (.istore 4, 2) := by decide +kernel
theorem dX2_governor_66 : decode cX2_governor 66 = .ok (.iload 4, 2) := by decide +kernel
theorem dX2_governor_68 : decode cX2_governor 68 = .ok (.ireturn, 1) := by decide +kernel
theorem dX2_choose_0 : decode cX2_choose 0 = .ok (.bipush (-6), 2) := by decide +kernel
theorem dX2_choose_2 : decode cX2_choose 2 = .ok (.istore 5, 2) := by decide +kernel
theorem dX2_choose_4 : decode cX2_choose 4 = .ok (.iconst 0, 1) := by decide +kernel
theorem dX2_choose_5 : decode cX2_choose 5 = .ok (.istore 6, 2) := by decide +kernel
theorem dX2_choose_7 : decode cX2_choose 7 = .ok (.iload 6, 2) := by decide +kernel
theorem dX2_choose_9 : decode cX2_choose 9 = .ok (.aload_n 0, 1) := by decide +kernel
theorem dX2_choose_10 : decode cX2_choose 10 = .ok (.getfield 9, 3) := by decide +kernel
theorem dX2_choose_13 : decode cX2_choose 13 = .ok (.getfield 65, 3) := by decide +kernel
theorem dX2_choose_16 : decode cX2_choose 16 = .ok (.if_icmp .ge 104, 3) := by decide +kernel
theorem dX2_choose_19 : decode cX2_choose 19 = .ok (.aload_n 0, 1) := by decide +kernel
theorem dX2_choose_20 : decode cX2_choose 20 = .ok (.iload 6, 2) := by decide +kernel
theorem dX2_choose_22 : decode cX2_choose 22 = .ok (.aload_n 1, 1) := by decide +kernel
theorem dX2_choose_23 : decode cX2_choose 23 = .ok (.iload_n 2, 1) := by decide +kernel
theorem dX2_choose_24 : decode cX2_choose 24 = .ok (.iload_n 3, 1) := by decide +kernel
theorem dX2_choose_25 : decode cX2_choose 25 = .ok (.invokevirtual 68, 3) := by decide +kernel
theorem dX2_choose_28 : decode cX2_choose 28 = .ok (.istore 7, 2) := by decide +kernel
theorem dX2_choose_30 : decode cX2_choose 30 = .ok (.iload 7, 2) := by decide +kernel
theorem dX2_choose_32 : decode cX2_choose 32 = .ok (.ifCond .eq 13, 3) := by decide +kernel
theorem dX2_choose_35 : decode cX2_choose 35 = .ok (.iload 7, 2) := by decide +kernel
theorem dX2_choose_37 : decode cX2_choose 37 = .ok (.iload 4, 2) := by decide +kernel
theorem dX2_choose_39 : decode cX2_choose 39 = .ok (.if_icmp .eq 6, 3) := by decide +kernel
theorem dX2_choose_42 : decode cX2_choose 42 = .ok (.goto 72, 3) := by decide +kernel
theorem dX2_choose_45 : decode cX2_choose 45 = .ok (.iload 5, 2) := by decide +kernel
theorem dX2_choose_47 : decode cX2_choose 47 = .ok (.bipush (-6), 2) := by decide +kernel
theorem dX2_choose_49 : decode cX2_choose 49 = .ok (.if_icmp .ne 7, 3) := by decide +kernel
theorem dX2_choose_52 : decode cX2_choose 52 = .ok (.iconst 1, 1) := by decide +kernel
theorem dX2_choose_53 : decode cX2_choose 53 = .ok (.goto 31, 3) := by decide +kernel
theorem dX2_choose_56 : decode cX2_choose 56 = .ok (.aload_n 0, 1) := by decide +kernel
theorem dX2_choose_57 : decode cX2_choose 57 = .ok (.aload_n 0, 1) := by decide +kernel
theorem dX2_choose_58 : decode cX2_choose 58 = .ok (.getfield 9, 3) := by decide +kernel
theorem dX2_choose_61 : decode cX2_choose 61 = .ok (.getfield 25, 3) := by decide +kernel
theorem dX2_choose_64 : decode cX2_choose 64 = .ok (.iload 6, 2) := by decide +kernel
theorem dX2_choose_66 : decode cX2_choose 66 = .ok (.aaload, 1) := by decide +kernel
theorem dX2_choose_67 : decode cX2_choose 67 = .ok (.aload_n 0, 1) := by decide +kernel
theorem dX2_choose_68 : decode cX2_choose 68 = .ok (.getfield 9, 3) := by decide +kernel
theorem dX2_choose_71 : decode cX2_choose 71 = .ok (.getfield 25, 3) := by decide +kernel
theorem dX2_choose_74 : decode cX2_choose 74 = .ok (.iload 5, 2) := by decide +kernel
theorem dX2_choose_76 : decode cX2_choose 76 = .ok (.aaload, 1) := by decide +kernel
theorem dX2_choose_77 : decode cX2_choose 77 = .ok (.aload_n 1, 1) := by decide +kernel
theorem dX2_choose_78 : decode cX2_choose 78 = .ok (.getfield 40, 3) := by decide +kernel
theorem dX2_choose_81 : decode cX2_choose 81 = .ok (.invokevirtual 72, 3) := by decide +kernel
theorem dX2_choose_84 : decode cX2_choose 84 = .ok (.istore 8, 2) := by decide +kernel
theorem dX2_choose_86 : decode cX2_choose 86 = .ok (.iload 8, 2) := by decide +kernel
theorem dX2_choose_88 : decode cX2_choose 88 = .ok (.ifCond .le 7, 3) := by decide +kernel
theorem dX2_choose_91 : decode cX2_choose 91 = .ok (.iload 6, 2) := by decide +kernel
theorem dX2_choose_93 : decode cX2_choose 93 = .ok (.istore 5, 2) := by decide +kernel
theorem dX2_choose_95 : decode cX2_choose 95 = .ok (.iload 8, 2) := by decide +kernel
theorem dX2_choose_97 : decode cX2_choose 97 = .ok (.ifCond .lt 17, 3) := by decide +kernel
theorem dX2_choose_100 : decode cX2_choose 100 = .ok (.aload_n 0, 1) := by decide +kernel
theorem dX2_choose_101 : decode cX2_choose 101 = .ok (.iload 8, 2) := by decide +kernel
theorem dX2_choose_103 : decode cX2_choose 103 = .ok (.ifCond .ne 7, 3) := by decide +kernel
theorem dX2_choose_106 : decode cX2_choose 106 = .ok (.iconst 1, 1) := by decide +kernel
theorem dX2_choose_107 : decode cX2_choose 107 = .ok (.goto 4, 3) := by decide +kernel
theorem dX2_choose_110 : decode cX2_choose 110 = .ok (.iconst 0, 1) := by decide +kernel
theorem dX2_choose_111 : decode cX2_choose 111 = .ok (.putfield 51, 3) := by decide +kernel
theorem dX2_choose_114 : decode cX2_choose 114 = .ok (.iinc 6 1, 3) := by decide +kernel
theorem dX2_choose_117 : decode cX2_choose 117 = .ok (.goto (-110), 3) := by decide +kernel
theorem dX2_choose_120 : decode cX2_choose 120 = .ok (.iload 5, 2) := by decide +kernel
theorem dX2_choose_122 : decode cX2_choose 122 = .ok (.ireturn, 1) := by decide +kernel
theorem dX2_compare_0 : decode cX2_compare 0 = .ok (.aload_n 1, 1) := by decide +kernel
theorem dX2_compare_1 : decode cX2_compare 1 = .ok (.getfield 76, 3) := by decide +kernel
theorem dX2_compare_4 : decode cX2_compare 4 = .ok (.aload_n 2, 1) := by decide +kernel
theorem dX2_compare_5 : decode cX2_compare 5 = .ok (.getfield 76, 3) := by decide +kernel
theorem dX2_compare_8 : decode cX2_compare 8 = .ok (.isub, 1) := by decide +kernel
theorem dX2_compare_9 : decode cX2_compare 9 = .ok (.istore 4, 2) := by decide +kernel
theorem dX2_compare_11 : decode cX2_compare 11 = .ok (.aload_n 1, 1) := by decide +kernel
theorem dX2_compare_12 : decode cX2_compare 12 = .ok (.iload_n 3, 1) := by decide +kernel
theorem dX2_compare_13 : decode cX2_compare 13 = .ok (.invokevirtual 79, 3) := by decide +kernel
theorem dX2_compare_16 : decode cX2_compare 16 = .ok (.aload_n 2, 1) := by decide +kernel
theorem dX2_compare_17 : decode cX2_compare 17 = .ok (.iload_n 3, 1) := by decide +kernel
theorem dX2_compare_18 : decode cX2_compare 18 = .ok (.invokevirtual 79, 3) := by decide +kernel
theorem dX2_compare_21 : decode cX2_compare 21 = .ok (.isub, 1) := by decide +kernel
theorem dX2_compare_22 : decode cX2_compare 22 = .ok (.istore 5, 2) := by decide +kernel
theorem dX2_compare_24 : decode cX2_compare 24 = .ok (.aload_n 0, 1) := by decide +kernel
theorem dX2_compare_25 : decode cX2_compare 25 = .ok (.getfield 9, 3) := by decide +kernel
theorem dX2_compare_28 : decode cX2_compare 28 = .ok (.getfield 82, 3) := by decide +kernel
theorem dX2_compare_31 : decode cX2_compare 31 = .ok (.ifCond .ne 16, 3) := by decide +kernel
theorem dX2_compare_34 : decode cX2_compare 34 = .ok (.iload 4, 2) := by decide +kernel
theorem dX2_compare_36 : decode cX2_compare 36 = .ok (.ifCond .eq 8, 3) := by decide +kernel
theorem dX2_compare_39 : decode cX2_compare 39 = .ok (.iload 4, 2) := by decide +kernel
theorem dX2_compare_41 : decode cX2_compare 41 = .ok (.goto 5, 3) := by decide +kernel
theorem dX2_compare_44 : decode cX2_compare 44 = .ok (.iload 5, 2) := by decide +kernel
theorem dX2_compare_46 : decode cX2_compare 46 = .ok (.ireturn, 1) := by decide +kernel
theorem dX2_compare_47 : decode cX2_compare 47 = .ok (.iload 5, 2) := by decide +kernel
theorem dX2_compare_49 : decode cX2_compare 49 = .ok (.ifCond .eq 8, 3) := by decide +kernel
theorem dX2_compare_52 : decode cX2_compare 52 = .ok (.iload 5, 2) := by decide +kernel
theorem dX2_compare_54 : decode cX2_compare 54 = .ok (.goto 5, 3) := by decide +kernel
theorem dX2_compare_57 : decode cX2_compare 57 = .ok (.iload 4, 2) := by decide +kernel
theorem dX2_compare_59 : decode cX2_compare 59 = .ok (.ireturn, 1) := by decide +kernel
theorem dX2_follow_0 : decode cX2_follow 0 = .ok (.aload_n 0, 1) := by decide +kernel
theorem dX2_follow_1 : decode cX2_follow 1 = .ok (.getfield 9, 3) := by decide +kernel
theorem dX2_follow_4 : decode cX2_follow 4 = .ok (.iload_n 3, 1) := by decide +kernel
theorem dX2_follow_5 : decode cX2_follow 5 = .ok (.invokevirtual 55, 3) := by decide +kernel
theorem dX2_follow_8 : decode cX2_follow 8 = .ok (.istore 4, 2) := by decide +kernel
theorem dX2_follow_10 : decode cX2_follow 10 = .ok (.iconst 0, 1) := by decide +kernel
theorem dX2_follow_11 : decode cX2_follow 11 = .ok (.istore 5, 2) := by decide +kernel
theorem dX2_follow_13 : decode cX2_follow 13 = .ok (.iload_n 2, 1) := by decide +kernel
theorem dX2_follow_14 : decode cX2_follow 14 = .ok (.istore 6, 2) := by decide +kernel
theorem dX2_follow_16 : decode cX2_follow 16 = .ok (.aload_n 0, 1) := by decide +kernel
theorem dX2_follow_17 : decode cX2_follow 17 = .ok (.iconst 0, 1) := by decide +kernel
theorem dX2_follow_18 : decode cX2_follow 18 = .ok (.putfield 85, 3) := by decide +kernel
theorem dX2_follow_21 : decode cX2_follow 21 = .ok (.iconst 0, 1) := by decide +kernel
theorem dX2_follow_22 : decode cX2_follow 22 = .ok (.istore 7, 2) := by decide +kernel
theorem dX2_follow_24 : decode cX2_follow 24 = .ok (.iload 7, 2) := by decide +kernel
theorem dX2_follow_26 : decode cX2_follow 26 = .ok (.bipush 8, 2) := by decide +kernel
theorem dX2_follow_28 : decode cX2_follow 28 = .ok (.if_icmp .gt 135, 3) := by decide +kernel
theorem dX2_follow_31 : decode cX2_follow 31 = .ok (.aload_n 0, 1) := by decide +kernel
theorem dX2_follow_32 : decode cX2_follow 32 = .ok (.getfield 9, 3) := by decide +kernel
theorem dX2_follow_35 : decode cX2_follow 35 = .ok (.iload 6, 2) := by decide +kernel
theorem dX2_follow_37 : decode cX2_follow 37 = .ok (.invokevirtual 19, 3) := by decide +kernel
theorem dX2_follow_40 : decode cX2_follow 40 = .ok (.ifCond .eq 13, 3) := by decide +kernel
theorem dX2_follow_43 : decode cX2_follow 43 = .ok (.iload 4, 2) := by decide +kernel
theorem dX2_follow_45 : decode cX2_follow 45 = .ok (.iload 6, 2) := by decide +kernel
theorem dX2_follow_47 : decode cX2_follow 47 = .ok (.ishr, 1) := by decide +kernel
theorem dX2_follow_48 : decode cX2_follow 48 = .ok (.iconst 1, 1) := by decide +kernel
theorem dX2_follow_49 : decode cX2_follow 49 = .ok (.iand, 1) := by decide +kernel
theorem dX2_follow_50 : decode cX2_follow 50 = .ok (.ifCond .eq 6, 3) := by decide +kernel
theorem dX2_follow_53 : decode cX2_follow 53 = .ok (.bipush (-6), 2) := by decide +kernel
theorem dX2_follow_55 : decode cX2_follow 55 = .ok (.ireturn, 1) := by decide +kernel
theorem dX2_follow_56 : decode cX2_follow 56 = .ok (.aload_n 0, 1) := by decide +kernel
theorem dX2_follow_57 : decode cX2_follow 57 = .ok (.getfield 9, 3) := by decide +kernel
theorem dX2_follow_60 : decode cX2_follow 60 = .ok (.getfield 25, 3) := by decide +kernel
theorem dX2_follow_63 : decode cX2_follow 63 = .ok (.iload 6, 2) := by decide +kernel
theorem dX2_follow_65 : decode cX2_follow 65 = .ok (.aaload, 1) := by decide +kernel
theorem dX2_follow_66 : decode cX2_follow 66 = .ok (.aload_n 1, 1) := by decide +kernel
theorem dX2_follow_67 : decode cX2_follow 67 = .ok (.getfield 40, 3) := by decide +kernel
theorem dX2_follow_70 : decode cX2_follow 70 = .ok (.invokevirtual 43, 3) := by decide +kernel
theorem dX2_follow_73 : decode cX2_follow 73 = .ok (.istore 8, 2) := by decide +kernel
theorem dX2_follow_75 : decode cX2_follow 75 = .ok (.iload 8, 2) := by decide +kernel
theorem dX2_follow_77 : decode cX2_follow 77 = .ok (.bipush (-6), 2) := by decide +kernel
theorem dX2_follow_79 : decode cX2_follow 79 = .ok (.if_icmp .ne 6, 3) := by decide +kernel
theorem dX2_follow_82 : decode cX2_follow 82 = .ok (.bipush (-6), 2) := by decide +kernel
theorem dX2_follow_84 : decode cX2_follow 84 = .ok (.ireturn, 1) := by decide +kernel
theorem dX2_follow_85 : decode cX2_follow 85 = .ok (.iload 5, 2) := by decide +kernel
theorem dX2_follow_87 : decode cX2_follow 87 = .ok (.iload 6, 2) := by decide +kernel
theorem dX2_follow_89 : decode cX2_follow 89 = .ok (.ishr, 1) := by decide +kernel
theorem dX2_follow_90 : decode cX2_follow 90 = .ok (.iconst 1, 1) := by decide +kernel
theorem dX2_follow_91 : decode cX2_follow 91 = .ok (.iand, 1) := by decide +kernel
theorem dX2_follow_92 : decode cX2_follow 92 = .ok (.ifCond .ne 15, 3) := by decide +kernel
theorem dX2_follow_95 : decode cX2_follow 95 = .ok (.aload_n 0, 1) := by decide +kernel
theorem dX2_follow_96 : decode cX2_follow 96 = .ok (.getfield 85, 3) := by decide +kernel
theorem dX2_follow_99 : decode cX2_follow 99 = .ok (.aload_n 0, 1) := by decide +kernel
theorem dX2_follow_100 : decode cX2_follow 100 = .ok (.getfield 15, 3) := by decide +kernel
theorem dX2_follow_103 : decode cX2_follow 103 = .ok (.arraylength, 1) := by decide +kernel
theorem dX2_follow_104 : decode cX2_follow 104 = .ok (.if_icmp .lt 6, 3) := by decide +kernel
theorem dX2_follow_107 : decode cX2_follow 107 = .ok (.bipush (-3), 2) := by decide +kernel
theorem dX2_follow_109 : decode cX2_follow 109 = .ok (.ireturn, 1) := by decide +kernel
theorem dX2_follow_110 : decode cX2_follow 110 = .ok (.iload 5, 2) := by decide +kernel
theorem dX2_follow_112 : decode cX2_follow 112 = .ok (.iconst 1, 1) := by decide +kernel
theorem dX2_follow_113 : decode cX2_follow 113 = .ok (.iload 6, 2) := by decide +kernel
theorem dX2_follow_115 : decode cX2_follow 115 = .ok (.ishl, 1) := by decide +kernel
theorem dX2_follow_116 : decode cX2_follow 116 = .ok (.ior, 1) := by decide +kernel
theorem dX2_follow_117 : decode cX2_follow 117 = .ok (.istore 5, 2) := by decide +kernel
theorem dX2_follow_119 : decode cX2_follow 119 = .ok (.aload_n 0, 1) := by decide +kernel
theorem dX2_follow_120 : decode cX2_follow 120 = .ok (.getfield 15, 3) := by decide +kernel
theorem dX2_follow_123 : decode cX2_follow 123 = .ok (.aload_n 0, 1) := by decide +kernel
theorem dX2_follow_124 : decode cX2_follow 124 = .ok (.getfield 85, 3) := by decide +kernel
theorem dX2_follow_127 : decode cX2_follow 127 = .ok (.iload 6, 2) := by decide +kernel
theorem dX2_follow_129 : decode cX2_follow 129 = .ok (.iastore, 1) := by decide +kernel
theorem dX2_follow_130 : decode cX2_follow 130 = .ok (.aload_n 0, 1) := by decide +kernel
theorem dX2_follow_131 : decode cX2_follow 131 = .ok (.dup, 1) := by decide +kernel
theorem dX2_follow_132 : decode cX2_follow 132 = .ok (.getfield 85, 3) := by decide +kernel
theorem dX2_follow_135 : decode cX2_follow 135 = .ok (.iconst 1, 1) := by decide +kernel
theorem dX2_follow_136 : decode cX2_follow 136 = .ok (.iadd, 1) := by decide +kernel
theorem dX2_follow_137 : decode cX2_follow 137 = .ok (.putfield 85, 3) := by decide +kernel
theorem dX2_follow_140 : decode cX2_follow 140 = .ok (.iload 8, 2) := by decide +kernel
theorem dX2_follow_142 : decode cX2_follow 142 = .ok (.bipush 100, 2) := by decide +kernel
theorem dX2_follow_144 : decode cX2_follow 144 = .ok (.if_icmp .ge 6, 3) := by decide +kernel
theorem dX2_follow_147 : decode cX2_follow 147 = .ok (.iload 8, 2) := by decide +kernel
theorem dX2_follow_149 : decode cX2_follow 149 = .ok (.ireturn, 1) := by decide +kernel
theorem dX2_follow_150 : decode cX2_follow 150 = .ok (.iload 8, 2) := by decide +kernel
theorem dX2_follow_152 : decode cX2_follow 152 = .ok (.bipush 100, 2) := by decide +kernel
theorem dX2_follow_154 : decode cX2_follow 154 = .ok (.isub, 1) := by decide +kernel
theorem dX2_follow_155 : decode cX2_follow 155 = .ok (.istore 6, 2) := by decide +kernel
theorem dX2_follow_157 : decode cX2_follow 157 = .ok (.iinc 7 1, 3) := by decide +kernel
theorem dX2_follow_160 : decode cX2_follow 160 = .ok (.goto (-136), 3) := by decide +kernel
theorem dX2_follow_163 : decode cX2_follow 163 = .ok (.bipush (-3), 2) := by decide +kernel
theorem dX2_follow_165 : decode cX2_follow 165 = .ok (.ireturn, 1) := by decide +kernel
theorem dX2_given_0 : decode cX2_given 0 = .ok (.aload_n 1, 1) := by decide +kernel
theorem dX2_given_1 : decode cX2_given 1 = .ok (.iload_n 2, 1) := by decide +kernel
theorem dX2_given_2 : decode cX2_given 2 = .ok (.invokevirtual 88, 3) := by decide +kernel
theorem dX2_given_5 : decode cX2_given 5 = .ok (.istore_n 3, 1) := by decide +kernel
theorem dX2_given_6 : decode cX2_given 6 = .ok (.aload_n 0, 1) := by decide +kernel
theorem dX2_given_7 : decode cX2_given 7 = .ok (.aload_n 1, 1) := by decide +kernel
theorem dX2_given_8 : decode cX2_given 8 = .ok (.iload_n 3, 1) := by decide +kernel
theorem dX2_given_9 : decode cX2_given 9 = .ok (.invokevirtual 91, 3) := by decide +kernel
theorem dX2_given_12 : decode cX2_given 12 = .ok (.istore 4, 2) := by decide +kernel
theorem dX2_given_14 : decode cX2_given 14 = .ok (.aload_n 0, 1) := by decide +kernel
theorem dX2_given_15 : decode cX2_given 15 = .ok (.aload_n 1, 1) := by decide +kernel
theorem dX2_given_16 : decode cX2_given 16 = .ok (.iload 4, 2) := by decide +kernel
theorem dX2_given_18 : decode cX2_given 18 = .ok (.iload_n 3, 1) := by decide +kernel
theorem dX2_given_19 : decode cX2_given 19 = .ok (.invokevirtual 95, 3) := by decide +kernel
theorem dX2_given_22 : decode cX2_given 22 = .ok (.istore 5, 2) := by decide +kernel
theorem dX2_given_24 : decode cX2_given 24 = .ok (.aload_n 0, 1) := by decide +kernel
theorem dX2_given_25 : decode cX2_given 25 = .ok (.getfield 9, 3) := by decide +kernel
theorem dX2_given_28 : decode cX2_given 28 = .ok (.getfield 99, 3) := by decide +kernel
theorem dX2_given_31 : decode cX2_given 31 = .ok (.ifCond .eq 20, 3) := by decide +kernel
theorem dX2_given_34 : decode cX2_given 34 = .ok (.iload 5, 2) := by decide +kernel
theorem dX2_given_36 : decode cX2_given 36 = .ok (.ifCond .lt 15, 3) := by decide +kernel
theorem dX2_given_39 : decode cX2_given 39 = .ok (.aload_n 0, 1) := by decide +kernel
theorem dX2_given_40 : decode cX2_given 40 = .ok (.getfield 9, 3) := by decide +kernel
theorem dX2_given_43 : decode cX2_given 43 = .ok (.iload 4, 2) := by decide +kernel
theorem dX2_given_45 : decode cX2_given 45 = .ok (.invokevirtual 19, 3) := by decide +kernel
theorem dX2_given_48 : decode cX2_given 48 = .ok (.ifCond .ne 6, 3) := by decide +kernel
theorem dX2_given_51 : decode cX2_given 51 = .ok (.iload 5, 2) := by decide +kernel
theorem dX2_given_53 : decode cX2_given 53 = .ok (.ireturn, 1) := by decide +kernel
theorem dX2_given_54 : decode cX2_given 54 = .ok (.aload_n 0, 1) := by decide +kernel
theorem dX2_given_55 : decode cX2_given 55 = .ok (.getfield 9, 3) := by decide +kernel
theorem dX2_given_58 : decode cX2_given 58 = .ok (.getfield 25, 3) := by decide +kernel
theorem dX2_given_61 : decode cX2_given 61 = .ok (.iload 4, 2) := by decide +kernel
theorem dX2_given_63 : decode cX2_given 63 = .ok (.aaload, 1) := by decide +kernel
theorem dX2_given_64 : decode cX2_given 64 = .ok (.getfield 76, 3) := by decide +kernel
theorem dX2_given_67 : decode cX2_given 67 = .ok (.aload_n 1, 1) := by decide +kernel
theorem dX2_given_68 : decode cX2_given 68 = .ok (.getfield 34, 3) := by decide +kernel
theorem dX2_given_71 : decode cX2_given 71 = .ok (.if_icmp .gt 6, 3) := by decide +kernel
theorem dX2_given_74 : decode cX2_given 74 = .ok (.iload 5, 2) := by decide +kernel
theorem dX2_given_76 : decode cX2_given 76 = .ok (.ireturn, 1) := by decide +kernel
theorem dX2_given_77 : decode cX2_given 77 = .ok (.aload_n 0, 1) := by decide +kernel
theorem dX2_given_78 : decode cX2_given 78 = .ok (.aload_n 1, 1) := by decide +kernel
theorem dX2_given_79 : decode cX2_given 79 = .ok (.aload_n 0, 1) := by decide +kernel
theorem dX2_given_80 : decode cX2_given 80 = .ok (.aload_n 1, 1) := by decide +kernel
theorem dX2_given_81 : decode cX2_given 81 = .ok (.aload_n 1, 1) := by decide +kernel
theorem dX2_given_82 : decode cX2_given 82 = .ok (.getfield 34, 3) := by decide +kernel
theorem dX2_given_85 : decode cX2_given 85 = .ok (.invokevirtual 91, 3) := by decide +kernel
theorem dX2_given_88 : decode cX2_given 88 = .ok (.aload_n 1, 1) := by decide +kernel
theorem dX2_given_89 : decode cX2_given 89 = .ok (.getfield 34, 3) := by decide +kernel
theorem dX2_given_92 : decode cX2_given 92 = .ok (.invokevirtual 95, 3) := by decide +kernel
theorem dX2_given_95 : decode cX2_given 95 = .ok (.istore 6, 2) := by decide +kernel
theorem dX2_given_97 : decode cX2_given 97 = .ok (.iload 6, 2) := by decide +kernel
theorem dX2_given_99 : decode cX2_given 99 = .ok (.ifCond .ge 8, 3) := by decide +kernel
theorem dX2_given_102 : decode cX2_given 102 = .ok (.iload 5, 2) := by decide +kernel
theorem dX2_given_104 : decode cX2_given 104 = .ok (.goto 10, 3) := by decide +kernel
theorem dX2_given_107 : decode cX2_given 107 = .ok (.iload 5, 2) := by decide +kernel
theorem dX2_given_109 : decode cX2_given 109 = .ok (.iload 6, 2) := by decide +kernel
theorem dX2_given_111 : decode cX2_given 111 = .ok (.invokestatic 102, 3) := by decide +kernel
theorem dX2_given_114 : decode cX2_given 114 = .ok (.ireturn, 1) := by decide +kernel
theorem dX2_isOfThose_0 : decode cX2_isOfThose 0 = .ok (.aload_n 1, 1) := by decide +kernel
theorem dX2_isOfThose_1 : decode cX2_isOfThose 1 = .ok (.iload_n 2, 1) := by decide +kernel
theorem dX2_isOfThose_2 : decode cX2_isOfThose 2 = .ok (.invokevirtual 88, 3) := by decide +kernel
theorem dX2_isOfThose_5 : decode cX2_isOfThose 5 = .ok (.istore 4, 2) := by decide +kernel
theorem dX2_isOfThose_7 : decode cX2_isOfThose 7 = .ok (.aload_n 1, 1) := by decide +kernel
theorem dX2_isOfThose_8 : decode cX2_isOfThose 8 = .ok (.getfield 34, 3) := by decide +kernel
theorem dX2_isOfThose_11 : decode cX2_isOfThose 11 = .ok (.iload 4, 2) := by decide +kernel
theorem dX2_isOfThose_13 : decode cX2_isOfThose 13 = .ok (.if_icmp .gt 7, 3) := by decide +kernel
theorem dX2_isOfThose_16 : decode cX2_isOfThose 16 = .ok (.iconst 1, 1) := by decide +kernel
theorem dX2_isOfThose_17 : decode cX2_isOfThose 17 = .ok (.goto 4, 3) := by decide +kernel
theorem dX2_isOfThose_20 : decode cX2_isOfThose 20 = .ok (.iconst 0, 1) := by decide +kernel
theorem dX2_isOfThose_21 : decode cX2_isOfThose 21 = .ok (.istore 5, 2) := by decide +kernel
theorem dX2_isOfThose_23 : decode cX2_isOfThose 23 = .ok (.iload_n 3, 1) := by decide +kernel
theorem dX2_isOfThose_24 : decode cX2_isOfThose 24 = .ok (.iconst 3, 1) := by decide +kernel
theorem dX2_isOfThose_25 : decode cX2_isOfThose 25 = .ok (.if_icmp .ne 6, 3) := by decide +kernel
theorem dX2_isOfThose_28 : decode cX2_isOfThose 28 = .ok (.iload 5, 2) := by decide +kernel
theorem dX2_isOfThose_30 : decode cX2_isOfThose 30 = .ok (.ireturn, 1) := by decide +kernel
theorem dX2_isOfThose_31 : decode cX2_isOfThose 31 = .ok (.aload_n 0, 1) := by decide +kernel
theorem dX2_isOfThose_32 : decode cX2_isOfThose 32 = .ok (.aload_n 1, 1) := by decide +kernel
theorem dX2_isOfThose_33 : decode cX2_isOfThose 33 = .ok (.iload 4, 2) := by decide +kernel
theorem dX2_isOfThose_35 : decode cX2_isOfThose 35 = .ok (.invokevirtual 91, 3) := by decide +kernel
theorem dX2_isOfThose_38 : decode cX2_isOfThose 38 = .ok (.istore 6, 2) := by decide +kernel
theorem dX2_isOfThose_40 : decode cX2_isOfThose 40 = .ok (.iload_n 3, 1) := by decide +kernel
theorem dX2_isOfThose_41 : decode cX2_isOfThose 41 = .ok (.ifCond .ne 8, 3) := by decide +kernel
theorem dX2_isOfThose_44 : decode cX2_isOfThose 44 = .ok (.aload_n 0, 1) := by decide +kernel
theorem dX2_isOfThose_45 : decode cX2_isOfThose 45 = .ok (.getfield 51, 3) := by decide +kernel
theorem dX2_isOfThose_48 : decode cX2_isOfThose 48 = .ok (.ireturn, 1) := by decide +kernel
theorem dX2_isOfThose_49 : decode cX2_isOfThose 49 = .ok (.iload_n 3, 1) := by decide +kernel
theorem dX2_isOfThose_50 : decode cX2_isOfThose 50 = .ok (.iconst 1, 1) := by decide +kernel
theorem dX2_isOfThose_51 : decode cX2_isOfThose 51 = .ok (.if_icmp .ne 21, 3) := by decide +kernel
theorem dX2_isOfThose_54 : decode cX2_isOfThose 54 = .ok (.iload 5, 2) := by decide +kernel
theorem dX2_isOfThose_56 : decode cX2_isOfThose 56 = .ok (.ifCond .eq 14, 3) := by decide +kernel
theorem dX2_isOfThose_59 : decode cX2_isOfThose 59 = .ok (.iload 6, 2) := by decide +kernel
theorem dX2_isOfThose_61 : decode cX2_isOfThose 61 = .ok (.bipush (-6), 2) := by decide +kernel
theorem dX2_isOfThose_63 : decode cX2_isOfThose 63 = .ok (.if_icmp .ne 7, 3) := by decide +kernel
theorem dX2_isOfThose_66 : decode cX2_isOfThose 66 = .ok (.iconst 1, 1) := by decide +kernel
theorem dX2_isOfThose_67 : decode cX2_isOfThose 67 = .ok (.goto 4, 3) := by decide +kernel
theorem dX2_isOfThose_70 : decode cX2_isOfThose 70 = .ok (.iconst 0, 1) := by decide +kernel
theorem dX2_isOfThose_71 : decode cX2_isOfThose 71 = .ok (.ireturn, 1) := by decide +kernel
theorem dX2_isOfThose_72 : decode cX2_isOfThose 72 = .ok (.aload_n 0, 1) := by decide +kernel
theorem dX2_isOfThose_73 : decode cX2_isOfThose 73 = .ok (.aload_n 1, 1) := by decide +kernel
theorem dX2_isOfThose_74 : decode cX2_isOfThose 74 = .ok (.iload 6, 2) := by decide +kernel
theorem dX2_isOfThose_76 : decode cX2_isOfThose 76 = .ok (.iload 4, 2) := by decide +kernel
theorem dX2_isOfThose_78 : decode cX2_isOfThose 78 = .ok (.invokevirtual 95, 3) := by decide +kernel
theorem dX2_isOfThose_81 : decode cX2_isOfThose 81 = .ok (.bipush (-3), 2) := by decide +kernel
theorem dX2_isOfThose_83 : decode cX2_isOfThose 83 = .ok (.if_icmp .ne 7, 3) := by decide +kernel
theorem dX2_isOfThose_86 : decode cX2_isOfThose 86 = .ok (.iconst 1, 1) := by decide +kernel
theorem dX2_isOfThose_87 : decode cX2_isOfThose 87 = .ok (.goto 4, 3) := by decide +kernel
theorem dX2_isOfThose_90 : decode cX2_isOfThose 90 = .ok (.iconst 0, 1) := by decide +kernel
theorem dX2_isOfThose_91 : decode cX2_isOfThose 91 = .ok (.ireturn, 1) := by decide +kernel
theorem dX2_takenBy_0 : decode cX2_takenBy 0 = .ok (.iconst 0, 1) := by decide +kernel
theorem dX2_takenBy_1 : decode cX2_takenBy 1 = .ok (.istore_n 2, 1) := by decide +kernel
theorem dX2_takenBy_2 : decode cX2_takenBy 2 = .ok (.iconst 0, 1) := by decide +kernel
theorem dX2_takenBy_3 : decode cX2_takenBy 3 = .ok (.istore_n 3, 1) := by decide +kernel
theorem dX2_takenBy_4 : decode cX2_takenBy 4 = .ok (.iload_n 3, 1) := by decide +kernel
theorem dX2_takenBy_5 : decode cX2_takenBy 5 = .ok (.aload_n 0, 1) := by decide +kernel
theorem dX2_takenBy_6 : decode cX2_takenBy 6 = .ok (.getfield 9, 3) := by decide +kernel
theorem dX2_takenBy_9 : decode cX2_takenBy 9 = .ok (.getfield 108, 3) := by decide +kernel
theorem dX2_takenBy_12 : decode cX2_takenBy 12 = .ok (.if_icmp .ge 89, 3) := by decide +kernel
theorem dX2_takenBy_15 : decode cX2_takenBy 15 = .ok (.aload_n 0, 1) := by decide +kernel
theorem dX2_takenBy_16 : decode cX2_takenBy 16 = .ok (.getfield 9, 3) := by decide +kernel
theorem dX2_takenBy_19 : decode cX2_takenBy 19 = .ok (.getfield 111, 3) := by decide +kernel
theorem dX2_takenBy_22 : decode cX2_takenBy 22 = .ok (.iload_n 3, 1) := by decide +kernel
theorem dX2_takenBy_23 : decode cX2_takenBy 23 = .ok (.aaload, 1) := by decide +kernel
theorem dX2_takenBy_24 : decode cX2_takenBy 24 = .ok (.astore 4, 2) := by decide +kernel
theorem dX2_takenBy_26 : decode cX2_takenBy 26 = .ok (.aload_n 0, 1) := by decide +kernel
theorem dX2_takenBy_27 : decode cX2_takenBy 27 = .ok (.getfield 9, 3) := by decide +kernel
theorem dX2_takenBy_30 : decode cX2_takenBy 30 = .ok (.getfield 25, 3) := by decide +kernel
theorem dX2_takenBy_33 : decode cX2_takenBy 33 = .ok (.iload_n 1, 1) := by decide +kernel
theorem dX2_takenBy_34 : decode cX2_takenBy 34 = .ok (.aaload, 1) := by decide +kernel
theorem dX2_takenBy_35 : decode cX2_takenBy 35 = .ok (.getfield 76, 3) := by decide +kernel
theorem dX2_takenBy_38 : decode cX2_takenBy 38 = .ok (.istore 5, 2) := by decide +kernel
theorem dX2_takenBy_40 : decode cX2_takenBy 40 = .ok (.aload 4, 2) := by decide +kernel
theorem dX2_takenBy_42 : decode cX2_takenBy 42 = .ok (.getfield 115, 3) := by decide +kernel
theorem dX2_takenBy_45 : decode cX2_takenBy 45 = .ok (.bipush (-6), 2) := by decide +kernel
theorem dX2_takenBy_47 : decode cX2_takenBy 47 = .ok (.if_icmp .eq 17, 3) := by decide +kernel
theorem dX2_takenBy_50 : decode cX2_takenBy 50 = .ok (.aload 4, 2) := by decide +kernel
theorem dX2_takenBy_52 : decode cX2_takenBy 52 = .ok (.getfield 115, 3) := by decide +kernel
theorem dX2_takenBy_55 : decode cX2_takenBy 55 = .ok (.iload 5, 2) := by decide +kernel
theorem dX2_takenBy_57 : decode cX2_takenBy 57 = .ok (.if_icmp .ge 7, 3) := by decide +kernel
theorem dX2_takenBy_60 : decode cX2_takenBy 60 = .ok (.iconst 1, 1) := by decide +kernel
theorem dX2_takenBy_61 : decode cX2_takenBy 61 = .ok (.goto 4, 3) := by decide +kernel
theorem dX2_takenBy_64 : decode cX2_takenBy 64 = .ok (.iconst 0, 1) := by decide +kernel
theorem dX2_takenBy_65 : decode cX2_takenBy 65 = .ok (.istore 6, 2) := by decide +kernel
theorem dX2_takenBy_67 : decode cX2_takenBy 67 = .ok (.iload 6, 2) := by decide +kernel
theorem dX2_takenBy_69 : decode cX2_takenBy 69 = .ok (.ifCond .eq 26, 3) := by decide +kernel
theorem dX2_takenBy_72 : decode cX2_takenBy 72 = .ok (.aload_n 0, 1) := by decide +kernel
theorem dX2_takenBy_73 : decode cX2_takenBy 73 = .ok (.aload 4, 2) := by decide +kernel
theorem dX2_takenBy_75 : decode cX2_takenBy 75 = .ok (.aload 4, 2) := by decide +kernel
theorem dX2_takenBy_77 : decode cX2_takenBy 77 = .ok (.iload 5, 2) := by decide +kernel
theorem dX2_takenBy_79 : decode cX2_takenBy 79 = .ok (.invokevirtual 88, 3) := by decide +kernel
theorem dX2_takenBy_82 : decode cX2_takenBy 82 = .ok (.invokevirtual 91, 3) := by decide +kernel
theorem dX2_takenBy_85 : decode cX2_takenBy 85 = .ok (.iload_n 1, 1) := by decide +kernel
theorem dX2_takenBy_86 : decode cX2_takenBy 86 = .ok (.if_icmp .ne 9, 3) := by decide +kernel
theorem dX2_takenBy_89 : decode cX2_takenBy 89 = .ok (.iload_n 2, 1) := by decide +kernel
theorem dX2_takenBy_90 : decode cX2_takenBy 90 = .ok (.iconst 1, 1) := by decide +kernel
theorem dX2_takenBy_91 : decode cX2_takenBy 91 = .ok (.iload_n 3, 1) := by decide +kernel
theorem dX2_takenBy_92 : decode cX2_takenBy 92 = .ok (.ishl, 1) := by decide +kernel
theorem dX2_takenBy_93 : decode cX2_takenBy 93 = .ok (.ior, 1) := by decide +kernel
theorem dX2_takenBy_94 : decode cX2_takenBy 94 = .ok (.istore_n 2, 1) := by decide +kernel
theorem dX2_takenBy_95 : decode cX2_takenBy 95 = .ok (.iinc 3 1, 3) := by decide +kernel
theorem dX2_takenBy_98 : decode cX2_takenBy 98 = .ok (.goto (-94), 3) := by decide +kernel
theorem dX2_takenBy_101 : decode cX2_takenBy 101 = .ok (.iload_n 2, 1) := by decide +kernel
theorem dX2_takenBy_102 : decode cX2_takenBy 102 = .ok (.ireturn, 1) := by decide +kernel
theorem dX2_caughtBy_0 : decode cX2_caughtBy 0 = .ok (.iconst 0, 1) := by decide +kernel
theorem dX2_caughtBy_1 : decode cX2_caughtBy 1 = .ok (.istore_n 2, 1) := by decide +kernel
theorem dX2_caughtBy_2 : decode cX2_caughtBy 2 = .ok (.iconst 0, 1) := by decide +kernel
theorem dX2_caughtBy_3 : decode cX2_caughtBy 3 = .ok (.istore_n 3, 1) := by decide +kernel
theorem dX2_caughtBy_4 : decode cX2_caughtBy 4 = .ok (.iload_n 3, 1) := by decide +kernel
theorem dX2_caughtBy_5 : decode cX2_caughtBy 5 = .ok (.aload_n 0, 1) := by decide +kernel
theorem dX2_caughtBy_6 : decode cX2_caughtBy 6 = .ok (.getfield 9, 3) := by decide +kernel
theorem dX2_caughtBy_9 : decode cX2_caughtBy 9 = .ok (.getfield 108, 3) := by decide +kernel
theorem dX2_caughtBy_12 : decode cX2_caughtBy 12 = .ok (.if_icmp .ge 32, 3) := by decide +kernel
theorem dX2_caughtBy_15 : decode cX2_caughtBy 15 = .ok (.aload_n 0, 1) := by decide +kernel
theorem dX2_caughtBy_16 : decode cX2_caughtBy 16 = .ok (.iload_n 1, 1) := by decide +kernel
theorem dX2_caughtBy_17 : decode cX2_caughtBy 17 = .ok (.aload_n 0, 1) := by decide +kernel
theorem dX2_caughtBy_18 : decode cX2_caughtBy 18 = .ok (.getfield 9, 3) := by decide +kernel
theorem dX2_caughtBy_21 : decode cX2_caughtBy 21 = .ok (.getfield 111, 3) := by decide +kernel
theorem dX2_caughtBy_24 : decode cX2_caughtBy 24 = .ok (.iload_n 3, 1) := by decide +kernel
theorem dX2_caughtBy_25 : decode cX2_caughtBy 25 = .ok (.aaload, 1) := by decide +kernel
theorem dX2_caughtBy_26 : decode cX2_caughtBy 26 = .ok (.invokevirtual 118, 3) := by decide +kernel
theorem dX2_caughtBy_29 : decode cX2_caughtBy 29 = .ok (.ifCond .eq 9, 3) := by decide +kernel
theorem dX2_caughtBy_32 : decode cX2_caughtBy 32 = .ok (.iload_n 2, 1) := by decide +kernel
theorem dX2_caughtBy_33 : decode cX2_caughtBy 33 = .ok (.iconst 1, 1) := by decide +kernel
theorem dX2_caughtBy_34 : decode cX2_caughtBy 34 = .ok (.iload_n 3, 1) := by decide +kernel
theorem dX2_caughtBy_35 : decode cX2_caughtBy 35 = .ok (.ishl, 1) := by decide +kernel
theorem dX2_caughtBy_36 : decode cX2_caughtBy 36 = .ok (.ior, 1) := by decide +kernel
theorem dX2_caughtBy_37 : decode cX2_caughtBy 37 = .ok (.istore_n 2, 1) := by decide +kernel
theorem dX2_caughtBy_38 : decode cX2_caughtBy 38 = .ok (.iinc 3 1, 3) := by decide +kernel
theorem dX2_caughtBy_41 : decode cX2_caughtBy 41 = .ok (.goto (-37), 3) := by decide +kernel
theorem dX2_caughtBy_44 : decode cX2_caughtBy 44 = .ok (.iload_n 2, 1) := by decide +kernel
theorem dX2_caughtBy_45 : decode cX2_caughtBy 45 = .ok (.ireturn, 1) := by decide +kernel
theorem dX2_everGoverns_0 : decode cX2_everGoverns 0 = .ok (.aload_n 2, 1) := by decide +kernel
theorem dX2_everGoverns_1 : decode cX2_everGoverns 1 = .ok (.bipush 99, 2) := by decide +kernel
theorem dX2_everGoverns_3 : decode cX2_everGoverns 3 = .ok (.invokevirtual 88, 3) := by decide +kernel
theorem dX2_everGoverns_6 : decode cX2_everGoverns 6 = .ok (.istore_n 3, 1) := by decide +kernel
theorem dX2_everGoverns_7 : decode cX2_everGoverns 7 = .ok (.aload_n 2, 1) := by decide +kernel
theorem dX2_everGoverns_8 : decode cX2_everGoverns 8 = .ok (.getfield 34, 3) := by decide +kernel
theorem dX2_everGoverns_11 : decode cX2_everGoverns 11 = .ok (.istore 4, 2) := by decide +kernel
theorem dX2_everGoverns_13 : decode cX2_everGoverns 13 = .ok (.iload 4, 2) := by decide +kernel
theorem dX2_everGoverns_15 : decode cX2_everGoverns 15 = .ok (.iload_n 3, 1) := by decide +kernel
theorem dX2_everGoverns_16 : decode cX2_everGoverns 16 = .ok (.if_icmp .gt 46, 3) := by decide +kernel
theorem dX2_everGoverns_19 : decode cX2_everGoverns 19 = .ok (.iload 4, 2) := by decide +kernel
theorem dX2_everGoverns_21 : decode cX2_everGoverns 21 = .ok (.aload_n 2, 1) := by decide +kernel
theorem dX2_everGoverns_22 : decode cX2_everGoverns 22 = .ok (.getfield 34, 3) := by decide +kernel
theorem dX2_everGoverns_25 : decode cX2_everGoverns 25 = .ok (.if_icmp .eq 18, 3) := by decide +kernel
theorem dX2_everGoverns_28 : decode cX2_everGoverns 28 = .ok (.aload_n 0, 1) := by decide +kernel
theorem dX2_everGoverns_29 : decode cX2_everGoverns 29 = .ok (.getfield 9, 3) := by decide +kernel
theorem dX2_everGoverns_32 : decode cX2_everGoverns 32 = .ok (.iload 4, 2) := by decide +kernel
theorem dX2_everGoverns_34 : decode cX2_everGoverns 34 = .ok (.invokevirtual 122, 3) := by decide +kernel
theorem dX2_everGoverns_37 : decode cX2_everGoverns 37 = .ok (.ifCond .ne 6, 3) := by decide +kernel
theorem dX2_everGoverns_40 : decode cX2_everGoverns 40 = .ok (.goto 16, 3) := by decide +kernel
theorem dX2_everGoverns_43 : decode cX2_everGoverns 43 = .ok (.aload_n 0, 1) := by decide +kernel
theorem dX2_everGoverns_44 : decode cX2_everGoverns 44 = .ok (.aload_n 2, 1) := by decide +kernel
theorem dX2_everGoverns_45 : decode cX2_everGoverns 45 = .ok (.iload 4, 2) := by decide +kernel
theorem dX2_everGoverns_47 : decode cX2_everGoverns 47 = .ok (.invokevirtual 91, 3) := by decide +kernel
theorem dX2_everGoverns_50 : decode cX2_everGoverns 50 = .ok (.iload_n 1, 1) := by decide +kernel
theorem dX2_everGoverns_51 : decode cX2_everGoverns 51 = .ok (.if_icmp .ne 5, 3) := by decide +kernel
theorem dX2_everGoverns_54 : decode cX2_everGoverns 54 = .ok (.iconst 1, 1) := by decide +kernel
theorem dX2_everGoverns_55 : decode cX2_everGoverns 55 = .ok (.ireturn, 1) := by decide +kernel
theorem dX2_everGoverns_56 : decode cX2_everGoverns 56 = .ok (.iinc 4 1, 3) := by decide +kernel
theorem dX2_everGoverns_59 : decode cX2_everGoverns 59 = .ok (.goto (-46), 3) := by decide +kernel
theorem dX2_everGoverns_62 : decode cX2_everGoverns 62 = .ok (.iconst 0, 1) := by decide +kernel
theorem dX2_everGoverns_63 : decode cX2_everGoverns 63 = .ok (.ireturn, 1) := by decide +kernel
theorem dX3_init_0 : decode cX3_init 0 = .ok (.aload_n 0, 1) := by decide +kernel
theorem dX3_init_1 : decode cX3_init 1 = .ok (.invokespecial 3, 3) := by decide +kernel
theorem dX3_init_4 : decode cX3_init 4 = .ok (.aload_n 0, 1) := by decide +kernel
theorem dX3_init_5 : decode cX3_init 5 = .ok (.bipush 6, 2) := by decide +kernel
theorem dX3_init_7 : decode cX3_init 7 = .ok (.newarray .int, 2) := by decide +kernel
theorem dX3_init_9 : decode cX3_init 9 = .ok (.putfield 9, 3) := by decide +kernel
theorem dX3_init_12 : decode cX3_init 12 = .ok (.aload_n 0, 1) := by decide +kernel
theorem dX3_init_13 : decode cX3_init 13 = .ok (.bipush 6, 2) := by decide +kernel
theorem dX3_init_15 : decode cX3_init 15 = .ok (.newarray .int, 2) := by decide +kernel
theorem dX3_init_17 : decode cX3_init 17 = .ok (.putfield 15, 3) := by decide +kernel
theorem dX3_init_20 : decode cX3_init 20 = .ok (.aload_n 0, 1) := by decide +kernel
theorem dX3_init_21 : decode cX3_init 21 = .ok (.bipush 32, 2) := by decide +kernel
theorem dX3_init_23 : decode cX3_init 23 = .ok (.newarray .int, 2) := by decide +kernel
theorem dX3_init_25 : decode cX3_init 25 = .ok (.putfield 18, 3) := by decide +kernel
theorem dX3_init_28 : decode cX3_init 28 = .ok (.aload_n 0, 1) := by decide +kernel
theorem dX3_init_29 : decode cX3_init 29 = .ok (.bipush 32, 2) := by decide +kernel
theorem dX3_init_31 : decode cX3_init 31 = .ok (.newarray .int, 2) := by decide +kernel
theorem dX3_init_33 : decode cX3_init 33 = .ok (.putfield 21, 3) := by decide +kernel
theorem dX3_init_36 : decode cX3_init 36 = .ok (.return_, 1) := by decide +kernel
theorem dX3_blank_0 : decode cX3_blank 0 = .ok (.aload_n 0, 1) := by decide +kernel
theorem dX3_blank_1 : decode cX3_blank 1 = .ok (.iconst 0, 1) := by decide +kernel
theorem dX3_blank_2 : decode cX3_blank 2 = .ok (.putfield 24, 3) := by decide +kernel
theorem dX3_blank_5 : decode cX3_blank 5 = .ok (.aload_n 0, 1) := by decide +kernel
theorem dX3_blank_6 : decode cX3_blank 6 = .ok (.bipush 110, 2) := by decide +kernel
theorem dX3_blank_8 : decode cX3_blank 8 = .ok (.putfield 28, 3) := by decide +kernel
theorem dX3_blank_11 : decode cX3_blank 11 = .ok (.aload_n 0, 1) := by decide +kernel
theorem dX3_blank_12 : decode cX3_blank 12 = .ok (.bipush (-6), 2) := by decide +kernel
theorem dX3_blank_14 : decode cX3_blank 14 = .ok (.putfield 31, 3) := by decide +kernel
theorem dX3_blank_17 : decode cX3_blank 17 = .ok (.aload_n 0, 1) := by decide +kernel
theorem dX3_blank_18 : decode cX3_blank 18 = .ok (.aload_n 0, 1) := by decide +kernel
theorem dX3_blank_19 : decode cX3_blank 19 = .ok (.getfield 28, 3) := by decide +kernel
theorem dX3_blank_22 : decode cX3_blank 22 = .ok (.putfield 34, 3) := by decide +kernel
theorem dX3_blank_25 : decode cX3_blank 25 = .ok (.aload_n 0, 1) := by decide +kernel
theorem dX3_blank_26 : decode cX3_blank 26 = .ok (.iconst 0, 1) := by decide +kernel
theorem dX3_blank_27 : decode cX3_blank 27 = .ok (.putfield 37, 3) := by decide +kernel
theorem dX3_blank_30 : decode cX3_blank 30 = .ok (.aload_n 0, 1) := by decide +kernel
theorem dX3_blank_31 : decode cX3_blank 31 = .ok (.bipush (-6), 2) := by decide +kernel
theorem dX3_blank_33 : decode cX3_blank 33 = .ok (.putfield 41, 3) := by decide +kernel
theorem dX3_blank_36 : decode cX3_blank 36 = .ok (.aload_n 0, 1) := by decide +kernel
theorem dX3_blank_37 : decode cX3_blank 37 = .ok (.bipush (-6), 2) := by decide +kernel
theorem dX3_blank_39 : decode cX3_blank 39 = .ok (.putfield 44, 3) := by decide +kernel
theorem dX3_blank_42 : decode cX3_blank 42 = .ok (.aload_n 0, 1) := by decide +kernel
theorem dX3_blank_43 : decode cX3_blank 43 = .ok (.bipush (-6), 2) := by decide +kernel
theorem dX3_blank_45 : decode cX3_blank 45 = .ok (.putfield 47, 3) := by decide +kernel
theorem dX3_blank_48 : decode cX3_blank 48 = .ok (.aload_n 0, 1) := by decide +kernel
theorem dX3_blank_49 : decode cX3_blank 49 = .ok (.iconst 0, 1) := by decide +kernel
theorem dX3_blank_50 : decode cX3_blank 50 = .ok (.putfield 50, 3) := by decide +kernel
theorem dX3_blank_53 : decode cX3_blank 53 = .ok (.return_, 1) := by decide +kernel
theorem dX3_addCase_0 : decode cX3_addCase 0 = .ok (.aload_n 0, 1) := by decide +kernel
theorem dX3_addCase_1 : decode cX3_addCase 1 = .ok (.getfield 24, 3) := by decide +kernel
theorem dX3_addCase_4 : decode cX3_addCase 4 = .ok (.bipush 6, 2) := by decide +kernel
theorem dX3_addCase_6 : decode cX3_addCase 6 = .ok (.if_icmp .lt 4, 3) := by decide +kernel
theorem dX3_addCase_9 : decode cX3_addCase 9 = .ok (.return_, 1) := by decide +kernel
theorem dX3_addCase_10 : decode cX3_addCase 10 = .ok (.aload_n 0, 1) := by decide +kernel
theorem dX3_addCase_11 : decode cX3_addCase 11 = .ok (.getfield 9, 3) := by decide +kernel
theorem dX3_addCase_14 : decode cX3_addCase 14 = .ok (.aload_n 0, 1) := by decide +kernel
theorem dX3_addCase_15 : decode cX3_addCase 15 = .ok (.getfield 24, 3) := by decide +kernel
theorem dX3_addCase_18 : decode cX3_addCase 18 = .ok (.iload_n 1, 1) := by decide +kernel
theorem dX3_addCase_19 : decode cX3_addCase 19 = .ok (.iastore, 1) := by decide +kernel
theorem dX3_addCase_20 : decode cX3_addCase 20 = .ok (.aload_n 0, 1) := by decide +kernel
theorem dX3_addCase_21 : decode cX3_addCase 21 = .ok (.getfield 15, 3) := by decide +kernel
theorem dX3_addCase_24 : decode cX3_addCase 24 = .ok (.aload_n 0, 1) := by decide +kernel
theorem dX3_addCase_25 : decode cX3_addCase 25 = .ok (.getfield 24, 3) := by decide +kernel
theorem dX3_addCase_28 : decode cX3_addCase 28 = .ok (.iload_n 2, 1) := by decide +kernel
theorem dX3_addCase_29 : decode cX3_addCase 29 = .ok (.iastore, 1) := by decide +kernel
theorem dX3_addCase_30 : decode cX3_addCase 30 = .ok (.aload_n 0, 1) := by decide +kernel
theorem dX3_addCase_31 : decode cX3_addCase 31 = .ok (.dup, 1) := by decide +kernel
theorem dX3_addCase_32 : decode cX3_addCase 32 = .ok (.getfield 24, 3) := by decide +kernel
theorem dX3_addCase_35 : decode cX3_addCase 35 = .ok (.iconst 1, 1) := by decide +kernel
theorem dX3_addCase_36 : decode cX3_addCase 36 = .ok (.iadd, 1) := by decide +kernel
theorem dX3_addCase_37 : decode cX3_addCase 37 = .ok (.putfield 24, 3) := by decide +kernel
theorem dX3_addCase_40 : decode cX3_addCase 40 = .ok (.return_, 1) := by decide +kernel
theorem dX3_fitCases_0 : decode cX3_fitCases 0 = .ok (.iconst 0, 1) := by decide +kernel
theorem dX3_fitCases_1 : decode cX3_fitCases 1 = .ok (.istore_n 1, 1) := by decide +kernel
theorem dX3_fitCases_2 : decode cX3_fitCases 2 = .ok (.iload_n 1, 1) := by decide +kernel
theorem dX3_fitCases_3 : decode cX3_fitCases 3 = .ok (.bipush 32, 2) := by decide +kernel
theorem dX3_fitCases_5 : decode cX3_fitCases 5 = .ok (.if_icmp .ge 63, 3) := by decide +kernel
theorem dX3_fitCases_8 : decode cX3_fitCases 8 = .ok (.aload_n 0, 1) := by decide +kernel
theorem dX3_fitCases_9 : decode cX3_fitCases 9 = .ok (.iload_n 1, 1) := by decide +kernel
theorem dX3_fitCases_10 : decode cX3_fitCases 10 = .ok (.invokevirtual 53, 3) := by decide +kernel
theorem dX3_fitCases_13 : decode cX3_fitCases 13 = .ok (.istore_n 2, 1) := by decide +kernel
theorem dX3_fitCases_14 : decode cX3_fitCases 14 = .ok (.aload_n 0, 1) := by decide +kernel
theorem dX3_fitCases_15 : decode cX3_fitCases 15 = .ok (.getfield 18, 3) := by decide +kernel
theorem dX3_fitCases_18 : decode cX3_fitCases 18 = .ok (.iload_n 1, 1) := by decide +kernel
theorem dX3_fitCases_19 : decode cX3_fitCases 19 = .ok (.iload_n 2, 1) := by decide +kernel
theorem dX3_fitCases_20 : decode cX3_fitCases 20 = .ok (.bipush (-6), 2) := by decide +kernel
theorem dX3_fitCases_22 : decode cX3_fitCases 22 = .ok (.if_icmp .ne 8, 3) := by decide +kernel
theorem dX3_fitCases_25 : decode cX3_fitCases 25 = .ok (.bipush (-6), 2) := by decide +kernel
theorem dX3_fitCases_27 : decode cX3_fitCases 27 = .ok (.goto 9, 3) := by decide +kernel
theorem dX3_fitCases_30 : decode cX3_fitCases 30 = .ok (.aload_n 0, 1) := by decide +kernel
theorem dX3_fitCases_31 : decode cX3_fitCases 31 = .ok (.getfield 15, 3) := by decide +kernel
theorem dX3_fitCases_34 : decode cX3_fitCases 34 = .ok (.iload_n 2, 1) := by decide +kernel
theorem dX3_fitCases_35 : decode cX3_fitCases 35 = .ok (.iaload, 1) := by decide +kernel
theorem dX3_fitCases_36 : decode cX3_fitCases 36 = .ok (.iastore, 1) := by decide +kernel
theorem dX3_fitCases_37 : decode cX3_fitCases 37 = .ok (.aload_n 0, 1) := by decide +kernel
theorem dX3_fitCases_38 : decode cX3_fitCases 38 = .ok (.getfield 21, 3) := by decide +kernel
theorem dX3_fitCases_41 : decode cX3_fitCases 41 = .ok (.iload_n 1, 1) := by decide +kernel
theorem dX3_fitCases_42 : decode cX3_fitCases 42 = .ok (.iload_n 2, 1) := by decide +kernel
theorem dX3_fitCases_43 : decode cX3_fitCases 43 = .ok (.bipush (-6), 2) := by decide +kernel
theorem dX3_fitCases_45 : decode cX3_fitCases 45 = .ok (.if_icmp .ne 7, 3) := by decide +kernel
theorem dX3_fitCases_48 : decode cX3_fitCases 48 = .ok (.iconst 0, 1) := by decide +kernel
theorem dX3_fitCases_49 : decode cX3_fitCases 49 = .ok (.goto 12, 3) := by decide +kernel
theorem dX3_fitCases_52 : decode cX3_fitCases 52 = .ok (.aload_n 0, 1) := by decide +kernel
theorem dX3_fitCases_53 : decode cX3_fitCases 53 = .ok (.getfield 9, 3) := by decide +kernel
theorem dX3_fitCases_56 : decode cX3_fitCases 56 = .ok (.iload_n 2, 1) := by decide +kernel
theorem dX3_fitCases_57 : decode cX3_fitCases 57 = .ok (.iaload, 1) := by decide +kernel
theorem dX3_fitCases_58 : decode cX3_fitCases 58 = .ok (.invokestatic 57, 3) := by decide +kernel
theorem dX3_fitCases_61 : decode cX3_fitCases 61 = .ok (.iastore, 1) := by decide +kernel
theorem dX3_fitCases_62 : decode cX3_fitCases 62 = .ok (.iinc 1 1, 3) := by decide +kernel
theorem dX3_fitCases_65 : decode cX3_fitCases 65 = .ok (.goto (-63), 3) := by decide +kernel
theorem dX3_fitCases_68 : decode cX3_fitCases 68 = .ok (.return_, 1) := by decide +kernel
theorem dX3_firstFitting_0 : decode cX3_firstFitting 0 = .ok (.iconst 0, 1) := by decide +kernel
theorem dX3_firstFitting_1 : decode cX3_firstFitting 1 = .ok (.istore_n 2, 1) := by decide +kernel
theorem dX3_firstFitting_2 : decode cX3_firstFitting 2 = .ok (.iload_n 2, 1) := by decide +kernel
theorem dX3_firstFitting_3 : decode cX3_firstFitting 3 = .ok (.aload_n 0, 1) := by decide +kernel
theorem dX3_firstFitting_4 : decode cX3_firstFitting 4 = .ok (.getfield 24, 3) := by decide +kernel
theorem dX3_firstFitting_7 : decode cX3_firstFitting 7 = .ok (.if_icmp .ge 24, 3) := by decide +kernel
theorem dX3_firstFitting_10 : decode cX3_firstFitting 10 = .ok (.aload_n 0, 1) := by decide +kernel
theorem dX3_firstFitting_11 : decode cX3_firstFitting 11 = .ok (.getfield 9, 3) := by decide +kernel
theorem dX3_firstFitting_14 : decode cX3_firstFitting 14 = .ok (.iload_n 2, 1) := by decide +kernel
theorem dX3_firstFitting_15 : decode cX3_firstFitting 15 = .ok (.iaload, 1) := by decide +kernel
theorem dX3_firstFitting_16 : decode cX3_firstFitting 16 = .ok (.iload_n 1, 1) := by decide +kernel
theorem dX3_firstFitting_17 : decode cX3_firstFitting 17 = .ok (.iconst (-1), 1) := by decide +kernel
theorem dX3_firstFitting_18 : decode cX3_firstFitting 18 = .ok (.ixor, 1) := by decide +kernel
theorem dX3_firstFitting_19 : decode cX3_firstFitting 19 = .ok (.iand, 1) := by decide +kernel
theorem dX3_firstFitting_20 : decode cX3_firstFitting 20 = .ok (.ifCond .ne 5, 3) := by decide +kernel
theorem dX3_firstFitting_23 : decode cX3_firstFitting 23 = .ok (.iload_n 2, 1) := by decide +kernel
theorem dX3_firstFitting_24 : decode cX3_firstFitting 24 = .ok (.ireturn, 1) := by decide +kernel
theorem dX3_firstFitting_25 : decode cX3_firstFitting 25 = .ok (.iinc 2 1, 3) := by decide +kernel
theorem dX3_firstFitting_28 : decode cX3_firstFitting 28 = .ok (.goto (-26), 3) := by decide +kernel
theorem dX3_firstFitting_31 : decode cX3_firstFitting 31 = .ok (.bipush (-6), 2) := by decide +kernel
theorem dX3_firstFitting_33 : decode cX3_firstFitting 33 = .ok (.ireturn, 1) := by decide +kernel
theorem dX3_takeText_0 : decode cX3_takeText 0 = .ok (.aload_n 0, 1) := by decide +kernel
theorem dX3_takeText_1 : decode cX3_takeText 1 = .ok (.aload_n 1, 1) := by decide +kernel
theorem dX3_takeText_2 : decode cX3_takeText 2 = .ok (.getfield 24, 3) := by decide +kernel
theorem dX3_takeText_5 : decode cX3_takeText 5 = .ok (.putfield 24, 3) := by decide +kernel
theorem dX3_takeText_8 : decode cX3_takeText 8 = .ok (.aload_n 1, 1) := by decide +kernel
theorem dX3_takeText_9 : decode cX3_takeText 9 = .ok (.getfield 9, 3) := by decide +kernel
theorem dX3_takeText_12 : decode cX3_takeText 12 = .ok (.iconst 0, 1) := by decide +kernel
theorem dX3_takeText_13 : decode cX3_takeText 13 = .ok (.aload_n 0, 1) := by decide +kernel
theorem dX3_takeText_14 : decode cX3_takeText 14 = .ok (.getfield 9, 3) := by decide +kernel
theorem dX3_takeText_17 : decode cX3_takeText 17 = .ok (.iconst 0, 1) := by decide +kernel
theorem dX3_takeText_18 : decode cX3_takeText 18 = .ok (.bipush 6, 2) := by decide +kernel
theorem dX3_takeText_20 : decode cX3_takeText 20 = .ok (.invokestatic 62, 3) := by decide +kernel
theorem dX3_takeText_23 : decode cX3_takeText 23 = .ok (.aload_n 1, 1) := by decide +kernel
theorem dX3_takeText_24 : decode cX3_takeText 24 = .ok (.getfield 15, 3) := by decide +kernel
theorem dX3_takeText_27 : decode cX3_takeText 27 = .ok (.iconst 0, 1) := by decide +kernel
theorem dX3_takeText_28 : decode cX3_takeText 28 = .ok (.aload_n 0, 1) := by decide +kernel
theorem dX3_takeText_29 : decode cX3_takeText 29 = .ok (.getfield 15, 3) := by decide +kernel
theorem dX3_takeText_32 : decode cX3_takeText 32 = .ok (.iconst 0, 1) := by decide +kernel
theorem dX3_takeText_33 : decode cX3_takeText 33 = .ok (.bipush 6, 2) := by decide +kernel
theorem dX3_takeText_35 : decode cX3_takeText 35 = .ok (.invokestatic 62, 3) := by decide +kernel
theorem dX3_takeText_38 : decode cX3_takeText 38 = .ok (.aload_n 1, 1) := by decide +kernel
theorem dX3_takeText_39 : decode cX3_takeText 39 = .ok (.getfield 18, 3) := by decide +kernel
theorem dX3_takeText_42 : decode cX3_takeText 42 = .ok (.iconst 0, 1) := by decide +kernel
theorem dX3_takeText_43 : decode cX3_takeText 43 = .ok (.aload_n 0, 1) := by decide +kernel
theorem dX3_takeText_44 : decode cX3_takeText 44 = .ok (.getfield 18, 3) := by decide +kernel
theorem dX3_takeText_47 : decode cX3_takeText 47 = .ok (.iconst 0, 1) := by decide +kernel
theorem dX3_takeText_48 : decode cX3_takeText 48 = .ok (.bipush 32, 2) := by decide +kernel
theorem dX3_takeText_50 : decode cX3_takeText 50 = .ok (.invokestatic 62, 3) := by decide +kernel
theorem dX3_takeText_53 : decode cX3_takeText 53 = .ok (.aload_n 1, 1) := by decide +kernel
theorem dX3_takeText_54 : decode cX3_takeText 54 = .ok (.getfield 21, 3) := by decide +kernel
theorem dX3_takeText_57 : decode cX3_takeText 57 = .ok (.iconst 0, 1) := by decide +kernel
theorem dX3_takeText_58 : decode cX3_takeText 58 = .ok (.aload_n 0, 1) := by decide +kernel
theorem dX3_takeText_59 : decode cX3_takeText 59 = .ok (.getfield 21, 3) := by decide +kernel
theorem dX3_takeText_62 : decode cX3_takeText 62 = .ok (.iconst 0, 1) := by decide +kernel
theorem dX3_takeText_63 : decode cX3_takeText 63 = .ok (.bipush 32, 2) := by decide +kernel
theorem dX3_takeText_65 : decode cX3_takeText 65 = .ok (.invokestatic 62, 3) := by decide +kernel
theorem dX3_takeText_68 : decode cX3_takeText 68 = .ok (.aload_n 0, 1) := by decide +kernel
theorem dX3_takeText_69 : decode cX3_takeText 69 = .ok (.aload_n 1, 1) := by decide +kernel
theorem dX3_takeText_70 : decode cX3_takeText 70 = .ok (.getfield 28, 3) := by decide +kernel
theorem dX3_takeText_73 : decode cX3_takeText 73 = .ok (.putfield 28, 3) := by decide +kernel
theorem dX3_takeText_76 : decode cX3_takeText 76 = .ok (.aload_n 0, 1) := by decide +kernel
theorem dX3_takeText_77 : decode cX3_takeText 77 = .ok (.aload_n 1, 1) := by decide +kernel
theorem dX3_takeText_78 : decode cX3_takeText 78 = .ok (.getfield 31, 3) := by decide +kernel
theorem dX3_takeText_81 : decode cX3_takeText 81 = .ok (.putfield 31, 3) := by decide +kernel
theorem dX3_takeText_84 : decode cX3_takeText 84 = .ok (.aload_n 0, 1) := by decide +kernel
theorem dX3_takeText_85 : decode cX3_takeText 85 = .ok (.aload_n 1, 1) := by decide +kernel
theorem dX3_takeText_86 : decode cX3_takeText 86 = .ok (.getfield 34, 3) := by decide +kernel
theorem dX3_takeText_89 : decode cX3_takeText 89 = .ok (.putfield 34, 3) := by decide +kernel
theorem dX3_takeText_92 : decode cX3_takeText 92 = .ok (.aload_n 0, 1) := by decide +kernel
theorem dX3_takeText_93 : decode cX3_takeText 93 = .ok (.aload_n 1, 1) := by decide +kernel
theorem dX3_takeText_94 : decode cX3_takeText 94 = .ok (.getfield 37, 3) := by decide +kernel
theorem dX3_takeText_97 : decode cX3_takeText 97 = .ok (.putfield 37, 3) := by decide +kernel
theorem dX3_takeText_100 : decode cX3_takeText 100 = .ok (.aload_n 0, 1) := by decide +kernel
theorem dX3_takeText_101 : decode cX3_takeText 101 = .ok (.aload_n 1, 1) := by decide +kernel
theorem dX3_takeText_102 : decode cX3_takeText 102 = .ok (.getfield 41, 3) := by decide +kernel
theorem dX3_takeText_105 : decode cX3_takeText 105 = .ok (.putfield 41, 3) := by decide +kernel
theorem dX3_takeText_108 : decode cX3_takeText 108 = .ok (.aload_n 0, 1) := by decide +kernel
theorem dX3_takeText_109 : decode cX3_takeText 109 = .ok (.aload_n 1, 1) := by decide +kernel
theorem dX3_takeText_110 : decode cX3_takeText 110 = .ok (.getfield 44, 3) := by decide +kernel
theorem dX3_takeText_113 : decode cX3_takeText 113 = .ok (.putfield 44, 3) := by decide +kernel
theorem dX3_takeText_116 : decode cX3_takeText 116 = .ok (.aload_n 0, 1) := by decide +kernel
theorem dX3_takeText_117 : decode cX3_takeText 117 = .ok (.aload_n 1, 1) := by decide +kernel
theorem dX3_takeText_118 : decode cX3_takeText 118 = .ok (.getfield 47, 3) := by decide +kernel
theorem dX3_takeText_121 : decode cX3_takeText 121 = .ok (.putfield 47, 3) := by decide +kernel
theorem dX3_takeText_124 : decode cX3_takeText 124 = .ok (.aload_n 0, 1) := by decide +kernel
theorem dX3_takeText_125 : decode cX3_takeText 125 = .ok (.aload_n 1, 1) := by decide +kernel
theorem dX3_takeText_126 : decode cX3_takeText 126 = .ok (.getfield 50, 3) := by decide +kernel
theorem dX3_takeText_129 : decode cX3_takeText 129 = .ok (.putfield 50, 3) := by decide +kernel
theorem dX3_takeText_132 : decode cX3_takeText 132 = .ok (.return_, 1) := by decide +kernel
theorem dX3_copyFrom_0 : decode cX3_copyFrom 0 = .ok (.aload_n 0, 1) := by decide +kernel
theorem dX3_copyFrom_1 : decode cX3_copyFrom 1 = .ok (.aload_n 1, 1) := by decide +kernel
theorem dX3_copyFrom_2 : decode cX3_copyFrom 2 = .ok (.invokevirtual 68, 3) := by decide +kernel
theorem dX3_copyFrom_5 : decode cX3_copyFrom 5 = .ok (.aload_n 0, 1) := by decide +kernel
theorem dX3_copyFrom_6 : decode cX3_copyFrom 6 = .ok (.aload_n 1, 1) := by decide +kernel
theorem dX3_copyFrom_7 : decode cX3_copyFrom 7 = .ok (.getfield 72, 3) := by decide +kernel
theorem dX3_copyFrom_10 : decode cX3_copyFrom 10 = .ok (.putfield 72, 3) := by decide +kernel
theorem dX3_copyFrom_13 : decode cX3_copyFrom 13 = .ok (.aload_n 0, 1) := by decide +kernel
theorem dX3_copyFrom_14 : decode cX3_copyFrom 14 = .ok (.aload_n 1, 1) := by decide +kernel
theorem dX3_copyFrom_15 : decode cX3_copyFrom 15 = .ok (.getfield 75, 3) := by decide +kernel
theorem dX3_copyFrom_18 : decode cX3_copyFrom 18 = .ok (.putfield 75, 3) := by decide +kernel
theorem dX3_copyFrom_21 : decode cX3_copyFrom 21 = .ok (.return_, 1) := by decide +kernel
theorem dX3_isInForce_0 : decode cX3_isInForce 0 = .ok (.aload_n 0, 1) := by decide +kernel
theorem dX3_isInForce_1 : decode cX3_isInForce 1 = .ok (.getfield 72, 3) := by decide +kernel
theorem dX3_isInForce_4 : decode cX3_isInForce 4 = .ok (.iload_n 1, 1) := by decide +kernel
theorem dX3_isInForce_5 : decode cX3_isInForce 5 = .ok (.if_icmp .gt 15, 3) := by decide +kernel
theorem dX3_isInForce_8 : decode cX3_isInForce 8 = .ok (.iload_n 1, 1) := by decide +kernel
theorem dX3_isInForce_9 : decode cX3_isInForce 9 = .ok (.aload_n 0, 1) := by decide +kernel
theorem dX3_isInForce_10 : decode cX3_isInForce 10 = .ok (.getfield 75, 3) := by decide +kernel
theorem dX3_isInForce_13 : decode cX3_isInForce 13 = .ok (.if_icmp .ge 7, 3) := by decide +kernel
theorem dX3_isInForce_16 : decode cX3_isInForce 16 = .ok (.iconst 1, 1) := by decide +kernel
theorem dX3_isInForce_17 : decode cX3_isInForce 17 = .ok (.goto 4, 3) := by decide +kernel
theorem dX3_isInForce_20 : decode cX3_isInForce 20 = .ok (.iconst 0, 1) := by decide +kernel
theorem dX3_isInForce_21 : decode cX3_isInForce 21 = .ok (.ireturn, 1) := by decide +kernel
theorem dX3_daysInForce_0 : decode cX3_daysInForce 0 = .ok (.aload_n 0, 1) := by decide +kernel
theorem dX3_daysInForce_1 : decode cX3_daysInForce 1 = .ok (.getfield 75, 3) := by decide +kernel
theorem dX3_daysInForce_4 : decode cX3_daysInForce 4 = .ok (.aload_n 0, 1) := by decide +kernel
theorem dX3_daysInForce_5 : decode cX3_daysInForce 5 = .ok (.getfield 72, 3) := by decide +kernel
theorem dX3_daysInForce_8 : decode cX3_daysInForce 8 = .ok (.isub, 1) := by decide +kernel
theorem dX3_daysInForce_9 : decode cX3_daysInForce 9 = .ok (.ireturn, 1) := by decide +kernel
theorem dX3_giftFor_0 : decode cX3_giftFor 0 = .ok (.iload_n 1, 1) := by decide +kernel
theorem dX3_giftFor_1 : decode cX3_giftFor 1 = .ok (.ifCond .lt 18, 3) := by decide +kernel
theorem dX3_giftFor_4 : decode cX3_giftFor 4 = .ok (.iload_n 1, 1) := by decide +kernel
theorem dX3_giftFor_5 : decode cX3_giftFor 5 = .ok (.bipush 32, 2) := by decide +kernel
theorem dX3_giftFor_7 : decode cX3_giftFor 7 = .ok (.if_icmp .ge 12, 3) := by decide +kernel
theorem dX3_giftFor_10 : decode cX3_giftFor 10 = .ok (.aload_n 0, 1) := by decide +kernel
theorem dX3_giftFor_11 : decode cX3_giftFor 11 = .ok (.getfield 18, 3) := by decide +kernel
theorem dX3_giftFor_14 : decode cX3_giftFor 14 = .ok (.iload_n 1, 1) := by decide +kernel
theorem dX3_giftFor_15 : decode cX3_giftFor 15 = .ok (.iaload, 1) := by decide +kernel
theorem dX3_giftFor_16 : decode cX3_giftFor 16 = .ok (.goto 5, 3) := by decide +kernel
theorem dX3_giftFor_19 : decode cX3_giftFor 19 = .ok (.bipush (-6), 2) := by decide +kernel
theorem dX3_giftFor_21 : decode cX3_giftFor 21 = .ok (.ireturn, 1) := by decide +kernel
theorem dX3_weightFor_0 : decode cX3_weightFor 0 = .ok (.iload_n 1, 1) := by decide +kernel
theorem dX3_weightFor_1 : decode cX3_weightFor 1 = .ok (.ifCond .lt 18, 3) := by decide +kernel
theorem dX3_weightFor_4 : decode cX3_weightFor 4 = .ok (.iload_n 1, 1) := by decide +kernel
theorem dX3_weightFor_5 : decode cX3_weightFor 5 = .ok (.bipush 32, 2) := by decide +kernel
theorem dX3_weightFor_7 : decode cX3_weightFor 7 = .ok (.if_icmp .ge 12, 3) := by decide +kernel
theorem dX3_weightFor_10 : decode cX3_weightFor 10 = .ok (.aload_n 0, 1) := by decide +kernel
theorem dX3_weightFor_11 : decode cX3_weightFor 11 = .ok (.getfield 21, 3) := by decide +kernel
theorem dX3_weightFor_14 : decode cX3_weightFor 14 = .ok (.iload_n 1, 1) := by decide +kernel
theorem dX3_weightFor_15 : decode cX3_weightFor 15 = .ok (.iaload, 1) := by decide +kernel
theorem dX3_weightFor_16 : decode cX3_weightFor 16 = .ok (.goto 4, 3) := by decide +kernel
theorem dX3_weightFor_19 : decode cX3_weightFor 19 = .ok (.iconst 0, 1) := by decide +kernel
theorem dX3_weightFor_20 : decode cX3_weightFor 20 = .ok (.ireturn, 1) := by decide +kernel
theorem dX3_reachesByTime_0 : decode cX3_reachesByTime 0 = .ok (.aload_n 1, 1) := by decide +kernel
theorem dX3_reachesByTime_1 : decode cX3_reachesByTime 1 = .ok (.getfield 78, 3) := by decide +kernel
theorem dX3_reachesByTime_4 : decode cX3_reachesByTime 4 = .ok (.aload_n 0, 1) := by decide +kernel
theorem dX3_reachesByTime_5 : decode cX3_reachesByTime 5 = .ok (.getfield 72, 3) := by decide +kernel
theorem dX3_reachesByTime_8 : decode cX3_reachesByTime 8 = .ok (.if_icmp .lt 7, 3) := by decide +kernel
theorem dX3_reachesByTime_11 : decode cX3_reachesByTime 11 = .ok (.iconst 1, 1) := by decide +kernel
theorem dX3_reachesByTime_12 : decode cX3_reachesByTime 12 = .ok (.goto 4, 3) := by decide +kernel
theorem dX3_reachesByTime_15 : decode cX3_reachesByTime 15 = .ok (.iconst 0, 1) := by decide +kernel
theorem dX3_reachesByTime_16 : decode cX3_reachesByTime 16 = .ok (.istore_n 2, 1) := by decide +kernel
theorem dX3_reachesByTime_17 : decode cX3_reachesByTime 17 = .ok (.aload_n 1, 1) := by decide +kernel
theorem dX3_reachesByTime_18 : decode cX3_reachesByTime 18 = .ok (.getfield 83, 3) := by decide +kernel
theorem dX3_reachesByTime_21 : decode cX3_reachesByTime 21 = .ok (.bipush (-6), 2) := by decide +kernel
theorem dX3_reachesByTime_23 : decode cX3_reachesByTime 23 = .ok (.if_icmp .eq 14, 3) := by decide +kernel
theorem dX3_reachesByTime_26 : decode cX3_reachesByTime 26 = .ok (.aload_n 1, 1) := by decide +kernel
theorem dX3_reachesByTime_27 : decode cX3_reachesByTime 27 = .ok (.getfield 83, 3) := by decide +kernel
theorem dX3_reachesByTime_30 : decode cX3_reachesByTime 30 = .ok (.aload_n 0, 1) := by decide +kernel
theorem dX3_reachesByTime_31 : decode cX3_reachesByTime 31 = .ok (.getfield 72, 3) := by decide +kernel
theorem dX3_reachesByTime_34 : decode cX3_reachesByTime 34 = .ok (.if_icmp .lt 7, 3) := by decide +kernel
theorem dX3_reachesByTime_37 : decode cX3_reachesByTime 37 = .ok (.iconst 1, 1) := by decide +kernel
theorem dX3_reachesByTime_38 : decode cX3_reachesByTime 38 = .ok (.goto 4, 3) := by decide +kernel
theorem dX3_reachesByTime_41 : decode cX3_reachesByTime 41 = .ok (.iconst 0, 1) := by decide +kernel
theorem dX3_reachesByTime_42 : decode cX3_reachesByTime 42 = .ok (.istore_n 3, 1) := by decide +kernel
theorem dX3_reachesByTime_43 : decode cX3_reachesByTime 43 = .ok (.aload_n 0, 1) := by decide +kernel
theorem dX3_reachesByTime_44 : decode cX3_reachesByTime 44 = .ok (.getfield 37, 3) := by decide +kernel
theorem dX3_reachesByTime_47 : decode cX3_reachesByTime 47 = .ok (.ifCond .eq 9, 3) := by decide +kernel
theorem dX3_reachesByTime_50 : decode cX3_reachesByTime 50 = .ok (.iload_n 3, 1) := by decide +kernel
theorem dX3_reachesByTime_51 : decode cX3_reachesByTime 51 = .ok (.ifCond .ne 5, 3) := by decide +kernel
theorem dX3_reachesByTime_54 : decode cX3_reachesByTime 54 = .ok (.iconst 0, 1) := by decide +kernel
theorem dX3_reachesByTime_55 : decode cX3_reachesByTime 55 = .ok (.ireturn, 1) := by decide +kernel
theorem dX3_reachesByTime_56 : decode cX3_reachesByTime 56 = .ok (.aload_n 0, 1) := by decide +kernel
theorem dX3_reachesByTime_57 : decode cX3_reachesByTime 57 = .ok (.getfield 34, 3) := by decide +kernel
theorem dX3_reachesByTime_60 : decode cX3_reachesByTime 60 = .ok (.bipush 97, 2) := by decide +kernel
theorem dX3_reachesByTime_62 : decode cX3_reachesByTime 62 = .ok (.if_icmp .ne 5, 3) := by decide +kernel
theorem dX3_reachesByTime_65 : decode cX3_reachesByTime 65 = .ok (.iconst 1, 1) := by decide +kernel
theorem dX3_reachesByTime_66 : decode cX3_reachesByTime 66 = .ok (.ireturn, 1) := by decide +kernel
theorem dX3_reachesByTime_67 : decode cX3_reachesByTime 67 = .ok (.iload_n 2, 1) := by decide +kernel
theorem dX3_reachesByTime_68 : decode cX3_reachesByTime 68 = .ok (.ifCond .ne 16, 3) := by decide +kernel
theorem dX3_reachesByTime_71 : decode cX3_reachesByTime 71 = .ok (.aload_n 0, 1) := by decide +kernel
theorem dX3_reachesByTime_72 : decode cX3_reachesByTime 72 = .ok (.getfield 34, 3) := by decide +kernel
theorem dX3_reachesByTime_75 : decode cX3_reachesByTime 75 = .ok (.bipush 104, 2) := by decide +kernel
theorem dX3_reachesByTime_77 : decode cX3_reachesByTime 77 = .ok (.if_icmp .ne 11, 3) := by decide +kernel
theorem dX3_reachesByTime_80 : decode cX3_reachesByTime 80 = .ok (.iload_n 3, 1) := by decide +kernel
theorem dX3_reachesByTime_81 : decode cX3_reachesByTime 81 = .ok (.ifCond .eq 7, 3) := by decide +kernel
theorem dX3_reachesByTime_84 : decode cX3_reachesByTime 84 = .ok (.iconst 1, 1) := by decide +kernel
theorem dX3_reachesByTime_85 : decode cX3_reachesByTime 85 = .ok (.goto 4, 3) := by decide +kernel
theorem dX3_reachesByTime_88 : decode cX3_reachesByTime 88 = .ok (.iconst 0, 1) := by decide +kernel
theorem dX3_reachesByTime_89 : decode cX3_reachesByTime 89 = .ok (.ireturn, 1) := by decide +kernel
theorem dX4_init_0 : decode cX4_init 0 = .ok (.aload_n 0, 1) := by decide +kernel
theorem dX4_init_1 : decode cX4_init 1 = .ok (.invokespecial 3, 3) := by decide +kernel
theorem dX4_init_4 : decode cX4_init 4 = .ok (.aload_n 0, 1) := by decide +kernel
theorem dX4_init_5 : decode cX4_init 5 = .ok (.aload_n 1, 1) := by decide +kernel
theorem dX4_init_6 : decode cX4_init 6 = .ok (.putfield 9, 3) := by decide +kernel
theorem dX4_init_9 : decode cX4_init 9 = .ok (.aload_n 0, 1) := by decide +kernel
theorem dX4_init_10 : decode cX4_init 10 = .ok (.aload_n 2, 1) := by decide +kernel
theorem dX4_init_11 : decode cX4_init 11 = .ok (.putfield 15, 3) := by decide +kernel
theorem dX4_init_14 : decode cX4_init 14 = .ok (.aload_n 0, 1) := by decide +kernel
theorem dX4_init_15 : decode cX4_init 15 = .ok (.bipush 8, 2) := by decide +kernel
theorem dX4_init_17 : decode cX4_init 17 = .ok (.newarray .int, 2) := by decide +kernel
theorem dX4_init_19 : decode cX4_init 19 = .ok (.putfield 19, 3) := by decide +kernel
theorem dX4_init_22 : decode cX4_init 22 = .ok (.return_, 1) := by decide +kernel
theorem dX4_search_0 : decode cX4_search 0 = .ok (.aload_n 0, 1) := by decide +kernel
theorem dX4_search_1 : decode cX4_search 1 = .ok (.iload_n 2, 1) := by decide +kernel
theorem dX4_search_2 : decode cX4_search 2 = .ok (.invokevirtual 23, 3) := by decide +kernel
theorem dX4_search_5 : decode cX4_search 5 = .ok (.aload_n 1, 1) := by decide +kernel
theorem dX4_search_6 : decode cX4_search 6 = .ok (.getfield 27, 3) := by decide +kernel
theorem dX4_search_9 : decode cX4_search 9 = .ok (.istore_n 3, 1) := by decide +kernel
theorem dX4_search_10 : decode cX4_search 10 = .ok (.aload_n 1, 1) := by decide +kernel
theorem dX4_search_11 : decode cX4_search 11 = .ok (.getfield 33, 3) := by decide +kernel
theorem dX4_search_14 : decode cX4_search 14 = .ok (.istore 4, 2) := by decide +kernel
theorem dX4_search_16 : decode cX4_search 16 = .ok (.aload_n 0, 1) := by decide +kernel
theorem dX4_search_17 : decode cX4_search 17 = .ok (.bipush (-6), 2) := by decide +kernel
theorem dX4_search_19 : decode cX4_search 19 = .ok (.putfield 37, 3) := by decide +kernel
theorem dX4_search_22 : decode cX4_search 22 = .ok (.iconst 0, 1) := by decide +kernel
theorem dX4_search_23 : decode cX4_search 23 = .ok (.istore 5, 2) := by decide +kernel
theorem dX4_search_25 : decode cX4_search 25 = .ok (.iload 5, 2) := by decide +kernel
theorem dX4_search_27 : decode cX4_search 27 = .ok (.iconst 2, 1) := by decide +kernel
theorem dX4_search_28 : decode cX4_search 28 = .ok (.getstatic 40, 3) := by decide +kernel
theorem dX4_search_31 : decode cX4_search 31 = .ok (.arraylength, 1) := by decide +kernel
theorem dX4_search_32 : decode cX4_search 32 = .ok (.imul, 1) := by decide +kernel
theorem dX4_search_33 : decode cX4_search 33 = .ok (.if_icmp .ge 171, 3) := by decide +kernel
theorem dX4_search_36 : decode cX4_search 36 = .ok (.aload_n 1, 1) := by decide +kernel
theorem dX4_search_37 : decode cX4_search 37 = .ok (.getstatic 40, 3) := by decide +kernel
theorem dX4_search_40 : decode cX4_search 40 = .ok (.iload 5, 2) := by decide +kernel
theorem dX4_search_42 : decode cX4_search 42 = .ok (.iconst 2, 1) := by decide +kernel
theorem dX4_search_43 : decode cX4_search 43 = .ok (.idiv, 1) := by decide +kernel
theorem dX4_search_44 : decode cX4_search 44 = .ok (.iaload, 1) := by decide +kernel
theorem dX4_search_45 : decode cX4_search 45 = .ok (.putfield 43, 3) := by decide +kernel
theorem dX4_search_48 : decode cX4_search 48 = .ok (.aload_n 1, 1) := by decide +kernel
theorem dX4_search_49 : decode cX4_search 49 = .ok (.iload 5, 2) := by decide +kernel
theorem dX4_search_51 : decode cX4_search 51 = .ok (.iconst 2, 1) := by decide +kernel
theorem dX4_search_52 : decode cX4_search 52 = .ok (.irem, 1) := by decide +kernel
theorem dX4_search_53 : decode cX4_search 53 = .ok (.iconst 1, 1) := by decide +kernel
theorem dX4_search_54 : decode cX4_search 54 = .ok (.if_icmp .ne 7, 3) := by decide +kernel
theorem dX4_search_57 : decode cX4_search 57 = .ok (.iconst 1, 1) := by decide +kernel
theorem dX4_search_58 : decode cX4_search 58 = .ok (.goto 4, 3) := by decide +kernel
theorem dX4_search_61 : decode cX4_search 61 = .ok (.iconst 0, 1) := by decide +kernel
theorem dX4_search_62 : decode cX4_search 62 = .ok (.putfield 33, 3) := by decide +kernel
theorem dX4_search_65 : decode cX4_search 65 = .ok (.aload_n 1, 1) := by decide +kernel
theorem dX4_search_66 : decode cX4_search 66 = .ok (.getfield 46, 3) := by decide +kernel
theorem dX4_search_69 : decode cX4_search 69 = .ok (.bipush (-6), 2) := by decide +kernel
theorem dX4_search_71 : decode cX4_search 71 = .ok (.if_icmp .ne 14, 3) := by decide +kernel
theorem dX4_search_74 : decode cX4_search 74 = .ok (.aload_n 1, 1) := by decide +kernel
theorem dX4_search_75 : decode cX4_search 75 = .ok (.getfield 49, 3) := by decide +kernel
theorem dX4_search_78 : decode cX4_search 78 = .ok (.aload_n 1, 1) := by decide +kernel
theorem dX4_search_79 : decode cX4_search 79 = .ok (.getfield 43, 3) := by decide +kernel
theorem dX4_search_82 : decode cX4_search 82 = .ok (.if_icmp .eq 7, 3) := by decide +kernel
theorem dX4_search_85 : decode cX4_search 85 = .ok (.iconst 1, 1) := by decide +kernel
theorem dX4_search_86 : decode cX4_search 86 = .ok (.goto 4, 3) := by decide +kernel
theorem dX4_search_89 : decode cX4_search 89 = .ok (.iconst 0, 1) := by decide +kernel
theorem dX4_search_90 : decode cX4_search 90 = .ok (.istore 6, 2) := by decide +kernel
theorem dX4_search_92 : decode cX4_search 92 = .ok (.aload_n 1, 1) := by decide +kernel
theorem dX4_search_93 : decode cX4_search 93 = .ok (.getfield 33, 3) := by decide +kernel
theorem dX4_search_96 : decode cX4_search 96 = .ok (.iload 4, 2) := by decide +kernel
theorem dX4_search_98 : decode cX4_search 98 = .ok (.if_icmp .eq 6, 3) := by decide +kernel
theorem dX4_search_101 : decode cX4_search 101 = .ok (.iinc 6 1, 3) := by decide +kernel
theorem dX4_search_104 : decode cX4_search 104 = .ok (.iconst (-1), 1) := by decide +kernel
theorem dX4_search_105 : decode cX4_search 105 = .ok (.istore 7, 2) := by decide +kernel
theorem dX4_search_107 : decode cX4_search 107 = .ok (.iload 7, 2) := by decide +kernel
theorem dX4_search_109 : decode cX4_search 109 = .ok (.aload_n 0, 1) := by decide +kernel
theorem dX4_search_110 : decode cX4_search 110 = .ok (.getfield 9, 3) := by decide +kernel
theorem dX4_search_113 : decode cX4_search 113 = .ok (.getfield 52, 3) := by decide +kernel
theorem dX4_search_116 : decode cX4_search 116 = .ok (.if_icmp .ge 82, 3) := by decide +kernel
theorem dX4_search_119 : decode cX4_search 119 = .ok (.iload 7, 2) := by decide +kernel
theorem dX4_search_121 : decode cX4_search 121 = .ok (.ifCond .ge 8, 3) := by decide +kernel
theorem dX4_search_124 : decode cX4_search 124 = .ok (.iload 6, 2) := by decide +kernel
theorem dX4_search_126 : decode cX4_search 126 = .ok (.goto 7, 3) := by decide +kernel
theorem dX4_search_129 : decode cX4_search 129 = .ok (.iload 6, 2) := by decide +kernel
theorem dX4_search_131 : decode cX4_search 131 = .ok (.iconst 1, 1) := by decide +kernel
theorem dX4_search_132 : decode cX4_search 132 = .ok (.iadd, 1) := by decide +kernel
theorem dX4_search_133 : decode cX4_search 133 = .ok (.istore 8, 2) := by decide +kernel
theorem dX4_search_135 : decode cX4_search 135 = .ok (.aload_n 0, 1) := by decide +kernel
theorem dX4_search_136 : decode cX4_search 136 = .ok (.getfield 37, 3) := by decide +kernel
theorem dX4_search_139 : decode cX4_search 139 = .ok (.bipush (-6), 2) := by decide +kernel
theorem dX4_search_141 : decode cX4_search 141 = .ok (.if_icmp .eq 15, 3) := by decide +kernel
theorem dX4_search_144 : decode cX4_search 144 = .ok (.iload 8, 2) := by decide +kernel
theorem dX4_search_146 : decode cX4_search 146 = .ok (.aload_n 0, 1) := by decide +kernel
theorem dX4_search_147 : decode cX4_search 147 = .ok (.getfield 37, 3) := by decide +kernel
theorem dX4_search_150 : decode cX4_search 150 = .ok (.if_icmp .lt 6, 3) := by decide +kernel
theorem dX4_search_153 : decode cX4_search 153 = .ok (.goto 45, 3) := by decide +kernel
theorem dX4_search_156 : decode cX4_search 156 = .ok (.aload_n 1, 1) := by decide +kernel
theorem dX4_search_157 : decode cX4_search 157 = .ok (.iload 7, 2) := by decide +kernel
theorem dX4_search_159 : decode cX4_search 159 = .ok (.ifCond .ge 7, 3) := by decide +kernel
theorem dX4_search_162 : decode cX4_search 162 = .ok (.iload_n 3, 1) := by decide +kernel
theorem dX4_search_163 : decode cX4_search 163 = .ok (.goto 9, 3) := by decide +kernel
theorem dX4_search_166 : decode cX4_search 166 = .ok (.iload_n 3, 1) := by decide +kernel
theorem dX4_search_167 : decode cX4_search 167 = .ok (.iconst 1, 1) := by decide +kernel
theorem dX4_search_168 : decode cX4_search 168 = .ok (.iload 7, 2) := by decide +kernel
theorem dX4_search_170 : decode cX4_search 170 = .ok (.ishl, 1) := by decide +kernel
theorem dX4_search_171 : decode cX4_search 171 = .ok (.ior, 1) := by decide +kernel
theorem dX4_search_172 : decode cX4_search 172 = .ok (.putfield 27, 3) := by decide +kernel
theorem dX4_search_175 : decode cX4_search 175 = .ok (.aload_n 0, 1) := by decide +kernel
theorem dX4_search_176 : decode cX4_search 176 = .ok (.iload_n 2, 1) := by decide +kernel
theorem dX4_search_177 : decode cX4_search 177 = .ok (.invokevirtual 57, 3) := by decide +kernel
theorem dX4_search_180 : decode cX4_search 180 = .ok (.ifCond .eq 12, 3) := by decide +kernel
theorem dX4_search_183 : decode cX4_search 183 = .ok (.aload_n 0, 1) := by decide +kernel
theorem dX4_search_184 : decode cX4_search 184 = .ok (.iload 8, 2) := by decide +kernel
theorem dX4_search_186 : decode cX4_search 186 = .ok (.aload_n 1, 1) := by decide +kernel
theorem dX4_search_187 : decode cX4_search 187 = .ok (.iload 7, 2) := by decide +kernel
theorem dX4_search_189 : decode cX4_search 189 = .ok (.invokevirtual 61, 3) := by decide +kernel
theorem dX4_search_192 : decode cX4_search 192 = .ok (.iinc 7 1, 3) := by decide +kernel
theorem dX4_search_195 : decode cX4_search 195 = .ok (.goto (-88), 3) := by decide +kernel
theorem dX4_search_198 : decode cX4_search 198 = .ok (.iinc 5 1, 3) := by decide +kernel
theorem dX4_search_201 : decode cX4_search 201 = .ok (.goto (-176), 3) := by decide +kernel
theorem dX4_search_204 : decode cX4_search 204 = .ok (.aload_n 1, 1) := by decide +kernel
theorem dX4_search_205 : decode cX4_search 205 = .ok (.aload_n 1, 1) := by decide +kernel
theorem dX4_search_206 : decode cX4_search 206 = .ok (.getfield 49, 3) := by decide +kernel
theorem dX4_search_209 : decode cX4_search 209 = .ok (.putfield 43, 3) := by decide +kernel
theorem dX4_search_212 : decode cX4_search 212 = .ok (.aload_n 1, 1) := by decide +kernel
theorem dX4_search_213 : decode cX4_search 213 = .ok (.iload 4, 2) := by decide +kernel
theorem dX4_search_215 : decode cX4_search 215 = .ok (.putfield 33, 3) := by decide +kernel
theorem dX4_search_218 : decode cX4_search 218 = .ok (.aload_n 1, 1) := by decide +kernel
theorem dX4_search_219 : decode cX4_search 219 = .ok (.iload_n 3, 1) := by decide +kernel
theorem dX4_search_220 : decode cX4_search 220 = .ok (.putfield 27, 3) := by decide +kernel
theorem dX4_search_223 : decode cX4_search 223 = .ok (.return_, 1) := by decide +kernel
theorem dX4_settleDue_0 : decode cX4_settleDue 0 = .ok (.iconst 0, 1) := by decide +kernel
theorem dX4_settleDue_1 : decode cX4_settleDue 1 = .ok (.istore_n 2, 1) := by decide +kernel
theorem dX4_settleDue_2 : decode cX4_settleDue 2 = .ok (.iload_n 2, 1) := by decide +kernel
theorem dX4_settleDue_3 : decode cX4_settleDue 3 = .ok (.aload_n 0, 1) := by decide +kernel
theorem dX4_settleDue_4 : decode cX4_settleDue 4 = .ok (.getfield 9, 3) := by decide +kernel
theorem dX4_settleDue_7 : decode cX4_settleDue 7 = .ok (.getfield 65, 3) := by decide +kernel
theorem dX4_settleDue_10 : decode cX4_settleDue 10 = .ok (.if_icmp .ge 50, 3) := by decide +kernel
theorem dX4_settleDue_13 : decode cX4_settleDue 13 = .ok (.aload_n 0, 1) := by decide +kernel
theorem dX4_settleDue_14 : decode cX4_settleDue 14 = .ok (.getfield 9, 3) := by decide +kernel
theorem dX4_settleDue_17 : decode cX4_settleDue 17 = .ok (.getfield 68, 3) := by decide +kernel
theorem dX4_settleDue_20 : decode cX4_settleDue 20 = .ok (.iload_n 2, 1) := by decide +kernel
theorem dX4_settleDue_21 : decode cX4_settleDue 21 = .ok (.aaload, 1) := by decide +kernel
theorem dX4_settleDue_22 : decode cX4_settleDue 22 = .ok (.astore_n 3, 1) := by decide +kernel
theorem dX4_settleDue_23 : decode cX4_settleDue 23 = .ok (.aload_n 0, 1) := by decide +kernel
theorem dX4_settleDue_24 : decode cX4_settleDue 24 = .ok (.getfield 19, 3) := by decide +kernel
theorem dX4_settleDue_27 : decode cX4_settleDue 27 = .ok (.iload_n 2, 1) := by decide +kernel
theorem dX4_settleDue_28 : decode cX4_settleDue 28 = .ok (.aload_n 3, 1) := by decide +kernel
theorem dX4_settleDue_29 : decode cX4_settleDue 29 = .ok (.getfield 72, 3) := by decide +kernel
theorem dX4_settleDue_32 : decode cX4_settleDue 32 = .ok (.bipush (-6), 2) := by decide +kernel
theorem dX4_settleDue_34 : decode cX4_settleDue 34 = .ok (.if_icmp .eq 10, 3) := by decide +kernel
theorem dX4_settleDue_37 : decode cX4_settleDue 37 = .ok (.aload_n 3, 1) := by decide +kernel
theorem dX4_settleDue_38 : decode cX4_settleDue 38 = .ok (.getfield 72, 3) := by decide +kernel
theorem dX4_settleDue_41 : decode cX4_settleDue 41 = .ok (.goto 12, 3) := by decide +kernel
theorem dX4_settleDue_44 : decode cX4_settleDue 44 = .ok (.aload_n 0, 1) := by decide +kernel
theorem dX4_settleDue_45 : decode cX4_settleDue 45 = .ok (.getfield 15, 3) := by decide +kernel
theorem dX4_settleDue_48 : decode cX4_settleDue 48 = .ok (.aload_n 3, 1) := by decide +kernel
theorem dX4_settleDue_49 : decode cX4_settleDue 49 = .ok (.iload_n 1, 1) := by decide +kernel
theorem dX4_settleDue_50 : decode cX4_settleDue 50 = .ok (.invokevirtual 77, 3) := by decide +kernel
theorem dX4_settleDue_53 : decode cX4_settleDue 53 = .ok (.iastore, 1) := by decide +kernel
theorem dX4_settleDue_54 : decode cX4_settleDue 54 = .ok (.iinc 2 1, 3) := by decide +kernel
theorem dX4_settleDue_57 : decode cX4_settleDue 57 = .ok (.goto (-55), 3) := by decide +kernel
theorem dX4_settleDue_60 : decode cX4_settleDue 60 = .ok (.return_, 1) := by decide +kernel
theorem dX4_keep_0 : decode cX4_keep 0 = .ok (.aload_n 0, 1) := by decide +kernel
theorem dX4_keep_1 : decode cX4_keep 1 = .ok (.iload_n 1, 1) := by decide +kernel
theorem dX4_keep_2 : decode cX4_keep 2 = .ok (.putfield 37, 3) := by decide +kernel
theorem dX4_keep_5 : decode cX4_keep 5 = .ok (.aload_n 0, 1) := by decide +kernel
theorem dX4_keep_6 : decode cX4_keep 6 = .ok (.aload_n 2, 1) := by decide +kernel
theorem dX4_keep_7 : decode cX4_keep 7 = .ok (.getfield 43, 3) := by decide +kernel
theorem dX4_keep_10 : decode cX4_keep 10 = .ok (.putfield 83, 3) := by decide +kernel
theorem dX4_keep_13 : decode cX4_keep 13 = .ok (.aload_n 0, 1) := by decide +kernel
theorem dX4_keep_14 : decode cX4_keep 14 = .ok (.aload_n 2, 1) := by decide +kernel
theorem dX4_keep_15 : decode cX4_keep 15 = .ok (.getfield 33, 3) := by decide +kernel
theorem dX4_keep_18 : decode cX4_keep 18 = .ok (.ifCond .eq 7, 3) := by decide +kernel
theorem dX4_keep_21 : decode cX4_keep 21 = .ok (.iconst 1, 1) := by decide +kernel
theorem dX4_keep_22 : decode cX4_keep 22 = .ok (.goto 4, 3) := by decide +kernel
theorem dX4_keep_25 : decode cX4_keep 25 = .ok (.iconst 0, 1) := by decide +kernel
theorem dX4_keep_26 : decode cX4_keep 26 = .ok (.putfield 84, 3) := by decide +kernel
theorem dX4_keep_29 : decode cX4_keep 29 = .ok (.aload_n 0, 1) := by decide +kernel
theorem dX4_keep_30 : decode cX4_keep 30 = .ok (.iload_n 3, 1) := by decide +kernel
theorem dX4_keep_31 : decode cX4_keep 31 = .ok (.ifCond .ge 8, 3) := by decide +kernel
theorem dX4_keep_34 : decode cX4_keep 34 = .ok (.bipush (-6), 2) := by decide +kernel
theorem dX4_keep_36 : decode cX4_keep 36 = .ok (.goto 4, 3) := by decide +kernel
theorem dX4_keep_39 : decode cX4_keep 39 = .ok (.iload_n 3, 1) := by decide +kernel
theorem dX4_keep_40 : decode cX4_keep 40 = .ok (.putfield 86, 3) := by decide +kernel
theorem dX4_keep_43 : decode cX4_keep 43 = .ok (.return_, 1) := by decide +kernel
theorem dX4_comesOut_0 : decode cX4_comesOut 0 = .ok (.iconst 0, 1) := by decide +kernel
theorem dX4_comesOut_1 : decode cX4_comesOut 1 = .ok (.istore_n 2, 1) := by decide +kernel
theorem dX4_comesOut_2 : decode cX4_comesOut 2 = .ok (.iload_n 2, 1) := by decide +kernel
theorem dX4_comesOut_3 : decode cX4_comesOut 3 = .ok (.aload_n 0, 1) := by decide +kernel
theorem dX4_comesOut_4 : decode cX4_comesOut 4 = .ok (.getfield 9, 3) := by decide +kernel
theorem dX4_comesOut_7 : decode cX4_comesOut 7 = .ok (.getfield 65, 3) := by decide +kernel
theorem dX4_comesOut_10 : decode cX4_comesOut 10 = .ok (.if_icmp .ge 37, 3) := by decide +kernel
theorem dX4_comesOut_13 : decode cX4_comesOut 13 = .ok (.aload_n 0, 1) := by decide +kernel
theorem dX4_comesOut_14 : decode cX4_comesOut 14 = .ok (.getfield 15, 3) := by decide +kernel
theorem dX4_comesOut_17 : decode cX4_comesOut 17 = .ok (.aload_n 0, 1) := by decide +kernel
theorem dX4_comesOut_18 : decode cX4_comesOut 18 = .ok (.getfield 9, 3) := by decide +kernel
theorem dX4_comesOut_21 : decode cX4_comesOut 21 = .ok (.getfield 68, 3) := by decide +kernel
theorem dX4_comesOut_24 : decode cX4_comesOut 24 = .ok (.iload_n 2, 1) := by decide +kernel
theorem dX4_comesOut_25 : decode cX4_comesOut 25 = .ok (.aaload, 1) := by decide +kernel
theorem dX4_comesOut_26 : decode cX4_comesOut 26 = .ok (.iload_n 1, 1) := by decide +kernel
theorem dX4_comesOut_27 : decode cX4_comesOut 27 = .ok (.invokevirtual 77, 3) := by decide +kernel
theorem dX4_comesOut_30 : decode cX4_comesOut 30 = .ok (.aload_n 0, 1) := by decide +kernel
theorem dX4_comesOut_31 : decode cX4_comesOut 31 = .ok (.getfield 19, 3) := by decide +kernel
theorem dX4_comesOut_34 : decode cX4_comesOut 34 = .ok (.iload_n 2, 1) := by decide +kernel
theorem dX4_comesOut_35 : decode cX4_comesOut 35 = .ok (.iaload, 1) := by decide +kernel
theorem dX4_comesOut_36 : decode cX4_comesOut 36 = .ok (.if_icmp .eq 5, 3) := by decide +kernel
theorem dX4_comesOut_39 : decode cX4_comesOut 39 = .ok (.iconst 0, 1) := by decide +kernel
theorem dX4_comesOut_40 : decode cX4_comesOut 40 = .ok (.ireturn, 1) := by decide +kernel
theorem dX4_comesOut_41 : decode cX4_comesOut 41 = .ok (.iinc 2 1, 3) := by decide +kernel
theorem dX4_comesOut_44 : decode cX4_comesOut 44 = .ok (.goto (-42), 3) := by decide +kernel
theorem dX4_comesOut_47 : decode cX4_comesOut 47 = .ok (.iconst 1, 1) := by decide +kernel
theorem dX4_comesOut_48 : decode cX4_comesOut 48 = .ok (.ireturn, 1) := by decide +kernel
theorem dX5_init_0 : decode cX5_init 0 = .ok (.aload_n 0, 1) := by decide +kernel
theorem dX5_init_1 : decode cX5_init 1 = .ok (.invokespecial 3, 3) := by decide +kernel
theorem dX5_init_4 : decode cX5_init 4 = .ok (.aload_n 0, 1) := by decide +kernel
theorem dX5_init_5 : decode cX5_init 5 = .ok (.bipush 60, 2) := by decide +kernel
theorem dX5_init_7 : decode cX5_init 7 = .ok (.newarray .int, 2) := by decide +kernel
theorem dX5_init_9 : decode cX5_init 9 = .ok (.putfield 9, 3) := by decide +kernel
theorem dX5_init_12 : decode cX5_init 12 = .ok (.return_, 1) := by decide +kernel
theorem dX5_add_0 : decode cX5_add 0 = .ok (.aload_n 0, 1) := by decide +kernel
theorem dX5_add_1 : decode cX5_add 1 = .ok (.getfield 15, 3) := by decide +kernel
theorem dX5_add_4 : decode cX5_add 4 = .ok (.aload_n 0, 1) := by decide +kernel
theorem dX5_add_5 : decode cX5_add 5 = .ok (.getfield 9, 3) := by decide +kernel
theorem dX5_add_8 : decode cX5_add 8 = .ok (.arraylength, 1) := by decide +kernel
theorem dX5_add_9 : decode cX5_add 9 = .ok (.if_icmp .lt 5, 3) := by decide +kernel
theorem dX5_add_12 : decode cX5_add 12 = .ok (.iconst 0, 1) := by decide +kernel
theorem dX5_add_13 : decode cX5_add 13 = .ok (.ireturn, 1) := by decide +kernel
theorem dX5_add_14 : decode cX5_add 14 = .ok (.aload_n 0, 1) := by decide +kernel
theorem dX5_add_15 : decode cX5_add 15 = .ok (.getfield 9, 3) := by decide +kernel
theorem dX5_add_18 : decode cX5_add 18 = .ok (.aload_n 0, 1) := by decide +kernel
theorem dX5_add_19 : decode cX5_add 19 = .ok (.getfield 15, 3) := by decide +kernel
theorem dX5_add_22 : decode cX5_add 22 = .ok (.iload_n 1, 1) := by decide +kernel
theorem dX5_add_23 : decode cX5_add 23 = .ok (.iastore, 1) := by decide +kernel
theorem dX5_add_24 : decode cX5_add 24 = .ok (.aload_n 0, 1) := by decide +kernel
theorem dX5_add_25 : decode cX5_add 25 = .ok (.dup, 1) := by decide +kernel
theorem dX5_add_26 : decode cX5_add 26 = .ok (.getfield 15, 3) := by decide +kernel
theorem dX5_add_29 : decode cX5_add 29 = .ok (.iconst 1, 1) := by decide +kernel
theorem dX5_add_30 : decode cX5_add 30 = .ok (.iadd, 1) := by decide +kernel
theorem dX5_add_31 : decode cX5_add 31 = .ok (.putfield 15, 3) := by decide +kernel
theorem dX5_add_34 : decode cX5_add 34 = .ok (.iconst 1, 1) := by decide +kernel
theorem dX5_add_35 : decode cX5_add 35 = .ok (.ireturn, 1) := by decide +kernel
theorem dX5_clear_0 : decode cX5_clear 0 = .ok (.aload_n 0, 1) := by decide +kernel
theorem dX5_clear_1 : decode cX5_clear 1 = .ok (.iconst 0, 1) := by decide +kernel
theorem dX5_clear_2 : decode cX5_clear 2 = .ok (.putfield 15, 3) := by decide +kernel
theorem dX5_clear_5 : decode cX5_clear 5 = .ok (.return_, 1) := by decide +kernel
theorem dX5_readInto_0 : decode cX5_readInto 0 = .ok (.aload_n 1, 1) := by decide +kernel
theorem dX5_readInto_1 : decode cX5_readInto 1 = .ok (.invokevirtual 19, 3) := by decide +kernel
theorem dX5_readInto_4 : decode cX5_readInto 4 = .ok (.aload_n 0, 1) := by decide +kernel
theorem dX5_readInto_5 : decode cX5_readInto 5 = .ok (.iconst 0, 1) := by decide +kernel
theorem dX5_readInto_6 : decode cX5_readInto 6 = .ok (.putfield 24, 3) := by decide +kernel
theorem dX5_readInto_9 : decode cX5_readInto 9 = .ok (.aload_n 0, 1) := by decide +kernel
theorem dX5_readInto_10 : decode cX5_readInto 10 = .ok (.aload_n 1, 1) := by decide +kernel
theorem dX5_readInto_11 : decode cX5_readInto 11 = .ok (.invokevirtual 27, 3) := by decide +kernel
theorem dX5_readInto_14 : decode cX5_readInto 14 = .ok (.istore_n 2, 1) := by decide +kernel
theorem dX5_readInto_15 : decode cX5_readInto 15 = .ok (.iload_n 2, 1) := by decide +kernel
theorem dX5_readInto_16 : decode cX5_readInto 16 = .ok (.ifCond .eq 18, 3) := by decide +kernel
theorem dX5_readInto_19 : decode cX5_readInto 19 = .ok (.aload_n 0, 1) := by decide +kernel
theorem dX5_readInto_20 : decode cX5_readInto 20 = .ok (.bipush 47, 2) := by decide +kernel
theorem dX5_readInto_22 : decode cX5_readInto 22 = .ok (.invokevirtual 31, 3) := by decide +kernel
theorem dX5_readInto_25 : decode cX5_readInto 25 = .ok (.ifCond .eq 9, 3) := by decide +kernel
theorem dX5_readInto_28 : decode cX5_readInto 28 = .ok (.aload_n 0, 1) := by decide +kernel
theorem dX5_readInto_29 : decode cX5_readInto 29 = .ok (.aload_n 1, 1) := by decide +kernel
theorem dX5_readInto_30 : decode cX5_readInto 30 = .ok (.invokevirtual 35, 3) := by decide +kernel
theorem dX5_readInto_33 : decode cX5_readInto 33 = .ok (.istore_n 2, 1) := by decide +kernel
theorem dX5_readInto_34 : decode cX5_readInto 34 = .ok (.iload_n 2, 1) := by decide +kernel
theorem dX5_readInto_35 : decode cX5_readInto 35 = .ok (.ifCond .eq 14, 3) := by decide +kernel
theorem dX5_readInto_38 : decode cX5_readInto 38 = .ok (.aload_n 0, 1) := by decide +kernel
theorem dX5_readInto_39 : decode cX5_readInto 39 = .ok (.getfield 24, 3) := by decide +kernel
theorem dX5_readInto_42 : decode cX5_readInto 42 = .ok (.aload_n 0, 1) := by decide +kernel
theorem dX5_readInto_43 : decode cX5_readInto 43 = .ok (.getfield 15, 3) := by decide +kernel
theorem dX5_readInto_46 : decode cX5_readInto 46 = .ok (.if_icmp .ge 8, 3) := by decide +kernel
theorem dX5_readInto_49 : decode cX5_readInto 49 = .ok (.aload_n 0, 1) := by decide +kernel
theorem dX5_readInto_50 : decode cX5_readInto 50 = .ok (.getfield 24, 3) := by decide +kernel
theorem dX5_readInto_53 : decode cX5_readInto 53 = .ok (.ireturn, 1) := by decide +kernel
theorem dX5_readInto_54 : decode cX5_readInto 54 = .ok (.aload_n 1, 1) := by decide +kernel
theorem dX5_readInto_55 : decode cX5_readInto 55 = .ok (.invokevirtual 38, 3) := by decide +kernel
theorem dX5_readInto_58 : decode cX5_readInto 58 = .ok (.bipush (-6), 2) := by decide +kernel
theorem dX5_readInto_60 : decode cX5_readInto 60 = .ok (.ireturn, 1) := by decide +kernel
theorem dX5_readCases_0 : decode cX5_readCases 0 = .ok (.aload_n 0, 1) := by decide +kernel
theorem dX5_readCases_1 : decode cX5_readCases 1 = .ok (.aload_n 1, 1) := by decide +kernel
theorem dX5_readCases_2 : decode cX5_readCases 2 = .ok (.invokevirtual 41, 3) := by decide +kernel
theorem dX5_readCases_5 : decode cX5_readCases 5 = .ok (.ifCond .ne 5, 3) := by decide +kernel
theorem dX5_readCases_8 : decode cX5_readCases 8 = .ok (.iconst 0, 1) := by decide +kernel
theorem dX5_readCases_9 : decode cX5_readCases 9 = .ok (.ireturn, 1) := by decide +kernel
theorem dX5_readCases_10 : decode cX5_readCases 10 = .ok (.iconst 1, 1) := by decide +kernel
theorem dX5_readCases_11 : decode cX5_readCases 11 = .ok (.istore_n 2, 1) := by decide +kernel
theorem dX5_readCases_12 : decode cX5_readCases 12 = .ok (.iload_n 2, 1) := by decide +kernel
theorem dX5_readCases_13 : decode cX5_readCases 13 = .ok (.bipush 6, 2) := by decide +kernel
theorem dX5_readCases_15 : decode cX5_readCases 15 = .ok (.if_icmp .ge 28, 3) := by decide +kernel
theorem dX5_readCases_18 : decode cX5_readCases 18 = .ok (.aload_n 0, 1) := by decide +kernel
theorem dX5_readCases_19 : decode cX5_readCases 19 = .ok (.bipush 124, 2) := by decide +kernel
theorem dX5_readCases_21 : decode cX5_readCases 21 = .ok (.invokevirtual 31, 3) := by decide +kernel
theorem dX5_readCases_24 : decode cX5_readCases 24 = .ok (.ifCond .eq 19, 3) := by decide +kernel
theorem dX5_readCases_27 : decode cX5_readCases 27 = .ok (.aload_n 0, 1) := by decide +kernel
theorem dX5_readCases_28 : decode cX5_readCases 28 = .ok (.aload_n 1, 1) := by decide +kernel
theorem dX5_readCases_29 : decode cX5_readCases 29 = .ok (.invokevirtual 41, 3) := by decide +kernel
theorem dX5_readCases_32 : decode cX5_readCases 32 = .ok (.ifCond .ne 5, 3) := by decide +kernel
theorem dX5_readCases_35 : decode cX5_readCases 35 = .ok (.iconst 0, 1) := by decide +kernel
theorem dX5_readCases_36 : decode cX5_readCases 36 = .ok (.ireturn, 1) := by decide +kernel
theorem dX5_readCases_37 : decode cX5_readCases 37 = .ok (.iinc 2 1, 3) := by decide +kernel
theorem dX5_readCases_40 : decode cX5_readCases 40 = .ok (.goto (-28), 3) := by decide +kernel
theorem dX5_readCases_43 : decode cX5_readCases 43 = .ok (.iconst 1, 1) := by decide +kernel
theorem dX5_readCases_44 : decode cX5_readCases 44 = .ok (.ireturn, 1) := by decide +kernel
theorem dX5_readCase_0 : decode cX5_readCase 0 = .ok (.aload_n 0, 1) := by decide +kernel
theorem dX5_readCase_1 : decode cX5_readCase 1 = .ok (.invokevirtual 44, 3) := by decide +kernel
theorem dX5_readCase_4 : decode cX5_readCase 4 = .ok (.istore_n 2, 1) := by decide +kernel
theorem dX5_readCase_5 : decode cX5_readCase 5 = .ok (.iload_n 2, 1) := by decide +kernel
theorem dX5_readCase_6 : decode cX5_readCase 6 = .ok (.bipush (-6), 2) := by decide +kernel
theorem dX5_readCase_8 : decode cX5_readCase 8 = .ok (.if_icmp .eq 12, 3) := by decide +kernel
theorem dX5_readCase_11 : decode cX5_readCase 11 = .ok (.aload_n 0, 1) := by decide +kernel
theorem dX5_readCase_12 : decode cX5_readCase 12 = .ok (.bipush 58, 2) := by decide +kernel
theorem dX5_readCase_14 : decode cX5_readCase 14 = .ok (.invokevirtual 31, 3) := by decide +kernel
theorem dX5_readCase_17 : decode cX5_readCase 17 = .ok (.ifCond .ne 5, 3) := by decide +kernel
theorem dX5_readCase_20 : decode cX5_readCase 20 = .ok (.iconst 0, 1) := by decide +kernel
theorem dX5_readCase_21 : decode cX5_readCase 21 = .ok (.ireturn, 1) := by decide +kernel
theorem dX5_readCase_22 : decode cX5_readCase 22 = .ok (.aload_n 0, 1) := by decide +kernel
theorem dX5_readCase_23 : decode cX5_readCase 23 = .ok (.bipush 64, 2) := by decide +kernel
theorem dX5_readCase_25 : decode cX5_readCase 25 = .ok (.invokevirtual 31, 3) := by decide +kernel
theorem dX5_readCase_28 : decode cX5_readCase 28 = .ok (.ifCond .eq 10, 3) := by decide +kernel
theorem dX5_readCase_31 : decode cX5_readCase 31 = .ok (.aload_n 0, 1) := by decide +kernel
theorem dX5_readCase_32 : decode cX5_readCase 32 = .ok (.invokevirtual 48, 3) := by decide +kernel
theorem dX5_readCase_35 : decode cX5_readCase 35 = .ok (.goto 7, 3) := by decide +kernel
theorem dX5_readCase_38 : decode cX5_readCase 38 = .ok (.aload_n 0, 1) := by decide +kernel
theorem dX5_readCase_39 : decode cX5_readCase 39 = .ok (.invokevirtual 51, 3) := by decide +kernel
theorem dX5_readCase_42 : decode cX5_readCase 42 = .ok (.istore_n 3, 1) := by decide +kernel
theorem dX5_readCase_43 : decode cX5_readCase 43 = .ok (.iload_n 3, 1) := by decide +kernel
theorem dX5_readCase_44 : decode cX5_readCase 44 = .ok (.bipush (-6), 2) := by decide +kernel
theorem dX5_readCase_46 : decode cX5_readCase 46 = .ok (.if_icmp .ne 5, 3) := by decide +kernel
theorem dX5_readCase_49 : decode cX5_readCase 49 = .ok (.iconst 0, 1) := by decide +kernel
theorem dX5_readCase_50 : decode cX5_readCase 50 = .ok (.ireturn, 1) := by decide +kernel
theorem dX5_readCase_51 : decode cX5_readCase 51 = .ok (.aload_n 1, 1) := by decide +kernel
theorem dX5_readCase_52 : decode cX5_readCase 52 = .ok (.iload_n 2, 1) := by decide +kernel
theorem dX5_readCase_53 : decode cX5_readCase 53 = .ok (.iload_n 3, 1) := by decide +kernel
theorem dX5_readCase_54 : decode cX5_readCase 54 = .ok (.invokevirtual 54, 3) := by decide +kernel
theorem dX5_readCase_57 : decode cX5_readCase 57 = .ok (.iconst 1, 1) := by decide +kernel
theorem dX5_readCase_58 : decode cX5_readCase 58 = .ok (.ireturn, 1) := by decide +kernel
theorem dX5_readMarks_0 : decode cX5_readMarks 0 = .ok (.aload_n 0, 1) := by decide +kernel
theorem dX5_readMarks_1 : decode cX5_readMarks 1 = .ok (.bipush 42, 2) := by decide +kernel
theorem dX5_readMarks_3 : decode cX5_readMarks 3 = .ok (.invokevirtual 31, 3) := by decide +kernel
theorem dX5_readMarks_6 : decode cX5_readMarks 6 = .ok (.ifCond .eq 5, 3) := by decide +kernel
theorem dX5_readMarks_9 : decode cX5_readMarks 9 = .ok (.iconst 0, 1) := by decide +kernel
theorem dX5_readMarks_10 : decode cX5_readMarks 10 = .ok (.ireturn, 1) := by decide +kernel
theorem dX5_readMarks_11 : decode cX5_readMarks 11 = .ok (.iconst 0, 1) := by decide +kernel
theorem dX5_readMarks_12 : decode cX5_readMarks 12 = .ok (.istore_n 1, 1) := by decide +kernel
theorem dX5_readMarks_13 : decode cX5_readMarks 13 = .ok (.bipush 97, 2) := by decide +kernel
theorem dX5_readMarks_15 : decode cX5_readMarks 15 = .ok (.istore_n 2, 1) := by decide +kernel
theorem dX5_readMarks_16 : decode cX5_readMarks 16 = .ok (.iload_n 2, 1) := by decide +kernel
theorem dX5_readMarks_17 : decode cX5_readMarks 17 = .ok (.bipush 101, 2) := by decide +kernel
theorem dX5_readMarks_19 : decode cX5_readMarks 19 = .ok (.if_icmp .gt 26, 3) := by decide +kernel
theorem dX5_readMarks_22 : decode cX5_readMarks 22 = .ok (.aload_n 0, 1) := by decide +kernel
theorem dX5_readMarks_23 : decode cX5_readMarks 23 = .ok (.iload_n 2, 1) := by decide +kernel
theorem dX5_readMarks_24 : decode cX5_readMarks 24 = .ok (.invokevirtual 31, 3) := by decide +kernel
theorem dX5_readMarks_27 : decode cX5_readMarks 27 = .ok (.ifCond .eq 12, 3) := by decide +kernel
theorem dX5_readMarks_30 : decode cX5_readMarks 30 = .ok (.iload_n 1, 1) := by decide +kernel
theorem dX5_readMarks_31 : decode cX5_readMarks 31 = .ok (.iconst 1, 1) := by decide +kernel
theorem dX5_readMarks_32 : decode cX5_readMarks 32 = .ok (.iload_n 2, 1) := by decide +kernel
theorem dX5_readMarks_33 : decode cX5_readMarks 33 = .ok (.bipush 97, 2) := by decide +kernel
theorem dX5_readMarks_35 : decode cX5_readMarks 35 = .ok (.isub, 1) := by decide +kernel
theorem dX5_readMarks_36 : decode cX5_readMarks 36 = .ok (.ishl, 1) := by decide +kernel
theorem dX5_readMarks_37 : decode cX5_readMarks 37 = .ok (.ior, 1) := by decide +kernel
theorem dX5_readMarks_38 : decode cX5_readMarks 38 = .ok (.istore_n 1, 1) := by decide +kernel
theorem dX5_readMarks_39 : decode cX5_readMarks 39 = .ok (.iinc 2 1, 3) := by decide +kernel
theorem dX5_readMarks_42 : decode cX5_readMarks 42 = .ok (.goto (-26), 3) := by decide +kernel
theorem dX5_readMarks_45 : decode cX5_readMarks 45 = .ok (.iload_n 1, 1) := by decide +kernel
theorem dX5_readMarks_46 : decode cX5_readMarks 46 = .ok (.ifCond .ne 8, 3) := by decide +kernel
theorem dX5_readMarks_49 : decode cX5_readMarks 49 = .ok (.bipush (-6), 2) := by decide +kernel
theorem dX5_readMarks_51 : decode cX5_readMarks 51 = .ok (.goto 4, 3) := by decide +kernel
theorem dX5_readMarks_54 : decode cX5_readMarks 54 = .ok (.iload_n 1, 1) := by decide +kernel
theorem dX5_readMarks_55 : decode cX5_readMarks 55 = .ok (.ireturn, 1) := by decide +kernel
theorem dX5_readLawNumber_0 : decode cX5_readLawNumber 0 = .ok (.aload_n 0, 1) := by decide +kernel
theorem dX5_readLawNumber_1 : decode cX5_readLawNumber 1 = .ok (.bipush 7, 2) := by decide +kernel
theorem dX5_readLawNumber_3 : decode cX5_readLawNumber 3 = .ok (.invokevirtual 58, 3) := by decide +kernel
theorem dX5_readLawNumber_6 : decode cX5_readLawNumber 6 = .ok (.istore_n 1, 1) := by decide +kernel
theorem dX5_readLawNumber_7 : decode cX5_readLawNumber 7 = .ok (.iload_n 1, 1) := by decide +kernel
theorem dX5_readLawNumber_8 : decode cX5_readLawNumber 8 = .ok (.bipush (-6), 2) := by decide +kernel
theorem dX5_readLawNumber_10 : decode cX5_readLawNumber 10 = .ok (.if_icmp .ne 8, 3) := by decide +kernel
theorem dX5_readLawNumber_13 : decode cX5_readLawNumber 13 = .ok (.bipush (-6), 2) := by decide +kernel
theorem dX5_readLawNumber_15 : decode cX5_readLawNumber 15 = .ok (.goto 7, 3) := by decide +kernel
theorem dX5_readLawNumber_18 : decode cX5_readLawNumber 18 = .ok (.bipush 100, 2) := by decide +kernel
theorem dX5_readLawNumber_20 : decode cX5_readLawNumber 20 = .ok (.iload_n 1, 1) := by decide +kernel
theorem dX5_readLawNumber_21 : decode cX5_readLawNumber 21 = .ok (.iadd, 1) := by decide +kernel
theorem dX5_readLawNumber_22 : decode cX5_readLawNumber 22 = .ok (.ireturn, 1) := by decide +kernel
theorem dX5_readNumber_0 : decode cX5_readNumber 0 = .ok (.aload_n 0, 1) := by decide +kernel
theorem dX5_readNumber_1 : decode cX5_readNumber 1 = .ok (.bipush 9, 2) := by decide +kernel
theorem dX5_readNumber_3 : decode cX5_readNumber 3 = .ok (.invokevirtual 58, 3) := by decide +kernel
theorem dX5_readNumber_6 : decode cX5_readNumber 6 = .ok (.istore_n 1, 1) := by decide +kernel
theorem dX5_readNumber_7 : decode cX5_readNumber 7 = .ok (.iload_n 1, 1) := by decide +kernel
theorem dX5_readNumber_8 : decode cX5_readNumber 8 = .ok (.bipush (-6), 2) := by decide +kernel
theorem dX5_readNumber_10 : decode cX5_readNumber 10 = .ok (.if_icmp .ne 6, 3) := by decide +kernel
theorem dX5_readNumber_13 : decode cX5_readNumber 13 = .ok (.bipush (-6), 2) := by decide +kernel
theorem dX5_readNumber_15 : decode cX5_readNumber 15 = .ok (.ireturn, 1) := by decide +kernel
theorem dX5_readNumber_16 : decode cX5_readNumber 16 = .ok (.aload_n 0, 1) := by decide +kernel
theorem dX5_readNumber_17 : decode cX5_readNumber 17 = .ok (.bipush 9, 2) := by decide +kernel
theorem dX5_readNumber_19 : decode cX5_readNumber 19 = .ok (.invokevirtual 58, 3) := by decide +kernel
theorem dX5_readNumber_22 : decode cX5_readNumber 22 = .ok (.istore_n 2, 1) := by decide +kernel
theorem dX5_readNumber_23 : decode cX5_readNumber 23 = .ok (.iload_n 2, 1) := by decide +kernel
theorem dX5_readNumber_24 : decode cX5_readNumber 24 = .ok (.bipush (-6), 2) := by decide +kernel
theorem dX5_readNumber_26 : decode cX5_readNumber 26 = .ok (.if_icmp .ne 7, 3) := by decide +kernel
theorem dX5_readNumber_29 : decode cX5_readNumber 29 = .ok (.iload_n 1, 1) := by decide +kernel
theorem dX5_readNumber_30 : decode cX5_readNumber 30 = .ok (.goto 9, 3) := by decide +kernel
theorem dX5_readNumber_33 : decode cX5_readNumber 33 = .ok (.bipush 10, 2) := by decide +kernel
theorem dX5_readNumber_35 : decode cX5_readNumber 35 = .ok (.iload_n 1, 1) := by decide +kernel
theorem dX5_readNumber_36 : decode cX5_readNumber 36 = .ok (.imul, 1) := by decide +kernel
theorem dX5_readNumber_37 : decode cX5_readNumber 37 = .ok (.iload_n 2, 1) := by decide +kernel
theorem dX5_readNumber_38 : decode cX5_readNumber 38 = .ok (.iadd, 1) := by decide +kernel
theorem dX5_readNumber_39 : decode cX5_readNumber 39 = .ok (.ireturn, 1) := by decide +kernel
theorem dX5_readDigit_0 : decode cX5_readDigit 0 = .ok (.aload_n 0, 1) := by decide +kernel
theorem dX5_readDigit_1 : decode cX5_readDigit 1 = .ok (.invokevirtual 62, 3) := by decide +kernel
theorem dX5_readDigit_4 : decode cX5_readDigit 4 = .ok (.bipush 48, 2) := by decide +kernel
theorem dX5_readDigit_6 : decode cX5_readDigit 6 = .ok (.isub, 1) := by decide +kernel
theorem dX5_readDigit_7 : decode cX5_readDigit 7 = .ok (.istore_n 2, 1) := by decide +kernel
theorem dX5_readDigit_8 : decode cX5_readDigit 8 = .ok (.iload_n 2, 1) := by decide +kernel
theorem dX5_readDigit_9 : decode cX5_readDigit 9 = .ok (.iconst 0, 1) := by decide +kernel
theorem dX5_readDigit_10 : decode cX5_readDigit 10 = .ok (.iload_n 1, 1) := by decide +kernel
theorem dX5_readDigit_11 : decode cX5_readDigit 11 = .ok (.invokestatic 65, 3) := by decide +kernel
theorem dX5_readDigit_14 : decode cX5_readDigit 14 = .ok (.ifCond .ne 6, 3) := by decide +kernel
theorem dX5_readDigit_17 : decode cX5_readDigit 17 = .ok (.bipush (-6), 2) := by decide +kernel
theorem dX5_readDigit_19 : decode cX5_readDigit 19 = .ok (.ireturn, 1) := by decide +kernel
theorem dX5_readDigit_20 : decode cX5_readDigit 20 = .ok (.aload_n 0, 1) := by decide +kernel
theorem dX5_readDigit_21 : decode cX5_readDigit 21 = .ok (.dup, 1) := by decide +kernel
theorem dX5_readDigit_22 : decode cX5_readDigit 22 = .ok (.getfield 24, 3) := by decide +kernel
theorem dX5_readDigit_25 : decode cX5_readDigit 25 = .ok (.iconst 1, 1) := by decide +kernel
theorem dX5_readDigit_26 : decode cX5_readDigit 26 = .ok (.iadd, 1) := by decide +kernel
theorem dX5_readDigit_27 : decode cX5_readDigit 27 = .ok (.putfield 24, 3) := by decide +kernel
theorem dX5_readDigit_30 : decode cX5_readDigit 30 = .ok (.iload_n 2, 1) := by decide +kernel
theorem dX5_readDigit_31 : decode cX5_readDigit 31 = .ok (.ireturn, 1) := by decide +kernel
theorem dX5_readWords_0 : decode cX5_readWords 0 = .ok (.iconst 0, 1) := by decide +kernel
theorem dX5_readWords_1 : decode cX5_readWords 1 = .ok (.istore_n 2, 1) := by decide +kernel
theorem dX5_readWords_2 : decode cX5_readWords 2 = .ok (.iconst 0, 1) := by decide +kernel
theorem dX5_readWords_3 : decode cX5_readWords 3 = .ok (.istore_n 3, 1) := by decide +kernel
theorem dX5_readWords_4 : decode cX5_readWords 4 = .ok (.iload_n 3, 1) := by decide +kernel
theorem dX5_readWords_5 : decode cX5_readWords 5 = .ok (.bipush 60, 2) := by decide +kernel
theorem dX5_readWords_7 : decode cX5_readWords 7 = .ok (.if_icmp .ge 35, 3) := by decide +kernel
theorem dX5_readWords_10 : decode cX5_readWords 10 = .ok (.aload_n 0, 1) := by decide +kernel
theorem dX5_readWords_11 : decode cX5_readWords 11 = .ok (.aload_n 1, 1) := by decide +kernel
theorem dX5_readWords_12 : decode cX5_readWords 12 = .ok (.iload_n 2, 1) := by decide +kernel
theorem dX5_readWords_13 : decode cX5_readWords 13 = .ok (.invokevirtual 69, 3) := by decide +kernel
theorem dX5_readWords_16 : decode cX5_readWords 16 = .ok (.istore_n 2, 1) := by decide +kernel
theorem dX5_readWords_17 : decode cX5_readWords 17 = .ok (.iload_n 2, 1) := by decide +kernel
theorem dX5_readWords_18 : decode cX5_readWords 18 = .ok (.bipush (-6), 2) := by decide +kernel
theorem dX5_readWords_20 : decode cX5_readWords 20 = .ok (.if_icmp .ne 5, 3) := by decide +kernel
theorem dX5_readWords_23 : decode cX5_readWords 23 = .ok (.iconst 0, 1) := by decide +kernel
theorem dX5_readWords_24 : decode cX5_readWords 24 = .ok (.ireturn, 1) := by decide +kernel
theorem dX5_readWords_25 : decode cX5_readWords 25 = .ok (.aload_n 0, 1) := by decide +kernel
theorem dX5_readWords_26 : decode cX5_readWords 26 = .ok (.bipush 44, 2) := by decide +kernel
theorem dX5_readWords_28 : decode cX5_readWords 28 = .ok (.invokevirtual 31, 3) := by decide +kernel
theorem dX5_readWords_31 : decode cX5_readWords 31 = .ok (.ifCond .ne 5, 3) := by decide +kernel
theorem dX5_readWords_34 : decode cX5_readWords 34 = .ok (.iconst 1, 1) := by decide +kernel
theorem dX5_readWords_35 : decode cX5_readWords 35 = .ok (.ireturn, 1) := by decide +kernel
theorem dX5_readWords_36 : decode cX5_readWords 36 = .ok (.iinc 3 1, 3) := by decide +kernel
theorem dX5_readWords_39 : decode cX5_readWords 39 = .ok (.goto (-35), 3) := by decide +kernel
theorem dX5_readWords_42 : decode cX5_readWords 42 = .ok (.iconst 0, 1) := by decide +kernel
theorem dX5_readWords_43 : decode cX5_readWords 43 = .ok (.ireturn, 1) := by decide +kernel
theorem dX5_readWord_0 : decode cX5_readWord 0 = .ok (.iload_n 2, 1) := by decide +kernel
theorem dX5_readWord_1 : decode cX5_readWord 1 = .ok (.iconst 1, 1) := by decide +kernel
theorem dX5_readWord_2 : decode cX5_readWord 2 = .ok (.if_icmp .ge 34, 3) := by decide +kernel
theorem dX5_readWord_5 : decode cX5_readWord 5 = .ok (.aload_n 0, 1) := by decide +kernel
theorem dX5_readWord_6 : decode cX5_readWord 6 = .ok (.invokevirtual 62, 3) := by decide +kernel
theorem dX5_readWord_9 : decode cX5_readWord 9 = .ok (.bipush 110, 2) := by decide +kernel
theorem dX5_readWord_11 : decode cX5_readWord 11 = .ok (.bipush 104, 2) := by decide +kernel
theorem dX5_readWord_13 : decode cX5_readWord 13 = .ok (.bipush 97, 2) := by decide +kernel
theorem dX5_readWord_15 : decode cX5_readWord 15 = .ok (.invokestatic 73, 3) := by decide +kernel
theorem dX5_readWord_18 : decode cX5_readWord 18 = .ok (.ifCond .eq 18, 3) := by decide +kernel
theorem dX5_readWord_21 : decode cX5_readWord 21 = .ok (.aload_n 0, 1) := by decide +kernel
theorem dX5_readWord_22 : decode cX5_readWord 22 = .ok (.aload_n 1, 1) := by decide +kernel
theorem dX5_readWord_23 : decode cX5_readWord 23 = .ok (.invokevirtual 77, 3) := by decide +kernel
theorem dX5_readWord_26 : decode cX5_readWord 26 = .ok (.ifCond .eq 7, 3) := by decide +kernel
theorem dX5_readWord_29 : decode cX5_readWord 29 = .ok (.iconst 1, 1) := by decide +kernel
theorem dX5_readWord_30 : decode cX5_readWord 30 = .ok (.goto 5, 3) := by decide +kernel
theorem dX5_readWord_33 : decode cX5_readWord 33 = .ok (.bipush (-6), 2) := by decide +kernel
theorem dX5_readWord_35 : decode cX5_readWord 35 = .ok (.ireturn, 1) := by decide +kernel
theorem dX5_readWord_36 : decode cX5_readWord 36 = .ok (.iload_n 2, 1) := by decide +kernel
theorem dX5_readWord_37 : decode cX5_readWord 37 = .ok (.iconst 2, 1) := by decide +kernel
theorem dX5_readWord_38 : decode cX5_readWord 38 = .ok (.if_icmp .ge 19, 3) := by decide +kernel
theorem dX5_readWord_41 : decode cX5_readWord 41 = .ok (.aload_n 0, 1) := by decide +kernel
theorem dX5_readWord_42 : decode cX5_readWord 42 = .ok (.bipush 119, 2) := by decide +kernel
theorem dX5_readWord_44 : decode cX5_readWord 44 = .ok (.invokevirtual 31, 3) := by decide +kernel
theorem dX5_readWord_47 : decode cX5_readWord 47 = .ok (.ifCond .eq 10, 3) := by decide +kernel
theorem dX5_readWord_50 : decode cX5_readWord 50 = .ok (.aload_n 1, 1) := by decide +kernel
theorem dX5_readWord_51 : decode cX5_readWord 51 = .ok (.iconst 1, 1) := by decide +kernel
theorem dX5_readWord_52 : decode cX5_readWord 52 = .ok (.putfield 80, 3) := by decide +kernel
theorem dX5_readWord_55 : decode cX5_readWord 55 = .ok (.iconst 2, 1) := by decide +kernel
theorem dX5_readWord_56 : decode cX5_readWord 56 = .ok (.ireturn, 1) := by decide +kernel
theorem dX5_readWord_57 : decode cX5_readWord 57 = .ok (.iload_n 2, 1) := by decide +kernel
theorem dX5_readWord_58 : decode cX5_readWord 58 = .ok (.iconst 3, 1) := by decide +kernel
theorem dX5_readWord_59 : decode cX5_readWord 59 = .ok (.if_icmp .ge 27, 3) := by decide +kernel
theorem dX5_readWord_62 : decode cX5_readWord 62 = .ok (.aload_n 0, 1) := by decide +kernel
theorem dX5_readWord_63 : decode cX5_readWord 63 = .ok (.bipush 116, 2) := by decide +kernel
theorem dX5_readWord_65 : decode cX5_readWord 65 = .ok (.invokevirtual 31, 3) := by decide +kernel
theorem dX5_readWord_68 : decode cX5_readWord 68 = .ok (.ifCond .eq 18, 3) := by decide +kernel
theorem dX5_readWord_71 : decode cX5_readWord 71 = .ok (.aload_n 0, 1) := by decide +kernel
theorem dX5_readWord_72 : decode cX5_readWord 72 = .ok (.aload_n 1, 1) := by decide +kernel
theorem dX5_readWord_73 : decode cX5_readWord 73 = .ok (.invokevirtual 84, 3) := by decide +kernel
theorem dX5_readWord_76 : decode cX5_readWord 76 = .ok (.ifCond .eq 7, 3) := by decide +kernel
theorem dX5_readWord_79 : decode cX5_readWord 79 = .ok (.iconst 3, 1) := by decide +kernel
theorem dX5_readWord_80 : decode cX5_readWord 80 = .ok (.goto 5, 3) := by decide +kernel
theorem dX5_readWord_83 : decode cX5_readWord 83 = .ok (.bipush (-6), 2) := by decide +kernel
theorem dX5_readWord_85 : decode cX5_readWord 85 = .ok (.ireturn, 1) := by decide +kernel
theorem dX5_readWord_86 : decode cX5_readWord 86 = .ok (.aload_n 0, 1) := by decide +kernel
theorem dX5_readWord_87 : decode cX5_readWord 87 = .ok (.bipush 117, 2) := by decide +kernel
theorem dX5_readWord_89 : decode cX5_readWord 89 = .ok (.invokevirtual 31, 3) := by decide +kernel
theorem dX5_readWord_92 : decode cX5_readWord 92 = .ok (.ifCond .ne 6, 3) := by decide +kernel
theorem dX5_readWord_95 : decode cX5_readWord 95 = .ok (.bipush (-6), 2) := by decide +kernel
theorem dX5_readWord_97 : decode cX5_readWord 97 = .ok (.ireturn, 1) := by decide +kernel
theorem dX5_readWord_98 : decode cX5_readWord 98 = .ok (.aload_n 0, 1) := by decide +kernel
theorem dX5_readWord_99 : decode cX5_readWord 99 = .ok (.bipush 7, 2) := by decide +kernel
theorem dX5_readWord_101 : decode cX5_readWord 101 = .ok (.invokevirtual 58, 3) := by decide +kernel
theorem dX5_readWord_104 : decode cX5_readWord 104 = .ok (.istore_n 3, 1) := by decide +kernel
theorem dX5_readWord_105 : decode cX5_readWord 105 = .ok (.iload_n 3, 1) := by decide +kernel
theorem dX5_readWord_106 : decode cX5_readWord 106 = .ok (.bipush (-6), 2) := by decide +kernel
theorem dX5_readWord_108 : decode cX5_readWord 108 = .ok (.if_icmp .ne 6, 3) := by decide +kernel
theorem dX5_readWord_111 : decode cX5_readWord 111 = .ok (.bipush (-6), 2) := by decide +kernel
theorem dX5_readWord_113 : decode cX5_readWord 113 = .ok (.ireturn, 1) := by decide +kernel
theorem dX5_readWord_114 : decode cX5_readWord 114 = .ok (.aload_n 1, 1) := by decide +kernel
theorem dX5_readWord_115 : decode cX5_readWord 115 = .ok (.dup, 1) := by decide +kernel
theorem dX5_readWord_116 : decode cX5_readWord 116 = .ok (.getfield 87, 3) := by decide +kernel
theorem dX5_readWord_119 : decode cX5_readWord 119 = .ok (.iconst 1, 1) := by decide +kernel
theorem dX5_readWord_120 : decode cX5_readWord 120 = .ok (.iload_n 3, 1) := by decide +kernel
theorem dX5_readWord_121 : decode cX5_readWord 121 = .ok (.ishl, 1) := by decide +kernel
theorem dX5_readWord_122 : decode cX5_readWord 122 = .ok (.ior, 1) := by decide +kernel
theorem dX5_readWord_123 : decode cX5_readWord 123 = .ok (.putfield 87, 3) := by decide +kernel
theorem dX5_readWord_126 : decode cX5_readWord 126 = .ok (.iconst 3, 1) := by decide +kernel
theorem dX5_readWord_127 : decode cX5_readWord 127 = .ok (.ireturn, 1) := by decide +kernel
theorem dX5_readTime_0 : decode cX5_readTime 0 = .ok (.aload_n 1, 1) := by decide +kernel
theorem dX5_readTime_1 : decode cX5_readTime 1 = .ok (.aload_n 0, 1) := by decide +kernel
theorem dX5_readTime_2 : decode cX5_readTime 2 = .ok (.invokevirtual 62, 3) := by decide +kernel
theorem dX5_readTime_5 : decode cX5_readTime 5 = .ok (.putfield 90, 3) := by decide +kernel
theorem dX5_readTime_8 : decode cX5_readTime 8 = .ok (.aload_n 1, 1) := by decide +kernel
theorem dX5_readTime_9 : decode cX5_readTime 9 = .ok (.aload_n 1, 1) := by decide +kernel
theorem dX5_readTime_10 : decode cX5_readTime 10 = .ok (.getfield 90, 3) := by decide +kernel
theorem dX5_readTime_13 : decode cX5_readTime 13 = .ok (.putfield 93, 3) := by decide +kernel
theorem dX5_readTime_16 : decode cX5_readTime 16 = .ok (.aload_n 0, 1) := by decide +kernel
theorem dX5_readTime_17 : decode cX5_readTime 17 = .ok (.dup, 1) := by decide +kernel
theorem dX5_readTime_18 : decode cX5_readTime 18 = .ok (.getfield 24, 3) := by decide +kernel
theorem dX5_readTime_21 : decode cX5_readTime 21 = .ok (.iconst 1, 1) := by decide +kernel
theorem dX5_readTime_22 : decode cX5_readTime 22 = .ok (.iadd, 1) := by decide +kernel
theorem dX5_readTime_23 : decode cX5_readTime 23 = .ok (.putfield 24, 3) := by decide +kernel
theorem dX5_readTime_26 : decode cX5_readTime 26 = .ok (.aload_n 0, 1) := by decide +kernel
theorem dX5_readTime_27 : decode cX5_readTime 27 = .ok (.bipush 63, 2) := by decide +kernel
theorem dX5_readTime_29 : decode cX5_readTime 29 = .ok (.invokevirtual 31, 3) := by decide +kernel
theorem dX5_readTime_32 : decode cX5_readTime 32 = .ok (.ifCond .ne 5, 3) := by decide +kernel
theorem dX5_readTime_35 : decode cX5_readTime 35 = .ok (.iconst 1, 1) := by decide +kernel
theorem dX5_readTime_36 : decode cX5_readTime 36 = .ok (.ireturn, 1) := by decide +kernel
theorem dX5_readTime_37 : decode cX5_readTime 37 = .ok (.aload_n 0, 1) := by decide +kernel
theorem dX5_readTime_38 : decode cX5_readTime 38 = .ok (.invokevirtual 62, 3) := by decide +kernel
theorem dX5_readTime_41 : decode cX5_readTime 41 = .ok (.bipush 110, 2) := by decide +kernel
theorem dX5_readTime_43 : decode cX5_readTime 43 = .ok (.bipush 104, 2) := by decide +kernel
theorem dX5_readTime_45 : decode cX5_readTime 45 = .ok (.bipush 97, 2) := by decide +kernel
theorem dX5_readTime_47 : decode cX5_readTime 47 = .ok (.invokestatic 73, 3) := by decide +kernel
theorem dX5_readTime_50 : decode cX5_readTime 50 = .ok (.ifCond .eq 14, 3) := by decide +kernel
theorem dX5_readTime_53 : decode cX5_readTime 53 = .ok (.aload_n 0, 1) := by decide +kernel
theorem dX5_readTime_54 : decode cX5_readTime 54 = .ok (.invokevirtual 62, 3) := by decide +kernel
theorem dX5_readTime_57 : decode cX5_readTime 57 = .ok (.aload_n 1, 1) := by decide +kernel
theorem dX5_readTime_58 : decode cX5_readTime 58 = .ok (.getfield 90, 3) := by decide +kernel
theorem dX5_readTime_61 : decode cX5_readTime 61 = .ok (.if_icmp .ne 5, 3) := by decide +kernel
theorem dX5_readTime_64 : decode cX5_readTime 64 = .ok (.iconst 0, 1) := by decide +kernel
theorem dX5_readTime_65 : decode cX5_readTime 65 = .ok (.ireturn, 1) := by decide +kernel
theorem dX5_readTime_66 : decode cX5_readTime 66 = .ok (.aload_n 1, 1) := by decide +kernel
theorem dX5_readTime_67 : decode cX5_readTime 67 = .ok (.aload_n 0, 1) := by decide +kernel
theorem dX5_readTime_68 : decode cX5_readTime 68 = .ok (.invokevirtual 62, 3) := by decide +kernel
theorem dX5_readTime_71 : decode cX5_readTime 71 = .ok (.putfield 96, 3) := by decide +kernel
theorem dX5_readTime_74 : decode cX5_readTime 74 = .ok (.aload_n 0, 1) := by decide +kernel
theorem dX5_readTime_75 : decode cX5_readTime 75 = .ok (.dup, 1) := by decide +kernel
theorem dX5_readTime_76 : decode cX5_readTime 76 = .ok (.getfield 24, 3) := by decide +kernel
theorem dX5_readTime_79 : decode cX5_readTime 79 = .ok (.iconst 1, 1) := by decide +kernel
theorem dX5_readTime_80 : decode cX5_readTime 80 = .ok (.iadd, 1) := by decide +kernel
theorem dX5_readTime_81 : decode cX5_readTime 81 = .ok (.putfield 24, 3) := by decide +kernel
theorem dX5_readTime_84 : decode cX5_readTime 84 = .ok (.iconst 1, 1) := by decide +kernel
theorem dX5_readTime_85 : decode cX5_readTime 85 = .ok (.ireturn, 1) := by decide +kernel
theorem dX5_readTerm_0 : decode cX5_readTerm 0 = .ok (.aload_n 1, 1) := by decide +kernel
theorem dX5_readTerm_1 : decode cX5_readTerm 1 = .ok (.aload_n 0, 1) := by decide +kernel
theorem dX5_readTerm_2 : decode cX5_readTerm 2 = .ok (.invokevirtual 51, 3) := by decide +kernel
theorem dX5_readTerm_5 : decode cX5_readTerm 5 = .ok (.putfield 99, 3) := by decide +kernel
theorem dX5_readTerm_8 : decode cX5_readTerm 8 = .ok (.aload_n 1, 1) := by decide +kernel
theorem dX5_readTerm_9 : decode cX5_readTerm 9 = .ok (.getfield 99, 3) := by decide +kernel
theorem dX5_readTerm_12 : decode cX5_readTerm 12 = .ok (.bipush (-6), 2) := by decide +kernel
theorem dX5_readTerm_14 : decode cX5_readTerm 14 = .ok (.if_icmp .eq 19, 3) := by decide +kernel
theorem dX5_readTerm_17 : decode cX5_readTerm 17 = .ok (.aload_n 0, 1) := by decide +kernel
theorem dX5_readTerm_18 : decode cX5_readTerm 18 = .ok (.invokevirtual 62, 3) := by decide +kernel
theorem dX5_readTerm_21 : decode cX5_readTerm 21 = .ok (.bipush 99, 2) := by decide +kernel
theorem dX5_readTerm_23 : decode cX5_readTerm 23 = .ok (.bipush 98, 2) := by decide +kernel
theorem dX5_readTerm_25 : decode cX5_readTerm 25 = .ok (.bipush 108, 2) := by decide +kernel
theorem dX5_readTerm_27 : decode cX5_readTerm 27 = .ok (.invokestatic 73, 3) := by decide +kernel
theorem dX5_readTerm_30 : decode cX5_readTerm 30 = .ok (.ifCond .ne 5, 3) := by decide +kernel
theorem dX5_readTerm_33 : decode cX5_readTerm 33 = .ok (.iconst 0, 1) := by decide +kernel
theorem dX5_readTerm_34 : decode cX5_readTerm 34 = .ok (.ireturn, 1) := by decide +kernel
theorem dX5_readTerm_35 : decode cX5_readTerm 35 = .ok (.aload_n 1, 1) := by decide +kernel
theorem dX5_readTerm_36 : decode cX5_readTerm 36 = .ok (.aload_n 0, 1) := by decide +kernel
theorem dX5_readTerm_37 : decode cX5_readTerm 37 = .ok (.invokevirtual 62, 3) := by decide +kernel
theorem dX5_readTerm_40 : decode cX5_readTerm 40 = .ok (.putfield 102, 3) := by decide +kernel
theorem dX5_readTerm_43 : decode cX5_readTerm 43 = .ok (.aload_n 0, 1) := by decide +kernel
theorem dX5_readTerm_44 : decode cX5_readTerm 44 = .ok (.dup, 1) := by decide +kernel
theorem dX5_readTerm_45 : decode cX5_readTerm 45 = .ok (.getfield 24, 3) := by decide +kernel
theorem dX5_readTerm_48 : decode cX5_readTerm 48 = .ok (.iconst 1, 1) := by decide +kernel
theorem dX5_readTerm_49 : decode cX5_readTerm 49 = .ok (.iadd, 1) := by decide +kernel
theorem dX5_readTerm_50 : decode cX5_readTerm 50 = .ok (.putfield 24, 3) := by decide +kernel
theorem dX5_readTerm_53 : decode cX5_readTerm 53 = .ok (.aload_n 0, 1) := by decide +kernel
theorem dX5_readTerm_54 : decode cX5_readTerm 54 = .ok (.bipush 63, 2) := by decide +kernel
theorem dX5_readTerm_56 : decode cX5_readTerm 56 = .ok (.invokevirtual 31, 3) := by decide +kernel
theorem dX5_readTerm_59 : decode cX5_readTerm 59 = .ok (.ifCond .ne 5, 3) := by decide +kernel
theorem dX5_readTerm_62 : decode cX5_readTerm 62 = .ok (.iconst 1, 1) := by decide +kernel
theorem dX5_readTerm_63 : decode cX5_readTerm 63 = .ok (.ireturn, 1) := by decide +kernel
theorem dX5_readTerm_64 : decode cX5_readTerm 64 = .ok (.aload_n 0, 1) := by decide +kernel
theorem dX5_readTerm_65 : decode cX5_readTerm 65 = .ok (.invokevirtual 62, 3) := by decide +kernel
theorem dX5_readTerm_68 : decode cX5_readTerm 68 = .ok (.bipush 99, 2) := by decide +kernel
theorem dX5_readTerm_70 : decode cX5_readTerm 70 = .ok (.bipush 98, 2) := by decide +kernel
theorem dX5_readTerm_72 : decode cX5_readTerm 72 = .ok (.bipush 108, 2) := by decide +kernel
theorem dX5_readTerm_74 : decode cX5_readTerm 74 = .ok (.invokestatic 73, 3) := by decide +kernel
theorem dX5_readTerm_77 : decode cX5_readTerm 77 = .ok (.ifCond .eq 14, 3) := by decide +kernel
theorem dX5_readTerm_80 : decode cX5_readTerm 80 = .ok (.aload_n 0, 1) := by decide +kernel
theorem dX5_readTerm_81 : decode cX5_readTerm 81 = .ok (.invokevirtual 62, 3) := by decide +kernel
theorem dX5_readTerm_84 : decode cX5_readTerm 84 = .ok (.aload_n 1, 1) := by decide +kernel
theorem dX5_readTerm_85 : decode cX5_readTerm 85 = .ok (.getfield 102, 3) := by decide +kernel
theorem dX5_readTerm_88 : decode cX5_readTerm 88 = .ok (.if_icmp .ne 5, 3) := by decide +kernel
theorem dX5_readTerm_91 : decode cX5_readTerm 91 = .ok (.iconst 0, 1) := by decide +kernel
theorem dX5_readTerm_92 : decode cX5_readTerm 92 = .ok (.ireturn, 1) := by decide +kernel
theorem dX5_readTerm_93 : decode cX5_readTerm 93 = .ok (.aload_n 1, 1) := by decide +kernel
theorem dX5_readTerm_94 : decode cX5_readTerm 94 = .ok (.aload_n 0, 1) := by decide +kernel
theorem dX5_readTerm_95 : decode cX5_readTerm 95 = .ok (.invokevirtual 62, 3) := by decide +kernel
theorem dX5_readTerm_98 : decode cX5_readTerm 98 = .ok (.putfield 105, 3) := by decide +kernel
theorem dX5_readTerm_101 : decode cX5_readTerm 101 = .ok (.aload_n 0, 1) := by decide +kernel
theorem dX5_readTerm_102 : decode cX5_readTerm 102 = .ok (.dup, 1) := by decide +kernel
theorem dX5_readTerm_103 : decode cX5_readTerm 103 = .ok (.getfield 24, 3) := by decide +kernel
theorem dX5_readTerm_106 : decode cX5_readTerm 106 = .ok (.iconst 1, 1) := by decide +kernel
theorem dX5_readTerm_107 : decode cX5_readTerm 107 = .ok (.iadd, 1) := by decide +kernel
theorem dX5_readTerm_108 : decode cX5_readTerm 108 = .ok (.putfield 24, 3) := by decide +kernel
theorem dX5_readTerm_111 : decode cX5_readTerm 111 = .ok (.iconst 1, 1) := by decide +kernel
theorem dX5_readTerm_112 : decode cX5_readTerm 112 = .ok (.ireturn, 1) := by decide +kernel
theorem dX5_takes_0 : decode cX5_takes 0 = .ok (.aload_n 0, 1) := by decide +kernel
theorem dX5_takes_1 : decode cX5_takes 1 = .ok (.invokevirtual 62, 3) := by decide +kernel
theorem dX5_takes_4 : decode cX5_takes 4 = .ok (.iload_n 1, 1) := by decide +kernel
theorem dX5_takes_5 : decode cX5_takes 5 = .ok (.if_icmp .eq 5, 3) := by decide +kernel
theorem dX5_takes_8 : decode cX5_takes 8 = .ok (.iconst 0, 1) := by decide +kernel
theorem dX5_takes_9 : decode cX5_takes 9 = .ok (.ireturn, 1) := by decide +kernel
theorem dX5_takes_10 : decode cX5_takes 10 = .ok (.aload_n 0, 1) := by decide +kernel
theorem dX5_takes_11 : decode cX5_takes 11 = .ok (.dup, 1) := by decide +kernel
theorem dX5_takes_12 : decode cX5_takes 12 = .ok (.getfield 24, 3) := by decide +kernel
theorem dX5_takes_15 : decode cX5_takes 15 = .ok (.iconst 1, 1) := by decide +kernel
theorem dX5_takes_16 : decode cX5_takes 16 = .ok (.iadd, 1) := by decide +kernel
theorem dX5_takes_17 : decode cX5_takes 17 = .ok (.putfield 24, 3) := by decide +kernel
theorem dX5_takes_20 : decode cX5_takes 20 = .ok (.iconst 1, 1) := by decide +kernel
theorem dX5_takes_21 : decode cX5_takes 21 = .ok (.ireturn, 1) := by decide +kernel
theorem dX5_next_0 : decode cX5_next 0 = .ok (.aload_n 0, 1) := by decide +kernel
theorem dX5_next_1 : decode cX5_next 1 = .ok (.getfield 24, 3) := by decide +kernel
theorem dX5_next_4 : decode cX5_next 4 = .ok (.aload_n 0, 1) := by decide +kernel
theorem dX5_next_5 : decode cX5_next 5 = .ok (.getfield 15, 3) := by decide +kernel
theorem dX5_next_8 : decode cX5_next 8 = .ok (.if_icmp .ge 15, 3) := by decide +kernel
theorem dX5_next_11 : decode cX5_next 11 = .ok (.aload_n 0, 1) := by decide +kernel
theorem dX5_next_12 : decode cX5_next 12 = .ok (.getfield 9, 3) := by decide +kernel
theorem dX5_next_15 : decode cX5_next 15 = .ok (.aload_n 0, 1) := by decide +kernel
theorem dX5_next_16 : decode cX5_next 16 = .ok (.getfield 24, 3) := by decide +kernel
theorem dX5_next_19 : decode cX5_next 19 = .ok (.iaload, 1) := by decide +kernel
theorem dX5_next_20 : decode cX5_next 20 = .ok (.goto 4, 3) := by decide +kernel
theorem dX5_next_23 : decode cX5_next 23 = .ok (.iconst (-1), 1) := by decide +kernel
theorem dX5_next_24 : decode cX5_next 24 = .ok (.ireturn, 1) := by decide +kernel
theorem dX5_isOneOf_0 : decode cX5_isOneOf 0 = .ok (.iload_n 0, 1) := by decide +kernel
theorem dX5_isOneOf_1 : decode cX5_isOneOf 1 = .ok (.iload_n 1, 1) := by decide +kernel
theorem dX5_isOneOf_2 : decode cX5_isOneOf 2 = .ok (.if_icmp .eq 13, 3) := by decide +kernel
theorem dX5_isOneOf_5 : decode cX5_isOneOf 5 = .ok (.iload_n 0, 1) := by decide +kernel
theorem dX5_isOneOf_6 : decode cX5_isOneOf 6 = .ok (.iload_n 2, 1) := by decide +kernel
theorem dX5_isOneOf_7 : decode cX5_isOneOf 7 = .ok (.if_icmp .eq 8, 3) := by decide +kernel
theorem dX5_isOneOf_10 : decode cX5_isOneOf 10 = .ok (.iload_n 0, 1) := by decide +kernel
theorem dX5_isOneOf_11 : decode cX5_isOneOf 11 = .ok (.iload_n 3, 1) := by decide +kernel
theorem dX5_isOneOf_12 : decode cX5_isOneOf 12 = .ok (.if_icmp .ne 7, 3) := by decide +kernel
theorem dX5_isOneOf_15 : decode cX5_isOneOf 15 = .ok (.iconst 1, 1) := by decide +kernel
theorem dX5_isOneOf_16 : decode cX5_isOneOf 16 = .ok (.goto 4, 3) := by decide +kernel
theorem dX5_isOneOf_19 : decode cX5_isOneOf 19 = .ok (.iconst 0, 1) := by decide +kernel
theorem dX5_isOneOf_20 : decode cX5_isOneOf 20 = .ok (.ireturn, 1) := by decide +kernel
theorem dX6_init_0 : decode cX6_init 0 = .ok (.aload_n 0, 1) := by decide +kernel
theorem dX6_init_1 : decode cX6_init 1 = .ok (.invokespecial 3, 3) := by decide +kernel
theorem dX6_init_4 : decode cX6_init 4 = .ok (.return_, 1) := by decide +kernel
theorem dX6_begin_0 : decode cX6_begin 0 = .ok (.aload_n 0, 1) := by decide +kernel
theorem dX6_begin_1 : decode cX6_begin 1 = .ok (.iload_n 1, 1) := by decide +kernel
theorem dX6_begin_2 : decode cX6_begin 2 = .ok (.putfield 9, 3) := by decide +kernel
theorem dX6_begin_5 : decode cX6_begin 5 = .ok (.aload_n 0, 1) := by decide +kernel
theorem dX6_begin_6 : decode cX6_begin 6 = .ok (.bipush (-6), 2) := by decide +kernel
theorem dX6_begin_8 : decode cX6_begin 8 = .ok (.putfield 15, 3) := by decide +kernel
theorem dX6_begin_11 : decode cX6_begin 11 = .ok (.aload_n 0, 1) := by decide +kernel
theorem dX6_begin_12 : decode cX6_begin 12 = .ok (.bipush (-6), 2) := by decide +kernel
theorem dX6_begin_14 : decode cX6_begin 14 = .ok (.putfield 18, 3) := by decide +kernel
theorem dX6_begin_17 : decode cX6_begin 17 = .ok (.aload_n 0, 1) := by decide +kernel
theorem dX6_begin_18 : decode cX6_begin 18 = .ok (.iload_n 2, 1) := by decide +kernel
theorem dX6_begin_19 : decode cX6_begin 19 = .ok (.putfield 21, 3) := by decide +kernel
theorem dX6_begin_22 : decode cX6_begin 22 = .ok (.aload_n 0, 1) := by decide +kernel
theorem dX6_begin_23 : decode cX6_begin 23 = .ok (.bipush (-6), 2) := by decide +kernel
theorem dX6_begin_25 : decode cX6_begin 25 = .ok (.putfield 24, 3) := by decide +kernel
theorem dX6_begin_28 : decode cX6_begin 28 = .ok (.return_, 1) := by decide +kernel
theorem dX6_copyFrom_0 : decode cX6_copyFrom 0 = .ok (.aload_n 0, 1) := by decide +kernel
theorem dX6_copyFrom_1 : decode cX6_copyFrom 1 = .ok (.aload_n 1, 1) := by decide +kernel
theorem dX6_copyFrom_2 : decode cX6_copyFrom 2 = .ok (.getfield 9, 3) := by decide +kernel
theorem dX6_copyFrom_5 : decode cX6_copyFrom 5 = .ok (.putfield 9, 3) := by decide +kernel
theorem dX6_copyFrom_8 : decode cX6_copyFrom 8 = .ok (.aload_n 0, 1) := by decide +kernel
theorem dX6_copyFrom_9 : decode cX6_copyFrom 9 = .ok (.aload_n 1, 1) := by decide +kernel
theorem dX6_copyFrom_10 : decode cX6_copyFrom 10 = .ok (.getfield 15, 3) := by decide +kernel
theorem dX6_copyFrom_13 : decode cX6_copyFrom 13 = .ok (.putfield 15, 3) := by decide +kernel
theorem dX6_copyFrom_16 : decode cX6_copyFrom 16 = .ok (.aload_n 0, 1) := by decide +kernel
theorem dX6_copyFrom_17 : decode cX6_copyFrom 17 = .ok (.aload_n 1, 1) := by decide +kernel
theorem dX6_copyFrom_18 : decode cX6_copyFrom 18 = .ok (.getfield 18, 3) := by decide +kernel
theorem dX6_copyFrom_21 : decode cX6_copyFrom 21 = .ok (.putfield 18, 3) := by decide +kernel
theorem dX6_copyFrom_24 : decode cX6_copyFrom 24 = .ok (.aload_n 0, 1) := by decide +kernel
theorem dX6_copyFrom_25 : decode cX6_copyFrom 25 = .ok (.aload_n 1, 1) := by decide +kernel
theorem dX6_copyFrom_26 : decode cX6_copyFrom 26 = .ok (.getfield 21, 3) := by decide +kernel
theorem dX6_copyFrom_29 : decode cX6_copyFrom 29 = .ok (.putfield 21, 3) := by decide +kernel
theorem dX6_copyFrom_32 : decode cX6_copyFrom 32 = .ok (.aload_n 0, 1) := by decide +kernel
theorem dX6_copyFrom_33 : decode cX6_copyFrom 33 = .ok (.aload_n 1, 1) := by decide +kernel
theorem dX6_copyFrom_34 : decode cX6_copyFrom 34 = .ok (.getfield 24, 3) := by decide +kernel
theorem dX6_copyFrom_37 : decode cX6_copyFrom 37 = .ok (.putfield 24, 3) := by decide +kernel
theorem dX6_copyFrom_40 : decode cX6_copyFrom 40 = .ok (.return_, 1) := by decide +kernel
theorem dX6_dayOn_0 : decode cX6_dayOn 0 = .ok (.aload_n 0, 1) := by decide +kernel
theorem dX6_dayOn_1 : decode cX6_dayOn 1 = .ok (.getfield 18, 3) := by decide +kernel
theorem dX6_dayOn_4 : decode cX6_dayOn 4 = .ok (.bipush (-6), 2) := by decide +kernel
theorem dX6_dayOn_6 : decode cX6_dayOn 6 = .ok (.if_icmp .ne 7, 3) := by decide +kernel
theorem dX6_dayOn_9 : decode cX6_dayOn 9 = .ok (.iload_n 1, 1) := by decide +kernel
theorem dX6_dayOn_10 : decode cX6_dayOn 10 = .ok (.goto 11, 3) := by decide +kernel
theorem dX6_dayOn_13 : decode cX6_dayOn 13 = .ok (.iload_n 1, 1) := by decide +kernel
theorem dX6_dayOn_14 : decode cX6_dayOn 14 = .ok (.aload_n 0, 1) := by decide +kernel
theorem dX6_dayOn_15 : decode cX6_dayOn 15 = .ok (.getfield 18, 3) := by decide +kernel
theorem dX6_dayOn_18 : decode cX6_dayOn 18 = .ok (.invokestatic 27, 3) := by decide +kernel
theorem dX6_dayOn_21 : decode cX6_dayOn 21 = .ok (.ireturn, 1) := by decide +kernel
theorem dX7_init_0 : decode cX7_init 0 = .ok (.aload_n 0, 1) := by decide +kernel
theorem dX7_init_1 : decode cX7_init 1 = .ok (.invokespecial 3, 3) := by decide +kernel
theorem dX7_init_4 : decode cX7_init 4 = .ok (.aload_n 0, 1) := by decide +kernel
theorem dX7_init_5 : decode cX7_init 5 = .ok (.aload_n 1, 1) := by decide +kernel
theorem dX7_init_6 : decode cX7_init 6 = .ok (.putfield 9, 3) := by decide +kernel
theorem dX7_init_9 : decode cX7_init 9 = .ok (.aload_n 0, 1) := by decide +kernel
theorem dX7_init_10 : decode cX7_init 10 = .ok (.aload_n 2, 1) := by decide +kernel
theorem dX7_init_11 : decode cX7_init 11 = .ok (.putfield 15, 3) := by decide +kernel
theorem dX7_init_14 : decode cX7_init 14 = .ok (.aload_n 0, 1) := by decide +kernel
theorem dX7_init_15 : decode cX7_init 15 = .ok (.aload_n 3, 1) := by decide +kernel
theorem dX7_init_16 : decode cX7_init 16 = .ok (.putfield 19, 3) := by decide +kernel
theorem dX7_init_19 : decode cX7_init 19 = .ok (.return_, 1) := by decide +kernel
theorem dX7_count_0 : decode cX7_count 0 = .ok (.iconst 0, 1) := by decide +kernel
theorem dX7_count_1 : decode cX7_count 1 = .ok (.istore_n 1, 1) := by decide +kernel
theorem dX7_count_2 : decode cX7_count 2 = .ok (.iconst 0, 1) := by decide +kernel
theorem dX7_count_3 : decode cX7_count 3 = .ok (.istore_n 2, 1) := by decide +kernel
theorem dX7_count_4 : decode cX7_count 4 = .ok (.iload_n 2, 1) := by decide +kernel
theorem dX7_count_5 : decode cX7_count 5 = .ok (.aload_n 0, 1) := by decide +kernel
theorem dX7_count_6 : decode cX7_count 6 = .ok (.getfield 9, 3) := by decide +kernel
theorem dX7_count_9 : decode cX7_count 9 = .ok (.getfield 23, 3) := by decide +kernel
theorem dX7_count_12 : decode cX7_count 12 = .ok (.if_icmp .ge 49, 3) := by decide +kernel
theorem dX7_count_15 : decode cX7_count 15 = .ok (.aload_n 0, 1) := by decide +kernel
theorem dX7_count_16 : decode cX7_count 16 = .ok (.getfield 9, 3) := by decide +kernel
theorem dX7_count_19 : decode cX7_count 19 = .ok (.getfield 29, 3) := by decide +kernel
theorem dX7_count_22 : decode cX7_count 22 = .ok (.iload_n 2, 1) := by decide +kernel
theorem dX7_count_23 : decode cX7_count 23 = .ok (.aaload, 1) := by decide +kernel
theorem dX7_count_24 : decode cX7_count 24 = .ok (.getfield 33, 3) := by decide +kernel
theorem dX7_count_27 : decode cX7_count 27 = .ok (.bipush (-6), 2) := by decide +kernel
theorem dX7_count_29 : decode cX7_count 29 = .ok (.if_icmp .eq 6, 3) := by decide +kernel
theorem dX7_count_32 : decode cX7_count 32 = .ok (.iinc 1 1, 3) := by decide +kernel
theorem dX7_count_35 : decode cX7_count 35 = .ok (.aload_n 0, 1) := by decide +kernel
theorem dX7_count_36 : decode cX7_count 36 = .ok (.getfield 9, 3) := by decide +kernel
theorem dX7_count_39 : decode cX7_count 39 = .ok (.getfield 29, 3) := by decide +kernel
theorem dX7_count_42 : decode cX7_count 42 = .ok (.iload_n 2, 1) := by decide +kernel
theorem dX7_count_43 : decode cX7_count 43 = .ok (.aaload, 1) := by decide +kernel
theorem dX7_count_44 : decode cX7_count 44 = .ok (.getfield 38, 3) := by decide +kernel
theorem dX7_count_47 : decode cX7_count 47 = .ok (.bipush (-6), 2) := by decide +kernel
theorem dX7_count_49 : decode cX7_count 49 = .ok (.if_icmp .eq 6, 3) := by decide +kernel
theorem dX7_count_52 : decode cX7_count 52 = .ok (.iinc 1 1, 3) := by decide +kernel
theorem dX7_count_55 : decode cX7_count 55 = .ok (.iinc 2 1, 3) := by decide +kernel
theorem dX7_count_58 : decode cX7_count 58 = .ok (.goto (-54), 3) := by decide +kernel
theorem dX7_count_61 : decode cX7_count 61 = .ok (.iload_n 1, 1) := by decide +kernel
theorem dX7_count_62 : decode cX7_count 62 = .ok (.ireturn, 1) := by decide +kernel
theorem dX7_word_0 : decode cX7_word 0 = .ok (.iconst 0, 1) := by decide +kernel
theorem dX7_word_1 : decode cX7_word 1 = .ok (.istore_n 2, 1) := by decide +kernel
theorem dX7_word_2 : decode cX7_word 2 = .ok (.iconst 0, 1) := by decide +kernel
theorem dX7_word_3 : decode cX7_word 3 = .ok (.istore_n 3, 1) := by decide +kernel
theorem dX7_word_4 : decode cX7_word 4 = .ok (.iload_n 3, 1) := by decide +kernel
theorem dX7_word_5 : decode cX7_word 5 = .ok (.aload_n 0, 1) := by decide +kernel
theorem dX7_word_6 : decode cX7_word 6 = .ok (.getfield 9, 3) := by decide +kernel
theorem dX7_word_9 : decode cX7_word 9 = .ok (.getfield 23, 3) := by decide +kernel
theorem dX7_word_12 : decode cX7_word 12 = .ok (.if_icmp .ge 71, 3) := by decide +kernel
theorem dX7_word_15 : decode cX7_word 15 = .ok (.aload_n 0, 1) := by decide +kernel
theorem dX7_word_16 : decode cX7_word 16 = .ok (.getfield 9, 3) := by decide +kernel
theorem dX7_word_19 : decode cX7_word 19 = .ok (.getfield 29, 3) := by decide +kernel
theorem dX7_word_22 : decode cX7_word 22 = .ok (.iload_n 3, 1) := by decide +kernel
theorem dX7_word_23 : decode cX7_word 23 = .ok (.aaload, 1) := by decide +kernel
theorem dX7_word_24 : decode cX7_word 24 = .ok (.getfield 33, 3) := by decide +kernel
theorem dX7_word_27 : decode cX7_word 27 = .ok (.bipush (-6), 2) := by decide +kernel
theorem dX7_word_29 : decode cX7_word 29 = .ok (.if_icmp .eq 16, 3) := by decide +kernel
theorem dX7_word_32 : decode cX7_word 32 = .ok (.iload_n 2, 1) := by decide +kernel
theorem dX7_word_33 : decode cX7_word 33 = .ok (.iload_n 1, 1) := by decide +kernel
theorem dX7_word_34 : decode cX7_word 34 = .ok (.if_icmp .ne 8, 3) := by decide +kernel
theorem dX7_word_37 : decode cX7_word 37 = .ok (.bipush 10, 2) := by decide +kernel
theorem dX7_word_39 : decode cX7_word 39 = .ok (.iload_n 3, 1) := by decide +kernel
theorem dX7_word_40 : decode cX7_word 40 = .ok (.imul, 1) := by decide +kernel
theorem dX7_word_41 : decode cX7_word 41 = .ok (.ireturn, 1) := by decide +kernel
theorem dX7_word_42 : decode cX7_word 42 = .ok (.iinc 2 1, 3) := by decide +kernel
theorem dX7_word_45 : decode cX7_word 45 = .ok (.aload_n 0, 1) := by decide +kernel
theorem dX7_word_46 : decode cX7_word 46 = .ok (.getfield 9, 3) := by decide +kernel
theorem dX7_word_49 : decode cX7_word 49 = .ok (.getfield 29, 3) := by decide +kernel
theorem dX7_word_52 : decode cX7_word 52 = .ok (.iload_n 3, 1) := by decide +kernel
theorem dX7_word_53 : decode cX7_word 53 = .ok (.aaload, 1) := by decide +kernel
theorem dX7_word_54 : decode cX7_word 54 = .ok (.getfield 38, 3) := by decide +kernel
theorem dX7_word_57 : decode cX7_word 57 = .ok (.bipush (-6), 2) := by decide +kernel
theorem dX7_word_59 : decode cX7_word 59 = .ok (.if_icmp .eq 18, 3) := by decide +kernel
theorem dX7_word_62 : decode cX7_word 62 = .ok (.iload_n 2, 1) := by decide +kernel
theorem dX7_word_63 : decode cX7_word 63 = .ok (.iload_n 1, 1) := by decide +kernel
theorem dX7_word_64 : decode cX7_word 64 = .ok (.if_icmp .ne 10, 3) := by decide +kernel
theorem dX7_word_67 : decode cX7_word 67 = .ok (.bipush 10, 2) := by decide +kernel
theorem dX7_word_69 : decode cX7_word 69 = .ok (.iload_n 3, 1) := by decide +kernel
theorem dX7_word_70 : decode cX7_word 70 = .ok (.imul, 1) := by decide +kernel
theorem dX7_word_71 : decode cX7_word 71 = .ok (.iconst 1, 1) := by decide +kernel
theorem dX7_word_72 : decode cX7_word 72 = .ok (.iadd, 1) := by decide +kernel
theorem dX7_word_73 : decode cX7_word 73 = .ok (.ireturn, 1) := by decide +kernel
theorem dX7_word_74 : decode cX7_word 74 = .ok (.iinc 2 1, 3) := by decide +kernel
theorem dX7_word_77 : decode cX7_word 77 = .ok (.iinc 3 1, 3) := by decide +kernel
theorem dX7_word_80 : decode cX7_word 80 = .ok (.goto (-76), 3) := by decide +kernel
theorem dX7_word_83 : decode cX7_word 83 = .ok (.bipush (-6), 2) := by decide +kernel
theorem dX7_word_85 : decode cX7_word 85 = .ok (.ireturn, 1) := by decide +kernel
theorem dX7_timeWords_0 : decode cX7_timeWords 0 = .ok (.iconst 0, 1) := by decide +kernel
theorem dX7_timeWords_1 : decode cX7_timeWords 1 = .ok (.istore_n 1, 1) := by decide +kernel
theorem dX7_timeWords_2 : decode cX7_timeWords 2 = .ok (.iconst 0, 1) := by decide +kernel
theorem dX7_timeWords_3 : decode cX7_timeWords 3 = .ok (.istore_n 2, 1) := by decide +kernel
theorem dX7_timeWords_4 : decode cX7_timeWords 4 = .ok (.iload_n 2, 1) := by decide +kernel
theorem dX7_timeWords_5 : decode cX7_timeWords 5 = .ok (.bipush 8, 2) := by decide +kernel
theorem dX7_timeWords_7 : decode cX7_timeWords 7 = .ok (.if_icmp .ge 34, 3) := by decide +kernel
theorem dX7_timeWords_10 : decode cX7_timeWords 10 = .ok (.aload_n 0, 1) := by decide +kernel
theorem dX7_timeWords_11 : decode cX7_timeWords 11 = .ok (.iload_n 2, 1) := by decide +kernel
theorem dX7_timeWords_12 : decode cX7_timeWords 12 = .ok (.invokevirtual 41, 3) := by decide +kernel
theorem dX7_timeWords_15 : decode cX7_timeWords 15 = .ok (.istore_n 3, 1) := by decide +kernel
theorem dX7_timeWords_16 : decode cX7_timeWords 16 = .ok (.iload_n 3, 1) := by decide +kernel
theorem dX7_timeWords_17 : decode cX7_timeWords 17 = .ok (.bipush (-6), 2) := by decide +kernel
theorem dX7_timeWords_19 : decode cX7_timeWords 19 = .ok (.if_icmp .eq 16, 3) := by decide +kernel
theorem dX7_timeWords_22 : decode cX7_timeWords 22 = .ok (.iload_n 3, 1) := by decide +kernel
theorem dX7_timeWords_23 : decode cX7_timeWords 23 = .ok (.bipush 10, 2) := by decide +kernel
theorem dX7_timeWords_25 : decode cX7_timeWords 25 = .ok (.irem, 1) := by decide +kernel
theorem dX7_timeWords_26 : decode cX7_timeWords 26 = .ok (.ifCond .ne 9, 3) := by decide +kernel
theorem dX7_timeWords_29 : decode cX7_timeWords 29 = .ok (.iload_n 1, 1) := by decide +kernel
theorem dX7_timeWords_30 : decode cX7_timeWords 30 = .ok (.iconst 1, 1) := by decide +kernel
theorem dX7_timeWords_31 : decode cX7_timeWords 31 = .ok (.iload_n 2, 1) := by decide +kernel
theorem dX7_timeWords_32 : decode cX7_timeWords 32 = .ok (.ishl, 1) := by decide +kernel
theorem dX7_timeWords_33 : decode cX7_timeWords 33 = .ok (.ior, 1) := by decide +kernel
theorem dX7_timeWords_34 : decode cX7_timeWords 34 = .ok (.istore_n 1, 1) := by decide +kernel
theorem dX7_timeWords_35 : decode cX7_timeWords 35 = .ok (.iinc 2 1, 3) := by decide +kernel
theorem dX7_timeWords_38 : decode cX7_timeWords 38 = .ok (.goto (-34), 3) := by decide +kernel
theorem dX7_timeWords_41 : decode cX7_timeWords 41 = .ok (.iload_n 1, 1) := by decide +kernel
theorem dX7_timeWords_42 : decode cX7_timeWords 42 = .ok (.ireturn, 1) := by decide +kernel
theorem dX7_readBy_0 : decode cX7_readBy 0 = .ok (.iconst 0, 1) := by decide +kernel
theorem dX7_readBy_1 : decode cX7_readBy 1 = .ok (.istore_n 2, 1) := by decide +kernel
theorem dX7_readBy_2 : decode cX7_readBy 2 = .ok (.iconst 0, 1) := by decide +kernel
theorem dX7_readBy_3 : decode cX7_readBy 3 = .ok (.istore_n 3, 1) := by decide +kernel
theorem dX7_readBy_4 : decode cX7_readBy 4 = .ok (.iload_n 3, 1) := by decide +kernel
theorem dX7_readBy_5 : decode cX7_readBy 5 = .ok (.aload_n 0, 1) := by decide +kernel
theorem dX7_readBy_6 : decode cX7_readBy 6 = .ok (.getfield 9, 3) := by decide +kernel
theorem dX7_readBy_9 : decode cX7_readBy 9 = .ok (.getfield 23, 3) := by decide +kernel
theorem dX7_readBy_12 : decode cX7_readBy 12 = .ok (.if_icmp .ge 80, 3) := by decide +kernel
theorem dX7_readBy_15 : decode cX7_readBy 15 = .ok (.aload_n 0, 1) := by decide +kernel
theorem dX7_readBy_16 : decode cX7_readBy 16 = .ok (.getfield 9, 3) := by decide +kernel
theorem dX7_readBy_19 : decode cX7_readBy 19 = .ok (.getfield 29, 3) := by decide +kernel
theorem dX7_readBy_22 : decode cX7_readBy 22 = .ok (.iload_n 3, 1) := by decide +kernel
theorem dX7_readBy_23 : decode cX7_readBy 23 = .ok (.aaload, 1) := by decide +kernel
theorem dX7_readBy_24 : decode cX7_readBy 24 = .ok (.astore 4, 2) := by decide +kernel
theorem dX7_readBy_26 : decode cX7_readBy 26 = .ok (.aload 4, 2) := by decide +kernel
theorem dX7_readBy_28 : decode cX7_readBy 28 = .ok (.aload 4, 2) := by decide +kernel
theorem dX7_readBy_30 : decode cX7_readBy 30 = .ok (.getfield 45, 3) := by decide +kernel
theorem dX7_readBy_33 : decode cX7_readBy 33 = .ok (.putfield 48, 3) := by decide +kernel
theorem dX7_readBy_36 : decode cX7_readBy 36 = .ok (.aload 4, 2) := by decide +kernel
theorem dX7_readBy_38 : decode cX7_readBy 38 = .ok (.getfield 33, 3) := by decide +kernel
theorem dX7_readBy_41 : decode cX7_readBy 41 = .ok (.bipush (-6), 2) := by decide +kernel
theorem dX7_readBy_43 : decode cX7_readBy 43 = .ok (.if_icmp .eq 30, 3) := by decide +kernel
theorem dX7_readBy_46 : decode cX7_readBy 46 = .ok (.iload_n 2, 1) := by decide +kernel
theorem dX7_readBy_47 : decode cX7_readBy 47 = .ok (.bipush 8, 2) := by decide +kernel
theorem dX7_readBy_49 : decode cX7_readBy 49 = .ok (.if_icmp .ge 21, 3) := by decide +kernel
theorem dX7_readBy_52 : decode cX7_readBy 52 = .ok (.iload_n 1, 1) := by decide +kernel
theorem dX7_readBy_53 : decode cX7_readBy 53 = .ok (.iload_n 2, 1) := by decide +kernel
theorem dX7_readBy_54 : decode cX7_readBy 54 = .ok (.ishr, 1) := by decide +kernel
theorem dX7_readBy_55 : decode cX7_readBy 55 = .ok (.iconst 1, 1) := by decide +kernel
theorem dX7_readBy_56 : decode cX7_readBy 56 = .ok (.iand, 1) := by decide +kernel
theorem dX7_readBy_57 : decode cX7_readBy 57 = .ok (.ifCond .eq 13, 3) := by decide +kernel
theorem dX7_readBy_60 : decode cX7_readBy 60 = .ok (.aload 4, 2) := by decide +kernel
theorem dX7_readBy_62 : decode cX7_readBy 62 = .ok (.aload 4, 2) := by decide +kernel
theorem dX7_readBy_64 : decode cX7_readBy 64 = .ok (.getfield 33, 3) := by decide +kernel
theorem dX7_readBy_67 : decode cX7_readBy 67 = .ok (.putfield 48, 3) := by decide +kernel
theorem dX7_readBy_70 : decode cX7_readBy 70 = .ok (.iinc 2 1, 3) := by decide +kernel
theorem dX7_readBy_73 : decode cX7_readBy 73 = .ok (.aload 4, 2) := by decide +kernel
theorem dX7_readBy_75 : decode cX7_readBy 75 = .ok (.getfield 38, 3) := by decide +kernel
theorem dX7_readBy_78 : decode cX7_readBy 78 = .ok (.bipush (-6), 2) := by decide +kernel
theorem dX7_readBy_80 : decode cX7_readBy 80 = .ok (.if_icmp .eq 6, 3) := by decide +kernel
theorem dX7_readBy_83 : decode cX7_readBy 83 = .ok (.iinc 2 1, 3) := by decide +kernel
theorem dX7_readBy_86 : decode cX7_readBy 86 = .ok (.iinc 3 1, 3) := by decide +kernel
theorem dX7_readBy_89 : decode cX7_readBy 89 = .ok (.goto (-85), 3) := by decide +kernel
theorem dX7_readBy_92 : decode cX7_readBy 92 = .ok (.return_, 1) := by decide +kernel
theorem dX7_givenBy_0 : decode cX7_givenBy 0 = .ok (.aload_n 0, 1) := by decide +kernel
theorem dX7_givenBy_1 : decode cX7_givenBy 1 = .ok (.iload_n 1, 1) := by decide +kernel
theorem dX7_givenBy_2 : decode cX7_givenBy 2 = .ok (.invokevirtual 51, 3) := by decide +kernel
theorem dX7_givenBy_5 : decode cX7_givenBy 5 = .ok (.aload_n 0, 1) := by decide +kernel
theorem dX7_givenBy_6 : decode cX7_givenBy 6 = .ok (.getfield 15, 3) := by decide +kernel
theorem dX7_givenBy_9 : decode cX7_givenBy 9 = .ok (.aload_n 2, 1) := by decide +kernel
theorem dX7_givenBy_10 : decode cX7_givenBy 10 = .ok (.iload_n 3, 1) := by decide +kernel
theorem dX7_givenBy_11 : decode cX7_givenBy 11 = .ok (.invokevirtual 55, 3) := by decide +kernel
theorem dX7_givenBy_14 : decode cX7_givenBy 14 = .ok (.istore 4, 2) := by decide +kernel
theorem dX7_givenBy_16 : decode cX7_givenBy 16 = .ok (.aload_n 0, 1) := by decide +kernel
theorem dX7_givenBy_17 : decode cX7_givenBy 17 = .ok (.iconst 0, 1) := by decide +kernel
theorem dX7_givenBy_18 : decode cX7_givenBy 18 = .ok (.invokevirtual 51, 3) := by decide +kernel
theorem dX7_givenBy_21 : decode cX7_givenBy 21 = .ok (.iload 4, 2) := by decide +kernel
theorem dX7_givenBy_23 : decode cX7_givenBy 23 = .ok (.ireturn, 1) := by decide +kernel
theorem dX7_unlike_0 : decode cX7_unlike 0 = .ok (.aload_n 0, 1) := by decide +kernel
theorem dX7_unlike_1 : decode cX7_unlike 1 = .ok (.invokevirtual 61, 3) := by decide +kernel
theorem dX7_unlike_4 : decode cX7_unlike 4 = .ok (.istore_n 3, 1) := by decide +kernel
theorem dX7_unlike_5 : decode cX7_unlike 5 = .ok (.aload_n 0, 1) := by decide +kernel
theorem dX7_unlike_6 : decode cX7_unlike 6 = .ok (.getfield 19, 3) := by decide +kernel
theorem dX7_unlike_9 : decode cX7_unlike 9 = .ok (.invokevirtual 65, 3) := by decide +kernel
theorem dX7_unlike_12 : decode cX7_unlike 12 = .ok (.iconst 0, 1) := by decide +kernel
theorem dX7_unlike_13 : decode cX7_unlike 13 = .ok (.istore 4, 2) := by decide +kernel
theorem dX7_unlike_15 : decode cX7_unlike 15 = .ok (.iload 4, 2) := by decide +kernel
theorem dX7_unlike_17 : decode cX7_unlike 17 = .ok (.sipush 256, 3) := by decide +kernel
theorem dX7_unlike_20 : decode cX7_unlike 20 = .ok (.if_icmp .ge 36, 3) := by decide +kernel
theorem dX7_unlike_23 : decode cX7_unlike 23 = .ok (.iload 4, 2) := by decide +kernel
theorem dX7_unlike_25 : decode cX7_unlike 25 = .ok (.iload_n 3, 1) := by decide +kernel
theorem dX7_unlike_26 : decode cX7_unlike 26 = .ok (.iconst (-1), 1) := by decide +kernel
theorem dX7_unlike_27 : decode cX7_unlike 27 = .ok (.ixor, 1) := by decide +kernel
theorem dX7_unlike_28 : decode cX7_unlike 28 = .ok (.iand, 1) := by decide +kernel
theorem dX7_unlike_29 : decode cX7_unlike 29 = .ok (.ifCond .eq 6, 3) := by decide +kernel
theorem dX7_unlike_32 : decode cX7_unlike 32 = .ok (.goto 18, 3) := by decide +kernel
theorem dX7_unlike_35 : decode cX7_unlike 35 = .ok (.aload_n 0, 1) := by decide +kernel
theorem dX7_unlike_36 : decode cX7_unlike 36 = .ok (.getfield 19, 3) := by decide +kernel
theorem dX7_unlike_39 : decode cX7_unlike 39 = .ok (.aload_n 0, 1) := by decide +kernel
theorem dX7_unlike_40 : decode cX7_unlike 40 = .ok (.iload 4, 2) := by decide +kernel
theorem dX7_unlike_42 : decode cX7_unlike 42 = .ok (.aload_n 1, 1) := by decide +kernel
theorem dX7_unlike_43 : decode cX7_unlike 43 = .ok (.iload_n 2, 1) := by decide +kernel
theorem dX7_unlike_44 : decode cX7_unlike 44 = .ok (.invokevirtual 70, 3) := by decide +kernel
theorem dX7_unlike_47 : decode cX7_unlike 47 = .ok (.invokevirtual 74, 3) := by decide +kernel
theorem dX7_unlike_50 : decode cX7_unlike 50 = .ok (.iinc 4 1, 3) := by decide +kernel
theorem dX7_unlike_53 : decode cX7_unlike 53 = .ok (.goto (-38), 3) := by decide +kernel
theorem dX7_unlike_56 : decode cX7_unlike 56 = .ok (.aload_n 0, 1) := by decide +kernel
theorem dX7_unlike_57 : decode cX7_unlike 57 = .ok (.getfield 19, 3) := by decide +kernel
theorem dX7_unlike_60 : decode cX7_unlike 60 = .ok (.invokevirtual 77, 3) := by decide +kernel
theorem dX7_unlike_63 : decode cX7_unlike 63 = .ok (.ireturn, 1) := by decide +kernel
theorem dX7_weigh_0 : decode cX7_weigh 0 = .ok (.aload_n 0, 1) := by decide +kernel
theorem dX7_weigh_1 : decode cX7_weigh 1 = .ok (.invokevirtual 80, 3) := by decide +kernel
theorem dX7_weigh_4 : decode cX7_weigh 4 = .ok (.bipush 8, 2) := by decide +kernel
theorem dX7_weigh_6 : decode cX7_weigh 6 = .ok (.invokestatic 81, 3) := by decide +kernel
theorem dX7_weigh_9 : decode cX7_weigh 9 = .ok (.istore_n 2, 1) := by decide +kernel
theorem dX7_weigh_10 : decode cX7_weigh 10 = .ok (.aload_n 0, 1) := by decide +kernel
theorem dX7_weigh_11 : decode cX7_weigh 11 = .ok (.bipush (-6), 2) := by decide +kernel
theorem dX7_weigh_13 : decode cX7_weigh 13 = .ok (.putfield 87, 3) := by decide +kernel
theorem dX7_weigh_16 : decode cX7_weigh 16 = .ok (.aload_n 0, 1) := by decide +kernel
theorem dX7_weigh_17 : decode cX7_weigh 17 = .ok (.iconst 0, 1) := by decide +kernel
theorem dX7_weigh_18 : decode cX7_weigh 18 = .ok (.putfield 90, 3) := by decide +kernel
theorem dX7_weigh_21 : decode cX7_weigh 21 = .ok (.iconst 0, 1) := by decide +kernel
theorem dX7_weigh_22 : decode cX7_weigh 22 = .ok (.istore_n 3, 1) := by decide +kernel
theorem dX7_weigh_23 : decode cX7_weigh 23 = .ok (.iload_n 3, 1) := by decide +kernel
theorem dX7_weigh_24 : decode cX7_weigh 24 = .ok (.iload_n 2, 1) := by decide +kernel
theorem dX7_weigh_25 : decode cX7_weigh 25 = .ok (.if_icmp .ge 48, 3) := by decide +kernel
theorem dX7_weigh_28 : decode cX7_weigh 28 = .ok (.aload_n 0, 1) := by decide +kernel
theorem dX7_weigh_29 : decode cX7_weigh 29 = .ok (.iconst 1, 1) := by decide +kernel
theorem dX7_weigh_30 : decode cX7_weigh 30 = .ok (.iload_n 3, 1) := by decide +kernel
theorem dX7_weigh_31 : decode cX7_weigh 31 = .ok (.ishl, 1) := by decide +kernel
theorem dX7_weigh_32 : decode cX7_weigh 32 = .ok (.iload_n 1, 1) := by decide +kernel
theorem dX7_weigh_33 : decode cX7_weigh 33 = .ok (.invokevirtual 93, 3) := by decide +kernel
theorem dX7_weigh_36 : decode cX7_weigh 36 = .ok (.istore 4, 2) := by decide +kernel
theorem dX7_weigh_38 : decode cX7_weigh 38 = .ok (.aload_n 0, 1) := by decide +kernel
theorem dX7_weigh_39 : decode cX7_weigh 39 = .ok (.getfield 87, 3) := by decide +kernel
theorem dX7_weigh_42 : decode cX7_weigh 42 = .ok (.bipush (-6), 2) := by decide +kernel
theorem dX7_weigh_44 : decode cX7_weigh 44 = .ok (.if_icmp .eq 12, 3) := by decide +kernel
theorem dX7_weigh_47 : decode cX7_weigh 47 = .ok (.iload 4, 2) := by decide +kernel
theorem dX7_weigh_49 : decode cX7_weigh 49 = .ok (.aload_n 0, 1) := by decide +kernel
theorem dX7_weigh_50 : decode cX7_weigh 50 = .ok (.getfield 90, 3) := by decide +kernel
theorem dX7_weigh_53 : decode cX7_weigh 53 = .ok (.if_icmp .le 14, 3) := by decide +kernel
theorem dX7_weigh_56 : decode cX7_weigh 56 = .ok (.aload_n 0, 1) := by decide +kernel
theorem dX7_weigh_57 : decode cX7_weigh 57 = .ok (.iload_n 3, 1) := by decide +kernel
theorem dX7_weigh_58 : decode cX7_weigh 58 = .ok (.putfield 87, 3) := by decide +kernel
theorem dX7_weigh_61 : decode cX7_weigh 61 = .ok (.aload_n 0, 1) := by decide +kernel
theorem dX7_weigh_62 : decode cX7_weigh 62 = .ok (.iload 4, 2) := by decide +kernel
theorem dX7_weigh_64 : decode cX7_weigh 64 = .ok (.putfield 90, 3) := by decide +kernel
theorem dX7_weigh_67 : decode cX7_weigh 67 = .ok (.iinc 3 1, 3) := by decide +kernel
theorem dX7_weigh_70 : decode cX7_weigh 70 = .ok (.goto (-47), 3) := by decide +kernel
theorem dX7_weigh_73 : decode cX7_weigh 73 = .ok (.return_, 1) := by decide +kernel
theorem dX7_hanging_0 : decode cX7_hanging 0 = .ok (.iconst 0, 1) := by decide +kernel
theorem dX7_hanging_1 : decode cX7_hanging 1 = .ok (.istore_n 3, 1) := by decide +kernel
theorem dX7_hanging_2 : decode cX7_hanging 2 = .ok (.iconst 0, 1) := by decide +kernel
theorem dX7_hanging_3 : decode cX7_hanging 3 = .ok (.istore 4, 2) := by decide +kernel
theorem dX7_hanging_5 : decode cX7_hanging 5 = .ok (.iload 4, 2) := by decide +kernel
theorem dX7_hanging_7 : decode cX7_hanging 7 = .ok (.aload_n 0, 1) := by decide +kernel
theorem dX7_hanging_8 : decode cX7_hanging 8 = .ok (.getfield 9, 3) := by decide +kernel
theorem dX7_hanging_11 : decode cX7_hanging 11 = .ok (.getfield 96, 3) := by decide +kernel
theorem dX7_hanging_14 : decode cX7_hanging 14 = .ok (.if_icmp .ge 61, 3) := by decide +kernel
theorem dX7_hanging_17 : decode cX7_hanging 17 = .ok (.aload_n 0, 1) := by decide +kernel
theorem dX7_hanging_18 : decode cX7_hanging 18 = .ok (.getfield 9, 3) := by decide +kernel
theorem dX7_hanging_21 : decode cX7_hanging 21 = .ok (.getfield 99, 3) := by decide +kernel
theorem dX7_hanging_24 : decode cX7_hanging 24 = .ok (.iload 4, 2) := by decide +kernel
theorem dX7_hanging_26 : decode cX7_hanging 26 = .ok (.aaload, 1) := by decide +kernel
theorem dX7_hanging_27 : decode cX7_hanging 27 = .ok (.astore 5, 2) := by decide +kernel
theorem dX7_hanging_29 : decode cX7_hanging 29 = .ok (.aload_n 0, 1) := by decide +kernel
theorem dX7_hanging_30 : decode cX7_hanging 30 = .ok (.getfield 15, 3) := by decide +kernel
theorem dX7_hanging_33 : decode cX7_hanging 33 = .ok (.aload 5, 2) := by decide +kernel
theorem dX7_hanging_35 : decode cX7_hanging 35 = .ok (.iload_n 2, 1) := by decide +kernel
theorem dX7_hanging_36 : decode cX7_hanging 36 = .ok (.invokevirtual 55, 3) := by decide +kernel
theorem dX7_hanging_39 : decode cX7_hanging 39 = .ok (.istore 6, 2) := by decide +kernel
theorem dX7_hanging_41 : decode cX7_hanging 41 = .ok (.aload_n 0, 1) := by decide +kernel
theorem dX7_hanging_42 : decode cX7_hanging 42 = .ok (.iload_n 1, 1) := by decide +kernel
theorem dX7_hanging_43 : decode cX7_hanging 43 = .ok (.invokevirtual 51, 3) := by decide +kernel
theorem dX7_hanging_46 : decode cX7_hanging 46 = .ok (.aload_n 0, 1) := by decide +kernel
theorem dX7_hanging_47 : decode cX7_hanging 47 = .ok (.getfield 15, 3) := by decide +kernel
theorem dX7_hanging_50 : decode cX7_hanging 50 = .ok (.aload 5, 2) := by decide +kernel
theorem dX7_hanging_52 : decode cX7_hanging 52 = .ok (.iload_n 2, 1) := by decide +kernel
theorem dX7_hanging_53 : decode cX7_hanging 53 = .ok (.invokevirtual 55, 3) := by decide +kernel
theorem dX7_hanging_56 : decode cX7_hanging 56 = .ok (.iload 6, 2) := by decide +kernel
theorem dX7_hanging_58 : decode cX7_hanging 58 = .ok (.if_icmp .eq 6, 3) := by decide +kernel
theorem dX7_hanging_61 : decode cX7_hanging 61 = .ok (.iinc 3 1, 3) := by decide +kernel
theorem dX7_hanging_64 : decode cX7_hanging 64 = .ok (.aload_n 0, 1) := by decide +kernel
theorem dX7_hanging_65 : decode cX7_hanging 65 = .ok (.iconst 0, 1) := by decide +kernel
theorem dX7_hanging_66 : decode cX7_hanging 66 = .ok (.invokevirtual 51, 3) := by decide +kernel
theorem dX7_hanging_69 : decode cX7_hanging 69 = .ok (.iinc 4 1, 3) := by decide +kernel
theorem dX7_hanging_72 : decode cX7_hanging 72 = .ok (.goto (-67), 3) := by decide +kernel
theorem dX7_hanging_75 : decode cX7_hanging 75 = .ok (.iload_n 3, 1) := by decide +kernel
theorem dX7_hanging_76 : decode cX7_hanging 76 = .ok (.ireturn, 1) := by decide +kernel
theorem dX8_init_0 : decode cX8_init 0 = .ok (.aload_n 0, 1) := by decide +kernel
theorem dX8_init_1 : decode cX8_init 1 = .ok (.invokespecial 3, 3) := by decide +kernel
theorem dX8_init_4 : decode cX8_init 4 = .ok (.aload_n 0, 1) := by decide +kernel
theorem dX8_init_5 : decode cX8_init 5 = .ok (.aload_n 1, 1) := by decide +kernel
theorem dX8_init_6 : decode cX8_init 6 = .ok (.putfield 9, 3) := by decide +kernel
theorem dX8_init_9 : decode cX8_init 9 = .ok (.aload_n 0, 1) := by decide +kernel
theorem dX8_init_10 : decode cX8_init 10 = .ok (.aload_n 2, 1) := by decide +kernel
theorem dX8_init_11 : decode cX8_init 11 = .ok (.putfield 15, 3) := by decide +kernel
theorem dX8_init_14 : decode cX8_init 14 = .ok (.aload_n 0, 1) := by decide +kernel
theorem dX8_init_15 : decode cX8_init 15 = .ok (.aload_n 3, 1) := by decide +kernel
theorem dX8_init_16 : decode cX8_init 16 = .ok (.putfield 19, 3) := by decide +kernel
theorem dX8_init_19 : decode cX8_init 19 = .ok (.aload_n 0, 1) := by decide +kernel
theorem dX8_init_20 : decode cX8_init 20 = .ok (.new 23, 3) := by decide +kernel
theorem dX8_init_23 : decode cX8_init 23 = .ok (.dup, 1) := by decide +kernel
theorem dX8_init_24 : decode cX8_init 24 = .ok (.invokespecial 25, 3) := by decide +kernel
theorem dX8_init_27 : decode cX8_init 27 = .ok (.putfield 26, 3) := by decide +kernel
theorem dX8_init_30 : decode cX8_init 30 = .ok (.return_, 1) := by decide +kernel
theorem dX8_unlike_0 : decode cX8_unlike 0 = .ok (.aload_n 0, 1) := by decide +kernel
theorem dX8_unlike_1 : decode cX8_unlike 1 = .ok (.getfield 19, 3) := by decide +kernel
theorem dX8_unlike_4 : decode cX8_unlike 4 = .ok (.invokevirtual 30, 3) := by decide +kernel
theorem dX8_unlike_7 : decode cX8_unlike 7 = .ok (.iconst 0, 1) := by decide +kernel
theorem dX8_unlike_8 : decode cX8_unlike 8 = .ok (.istore_n 2, 1) := by decide +kernel
theorem dX8_unlike_9 : decode cX8_unlike 9 = .ok (.iload_n 2, 1) := by decide +kernel
theorem dX8_unlike_10 : decode cX8_unlike 10 = .ok (.iload_n 1, 1) := by decide +kernel
theorem dX8_unlike_11 : decode cX8_unlike 11 = .ok (.if_icmp .gt 69, 3) := by decide +kernel
theorem dX8_unlike_14 : decode cX8_unlike 14 = .ok (.iload_n 2, 1) := by decide +kernel
theorem dX8_unlike_15 : decode cX8_unlike 15 = .ok (.ifCond .le 17, 3) := by decide +kernel
theorem dX8_unlike_18 : decode cX8_unlike 18 = .ok (.aload_n 0, 1) := by decide +kernel
theorem dX8_unlike_19 : decode cX8_unlike 19 = .ok (.getfield 9, 3) := by decide +kernel
theorem dX8_unlike_22 : decode cX8_unlike 22 = .ok (.iload_n 2, 1) := by decide +kernel
theorem dX8_unlike_23 : decode cX8_unlike 23 = .ok (.invokevirtual 35, 3) := by decide +kernel
theorem dX8_unlike_26 : decode cX8_unlike 26 = .ok (.ifCond .ne 6, 3) := by decide +kernel
theorem dX8_unlike_29 : decode cX8_unlike 29 = .ok (.goto 45, 3) := by decide +kernel
theorem dX8_unlike_32 : decode cX8_unlike 32 = .ok (.iconst 0, 1) := by decide +kernel
theorem dX8_unlike_33 : decode cX8_unlike 33 = .ok (.istore_n 3, 1) := by decide +kernel
theorem dX8_unlike_34 : decode cX8_unlike 34 = .ok (.iload_n 3, 1) := by decide +kernel
theorem dX8_unlike_35 : decode cX8_unlike 35 = .ok (.bipush 32, 2) := by decide +kernel
theorem dX8_unlike_37 : decode cX8_unlike 37 = .ok (.if_icmp .ge 37, 3) := by decide +kernel
theorem dX8_unlike_40 : decode cX8_unlike 40 = .ok (.aload_n 0, 1) := by decide +kernel
theorem dX8_unlike_41 : decode cX8_unlike 41 = .ok (.getfield 26, 3) := by decide +kernel
theorem dX8_unlike_44 : decode cX8_unlike 44 = .ok (.iload_n 2, 1) := by decide +kernel
theorem dX8_unlike_45 : decode cX8_unlike 45 = .ok (.iload_n 3, 1) := by decide +kernel
theorem dX8_unlike_46 : decode cX8_unlike 46 = .ok (.invokevirtual 41, 3) := by decide +kernel
theorem dX8_unlike_49 : decode cX8_unlike 49 = .ok (.aload_n 0, 1) := by decide +kernel
theorem dX8_unlike_50 : decode cX8_unlike 50 = .ok (.getfield 19, 3) := by decide +kernel
theorem dX8_unlike_53 : decode cX8_unlike 53 = .ok (.aload_n 0, 1) := by decide +kernel
theorem dX8_unlike_54 : decode cX8_unlike 54 = .ok (.getfield 15, 3) := by decide +kernel
theorem dX8_unlike_57 : decode cX8_unlike 57 = .ok (.aload_n 0, 1) := by decide +kernel
theorem dX8_unlike_58 : decode cX8_unlike 58 = .ok (.getfield 26, 3) := by decide +kernel
theorem dX8_unlike_61 : decode cX8_unlike 61 = .ok (.iload_n 1, 1) := by decide +kernel
theorem dX8_unlike_62 : decode cX8_unlike 62 = .ok (.invokevirtual 45, 3) := by decide +kernel
theorem dX8_unlike_65 : decode cX8_unlike 65 = .ok (.invokevirtual 51, 3) := by decide +kernel
theorem dX8_unlike_68 : decode cX8_unlike 68 = .ok (.iinc 3 1, 3) := by decide +kernel
theorem dX8_unlike_71 : decode cX8_unlike 71 = .ok (.goto (-37), 3) := by decide +kernel
theorem dX8_unlike_74 : decode cX8_unlike 74 = .ok (.iinc 2 1, 3) := by decide +kernel
theorem dX8_unlike_77 : decode cX8_unlike 77 = .ok (.goto (-68), 3) := by decide +kernel
theorem dX8_unlike_80 : decode cX8_unlike 80 = .ok (.aload_n 0, 1) := by decide +kernel
theorem dX8_unlike_81 : decode cX8_unlike 81 = .ok (.getfield 19, 3) := by decide +kernel
theorem dX8_unlike_84 : decode cX8_unlike 84 = .ok (.invokevirtual 55, 3) := by decide +kernel
theorem dX8_unlike_87 : decode cX8_unlike 87 = .ok (.ireturn, 1) := by decide +kernel
theorem dX8_firstUngoverned_0 : decode cX8_firstUngoverned 0 = .ok (.iconst 0, 1) := by decide +kernel
theorem dX8_firstUngoverned_1 : decode cX8_firstUngoverned 1 = .ok (.istore_n 2, 1) := by decide +kernel
theorem dX8_firstUngoverned_2 : decode cX8_firstUngoverned 2 = .ok (.iload_n 2, 1) := by decide +kernel
theorem dX8_firstUngoverned_3 : decode cX8_firstUngoverned 3 = .ok (.iload_n 1, 1) := by decide +kernel
theorem dX8_firstUngoverned_4 : decode cX8_firstUngoverned 4 = .ok (.if_icmp .gt 74, 3) := by decide +kernel
theorem dX8_firstUngoverned_7 : decode cX8_firstUngoverned 7 = .ok (.iload_n 2, 1) := by decide +kernel
theorem dX8_firstUngoverned_8 : decode cX8_firstUngoverned 8 = .ok (.ifCond .le 17, 3) := by decide +kernel
theorem dX8_firstUngoverned_11 : decode cX8_firstUngoverned 11 = .ok (.aload_n 0, 1) := by decide +kernel
theorem dX8_firstUngoverned_12 : decode cX8_firstUngoverned 12 = .ok (.getfield 9, 3) := by decide +kernel
theorem dX8_firstUngoverned_15 : decode cX8_firstUngoverned 15 = .ok (.iload_n 2, 1) := by decide +kernel
theorem dX8_firstUngoverned_16 : decode cX8_firstUngoverned 16 = .ok (.invokevirtual 35, 3) := by decide +kernel
theorem dX8_firstUngoverned_19 : decode cX8_firstUngoverned 19 = .ok (.ifCond .ne 6, 3) := by decide +kernel
theorem dX8_firstUngoverned_22 : decode cX8_firstUngoverned 22 = .ok (.goto 50, 3) := by decide +kernel
theorem dX8_firstUngoverned_25 : decode cX8_firstUngoverned 25 = .ok (.iconst 0, 1) := by decide +kernel
theorem dX8_firstUngoverned_26 : decode cX8_firstUngoverned 26 = .ok (.istore_n 3, 1) := by decide +kernel
theorem dX8_firstUngoverned_27 : decode cX8_firstUngoverned 27 = .ok (.iload_n 3, 1) := by decide +kernel
theorem dX8_firstUngoverned_28 : decode cX8_firstUngoverned 28 = .ok (.bipush 32, 2) := by decide +kernel
theorem dX8_firstUngoverned_30 : decode cX8_firstUngoverned 30 = .ok (.if_icmp .ge 42, 3) := by decide +kernel
theorem dX8_firstUngoverned_33 : decode cX8_firstUngoverned 33 = .ok (.aload_n 0, 1) := by decide +kernel
theorem dX8_firstUngoverned_34 : decode cX8_firstUngoverned 34 = .ok (.getfield 26, 3) := by decide +kernel
theorem dX8_firstUngoverned_37 : decode cX8_firstUngoverned 37 = .ok (.iload_n 2, 1) := by decide +kernel
theorem dX8_firstUngoverned_38 : decode cX8_firstUngoverned 38 = .ok (.iload_n 3, 1) := by decide +kernel
theorem dX8_firstUngoverned_39 : decode cX8_firstUngoverned 39 = .ok (.invokevirtual 41, 3) := by decide +kernel
theorem dX8_firstUngoverned_42 : decode cX8_firstUngoverned 42 = .ok (.aload_n 0, 1) := by decide +kernel
theorem dX8_firstUngoverned_43 : decode cX8_firstUngoverned 43 = .ok (.getfield 15, 3) := by decide +kernel
theorem dX8_firstUngoverned_46 : decode cX8_firstUngoverned 46 = .ok (.aload_n 0, 1) := by decide +kernel
theorem dX8_firstUngoverned_47 : decode cX8_firstUngoverned 47 = .ok (.getfield 26, 3) := by decide +kernel
theorem dX8_firstUngoverned_50 : decode cX8_firstUngoverned 50 = .ok (.iload_n 1, 1) := by decide +kernel
theorem dX8_firstUngoverned_51 : decode cX8_firstUngoverned 51 = .ok (.invokevirtual 59, 3) := by decide +kernel
theorem dX8_firstUngoverned_54 : decode cX8_firstUngoverned 54 = .ok (.bipush (-6), 2) := by decide +kernel
theorem dX8_firstUngoverned_56 : decode cX8_firstUngoverned 56 = .ok (.if_icmp .ne 10, 3) := by decide +kernel
theorem dX8_firstUngoverned_59 : decode cX8_firstUngoverned 59 = .ok (.bipush 100, 2) := by decide +kernel
theorem dX8_firstUngoverned_61 : decode cX8_firstUngoverned 61 = .ok (.iload_n 2, 1) := by decide +kernel
theorem dX8_firstUngoverned_62 : decode cX8_firstUngoverned 62 = .ok (.imul, 1) := by decide +kernel
theorem dX8_firstUngoverned_63 : decode cX8_firstUngoverned 63 = .ok (.iload_n 3, 1) := by decide +kernel
theorem dX8_firstUngoverned_64 : decode cX8_firstUngoverned 64 = .ok (.iadd, 1) := by decide +kernel
theorem dX8_firstUngoverned_65 : decode cX8_firstUngoverned 65 = .ok (.ireturn, 1) := by decide +kernel
theorem dX8_firstUngoverned_66 : decode cX8_firstUngoverned 66 = .ok (.iinc 3 1, 3) := by decide +kernel
theorem dX8_firstUngoverned_69 : decode cX8_firstUngoverned 69 = .ok (.goto (-42), 3) := by decide +kernel
theorem dX8_firstUngoverned_72 : decode cX8_firstUngoverned 72 = .ok (.iinc 2 1, 3) := by decide +kernel
theorem dX8_firstUngoverned_75 : decode cX8_firstUngoverned 75 = .ok (.goto (-73), 3) := by decide +kernel
theorem dX8_firstUngoverned_78 : decode cX8_firstUngoverned 78 = .ok (.bipush (-6), 2) := by decide +kernel
theorem dX8_firstUngoverned_80 : decode cX8_firstUngoverned 80 = .ok (.ireturn, 1) := by decide +kernel
theorem dX9_init_0 : decode cX9_init 0 = .ok (.aload_n 0, 1) := by decide +kernel
theorem dX9_init_1 : decode cX9_init 1 = .ok (.invokespecial 3, 3) := by decide +kernel
theorem dX9_init_4 : decode cX9_init 4 = .ok (.aload_n 0, 1) := by decide +kernel
theorem dX9_init_5 : decode cX9_init 5 = .ok (.bipush 8, 2) := by decide +kernel
theorem dX9_init_7 : decode cX9_init 7 = .ok (.anewarray 9, 3) := by decide +kernel
theorem dX9_init_10 : decode cX9_init 10 = .ok (.putfield 11, 3) := by decide +kernel
theorem dX9_init_13 : decode cX9_init 13 = .ok (.iconst 0, 1) := by decide +kernel
theorem dX9_init_14 : decode cX9_init 14 = .ok (.istore_n 1, 1) := by decide +kernel
theorem dX9_init_15 : decode cX9_init 15 = .ok (.iload_n 1, 1) := by decide +kernel
theorem dX9_init_16 : decode cX9_init 16 = .ok (.bipush 8, 2) := by decide +kernel
theorem dX9_init_18 : decode cX9_init 18 = .ok (.if_icmp .ge 22, 3) := by decide +kernel
theorem dX9_init_21 : decode cX9_init 21 = .ok (.aload_n 0, 1) := by decide +kernel
theorem dX9_init_22 : decode cX9_init 22 = .ok (.getfield 11, 3) := by decide +kernel
theorem dX9_init_25 : decode cX9_init 25 = .ok (.iload_n 1, 1) := by decide +kernel
theorem dX9_init_26 : decode cX9_init 26 = .ok (.new 9, 3) := by decide +kernel
theorem dX9_init_29 : decode cX9_init 29 = .ok (.dup, 1) := by decide +kernel
theorem dX9_init_30 : decode cX9_init 30 = .ok (.invokespecial 17, 3) := by decide +kernel
theorem dX9_init_33 : decode cX9_init 33 = .ok (.aastore, 1) := by decide +kernel
theorem dX9_init_34 : decode cX9_init 34 = .ok (.iinc 1 1, 3) := by decide +kernel
theorem dX9_init_37 : decode cX9_init 37 = .ok (.goto (-22), 3) := by decide +kernel
theorem dX9_init_40 : decode cX9_init 40 = .ok (.aload_n 0, 1) := by decide +kernel
theorem dX9_init_41 : decode cX9_init 41 = .ok (.bipush 8, 2) := by decide +kernel
theorem dX9_init_43 : decode cX9_init 43 = .ok (.newarray .int, 2) := by decide +kernel
theorem dX9_init_45 : decode cX9_init 45 = .ok (.putfield 18, 3) := by decide +kernel
theorem dX9_init_48 : decode cX9_init 48 = .ok (.aload_n 0, 1) := by decide +kernel
theorem dX9_init_49 : decode cX9_init 49 = .ok (.bipush 8, 2) := by decide +kernel
theorem dX9_init_51 : decode cX9_init 51 = .ok (.anewarray 22, 3) := by decide +kernel
theorem dX9_init_54 : decode cX9_init 54 = .ok (.putfield 24, 3) := by decide +kernel
theorem dX9_init_57 : decode cX9_init 57 = .ok (.iconst 0, 1) := by decide +kernel
theorem dX9_init_58 : decode cX9_init 58 = .ok (.istore_n 1, 1) := by decide +kernel
theorem dX9_init_59 : decode cX9_init 59 = .ok (.iload_n 1, 1) := by decide +kernel
theorem dX9_init_60 : decode cX9_init 60 = .ok (.bipush 8, 2) := by decide +kernel
theorem dX9_init_62 : decode cX9_init 62 = .ok (.if_icmp .ge 22, 3) := by decide +kernel
theorem dX9_init_65 : decode cX9_init 65 = .ok (.aload_n 0, 1) := by decide +kernel
theorem dX9_init_66 : decode cX9_init 66 = .ok (.getfield 24, 3) := by decide +kernel
theorem dX9_init_69 : decode cX9_init 69 = .ok (.iload_n 1, 1) := by decide +kernel
theorem dX9_init_70 : decode cX9_init 70 = .ok (.new 22, 3) := by decide +kernel
theorem dX9_init_73 : decode cX9_init 73 = .ok (.dup, 1) := by decide +kernel
theorem dX9_init_74 : decode cX9_init 74 = .ok (.invokespecial 28, 3) := by decide +kernel
theorem dX9_init_77 : decode cX9_init 77 = .ok (.aastore, 1) := by decide +kernel
theorem dX9_init_78 : decode cX9_init 78 = .ok (.iinc 1 1, 3) := by decide +kernel
theorem dX9_init_81 : decode cX9_init 81 = .ok (.goto (-22), 3) := by decide +kernel
theorem dX9_init_84 : decode cX9_init 84 = .ok (.return_, 1) := by decide +kernel
theorem dX9_hasLaw_0 : decode cX9_hasLaw 0 = .ok (.iload_n 1, 1) := by decide +kernel
theorem dX9_hasLaw_1 : decode cX9_hasLaw 1 = .ok (.ifCond .lt 15, 3) := by decide +kernel
theorem dX9_hasLaw_4 : decode cX9_hasLaw 4 = .ok (.iload_n 1, 1) := by decide +kernel
theorem dX9_hasLaw_5 : decode cX9_hasLaw 5 = .ok (.aload_n 0, 1) := by decide +kernel
theorem dX9_hasLaw_6 : decode cX9_hasLaw 6 = .ok (.getfield 29, 3) := by decide +kernel
theorem dX9_hasLaw_9 : decode cX9_hasLaw 9 = .ok (.if_icmp .ge 7, 3) := by decide +kernel
theorem dX9_hasLaw_12 : decode cX9_hasLaw 12 = .ok (.iconst 1, 1) := by decide +kernel
theorem dX9_hasLaw_13 : decode cX9_hasLaw 13 = .ok (.goto 4, 3) := by decide +kernel
theorem dX9_hasLaw_16 : decode cX9_hasLaw 16 = .ok (.iconst 0, 1) := by decide +kernel
theorem dX9_hasLaw_17 : decode cX9_hasLaw 17 = .ok (.ireturn, 1) := by decide +kernel
theorem dX9_hasPiece_0 : decode cX9_hasPiece 0 = .ok (.iload_n 1, 1) := by decide +kernel
theorem dX9_hasPiece_1 : decode cX9_hasPiece 1 = .ok (.ifCond .lt 15, 3) := by decide +kernel
theorem dX9_hasPiece_4 : decode cX9_hasPiece 4 = .ok (.iload_n 1, 1) := by decide +kernel
theorem dX9_hasPiece_5 : decode cX9_hasPiece 5 = .ok (.aload_n 0, 1) := by decide +kernel
theorem dX9_hasPiece_6 : decode cX9_hasPiece 6 = .ok (.getfield 33, 3) := by decide +kernel
theorem dX9_hasPiece_9 : decode cX9_hasPiece 9 = .ok (.if_icmp .ge 7, 3) := by decide +kernel
theorem dX9_hasPiece_12 : decode cX9_hasPiece 12 = .ok (.iconst 1, 1) := by decide +kernel
theorem dX9_hasPiece_13 : decode cX9_hasPiece 13 = .ok (.goto 4, 3) := by decide +kernel
theorem dX9_hasPiece_16 : decode cX9_hasPiece 16 = .ok (.iconst 0, 1) := by decide +kernel
theorem dX9_hasPiece_17 : decode cX9_hasPiece 17 = .ok (.ireturn, 1) := by decide +kernel
theorem dX9_addLaw_0 : decode cX9_addLaw 0 = .ok (.aload_n 0, 1) := by decide +kernel
theorem dX9_addLaw_1 : decode cX9_addLaw 1 = .ok (.getfield 29, 3) := by decide +kernel
theorem dX9_addLaw_4 : decode cX9_addLaw 4 = .ok (.bipush 8, 2) := by decide +kernel
theorem dX9_addLaw_6 : decode cX9_addLaw 6 = .ok (.if_icmp .lt 6, 3) := by decide +kernel
theorem dX9_addLaw_9 : decode cX9_addLaw 9 = .ok (.bipush (-4), 2) := by decide +kernel
theorem dX9_addLaw_11 : decode cX9_addLaw 11 = .ok (.ireturn, 1) := by decide +kernel
theorem dX9_addLaw_12 : decode cX9_addLaw 12 = .ok (.aload_n 0, 1) := by decide +kernel
theorem dX9_addLaw_13 : decode cX9_addLaw 13 = .ok (.getfield 11, 3) := by decide +kernel
theorem dX9_addLaw_16 : decode cX9_addLaw 16 = .ok (.aload_n 0, 1) := by decide +kernel
theorem dX9_addLaw_17 : decode cX9_addLaw 17 = .ok (.getfield 29, 3) := by decide +kernel
theorem dX9_addLaw_20 : decode cX9_addLaw 20 = .ok (.aaload, 1) := by decide +kernel
theorem dX9_addLaw_21 : decode cX9_addLaw 21 = .ok (.astore 4, 2) := by decide +kernel
theorem dX9_addLaw_23 : decode cX9_addLaw 23 = .ok (.aload 4, 2) := by decide +kernel
theorem dX9_addLaw_25 : decode cX9_addLaw 25 = .ok (.aload_n 1, 1) := by decide +kernel
theorem dX9_addLaw_26 : decode cX9_addLaw 26 = .ok (.invokevirtual 36, 3) := by decide +kernel
theorem dX9_addLaw_29 : decode cX9_addLaw 29 = .ok (.aload 4, 2) := by decide +kernel
theorem dX9_addLaw_31 : decode cX9_addLaw 31 = .ok (.iload_n 2, 1) := by decide +kernel
theorem dX9_addLaw_32 : decode cX9_addLaw 32 = .ok (.putfield 40, 3) := by decide +kernel
theorem dX9_addLaw_35 : decode cX9_addLaw 35 = .ok (.aload 4, 2) := by decide +kernel
theorem dX9_addLaw_37 : decode cX9_addLaw 37 = .ok (.iload_n 3, 1) := by decide +kernel
theorem dX9_addLaw_38 : decode cX9_addLaw 38 = .ok (.putfield 43, 3) := by decide +kernel
theorem dX9_addLaw_41 : decode cX9_addLaw 41 = .ok (.aload_n 0, 1) := by decide +kernel
theorem dX9_addLaw_42 : decode cX9_addLaw 42 = .ok (.dup, 1) := by decide +kernel
theorem dX9_addLaw_43 : decode cX9_addLaw 43 = .ok (.getfield 29, 3) := by decide +kernel
theorem dX9_addLaw_46 : decode cX9_addLaw 46 = .ok (.iconst 1, 1) := by decide +kernel
theorem dX9_addLaw_47 : decode cX9_addLaw 47 = .ok (.iadd, 1) := by decide +kernel
theorem dX9_addLaw_48 : decode cX9_addLaw 48 = .ok (.putfield 29, 3) := by decide +kernel
theorem dX9_addLaw_51 : decode cX9_addLaw 51 = .ok (.aload_n 0, 1) := by decide +kernel
theorem dX9_addLaw_52 : decode cX9_addLaw 52 = .ok (.invokevirtual 46, 3) := by decide +kernel
theorem dX9_addLaw_55 : decode cX9_addLaw 55 = .ok (.aload_n 0, 1) := by decide +kernel
theorem dX9_addLaw_56 : decode cX9_addLaw 56 = .ok (.getfield 29, 3) := by decide +kernel
theorem dX9_addLaw_59 : decode cX9_addLaw 59 = .ok (.iconst 1, 1) := by decide +kernel
theorem dX9_addLaw_60 : decode cX9_addLaw 60 = .ok (.isub, 1) := by decide +kernel
theorem dX9_addLaw_61 : decode cX9_addLaw 61 = .ok (.ireturn, 1) := by decide +kernel
theorem dX9_addPiece_0 : decode cX9_addPiece 0 = .ok (.aload_n 0, 1) := by decide +kernel
theorem dX9_addPiece_1 : decode cX9_addPiece 1 = .ok (.getfield 33, 3) := by decide +kernel
theorem dX9_addPiece_4 : decode cX9_addPiece 4 = .ok (.bipush 8, 2) := by decide +kernel
theorem dX9_addPiece_6 : decode cX9_addPiece 6 = .ok (.if_icmp .lt 6, 3) := by decide +kernel
theorem dX9_addPiece_9 : decode cX9_addPiece 9 = .ok (.bipush (-4), 2) := by decide +kernel
theorem dX9_addPiece_11 : decode cX9_addPiece 11 = .ok (.ireturn, 1) := by decide +kernel
theorem dX9_addPiece_12 : decode cX9_addPiece 12 = .ok (.aload_n 0, 1) := by decide +kernel
theorem dX9_addPiece_13 : decode cX9_addPiece 13 = .ok (.getfield 24, 3) := by decide +kernel
theorem dX9_addPiece_16 : decode cX9_addPiece 16 = .ok (.aload_n 0, 1) := by decide +kernel
theorem dX9_addPiece_17 : decode cX9_addPiece 17 = .ok (.getfield 33, 3) := by decide +kernel
theorem dX9_addPiece_20 : decode cX9_addPiece 20 = .ok (.aaload, 1) := by decide +kernel
theorem dX9_addPiece_21 : decode cX9_addPiece 21 = .ok (.iload_n 1, 1) := by decide +kernel
theorem dX9_addPiece_22 : decode cX9_addPiece 22 = .ok (.iload_n 2, 1) := by decide +kernel
theorem dX9_addPiece_23 : decode cX9_addPiece 23 = .ok (.invokevirtual 49, 3) := by decide +kernel
theorem dX9_addPiece_26 : decode cX9_addPiece 26 = .ok (.aload_n 0, 1) := by decide +kernel
theorem dX9_addPiece_27 : decode cX9_addPiece 27 = .ok (.dup, 1) := by decide +kernel
theorem dX9_addPiece_28 : decode cX9_addPiece 28 = .ok (.getfield 33, 3) := by decide +kernel
theorem dX9_addPiece_31 : decode cX9_addPiece 31 = .ok (.iconst 1, 1) := by decide +kernel
theorem dX9_addPiece_32 : decode cX9_addPiece 32 = .ok (.iadd, 1) := by decide +kernel
theorem dX9_addPiece_33 : decode cX9_addPiece 33 = .ok (.putfield 33, 3) := by decide +kernel
theorem dX9_addPiece_36 : decode cX9_addPiece 36 = .ok (.aload_n 0, 1) := by decide +kernel
theorem dX9_addPiece_37 : decode cX9_addPiece 37 = .ok (.getfield 33, 3) := by decide +kernel
theorem dX9_addPiece_40 : decode cX9_addPiece 40 = .ok (.iconst 1, 1) := by decide +kernel
theorem dX9_addPiece_41 : decode cX9_addPiece 41 = .ok (.isub, 1) := by decide +kernel
theorem dX9_addPiece_42 : decode cX9_addPiece 42 = .ok (.ireturn, 1) := by decide +kernel
theorem dX9_orderLaws_0 : decode cX9_orderLaws 0 = .ok (.iconst 0, 1) := by decide +kernel
theorem dX9_orderLaws_1 : decode cX9_orderLaws 1 = .ok (.istore_n 1, 1) := by decide +kernel
theorem dX9_orderLaws_2 : decode cX9_orderLaws 2 = .ok (.iload_n 1, 1) := by decide +kernel
theorem dX9_orderLaws_3 : decode cX9_orderLaws 3 = .ok (.aload_n 0, 1) := by decide +kernel
theorem dX9_orderLaws_4 : decode cX9_orderLaws 4 = .ok (.getfield 29, 3) := by decide +kernel
theorem dX9_orderLaws_7 : decode cX9_orderLaws 7 = .ok (.if_icmp .ge 70, 3) := by decide +kernel
theorem dX9_orderLaws_10 : decode cX9_orderLaws 10 = .ok (.iload_n 1, 1) := by decide +kernel
theorem dX9_orderLaws_11 : decode cX9_orderLaws 11 = .ok (.istore_n 2, 1) := by decide +kernel
theorem dX9_orderLaws_12 : decode cX9_orderLaws 12 = .ok (.iload_n 2, 1) := by decide +kernel
theorem dX9_orderLaws_13 : decode cX9_orderLaws 13 = .ok (.ifCond .le 51, 3) := by decide +kernel
theorem dX9_orderLaws_16 : decode cX9_orderLaws 16 = .ok (.aload_n 0, 1) := by decide +kernel
theorem dX9_orderLaws_17 : decode cX9_orderLaws 17 = .ok (.getfield 11, 3) := by decide +kernel
theorem dX9_orderLaws_20 : decode cX9_orderLaws 20 = .ok (.iload_n 1, 1) := by decide +kernel
theorem dX9_orderLaws_21 : decode cX9_orderLaws 21 = .ok (.aaload, 1) := by decide +kernel
theorem dX9_orderLaws_22 : decode cX9_orderLaws 22 = .ok (.getfield 40, 3) := by decide +kernel
theorem dX9_orderLaws_25 : decode cX9_orderLaws 25 = .ok (.aload_n 0, 1) := by decide +kernel
theorem dX9_orderLaws_26 : decode cX9_orderLaws 26 = .ok (.getfield 11, 3) := by decide +kernel
theorem dX9_orderLaws_29 : decode cX9_orderLaws 29 = .ok (.aload_n 0, 1) := by decide +kernel
theorem dX9_orderLaws_30 : decode cX9_orderLaws 30 = .ok (.getfield 18, 3) := by decide +kernel
theorem dX9_orderLaws_33 : decode cX9_orderLaws 33 = .ok (.iload_n 2, 1) := by decide +kernel
theorem dX9_orderLaws_34 : decode cX9_orderLaws 34 = .ok (.iconst 1, 1) := by decide +kernel
theorem dX9_orderLaws_35 : decode cX9_orderLaws 35 = .ok (.isub, 1) := by decide +kernel
theorem dX9_orderLaws_36 : decode cX9_orderLaws 36 = .ok (.iaload, 1) := by decide +kernel
theorem dX9_orderLaws_37 : decode cX9_orderLaws 37 = .ok (.aaload, 1) := by decide +kernel
theorem dX9_orderLaws_38 : decode cX9_orderLaws 38 = .ok (.getfield 40, 3) := by decide +kernel
theorem dX9_orderLaws_41 : decode cX9_orderLaws 41 = .ok (.if_icmp .lt 23, 3) := by decide +kernel
theorem dX9_orderLaws_44 : decode cX9_orderLaws 44 = .ok (.aload_n 0, 1) := by decide +kernel
theorem dX9_orderLaws_45 : decode cX9_orderLaws 45 = .ok (.getfield 18, 3) := by decide +kernel
theorem dX9_orderLaws_48 : decode cX9_orderLaws 48 = .ok (.iload_n 2, 1) := by decide +kernel
theorem dX9_orderLaws_49 : decode cX9_orderLaws 49 = .ok (.aload_n 0, 1) := by decide +kernel
theorem dX9_orderLaws_50 : decode cX9_orderLaws 50 = .ok (.getfield 18, 3) := by decide +kernel
theorem dX9_orderLaws_53 : decode cX9_orderLaws 53 = .ok (.iload_n 2, 1) := by decide +kernel
theorem dX9_orderLaws_54 : decode cX9_orderLaws 54 = .ok (.iconst 1, 1) := by decide +kernel
theorem dX9_orderLaws_55 : decode cX9_orderLaws 55 = .ok (.isub, 1) := by decide +kernel
theorem dX9_orderLaws_56 : decode cX9_orderLaws 56 = .ok (.iaload, 1) := by decide +kernel
theorem dX9_orderLaws_57 : decode cX9_orderLaws 57 = .ok (.iastore, 1) := by decide +kernel
theorem dX9_orderLaws_58 : decode cX9_orderLaws 58 = .ok (.iinc 2 (-1), 3) := by decide +kernel
theorem dX9_orderLaws_61 : decode cX9_orderLaws 61 = .ok (.goto (-49), 3) := by decide +kernel
theorem dX9_orderLaws_64 : decode cX9_orderLaws 64 = .ok (.aload_n 0, 1) := by decide +kernel
theorem dX9_orderLaws_65 : decode cX9_orderLaws 65 = .ok (.getfield 18, 3) := by decide +kernel
theorem dX9_orderLaws_68 : decode cX9_orderLaws 68 = .ok (.iload_n 2, 1) := by decide +kernel
theorem dX9_orderLaws_69 : decode cX9_orderLaws 69 = .ok (.iload_n 1, 1) := by decide +kernel
theorem dX9_orderLaws_70 : decode cX9_orderLaws 70 = .ok (.iastore, 1) := by decide +kernel
theorem dX9_orderLaws_71 : decode cX9_orderLaws 71 = .ok (.iinc 1 1, 3) := by decide +kernel
theorem dX9_orderLaws_74 : decode cX9_orderLaws 74 = .ok (.goto (-72), 3) := by decide +kernel
theorem dX9_orderLaws_77 : decode cX9_orderLaws 77 = .ok (.return_, 1) := by decide +kernel
theorem dX9_lawsInForce_0 : decode cX9_lawsInForce 0 = .ok (.iconst 0, 1) := by decide +kernel
theorem dX9_lawsInForce_1 : decode cX9_lawsInForce 1 = .ok (.istore_n 2, 1) := by decide +kernel
theorem dX9_lawsInForce_2 : decode cX9_lawsInForce 2 = .ok (.iconst 0, 1) := by decide +kernel
theorem dX9_lawsInForce_3 : decode cX9_lawsInForce 3 = .ok (.istore_n 3, 1) := by decide +kernel
theorem dX9_lawsInForce_4 : decode cX9_lawsInForce 4 = .ok (.iload_n 3, 1) := by decide +kernel
theorem dX9_lawsInForce_5 : decode cX9_lawsInForce 5 = .ok (.aload_n 0, 1) := by decide +kernel
theorem dX9_lawsInForce_6 : decode cX9_lawsInForce 6 = .ok (.getfield 29, 3) := by decide +kernel
theorem dX9_lawsInForce_9 : decode cX9_lawsInForce 9 = .ok (.if_icmp .ge 28, 3) := by decide +kernel
theorem dX9_lawsInForce_12 : decode cX9_lawsInForce 12 = .ok (.aload_n 0, 1) := by decide +kernel
theorem dX9_lawsInForce_13 : decode cX9_lawsInForce 13 = .ok (.getfield 11, 3) := by decide +kernel
theorem dX9_lawsInForce_16 : decode cX9_lawsInForce 16 = .ok (.iload_n 3, 1) := by decide +kernel
theorem dX9_lawsInForce_17 : decode cX9_lawsInForce 17 = .ok (.aaload, 1) := by decide +kernel
theorem dX9_lawsInForce_18 : decode cX9_lawsInForce 18 = .ok (.iload_n 1, 1) := by decide +kernel
theorem dX9_lawsInForce_19 : decode cX9_lawsInForce 19 = .ok (.invokevirtual 53, 3) := by decide +kernel
theorem dX9_lawsInForce_22 : decode cX9_lawsInForce 22 = .ok (.ifCond .eq 9, 3) := by decide +kernel
theorem dX9_lawsInForce_25 : decode cX9_lawsInForce 25 = .ok (.iload_n 2, 1) := by decide +kernel
theorem dX9_lawsInForce_26 : decode cX9_lawsInForce 26 = .ok (.iconst 1, 1) := by decide +kernel
theorem dX9_lawsInForce_27 : decode cX9_lawsInForce 27 = .ok (.iload_n 3, 1) := by decide +kernel
theorem dX9_lawsInForce_28 : decode cX9_lawsInForce 28 = .ok (.ishl, 1) := by decide +kernel
theorem dX9_lawsInForce_29 : decode cX9_lawsInForce 29 = .ok (.ior, 1) := by decide +kernel
theorem dX9_lawsInForce_30 : decode cX9_lawsInForce 30 = .ok (.istore_n 2, 1) := by decide +kernel
theorem dX9_lawsInForce_31 : decode cX9_lawsInForce 31 = .ok (.iinc 3 1, 3) := by decide +kernel
theorem dX9_lawsInForce_34 : decode cX9_lawsInForce 34 = .ok (.goto (-30), 3) := by decide +kernel
theorem dX9_lawsInForce_37 : decode cX9_lawsInForce 37 = .ok (.iload_n 2, 1) := by decide +kernel
theorem dX9_lawsInForce_38 : decode cX9_lawsInForce 38 = .ok (.ireturn, 1) := by decide +kernel
theorem dX9_undone_0 : decode cX9_undone 0 = .ok (.iconst 0, 1) := by decide +kernel
theorem dX9_undone_1 : decode cX9_undone 1 = .ok (.istore_n 2, 1) := by decide +kernel
theorem dX9_undone_2 : decode cX9_undone 2 = .ok (.iconst 0, 1) := by decide +kernel
theorem dX9_undone_3 : decode cX9_undone 3 = .ok (.istore_n 3, 1) := by decide +kernel
theorem dX9_undone_4 : decode cX9_undone 4 = .ok (.iload_n 3, 1) := by decide +kernel
theorem dX9_undone_5 : decode cX9_undone 5 = .ok (.aload_n 0, 1) := by decide +kernel
theorem dX9_undone_6 : decode cX9_undone 6 = .ok (.getfield 29, 3) := by decide +kernel
theorem dX9_undone_9 : decode cX9_undone 9 = .ok (.if_icmp .ge 53, 3) := by decide +kernel
theorem dX9_undone_12 : decode cX9_undone 12 = .ok (.aload_n 0, 1) := by decide +kernel
theorem dX9_undone_13 : decode cX9_undone 13 = .ok (.getfield 18, 3) := by decide +kernel
theorem dX9_undone_16 : decode cX9_undone 16 = .ok (.iload_n 3, 1) := by decide +kernel
theorem dX9_undone_17 : decode cX9_undone 17 = .ok (.iaload, 1) := by decide +kernel
theorem dX9_undone_18 : decode cX9_undone 18 = .ok (.istore 4, 2) := by decide +kernel
theorem dX9_undone_20 : decode cX9_undone 20 = .ok (.aload_n 0, 1) := by decide +kernel
theorem dX9_undone_21 : decode cX9_undone 21 = .ok (.getfield 11, 3) := by decide +kernel
theorem dX9_undone_24 : decode cX9_undone 24 = .ok (.iload 4, 2) := by decide +kernel
theorem dX9_undone_26 : decode cX9_undone 26 = .ok (.aaload, 1) := by decide +kernel
theorem dX9_undone_27 : decode cX9_undone 27 = .ok (.iload_n 1, 1) := by decide +kernel
theorem dX9_undone_28 : decode cX9_undone 28 = .ok (.invokevirtual 53, 3) := by decide +kernel
theorem dX9_undone_31 : decode cX9_undone 31 = .ok (.ifCond .eq 25, 3) := by decide +kernel
theorem dX9_undone_34 : decode cX9_undone 34 = .ok (.iload_n 2, 1) := by decide +kernel
theorem dX9_undone_35 : decode cX9_undone 35 = .ok (.iload 4, 2) := by decide +kernel
theorem dX9_undone_37 : decode cX9_undone 37 = .ok (.ishr, 1) := by decide +kernel
theorem dX9_undone_38 : decode cX9_undone 38 = .ok (.iconst 1, 1) := by decide +kernel
theorem dX9_undone_39 : decode cX9_undone 39 = .ok (.iand, 1) := by decide +kernel
theorem dX9_undone_40 : decode cX9_undone 40 = .ok (.ifCond .ne 16, 3) := by decide +kernel
theorem dX9_undone_43 : decode cX9_undone 43 = .ok (.iload_n 2, 1) := by decide +kernel
theorem dX9_undone_44 : decode cX9_undone 44 = .ok (.aload_n 0, 1) := by decide +kernel
theorem dX9_undone_45 : decode cX9_undone 45 = .ok (.getfield 11, 3) := by decide +kernel
theorem dX9_undone_48 : decode cX9_undone 48 = .ok (.iload 4, 2) := by decide +kernel
theorem dX9_undone_50 : decode cX9_undone 50 = .ok (.aaload, 1) := by decide +kernel
theorem dX9_undone_51 : decode cX9_undone 51 = .ok (.getfield 57, 3) := by decide +kernel
theorem dX9_undone_54 : decode cX9_undone 54 = .ok (.ior, 1) := by decide +kernel
theorem dX9_undone_55 : decode cX9_undone 55 = .ok (.istore_n 2, 1) := by decide +kernel
theorem dX9_undone_56 : decode cX9_undone 56 = .ok (.iinc 3 1, 3) := by decide +kernel
theorem dX9_undone_59 : decode cX9_undone 59 = .ok (.goto (-55), 3) := by decide +kernel
theorem dX9_undone_62 : decode cX9_undone 62 = .ok (.iload_n 2, 1) := by decide +kernel
theorem dX9_undone_63 : decode cX9_undone 63 = .ok (.iconst 1, 1) := by decide +kernel
theorem dX9_undone_64 : decode cX9_undone 64 = .ok (.aload_n 0, 1) := by decide +kernel
theorem dX9_undone_65 : decode cX9_undone 65 = .ok (.getfield 29, 3) := by decide +kernel
theorem dX9_undone_68 : decode cX9_undone 68 = .ok (.ishl, 1) := by decide +kernel
theorem dX9_undone_69 : decode cX9_undone 69 = .ok (.iconst 1, 1) := by decide +kernel
theorem dX9_undone_70 : decode cX9_undone 70 = .ok (.isub, 1) := by decide +kernel
theorem dX9_undone_71 : decode cX9_undone 71 = .ok (.iand, 1) := by decide +kernel
theorem dX9_undone_72 : decode cX9_undone 72 = .ok (.ireturn, 1) := by decide +kernel
theorem dX9_turnsOn_0 : decode cX9_turnsOn 0 = .ok (.iconst 0, 1) := by decide +kernel
theorem dX9_turnsOn_1 : decode cX9_turnsOn 1 = .ok (.istore_n 2, 1) := by decide +kernel
theorem dX9_turnsOn_2 : decode cX9_turnsOn 2 = .ok (.iload_n 2, 1) := by decide +kernel
theorem dX9_turnsOn_3 : decode cX9_turnsOn 3 = .ok (.aload_n 0, 1) := by decide +kernel
theorem dX9_turnsOn_4 : decode cX9_turnsOn 4 = .ok (.getfield 29, 3) := by decide +kernel
theorem dX9_turnsOn_7 : decode cX9_turnsOn 7 = .ok (.if_icmp .ge 37, 3) := by decide +kernel
theorem dX9_turnsOn_10 : decode cX9_turnsOn 10 = .ok (.aload_n 0, 1) := by decide +kernel
theorem dX9_turnsOn_11 : decode cX9_turnsOn 11 = .ok (.getfield 11, 3) := by decide +kernel
theorem dX9_turnsOn_14 : decode cX9_turnsOn 14 = .ok (.iload_n 2, 1) := by decide +kernel
theorem dX9_turnsOn_15 : decode cX9_turnsOn 15 = .ok (.aaload, 1) := by decide +kernel
theorem dX9_turnsOn_16 : decode cX9_turnsOn 16 = .ok (.getfield 40, 3) := by decide +kernel
theorem dX9_turnsOn_19 : decode cX9_turnsOn 19 = .ok (.iload_n 1, 1) := by decide +kernel
theorem dX9_turnsOn_20 : decode cX9_turnsOn 20 = .ok (.if_icmp .eq 16, 3) := by decide +kernel
theorem dX9_turnsOn_23 : decode cX9_turnsOn 23 = .ok (.aload_n 0, 1) := by decide +kernel
theorem dX9_turnsOn_24 : decode cX9_turnsOn 24 = .ok (.getfield 11, 3) := by decide +kernel
theorem dX9_turnsOn_27 : decode cX9_turnsOn 27 = .ok (.iload_n 2, 1) := by decide +kernel
theorem dX9_turnsOn_28 : decode cX9_turnsOn 28 = .ok (.aaload, 1) := by decide +kernel
theorem dX9_turnsOn_29 : decode cX9_turnsOn 29 = .ok (.getfield 43, 3) := by decide +kernel
theorem dX9_turnsOn_32 : decode cX9_turnsOn 32 = .ok (.iload_n 1, 1) := by decide +kernel
theorem dX9_turnsOn_33 : decode cX9_turnsOn 33 = .ok (.if_icmp .ne 5, 3) := by decide +kernel
theorem dX9_turnsOn_36 : decode cX9_turnsOn 36 = .ok (.iconst 1, 1) := by decide +kernel
theorem dX9_turnsOn_37 : decode cX9_turnsOn 37 = .ok (.ireturn, 1) := by decide +kernel
theorem dX9_turnsOn_38 : decode cX9_turnsOn 38 = .ok (.iinc 2 1, 3) := by decide +kernel
theorem dX9_turnsOn_41 : decode cX9_turnsOn 41 = .ok (.goto (-39), 3) := by decide +kernel
theorem dX9_turnsOn_44 : decode cX9_turnsOn 44 = .ok (.iconst 0, 1) := by decide +kernel
theorem dX9_turnsOn_45 : decode cX9_turnsOn 45 = .ok (.ireturn, 1) := by decide +kernel
theorem dX9_briefest_0 : decode cX9_briefest 0 = .ok (.iconst 0, 1) := by decide +kernel
theorem dX9_briefest_1 : decode cX9_briefest 1 = .ok (.istore_n 1, 1) := by decide +kernel
theorem dX9_briefest_2 : decode cX9_briefest 2 = .ok (.iconst 1, 1) := by decide +kernel
theorem dX9_briefest_3 : decode cX9_briefest 3 = .ok (.istore_n 2, 1) := by decide +kernel
theorem dX9_briefest_4 : decode cX9_briefest 4 = .ok (.iload_n 2, 1) := by decide +kernel
theorem dX9_briefest_5 : decode cX9_briefest 5 = .ok (.aload_n 0, 1) := by decide +kernel
theorem dX9_briefest_6 : decode cX9_briefest 6 = .ok (.getfield 29, 3) := by decide +kernel
theorem dX9_briefest_9 : decode cX9_briefest 9 = .ok (.if_icmp .ge 32, 3) := by decide +kernel
theorem dX9_briefest_12 : decode cX9_briefest 12 = .ok (.aload_n 0, 1) := by decide +kernel
theorem dX9_briefest_13 : decode cX9_briefest 13 = .ok (.getfield 11, 3) := by decide +kernel
theorem dX9_briefest_16 : decode cX9_briefest 16 = .ok (.iload_n 2, 1) := by decide +kernel
theorem dX9_briefest_17 : decode cX9_briefest 17 = .ok (.aaload, 1) := by decide +kernel
theorem dX9_briefest_18 : decode cX9_briefest 18 = .ok (.invokevirtual 60, 3) := by decide +kernel
theorem dX9_briefest_21 : decode cX9_briefest 21 = .ok (.aload_n 0, 1) := by decide +kernel
theorem dX9_briefest_22 : decode cX9_briefest 22 = .ok (.getfield 11, 3) := by decide +kernel
theorem dX9_briefest_25 : decode cX9_briefest 25 = .ok (.iload_n 1, 1) := by decide +kernel
theorem dX9_briefest_26 : decode cX9_briefest 26 = .ok (.aaload, 1) := by decide +kernel
theorem dX9_briefest_27 : decode cX9_briefest 27 = .ok (.invokevirtual 60, 3) := by decide +kernel
theorem dX9_briefest_30 : decode cX9_briefest 30 = .ok (.if_icmp .ge 5, 3) := by decide +kernel
theorem dX9_briefest_33 : decode cX9_briefest 33 = .ok (.iload_n 2, 1) := by decide +kernel
theorem dX9_briefest_34 : decode cX9_briefest 34 = .ok (.istore_n 1, 1) := by decide +kernel
theorem dX9_briefest_35 : decode cX9_briefest 35 = .ok (.iinc 2 1, 3) := by decide +kernel
theorem dX9_briefest_38 : decode cX9_briefest 38 = .ok (.goto (-34), 3) := by decide +kernel
theorem dX9_briefest_41 : decode cX9_briefest 41 = .ok (.iload_n 1, 1) := by decide +kernel
theorem dX9_briefest_42 : decode cX9_briefest 42 = .ok (.ireturn, 1) := by decide +kernel
theorem dX9_copyFrom_0 : decode cX9_copyFrom 0 = .ok (.aload_n 0, 1) := by decide +kernel
theorem dX9_copyFrom_1 : decode cX9_copyFrom 1 = .ok (.aload_n 1, 1) := by decide +kernel
theorem dX9_copyFrom_2 : decode cX9_copyFrom 2 = .ok (.getfield 29, 3) := by decide +kernel
theorem dX9_copyFrom_5 : decode cX9_copyFrom 5 = .ok (.putfield 29, 3) := by decide +kernel
theorem dX9_copyFrom_8 : decode cX9_copyFrom 8 = .ok (.iconst 0, 1) := by decide +kernel
theorem dX9_copyFrom_9 : decode cX9_copyFrom 9 = .ok (.istore_n 2, 1) := by decide +kernel
theorem dX9_copyFrom_10 : decode cX9_copyFrom 10 = .ok (.iload_n 2, 1) := by decide +kernel
theorem dX9_copyFrom_11 : decode cX9_copyFrom 11 = .ok (.aload_n 0, 1) := by decide +kernel
theorem dX9_copyFrom_12 : decode cX9_copyFrom 12 = .ok (.getfield 29, 3) := by decide +kernel
theorem dX9_copyFrom_15 : decode cX9_copyFrom 15 = .ok (.if_icmp .ge 24, 3) := by decide +kernel
theorem dX9_copyFrom_18 : decode cX9_copyFrom 18 = .ok (.aload_n 0, 1) := by decide +kernel
theorem dX9_copyFrom_19 : decode cX9_copyFrom 19 = .ok (.getfield 11, 3) := by decide +kernel
theorem dX9_copyFrom_22 : decode cX9_copyFrom 22 = .ok (.iload_n 2, 1) := by decide +kernel
theorem dX9_copyFrom_23 : decode cX9_copyFrom 23 = .ok (.aaload, 1) := by decide +kernel
theorem dX9_copyFrom_24 : decode cX9_copyFrom 24 = .ok (.aload_n 1, 1) := by decide +kernel
theorem dX9_copyFrom_25 : decode cX9_copyFrom 25 = .ok (.getfield 11, 3) := by decide +kernel
theorem dX9_copyFrom_28 : decode cX9_copyFrom 28 = .ok (.iload_n 2, 1) := by decide +kernel
theorem dX9_copyFrom_29 : decode cX9_copyFrom 29 = .ok (.aaload, 1) := by decide +kernel
theorem dX9_copyFrom_30 : decode cX9_copyFrom 30 = .ok (.invokevirtual 64, 3) := by decide +kernel
theorem dX9_copyFrom_33 : decode cX9_copyFrom 33 = .ok (.iinc 2 1, 3) := by decide +kernel
theorem dX9_copyFrom_36 : decode cX9_copyFrom 36 = .ok (.goto (-26), 3) := by decide +kernel
theorem dX9_copyFrom_39 : decode cX9_copyFrom 39 = .ok (.aload_n 1, 1) := by decide +kernel
theorem dX9_copyFrom_40 : decode cX9_copyFrom 40 = .ok (.getfield 18, 3) := by decide +kernel
theorem dX9_copyFrom_43 : decode cX9_copyFrom 43 = .ok (.iconst 0, 1) := by decide +kernel
theorem dX9_copyFrom_44 : decode cX9_copyFrom 44 = .ok (.aload_n 0, 1) := by decide +kernel
theorem dX9_copyFrom_45 : decode cX9_copyFrom 45 = .ok (.getfield 18, 3) := by decide +kernel
theorem dX9_copyFrom_48 : decode cX9_copyFrom 48 = .ok (.iconst 0, 1) := by decide +kernel
theorem dX9_copyFrom_49 : decode cX9_copyFrom 49 = .ok (.bipush 8, 2) := by decide +kernel
theorem dX9_copyFrom_51 : decode cX9_copyFrom 51 = .ok (.invokestatic 67, 3) := by decide +kernel
theorem dX9_copyFrom_54 : decode cX9_copyFrom 54 = .ok (.aload_n 0, 1) := by decide +kernel
theorem dX9_copyFrom_55 : decode cX9_copyFrom 55 = .ok (.aload_n 1, 1) := by decide +kernel
theorem dX9_copyFrom_56 : decode cX9_copyFrom 56 = .ok (.getfield 33, 3) := by decide +kernel
theorem dX9_copyFrom_59 : decode cX9_copyFrom 59 = .ok (.putfield 33, 3) := by decide +kernel
theorem dX9_copyFrom_62 : decode cX9_copyFrom 62 = .ok (.iconst 0, 1) := by decide +kernel
theorem dX9_copyFrom_63 : decode cX9_copyFrom 63 = .ok (.istore_n 2, 1) := by decide +kernel
theorem dX9_copyFrom_64 : decode cX9_copyFrom 64 = .ok (.iload_n 2, 1) := by decide +kernel
theorem dX9_copyFrom_65 : decode cX9_copyFrom 65 = .ok (.aload_n 0, 1) := by decide +kernel
theorem dX9_copyFrom_66 : decode cX9_copyFrom 66 = .ok (.getfield 33, 3) := by decide +kernel
theorem dX9_copyFrom_69 : decode cX9_copyFrom 69 = .ok (.if_icmp .ge 24, 3) := by decide +kernel
theorem dX9_copyFrom_72 : decode cX9_copyFrom 72 = .ok (.aload_n 0, 1) := by decide +kernel
theorem dX9_copyFrom_73 : decode cX9_copyFrom 73 = .ok (.getfield 24, 3) := by decide +kernel
theorem dX9_copyFrom_76 : decode cX9_copyFrom 76 = .ok (.iload_n 2, 1) := by decide +kernel
theorem dX9_copyFrom_77 : decode cX9_copyFrom 77 = .ok (.aaload, 1) := by decide +kernel
theorem dX9_copyFrom_78 : decode cX9_copyFrom 78 = .ok (.aload_n 1, 1) := by decide +kernel
theorem dX9_copyFrom_79 : decode cX9_copyFrom 79 = .ok (.getfield 24, 3) := by decide +kernel
theorem dX9_copyFrom_82 : decode cX9_copyFrom 82 = .ok (.iload_n 2, 1) := by decide +kernel
theorem dX9_copyFrom_83 : decode cX9_copyFrom 83 = .ok (.aaload, 1) := by decide +kernel
theorem dX9_copyFrom_84 : decode cX9_copyFrom 84 = .ok (.invokevirtual 73, 3) := by decide +kernel
theorem dX9_copyFrom_87 : decode cX9_copyFrom 87 = .ok (.iinc 2 1, 3) := by decide +kernel
theorem dX9_copyFrom_90 : decode cX9_copyFrom 90 = .ok (.goto (-26), 3) := by decide +kernel
theorem dX9_copyFrom_93 : decode cX9_copyFrom 93 = .ok (.aload_n 0, 1) := by decide +kernel
theorem dX9_copyFrom_94 : decode cX9_copyFrom 94 = .ok (.aload_n 1, 1) := by decide +kernel
theorem dX9_copyFrom_95 : decode cX9_copyFrom 95 = .ok (.getfield 76, 3) := by decide +kernel
theorem dX9_copyFrom_98 : decode cX9_copyFrom 98 = .ok (.putfield 76, 3) := by decide +kernel
theorem dX9_copyFrom_101 : decode cX9_copyFrom 101 = .ok (.aload_n 0, 1) := by decide +kernel
theorem dX9_copyFrom_102 : decode cX9_copyFrom 102 = .ok (.aload_n 1, 1) := by decide +kernel
theorem dX9_copyFrom_103 : decode cX9_copyFrom 103 = .ok (.getfield 79, 3) := by decide +kernel
theorem dX9_copyFrom_106 : decode cX9_copyFrom 106 = .ok (.putfield 79, 3) := by decide +kernel
theorem dX9_copyFrom_109 : decode cX9_copyFrom 109 = .ok (.aload_n 0, 1) := by decide +kernel
theorem dX9_copyFrom_110 : decode cX9_copyFrom 110 = .ok (.aload_n 1, 1) := by decide +kernel
theorem dX9_copyFrom_111 : decode cX9_copyFrom 111 = .ok (.getfield 82, 3) := by decide +kernel
theorem dX9_copyFrom_114 : decode cX9_copyFrom 114 = .ok (.putfield 82, 3) := by decide +kernel
theorem dX9_copyFrom_117 : decode cX9_copyFrom 117 = .ok (.return_, 1) := by decide +kernel
theorem dX10_init_0 : decode cX10_init 0 = .ok (.aload_n 0, 1) := by decide +kernel
theorem dX10_init_1 : decode cX10_init 1 = .ok (.invokespecial 1, 3) := by decide +kernel
theorem dX10_init_4 : decode cX10_init 4 = .ok (.aload_n 0, 1) := by decide +kernel
theorem dX10_init_5 : decode cX10_init 5 = .ok (.new 7, 3) := by decide +kernel
theorem dX10_init_8 : decode cX10_init 8 = .ok (.dup, 1) := by decide +kernel
theorem dX10_init_9 : decode cX10_init 9 = .ok (.invokespecial 9, 3) := by decide +kernel
theorem dX10_init_12 : decode cX10_init 12 = .ok (.putfield 10, 3) := by decide +kernel
theorem dX10_init_15 : decode cX10_init 15 = .ok (.aload_n 0, 1) := by decide +kernel
theorem dX10_init_16 : decode cX10_init 16 = .ok (.new 16, 3) := by decide +kernel
theorem dX10_init_19 : decode cX10_init 19 = .ok (.dup, 1) := by decide +kernel
theorem dX10_init_20 : decode cX10_init 20 = .ok (.invokespecial 18, 3) := by decide +kernel
theorem dX10_init_23 : decode cX10_init 23 = .ok (.putfield 19, 3) := by decide +kernel
theorem dX10_init_26 : decode cX10_init 26 = .ok (.aload_n 0, 1) := by decide +kernel
theorem dX10_init_27 : decode cX10_init 27 = .ok (.new 23, 3) := by decide +kernel
theorem dX10_init_30 : decode cX10_init 30 = .ok (.dup, 1) := by decide +kernel
theorem dX10_init_31 : decode cX10_init 31 = .ok (.invokespecial 25, 3) := by decide +kernel
theorem dX10_init_34 : decode cX10_init 34 = .ok (.putfield 26, 3) := by decide +kernel
theorem dX10_init_37 : decode cX10_init 37 = .ok (.aload_n 0, 1) := by decide +kernel
theorem dX10_init_38 : decode cX10_init 38 = .ok (.iconst 2, 1) := by decide +kernel
theorem dX10_init_39 : decode cX10_init 39 = .ok (.anewarray 23, 3) := by decide +kernel
theorem dX10_init_42 : decode cX10_init 42 = .ok (.putfield 30, 3) := by decide +kernel
theorem dX10_init_45 : decode cX10_init 45 = .ok (.iconst 0, 1) := by decide +kernel
theorem dX10_init_46 : decode cX10_init 46 = .ok (.istore_n 1, 1) := by decide +kernel
theorem dX10_init_47 : decode cX10_init 47 = .ok (.iload_n 1, 1) := by decide +kernel
theorem dX10_init_48 : decode cX10_init 48 = .ok (.iconst 2, 1) := by decide +kernel
theorem dX10_init_49 : decode cX10_init 49 = .ok (.if_icmp .ge 22, 3) := by decide +kernel
theorem dX10_init_52 : decode cX10_init 52 = .ok (.aload_n 0, 1) := by decide +kernel
theorem dX10_init_53 : decode cX10_init 53 = .ok (.getfield 30, 3) := by decide +kernel
theorem dX10_init_56 : decode cX10_init 56 = .ok (.iload_n 1, 1) := by decide +kernel
theorem dX10_init_57 : decode cX10_init 57 = .ok (.new 23, 3) := by decide +kernel
theorem dX10_init_60 : decode cX10_init 60 = .ok (.dup, 1) := by decide +kernel
theorem dX10_init_61 : decode cX10_init 61 = .ok (.invokespecial 25, 3) := by decide +kernel
theorem dX10_init_64 : decode cX10_init 64 = .ok (.aastore, 1) := by decide +kernel
theorem dX10_init_65 : decode cX10_init 65 = .ok (.iinc 1 1, 3) := by decide +kernel
theorem dX10_init_68 : decode cX10_init 68 = .ok (.goto (-21), 3) := by decide +kernel
theorem dX10_init_71 : decode cX10_init 71 = .ok (.aload_n 0, 1) := by decide +kernel
theorem dX10_init_72 : decode cX10_init 72 = .ok (.iconst 2, 1) := by decide +kernel
theorem dX10_init_73 : decode cX10_init 73 = .ok (.newarray .boolean, 2) := by decide +kernel
theorem dX10_init_75 : decode cX10_init 75 = .ok (.putfield 34, 3) := by decide +kernel
theorem dX10_init_78 : decode cX10_init 78 = .ok (.new 38, 3) := by decide +kernel
theorem dX10_init_81 : decode cX10_init 81 = .ok (.dup, 1) := by decide +kernel
theorem dX10_init_82 : decode cX10_init 82 = .ok (.invokespecial 40, 3) := by decide +kernel
theorem dX10_init_85 : decode cX10_init 85 = .ok (.astore_n 1, 1) := by decide +kernel
theorem dX10_init_86 : decode cX10_init 86 = .ok (.aload_n 0, 1) := by decide +kernel
theorem dX10_init_87 : decode cX10_init 87 = .ok (.new 41, 3) := by decide +kernel
theorem dX10_init_90 : decode cX10_init 90 = .ok (.dup, 1) := by decide +kernel
theorem dX10_init_91 : decode cX10_init 91 = .ok (.aload_n 0, 1) := by decide +kernel
theorem dX10_init_92 : decode cX10_init 92 = .ok (.getfield 26, 3) := by decide +kernel
theorem dX10_init_95 : decode cX10_init 95 = .ok (.invokespecial 43, 3) := by decide +kernel
theorem dX10_init_98 : decode cX10_init 98 = .ok (.putfield 46, 3) := by decide +kernel
theorem dX10_init_101 : decode cX10_init 101 = .ok (.aload_n 0, 1) := by decide +kernel
theorem dX10_init_102 : decode cX10_init 102 = .ok (.new 50, 3) := by decide +kernel
theorem dX10_init_105 : decode cX10_init 105 = .ok (.dup, 1) := by decide +kernel
theorem dX10_init_106 : decode cX10_init 106 = .ok (.aload_n 0, 1) := by decide +kernel
theorem dX10_init_107 : decode cX10_init 107 = .ok (.getfield 26, 3) := by decide +kernel
theorem dX10_init_110 : decode cX10_init 110 = .ok (.aload_n 0, 1) := by decide +kernel
theorem dX10_init_111 : decode cX10_init 111 = .ok (.getfield 46, 3) := by decide +kernel
theorem dX10_init_114 : decode cX10_init 114 = .ok (.invokespecial 52, 3) := by decide +kernel
theorem dX10_init_117 : decode cX10_init 117 = .ok (.putfield 55, 3) := by decide +kernel
theorem dX10_init_120 : decode cX10_init 120 = .ok (.aload_n 0, 1) := by decide +kernel
theorem dX10_init_121 : decode cX10_init 121 = .ok (.new 59, 3) := by decide +kernel
theorem dX10_init_124 : decode cX10_init 124 = .ok (.dup, 1) := by decide +kernel
theorem dX10_init_125 : decode cX10_init 125 = .ok (.aload_n 0, 1) := by decide +kernel
theorem dX10_init_126 : decode cX10_init 126 = .ok (.getfield 26, 3) := by decide +kernel
theorem dX10_init_129 : decode cX10_init 129 = .ok (.aload_n 0, 1) := by decide +kernel
theorem dX10_init_130 : decode cX10_init 130 = .ok (.getfield 46, 3) := by decide +kernel
theorem dX10_init_133 : decode cX10_init 133 = .ok (.aload_n 1, 1) := by decide +kernel
theorem dX10_init_134 : decode cX10_init 134 = .ok (.invokespecial 61, 3) := by decide +kernel
theorem dX10_init_137 : decode cX10_init 137 = .ok (.putfield 64, 3) := by decide +kernel
theorem dX10_init_140 : decode cX10_init 140 = .ok (.aload_n 0, 1) := by decide +kernel
theorem dX10_init_141 : decode cX10_init 141 = .ok (.new 68, 3) := by decide +kernel
theorem dX10_init_144 : decode cX10_init 144 = .ok (.dup, 1) := by decide +kernel
theorem dX10_init_145 : decode cX10_init 145 = .ok (.aload_n 0, 1) := by decide +kernel
theorem dX10_init_146 : decode cX10_init 146 = .ok (.getfield 26, 3) := by decide +kernel
theorem dX10_init_149 : decode cX10_init 149 = .ok (.aload_n 0, 1) := by decide +kernel
theorem dX10_init_150 : decode cX10_init 150 = .ok (.getfield 46, 3) := by decide +kernel
theorem dX10_init_153 : decode cX10_init 153 = .ok (.invokespecial 70, 3) := by decide +kernel
theorem dX10_init_156 : decode cX10_init 156 = .ok (.putfield 71, 3) := by decide +kernel
theorem dX10_init_159 : decode cX10_init 159 = .ok (.aload_n 0, 1) := by decide +kernel
theorem dX10_init_160 : decode cX10_init 160 = .ok (.new 75, 3) := by decide +kernel
theorem dX10_init_163 : decode cX10_init 163 = .ok (.dup, 1) := by decide +kernel
theorem dX10_init_164 : decode cX10_init 164 = .ok (.aload_n 0, 1) := by decide +kernel
theorem dX10_init_165 : decode cX10_init 165 = .ok (.getfield 26, 3) := by decide +kernel
theorem dX10_init_168 : decode cX10_init 168 = .ok (.aload_n 0, 1) := by decide +kernel
theorem dX10_init_169 : decode cX10_init 169 = .ok (.getfield 46, 3) := by decide +kernel
theorem dX10_init_172 : decode cX10_init 172 = .ok (.aload_n 1, 1) := by decide +kernel
theorem dX10_init_173 : decode cX10_init 173 = .ok (.invokespecial 77, 3) := by decide +kernel
theorem dX10_init_176 : decode cX10_init 176 = .ok (.putfield 78, 3) := by decide +kernel
theorem dX10_init_179 : decode cX10_init 179 = .ok (.return_, 1) := by decide +kernel
theorem dX10_say_0 : decode cX10_say 0 = .ok (.iload_n 1, 1) := by decide +kernel
theorem dX10_say_1 : decode cX10_say 1 = .ok (.bipush 33, 2) := by decide +kernel
theorem dX10_say_3 : decode cX10_say 3 = .ok (.bipush 126, 2) := by decide +kernel
theorem dX10_say_5 : decode cX10_say 5 = .ok (.invokestatic 82, 3) := by decide +kernel
theorem dX10_say_8 : decode cX10_say 8 = .ok (.ifCond .ne 6, 3) := by decide +kernel
theorem dX10_say_11 : decode cX10_say 11 = .ok (.bipush (-2), 2) := by decide +kernel
theorem dX10_say_13 : decode cX10_say 13 = .ok (.ireturn, 1) := by decide +kernel
theorem dX10_say_14 : decode cX10_say 14 = .ok (.aload_n 0, 1) := by decide +kernel
theorem dX10_say_15 : decode cX10_say 15 = .ok (.getfield 10, 3) := by decide +kernel
theorem dX10_say_18 : decode cX10_say 18 = .ok (.iload_n 1, 1) := by decide +kernel
theorem dX10_say_19 : decode cX10_say 19 = .ok (.invokevirtual 86, 3) := by decide +kernel
theorem dX10_say_22 : decode cX10_say 22 = .ok (.ifCond .eq 13, 3) := by decide +kernel
theorem dX10_say_25 : decode cX10_say 25 = .ok (.aload_n 0, 1) := by decide +kernel
theorem dX10_say_26 : decode cX10_say 26 = .ok (.getfield 10, 3) := by decide +kernel
theorem dX10_say_29 : decode cX10_say 29 = .ok (.getfield 90, 3) := by decide +kernel
theorem dX10_say_32 : decode cX10_say 32 = .ok (.goto 5, 3) := by decide +kernel
theorem dX10_say_35 : decode cX10_say 35 = .ok (.bipush (-4), 2) := by decide +kernel
theorem dX10_say_37 : decode cX10_say 37 = .ok (.ireturn, 1) := by decide +kernel
theorem dX10_wipe_0 : decode cX10_wipe 0 = .ok (.aload_n 0, 1) := by decide +kernel
theorem dX10_wipe_1 : decode cX10_wipe 1 = .ok (.getfield 10, 3) := by decide +kernel
theorem dX10_wipe_4 : decode cX10_wipe 4 = .ok (.getfield 90, 3) := by decide +kernel
theorem dX10_wipe_7 : decode cX10_wipe 7 = .ok (.istore_n 1, 1) := by decide +kernel
theorem dX10_wipe_8 : decode cX10_wipe 8 = .ok (.aload_n 0, 1) := by decide +kernel
theorem dX10_wipe_9 : decode cX10_wipe 9 = .ok (.getfield 10, 3) := by decide +kernel
theorem dX10_wipe_12 : decode cX10_wipe 12 = .ok (.invokevirtual 94, 3) := by decide +kernel
theorem dX10_wipe_15 : decode cX10_wipe 15 = .ok (.iload_n 1, 1) := by decide +kernel
theorem dX10_wipe_16 : decode cX10_wipe 16 = .ok (.ireturn, 1) := by decide +kernel
theorem dX10_fault_0 : decode cX10_fault 0 = .ok (.aload_n 0, 1) := by decide +kernel
theorem dX10_fault_1 : decode cX10_fault 1 = .ok (.getfield 10, 3) := by decide +kernel
theorem dX10_fault_4 : decode cX10_fault 4 = .ok (.aload_n 0, 1) := by decide +kernel
theorem dX10_fault_5 : decode cX10_fault 5 = .ok (.getfield 19, 3) := by decide +kernel
theorem dX10_fault_8 : decode cX10_fault 8 = .ok (.invokevirtual 97, 3) := by decide +kernel
theorem dX10_fault_11 : decode cX10_fault 11 = .ok (.ireturn, 1) := by decide +kernel
theorem dX10_law_0 : decode cX10_law 0 = .ok (.iload_n 1, 1) := by decide +kernel
theorem dX10_law_1 : decode cX10_law 1 = .ok (.invokestatic 101, 3) := by decide +kernel
theorem dX10_law_4 : decode cX10_law 4 = .ok (.ifCond .eq 15, 3) := by decide +kernel
theorem dX10_law_7 : decode cX10_law 7 = .ok (.iload_n 2, 1) := by decide +kernel
theorem dX10_law_8 : decode cX10_law 8 = .ok (.iload_n 1, 1) := by decide +kernel
theorem dX10_law_9 : decode cX10_law 9 = .ok (.iconst 1, 1) := by decide +kernel
theorem dX10_law_10 : decode cX10_law 10 = .ok (.iadd, 1) := by decide +kernel
theorem dX10_law_11 : decode cX10_law 11 = .ok (.bipush 100, 2) := by decide +kernel
theorem dX10_law_13 : decode cX10_law 13 = .ok (.invokestatic 82, 3) := by decide +kernel
theorem dX10_law_16 : decode cX10_law 16 = .ok (.ifCond .ne 6, 3) := by decide +kernel
theorem dX10_law_19 : decode cX10_law 19 = .ok (.bipush (-2), 2) := by decide +kernel
theorem dX10_law_21 : decode cX10_law 21 = .ok (.ireturn, 1) := by decide +kernel
theorem dX10_law_22 : decode cX10_law 22 = .ok (.aload_n 0, 1) := by decide +kernel
theorem dX10_law_23 : decode cX10_law 23 = .ok (.getfield 10, 3) := by decide +kernel
theorem dX10_law_26 : decode cX10_law 26 = .ok (.aload_n 0, 1) := by decide +kernel
theorem dX10_law_27 : decode cX10_law 27 = .ok (.getfield 19, 3) := by decide +kernel
theorem dX10_law_30 : decode cX10_law 30 = .ok (.invokevirtual 97, 3) := by decide +kernel
theorem dX10_law_33 : decode cX10_law 33 = .ok (.bipush (-6), 2) := by decide +kernel
theorem dX10_law_35 : decode cX10_law 35 = .ok (.if_icmp .eq 6, 3) := by decide +kernel
theorem dX10_law_38 : decode cX10_law 38 = .ok (.bipush (-5), 2) := by decide +kernel
theorem dX10_law_40 : decode cX10_law 40 = .ok (.ireturn, 1) := by decide +kernel
theorem dX10_law_41 : decode cX10_law 41 = .ok (.aload_n 0, 1) := by decide +kernel
theorem dX10_law_42 : decode cX10_law 42 = .ok (.getfield 26, 3) := by decide +kernel
theorem dX10_law_45 : decode cX10_law 45 = .ok (.getfield 104, 3) := by decide +kernel
theorem dX10_law_48 : decode cX10_law 48 = .ok (.bipush 8, 2) := by decide +kernel
theorem dX10_law_50 : decode cX10_law 50 = .ok (.if_icmp .lt 6, 3) := by decide +kernel
theorem dX10_law_53 : decode cX10_law 53 = .ok (.bipush (-4), 2) := by decide +kernel
theorem dX10_law_55 : decode cX10_law 55 = .ok (.ireturn, 1) := by decide +kernel
theorem dX10_law_56 : decode cX10_law 56 = .ok (.aload_n 0, 1) := by decide +kernel
theorem dX10_law_57 : decode cX10_law 57 = .ok (.getfield 10, 3) := by decide +kernel
theorem dX10_law_60 : decode cX10_law 60 = .ok (.invokevirtual 94, 3) := by decide +kernel
theorem dX10_law_63 : decode cX10_law 63 = .ok (.aload_n 0, 1) := by decide +kernel
theorem dX10_law_64 : decode cX10_law 64 = .ok (.getfield 26, 3) := by decide +kernel
theorem dX10_law_67 : decode cX10_law 67 = .ok (.aload_n 0, 1) := by decide +kernel
theorem dX10_law_68 : decode cX10_law 68 = .ok (.getfield 19, 3) := by decide +kernel
theorem dX10_law_71 : decode cX10_law 71 = .ok (.iload_n 1, 1) := by decide +kernel
theorem dX10_law_72 : decode cX10_law 72 = .ok (.iload_n 2, 1) := by decide +kernel
theorem dX10_law_73 : decode cX10_law 73 = .ok (.invokevirtual 107, 3) := by decide +kernel
theorem dX10_law_76 : decode cX10_law 76 = .ok (.ireturn, 1) := by decide +kernel
theorem dX10_anew_0 : decode cX10_anew 0 = .ok (.aload_n 0, 1) := by decide +kernel
theorem dX10_anew_1 : decode cX10_anew 1 = .ok (.getfield 26, 3) := by decide +kernel
theorem dX10_anew_4 : decode cX10_anew 4 = .ok (.iload_n 1, 1) := by decide +kernel
theorem dX10_anew_5 : decode cX10_anew 5 = .ok (.invokevirtual 111, 3) := by decide +kernel
theorem dX10_anew_8 : decode cX10_anew 8 = .ok (.ifCond .ne 5, 3) := by decide +kernel
theorem dX10_anew_11 : decode cX10_anew 11 = .ok (.iconst (-1), 1) := by decide +kernel
theorem dX10_anew_12 : decode cX10_anew 12 = .ok (.ireturn, 1) := by decide +kernel
theorem dX10_anew_13 : decode cX10_anew 13 = .ok (.aload_n 0, 1) := by decide +kernel
theorem dX10_anew_14 : decode cX10_anew 14 = .ok (.getfield 10, 3) := by decide +kernel
theorem dX10_anew_17 : decode cX10_anew 17 = .ok (.aload_n 0, 1) := by decide +kernel
theorem dX10_anew_18 : decode cX10_anew 18 = .ok (.getfield 19, 3) := by decide +kernel
theorem dX10_anew_21 : decode cX10_anew 21 = .ok (.invokevirtual 97, 3) := by decide +kernel
theorem dX10_anew_24 : decode cX10_anew 24 = .ok (.bipush (-6), 2) := by decide +kernel
theorem dX10_anew_26 : decode cX10_anew 26 = .ok (.if_icmp .eq 6, 3) := by decide +kernel
theorem dX10_anew_29 : decode cX10_anew 29 = .ok (.bipush (-5), 2) := by decide +kernel
theorem dX10_anew_31 : decode cX10_anew 31 = .ok (.ireturn, 1) := by decide +kernel
theorem dX10_anew_32 : decode cX10_anew 32 = .ok (.aload_n 0, 1) := by decide +kernel
theorem dX10_anew_33 : decode cX10_anew 33 = .ok (.getfield 10, 3) := by decide +kernel
theorem dX10_anew_36 : decode cX10_anew 36 = .ok (.invokevirtual 94, 3) := by decide +kernel
theorem dX10_anew_39 : decode cX10_anew 39 = .ok (.aload_n 0, 1) := by decide +kernel
theorem dX10_anew_40 : decode cX10_anew 40 = .ok (.getfield 26, 3) := by decide +kernel
theorem dX10_anew_43 : decode cX10_anew 43 = .ok (.getfield 114, 3) := by decide +kernel
theorem dX10_anew_46 : decode cX10_anew 46 = .ok (.iload_n 1, 1) := by decide +kernel
theorem dX10_anew_47 : decode cX10_anew 47 = .ok (.aaload, 1) := by decide +kernel
theorem dX10_anew_48 : decode cX10_anew 48 = .ok (.aload_n 0, 1) := by decide +kernel
theorem dX10_anew_49 : decode cX10_anew 49 = .ok (.getfield 19, 3) := by decide +kernel
theorem dX10_anew_52 : decode cX10_anew 52 = .ok (.invokevirtual 118, 3) := by decide +kernel
theorem dX10_anew_55 : decode cX10_anew 55 = .ok (.aload_n 0, 1) := by decide +kernel
theorem dX10_anew_56 : decode cX10_anew 56 = .ok (.getfield 19, 3) := by decide +kernel
theorem dX10_anew_59 : decode cX10_anew 59 = .ok (.getfield 122, 3) := by decide +kernel
theorem dX10_anew_62 : decode cX10_anew 62 = .ok (.ireturn, 1) := by decide +kernel
theorem dX10_move_0 : decode cX10_move 0 = .ok (.aload_n 0, 1) := by decide +kernel
theorem dX10_move_1 : decode cX10_move 1 = .ok (.getfield 26, 3) := by decide +kernel
theorem dX10_move_4 : decode cX10_move 4 = .ok (.iload_n 1, 1) := by decide +kernel
theorem dX10_move_5 : decode cX10_move 5 = .ok (.invokevirtual 111, 3) := by decide +kernel
theorem dX10_move_8 : decode cX10_move 8 = .ok (.ifCond .ne 5, 3) := by decide +kernel
theorem dX10_move_11 : decode cX10_move 11 = .ok (.iconst (-1), 1) := by decide +kernel
theorem dX10_move_12 : decode cX10_move 12 = .ok (.ireturn, 1) := by decide +kernel
theorem dX10_move_13 : decode cX10_move 13 = .ok (.iload_n 2, 1) := by decide +kernel
theorem dX10_move_14 : decode cX10_move 14 = .ok (.iconst 0, 1) := by decide +kernel
theorem dX10_move_15 : decode cX10_move 15 = .ok (.iconst 1, 1) := by decide +kernel
theorem dX10_move_16 : decode cX10_move 16 = .ok (.invokestatic 82, 3) := by decide +kernel
theorem dX10_move_19 : decode cX10_move 19 = .ok (.ifCond .ne 6, 3) := by decide +kernel
theorem dX10_move_22 : decode cX10_move 22 = .ok (.bipush (-2), 2) := by decide +kernel
theorem dX10_move_24 : decode cX10_move 24 = .ok (.ireturn, 1) := by decide +kernel
theorem dX10_move_25 : decode cX10_move 25 = .ok (.aload_n 0, 1) := by decide +kernel
theorem dX10_move_26 : decode cX10_move 26 = .ok (.getfield 26, 3) := by decide +kernel
theorem dX10_move_29 : decode cX10_move 29 = .ok (.getfield 114, 3) := by decide +kernel
theorem dX10_move_32 : decode cX10_move 32 = .ok (.iload_n 1, 1) := by decide +kernel
theorem dX10_move_33 : decode cX10_move 33 = .ok (.aaload, 1) := by decide +kernel
theorem dX10_move_34 : decode cX10_move 34 = .ok (.astore 4, 2) := by decide +kernel
theorem dX10_move_36 : decode cX10_move 36 = .ok (.iload_n 2, 1) := by decide +kernel
theorem dX10_move_37 : decode cX10_move 37 = .ok (.ifCond .ne 11, 3) := by decide +kernel
theorem dX10_move_40 : decode cX10_move 40 = .ok (.aload 4, 2) := by decide +kernel
theorem dX10_move_42 : decode cX10_move 42 = .ok (.getfield 125, 3) := by decide +kernel
theorem dX10_move_45 : decode cX10_move 45 = .ok (.goto 8, 3) := by decide +kernel
theorem dX10_move_48 : decode cX10_move 48 = .ok (.aload 4, 2) := by decide +kernel
theorem dX10_move_50 : decode cX10_move 50 = .ok (.getfield 128, 3) := by decide +kernel
theorem dX10_move_53 : decode cX10_move 53 = .ok (.istore 5, 2) := by decide +kernel
theorem dX10_move_55 : decode cX10_move 55 = .ok (.iload_n 2, 1) := by decide +kernel
theorem dX10_move_56 : decode cX10_move 56 = .ok (.ifCond .ne 30, 3) := by decide +kernel
theorem dX10_move_59 : decode cX10_move 59 = .ok (.iload_n 3, 1) := by decide +kernel
theorem dX10_move_60 : decode cX10_move 60 = .ok (.iconst 0, 1) := by decide +kernel
theorem dX10_move_61 : decode cX10_move 61 = .ok (.aload 4, 2) := by decide +kernel
theorem dX10_move_63 : decode cX10_move 63 = .ok (.getfield 128, 3) := by decide +kernel
theorem dX10_move_66 : decode cX10_move 66 = .ok (.iconst 1, 1) := by decide +kernel
theorem dX10_move_67 : decode cX10_move 67 = .ok (.isub, 1) := by decide +kernel
theorem dX10_move_68 : decode cX10_move 68 = .ok (.invokestatic 82, 3) := by decide +kernel
theorem dX10_move_71 : decode cX10_move 71 = .ok (.ifCond .ne 6, 3) := by decide +kernel
theorem dX10_move_74 : decode cX10_move 74 = .ok (.bipush (-2), 2) := by decide +kernel
theorem dX10_move_76 : decode cX10_move 76 = .ok (.ireturn, 1) := by decide +kernel
theorem dX10_move_77 : decode cX10_move 77 = .ok (.aload 4, 2) := by decide +kernel
theorem dX10_move_79 : decode cX10_move 79 = .ok (.iload_n 3, 1) := by decide +kernel
theorem dX10_move_80 : decode cX10_move 80 = .ok (.putfield 125, 3) := by decide +kernel
theorem dX10_move_83 : decode cX10_move 83 = .ok (.goto 28, 3) := by decide +kernel
theorem dX10_move_86 : decode cX10_move 86 = .ok (.iload_n 3, 1) := by decide +kernel
theorem dX10_move_87 : decode cX10_move 87 = .ok (.aload 4, 2) := by decide +kernel
theorem dX10_move_89 : decode cX10_move 89 = .ok (.getfield 125, 3) := by decide +kernel
theorem dX10_move_92 : decode cX10_move 92 = .ok (.iconst 1, 1) := by decide +kernel
theorem dX10_move_93 : decode cX10_move 93 = .ok (.iadd, 1) := by decide +kernel
theorem dX10_move_94 : decode cX10_move 94 = .ok (.bipush 100, 2) := by decide +kernel
theorem dX10_move_96 : decode cX10_move 96 = .ok (.invokestatic 82, 3) := by decide +kernel
theorem dX10_move_99 : decode cX10_move 99 = .ok (.ifCond .ne 6, 3) := by decide +kernel
theorem dX10_move_102 : decode cX10_move 102 = .ok (.bipush (-2), 2) := by decide +kernel
theorem dX10_move_104 : decode cX10_move 104 = .ok (.ireturn, 1) := by decide +kernel
theorem dX10_move_105 : decode cX10_move 105 = .ok (.aload 4, 2) := by decide +kernel
theorem dX10_move_107 : decode cX10_move 107 = .ok (.iload_n 3, 1) := by decide +kernel
theorem dX10_move_108 : decode cX10_move 108 = .ok (.putfield 128, 3) := by decide +kernel
theorem dX10_move_111 : decode cX10_move 111 = .ok (.aload_n 0, 1) := by decide +kernel
theorem dX10_move_112 : decode cX10_move 112 = .ok (.getfield 26, 3) := by decide +kernel
theorem dX10_move_115 : decode cX10_move 115 = .ok (.invokevirtual 131, 3) := by decide +kernel
theorem dX10_move_118 : decode cX10_move 118 = .ok (.iload 5, 2) := by decide +kernel
theorem dX10_move_120 : decode cX10_move 120 = .ok (.ireturn, 1) := by decide +kernel
theorem dX10_of_0 : decode cX10_of 0 = .ok (.aload_n 0, 1) := by decide +kernel
theorem dX10_of_1 : decode cX10_of 1 = .ok (.getfield 26, 3) := by decide +kernel
theorem dX10_of_4 : decode cX10_of 4 = .ok (.iload_n 1, 1) := by decide +kernel
theorem dX10_of_5 : decode cX10_of 5 = .ok (.invokevirtual 111, 3) := by decide +kernel
theorem dX10_of_8 : decode cX10_of 8 = .ok (.ifCond .ne 5, 3) := by decide +kernel
theorem dX10_of_11 : decode cX10_of 11 = .ok (.iconst (-1), 1) := by decide +kernel
theorem dX10_of_12 : decode cX10_of 12 = .ok (.ireturn, 1) := by decide +kernel
theorem dX10_of_13 : decode cX10_of 13 = .ok (.aload_n 0, 1) := by decide +kernel
theorem dX10_of_14 : decode cX10_of 14 = .ok (.getfield 26, 3) := by decide +kernel
theorem dX10_of_17 : decode cX10_of 17 = .ok (.getfield 114, 3) := by decide +kernel
theorem dX10_of_20 : decode cX10_of 20 = .ok (.iload_n 1, 1) := by decide +kernel
theorem dX10_of_21 : decode cX10_of 21 = .ok (.aaload, 1) := by decide +kernel
theorem dX10_of_22 : decode cX10_of 22 = .ok (.astore_n 3, 1) := by decide +kernel
theorem dX10_of_23 : decode cX10_of 23 = .ok (.iload_n 2, 1) := by decide +kernel
theorem dX10_of_24 : decode cX10_of 24 = .ok (.tableswitch 114 0 9 #[56, 61, 66, 71, 76, 81, 94, 99, 104, 109], 56) := by decide +kernel
theorem dX10_of_80 : decode cX10_of 80 = .ok (.aload_n 3, 1) := by decide +kernel
theorem dX10_of_81 : decode cX10_of 81 = .ok (.getfield 125, 3) := by decide +kernel
theorem dX10_of_84 : decode cX10_of 84 = .ok (.ireturn, 1) := by decide +kernel
theorem dX10_of_85 : decode cX10_of 85 = .ok (.aload_n 3, 1) := by decide +kernel
theorem dX10_of_86 : decode cX10_of 86 = .ok (.getfield 128, 3) := by decide +kernel
theorem dX10_of_89 : decode cX10_of 89 = .ok (.ireturn, 1) := by decide +kernel
theorem dX10_of_90 : decode cX10_of 90 = .ok (.aload_n 3, 1) := by decide +kernel
theorem dX10_of_91 : decode cX10_of 91 = .ok (.getfield 122, 3) := by decide +kernel
theorem dX10_of_94 : decode cX10_of 94 = .ok (.ireturn, 1) := by decide +kernel
theorem dX10_of_95 : decode cX10_of 95 = .ok (.aload_n 3, 1) := by decide +kernel
theorem dX10_of_96 : decode cX10_of 96 = .ok (.getfield 134, 3) := by decide +kernel
theorem dX10_of_99 : decode cX10_of 99 = .ok (.ireturn, 1) := by decide +kernel
theorem dX10_of_100 : decode cX10_of 100 = .ok (.aload_n 3, 1) := by decide +kernel
theorem dX10_of_101 : decode cX10_of 101 = .ok (.getfield 137, 3) := by decide +kernel
theorem dX10_of_104 : decode cX10_of 104 = .ok (.ireturn, 1) := by decide +kernel
theorem dX10_of_105 : decode cX10_of 105 = .ok (.aload_n 3, 1) := by decide +kernel
theorem dX10_of_106 : decode cX10_of 106 = .ok (.getfield 140, 3) := by decide +kernel
theorem dX10_of_109 : decode cX10_of 109 = .ok (.ifCond .eq 7, 3) := by decide +kernel
theorem dX10_of_112 : decode cX10_of 112 = .ok (.iconst 1, 1) := by decide +kernel
theorem dX10_of_113 : decode cX10_of 113 = .ok (.goto 4, 3) := by decide +kernel
theorem dX10_of_116 : decode cX10_of 116 = .ok (.iconst 0, 1) := by decide +kernel
theorem dX10_of_117 : decode cX10_of 117 = .ok (.ireturn, 1) := by decide +kernel
theorem dX10_of_118 : decode cX10_of 118 = .ok (.aload_n 3, 1) := by decide +kernel
theorem dX10_of_119 : decode cX10_of 119 = .ok (.getfield 144, 3) := by decide +kernel
theorem dX10_of_122 : decode cX10_of 122 = .ok (.ireturn, 1) := by decide +kernel
theorem dX10_of_123 : decode cX10_of 123 = .ok (.aload_n 3, 1) := by decide +kernel
theorem dX10_of_124 : decode cX10_of 124 = .ok (.getfield 147, 3) := by decide +kernel
theorem dX10_of_127 : decode cX10_of 127 = .ok (.ireturn, 1) := by decide +kernel
theorem dX10_of_128 : decode cX10_of 128 = .ok (.aload_n 3, 1) := by decide +kernel
theorem dX10_of_129 : decode cX10_of 129 = .ok (.getfield 150, 3) := by decide +kernel
theorem dX10_of_132 : decode cX10_of 132 = .ok (.ireturn, 1) := by decide +kernel
theorem dX10_of_133 : decode cX10_of 133 = .ok (.aload_n 3, 1) := by decide +kernel
theorem dX10_of_134 : decode cX10_of 134 = .ok (.getfield 153, 3) := by decide +kernel
theorem dX10_of_137 : decode cX10_of 137 = .ok (.ireturn, 1) := by decide +kernel
theorem dX10_of_138 : decode cX10_of 138 = .ok (.bipush (-2), 2) := by decide +kernel
theorem dX10_of_140 : decode cX10_of 140 = .ok (.ireturn, 1) := by decide +kernel
theorem dX10_part_0 : decode cX10_part 0 = .ok (.aload_n 0, 1) := by decide +kernel
theorem dX10_part_1 : decode cX10_part 1 = .ok (.getfield 26, 3) := by decide +kernel
theorem dX10_part_4 : decode cX10_part 4 = .ok (.iload_n 1, 1) := by decide +kernel
theorem dX10_part_5 : decode cX10_part 5 = .ok (.invokevirtual 111, 3) := by decide +kernel
theorem dX10_part_8 : decode cX10_part 8 = .ok (.ifCond .ne 5, 3) := by decide +kernel
theorem dX10_part_11 : decode cX10_part 11 = .ok (.iconst (-1), 1) := by decide +kernel
theorem dX10_part_12 : decode cX10_part 12 = .ok (.ireturn, 1) := by decide +kernel
theorem dX10_part_13 : decode cX10_part 13 = .ok (.aload_n 0, 1) := by decide +kernel
theorem dX10_part_14 : decode cX10_part 14 = .ok (.getfield 26, 3) := by decide +kernel
theorem dX10_part_17 : decode cX10_part 17 = .ok (.getfield 114, 3) := by decide +kernel
theorem dX10_part_20 : decode cX10_part 20 = .ok (.iload_n 1, 1) := by decide +kernel
theorem dX10_part_21 : decode cX10_part 21 = .ok (.aaload, 1) := by decide +kernel
theorem dX10_part_22 : decode cX10_part 22 = .ok (.astore 4, 2) := by decide +kernel
theorem dX10_part_24 : decode cX10_part 24 = .ok (.iload_n 2, 1) := by decide +kernel
theorem dX10_part_25 : decode cX10_part 25 = .ok (.iconst 0, 1) := by decide +kernel
theorem dX10_part_26 : decode cX10_part 26 = .ok (.aload 4, 2) := by decide +kernel
theorem dX10_part_28 : decode cX10_part 28 = .ok (.getfield 122, 3) := by decide +kernel
theorem dX10_part_31 : decode cX10_part 31 = .ok (.iconst 1, 1) := by decide +kernel
theorem dX10_part_32 : decode cX10_part 32 = .ok (.isub, 1) := by decide +kernel
theorem dX10_part_33 : decode cX10_part 33 = .ok (.invokestatic 82, 3) := by decide +kernel
theorem dX10_part_36 : decode cX10_part 36 = .ok (.ifCond .ne 5, 3) := by decide +kernel
theorem dX10_part_39 : decode cX10_part 39 = .ok (.iconst (-1), 1) := by decide +kernel
theorem dX10_part_40 : decode cX10_part 40 = .ok (.ireturn, 1) := by decide +kernel
theorem dX10_part_41 : decode cX10_part 41 = .ok (.iload_n 3, 1) := by decide +kernel
theorem dX10_part_42 : decode cX10_part 42 = .ok (.iconst 0, 1) := by decide +kernel
theorem dX10_part_43 : decode cX10_part 43 = .ok (.iconst 1, 1) := by decide +kernel
theorem dX10_part_44 : decode cX10_part 44 = .ok (.invokestatic 82, 3) := by decide +kernel
theorem dX10_part_47 : decode cX10_part 47 = .ok (.ifCond .ne 6, 3) := by decide +kernel
theorem dX10_part_50 : decode cX10_part 50 = .ok (.bipush (-2), 2) := by decide +kernel
theorem dX10_part_52 : decode cX10_part 52 = .ok (.ireturn, 1) := by decide +kernel
theorem dX10_part_53 : decode cX10_part 53 = .ok (.iload_n 3, 1) := by decide +kernel
theorem dX10_part_54 : decode cX10_part 54 = .ok (.ifCond .ne 13, 3) := by decide +kernel
theorem dX10_part_57 : decode cX10_part 57 = .ok (.aload 4, 2) := by decide +kernel
theorem dX10_part_59 : decode cX10_part 59 = .ok (.getfield 156, 3) := by decide +kernel
theorem dX10_part_62 : decode cX10_part 62 = .ok (.iload_n 2, 1) := by decide +kernel
theorem dX10_part_63 : decode cX10_part 63 = .ok (.iaload, 1) := by decide +kernel
theorem dX10_part_64 : decode cX10_part 64 = .ok (.goto 10, 3) := by decide +kernel
theorem dX10_part_67 : decode cX10_part 67 = .ok (.aload 4, 2) := by decide +kernel
theorem dX10_part_69 : decode cX10_part 69 = .ok (.getfield 160, 3) := by decide +kernel
theorem dX10_part_72 : decode cX10_part 72 = .ok (.iload_n 2, 1) := by decide +kernel
theorem dX10_part_73 : decode cX10_part 73 = .ok (.iaload, 1) := by decide +kernel
theorem dX10_part_74 : decode cX10_part 74 = .ok (.ireturn, 1) := by decide +kernel
theorem dX10_force_0 : decode cX10_force 0 = .ok (.iload_n 1, 1) := by decide +kernel
theorem dX10_force_1 : decode cX10_force 1 = .ok (.invokestatic 101, 3) := by decide +kernel
theorem dX10_force_4 : decode cX10_force 4 = .ok (.ifCond .eq 12, 3) := by decide +kernel
theorem dX10_force_7 : decode cX10_force 7 = .ok (.iload_n 2, 1) := by decide +kernel
theorem dX10_force_8 : decode cX10_force 8 = .ok (.iconst 0, 1) := by decide +kernel
theorem dX10_force_9 : decode cX10_force 9 = .ok (.iconst 2, 1) := by decide +kernel
theorem dX10_force_10 : decode cX10_force 10 = .ok (.invokestatic 82, 3) := by decide +kernel
theorem dX10_force_13 : decode cX10_force 13 = .ok (.ifCond .ne 6, 3) := by decide +kernel
theorem dX10_force_16 : decode cX10_force 16 = .ok (.bipush (-2), 2) := by decide +kernel
theorem dX10_force_18 : decode cX10_force 18 = .ok (.ireturn, 1) := by decide +kernel
theorem dX10_force_19 : decode cX10_force 19 = .ok (.iload_n 2, 1) := by decide +kernel
theorem dX10_force_20 : decode cX10_force 20 = .ok (.ifCond .ne 12, 3) := by decide +kernel
theorem dX10_force_23 : decode cX10_force 23 = .ok (.aload_n 0, 1) := by decide +kernel
theorem dX10_force_24 : decode cX10_force 24 = .ok (.getfield 26, 3) := by decide +kernel
theorem dX10_force_27 : decode cX10_force 27 = .ok (.iload_n 1, 1) := by decide +kernel
theorem dX10_force_28 : decode cX10_force 28 = .ok (.invokevirtual 163, 3) := by decide +kernel
theorem dX10_force_31 : decode cX10_force 31 = .ok (.ireturn, 1) := by decide +kernel
theorem dX10_force_32 : decode cX10_force 32 = .ok (.aload_n 0, 1) := by decide +kernel
theorem dX10_force_33 : decode cX10_force 33 = .ok (.getfield 26, 3) := by decide +kernel
theorem dX10_force_36 : decode cX10_force 36 = .ok (.iload_n 1, 1) := by decide +kernel
theorem dX10_force_37 : decode cX10_force 37 = .ok (.invokevirtual 167, 3) := by decide +kernel
theorem dX10_force_40 : decode cX10_force 40 = .ok (.istore_n 3, 1) := by decide +kernel
theorem dX10_force_41 : decode cX10_force 41 = .ok (.iload_n 2, 1) := by decide +kernel
theorem dX10_force_42 : decode cX10_force 42 = .ok (.iconst 1, 1) := by decide +kernel
theorem dX10_force_43 : decode cX10_force 43 = .ok (.if_icmp .ne 7, 3) := by decide +kernel
theorem dX10_force_46 : decode cX10_force 46 = .ok (.iload_n 3, 1) := by decide +kernel
theorem dX10_force_47 : decode cX10_force 47 = .ok (.goto 15, 3) := by decide +kernel
theorem dX10_force_50 : decode cX10_force 50 = .ok (.aload_n 0, 1) := by decide +kernel
theorem dX10_force_51 : decode cX10_force 51 = .ok (.getfield 26, 3) := by decide +kernel
theorem dX10_force_54 : decode cX10_force 54 = .ok (.iload_n 1, 1) := by decide +kernel
theorem dX10_force_55 : decode cX10_force 55 = .ok (.invokevirtual 163, 3) := by decide +kernel
theorem dX10_force_58 : decode cX10_force 58 = .ok (.iload_n 3, 1) := by decide +kernel
theorem dX10_force_59 : decode cX10_force 59 = .ok (.iconst (-1), 1) := by decide +kernel
theorem dX10_force_60 : decode cX10_force 60 = .ok (.ixor, 1) := by decide +kernel
theorem dX10_force_61 : decode cX10_force 61 = .ok (.iand, 1) := by decide +kernel
theorem dX10_force_62 : decode cX10_force 62 = .ok (.ireturn, 1) := by decide +kernel
theorem dX10_open_0 : decode cX10_open 0 = .ok (.iload_n 1, 1) := by decide +kernel
theorem dX10_open_1 : decode cX10_open 1 = .ok (.iconst (-1), 1) := by decide +kernel
theorem dX10_open_2 : decode cX10_open 2 = .ok (.if_icmp .ne 13, 3) := by decide +kernel
theorem dX10_open_5 : decode cX10_open 5 = .ok (.aload_n 0, 1) := by decide +kernel
theorem dX10_open_6 : decode cX10_open 6 = .ok (.getfield 64, 3) := by decide +kernel
theorem dX10_open_9 : decode cX10_open 9 = .ok (.invokevirtual 170, 3) := by decide +kernel
theorem dX10_open_12 : decode cX10_open 12 = .ok (.goto 11, 3) := by decide +kernel
theorem dX10_open_15 : decode cX10_open 15 = .ok (.aload_n 0, 1) := by decide +kernel
theorem dX10_open_16 : decode cX10_open 16 = .ok (.getfield 64, 3) := by decide +kernel
theorem dX10_open_19 : decode cX10_open 19 = .ok (.iload_n 1, 1) := by decide +kernel
theorem dX10_open_20 : decode cX10_open 20 = .ok (.invokevirtual 173, 3) := by decide +kernel
theorem dX10_open_23 : decode cX10_open 23 = .ok (.ireturn, 1) := by decide +kernel
theorem dX10_piece_0 : decode cX10_piece 0 = .ok (.iload_n 1, 1) := by decide +kernel
theorem dX10_piece_1 : decode cX10_piece 1 = .ok (.invokestatic 101, 3) := by decide +kernel
theorem dX10_piece_4 : decode cX10_piece 4 = .ok (.ifCond .eq 10, 3) := by decide +kernel
theorem dX10_piece_7 : decode cX10_piece 7 = .ok (.iload_n 2, 1) := by decide +kernel
theorem dX10_piece_8 : decode cX10_piece 8 = .ok (.invokestatic 176, 3) := by decide +kernel
theorem dX10_piece_11 : decode cX10_piece 11 = .ok (.ifCond .ne 6, 3) := by decide +kernel
theorem dX10_piece_14 : decode cX10_piece 14 = .ok (.bipush (-2), 2) := by decide +kernel
theorem dX10_piece_16 : decode cX10_piece 16 = .ok (.ireturn, 1) := by decide +kernel
theorem dX10_piece_17 : decode cX10_piece 17 = .ok (.aload_n 0, 1) := by decide +kernel
theorem dX10_piece_18 : decode cX10_piece 18 = .ok (.getfield 26, 3) := by decide +kernel
theorem dX10_piece_21 : decode cX10_piece 21 = .ok (.getfield 179, 3) := by decide +kernel
theorem dX10_piece_24 : decode cX10_piece 24 = .ok (.bipush 8, 2) := by decide +kernel
theorem dX10_piece_26 : decode cX10_piece 26 = .ok (.if_icmp .lt 6, 3) := by decide +kernel
theorem dX10_piece_29 : decode cX10_piece 29 = .ok (.bipush (-4), 2) := by decide +kernel
theorem dX10_piece_31 : decode cX10_piece 31 = .ok (.ireturn, 1) := by decide +kernel
theorem dX10_piece_32 : decode cX10_piece 32 = .ok (.aload_n 0, 1) := by decide +kernel
theorem dX10_piece_33 : decode cX10_piece 33 = .ok (.getfield 26, 3) := by decide +kernel
theorem dX10_piece_36 : decode cX10_piece 36 = .ok (.iload_n 1, 1) := by decide +kernel
theorem dX10_piece_37 : decode cX10_piece 37 = .ok (.iload_n 2, 1) := by decide +kernel
theorem dX10_piece_38 : decode cX10_piece 38 = .ok (.invokevirtual 182, 3) := by decide +kernel
theorem dX10_piece_41 : decode cX10_piece 41 = .ok (.ireturn, 1) := by decide +kernel
theorem dX10_about_0 : decode cX10_about 0 = .ok (.aload_n 0, 1) := by decide +kernel
theorem dX10_about_1 : decode cX10_about 1 = .ok (.getfield 26, 3) := by decide +kernel
theorem dX10_about_4 : decode cX10_about 4 = .ok (.iload_n 1, 1) := by decide +kernel
theorem dX10_about_5 : decode cX10_about 5 = .ok (.invokevirtual 186, 3) := by decide +kernel
theorem dX10_about_8 : decode cX10_about 8 = .ok (.ifCond .ne 5, 3) := by decide +kernel
theorem dX10_about_11 : decode cX10_about 11 = .ok (.iconst (-1), 1) := by decide +kernel
theorem dX10_about_12 : decode cX10_about 12 = .ok (.ireturn, 1) := by decide +kernel
theorem dX10_about_13 : decode cX10_about 13 = .ok (.aload_n 0, 1) := by decide +kernel
theorem dX10_about_14 : decode cX10_about 14 = .ok (.getfield 26, 3) := by decide +kernel
theorem dX10_about_17 : decode cX10_about 17 = .ok (.getfield 189, 3) := by decide +kernel
theorem dX10_about_20 : decode cX10_about 20 = .ok (.iload_n 1, 1) := by decide +kernel
theorem dX10_about_21 : decode cX10_about 21 = .ok (.aaload, 1) := by decide +kernel
theorem dX10_about_22 : decode cX10_about 22 = .ok (.astore_n 3, 1) := by decide +kernel
theorem dX10_about_23 : decode cX10_about 23 = .ok (.iload_n 2, 1) := by decide +kernel
theorem dX10_about_24 : decode cX10_about 24 = .ok (.tableswitch 61 0 4 #[36, 41, 46, 51, 56], 36) := by decide +kernel
theorem dX10_about_60 : decode cX10_about 60 = .ok (.aload_n 3, 1) := by decide +kernel
theorem dX10_about_61 : decode cX10_about 61 = .ok (.getfield 193, 3) := by decide +kernel
theorem dX10_about_64 : decode cX10_about 64 = .ok (.ireturn, 1) := by decide +kernel
theorem dX10_about_65 : decode cX10_about 65 = .ok (.aload_n 3, 1) := by decide +kernel
theorem dX10_about_66 : decode cX10_about 66 = .ok (.getfield 198, 3) := by decide +kernel
theorem dX10_about_69 : decode cX10_about 69 = .ok (.ireturn, 1) := by decide +kernel
theorem dX10_about_70 : decode cX10_about 70 = .ok (.aload_n 3, 1) := by decide +kernel
theorem dX10_about_71 : decode cX10_about 71 = .ok (.getfield 201, 3) := by decide +kernel
theorem dX10_about_74 : decode cX10_about 74 = .ok (.ireturn, 1) := by decide +kernel
theorem dX10_about_75 : decode cX10_about 75 = .ok (.aload_n 3, 1) := by decide +kernel
theorem dX10_about_76 : decode cX10_about 76 = .ok (.getfield 204, 3) := by decide +kernel
theorem dX10_about_79 : decode cX10_about 79 = .ok (.ireturn, 1) := by decide +kernel
theorem dX10_about_80 : decode cX10_about 80 = .ok (.aload_n 3, 1) := by decide +kernel
theorem dX10_about_81 : decode cX10_about 81 = .ok (.getfield 207, 3) := by decide +kernel
theorem dX10_about_84 : decode cX10_about 84 = .ok (.ireturn, 1) := by decide +kernel
theorem dX10_about_85 : decode cX10_about 85 = .ok (.bipush (-2), 2) := by decide +kernel
theorem dX10_about_87 : decode cX10_about 87 = .ok (.ireturn, 1) := by decide +kernel
theorem dX10_change_0 : decode cX10_change 0 = .ok (.aload_n 0, 1) := by decide +kernel
theorem dX10_change_1 : decode cX10_change 1 = .ok (.getfield 26, 3) := by decide +kernel
theorem dX10_change_4 : decode cX10_change 4 = .ok (.iload_n 1, 1) := by decide +kernel
theorem dX10_change_5 : decode cX10_change 5 = .ok (.invokevirtual 186, 3) := by decide +kernel
theorem dX10_change_8 : decode cX10_change 8 = .ok (.ifCond .ne 5, 3) := by decide +kernel
theorem dX10_change_11 : decode cX10_change 11 = .ok (.iconst (-1), 1) := by decide +kernel
theorem dX10_change_12 : decode cX10_change 12 = .ok (.ireturn, 1) := by decide +kernel
theorem dX10_change_13 : decode cX10_change 13 = .ok (.iload_n 2, 1) := by decide +kernel
theorem dX10_change_14 : decode cX10_change 14 = .ok (.iconst 1, 1) := by decide +kernel
theorem dX10_change_15 : decode cX10_change 15 = .ok (.iconst 3, 1) := by decide +kernel
theorem dX10_change_16 : decode cX10_change 16 = .ok (.invokestatic 82, 3) := by decide +kernel
theorem dX10_change_19 : decode cX10_change 19 = .ok (.ifCond .ne 6, 3) := by decide +kernel
theorem dX10_change_22 : decode cX10_change 22 = .ok (.bipush (-2), 2) := by decide +kernel
theorem dX10_change_24 : decode cX10_change 24 = .ok (.ireturn, 1) := by decide +kernel
theorem dX10_change_25 : decode cX10_change 25 = .ok (.aload_n 0, 1) := by decide +kernel
theorem dX10_change_26 : decode cX10_change 26 = .ok (.getfield 26, 3) := by decide +kernel
theorem dX10_change_29 : decode cX10_change 29 = .ok (.getfield 189, 3) := by decide +kernel
theorem dX10_change_32 : decode cX10_change 32 = .ok (.iload_n 1, 1) := by decide +kernel
theorem dX10_change_33 : decode cX10_change 33 = .ok (.aaload, 1) := by decide +kernel
theorem dX10_change_34 : decode cX10_change 34 = .ok (.astore 4, 2) := by decide +kernel
theorem dX10_change_36 : decode cX10_change 36 = .ok (.iload_n 2, 1) := by decide +kernel
theorem dX10_change_37 : decode cX10_change 37 = .ok (.iconst 3, 1) := by decide +kernel
theorem dX10_change_38 : decode cX10_change 38 = .ok (.if_icmp .ne 29, 3) := by decide +kernel
theorem dX10_change_41 : decode cX10_change 41 = .ok (.iload_n 3, 1) := by decide +kernel
theorem dX10_change_42 : decode cX10_change 42 = .ok (.invokestatic 176, 3) := by decide +kernel
theorem dX10_change_45 : decode cX10_change 45 = .ok (.ifCond .ne 6, 3) := by decide +kernel
theorem dX10_change_48 : decode cX10_change 48 = .ok (.bipush (-2), 2) := by decide +kernel
theorem dX10_change_50 : decode cX10_change 50 = .ok (.ireturn, 1) := by decide +kernel
theorem dX10_change_51 : decode cX10_change 51 = .ok (.aload 4, 2) := by decide +kernel
theorem dX10_change_53 : decode cX10_change 53 = .ok (.getfield 204, 3) := by decide +kernel
theorem dX10_change_56 : decode cX10_change 56 = .ok (.istore 5, 2) := by decide +kernel
theorem dX10_change_58 : decode cX10_change 58 = .ok (.aload 4, 2) := by decide +kernel
theorem dX10_change_60 : decode cX10_change 60 = .ok (.iload_n 3, 1) := by decide +kernel
theorem dX10_change_61 : decode cX10_change 61 = .ok (.putfield 204, 3) := by decide +kernel
theorem dX10_change_64 : decode cX10_change 64 = .ok (.iload 5, 2) := by decide +kernel
theorem dX10_change_66 : decode cX10_change 66 = .ok (.ireturn, 1) := by decide +kernel
theorem dX10_change_67 : decode cX10_change 67 = .ok (.iload_n 3, 1) := by decide +kernel
theorem dX10_change_68 : decode cX10_change 68 = .ok (.iconst (-1), 1) := by decide +kernel
theorem dX10_change_69 : decode cX10_change 69 = .ok (.if_icmp .eq 20, 3) := by decide +kernel
theorem dX10_change_72 : decode cX10_change 72 = .ok (.iload_n 3, 1) := by decide +kernel
theorem dX10_change_73 : decode cX10_change 73 = .ok (.aload 4, 2) := by decide +kernel
theorem dX10_change_75 : decode cX10_change 75 = .ok (.getfield 193, 3) := by decide +kernel
theorem dX10_change_78 : decode cX10_change 78 = .ok (.bipush 99, 2) := by decide +kernel
theorem dX10_change_80 : decode cX10_change 80 = .ok (.invokestatic 82, 3) := by decide +kernel
theorem dX10_change_83 : decode cX10_change 83 = .ok (.ifCond .ne 6, 3) := by decide +kernel
theorem dX10_change_86 : decode cX10_change 86 = .ok (.bipush (-2), 2) := by decide +kernel
theorem dX10_change_88 : decode cX10_change 88 = .ok (.ireturn, 1) := by decide +kernel
theorem dX10_change_89 : decode cX10_change 89 = .ok (.iload_n 3, 1) := by decide +kernel
theorem dX10_change_90 : decode cX10_change 90 = .ok (.iconst (-1), 1) := by decide +kernel
theorem dX10_change_91 : decode cX10_change 91 = .ok (.if_icmp .ne 8, 3) := by decide +kernel
theorem dX10_change_94 : decode cX10_change 94 = .ok (.bipush (-6), 2) := by decide +kernel
theorem dX10_change_96 : decode cX10_change 96 = .ok (.goto 4, 3) := by decide +kernel
theorem dX10_change_99 : decode cX10_change 99 = .ok (.iload_n 3, 1) := by decide +kernel
theorem dX10_change_100 : decode cX10_change 100 = .ok (.istore 6, 2) := by decide +kernel
theorem dX10_change_102 : decode cX10_change 102 = .ok (.iload_n 2, 1) := by decide +kernel
theorem dX10_change_103 : decode cX10_change 103 = .ok (.iconst 1, 1) := by decide +kernel
theorem dX10_change_104 : decode cX10_change 104 = .ok (.if_icmp .ne 20, 3) := by decide +kernel
theorem dX10_change_107 : decode cX10_change 107 = .ok (.aload 4, 2) := by decide +kernel
theorem dX10_change_109 : decode cX10_change 109 = .ok (.getfield 198, 3) := by decide +kernel
theorem dX10_change_112 : decode cX10_change 112 = .ok (.istore 5, 2) := by decide +kernel
theorem dX10_change_114 : decode cX10_change 114 = .ok (.aload 4, 2) := by decide +kernel
theorem dX10_change_116 : decode cX10_change 116 = .ok (.iload 6, 2) := by decide +kernel
theorem dX10_change_118 : decode cX10_change 118 = .ok (.putfield 198, 3) := by decide +kernel
theorem dX10_change_121 : decode cX10_change 121 = .ok (.goto 17, 3) := by decide +kernel
theorem dX10_change_124 : decode cX10_change 124 = .ok (.aload 4, 2) := by decide +kernel
theorem dX10_change_126 : decode cX10_change 126 = .ok (.getfield 201, 3) := by decide +kernel
theorem dX10_change_129 : decode cX10_change 129 = .ok (.istore 5, 2) := by decide +kernel
theorem dX10_change_131 : decode cX10_change 131 = .ok (.aload 4, 2) := by decide +kernel
theorem dX10_change_133 : decode cX10_change 133 = .ok (.iload 6, 2) := by decide +kernel
theorem dX10_change_135 : decode cX10_change 135 = .ok (.putfield 201, 3) := by decide +kernel
theorem dX10_change_138 : decode cX10_change 138 = .ok (.iload 5, 2) := by decide +kernel
theorem dX10_change_140 : decode cX10_change 140 = .ok (.ireturn, 1) := by decide +kernel
theorem dX10_set_0 : decode cX10_set 0 = .ok (.iload_n 1, 1) := by decide +kernel
theorem dX10_set_1 : decode cX10_set 1 = .ok (.iconst 0, 1) := by decide +kernel
theorem dX10_set_2 : decode cX10_set 2 = .ok (.iconst 2, 1) := by decide +kernel
theorem dX10_set_3 : decode cX10_set 3 = .ok (.invokestatic 82, 3) := by decide +kernel
theorem dX10_set_6 : decode cX10_set 6 = .ok (.ifCond .eq 12, 3) := by decide +kernel
theorem dX10_set_9 : decode cX10_set 9 = .ok (.iload_n 2, 1) := by decide +kernel
theorem dX10_set_10 : decode cX10_set 10 = .ok (.iconst 0, 1) := by decide +kernel
theorem dX10_set_11 : decode cX10_set 11 = .ok (.iconst 1, 1) := by decide +kernel
theorem dX10_set_12 : decode cX10_set 12 = .ok (.invokestatic 82, 3) := by decide +kernel
theorem dX10_set_15 : decode cX10_set 15 = .ok (.ifCond .ne 6, 3) := by decide +kernel
theorem dX10_set_18 : decode cX10_set 18 = .ok (.bipush (-2), 2) := by decide +kernel
theorem dX10_set_20 : decode cX10_set 20 = .ok (.ireturn, 1) := by decide +kernel
theorem dX10_set_21 : decode cX10_set 21 = .ok (.iload_n 1, 1) := by decide +kernel
theorem dX10_set_22 : decode cX10_set 22 = .ok (.ifCond .ne 22, 3) := by decide +kernel
theorem dX10_set_25 : decode cX10_set 25 = .ok (.aload_n 0, 1) := by decide +kernel
theorem dX10_set_26 : decode cX10_set 26 = .ok (.getfield 26, 3) := by decide +kernel
theorem dX10_set_29 : decode cX10_set 29 = .ok (.getfield 210, 3) := by decide +kernel
theorem dX10_set_32 : decode cX10_set 32 = .ok (.istore_n 3, 1) := by decide +kernel
theorem dX10_set_33 : decode cX10_set 33 = .ok (.aload_n 0, 1) := by decide +kernel
theorem dX10_set_34 : decode cX10_set 34 = .ok (.getfield 26, 3) := by decide +kernel
theorem dX10_set_37 : decode cX10_set 37 = .ok (.iload_n 2, 1) := by decide +kernel
theorem dX10_set_38 : decode cX10_set 38 = .ok (.putfield 210, 3) := by decide +kernel
theorem dX10_set_41 : decode cX10_set 41 = .ok (.goto 43, 3) := by decide +kernel
theorem dX10_set_44 : decode cX10_set 44 = .ok (.iload_n 1, 1) := by decide +kernel
theorem dX10_set_45 : decode cX10_set 45 = .ok (.iconst 1, 1) := by decide +kernel
theorem dX10_set_46 : decode cX10_set 46 = .ok (.if_icmp .ne 22, 3) := by decide +kernel
theorem dX10_set_49 : decode cX10_set 49 = .ok (.aload_n 0, 1) := by decide +kernel
theorem dX10_set_50 : decode cX10_set 50 = .ok (.getfield 26, 3) := by decide +kernel
theorem dX10_set_53 : decode cX10_set 53 = .ok (.getfield 213, 3) := by decide +kernel
theorem dX10_set_56 : decode cX10_set 56 = .ok (.istore_n 3, 1) := by decide +kernel
theorem dX10_set_57 : decode cX10_set 57 = .ok (.aload_n 0, 1) := by decide +kernel
theorem dX10_set_58 : decode cX10_set 58 = .ok (.getfield 26, 3) := by decide +kernel
theorem dX10_set_61 : decode cX10_set 61 = .ok (.iload_n 2, 1) := by decide +kernel
theorem dX10_set_62 : decode cX10_set 62 = .ok (.putfield 213, 3) := by decide +kernel
theorem dX10_set_65 : decode cX10_set 65 = .ok (.goto 19, 3) := by decide +kernel
theorem dX10_set_68 : decode cX10_set 68 = .ok (.aload_n 0, 1) := by decide +kernel
theorem dX10_set_69 : decode cX10_set 69 = .ok (.getfield 26, 3) := by decide +kernel
theorem dX10_set_72 : decode cX10_set 72 = .ok (.getfield 216, 3) := by decide +kernel
theorem dX10_set_75 : decode cX10_set 75 = .ok (.istore_n 3, 1) := by decide +kernel
theorem dX10_set_76 : decode cX10_set 76 = .ok (.aload_n 0, 1) := by decide +kernel
theorem dX10_set_77 : decode cX10_set 77 = .ok (.getfield 26, 3) := by decide +kernel
theorem dX10_set_80 : decode cX10_set 80 = .ok (.iload_n 2, 1) := by decide +kernel
theorem dX10_set_81 : decode cX10_set 81 = .ok (.putfield 216, 3) := by decide +kernel
theorem dX10_set_84 : decode cX10_set 84 = .ok (.iload_n 3, 1) := by decide +kernel
theorem dX10_set_85 : decode cX10_set 85 = .ok (.ireturn, 1) := by decide +kernel
theorem dX10_meets_0 : decode cX10_meets 0 = .ok (.aload_n 0, 1) := by decide +kernel
theorem dX10_meets_1 : decode cX10_meets 1 = .ok (.iload_n 1, 1) := by decide +kernel
theorem dX10_meets_2 : decode cX10_meets 2 = .ok (.iload_n 2, 1) := by decide +kernel
theorem dX10_meets_3 : decode cX10_meets 3 = .ok (.iload_n 3, 1) := by decide +kernel
theorem dX10_meets_4 : decode cX10_meets 4 = .ok (.invokevirtual 219, 3) := by decide +kernel
theorem dX10_meets_7 : decode cX10_meets 7 = .ok (.istore 4, 2) := by decide +kernel
theorem dX10_meets_9 : decode cX10_meets 9 = .ok (.iload 4, 2) := by decide +kernel
theorem dX10_meets_11 : decode cX10_meets 11 = .ok (.ifCond .eq 6, 3) := by decide +kernel
theorem dX10_meets_14 : decode cX10_meets 14 = .ok (.iload 4, 2) := by decide +kernel
theorem dX10_meets_16 : decode cX10_meets 16 = .ok (.ireturn, 1) := by decide +kernel
theorem dX10_meets_17 : decode cX10_meets 17 = .ok (.aload_n 0, 1) := by decide +kernel
theorem dX10_meets_18 : decode cX10_meets 18 = .ok (.getfield 26, 3) := by decide +kernel
theorem dX10_meets_21 : decode cX10_meets 21 = .ok (.getfield 189, 3) := by decide +kernel
theorem dX10_meets_24 : decode cX10_meets 24 = .ok (.iload_n 2, 1) := by decide +kernel
theorem dX10_meets_25 : decode cX10_meets 25 = .ok (.aaload, 1) := by decide +kernel
theorem dX10_meets_26 : decode cX10_meets 26 = .ok (.astore 5, 2) := by decide +kernel
theorem dX10_meets_28 : decode cX10_meets 28 = .ok (.aload 5, 2) := by decide +kernel
theorem dX10_meets_30 : decode cX10_meets 30 = .ok (.iload_n 3, 1) := by decide +kernel
theorem dX10_meets_31 : decode cX10_meets 31 = .ok (.invokevirtual 223, 3) := by decide +kernel
theorem dX10_meets_34 : decode cX10_meets 34 = .ok (.istore 6, 2) := by decide +kernel
theorem dX10_meets_36 : decode cX10_meets 36 = .ok (.aload_n 0, 1) := by decide +kernel
theorem dX10_meets_37 : decode cX10_meets 37 = .ok (.getfield 46, 3) := by decide +kernel
theorem dX10_meets_40 : decode cX10_meets 40 = .ok (.iload_n 1, 1) := by decide +kernel
theorem dX10_meets_41 : decode cX10_meets 41 = .ok (.aload 5, 2) := by decide +kernel
theorem dX10_meets_43 : decode cX10_meets 43 = .ok (.iload 6, 2) := by decide +kernel
theorem dX10_meets_45 : decode cX10_meets 45 = .ok (.aload_n 0, 1) := by decide +kernel
theorem dX10_meets_46 : decode cX10_meets 46 = .ok (.getfield 26, 3) := by decide +kernel
theorem dX10_meets_49 : decode cX10_meets 49 = .ok (.iload 6, 2) := by decide +kernel
theorem dX10_meets_51 : decode cX10_meets 51 = .ok (.invokevirtual 167, 3) := by decide +kernel
theorem dX10_meets_54 : decode cX10_meets 54 = .ok (.invokevirtual 226, 3) := by decide +kernel
theorem dX10_meets_57 : decode cX10_meets 57 = .ok (.ifCond .ne 7, 3) := by decide +kernel
theorem dX10_meets_60 : decode cX10_meets 60 = .ok (.iconst 1, 1) := by decide +kernel
theorem dX10_meets_61 : decode cX10_meets 61 = .ok (.goto 4, 3) := by decide +kernel
theorem dX10_meets_64 : decode cX10_meets 64 = .ok (.iconst 0, 1) := by decide +kernel
theorem dX10_meets_65 : decode cX10_meets 65 = .ok (.ireturn, 1) := by decide +kernel
theorem dX10_why_0 : decode cX10_why 0 = .ok (.aload_n 0, 1) := by decide +kernel
theorem dX10_why_1 : decode cX10_why 1 = .ok (.iload_n 1, 1) := by decide +kernel
theorem dX10_why_2 : decode cX10_why 2 = .ok (.iload_n 2, 1) := by decide +kernel
theorem dX10_why_3 : decode cX10_why 3 = .ok (.iload_n 3, 1) := by decide +kernel
theorem dX10_why_4 : decode cX10_why 4 = .ok (.invokevirtual 219, 3) := by decide +kernel
theorem dX10_why_7 : decode cX10_why 7 = .ok (.istore 4, 2) := by decide +kernel
theorem dX10_why_9 : decode cX10_why 9 = .ok (.iload 4, 2) := by decide +kernel
theorem dX10_why_11 : decode cX10_why 11 = .ok (.ifCond .eq 6, 3) := by decide +kernel
theorem dX10_why_14 : decode cX10_why 14 = .ok (.iload 4, 2) := by decide +kernel
theorem dX10_why_16 : decode cX10_why 16 = .ok (.ireturn, 1) := by decide +kernel
theorem dX10_why_17 : decode cX10_why 17 = .ok (.aload_n 0, 1) := by decide +kernel
theorem dX10_why_18 : decode cX10_why 18 = .ok (.getfield 26, 3) := by decide +kernel
theorem dX10_why_21 : decode cX10_why 21 = .ok (.getfield 189, 3) := by decide +kernel
theorem dX10_why_24 : decode cX10_why 24 = .ok (.iload_n 2, 1) := by decide +kernel
theorem dX10_why_25 : decode cX10_why 25 = .ok (.aaload, 1) := by decide +kernel
theorem dX10_why_26 : decode cX10_why 26 = .ok (.astore 5, 2) := by decide +kernel
theorem dX10_why_28 : decode cX10_why 28 = .ok (.aload 5, 2) := by decide +kernel
theorem dX10_why_30 : decode cX10_why 30 = .ok (.iload_n 3, 1) := by decide +kernel
theorem dX10_why_31 : decode cX10_why 31 = .ok (.invokevirtual 223, 3) := by decide +kernel
theorem dX10_why_34 : decode cX10_why 34 = .ok (.istore 6, 2) := by decide +kernel
theorem dX10_why_36 : decode cX10_why 36 = .ok (.aload_n 0, 1) := by decide +kernel
theorem dX10_why_37 : decode cX10_why 37 = .ok (.getfield 46, 3) := by decide +kernel
theorem dX10_why_40 : decode cX10_why 40 = .ok (.aload 5, 2) := by decide +kernel
theorem dX10_why_42 : decode cX10_why 42 = .ok (.iload 6, 2) := by decide +kernel
theorem dX10_why_44 : decode cX10_why 44 = .ok (.invokevirtual 230, 3) := by decide +kernel
theorem dX10_why_47 : decode cX10_why 47 = .ok (.iload_n 1, 1) := by decide +kernel
theorem dX10_why_48 : decode cX10_why 48 = .ok (.if_icmp .ne 5, 3) := by decide +kernel
theorem dX10_why_51 : decode cX10_why 51 = .ok (.iconst 0, 1) := by decide +kernel
theorem dX10_why_52 : decode cX10_why 52 = .ok (.ireturn, 1) := by decide +kernel
theorem dX10_why_53 : decode cX10_why 53 = .ok (.aload_n 0, 1) := by decide +kernel
theorem dX10_why_54 : decode cX10_why 54 = .ok (.getfield 46, 3) := by decide +kernel
theorem dX10_why_57 : decode cX10_why 57 = .ok (.iload_n 1, 1) := by decide +kernel
theorem dX10_why_58 : decode cX10_why 58 = .ok (.aload 5, 2) := by decide +kernel
theorem dX10_why_60 : decode cX10_why 60 = .ok (.iload 6, 2) := by decide +kernel
theorem dX10_why_62 : decode cX10_why 62 = .ok (.aload_n 0, 1) := by decide +kernel
theorem dX10_why_63 : decode cX10_why 63 = .ok (.getfield 26, 3) := by decide +kernel
theorem dX10_why_66 : decode cX10_why 66 = .ok (.iload 6, 2) := by decide +kernel
theorem dX10_why_68 : decode cX10_why 68 = .ok (.invokevirtual 167, 3) := by decide +kernel
theorem dX10_why_71 : decode cX10_why 71 = .ok (.invokevirtual 226, 3) := by decide +kernel
theorem dX10_why_74 : decode cX10_why 74 = .ok (.istore 7, 2) := by decide +kernel
theorem dX10_why_76 : decode cX10_why 76 = .ok (.iload 7, 2) := by decide +kernel
theorem dX10_why_78 : decode cX10_why 78 = .ok (.ifCond .ne 8, 3) := by decide +kernel
theorem dX10_why_81 : decode cX10_why 81 = .ok (.bipush 6, 2) := by decide +kernel
theorem dX10_why_83 : decode cX10_why 83 = .ok (.goto 5, 3) := by decide +kernel
theorem dX10_why_86 : decode cX10_why 86 = .ok (.iload 7, 2) := by decide +kernel
theorem dX10_why_88 : decode cX10_why 88 = .ok (.ireturn, 1) := by decide +kernel
theorem dX10_governs_0 : decode cX10_governs 0 = .ok (.aload_n 0, 1) := by decide +kernel
theorem dX10_governs_1 : decode cX10_governs 1 = .ok (.iload_n 1, 1) := by decide +kernel
theorem dX10_governs_2 : decode cX10_governs 2 = .ok (.iload_n 2, 1) := by decide +kernel
theorem dX10_governs_3 : decode cX10_governs 3 = .ok (.invokevirtual 234, 3) := by decide +kernel
theorem dX10_governs_6 : decode cX10_governs 6 = .ok (.istore_n 3, 1) := by decide +kernel
theorem dX10_governs_7 : decode cX10_governs 7 = .ok (.iload_n 3, 1) := by decide +kernel
theorem dX10_governs_8 : decode cX10_governs 8 = .ok (.ifCond .eq 5, 3) := by decide +kernel
theorem dX10_governs_11 : decode cX10_governs 11 = .ok (.iload_n 3, 1) := by decide +kernel
theorem dX10_governs_12 : decode cX10_governs 12 = .ok (.ireturn, 1) := by decide +kernel
theorem dX10_governs_13 : decode cX10_governs 13 = .ok (.aload_n 0, 1) := by decide +kernel
theorem dX10_governs_14 : decode cX10_governs 14 = .ok (.getfield 26, 3) := by decide +kernel
theorem dX10_governs_17 : decode cX10_governs 17 = .ok (.getfield 189, 3) := by decide +kernel
theorem dX10_governs_20 : decode cX10_governs 20 = .ok (.iload_n 1, 1) := by decide +kernel
theorem dX10_governs_21 : decode cX10_governs 21 = .ok (.aaload, 1) := by decide +kernel
theorem dX10_governs_22 : decode cX10_governs 22 = .ok (.astore 4, 2) := by decide +kernel
theorem dX10_governs_24 : decode cX10_governs 24 = .ok (.aload_n 0, 1) := by decide +kernel
theorem dX10_governs_25 : decode cX10_governs 25 = .ok (.getfield 46, 3) := by decide +kernel
theorem dX10_governs_28 : decode cX10_governs 28 = .ok (.aload 4, 2) := by decide +kernel
theorem dX10_governs_30 : decode cX10_governs 30 = .ok (.aload 4, 2) := by decide +kernel
theorem dX10_governs_32 : decode cX10_governs 32 = .ok (.iload_n 2, 1) := by decide +kernel
theorem dX10_governs_33 : decode cX10_governs 33 = .ok (.invokevirtual 223, 3) := by decide +kernel
theorem dX10_governs_36 : decode cX10_governs 36 = .ok (.invokevirtual 230, 3) := by decide +kernel
theorem dX10_governs_39 : decode cX10_governs 39 = .ok (.ireturn, 1) := by decide +kernel
theorem dX10_those_0 : decode cX10_those 0 = .ok (.iload_n 1, 1) := by decide +kernel
theorem dX10_those_1 : decode cX10_those 1 = .ok (.invokestatic 101, 3) := by decide +kernel
theorem dX10_those_4 : decode cX10_those 4 = .ok (.ifCond .eq 12, 3) := by decide +kernel
theorem dX10_those_7 : decode cX10_those 7 = .ok (.iload_n 2, 1) := by decide +kernel
theorem dX10_those_8 : decode cX10_those 8 = .ok (.iconst 0, 1) := by decide +kernel
theorem dX10_those_9 : decode cX10_those 9 = .ok (.iconst 3, 1) := by decide +kernel
theorem dX10_those_10 : decode cX10_those 10 = .ok (.invokestatic 82, 3) := by decide +kernel
theorem dX10_those_13 : decode cX10_those 13 = .ok (.ifCond .ne 6, 3) := by decide +kernel
theorem dX10_those_16 : decode cX10_those 16 = .ok (.bipush (-2), 2) := by decide +kernel
theorem dX10_those_18 : decode cX10_those 18 = .ok (.ireturn, 1) := by decide +kernel
theorem dX10_those_19 : decode cX10_those 19 = .ok (.iconst 0, 1) := by decide +kernel
theorem dX10_those_20 : decode cX10_those 20 = .ok (.istore_n 3, 1) := by decide +kernel
theorem dX10_those_21 : decode cX10_those 21 = .ok (.iconst 0, 1) := by decide +kernel
theorem dX10_those_22 : decode cX10_those 22 = .ok (.istore 4, 2) := by decide +kernel
theorem dX10_those_24 : decode cX10_those 24 = .ok (.iload 4, 2) := by decide +kernel
theorem dX10_those_26 : decode cX10_those 26 = .ok (.aload_n 0, 1) := by decide +kernel
theorem dX10_those_27 : decode cX10_those 27 = .ok (.getfield 26, 3) := by decide +kernel
theorem dX10_those_30 : decode cX10_those 30 = .ok (.getfield 179, 3) := by decide +kernel
theorem dX10_those_33 : decode cX10_those 33 = .ok (.if_icmp .ge 38, 3) := by decide +kernel
theorem dX10_those_36 : decode cX10_those 36 = .ok (.aload_n 0, 1) := by decide +kernel
theorem dX10_those_37 : decode cX10_those 37 = .ok (.getfield 46, 3) := by decide +kernel
theorem dX10_those_40 : decode cX10_those 40 = .ok (.aload_n 0, 1) := by decide +kernel
theorem dX10_those_41 : decode cX10_those 41 = .ok (.getfield 26, 3) := by decide +kernel
theorem dX10_those_44 : decode cX10_those 44 = .ok (.getfield 189, 3) := by decide +kernel
theorem dX10_those_47 : decode cX10_those 47 = .ok (.iload 4, 2) := by decide +kernel
theorem dX10_those_49 : decode cX10_those 49 = .ok (.aaload, 1) := by decide +kernel
theorem dX10_those_50 : decode cX10_those 50 = .ok (.iload_n 1, 1) := by decide +kernel
theorem dX10_those_51 : decode cX10_those 51 = .ok (.iload_n 2, 1) := by decide +kernel
theorem dX10_those_52 : decode cX10_those 52 = .ok (.invokevirtual 237, 3) := by decide +kernel
theorem dX10_those_55 : decode cX10_those 55 = .ok (.ifCond .eq 10, 3) := by decide +kernel
theorem dX10_those_58 : decode cX10_those 58 = .ok (.iload_n 3, 1) := by decide +kernel
theorem dX10_those_59 : decode cX10_those 59 = .ok (.iconst 1, 1) := by decide +kernel
theorem dX10_those_60 : decode cX10_those 60 = .ok (.iload 4, 2) := by decide +kernel
theorem dX10_those_62 : decode cX10_those 62 = .ok (.ishl, 1) := by decide +kernel
theorem dX10_those_63 : decode cX10_those 63 = .ok (.ior, 1) := by decide +kernel
theorem dX10_those_64 : decode cX10_those 64 = .ok (.istore_n 3, 1) := by decide +kernel
theorem dX10_those_65 : decode cX10_those 65 = .ok (.iinc 4 1, 3) := by decide +kernel
theorem dX10_those_68 : decode cX10_those 68 = .ok (.goto (-44), 3) := by decide +kernel
theorem dX10_those_71 : decode cX10_those 71 = .ok (.iload_n 3, 1) := by decide +kernel
theorem dX10_those_72 : decode cX10_those 72 = .ok (.ireturn, 1) := by decide +kernel
theorem dX10_gives_0 : decode cX10_gives 0 = .ok (.aload_n 0, 1) := by decide +kernel
theorem dX10_gives_1 : decode cX10_gives 1 = .ok (.iload_n 1, 1) := by decide +kernel
theorem dX10_gives_2 : decode cX10_gives 2 = .ok (.iload_n 2, 1) := by decide +kernel
theorem dX10_gives_3 : decode cX10_gives 3 = .ok (.invokevirtual 234, 3) := by decide +kernel
theorem dX10_gives_6 : decode cX10_gives 6 = .ok (.istore_n 3, 1) := by decide +kernel
theorem dX10_gives_7 : decode cX10_gives 7 = .ok (.iload_n 3, 1) := by decide +kernel
theorem dX10_gives_8 : decode cX10_gives 8 = .ok (.ifCond .eq 7, 3) := by decide +kernel
theorem dX10_gives_11 : decode cX10_gives 11 = .ok (.iload_n 3, 1) := by decide +kernel
theorem dX10_gives_12 : decode cX10_gives 12 = .ok (.goto 20, 3) := by decide +kernel
theorem dX10_gives_15 : decode cX10_gives 15 = .ok (.aload_n 0, 1) := by decide +kernel
theorem dX10_gives_16 : decode cX10_gives 16 = .ok (.getfield 46, 3) := by decide +kernel
theorem dX10_gives_19 : decode cX10_gives 19 = .ok (.aload_n 0, 1) := by decide +kernel
theorem dX10_gives_20 : decode cX10_gives 20 = .ok (.getfield 26, 3) := by decide +kernel
theorem dX10_gives_23 : decode cX10_gives 23 = .ok (.getfield 189, 3) := by decide +kernel
theorem dX10_gives_26 : decode cX10_gives 26 = .ok (.iload_n 1, 1) := by decide +kernel
theorem dX10_gives_27 : decode cX10_gives 27 = .ok (.aaload, 1) := by decide +kernel
theorem dX10_gives_28 : decode cX10_gives 28 = .ok (.iload_n 2, 1) := by decide +kernel
theorem dX10_gives_29 : decode cX10_gives 29 = .ok (.invokevirtual 241, 3) := by decide +kernel
theorem dX10_gives_32 : decode cX10_gives 32 = .ok (.ireturn, 1) := by decide +kernel
theorem dX10_route_0 : decode cX10_route 0 = .ok (.aload_n 0, 1) := by decide +kernel
theorem dX10_route_1 : decode cX10_route 1 = .ok (.iload_n 1, 1) := by decide +kernel
theorem dX10_route_2 : decode cX10_route 2 = .ok (.iload_n 2, 1) := by decide +kernel
theorem dX10_route_3 : decode cX10_route 3 = .ok (.invokevirtual 234, 3) := by decide +kernel
theorem dX10_route_6 : decode cX10_route 6 = .ok (.istore 4, 2) := by decide +kernel
theorem dX10_route_8 : decode cX10_route 8 = .ok (.iload 4, 2) := by decide +kernel
theorem dX10_route_10 : decode cX10_route 10 = .ok (.ifCond .eq 6, 3) := by decide +kernel
theorem dX10_route_13 : decode cX10_route 13 = .ok (.iload 4, 2) := by decide +kernel
theorem dX10_route_15 : decode cX10_route 15 = .ok (.ireturn, 1) := by decide +kernel
theorem dX10_route_16 : decode cX10_route 16 = .ok (.aload_n 0, 1) := by decide +kernel
theorem dX10_route_17 : decode cX10_route 17 = .ok (.getfield 26, 3) := by decide +kernel
theorem dX10_route_20 : decode cX10_route 20 = .ok (.getfield 189, 3) := by decide +kernel
theorem dX10_route_23 : decode cX10_route 23 = .ok (.iload_n 1, 1) := by decide +kernel
theorem dX10_route_24 : decode cX10_route 24 = .ok (.aaload, 1) := by decide +kernel
theorem dX10_route_25 : decode cX10_route 25 = .ok (.astore 5, 2) := by decide +kernel
theorem dX10_route_27 : decode cX10_route 27 = .ok (.aload 5, 2) := by decide +kernel
theorem dX10_route_29 : decode cX10_route 29 = .ok (.iload_n 2, 1) := by decide +kernel
theorem dX10_route_30 : decode cX10_route 30 = .ok (.invokevirtual 223, 3) := by decide +kernel
theorem dX10_route_33 : decode cX10_route 33 = .ok (.istore 6, 2) := by decide +kernel
theorem dX10_route_35 : decode cX10_route 35 = .ok (.aload_n 0, 1) := by decide +kernel
theorem dX10_route_36 : decode cX10_route 36 = .ok (.getfield 46, 3) := by decide +kernel
theorem dX10_route_39 : decode cX10_route 39 = .ok (.aload 5, 2) := by decide +kernel
theorem dX10_route_41 : decode cX10_route 41 = .ok (.aload_n 0, 1) := by decide +kernel
theorem dX10_route_42 : decode cX10_route 42 = .ok (.getfield 46, 3) := by decide +kernel
theorem dX10_route_45 : decode cX10_route 45 = .ok (.aload 5, 2) := by decide +kernel
theorem dX10_route_47 : decode cX10_route 47 = .ok (.iload 6, 2) := by decide +kernel
theorem dX10_route_49 : decode cX10_route 49 = .ok (.invokevirtual 230, 3) := by decide +kernel
theorem dX10_route_52 : decode cX10_route 52 = .ok (.iload 6, 2) := by decide +kernel
theorem dX10_route_54 : decode cX10_route 54 = .ok (.invokevirtual 244, 3) := by decide +kernel
theorem dX10_route_57 : decode cX10_route 57 = .ok (.pop, 1) := by decide +kernel
theorem dX10_route_58 : decode cX10_route 58 = .ok (.iload_n 3, 1) := by decide +kernel
theorem dX10_route_59 : decode cX10_route 59 = .ok (.iconst (-1), 1) := by decide +kernel
theorem dX10_route_60 : decode cX10_route 60 = .ok (.if_icmp .ne 11, 3) := by decide +kernel
theorem dX10_route_63 : decode cX10_route 63 = .ok (.aload_n 0, 1) := by decide +kernel
theorem dX10_route_64 : decode cX10_route 64 = .ok (.getfield 46, 3) := by decide +kernel
theorem dX10_route_67 : decode cX10_route 67 = .ok (.getfield 248, 3) := by decide +kernel
theorem dX10_route_70 : decode cX10_route 70 = .ok (.ireturn, 1) := by decide +kernel
theorem dX10_route_71 : decode cX10_route 71 = .ok (.iload_n 3, 1) := by decide +kernel
theorem dX10_route_72 : decode cX10_route 72 = .ok (.iconst 0, 1) := by decide +kernel
theorem dX10_route_73 : decode cX10_route 73 = .ok (.aload_n 0, 1) := by decide +kernel
theorem dX10_route_74 : decode cX10_route 74 = .ok (.getfield 46, 3) := by decide +kernel
theorem dX10_route_77 : decode cX10_route 77 = .ok (.getfield 248, 3) := by decide +kernel
theorem dX10_route_80 : decode cX10_route 80 = .ok (.iconst 1, 1) := by decide +kernel
theorem dX10_route_81 : decode cX10_route 81 = .ok (.isub, 1) := by decide +kernel
theorem dX10_route_82 : decode cX10_route 82 = .ok (.invokestatic 82, 3) := by decide +kernel
theorem dX10_route_85 : decode cX10_route 85 = .ok (.ifCond .eq 15, 3) := by decide +kernel
theorem dX10_route_88 : decode cX10_route 88 = .ok (.aload_n 0, 1) := by decide +kernel
theorem dX10_route_89 : decode cX10_route 89 = .ok (.getfield 46, 3) := by decide +kernel
theorem dX10_route_92 : decode cX10_route 92 = .ok (.getfield 251, 3) := by decide +kernel
theorem dX10_route_95 : decode cX10_route 95 = .ok (.iload_n 3, 1) := by decide +kernel
theorem dX10_route_96 : decode cX10_route 96 = .ok (.iaload, 1) := by decide +kernel
theorem dX10_route_97 : decode cX10_route 97 = .ok (.goto 5, 3) := by decide +kernel
theorem dX10_route_100 : decode cX10_route 100 = .ok (.bipush (-6), 2) := by decide +kernel
theorem dX10_route_102 : decode cX10_route 102 = .ok (.ireturn, 1) := by decide +kernel
theorem dX10_sum_0 : decode cX10_sum 0 = .ok (.iload_n 1, 1) := by decide +kernel
theorem dX10_sum_1 : decode cX10_sum 1 = .ok (.invokestatic 101, 3) := by decide +kernel
theorem dX10_sum_4 : decode cX10_sum 4 = .ok (.ifCond .ne 6, 3) := by decide +kernel
theorem dX10_sum_7 : decode cX10_sum 7 = .ok (.bipush (-2), 2) := by decide +kernel
theorem dX10_sum_9 : decode cX10_sum 9 = .ok (.ireturn, 1) := by decide +kernel
theorem dX10_sum_10 : decode cX10_sum 10 = .ok (.iconst 0, 1) := by decide +kernel
theorem dX10_sum_11 : decode cX10_sum 11 = .ok (.istore_n 2, 1) := by decide +kernel
theorem dX10_sum_12 : decode cX10_sum 12 = .ok (.iconst 0, 1) := by decide +kernel
theorem dX10_sum_13 : decode cX10_sum 13 = .ok (.istore_n 3, 1) := by decide +kernel
theorem dX10_sum_14 : decode cX10_sum 14 = .ok (.iload_n 3, 1) := by decide +kernel
theorem dX10_sum_15 : decode cX10_sum 15 = .ok (.aload_n 0, 1) := by decide +kernel
theorem dX10_sum_16 : decode cX10_sum 16 = .ok (.getfield 26, 3) := by decide +kernel
theorem dX10_sum_19 : decode cX10_sum 19 = .ok (.getfield 179, 3) := by decide +kernel
theorem dX10_sum_22 : decode cX10_sum 22 = .ok (.if_icmp .ge 38, 3) := by decide +kernel
theorem dX10_sum_25 : decode cX10_sum 25 = .ok (.aload_n 0, 1) := by decide +kernel
theorem dX10_sum_26 : decode cX10_sum 26 = .ok (.getfield 46, 3) := by decide +kernel
theorem dX10_sum_29 : decode cX10_sum 29 = .ok (.aload_n 0, 1) := by decide +kernel
theorem dX10_sum_30 : decode cX10_sum 30 = .ok (.getfield 26, 3) := by decide +kernel
theorem dX10_sum_33 : decode cX10_sum 33 = .ok (.getfield 189, 3) := by decide +kernel
theorem dX10_sum_36 : decode cX10_sum 36 = .ok (.iload_n 3, 1) := by decide +kernel
theorem dX10_sum_37 : decode cX10_sum 37 = .ok (.aaload, 1) := by decide +kernel
theorem dX10_sum_38 : decode cX10_sum 38 = .ok (.iload_n 1, 1) := by decide +kernel
theorem dX10_sum_39 : decode cX10_sum 39 = .ok (.invokevirtual 241, 3) := by decide +kernel
theorem dX10_sum_42 : decode cX10_sum 42 = .ok (.istore 4, 2) := by decide +kernel
theorem dX10_sum_44 : decode cX10_sum 44 = .ok (.iload 4, 2) := by decide +kernel
theorem dX10_sum_46 : decode cX10_sum 46 = .ok (.ifCond .lt 8, 3) := by decide +kernel
theorem dX10_sum_49 : decode cX10_sum 49 = .ok (.iload_n 2, 1) := by decide +kernel
theorem dX10_sum_50 : decode cX10_sum 50 = .ok (.iload 4, 2) := by decide +kernel
theorem dX10_sum_52 : decode cX10_sum 52 = .ok (.iadd, 1) := by decide +kernel
theorem dX10_sum_53 : decode cX10_sum 53 = .ok (.istore_n 2, 1) := by decide +kernel
theorem dX10_sum_54 : decode cX10_sum 54 = .ok (.iinc 3 1, 3) := by decide +kernel
theorem dX10_sum_57 : decode cX10_sum 57 = .ok (.goto (-43), 3) := by decide +kernel
theorem dX10_sum_60 : decode cX10_sum 60 = .ok (.iload_n 2, 1) := by decide +kernel
theorem dX10_sum_61 : decode cX10_sum 61 = .ok (.ireturn, 1) := by decide +kernel
theorem dX10_passage_0 : decode cX10_passage 0 = .ok (.aload_n 0, 1) := by decide +kernel
theorem dX10_passage_1 : decode cX10_passage 1 = .ok (.getfield 26, 3) := by decide +kernel
theorem dX10_passage_4 : decode cX10_passage 4 = .ok (.iload_n 1, 1) := by decide +kernel
theorem dX10_passage_5 : decode cX10_passage 5 = .ok (.invokevirtual 186, 3) := by decide +kernel
theorem dX10_passage_8 : decode cX10_passage 8 = .ok (.ifCond .ne 5, 3) := by decide +kernel
theorem dX10_passage_11 : decode cX10_passage 11 = .ok (.iconst (-1), 1) := by decide +kernel
theorem dX10_passage_12 : decode cX10_passage 12 = .ok (.ireturn, 1) := by decide +kernel
theorem dX10_passage_13 : decode cX10_passage 13 = .ok (.iload_n 3, 1) := by decide +kernel
theorem dX10_passage_14 : decode cX10_passage 14 = .ok (.iconst 0, 1) := by decide +kernel
theorem dX10_passage_15 : decode cX10_passage 15 = .ok (.iconst 1, 1) := by decide +kernel
theorem dX10_passage_16 : decode cX10_passage 16 = .ok (.invokestatic 82, 3) := by decide +kernel
theorem dX10_passage_19 : decode cX10_passage 19 = .ok (.ifCond .ne 6, 3) := by decide +kernel
theorem dX10_passage_22 : decode cX10_passage 22 = .ok (.bipush (-2), 2) := by decide +kernel
theorem dX10_passage_24 : decode cX10_passage 24 = .ok (.ireturn, 1) := by decide +kernel
theorem dX10_passage_25 : decode cX10_passage 25 = .ok (.iload_n 2, 1) := by decide +kernel
theorem dX10_passage_26 : decode cX10_passage 26 = .ok (.iconst (-1), 1) := by decide +kernel
theorem dX10_passage_27 : decode cX10_passage 27 = .ok (.if_icmp .ge 6, 3) := by decide +kernel
theorem dX10_passage_30 : decode cX10_passage 30 = .ok (.bipush (-6), 2) := by decide +kernel
theorem dX10_passage_32 : decode cX10_passage 32 = .ok (.ireturn, 1) := by decide +kernel
theorem dX10_passage_33 : decode cX10_passage 33 = .ok (.aload_n 0, 1) := by decide +kernel
theorem dX10_passage_34 : decode cX10_passage 34 = .ok (.getfield 55, 3) := by decide +kernel
theorem dX10_passage_37 : decode cX10_passage 37 = .ok (.aload_n 0, 1) := by decide +kernel
theorem dX10_passage_38 : decode cX10_passage 38 = .ok (.getfield 26, 3) := by decide +kernel
theorem dX10_passage_41 : decode cX10_passage 41 = .ok (.getfield 189, 3) := by decide +kernel
theorem dX10_passage_44 : decode cX10_passage 44 = .ok (.iload_n 1, 1) := by decide +kernel
theorem dX10_passage_45 : decode cX10_passage 45 = .ok (.aaload, 1) := by decide +kernel
theorem dX10_passage_46 : decode cX10_passage 46 = .ok (.iload_n 2, 1) := by decide +kernel
theorem dX10_passage_47 : decode cX10_passage 47 = .ok (.invokevirtual 254, 3) := by decide +kernel
theorem dX10_passage_50 : decode cX10_passage 50 = .ok (.istore 4, 2) := by decide +kernel
theorem dX10_passage_52 : decode cX10_passage 52 = .ok (.iload_n 2, 1) := by decide +kernel
theorem dX10_passage_53 : decode cX10_passage 53 = .ok (.iconst (-1), 1) := by decide +kernel
theorem dX10_passage_54 : decode cX10_passage 54 = .ok (.if_icmp .ne 11, 3) := by decide +kernel
theorem dX10_passage_57 : decode cX10_passage 57 = .ok (.aload_n 0, 1) := by decide +kernel
theorem dX10_passage_58 : decode cX10_passage 58 = .ok (.getfield 55, 3) := by decide +kernel
theorem dX10_passage_61 : decode cX10_passage 61 = .ok (.getfield 258, 3) := by decide +kernel
theorem dX10_passage_64 : decode cX10_passage 64 = .ok (.ireturn, 1) := by decide +kernel
theorem dX10_passage_65 : decode cX10_passage 65 = .ok (.iload 4, 2) := by decide +kernel
theorem dX10_passage_67 : decode cX10_passage 67 = .ok (.ifCond .ne 6, 3) := by decide +kernel
theorem dX10_passage_70 : decode cX10_passage 70 = .ok (.bipush (-6), 2) := by decide +kernel
theorem dX10_passage_72 : decode cX10_passage 72 = .ok (.ireturn, 1) := by decide +kernel
theorem dX10_passage_73 : decode cX10_passage 73 = .ok (.iload_n 3, 1) := by decide +kernel
theorem dX10_passage_74 : decode cX10_passage 74 = .ok (.ifCond .ne 13, 3) := by decide +kernel
theorem dX10_passage_77 : decode cX10_passage 77 = .ok (.aload_n 0, 1) := by decide +kernel
theorem dX10_passage_78 : decode cX10_passage 78 = .ok (.getfield 55, 3) := by decide +kernel
theorem dX10_passage_81 : decode cX10_passage 81 = .ok (.getfield 261, 3) := by decide +kernel
theorem dX10_passage_84 : decode cX10_passage 84 = .ok (.goto 10, 3) := by decide +kernel
theorem dX10_passage_87 : decode cX10_passage 87 = .ok (.aload_n 0, 1) := by decide +kernel
theorem dX10_passage_88 : decode cX10_passage 88 = .ok (.getfield 55, 3) := by decide +kernel
theorem dX10_passage_91 : decode cX10_passage 91 = .ok (.getfield 264, 3) := by decide +kernel
theorem dX10_passage_94 : decode cX10_passage 94 = .ok (.ireturn, 1) := by decide +kernel
theorem dX10_term_0 : decode cX10_term 0 = .ok (.aload_n 0, 1) := by decide +kernel
theorem dX10_term_1 : decode cX10_term 1 = .ok (.iload_n 1, 1) := by decide +kernel
theorem dX10_term_2 : decode cX10_term 2 = .ok (.iload_n 2, 1) := by decide +kernel
theorem dX10_term_3 : decode cX10_term 3 = .ok (.invokevirtual 234, 3) := by decide +kernel
theorem dX10_term_6 : decode cX10_term 6 = .ok (.istore 4, 2) := by decide +kernel
theorem dX10_term_8 : decode cX10_term 8 = .ok (.iload 4, 2) := by decide +kernel
theorem dX10_term_10 : decode cX10_term 10 = .ok (.ifCond .eq 6, 3) := by decide +kernel
theorem dX10_term_13 : decode cX10_term 13 = .ok (.iload 4, 2) := by decide +kernel
theorem dX10_term_15 : decode cX10_term 15 = .ok (.ireturn, 1) := by decide +kernel
theorem dX10_term_16 : decode cX10_term 16 = .ok (.iload_n 3, 1) := by decide +kernel
theorem dX10_term_17 : decode cX10_term 17 = .ok (.iconst 0, 1) := by decide +kernel
theorem dX10_term_18 : decode cX10_term 18 = .ok (.iconst 1, 1) := by decide +kernel
theorem dX10_term_19 : decode cX10_term 19 = .ok (.invokestatic 82, 3) := by decide +kernel
theorem dX10_term_22 : decode cX10_term 22 = .ok (.ifCond .ne 6, 3) := by decide +kernel
theorem dX10_term_25 : decode cX10_term 25 = .ok (.bipush (-2), 2) := by decide +kernel
theorem dX10_term_27 : decode cX10_term 27 = .ok (.ireturn, 1) := by decide +kernel
theorem dX10_term_28 : decode cX10_term 28 = .ok (.iload_n 2, 1) := by decide +kernel
theorem dX10_term_29 : decode cX10_term 29 = .ok (.aload_n 0, 1) := by decide +kernel
theorem dX10_term_30 : decode cX10_term 30 = .ok (.getfield 26, 3) := by decide +kernel
theorem dX10_term_33 : decode cX10_term 33 = .ok (.getfield 189, 3) := by decide +kernel
theorem dX10_term_36 : decode cX10_term 36 = .ok (.iload_n 1, 1) := by decide +kernel
theorem dX10_term_37 : decode cX10_term 37 = .ok (.aaload, 1) := by decide +kernel
theorem dX10_term_38 : decode cX10_term 38 = .ok (.getfield 193, 3) := by decide +kernel
theorem dX10_term_41 : decode cX10_term 41 = .ok (.if_icmp .ge 6, 3) := by decide +kernel
theorem dX10_term_44 : decode cX10_term 44 = .ok (.bipush (-3), 2) := by decide +kernel
theorem dX10_term_46 : decode cX10_term 46 = .ok (.ireturn, 1) := by decide +kernel
theorem dX10_term_47 : decode cX10_term 47 = .ok (.aload_n 0, 1) := by decide +kernel
theorem dX10_term_48 : decode cX10_term 48 = .ok (.getfield 55, 3) := by decide +kernel
theorem dX10_term_51 : decode cX10_term 51 = .ok (.aload_n 0, 1) := by decide +kernel
theorem dX10_term_52 : decode cX10_term 52 = .ok (.getfield 26, 3) := by decide +kernel
theorem dX10_term_55 : decode cX10_term 55 = .ok (.getfield 189, 3) := by decide +kernel
theorem dX10_term_58 : decode cX10_term 58 = .ok (.iload_n 1, 1) := by decide +kernel
theorem dX10_term_59 : decode cX10_term 59 = .ok (.aaload, 1) := by decide +kernel
theorem dX10_term_60 : decode cX10_term 60 = .ok (.iload_n 2, 1) := by decide +kernel
theorem dX10_term_61 : decode cX10_term 61 = .ok (.invokevirtual 266, 3) := by decide +kernel
theorem dX10_term_64 : decode cX10_term 64 = .ok (.iload_n 3, 1) := by decide +kernel
theorem dX10_term_65 : decode cX10_term 65 = .ok (.ifCond .ne 13, 3) := by decide +kernel
theorem dX10_term_68 : decode cX10_term 68 = .ok (.aload_n 0, 1) := by decide +kernel
theorem dX10_term_69 : decode cX10_term 69 = .ok (.getfield 55, 3) := by decide +kernel
theorem dX10_term_72 : decode cX10_term 72 = .ok (.getfield 270, 3) := by decide +kernel
theorem dX10_term_75 : decode cX10_term 75 = .ok (.goto 10, 3) := by decide +kernel
theorem dX10_term_78 : decode cX10_term 78 = .ok (.aload_n 0, 1) := by decide +kernel
theorem dX10_term_79 : decode cX10_term 79 = .ok (.getfield 55, 3) := by decide +kernel
theorem dX10_term_82 : decode cX10_term 82 = .ok (.getfield 273, 3) := by decide +kernel
theorem dX10_term_85 : decode cX10_term 85 = .ok (.ireturn, 1) := by decide +kernel
theorem dX10_whole_0 : decode cX10_whole 0 = .ok (.aload_n 0, 1) := by decide +kernel
theorem dX10_whole_1 : decode cX10_whole 1 = .ok (.getfield 26, 3) := by decide +kernel
theorem dX10_whole_4 : decode cX10_whole 4 = .ok (.iload_n 1, 1) := by decide +kernel
theorem dX10_whole_5 : decode cX10_whole 5 = .ok (.invokevirtual 186, 3) := by decide +kernel
theorem dX10_whole_8 : decode cX10_whole 8 = .ok (.ifCond .ne 5, 3) := by decide +kernel
theorem dX10_whole_11 : decode cX10_whole 11 = .ok (.iconst (-1), 1) := by decide +kernel
theorem dX10_whole_12 : decode cX10_whole 12 = .ok (.ireturn, 1) := by decide +kernel
theorem dX10_whole_13 : decode cX10_whole 13 = .ok (.iload_n 2, 1) := by decide +kernel
theorem dX10_whole_14 : decode cX10_whole 14 = .ok (.iconst 0, 1) := by decide +kernel
theorem dX10_whole_15 : decode cX10_whole 15 = .ok (.getstatic 276, 3) := by decide +kernel
theorem dX10_whole_18 : decode cX10_whole 18 = .ok (.arraylength, 1) := by decide +kernel
theorem dX10_whole_19 : decode cX10_whole 19 = .ok (.iconst 1, 1) := by decide +kernel
theorem dX10_whole_20 : decode cX10_whole 20 = .ok (.isub, 1) := by decide +kernel
theorem dX10_whole_21 : decode cX10_whole 21 = .ok (.invokestatic 82, 3) := by decide +kernel
theorem dX10_whole_24 : decode cX10_whole 24 = .ok (.ifCond .ne 6, 3) := by decide +kernel
theorem dX10_whole_27 : decode cX10_whole 27 = .ok (.bipush (-2), 2) := by decide +kernel
theorem dX10_whole_29 : decode cX10_whole 29 = .ok (.ireturn, 1) := by decide +kernel
theorem dX10_whole_30 : decode cX10_whole 30 = .ok (.aload_n 0, 1) := by decide +kernel
theorem dX10_whole_31 : decode cX10_whole 31 = .ok (.getfield 55, 3) := by decide +kernel
theorem dX10_whole_34 : decode cX10_whole 34 = .ok (.aload_n 0, 1) := by decide +kernel
theorem dX10_whole_35 : decode cX10_whole 35 = .ok (.getfield 26, 3) := by decide +kernel
theorem dX10_whole_38 : decode cX10_whole 38 = .ok (.getfield 189, 3) := by decide +kernel
theorem dX10_whole_41 : decode cX10_whole 41 = .ok (.iload_n 1, 1) := by decide +kernel
theorem dX10_whole_42 : decode cX10_whole 42 = .ok (.aaload, 1) := by decide +kernel
theorem dX10_whole_43 : decode cX10_whole 43 = .ok (.getstatic 276, 3) := by decide +kernel
theorem dX10_whole_46 : decode cX10_whole 46 = .ok (.iload_n 2, 1) := by decide +kernel
theorem dX10_whole_47 : decode cX10_whole 47 = .ok (.iaload, 1) := by decide +kernel
theorem dX10_whole_48 : decode cX10_whole 48 = .ok (.invokevirtual 279, 3) := by decide +kernel
theorem dX10_whole_51 : decode cX10_whole 51 = .ok (.ireturn, 1) := by decide +kernel
theorem dX10_taken_0 : decode cX10_taken 0 = .ok (.aload_n 0, 1) := by decide +kernel
theorem dX10_taken_1 : decode cX10_taken 1 = .ok (.getfield 26, 3) := by decide +kernel
theorem dX10_taken_4 : decode cX10_taken 4 = .ok (.iload_n 1, 1) := by decide +kernel
theorem dX10_taken_5 : decode cX10_taken 5 = .ok (.invokevirtual 111, 3) := by decide +kernel
theorem dX10_taken_8 : decode cX10_taken 8 = .ok (.ifCond .eq 14, 3) := by decide +kernel
theorem dX10_taken_11 : decode cX10_taken 11 = .ok (.aload_n 0, 1) := by decide +kernel
theorem dX10_taken_12 : decode cX10_taken 12 = .ok (.getfield 46, 3) := by decide +kernel
theorem dX10_taken_15 : decode cX10_taken 15 = .ok (.iload_n 1, 1) := by decide +kernel
theorem dX10_taken_16 : decode cX10_taken 16 = .ok (.invokevirtual 282, 3) := by decide +kernel
theorem dX10_taken_19 : decode cX10_taken 19 = .ok (.goto 4, 3) := by decide +kernel
theorem dX10_taken_22 : decode cX10_taken 22 = .ok (.iconst (-1), 1) := by decide +kernel
theorem dX10_taken_23 : decode cX10_taken 23 = .ok (.ireturn, 1) := by decide +kernel
theorem dX10_brief_0 : decode cX10_brief 0 = .ok (.iload_n 1, 1) := by decide +kernel
theorem dX10_brief_1 : decode cX10_brief 1 = .ok (.iconst 0, 1) := by decide +kernel
theorem dX10_brief_2 : decode cX10_brief 2 = .ok (.iconst 1, 1) := by decide +kernel
theorem dX10_brief_3 : decode cX10_brief 3 = .ok (.invokestatic 82, 3) := by decide +kernel
theorem dX10_brief_6 : decode cX10_brief 6 = .ok (.ifCond .ne 6, 3) := by decide +kernel
theorem dX10_brief_9 : decode cX10_brief 9 = .ok (.bipush (-2), 2) := by decide +kernel
theorem dX10_brief_11 : decode cX10_brief 11 = .ok (.ireturn, 1) := by decide +kernel
theorem dX10_brief_12 : decode cX10_brief 12 = .ok (.aload_n 0, 1) := by decide +kernel
theorem dX10_brief_13 : decode cX10_brief 13 = .ok (.getfield 26, 3) := by decide +kernel
theorem dX10_brief_16 : decode cX10_brief 16 = .ok (.getfield 104, 3) := by decide +kernel
theorem dX10_brief_19 : decode cX10_brief 19 = .ok (.ifCond .ne 6, 3) := by decide +kernel
theorem dX10_brief_22 : decode cX10_brief 22 = .ok (.bipush (-3), 2) := by decide +kernel
theorem dX10_brief_24 : decode cX10_brief 24 = .ok (.ireturn, 1) := by decide +kernel
theorem dX10_brief_25 : decode cX10_brief 25 = .ok (.aload_n 0, 1) := by decide +kernel
theorem dX10_brief_26 : decode cX10_brief 26 = .ok (.getfield 26, 3) := by decide +kernel
theorem dX10_brief_29 : decode cX10_brief 29 = .ok (.invokevirtual 285, 3) := by decide +kernel
theorem dX10_brief_32 : decode cX10_brief 32 = .ok (.istore_n 2, 1) := by decide +kernel
theorem dX10_brief_33 : decode cX10_brief 33 = .ok (.iload_n 1, 1) := by decide +kernel
theorem dX10_brief_34 : decode cX10_brief 34 = .ok (.ifCond .ne 7, 3) := by decide +kernel
theorem dX10_brief_37 : decode cX10_brief 37 = .ok (.iload_n 2, 1) := by decide +kernel
theorem dX10_brief_38 : decode cX10_brief 38 = .ok (.goto 15, 3) := by decide +kernel
theorem dX10_brief_41 : decode cX10_brief 41 = .ok (.aload_n 0, 1) := by decide +kernel
theorem dX10_brief_42 : decode cX10_brief 42 = .ok (.getfield 26, 3) := by decide +kernel
theorem dX10_brief_45 : decode cX10_brief 45 = .ok (.getfield 114, 3) := by decide +kernel
theorem dX10_brief_48 : decode cX10_brief 48 = .ok (.iload_n 2, 1) := by decide +kernel
theorem dX10_brief_49 : decode cX10_brief 49 = .ok (.aaload, 1) := by decide +kernel
theorem dX10_brief_50 : decode cX10_brief 50 = .ok (.invokevirtual 288, 3) := by decide +kernel
theorem dX10_brief_53 : decode cX10_brief 53 = .ok (.ireturn, 1) := by decide +kernel
theorem dX10_caught_0 : decode cX10_caught 0 = .ok (.aload_n 0, 1) := by decide +kernel
theorem dX10_caught_1 : decode cX10_caught 1 = .ok (.getfield 26, 3) := by decide +kernel
theorem dX10_caught_4 : decode cX10_caught 4 = .ok (.iload_n 1, 1) := by decide +kernel
theorem dX10_caught_5 : decode cX10_caught 5 = .ok (.invokevirtual 111, 3) := by decide +kernel
theorem dX10_caught_8 : decode cX10_caught 8 = .ok (.ifCond .eq 14, 3) := by decide +kernel
theorem dX10_caught_11 : decode cX10_caught 11 = .ok (.aload_n 0, 1) := by decide +kernel
theorem dX10_caught_12 : decode cX10_caught 12 = .ok (.getfield 46, 3) := by decide +kernel
theorem dX10_caught_15 : decode cX10_caught 15 = .ok (.iload_n 1, 1) := by decide +kernel
theorem dX10_caught_16 : decode cX10_caught 16 = .ok (.invokevirtual 291, 3) := by decide +kernel
theorem dX10_caught_19 : decode cX10_caught 19 = .ok (.goto 4, 3) := by decide +kernel
theorem dX10_caught_22 : decode cX10_caught 22 = .ok (.iconst (-1), 1) := by decide +kernel
theorem dX10_caught_23 : decode cX10_caught 23 = .ok (.ireturn, 1) := by decide +kernel
theorem dX10_read_0 : decode cX10_read 0 = .ok (.aload_n 0, 1) := by decide +kernel
theorem dX10_read_1 : decode cX10_read 1 = .ok (.iload_n 1, 1) := by decide +kernel
theorem dX10_read_2 : decode cX10_read 2 = .ok (.iload_n 2, 1) := by decide +kernel
theorem dX10_read_3 : decode cX10_read 3 = .ok (.invokevirtual 234, 3) := by decide +kernel
theorem dX10_read_6 : decode cX10_read 6 = .ok (.istore 4, 2) := by decide +kernel
theorem dX10_read_8 : decode cX10_read 8 = .ok (.iload 4, 2) := by decide +kernel
theorem dX10_read_10 : decode cX10_read 10 = .ok (.ifCond .eq 6, 3) := by decide +kernel
theorem dX10_read_13 : decode cX10_read 13 = .ok (.iload 4, 2) := by decide +kernel
theorem dX10_read_15 : decode cX10_read 15 = .ok (.ireturn, 1) := by decide +kernel
theorem dX10_read_16 : decode cX10_read 16 = .ok (.iload_n 3, 1) := by decide +kernel
theorem dX10_read_17 : decode cX10_read 17 = .ok (.iconst 0, 1) := by decide +kernel
theorem dX10_read_18 : decode cX10_read 18 = .ok (.sipush 255, 3) := by decide +kernel
theorem dX10_read_21 : decode cX10_read 21 = .ok (.invokestatic 82, 3) := by decide +kernel
theorem dX10_read_24 : decode cX10_read 24 = .ok (.ifCond .ne 6, 3) := by decide +kernel
theorem dX10_read_27 : decode cX10_read 27 = .ok (.bipush (-2), 2) := by decide +kernel
theorem dX10_read_29 : decode cX10_read 29 = .ok (.ireturn, 1) := by decide +kernel
theorem dX10_read_30 : decode cX10_read 30 = .ok (.aload_n 0, 1) := by decide +kernel
theorem dX10_read_31 : decode cX10_read 31 = .ok (.getfield 64, 3) := by decide +kernel
theorem dX10_read_34 : decode cX10_read 34 = .ok (.iload_n 3, 1) := by decide +kernel
theorem dX10_read_35 : decode cX10_read 35 = .ok (.aload_n 0, 1) := by decide +kernel
theorem dX10_read_36 : decode cX10_read 36 = .ok (.getfield 26, 3) := by decide +kernel
theorem dX10_read_39 : decode cX10_read 39 = .ok (.getfield 189, 3) := by decide +kernel
theorem dX10_read_42 : decode cX10_read 42 = .ok (.iload_n 1, 1) := by decide +kernel
theorem dX10_read_43 : decode cX10_read 43 = .ok (.aaload, 1) := by decide +kernel
theorem dX10_read_44 : decode cX10_read 44 = .ok (.iload_n 2, 1) := by decide +kernel
theorem dX10_read_45 : decode cX10_read 45 = .ok (.invokevirtual 294, 3) := by decide +kernel
theorem dX10_read_48 : decode cX10_read 48 = .ok (.ireturn, 1) := by decide +kernel
theorem dX10_ways_0 : decode cX10_ways 0 = .ok (.aload_n 0, 1) := by decide +kernel
theorem dX10_ways_1 : decode cX10_ways 1 = .ok (.iload_n 1, 1) := by decide +kernel
theorem dX10_ways_2 : decode cX10_ways 2 = .ok (.iload_n 2, 1) := by decide +kernel
theorem dX10_ways_3 : decode cX10_ways 3 = .ok (.invokevirtual 234, 3) := by decide +kernel
theorem dX10_ways_6 : decode cX10_ways 6 = .ok (.istore_n 3, 1) := by decide +kernel
theorem dX10_ways_7 : decode cX10_ways 7 = .ok (.iload_n 3, 1) := by decide +kernel
theorem dX10_ways_8 : decode cX10_ways 8 = .ok (.ifCond .eq 7, 3) := by decide +kernel
theorem dX10_ways_11 : decode cX10_ways 11 = .ok (.iload_n 3, 1) := by decide +kernel
theorem dX10_ways_12 : decode cX10_ways 12 = .ok (.goto 20, 3) := by decide +kernel
theorem dX10_ways_15 : decode cX10_ways 15 = .ok (.aload_n 0, 1) := by decide +kernel
theorem dX10_ways_16 : decode cX10_ways 16 = .ok (.getfield 64, 3) := by decide +kernel
theorem dX10_ways_19 : decode cX10_ways 19 = .ok (.aload_n 0, 1) := by decide +kernel
theorem dX10_ways_20 : decode cX10_ways 20 = .ok (.getfield 26, 3) := by decide +kernel
theorem dX10_ways_23 : decode cX10_ways 23 = .ok (.getfield 189, 3) := by decide +kernel
theorem dX10_ways_26 : decode cX10_ways 26 = .ok (.iload_n 1, 1) := by decide +kernel
theorem dX10_ways_27 : decode cX10_ways 27 = .ok (.aaload, 1) := by decide +kernel
theorem dX10_ways_28 : decode cX10_ways 28 = .ok (.iload_n 2, 1) := by decide +kernel
theorem dX10_ways_29 : decode cX10_ways 29 = .ok (.invokevirtual 298, 3) := by decide +kernel
theorem dX10_ways_32 : decode cX10_ways 32 = .ok (.ireturn, 1) := by decide +kernel
theorem dX10_hangs_0 : decode cX10_hangs 0 = .ok (.iload_n 1, 1) := by decide +kernel
theorem dX10_hangs_1 : decode cX10_hangs 1 = .ok (.invokestatic 101, 3) := by decide +kernel
theorem dX10_hangs_4 : decode cX10_hangs 4 = .ok (.ifCond .eq 12, 3) := by decide +kernel
theorem dX10_hangs_7 : decode cX10_hangs 7 = .ok (.iload_n 2, 1) := by decide +kernel
theorem dX10_hangs_8 : decode cX10_hangs 8 = .ok (.iconst 0, 1) := by decide +kernel
theorem dX10_hangs_9 : decode cX10_hangs 9 = .ok (.iconst 1, 1) := by decide +kernel
theorem dX10_hangs_10 : decode cX10_hangs 10 = .ok (.invokestatic 82, 3) := by decide +kernel
theorem dX10_hangs_13 : decode cX10_hangs 13 = .ok (.ifCond .ne 6, 3) := by decide +kernel
theorem dX10_hangs_16 : decode cX10_hangs 16 = .ok (.bipush (-2), 2) := by decide +kernel
theorem dX10_hangs_18 : decode cX10_hangs 18 = .ok (.ireturn, 1) := by decide +kernel
theorem dX10_hangs_19 : decode cX10_hangs 19 = .ok (.aload_n 0, 1) := by decide +kernel
theorem dX10_hangs_20 : decode cX10_hangs 20 = .ok (.getfield 64, 3) := by decide +kernel
theorem dX10_hangs_23 : decode cX10_hangs 23 = .ok (.iload_n 1, 1) := by decide +kernel
theorem dX10_hangs_24 : decode cX10_hangs 24 = .ok (.invokevirtual 301, 3) := by decide +kernel
theorem dX10_hangs_27 : decode cX10_hangs 27 = .ok (.iload_n 2, 1) := by decide +kernel
theorem dX10_hangs_28 : decode cX10_hangs 28 = .ok (.ifCond .ne 13, 3) := by decide +kernel
theorem dX10_hangs_31 : decode cX10_hangs 31 = .ok (.aload_n 0, 1) := by decide +kernel
theorem dX10_hangs_32 : decode cX10_hangs 32 = .ok (.getfield 64, 3) := by decide +kernel
theorem dX10_hangs_35 : decode cX10_hangs 35 = .ok (.getfield 305, 3) := by decide +kernel
theorem dX10_hangs_38 : decode cX10_hangs 38 = .ok (.goto 10, 3) := by decide +kernel
theorem dX10_hangs_41 : decode cX10_hangs 41 = .ok (.aload_n 0, 1) := by decide +kernel
theorem dX10_hangs_42 : decode cX10_hangs 42 = .ok (.getfield 64, 3) := by decide +kernel
theorem dX10_hangs_45 : decode cX10_hangs 45 = .ok (.getfield 308, 3) := by decide +kernel
theorem dX10_hangs_48 : decode cX10_hangs 48 = .ok (.ireturn, 1) := by decide +kernel
theorem dX10_wish_0 : decode cX10_wish 0 = .ok (.aload_n 0, 1) := by decide +kernel
theorem dX10_wish_1 : decode cX10_wish 1 = .ok (.getfield 26, 3) := by decide +kernel
theorem dX10_wish_4 : decode cX10_wish 4 = .ok (.iload_n 1, 1) := by decide +kernel
theorem dX10_wish_5 : decode cX10_wish 5 = .ok (.invokevirtual 186, 3) := by decide +kernel
theorem dX10_wish_8 : decode cX10_wish 8 = .ok (.ifCond .ne 5, 3) := by decide +kernel
theorem dX10_wish_11 : decode cX10_wish 11 = .ok (.iconst (-1), 1) := by decide +kernel
theorem dX10_wish_12 : decode cX10_wish 12 = .ok (.ireturn, 1) := by decide +kernel
theorem dX10_wish_13 : decode cX10_wish 13 = .ok (.iload_n 2, 1) := by decide +kernel
theorem dX10_wish_14 : decode cX10_wish 14 = .ok (.iconst (-1), 1) := by decide +kernel
theorem dX10_wish_15 : decode cX10_wish 15 = .ok (.bipush 99, 2) := by decide +kernel
theorem dX10_wish_17 : decode cX10_wish 17 = .ok (.invokestatic 82, 3) := by decide +kernel
theorem dX10_wish_20 : decode cX10_wish 20 = .ok (.ifCond .ne 6, 3) := by decide +kernel
theorem dX10_wish_23 : decode cX10_wish 23 = .ok (.bipush (-2), 2) := by decide +kernel
theorem dX10_wish_25 : decode cX10_wish 25 = .ok (.ireturn, 1) := by decide +kernel
theorem dX10_wish_26 : decode cX10_wish 26 = .ok (.aload_n 0, 1) := by decide +kernel
theorem dX10_wish_27 : decode cX10_wish 27 = .ok (.getfield 26, 3) := by decide +kernel
theorem dX10_wish_30 : decode cX10_wish 30 = .ok (.getfield 189, 3) := by decide +kernel
theorem dX10_wish_33 : decode cX10_wish 33 = .ok (.iload_n 1, 1) := by decide +kernel
theorem dX10_wish_34 : decode cX10_wish 34 = .ok (.aaload, 1) := by decide +kernel
theorem dX10_wish_35 : decode cX10_wish 35 = .ok (.astore_n 3, 1) := by decide +kernel
theorem dX10_wish_36 : decode cX10_wish 36 = .ok (.aload_n 3, 1) := by decide +kernel
theorem dX10_wish_37 : decode cX10_wish 37 = .ok (.getfield 207, 3) := by decide +kernel
theorem dX10_wish_40 : decode cX10_wish 40 = .ok (.istore 4, 2) := by decide +kernel
theorem dX10_wish_42 : decode cX10_wish 42 = .ok (.aload_n 3, 1) := by decide +kernel
theorem dX10_wish_43 : decode cX10_wish 43 = .ok (.iload_n 2, 1) := by decide +kernel
theorem dX10_wish_44 : decode cX10_wish 44 = .ok (.iconst (-1), 1) := by decide +kernel
theorem dX10_wish_45 : decode cX10_wish 45 = .ok (.if_icmp .ne 8, 3) := by decide +kernel
theorem dX10_wish_48 : decode cX10_wish 48 = .ok (.bipush (-6), 2) := by decide +kernel
theorem dX10_wish_50 : decode cX10_wish 50 = .ok (.goto 4, 3) := by decide +kernel
theorem dX10_wish_53 : decode cX10_wish 53 = .ok (.iload_n 2, 1) := by decide +kernel
theorem dX10_wish_54 : decode cX10_wish 54 = .ok (.putfield 207, 3) := by decide +kernel
theorem dX10_wish_57 : decode cX10_wish 57 = .ok (.iload 4, 2) := by decide +kernel
theorem dX10_wish_59 : decode cX10_wish 59 = .ok (.ireturn, 1) := by decide +kernel
theorem dX10_mend_0 : decode cX10_mend 0 = .ok (.aload_n 0, 1) := by decide +kernel
theorem dX10_mend_1 : decode cX10_mend 1 = .ok (.getfield 26, 3) := by decide +kernel
theorem dX10_mend_4 : decode cX10_mend 4 = .ok (.iload_n 1, 1) := by decide +kernel
theorem dX10_mend_5 : decode cX10_mend 5 = .ok (.invokevirtual 111, 3) := by decide +kernel
theorem dX10_mend_8 : decode cX10_mend 8 = .ok (.ifCond .ne 5, 3) := by decide +kernel
theorem dX10_mend_11 : decode cX10_mend 11 = .ok (.iconst (-1), 1) := by decide +kernel
theorem dX10_mend_12 : decode cX10_mend 12 = .ok (.ireturn, 1) := by decide +kernel
theorem dX10_mend_13 : decode cX10_mend 13 = .ok (.iload_n 2, 1) := by decide +kernel
theorem dX10_mend_14 : decode cX10_mend 14 = .ok (.invokestatic 101, 3) := by decide +kernel
theorem dX10_mend_17 : decode cX10_mend 17 = .ok (.ifCond .eq 12, 3) := by decide +kernel
theorem dX10_mend_20 : decode cX10_mend 20 = .ok (.iload_n 3, 1) := by decide +kernel
theorem dX10_mend_21 : decode cX10_mend 21 = .ok (.iconst 0, 1) := by decide +kernel
theorem dX10_mend_22 : decode cX10_mend 22 = .ok (.iconst 3, 1) := by decide +kernel
theorem dX10_mend_23 : decode cX10_mend 23 = .ok (.invokestatic 82, 3) := by decide +kernel
theorem dX10_mend_26 : decode cX10_mend 26 = .ok (.ifCond .ne 6, 3) := by decide +kernel
theorem dX10_mend_29 : decode cX10_mend 29 = .ok (.bipush (-2), 2) := by decide +kernel
theorem dX10_mend_31 : decode cX10_mend 31 = .ok (.ireturn, 1) := by decide +kernel
theorem dX10_mend_32 : decode cX10_mend 32 = .ok (.aload_n 0, 1) := by decide +kernel
theorem dX10_mend_33 : decode cX10_mend 33 = .ok (.getfield 71, 3) := by decide +kernel
theorem dX10_mend_36 : decode cX10_mend 36 = .ok (.aload_n 0, 1) := by decide +kernel
theorem dX10_mend_37 : decode cX10_mend 37 = .ok (.getfield 26, 3) := by decide +kernel
theorem dX10_mend_40 : decode cX10_mend 40 = .ok (.getfield 114, 3) := by decide +kernel
theorem dX10_mend_43 : decode cX10_mend 43 = .ok (.iload_n 1, 1) := by decide +kernel
theorem dX10_mend_44 : decode cX10_mend 44 = .ok (.aaload, 1) := by decide +kernel
theorem dX10_mend_45 : decode cX10_mend 45 = .ok (.iload_n 2, 1) := by decide +kernel
theorem dX10_mend_46 : decode cX10_mend 46 = .ok (.invokevirtual 311, 3) := by decide +kernel
theorem dX10_mend_49 : decode cX10_mend 49 = .ok (.aload_n 0, 1) := by decide +kernel
theorem dX10_mend_50 : decode cX10_mend 50 = .ok (.getfield 71, 3) := by decide +kernel
theorem dX10_mend_53 : decode cX10_mend 53 = .ok (.getfield 315, 3) := by decide +kernel
theorem dX10_mend_56 : decode cX10_mend 56 = .ok (.bipush (-6), 2) := by decide +kernel
theorem dX10_mend_58 : decode cX10_mend 58 = .ok (.if_icmp .ne 6, 3) := by decide +kernel
theorem dX10_mend_61 : decode cX10_mend 61 = .ok (.bipush (-5), 2) := by decide +kernel
theorem dX10_mend_63 : decode cX10_mend 63 = .ok (.ireturn, 1) := by decide +kernel
theorem dX10_mend_64 : decode cX10_mend 64 = .ok (.iload_n 3, 1) := by decide +kernel
theorem dX10_mend_65 : decode cX10_mend 65 = .ok (.tableswitch 51 0 2 #[27, 35, 43], 27) := by decide +kernel
theorem dX10_mend_92 : decode cX10_mend 92 = .ok (.aload_n 0, 1) := by decide +kernel
theorem dX10_mend_93 : decode cX10_mend 93 = .ok (.getfield 71, 3) := by decide +kernel
theorem dX10_mend_96 : decode cX10_mend 96 = .ok (.getfield 315, 3) := by decide +kernel
theorem dX10_mend_99 : decode cX10_mend 99 = .ok (.ireturn, 1) := by decide +kernel
theorem dX10_mend_100 : decode cX10_mend 100 = .ok (.aload_n 0, 1) := by decide +kernel
theorem dX10_mend_101 : decode cX10_mend 101 = .ok (.getfield 71, 3) := by decide +kernel
theorem dX10_mend_104 : decode cX10_mend 104 = .ok (.getfield 318, 3) := by decide +kernel
theorem dX10_mend_107 : decode cX10_mend 107 = .ok (.ireturn, 1) := by decide +kernel
theorem dX10_mend_108 : decode cX10_mend 108 = .ok (.aload_n 0, 1) := by decide +kernel
theorem dX10_mend_109 : decode cX10_mend 109 = .ok (.getfield 71, 3) := by decide +kernel
theorem dX10_mend_112 : decode cX10_mend 112 = .ok (.getfield 319, 3) := by decide +kernel
theorem dX10_mend_115 : decode cX10_mend 115 = .ok (.ireturn, 1) := by decide +kernel
theorem dX10_mend_116 : decode cX10_mend 116 = .ok (.aload_n 0, 1) := by decide +kernel
theorem dX10_mend_117 : decode cX10_mend 117 = .ok (.getfield 71, 3) := by decide +kernel
theorem dX10_mend_120 : decode cX10_mend 120 = .ok (.getfield 321, 3) := by decide +kernel
theorem dX10_mend_123 : decode cX10_mend 123 = .ok (.ireturn, 1) := by decide +kernel
theorem dX10_all_0 : decode cX10_all 0 = .ok (.iload_n 1, 1) := by decide +kernel
theorem dX10_all_1 : decode cX10_all 1 = .ok (.invokestatic 101, 3) := by decide +kernel
theorem dX10_all_4 : decode cX10_all 4 = .ok (.ifCond .eq 12, 3) := by decide +kernel
theorem dX10_all_7 : decode cX10_all 7 = .ok (.iload_n 2, 1) := by decide +kernel
theorem dX10_all_8 : decode cX10_all 8 = .ok (.iconst 0, 1) := by decide +kernel
theorem dX10_all_9 : decode cX10_all 9 = .ok (.iconst 1, 1) := by decide +kernel
theorem dX10_all_10 : decode cX10_all 10 = .ok (.invokestatic 82, 3) := by decide +kernel
theorem dX10_all_13 : decode cX10_all 13 = .ok (.ifCond .ne 6, 3) := by decide +kernel
theorem dX10_all_16 : decode cX10_all 16 = .ok (.bipush (-2), 2) := by decide +kernel
theorem dX10_all_18 : decode cX10_all 18 = .ok (.ireturn, 1) := by decide +kernel
theorem dX10_all_19 : decode cX10_all 19 = .ok (.iload_n 2, 1) := by decide +kernel
theorem dX10_all_20 : decode cX10_all 20 = .ok (.ifCond .ne 14, 3) := by decide +kernel
theorem dX10_all_23 : decode cX10_all 23 = .ok (.aload_n 0, 1) := by decide +kernel
theorem dX10_all_24 : decode cX10_all 24 = .ok (.getfield 78, 3) := by decide +kernel
theorem dX10_all_27 : decode cX10_all 27 = .ok (.iload_n 1, 1) := by decide +kernel
theorem dX10_all_28 : decode cX10_all 28 = .ok (.invokevirtual 324, 3) := by decide +kernel
theorem dX10_all_31 : decode cX10_all 31 = .ok (.goto 11, 3) := by decide +kernel
theorem dX10_all_34 : decode cX10_all 34 = .ok (.aload_n 0, 1) := by decide +kernel
theorem dX10_all_35 : decode cX10_all 35 = .ok (.getfield 78, 3) := by decide +kernel
theorem dX10_all_38 : decode cX10_all 38 = .ok (.iload_n 1, 1) := by decide +kernel
theorem dX10_all_39 : decode cX10_all 39 = .ok (.invokevirtual 326, 3) := by decide +kernel
theorem dX10_all_42 : decode cX10_all 42 = .ok (.ireturn, 1) := by decide +kernel
theorem dX10_image_0 : decode cX10_image 0 = .ok (.iload_n 1, 1) := by decide +kernel
theorem dX10_image_1 : decode cX10_image 1 = .ok (.iconst 0, 1) := by decide +kernel
theorem dX10_image_2 : decode cX10_image 2 = .ok (.iconst 1, 1) := by decide +kernel
theorem dX10_image_3 : decode cX10_image 3 = .ok (.invokestatic 82, 3) := by decide +kernel
theorem dX10_image_6 : decode cX10_image 6 = .ok (.ifCond .ne 6, 3) := by decide +kernel
theorem dX10_image_9 : decode cX10_image 9 = .ok (.bipush (-2), 2) := by decide +kernel
theorem dX10_image_11 : decode cX10_image 11 = .ok (.ireturn, 1) := by decide +kernel
theorem dX10_image_12 : decode cX10_image 12 = .ok (.aload_n 0, 1) := by decide +kernel
theorem dX10_image_13 : decode cX10_image 13 = .ok (.getfield 30, 3) := by decide +kernel
theorem dX10_image_16 : decode cX10_image 16 = .ok (.iload_n 1, 1) := by decide +kernel
theorem dX10_image_17 : decode cX10_image 17 = .ok (.aaload, 1) := by decide +kernel
theorem dX10_image_18 : decode cX10_image 18 = .ok (.aload_n 0, 1) := by decide +kernel
theorem dX10_image_19 : decode cX10_image 19 = .ok (.getfield 26, 3) := by decide +kernel
theorem dX10_image_22 : decode cX10_image 22 = .ok (.invokevirtual 329, 3) := by decide +kernel
theorem dX10_image_25 : decode cX10_image 25 = .ok (.aload_n 0, 1) := by decide +kernel
theorem dX10_image_26 : decode cX10_image 26 = .ok (.getfield 34, 3) := by decide +kernel
theorem dX10_image_29 : decode cX10_image 29 = .ok (.iload_n 1, 1) := by decide +kernel
theorem dX10_image_30 : decode cX10_image 30 = .ok (.iconst 1, 1) := by decide +kernel
theorem dX10_image_31 : decode cX10_image 31 = .ok (.bastore, 1) := by decide +kernel
theorem dX10_image_32 : decode cX10_image 32 = .ok (.iconst 1, 1) := by decide +kernel
theorem dX10_image_33 : decode cX10_image 33 = .ok (.ireturn, 1) := by decide +kernel
theorem dX10_restore_0 : decode cX10_restore 0 = .ok (.iload_n 1, 1) := by decide +kernel
theorem dX10_restore_1 : decode cX10_restore 1 = .ok (.iconst 0, 1) := by decide +kernel
theorem dX10_restore_2 : decode cX10_restore 2 = .ok (.iconst 1, 1) := by decide +kernel
theorem dX10_restore_3 : decode cX10_restore 3 = .ok (.invokestatic 82, 3) := by decide +kernel
theorem dX10_restore_6 : decode cX10_restore 6 = .ok (.ifCond .ne 6, 3) := by decide +kernel
theorem dX10_restore_9 : decode cX10_restore 9 = .ok (.bipush (-2), 2) := by decide +kernel
theorem dX10_restore_11 : decode cX10_restore 11 = .ok (.ireturn, 1) := by decide +kernel
theorem dX10_restore_12 : decode cX10_restore 12 = .ok (.aload_n 0, 1) := by decide +kernel
theorem dX10_restore_13 : decode cX10_restore 13 = .ok (.getfield 34, 3) := by decide +kernel
theorem dX10_restore_16 : decode cX10_restore 16 = .ok (.iload_n 1, 1) := by decide +kernel
theorem dX10_restore_17 : decode cX10_restore 17 = .ok (.baload, 1) := by decide +kernel
theorem dX10_restore_18 : decode cX10_restore 18 = .ok (.ifCond .ne 6, 3) := by decide +kernel
theorem dX10_restore_21 : decode cX10_restore 21 = .ok (.bipush (-3), 2) := by decide +kernel
theorem dX10_restore_23 : decode cX10_restore 23 = .ok (.ireturn, 1) := by decide +kernel
theorem dX10_restore_24 : decode cX10_restore 24 = .ok (.aload_n 0, 1) := by decide +kernel
theorem dX10_restore_25 : decode cX10_restore 25 = .ok (.getfield 26, 3) := by decide +kernel
theorem dX10_restore_28 : decode cX10_restore 28 = .ok (.aload_n 0, 1) := by decide +kernel
theorem dX10_restore_29 : decode cX10_restore 29 = .ok (.getfield 30, 3) := by decide +kernel
theorem dX10_restore_32 : decode cX10_restore 32 = .ok (.iload_n 1, 1) := by decide +kernel
theorem dX10_restore_33 : decode cX10_restore 33 = .ok (.aaload, 1) := by decide +kernel
theorem dX10_restore_34 : decode cX10_restore 34 = .ok (.invokevirtual 329, 3) := by decide +kernel
theorem dX10_restore_37 : decode cX10_restore 37 = .ok (.iconst 1, 1) := by decide +kernel
theorem dX10_restore_38 : decode cX10_restore 38 = .ok (.ireturn, 1) := by decide +kernel
theorem dX10_told_0 : decode cX10_told 0 = .ok (.iload_n 1, 1) := by decide +kernel
theorem dX10_told_1 : decode cX10_told 1 = .ok (.tableswitch 87 0 5 #[39, 47, 55, 63, 71, 79], 39) := by decide +kernel
theorem dX10_told_40 : decode cX10_told 40 = .ok (.aload_n 0, 1) := by decide +kernel
theorem dX10_told_41 : decode cX10_told 41 = .ok (.getfield 26, 3) := by decide +kernel
theorem dX10_told_44 : decode cX10_told 44 = .ok (.getfield 104, 3) := by decide +kernel
theorem dX10_told_47 : decode cX10_told 47 = .ok (.ireturn, 1) := by decide +kernel
theorem dX10_told_48 : decode cX10_told 48 = .ok (.aload_n 0, 1) := by decide +kernel
theorem dX10_told_49 : decode cX10_told 49 = .ok (.getfield 26, 3) := by decide +kernel
theorem dX10_told_52 : decode cX10_told 52 = .ok (.getfield 179, 3) := by decide +kernel
theorem dX10_told_55 : decode cX10_told 55 = .ok (.ireturn, 1) := by decide +kernel
theorem dX10_told_56 : decode cX10_told 56 = .ok (.aload_n 0, 1) := by decide +kernel
theorem dX10_told_57 : decode cX10_told 57 = .ok (.getfield 10, 3) := by decide +kernel
theorem dX10_told_60 : decode cX10_told 60 = .ok (.getfield 90, 3) := by decide +kernel
theorem dX10_told_63 : decode cX10_told 63 = .ok (.ireturn, 1) := by decide +kernel
theorem dX10_told_64 : decode cX10_told 64 = .ok (.aload_n 0, 1) := by decide +kernel
theorem dX10_told_65 : decode cX10_told 65 = .ok (.getfield 26, 3) := by decide +kernel
theorem dX10_told_68 : decode cX10_told 68 = .ok (.getfield 210, 3) := by decide +kernel
theorem dX10_told_71 : decode cX10_told 71 = .ok (.ireturn, 1) := by decide +kernel
theorem dX10_told_72 : decode cX10_told 72 = .ok (.aload_n 0, 1) := by decide +kernel
theorem dX10_told_73 : decode cX10_told 73 = .ok (.getfield 26, 3) := by decide +kernel
theorem dX10_told_76 : decode cX10_told 76 = .ok (.getfield 213, 3) := by decide +kernel
theorem dX10_told_79 : decode cX10_told 79 = .ok (.ireturn, 1) := by decide +kernel
theorem dX10_told_80 : decode cX10_told 80 = .ok (.aload_n 0, 1) := by decide +kernel
theorem dX10_told_81 : decode cX10_told 81 = .ok (.getfield 26, 3) := by decide +kernel
theorem dX10_told_84 : decode cX10_told 84 = .ok (.getfield 216, 3) := by decide +kernel
theorem dX10_told_87 : decode cX10_told 87 = .ok (.ireturn, 1) := by decide +kernel
theorem dX10_told_88 : decode cX10_told 88 = .ok (.bipush (-2), 2) := by decide +kernel
theorem dX10_told_90 : decode cX10_told 90 = .ok (.ireturn, 1) := by decide +kernel
theorem dX10_refusedPiece_0 : decode cX10_refusedPiece 0 = .ok (.aload_n 0, 1) := by decide +kernel
theorem dX10_refusedPiece_1 : decode cX10_refusedPiece 1 = .ok (.getfield 26, 3) := by decide +kernel
theorem dX10_refusedPiece_4 : decode cX10_refusedPiece 4 = .ok (.iload_n 1, 1) := by decide +kernel
theorem dX10_refusedPiece_5 : decode cX10_refusedPiece 5 = .ok (.invokevirtual 186, 3) := by decide +kernel
theorem dX10_refusedPiece_8 : decode cX10_refusedPiece 8 = .ok (.ifCond .ne 5, 3) := by decide +kernel
theorem dX10_refusedPiece_11 : decode cX10_refusedPiece 11 = .ok (.iconst (-1), 1) := by decide +kernel
theorem dX10_refusedPiece_12 : decode cX10_refusedPiece 12 = .ok (.ireturn, 1) := by decide +kernel
theorem dX10_refusedPiece_13 : decode cX10_refusedPiece 13 = .ok (.iload_n 2, 1) := by decide +kernel
theorem dX10_refusedPiece_14 : decode cX10_refusedPiece 14 = .ok (.invokestatic 101, 3) := by decide +kernel
theorem dX10_refusedPiece_17 : decode cX10_refusedPiece 17 = .ok (.ifCond .eq 7, 3) := by decide +kernel
theorem dX10_refusedPiece_20 : decode cX10_refusedPiece 20 = .ok (.iconst 0, 1) := by decide +kernel
theorem dX10_refusedPiece_21 : decode cX10_refusedPiece 21 = .ok (.goto 5, 3) := by decide +kernel
theorem dX10_refusedPiece_24 : decode cX10_refusedPiece 24 = .ok (.bipush (-2), 2) := by decide +kernel
theorem dX10_refusedPiece_26 : decode cX10_refusedPiece 26 = .ok (.ireturn, 1) := by decide +kernel
theorem dX10_refusedLaw_0 : decode cX10_refusedLaw 0 = .ok (.aload_n 0, 1) := by decide +kernel
theorem dX10_refusedLaw_1 : decode cX10_refusedLaw 1 = .ok (.getfield 26, 3) := by decide +kernel
theorem dX10_refusedLaw_4 : decode cX10_refusedLaw 4 = .ok (.iload_n 1, 1) := by decide +kernel
theorem dX10_refusedLaw_5 : decode cX10_refusedLaw 5 = .ok (.invokevirtual 111, 3) := by decide +kernel
theorem dX10_refusedLaw_8 : decode cX10_refusedLaw 8 = .ok (.ifCond .eq 12, 3) := by decide +kernel
theorem dX10_refusedLaw_11 : decode cX10_refusedLaw 11 = .ok (.aload_n 0, 1) := by decide +kernel
theorem dX10_refusedLaw_12 : decode cX10_refusedLaw 12 = .ok (.iload_n 2, 1) := by decide +kernel
theorem dX10_refusedLaw_13 : decode cX10_refusedLaw 13 = .ok (.iload_n 3, 1) := by decide +kernel
theorem dX10_refusedLaw_14 : decode cX10_refusedLaw 14 = .ok (.invokevirtual 234, 3) := by decide +kernel
theorem dX10_refusedLaw_17 : decode cX10_refusedLaw 17 = .ok (.goto 4, 3) := by decide +kernel
theorem dX10_refusedLaw_20 : decode cX10_refusedLaw 20 = .ok (.iconst (-1), 1) := by decide +kernel
theorem dX10_refusedLaw_21 : decode cX10_refusedLaw 21 = .ok (.ireturn, 1) := by decide +kernel
theorem dX10_within_0 : decode cX10_within 0 = .ok (.iload_n 0, 1) := by decide +kernel
theorem dX10_within_1 : decode cX10_within 1 = .ok (.iload_n 1, 1) := by decide +kernel
theorem dX10_within_2 : decode cX10_within 2 = .ok (.if_icmp .lt 12, 3) := by decide +kernel
theorem dX10_within_5 : decode cX10_within 5 = .ok (.iload_n 0, 1) := by decide +kernel
theorem dX10_within_6 : decode cX10_within 6 = .ok (.iload_n 2, 1) := by decide +kernel
theorem dX10_within_7 : decode cX10_within 7 = .ok (.if_icmp .gt 7, 3) := by decide +kernel
theorem dX10_within_10 : decode cX10_within 10 = .ok (.iconst 1, 1) := by decide +kernel
theorem dX10_within_11 : decode cX10_within 11 = .ok (.goto 4, 3) := by decide +kernel
theorem dX10_within_14 : decode cX10_within 14 = .ok (.iconst 0, 1) := by decide +kernel
theorem dX10_within_15 : decode cX10_within 15 = .ok (.ireturn, 1) := by decide +kernel
theorem dX10_isDay_0 : decode cX10_isDay 0 = .ok (.iload_n 0, 1) := by decide +kernel
theorem dX10_isDay_1 : decode cX10_isDay 1 = .ok (.iconst 0, 1) := by decide +kernel
theorem dX10_isDay_2 : decode cX10_isDay 2 = .ok (.bipush 99, 2) := by decide +kernel
theorem dX10_isDay_4 : decode cX10_isDay 4 = .ok (.invokestatic 82, 3) := by decide +kernel
theorem dX10_isDay_7 : decode cX10_isDay 7 = .ok (.ireturn, 1) := by decide +kernel
theorem dX10_isMarks_0 : decode cX10_isMarks 0 = .ok (.iload_n 0, 1) := by decide +kernel
theorem dX10_isMarks_1 : decode cX10_isMarks 1 = .ok (.iconst 0, 1) := by decide +kernel
theorem dX10_isMarks_2 : decode cX10_isMarks 2 = .ok (.bipush 31, 2) := by decide +kernel
theorem dX10_isMarks_4 : decode cX10_isMarks 4 = .ok (.invokestatic 82, 3) := by decide +kernel
theorem dX10_isMarks_7 : decode cX10_isMarks 7 = .ok (.ireturn, 1) := by decide +kernel
theorem dJ6_bitCount_0f7a4_0 : decode cJ6_bitCount_0f7a4 0 = .ok (.iload_n 0, 1) := by decide +kernel
theorem dJ6_bitCount_0f7a4_1 : decode cJ6_bitCount_0f7a4 1 = .ok (.iload_n 0, 1) := by decide +kernel
theorem dJ6_bitCount_0f7a4_2 : decode cJ6_bitCount_0f7a4 2 = .ok (.iconst 1, 1) := by decide +kernel
theorem dJ6_bitCount_0f7a4_3 : decode cJ6_bitCount_0f7a4 3 = .ok (.iushr, 1) := by decide +kernel
theorem dJ6_bitCount_0f7a4_4 : decode cJ6_bitCount_0f7a4 4 = .ok (.ldc_w 265, 3) := by decide +kernel
theorem dJ6_bitCount_0f7a4_7 : decode cJ6_bitCount_0f7a4 7 = .ok (.iand, 1) := by decide +kernel
theorem dJ6_bitCount_0f7a4_8 : decode cJ6_bitCount_0f7a4 8 = .ok (.isub, 1) := by decide +kernel
theorem dJ6_bitCount_0f7a4_9 : decode cJ6_bitCount_0f7a4 9 = .ok (.istore_n 0, 1) := by decide +kernel
theorem dJ6_bitCount_0f7a4_10 : decode cJ6_bitCount_0f7a4 10 = .ok (.iload_n 0, 1) := by decide +kernel
theorem dJ6_bitCount_0f7a4_11 : decode cJ6_bitCount_0f7a4 11 = .ok (.ldc_w 266, 3) := by decide +kernel
theorem dJ6_bitCount_0f7a4_14 : decode cJ6_bitCount_0f7a4 14 = .ok (.iand, 1) := by decide +kernel
theorem dJ6_bitCount_0f7a4_15 : decode cJ6_bitCount_0f7a4 15 = .ok (.iload_n 0, 1) := by decide +kernel
theorem dJ6_bitCount_0f7a4_16 : decode cJ6_bitCount_0f7a4 16 = .ok (.iconst 2, 1) := by decide +kernel
theorem dJ6_bitCount_0f7a4_17 : decode cJ6_bitCount_0f7a4 17 = .ok (.iushr, 1) := by decide +kernel
theorem dJ6_bitCount_0f7a4_18 : decode cJ6_bitCount_0f7a4 18 = .ok (.ldc_w 266, 3) := by decide +kernel
theorem dJ6_bitCount_0f7a4_21 : decode cJ6_bitCount_0f7a4 21 = .ok (.iand, 1) := by decide +kernel
theorem dJ6_bitCount_0f7a4_22 : decode cJ6_bitCount_0f7a4 22 = .ok (.iadd, 1) := by decide +kernel
theorem dJ6_bitCount_0f7a4_23 : decode cJ6_bitCount_0f7a4 23 = .ok (.istore_n 0, 1) := by decide +kernel
theorem dJ6_bitCount_0f7a4_24 : decode cJ6_bitCount_0f7a4 24 = .ok (.iload_n 0, 1) := by decide +kernel
theorem dJ6_bitCount_0f7a4_25 : decode cJ6_bitCount_0f7a4 25 = .ok (.iload_n 0, 1) := by decide +kernel
theorem dJ6_bitCount_0f7a4_26 : decode cJ6_bitCount_0f7a4 26 = .ok (.iconst 4, 1) := by decide +kernel
theorem dJ6_bitCount_0f7a4_27 : decode cJ6_bitCount_0f7a4 27 = .ok (.iushr, 1) := by decide +kernel
theorem dJ6_bitCount_0f7a4_28 : decode cJ6_bitCount_0f7a4 28 = .ok (.iadd, 1) := by decide +kernel
theorem dJ6_bitCount_0f7a4_29 : decode cJ6_bitCount_0f7a4 29 = .ok (.ldc_w 267, 3) := by decide +kernel
theorem dJ6_bitCount_0f7a4_32 : decode cJ6_bitCount_0f7a4 32 = .ok (.iand, 1) := by decide +kernel
theorem dJ6_bitCount_0f7a4_33 : decode cJ6_bitCount_0f7a4 33 = .ok (.istore_n 0, 1) := by decide +kernel
theorem dJ6_bitCount_0f7a4_34 : decode cJ6_bitCount_0f7a4 34 = .ok (.iload_n 0, 1) := by decide +kernel
theorem dJ6_bitCount_0f7a4_35 : decode cJ6_bitCount_0f7a4 35 = .ok (.iload_n 0, 1) := by decide +kernel
theorem dJ6_bitCount_0f7a4_36 : decode cJ6_bitCount_0f7a4 36 = .ok (.bipush 8, 2) := by decide +kernel
theorem dJ6_bitCount_0f7a4_38 : decode cJ6_bitCount_0f7a4 38 = .ok (.iushr, 1) := by decide +kernel
theorem dJ6_bitCount_0f7a4_39 : decode cJ6_bitCount_0f7a4 39 = .ok (.iadd, 1) := by decide +kernel
theorem dJ6_bitCount_0f7a4_40 : decode cJ6_bitCount_0f7a4 40 = .ok (.istore_n 0, 1) := by decide +kernel
theorem dJ6_bitCount_0f7a4_41 : decode cJ6_bitCount_0f7a4 41 = .ok (.iload_n 0, 1) := by decide +kernel
theorem dJ6_bitCount_0f7a4_42 : decode cJ6_bitCount_0f7a4 42 = .ok (.iload_n 0, 1) := by decide +kernel
theorem dJ6_bitCount_0f7a4_43 : decode cJ6_bitCount_0f7a4 43 = .ok (.bipush 16, 2) := by decide +kernel
theorem dJ6_bitCount_0f7a4_45 : decode cJ6_bitCount_0f7a4 45 = .ok (.iushr, 1) := by decide +kernel
theorem dJ6_bitCount_0f7a4_46 : decode cJ6_bitCount_0f7a4 46 = .ok (.iadd, 1) := by decide +kernel
theorem dJ6_bitCount_0f7a4_47 : decode cJ6_bitCount_0f7a4 47 = .ok (.istore_n 0, 1) := by decide +kernel
theorem dJ6_bitCount_0f7a4_48 : decode cJ6_bitCount_0f7a4 48 = .ok (.iload_n 0, 1) := by decide +kernel
theorem dJ6_bitCount_0f7a4_49 : decode cJ6_bitCount_0f7a4 49 = .ok (.bipush 63, 2) := by decide +kernel
theorem dJ6_bitCount_0f7a4_51 : decode cJ6_bitCount_0f7a4 51 = .ok (.iand, 1) := by decide +kernel
theorem dJ6_bitCount_0f7a4_52 : decode cJ6_bitCount_0f7a4 52 = .ok (.ireturn, 1) := by decide +kernel
theorem dJ13_bitCount_95d88_0 : decode cJ13_bitCount_95d88 0 = .ok (.lload_n 0, 1) := by decide +kernel
theorem dJ13_bitCount_95d88_1 : decode cJ13_bitCount_95d88 1 = .ok (.lload_n 0, 1) := by decide +kernel
theorem dJ13_bitCount_95d88_2 : decode cJ13_bitCount_95d88 2 = .ok (.iconst 1, 1) := by decide +kernel
theorem dJ13_bitCount_95d88_3 : decode cJ13_bitCount_95d88 3 = .ok (.lushr, 1) := by decide +kernel
theorem dJ13_bitCount_95d88_4 : decode cJ13_bitCount_95d88 4 = .ok (.ldc2_w 314, 3) := by decide +kernel
theorem dJ13_bitCount_95d88_7 : decode cJ13_bitCount_95d88 7 = .ok (.land, 1) := by decide +kernel
theorem dJ13_bitCount_95d88_8 : decode cJ13_bitCount_95d88 8 = .ok (.lsub, 1) := by decide +kernel
theorem dJ13_bitCount_95d88_9 : decode cJ13_bitCount_95d88 9 = .ok (.lstore_n 0, 1) := by decide +kernel
theorem dJ13_bitCount_95d88_10 : decode cJ13_bitCount_95d88 10 = .ok (.lload_n 0, 1) := by decide +kernel
theorem dJ13_bitCount_95d88_11 : decode cJ13_bitCount_95d88 11 = .ok (.ldc2_w 316, 3) := by decide +kernel
theorem dJ13_bitCount_95d88_14 : decode cJ13_bitCount_95d88 14 = .ok (.land, 1) := by decide +kernel
theorem dJ13_bitCount_95d88_15 : decode cJ13_bitCount_95d88 15 = .ok (.lload_n 0, 1) := by decide +kernel
theorem dJ13_bitCount_95d88_16 : decode cJ13_bitCount_95d88 16 = .ok (.iconst 2, 1) := by decide +kernel
theorem dJ13_bitCount_95d88_17 : decode cJ13_bitCount_95d88 17 = .ok (.lushr, 1) := by decide +kernel
theorem dJ13_bitCount_95d88_18 : decode cJ13_bitCount_95d88 18 = .ok (.ldc2_w 316, 3) := by decide +kernel
theorem dJ13_bitCount_95d88_21 : decode cJ13_bitCount_95d88 21 = .ok (.land, 1) := by decide +kernel
theorem dJ13_bitCount_95d88_22 : decode cJ13_bitCount_95d88 22 = .ok (.ladd, 1) := by decide +kernel
theorem dJ13_bitCount_95d88_23 : decode cJ13_bitCount_95d88 23 = .ok (.lstore_n 0, 1) := by decide +kernel
theorem dJ13_bitCount_95d88_24 : decode cJ13_bitCount_95d88 24 = .ok (.lload_n 0, 1) := by decide +kernel
theorem dJ13_bitCount_95d88_25 : decode cJ13_bitCount_95d88 25 = .ok (.lload_n 0, 1) := by decide +kernel
theorem dJ13_bitCount_95d88_26 : decode cJ13_bitCount_95d88 26 = .ok (.iconst 4, 1) := by decide +kernel
theorem dJ13_bitCount_95d88_27 : decode cJ13_bitCount_95d88 27 = .ok (.lushr, 1) := by decide +kernel
theorem dJ13_bitCount_95d88_28 : decode cJ13_bitCount_95d88 28 = .ok (.ladd, 1) := by decide +kernel
theorem dJ13_bitCount_95d88_29 : decode cJ13_bitCount_95d88 29 = .ok (.ldc2_w 318, 3) := by decide +kernel
theorem dJ13_bitCount_95d88_32 : decode cJ13_bitCount_95d88 32 = .ok (.land, 1) := by decide +kernel
theorem dJ13_bitCount_95d88_33 : decode cJ13_bitCount_95d88 33 = .ok (.lstore_n 0, 1) := by decide +kernel
theorem dJ13_bitCount_95d88_34 : decode cJ13_bitCount_95d88 34 = .ok (.lload_n 0, 1) := by decide +kernel
theorem dJ13_bitCount_95d88_35 : decode cJ13_bitCount_95d88 35 = .ok (.lload_n 0, 1) := by decide +kernel
theorem dJ13_bitCount_95d88_36 : decode cJ13_bitCount_95d88 36 = .ok (.bipush 8, 2) := by decide +kernel
theorem dJ13_bitCount_95d88_38 : decode cJ13_bitCount_95d88 38 = .ok (.lushr, 1) := by decide +kernel
theorem dJ13_bitCount_95d88_39 : decode cJ13_bitCount_95d88 39 = .ok (.ladd, 1) := by decide +kernel
theorem dJ13_bitCount_95d88_40 : decode cJ13_bitCount_95d88 40 = .ok (.lstore_n 0, 1) := by decide +kernel
theorem dJ13_bitCount_95d88_41 : decode cJ13_bitCount_95d88 41 = .ok (.lload_n 0, 1) := by decide +kernel
theorem dJ13_bitCount_95d88_42 : decode cJ13_bitCount_95d88 42 = .ok (.lload_n 0, 1) := by decide +kernel
theorem dJ13_bitCount_95d88_43 : decode cJ13_bitCount_95d88 43 = .ok (.bipush 16, 2) := by decide +kernel
theorem dJ13_bitCount_95d88_45 : decode cJ13_bitCount_95d88 45 = .ok (.lushr, 1) := by decide +kernel
theorem dJ13_bitCount_95d88_46 : decode cJ13_bitCount_95d88 46 = .ok (.ladd, 1) := by decide +kernel
theorem dJ13_bitCount_95d88_47 : decode cJ13_bitCount_95d88 47 = .ok (.lstore_n 0, 1) := by decide +kernel
theorem dJ13_bitCount_95d88_48 : decode cJ13_bitCount_95d88 48 = .ok (.lload_n 0, 1) := by decide +kernel
theorem dJ13_bitCount_95d88_49 : decode cJ13_bitCount_95d88 49 = .ok (.lload_n 0, 1) := by decide +kernel
theorem dJ13_bitCount_95d88_50 : decode cJ13_bitCount_95d88 50 = .ok (.bipush 32, 2) := by decide +kernel
theorem dJ13_bitCount_95d88_52 : decode cJ13_bitCount_95d88 52 = .ok (.lushr, 1) := by decide +kernel
theorem dJ13_bitCount_95d88_53 : decode cJ13_bitCount_95d88 53 = .ok (.ladd, 1) := by decide +kernel
theorem dJ13_bitCount_95d88_54 : decode cJ13_bitCount_95d88 54 = .ok (.lstore_n 0, 1) := by decide +kernel
theorem dJ13_bitCount_95d88_55 : decode cJ13_bitCount_95d88 55 = .ok (.lload_n 0, 1) := by decide +kernel
theorem dJ13_bitCount_95d88_56 : decode cJ13_bitCount_95d88 56 = .ok (.l2i, 1) := by decide +kernel
theorem dJ13_bitCount_95d88_57 : decode cJ13_bitCount_95d88 57 = .ok (.bipush 127, 2) := by decide +kernel
theorem dJ13_bitCount_95d88_59 : decode cJ13_bitCount_95d88 59 = .ok (.iand, 1) := by decide +kernel
theorem dJ13_bitCount_95d88_60 : decode cJ13_bitCount_95d88 60 = .ok (.ireturn, 1) := by decide +kernel
theorem dJ9_min_7cf53_0 : decode cJ9_min_7cf53 0 = .ok (.iload_n 0, 1) := by decide +kernel
theorem dJ9_min_7cf53_1 : decode cJ9_min_7cf53 1 = .ok (.iload_n 1, 1) := by decide +kernel
theorem dJ9_min_7cf53_2 : decode cJ9_min_7cf53 2 = .ok (.if_icmp .gt 7, 3) := by decide +kernel
theorem dJ9_min_7cf53_5 : decode cJ9_min_7cf53 5 = .ok (.iload_n 0, 1) := by decide +kernel
theorem dJ9_min_7cf53_6 : decode cJ9_min_7cf53 6 = .ok (.goto 4, 3) := by decide +kernel
theorem dJ9_min_7cf53_9 : decode cJ9_min_7cf53 9 = .ok (.iload_n 1, 1) := by decide +kernel
theorem dJ9_min_7cf53_10 : decode cJ9_min_7cf53 10 = .ok (.ireturn, 1) := by decide +kernel
end
section
theorem dX11_init_0 : decode cX11_init 0 = .ok (.aload_n 0, 1) := by decide +kernel
theorem dX11_init_1 : decode cX11_init 1 = .ok (.invokespecial 1, 3) := by decide +kernel
theorem dX11_init_4 : decode cX11_init 4 = .ok (.aload_n 0, 1) := by decide +kernel
theorem dX11_init_5 : decode cX11_init 5 = .ok (.bipush 60, 2) := by decide +kernel
theorem dX11_init_7 : decode cX11_init 7 = .ok (.newarray .int, 2) := by decide +kernel
theorem dX11_init_9 : decode cX11_init 9 = .ok (.putfield 7, 3) := by decide +kernel
theorem dX11_init_12 : decode cX11_init 12 = .ok (.aload_n 0, 1) := by decide +kernel
theorem dX11_init_13 : decode cX11_init 13 = .ok (.bipush 8, 2) := by decide +kernel
theorem dX11_init_15 : decode cX11_init 15 = .ok (.newarray .int, 2) := by decide +kernel
theorem dX11_init_17 : decode cX11_init 17 = .ok (.putfield 13, 3) := by decide +kernel
theorem dX11_init_20 : decode cX11_init 20 = .ok (.aload_n 0, 1) := by decide +kernel
theorem dX11_init_21 : decode cX11_init 21 = .ok (.bipush 8, 2) := by decide +kernel
theorem dX11_init_23 : decode cX11_init 23 = .ok (.newarray .int, 2) := by decide +kernel
theorem dX11_init_25 : decode cX11_init 25 = .ok (.putfield 16, 3) := by decide +kernel
theorem dX11_init_28 : decode cX11_init 28 = .ok (.aload_n 0, 1) := by decide +kernel
theorem dX11_init_29 : decode cX11_init 29 = .ok (.bipush 8, 2) := by decide +kernel
theorem dX11_init_31 : decode cX11_init 31 = .ok (.newarray .int, 2) := by decide +kernel
theorem dX11_init_33 : decode cX11_init 33 = .ok (.putfield 19, 3) := by decide +kernel
theorem dX11_init_36 : decode cX11_init 36 = .ok (.aload_n 0, 1) := by decide +kernel
theorem dX11_init_37 : decode cX11_init 37 = .ok (.bipush 48, 2) := by decide +kernel
theorem dX11_init_39 : decode cX11_init 39 = .ok (.newarray .int, 2) := by decide +kernel
theorem dX11_init_41 : decode cX11_init 41 = .ok (.putfield 22, 3) := by decide +kernel
theorem dX11_init_44 : decode cX11_init 44 = .ok (.aload_n 0, 1) := by decide +kernel
theorem dX11_init_45 : decode cX11_init 45 = .ok (.bipush 48, 2) := by decide +kernel
theorem dX11_init_47 : decode cX11_init 47 = .ok (.newarray .int, 2) := by decide +kernel
theorem dX11_init_49 : decode cX11_init 49 = .ok (.putfield 25, 3) := by decide +kernel
theorem dX11_init_52 : decode cX11_init 52 = .ok (.aload_n 0, 1) := by decide +kernel
theorem dX11_init_53 : decode cX11_init 53 = .ok (.bipush 8, 2) := by decide +kernel
theorem dX11_init_55 : decode cX11_init 55 = .ok (.newarray .int, 2) := by decide +kernel
theorem dX11_init_57 : decode cX11_init 57 = .ok (.putfield 28, 3) := by decide +kernel
theorem dX11_init_60 : decode cX11_init 60 = .ok (.aload_n 0, 1) := by decide +kernel
theorem dX11_init_61 : decode cX11_init 61 = .ok (.bipush 8, 2) := by decide +kernel
theorem dX11_init_63 : decode cX11_init 63 = .ok (.newarray .int, 2) := by decide +kernel
theorem dX11_init_65 : decode cX11_init 65 = .ok (.putfield 31, 3) := by decide +kernel
theorem dX11_init_68 : decode cX11_init 68 = .ok (.aload_n 0, 1) := by decide +kernel
theorem dX11_init_69 : decode cX11_init 69 = .ok (.bipush 8, 2) := by decide +kernel
theorem dX11_init_71 : decode cX11_init 71 = .ok (.newarray .int, 2) := by decide +kernel
theorem dX11_init_73 : decode cX11_init 73 = .ok (.putfield 34, 3) := by decide +kernel
theorem dX11_init_76 : decode cX11_init 76 = .ok (.aload_n 0, 1) := by decide +kernel
theorem dX11_init_77 : decode cX11_init 77 = .ok (.bipush 8, 2) := by decide +kernel
theorem dX11_init_79 : decode cX11_init 79 = .ok (.newarray .int, 2) := by decide +kernel
theorem dX11_init_81 : decode cX11_init 81 = .ok (.putfield 37, 3) := by decide +kernel
theorem dX11_init_84 : decode cX11_init 84 = .ok (.aload_n 0, 1) := by decide +kernel
theorem dX11_init_85 : decode cX11_init 85 = .ok (.bipush 8, 2) := by decide +kernel
theorem dX11_init_87 : decode cX11_init 87 = .ok (.newarray .int, 2) := by decide +kernel
theorem dX11_init_89 : decode cX11_init 89 = .ok (.putfield 40, 3) := by decide +kernel
theorem dX11_init_92 : decode cX11_init 92 = .ok (.aload_n 0, 1) := by decide +kernel
theorem dX11_init_93 : decode cX11_init 93 = .ok (.bipush 8, 2) := by decide +kernel
theorem dX11_init_95 : decode cX11_init 95 = .ok (.newarray .int, 2) := by decide +kernel
theorem dX11_init_97 : decode cX11_init 97 = .ok (.putfield 43, 3) := by decide +kernel
theorem dX11_init_100 : decode cX11_init 100 = .ok (.aload_n 0, 1) := by decide +kernel
theorem dX11_init_101 : decode cX11_init 101 = .ok (.bipush 8, 2) := by decide +kernel
theorem dX11_init_103 : decode cX11_init 103 = .ok (.newarray .int, 2) := by decide +kernel
theorem dX11_init_105 : decode cX11_init 105 = .ok (.putfield 46, 3) := by decide +kernel
theorem dX11_init_108 : decode cX11_init 108 = .ok (.aload_n 0, 1) := by decide +kernel
theorem dX11_init_109 : decode cX11_init 109 = .ok (.bipush (-6), 2) := by decide +kernel
theorem dX11_init_111 : decode cX11_init 111 = .ok (.putfield 49, 3) := by decide +kernel
theorem dX11_init_114 : decode cX11_init 114 = .ok (.aload_n 0, 1) := by decide +kernel
theorem dX11_init_115 : decode cX11_init 115 = .ok (.bipush 9, 2) := by decide +kernel
theorem dX11_init_117 : decode cX11_init 117 = .ok (.newarray .int, 2) := by decide +kernel
theorem dX11_init_119 : decode cX11_init 119 = .ok (.putfield 53, 3) := by decide +kernel
theorem dX11_init_122 : decode cX11_init 122 = .ok (.aload_n 0, 1) := by decide +kernel
theorem dX11_init_123 : decode cX11_init 123 = .ok (.bipush 9, 2) := by decide +kernel
theorem dX11_init_125 : decode cX11_init 125 = .ok (.newarray .int, 2) := by decide +kernel
theorem dX11_init_127 : decode cX11_init 127 = .ok (.putfield 56, 3) := by decide +kernel
theorem dX11_init_130 : decode cX11_init 130 = .ok (.aload_n 0, 1) := by decide +kernel
theorem dX11_init_131 : decode cX11_init 131 = .ok (.bipush 9, 2) := by decide +kernel
theorem dX11_init_133 : decode cX11_init 133 = .ok (.newarray .int, 2) := by decide +kernel
theorem dX11_init_135 : decode cX11_init 135 = .ok (.putfield 59, 3) := by decide +kernel
theorem dX11_init_138 : decode cX11_init 138 = .ok (.aload_n 0, 1) := by decide +kernel
theorem dX11_init_139 : decode cX11_init 139 = .ok (.bipush 9, 2) := by decide +kernel
theorem dX11_init_141 : decode cX11_init 141 = .ok (.newarray .int, 2) := by decide +kernel
theorem dX11_init_143 : decode cX11_init 143 = .ok (.putfield 62, 3) := by decide +kernel
theorem dX11_init_146 : decode cX11_init 146 = .ok (.aload_n 0, 1) := by decide +kernel
theorem dX11_init_147 : decode cX11_init 147 = .ok (.bipush 9, 2) := by decide +kernel
theorem dX11_init_149 : decode cX11_init 149 = .ok (.newarray .int, 2) := by decide +kernel
theorem dX11_init_151 : decode cX11_init 151 = .ok (.putfield 65, 3) := by decide +kernel
theorem dX11_init_154 : decode cX11_init 154 = .ok (.aload_n 0, 1) := by decide +kernel
theorem dX11_init_155 : decode cX11_init 155 = .ok (.bipush 8, 2) := by decide +kernel
theorem dX11_init_157 : decode cX11_init 157 = .ok (.newarray .int, 2) := by decide +kernel
theorem dX11_init_159 : decode cX11_init 159 = .ok (.putfield 68, 3) := by decide +kernel
theorem dX11_init_162 : decode cX11_init 162 = .ok (.aload_n 0, 1) := by decide +kernel
theorem dX11_init_163 : decode cX11_init 163 = .ok (.bipush 102, 2) := by decide +kernel
theorem dX11_init_165 : decode cX11_init 165 = .ok (.newarray .boolean, 2) := by decide +kernel
theorem dX11_init_167 : decode cX11_init 167 = .ok (.putfield 71, 3) := by decide +kernel
theorem dX11_init_170 : decode cX11_init 170 = .ok (.aload_n 0, 1) := by decide +kernel
theorem dX11_init_171 : decode cX11_init 171 = .ok (.bipush 8, 2) := by decide +kernel
theorem dX11_init_173 : decode cX11_init 173 = .ok (.newarray .int, 2) := by decide +kernel
theorem dX11_init_175 : decode cX11_init 175 = .ok (.putfield 75, 3) := by decide +kernel
theorem dX11_init_178 : decode cX11_init 178 = .ok (.aload_n 0, 1) := by decide +kernel
theorem dX11_init_179 : decode cX11_init 179 = .ok (.sipush 800, 3) := by decide +kernel
theorem dX11_init_182 : decode cX11_init 182 = .ok (.newarray .int, 2) := by decide +kernel
theorem dX11_init_184 : decode cX11_init 184 = .ok (.putfield 78, 3) := by decide +kernel
theorem dX11_init_187 : decode cX11_init 187 = .ok (.aload_n 0, 1) := by decide +kernel
theorem dX11_init_188 : decode cX11_init 188 = .ok (.iconst 2, 1) := by decide +kernel
theorem dX11_init_189 : decode cX11_init 189 = .ok (.newarray .boolean, 2) := by decide +kernel
theorem dX11_init_191 : decode cX11_init 191 = .ok (.putfield 81, 3) := by decide +kernel
theorem dX11_init_194 : decode cX11_init 194 = .ok (.return_, 1) := by decide +kernel
theorem dX11_in_0 : decode cX11_in 0 = .ok (.lload_n 0, 1) := by decide +kernel
theorem dX11_in_1 : decode cX11_in 1 = .ok (.lload_n 2, 1) := by decide +kernel
theorem dX11_in_2 : decode cX11_in 2 = .ok (.lcmp, 1) := by decide +kernel
theorem dX11_in_3 : decode cX11_in 3 = .ok (.ifCond .lt 14, 3) := by decide +kernel
theorem dX11_in_6 : decode cX11_in 6 = .ok (.lload_n 0, 1) := by decide +kernel
theorem dX11_in_7 : decode cX11_in 7 = .ok (.lload 4, 2) := by decide +kernel
theorem dX11_in_9 : decode cX11_in 9 = .ok (.lcmp, 1) := by decide +kernel
theorem dX11_in_10 : decode cX11_in 10 = .ok (.ifCond .gt 7, 3) := by decide +kernel
theorem dX11_in_13 : decode cX11_in 13 = .ok (.iconst 1, 1) := by decide +kernel
theorem dX11_in_14 : decode cX11_in 14 = .ok (.goto 4, 3) := by decide +kernel
theorem dX11_in_17 : decode cX11_in 17 = .ok (.iconst 0, 1) := by decide +kernel
theorem dX11_in_18 : decode cX11_in 18 = .ok (.ireturn, 1) := by decide +kernel
theorem dX11_ones_0 : decode cX11_ones 0 = .ok (.iconst 0, 1) := by decide +kernel
theorem dX11_ones_1 : decode cX11_ones 1 = .ok (.istore_n 1, 1) := by decide +kernel
theorem dX11_ones_2 : decode cX11_ones 2 = .ok (.iconst 0, 1) := by decide +kernel
theorem dX11_ones_3 : decode cX11_ones 3 = .ok (.istore_n 2, 1) := by decide +kernel
theorem dX11_ones_4 : decode cX11_ones 4 = .ok (.iload_n 2, 1) := by decide +kernel
theorem dX11_ones_5 : decode cX11_ones 5 = .ok (.bipush 8, 2) := by decide +kernel
theorem dX11_ones_7 : decode cX11_ones 7 = .ok (.if_icmp .ge 17, 3) := by decide +kernel
theorem dX11_ones_10 : decode cX11_ones 10 = .ok (.iload_n 1, 1) := by decide +kernel
theorem dX11_ones_11 : decode cX11_ones 11 = .ok (.iload_n 0, 1) := by decide +kernel
theorem dX11_ones_12 : decode cX11_ones 12 = .ok (.iload_n 2, 1) := by decide +kernel
theorem dX11_ones_13 : decode cX11_ones 13 = .ok (.ishr, 1) := by decide +kernel
theorem dX11_ones_14 : decode cX11_ones 14 = .ok (.iconst 1, 1) := by decide +kernel
theorem dX11_ones_15 : decode cX11_ones 15 = .ok (.iand, 1) := by decide +kernel
theorem dX11_ones_16 : decode cX11_ones 16 = .ok (.iadd, 1) := by decide +kernel
theorem dX11_ones_17 : decode cX11_ones 17 = .ok (.istore_n 1, 1) := by decide +kernel
theorem dX11_ones_18 : decode cX11_ones 18 = .ok (.iinc 2 1, 3) := by decide +kernel
theorem dX11_ones_21 : decode cX11_ones 21 = .ok (.goto (-17), 3) := by decide +kernel
theorem dX11_ones_24 : decode cX11_ones 24 = .ok (.iload_n 1, 1) := by decide +kernel
theorem dX11_ones_25 : decode cX11_ones 25 = .ok (.ireturn, 1) := by decide +kernel
theorem dX11_isDay_0 : decode cX11_isDay 0 = .ok (.iload_n 0, 1) := by decide +kernel
theorem dX11_isDay_1 : decode cX11_isDay 1 = .ok (.i2l, 1) := by decide +kernel
theorem dX11_isDay_2 : decode cX11_isDay 2 = .ok (.lconst 0, 1) := by decide +kernel
theorem dX11_isDay_3 : decode cX11_isDay 3 = .ok (.ldc2_w 84, 3) := by decide +kernel
theorem dX11_isDay_6 : decode cX11_isDay 6 = .ok (.invokestatic 86, 3) := by decide +kernel
theorem dX11_isDay_9 : decode cX11_isDay 9 = .ok (.ireturn, 1) := by decide +kernel
theorem dX11_say_0 : decode cX11_say 0 = .ok (.iload_n 1, 1) := by decide +kernel
theorem dX11_say_1 : decode cX11_say 1 = .ok (.i2l, 1) := by decide +kernel
theorem dX11_say_2 : decode cX11_say 2 = .ok (.ldc2_w 90, 3) := by decide +kernel
theorem dX11_say_5 : decode cX11_say 5 = .ok (.ldc2_w 92, 3) := by decide +kernel
theorem dX11_say_8 : decode cX11_say 8 = .ok (.invokestatic 86, 3) := by decide +kernel
theorem dX11_say_11 : decode cX11_say 11 = .ok (.ifCond .ne 6, 3) := by decide +kernel
theorem dX11_say_14 : decode cX11_say 14 = .ok (.bipush (-2), 2) := by decide +kernel
theorem dX11_say_16 : decode cX11_say 16 = .ok (.ireturn, 1) := by decide +kernel
theorem dX11_say_17 : decode cX11_say 17 = .ok (.aload_n 0, 1) := by decide +kernel
theorem dX11_say_18 : decode cX11_say 18 = .ok (.getfield 94, 3) := by decide +kernel
theorem dX11_say_21 : decode cX11_say 21 = .ok (.bipush 60, 2) := by decide +kernel
theorem dX11_say_23 : decode cX11_say 23 = .ok (.if_icmp .ne 6, 3) := by decide +kernel
theorem dX11_say_26 : decode cX11_say 26 = .ok (.bipush (-4), 2) := by decide +kernel
theorem dX11_say_28 : decode cX11_say 28 = .ok (.ireturn, 1) := by decide +kernel
theorem dX11_say_29 : decode cX11_say 29 = .ok (.aload_n 0, 1) := by decide +kernel
theorem dX11_say_30 : decode cX11_say 30 = .ok (.getfield 7, 3) := by decide +kernel
theorem dX11_say_33 : decode cX11_say 33 = .ok (.aload_n 0, 1) := by decide +kernel
theorem dX11_say_34 : decode cX11_say 34 = .ok (.getfield 94, 3) := by decide +kernel
theorem dX11_say_37 : decode cX11_say 37 = .ok (.iload_n 1, 1) := by decide +kernel
theorem dX11_say_38 : decode cX11_say 38 = .ok (.iastore, 1) := by decide +kernel
theorem dX11_say_39 : decode cX11_say 39 = .ok (.aload_n 0, 1) := by decide +kernel
theorem dX11_say_40 : decode cX11_say 40 = .ok (.dup, 1) := by decide +kernel
theorem dX11_say_41 : decode cX11_say 41 = .ok (.getfield 94, 3) := by decide +kernel
theorem dX11_say_44 : decode cX11_say 44 = .ok (.iconst 1, 1) := by decide +kernel
theorem dX11_say_45 : decode cX11_say 45 = .ok (.iadd, 1) := by decide +kernel
theorem dX11_say_46 : decode cX11_say 46 = .ok (.putfield 94, 3) := by decide +kernel
theorem dX11_say_49 : decode cX11_say 49 = .ok (.aload_n 0, 1) := by decide +kernel
theorem dX11_say_50 : decode cX11_say 50 = .ok (.getfield 94, 3) := by decide +kernel
theorem dX11_say_53 : decode cX11_say 53 = .ok (.ireturn, 1) := by decide +kernel
theorem dX11_wipe_0 : decode cX11_wipe 0 = .ok (.aload_n 0, 1) := by decide +kernel
theorem dX11_wipe_1 : decode cX11_wipe 1 = .ok (.getfield 94, 3) := by decide +kernel
theorem dX11_wipe_4 : decode cX11_wipe 4 = .ok (.istore_n 1, 1) := by decide +kernel
theorem dX11_wipe_5 : decode cX11_wipe 5 = .ok (.aload_n 0, 1) := by decide +kernel
theorem dX11_wipe_6 : decode cX11_wipe 6 = .ok (.iconst 0, 1) := by decide +kernel
theorem dX11_wipe_7 : decode cX11_wipe 7 = .ok (.putfield 94, 3) := by decide +kernel
theorem dX11_wipe_10 : decode cX11_wipe 10 = .ok (.iload_n 1, 1) := by decide +kernel
theorem dX11_wipe_11 : decode cX11_wipe 11 = .ok (.ireturn, 1) := by decide +kernel
theorem dX11_isDigit_0 : decode cX11_isDigit 0 = .ok (.iload_n 0, 1) := by decide +kernel
theorem dX11_isDigit_1 : decode cX11_isDigit 1 = .ok (.i2l, 1) := by decide +kernel
theorem dX11_isDigit_2 : decode cX11_isDigit 2 = .ok (.ldc2_w 97, 3) := by decide +kernel
theorem dX11_isDigit_5 : decode cX11_isDigit 5 = .ok (.ldc2_w 99, 3) := by decide +kernel
theorem dX11_isDigit_8 : decode cX11_isDigit 8 = .ok (.invokestatic 86, 3) := by decide +kernel
theorem dX11_isDigit_11 : decode cX11_isDigit 11 = .ok (.ireturn, 1) := by decide +kernel
theorem dX11_isTime_0 : decode cX11_isTime 0 = .ok (.iload_n 0, 1) := by decide +kernel
theorem dX11_isTime_1 : decode cX11_isTime 1 = .ok (.bipush 110, 2) := by decide +kernel
theorem dX11_isTime_3 : decode cX11_isTime 3 = .ok (.if_icmp .eq 15, 3) := by decide +kernel
theorem dX11_isTime_6 : decode cX11_isTime 6 = .ok (.iload_n 0, 1) := by decide +kernel
theorem dX11_isTime_7 : decode cX11_isTime 7 = .ok (.bipush 104, 2) := by decide +kernel
theorem dX11_isTime_9 : decode cX11_isTime 9 = .ok (.if_icmp .eq 9, 3) := by decide +kernel
theorem dX11_isTime_12 : decode cX11_isTime 12 = .ok (.iload_n 0, 1) := by decide +kernel
theorem dX11_isTime_13 : decode cX11_isTime 13 = .ok (.bipush 97, 2) := by decide +kernel
theorem dX11_isTime_15 : decode cX11_isTime 15 = .ok (.if_icmp .ne 7, 3) := by decide +kernel
theorem dX11_isTime_18 : decode cX11_isTime 18 = .ok (.iconst 1, 1) := by decide +kernel
theorem dX11_isTime_19 : decode cX11_isTime 19 = .ok (.goto 4, 3) := by decide +kernel
theorem dX11_isTime_22 : decode cX11_isTime 22 = .ok (.iconst 0, 1) := by decide +kernel
theorem dX11_isTime_23 : decode cX11_isTime 23 = .ok (.ireturn, 1) := by decide +kernel
theorem dX11_isWay_0 : decode cX11_isWay 0 = .ok (.iload_n 0, 1) := by decide +kernel
theorem dX11_isWay_1 : decode cX11_isWay 1 = .ok (.bipush 99, 2) := by decide +kernel
theorem dX11_isWay_3 : decode cX11_isWay 3 = .ok (.if_icmp .eq 15, 3) := by decide +kernel
theorem dX11_isWay_6 : decode cX11_isWay 6 = .ok (.iload_n 0, 1) := by decide +kernel
theorem dX11_isWay_7 : decode cX11_isWay 7 = .ok (.bipush 98, 2) := by decide +kernel
theorem dX11_isWay_9 : decode cX11_isWay 9 = .ok (.if_icmp .eq 9, 3) := by decide +kernel
theorem dX11_isWay_12 : decode cX11_isWay 12 = .ok (.iload_n 0, 1) := by decide +kernel
theorem dX11_isWay_13 : decode cX11_isWay 13 = .ok (.bipush 108, 2) := by decide +kernel
theorem dX11_isWay_15 : decode cX11_isWay 15 = .ok (.if_icmp .ne 7, 3) := by decide +kernel
theorem dX11_isWay_18 : decode cX11_isWay 18 = .ok (.iconst 1, 1) := by decide +kernel
theorem dX11_isWay_19 : decode cX11_isWay 19 = .ok (.goto 4, 3) := by decide +kernel
theorem dX11_isWay_22 : decode cX11_isWay 22 = .ok (.iconst 0, 1) := by decide +kernel
theorem dX11_isWay_23 : decode cX11_isWay 23 = .ok (.ireturn, 1) := by decide +kernel
theorem dX11_beginText_0 : decode cX11_beginText 0 = .ok (.aload_n 0, 1) := by decide +kernel
theorem dX11_beginText_1 : decode cX11_beginText 1 = .ok (.iconst 1, 1) := by decide +kernel
theorem dX11_beginText_2 : decode cX11_beginText 2 = .ok (.putfield 101, 3) := by decide +kernel
theorem dX11_beginText_5 : decode cX11_beginText 5 = .ok (.aload_n 0, 1) := by decide +kernel
theorem dX11_beginText_6 : decode cX11_beginText 6 = .ok (.iconst (-1), 1) := by decide +kernel
theorem dX11_beginText_7 : decode cX11_beginText 7 = .ok (.putfield 104, 3) := by decide +kernel
theorem dX11_beginText_10 : decode cX11_beginText 10 = .ok (.aload_n 0, 1) := by decide +kernel
theorem dX11_beginText_11 : decode cX11_beginText 11 = .ok (.iconst 0, 1) := by decide +kernel
theorem dX11_beginText_12 : decode cX11_beginText 12 = .ok (.putfield 107, 3) := by decide +kernel
theorem dX11_beginText_15 : decode cX11_beginText 15 = .ok (.return_, 1) := by decide +kernel
theorem dX11_behindGift_0 : decode cX11_behindGift 0 = .ok (.iload_n 1, 1) := by decide +kernel
theorem dX11_behindGift_1 : decode cX11_behindGift 1 = .ok (.bipush 124, 2) := by decide +kernel
theorem dX11_behindGift_3 : decode cX11_behindGift 3 = .ok (.if_icmp .ne 29, 3) := by decide +kernel
theorem dX11_behindGift_6 : decode cX11_behindGift 6 = .ok (.aload_n 0, 1) := by decide +kernel
theorem dX11_behindGift_7 : decode cX11_behindGift 7 = .ok (.getfield 101, 3) := by decide +kernel
theorem dX11_behindGift_10 : decode cX11_behindGift 10 = .ok (.bipush 6, 2) := by decide +kernel
theorem dX11_behindGift_12 : decode cX11_behindGift 12 = .ok (.if_icmp .ge 20, 3) := by decide +kernel
theorem dX11_behindGift_15 : decode cX11_behindGift 15 = .ok (.aload_n 0, 1) := by decide +kernel
theorem dX11_behindGift_16 : decode cX11_behindGift 16 = .ok (.dup, 1) := by decide +kernel
theorem dX11_behindGift_17 : decode cX11_behindGift 17 = .ok (.getfield 101, 3) := by decide +kernel
theorem dX11_behindGift_20 : decode cX11_behindGift 20 = .ok (.iconst 1, 1) := by decide +kernel
theorem dX11_behindGift_21 : decode cX11_behindGift 21 = .ok (.iadd, 1) := by decide +kernel
theorem dX11_behindGift_22 : decode cX11_behindGift 22 = .ok (.putfield 101, 3) := by decide +kernel
theorem dX11_behindGift_25 : decode cX11_behindGift 25 = .ok (.aload_n 0, 1) := by decide +kernel
theorem dX11_behindGift_26 : decode cX11_behindGift 26 = .ok (.iconst (-1), 1) := by decide +kernel
theorem dX11_behindGift_27 : decode cX11_behindGift 27 = .ok (.putfield 104, 3) := by decide +kernel
theorem dX11_behindGift_30 : decode cX11_behindGift 30 = .ok (.iconst 0, 1) := by decide +kernel
theorem dX11_behindGift_31 : decode cX11_behindGift 31 = .ok (.ireturn, 1) := by decide +kernel
theorem dX11_behindGift_32 : decode cX11_behindGift 32 = .ok (.iload_n 1, 1) := by decide +kernel
theorem dX11_behindGift_33 : decode cX11_behindGift 33 = .ok (.bipush 47, 2) := by decide +kernel
theorem dX11_behindGift_35 : decode cX11_behindGift 35 = .ok (.if_icmp .ne 8, 3) := by decide +kernel
theorem dX11_behindGift_38 : decode cX11_behindGift 38 = .ok (.bipush 8, 2) := by decide +kernel
theorem dX11_behindGift_40 : decode cX11_behindGift 40 = .ok (.goto 4, 3) := by decide +kernel
theorem dX11_behindGift_43 : decode cX11_behindGift 43 = .ok (.iconst (-1), 1) := by decide +kernel
theorem dX11_behindGift_44 : decode cX11_behindGift 44 = .ok (.ireturn, 1) := by decide +kernel
theorem dX11_beginWord_0 : decode cX11_beginWord 0 = .ok (.iload_n 1, 1) := by decide +kernel
theorem dX11_beginWord_1 : decode cX11_beginWord 1 = .ok (.invokestatic 110, 3) := by decide +kernel
theorem dX11_beginWord_4 : decode cX11_beginWord 4 = .ok (.ifCond .eq 24, 3) := by decide +kernel
theorem dX11_beginWord_7 : decode cX11_beginWord 7 = .ok (.aload_n 0, 1) := by decide +kernel
theorem dX11_beginWord_8 : decode cX11_beginWord 8 = .ok (.getfield 107, 3) := by decide +kernel
theorem dX11_beginWord_11 : decode cX11_beginWord 11 = .ok (.iconst 1, 1) := by decide +kernel
theorem dX11_beginWord_12 : decode cX11_beginWord 12 = .ok (.if_icmp .ge 16, 3) := by decide +kernel
theorem dX11_beginWord_15 : decode cX11_beginWord 15 = .ok (.aload_n 0, 1) := by decide +kernel
theorem dX11_beginWord_16 : decode cX11_beginWord 16 = .ok (.iconst 1, 1) := by decide +kernel
theorem dX11_beginWord_17 : decode cX11_beginWord 17 = .ok (.putfield 107, 3) := by decide +kernel
theorem dX11_beginWord_20 : decode cX11_beginWord 20 = .ok (.aload_n 0, 1) := by decide +kernel
theorem dX11_beginWord_21 : decode cX11_beginWord 21 = .ok (.iload_n 1, 1) := by decide +kernel
theorem dX11_beginWord_22 : decode cX11_beginWord 22 = .ok (.putfield 114, 3) := by decide +kernel
theorem dX11_beginWord_25 : decode cX11_beginWord 25 = .ok (.bipush 9, 2) := by decide +kernel
theorem dX11_beginWord_27 : decode cX11_beginWord 27 = .ok (.ireturn, 1) := by decide +kernel
theorem dX11_beginWord_28 : decode cX11_beginWord 28 = .ok (.iload_n 1, 1) := by decide +kernel
theorem dX11_beginWord_29 : decode cX11_beginWord 29 = .ok (.bipush 119, 2) := by decide +kernel
theorem dX11_beginWord_31 : decode cX11_beginWord 31 = .ok (.if_icmp .ne 19, 3) := by decide +kernel
theorem dX11_beginWord_34 : decode cX11_beginWord 34 = .ok (.aload_n 0, 1) := by decide +kernel
theorem dX11_beginWord_35 : decode cX11_beginWord 35 = .ok (.getfield 107, 3) := by decide +kernel
theorem dX11_beginWord_38 : decode cX11_beginWord 38 = .ok (.iconst 2, 1) := by decide +kernel
theorem dX11_beginWord_39 : decode cX11_beginWord 39 = .ok (.if_icmp .ge 11, 3) := by decide +kernel
theorem dX11_beginWord_42 : decode cX11_beginWord 42 = .ok (.aload_n 0, 1) := by decide +kernel
theorem dX11_beginWord_43 : decode cX11_beginWord 43 = .ok (.iconst 2, 1) := by decide +kernel
theorem dX11_beginWord_44 : decode cX11_beginWord 44 = .ok (.putfield 107, 3) := by decide +kernel
theorem dX11_beginWord_47 : decode cX11_beginWord 47 = .ok (.bipush 12, 2) := by decide +kernel
theorem dX11_beginWord_49 : decode cX11_beginWord 49 = .ok (.ireturn, 1) := by decide +kernel
theorem dX11_beginWord_50 : decode cX11_beginWord 50 = .ok (.iload_n 1, 1) := by decide +kernel
theorem dX11_beginWord_51 : decode cX11_beginWord 51 = .ok (.bipush 116, 2) := by decide +kernel
theorem dX11_beginWord_53 : decode cX11_beginWord 53 = .ok (.if_icmp .ne 19, 3) := by decide +kernel
theorem dX11_beginWord_56 : decode cX11_beginWord 56 = .ok (.aload_n 0, 1) := by decide +kernel
theorem dX11_beginWord_57 : decode cX11_beginWord 57 = .ok (.getfield 107, 3) := by decide +kernel
theorem dX11_beginWord_60 : decode cX11_beginWord 60 = .ok (.iconst 3, 1) := by decide +kernel
theorem dX11_beginWord_61 : decode cX11_beginWord 61 = .ok (.if_icmp .ge 11, 3) := by decide +kernel
theorem dX11_beginWord_64 : decode cX11_beginWord 64 = .ok (.aload_n 0, 1) := by decide +kernel
theorem dX11_beginWord_65 : decode cX11_beginWord 65 = .ok (.iconst 3, 1) := by decide +kernel
theorem dX11_beginWord_66 : decode cX11_beginWord 66 = .ok (.putfield 107, 3) := by decide +kernel
theorem dX11_beginWord_69 : decode cX11_beginWord 69 = .ok (.bipush 13, 2) := by decide +kernel
theorem dX11_beginWord_71 : decode cX11_beginWord 71 = .ok (.ireturn, 1) := by decide +kernel
theorem dX11_beginWord_72 : decode cX11_beginWord 72 = .ok (.iload_n 1, 1) := by decide +kernel
theorem dX11_beginWord_73 : decode cX11_beginWord 73 = .ok (.bipush 117, 2) := by decide +kernel
theorem dX11_beginWord_75 : decode cX11_beginWord 75 = .ok (.if_icmp .ne 11, 3) := by decide +kernel
theorem dX11_beginWord_78 : decode cX11_beginWord 78 = .ok (.aload_n 0, 1) := by decide +kernel
theorem dX11_beginWord_79 : decode cX11_beginWord 79 = .ok (.iconst 3, 1) := by decide +kernel
theorem dX11_beginWord_80 : decode cX11_beginWord 80 = .ok (.putfield 107, 3) := by decide +kernel
theorem dX11_beginWord_83 : decode cX11_beginWord 83 = .ok (.bipush 18, 2) := by decide +kernel
theorem dX11_beginWord_85 : decode cX11_beginWord 85 = .ok (.ireturn, 1) := by decide +kernel
theorem dX11_beginWord_86 : decode cX11_beginWord 86 = .ok (.iconst (-1), 1) := by decide +kernel
theorem dX11_beginWord_87 : decode cX11_beginWord 87 = .ok (.ireturn, 1) := by decide +kernel
theorem dX11_stepOf_0 : decode cX11_stepOf 0 = .ok (.iload_n 1, 1) := by decide +kernel
theorem dX11_stepOf_1 : decode cX11_stepOf 1 = .ok (.tableswitch 202 0 8 #[51, 51, 117, 129, 153, 170, 176, 202, 196], 51) := by decide +kernel
theorem dX11_stepOf_52 : decode cX11_stepOf 52 = .ok (.iload_n 2, 1) := by decide +kernel
theorem dX11_stepOf_53 : decode cX11_stepOf 53 = .ok (.i2l, 1) := by decide +kernel
theorem dX11_stepOf_54 : decode cX11_stepOf 54 = .ok (.ldc2_w 117, 3) := by decide +kernel
theorem dX11_stepOf_57 : decode cX11_stepOf 57 = .ok (.ldc2_w 119, 3) := by decide +kernel
theorem dX11_stepOf_60 : decode cX11_stepOf 60 = .ok (.invokestatic 86, 3) := by decide +kernel
theorem dX11_stepOf_63 : decode cX11_stepOf 63 = .ok (.ifCond .eq 24, 3) := by decide +kernel
theorem dX11_stepOf_66 : decode cX11_stepOf 66 = .ok (.iload_n 2, 1) := by decide +kernel
theorem dX11_stepOf_67 : decode cX11_stepOf 67 = .ok (.bipush 97, 2) := by decide +kernel
theorem dX11_stepOf_69 : decode cX11_stepOf 69 = .ok (.isub, 1) := by decide +kernel
theorem dX11_stepOf_70 : decode cX11_stepOf 70 = .ok (.aload_n 0, 1) := by decide +kernel
theorem dX11_stepOf_71 : decode cX11_stepOf 71 = .ok (.getfield 104, 3) := by decide +kernel
theorem dX11_stepOf_74 : decode cX11_stepOf 74 = .ok (.if_icmp .le 13, 3) := by decide +kernel
theorem dX11_stepOf_77 : decode cX11_stepOf 77 = .ok (.aload_n 0, 1) := by decide +kernel
theorem dX11_stepOf_78 : decode cX11_stepOf 78 = .ok (.iload_n 2, 1) := by decide +kernel
theorem dX11_stepOf_79 : decode cX11_stepOf 79 = .ok (.bipush 97, 2) := by decide +kernel
theorem dX11_stepOf_81 : decode cX11_stepOf 81 = .ok (.isub, 1) := by decide +kernel
theorem dX11_stepOf_82 : decode cX11_stepOf 82 = .ok (.putfield 104, 3) := by decide +kernel
theorem dX11_stepOf_85 : decode cX11_stepOf 85 = .ok (.iconst 1, 1) := by decide +kernel
theorem dX11_stepOf_86 : decode cX11_stepOf 86 = .ok (.ireturn, 1) := by decide +kernel
theorem dX11_stepOf_87 : decode cX11_stepOf 87 = .ok (.iload_n 1, 1) := by decide +kernel
theorem dX11_stepOf_88 : decode cX11_stepOf 88 = .ok (.ifCond .ne 13, 3) := by decide +kernel
theorem dX11_stepOf_91 : decode cX11_stepOf 91 = .ok (.iload_n 2, 1) := by decide +kernel
theorem dX11_stepOf_92 : decode cX11_stepOf 92 = .ok (.bipush 42, 2) := by decide +kernel
theorem dX11_stepOf_94 : decode cX11_stepOf 94 = .ok (.if_icmp .ne 7, 3) := by decide +kernel
theorem dX11_stepOf_97 : decode cX11_stepOf 97 = .ok (.iconst 2, 1) := by decide +kernel
theorem dX11_stepOf_98 : decode cX11_stepOf 98 = .ok (.goto 19, 3) := by decide +kernel
theorem dX11_stepOf_101 : decode cX11_stepOf 101 = .ok (.iload_n 1, 1) := by decide +kernel
theorem dX11_stepOf_102 : decode cX11_stepOf 102 = .ok (.iconst 1, 1) := by decide +kernel
theorem dX11_stepOf_103 : decode cX11_stepOf 103 = .ok (.if_icmp .ne 13, 3) := by decide +kernel
theorem dX11_stepOf_106 : decode cX11_stepOf 106 = .ok (.iload_n 2, 1) := by decide +kernel
theorem dX11_stepOf_107 : decode cX11_stepOf 107 = .ok (.bipush 58, 2) := by decide +kernel
theorem dX11_stepOf_109 : decode cX11_stepOf 109 = .ok (.if_icmp .ne 7, 3) := by decide +kernel
theorem dX11_stepOf_112 : decode cX11_stepOf 112 = .ok (.iconst 3, 1) := by decide +kernel
theorem dX11_stepOf_113 : decode cX11_stepOf 113 = .ok (.goto 4, 3) := by decide +kernel
theorem dX11_stepOf_116 : decode cX11_stepOf 116 = .ok (.iconst (-1), 1) := by decide +kernel
theorem dX11_stepOf_117 : decode cX11_stepOf 117 = .ok (.ireturn, 1) := by decide +kernel
theorem dX11_stepOf_118 : decode cX11_stepOf 118 = .ok (.iload_n 2, 1) := by decide +kernel
theorem dX11_stepOf_119 : decode cX11_stepOf 119 = .ok (.bipush 58, 2) := by decide +kernel
theorem dX11_stepOf_121 : decode cX11_stepOf 121 = .ok (.if_icmp .ne 7, 3) := by decide +kernel
theorem dX11_stepOf_124 : decode cX11_stepOf 124 = .ok (.iconst 3, 1) := by decide +kernel
theorem dX11_stepOf_125 : decode cX11_stepOf 125 = .ok (.goto 4, 3) := by decide +kernel
theorem dX11_stepOf_128 : decode cX11_stepOf 128 = .ok (.iconst (-1), 1) := by decide +kernel
theorem dX11_stepOf_129 : decode cX11_stepOf 129 = .ok (.ireturn, 1) := by decide +kernel
theorem dX11_stepOf_130 : decode cX11_stepOf 130 = .ok (.iload_n 2, 1) := by decide +kernel
theorem dX11_stepOf_131 : decode cX11_stepOf 131 = .ok (.invokestatic 121, 3) := by decide +kernel
theorem dX11_stepOf_134 : decode cX11_stepOf 134 = .ok (.ifCond .eq 7, 3) := by decide +kernel
theorem dX11_stepOf_137 : decode cX11_stepOf 137 = .ok (.iconst 4, 1) := by decide +kernel
theorem dX11_stepOf_138 : decode cX11_stepOf 138 = .ok (.goto 15, 3) := by decide +kernel
theorem dX11_stepOf_141 : decode cX11_stepOf 141 = .ok (.iload_n 2, 1) := by decide +kernel
theorem dX11_stepOf_142 : decode cX11_stepOf 142 = .ok (.bipush 64, 2) := by decide +kernel
theorem dX11_stepOf_144 : decode cX11_stepOf 144 = .ok (.if_icmp .ne 8, 3) := by decide +kernel
theorem dX11_stepOf_147 : decode cX11_stepOf 147 = .ok (.bipush 6, 2) := by decide +kernel
theorem dX11_stepOf_149 : decode cX11_stepOf 149 = .ok (.goto 4, 3) := by decide +kernel
theorem dX11_stepOf_152 : decode cX11_stepOf 152 = .ok (.iconst (-1), 1) := by decide +kernel
theorem dX11_stepOf_153 : decode cX11_stepOf 153 = .ok (.ireturn, 1) := by decide +kernel
theorem dX11_stepOf_154 : decode cX11_stepOf 154 = .ok (.iload_n 2, 1) := by decide +kernel
theorem dX11_stepOf_155 : decode cX11_stepOf 155 = .ok (.invokestatic 121, 3) := by decide +kernel
theorem dX11_stepOf_158 : decode cX11_stepOf 158 = .ok (.ifCond .eq 7, 3) := by decide +kernel
theorem dX11_stepOf_161 : decode cX11_stepOf 161 = .ok (.iconst 5, 1) := by decide +kernel
theorem dX11_stepOf_162 : decode cX11_stepOf 162 = .ok (.goto 8, 3) := by decide +kernel
theorem dX11_stepOf_165 : decode cX11_stepOf 165 = .ok (.aload_n 0, 1) := by decide +kernel
theorem dX11_stepOf_166 : decode cX11_stepOf 166 = .ok (.iload_n 2, 1) := by decide +kernel
theorem dX11_stepOf_167 : decode cX11_stepOf 167 = .ok (.invokevirtual 124, 3) := by decide +kernel
theorem dX11_stepOf_170 : decode cX11_stepOf 170 = .ok (.ireturn, 1) := by decide +kernel
theorem dX11_stepOf_171 : decode cX11_stepOf 171 = .ok (.aload_n 0, 1) := by decide +kernel
theorem dX11_stepOf_172 : decode cX11_stepOf 172 = .ok (.iload_n 2, 1) := by decide +kernel
theorem dX11_stepOf_173 : decode cX11_stepOf 173 = .ok (.invokevirtual 124, 3) := by decide +kernel
theorem dX11_stepOf_176 : decode cX11_stepOf 176 = .ok (.ireturn, 1) := by decide +kernel
theorem dX11_stepOf_177 : decode cX11_stepOf 177 = .ok (.iload_n 2, 1) := by decide +kernel
theorem dX11_stepOf_178 : decode cX11_stepOf 178 = .ok (.i2l, 1) := by decide +kernel
theorem dX11_stepOf_179 : decode cX11_stepOf 179 = .ok (.ldc2_w 97, 3) := by decide +kernel
theorem dX11_stepOf_182 : decode cX11_stepOf 182 = .ok (.ldc2_w 128, 3) := by decide +kernel
theorem dX11_stepOf_185 : decode cX11_stepOf 185 = .ok (.invokestatic 86, 3) := by decide +kernel
theorem dX11_stepOf_188 : decode cX11_stepOf 188 = .ok (.ifCond .eq 7, 3) := by decide +kernel
theorem dX11_stepOf_191 : decode cX11_stepOf 191 = .ok (.iconst 5, 1) := by decide +kernel
theorem dX11_stepOf_192 : decode cX11_stepOf 192 = .ok (.goto 4, 3) := by decide +kernel
theorem dX11_stepOf_195 : decode cX11_stepOf 195 = .ok (.iconst (-1), 1) := by decide +kernel
theorem dX11_stepOf_196 : decode cX11_stepOf 196 = .ok (.ireturn, 1) := by decide +kernel
theorem dX11_stepOf_197 : decode cX11_stepOf 197 = .ok (.aload_n 0, 1) := by decide +kernel
theorem dX11_stepOf_198 : decode cX11_stepOf 198 = .ok (.iload_n 2, 1) := by decide +kernel
theorem dX11_stepOf_199 : decode cX11_stepOf 199 = .ok (.invokevirtual 130, 3) := by decide +kernel
theorem dX11_stepOf_202 : decode cX11_stepOf 202 = .ok (.ireturn, 1) := by decide +kernel
theorem dX11_stepOf_203 : decode cX11_stepOf 203 = .ok (.aload_n 0, 1) := by decide +kernel
theorem dX11_stepOf_204 : decode cX11_stepOf 204 = .ok (.iload_n 1, 1) := by decide +kernel
theorem dX11_stepOf_205 : decode cX11_stepOf 205 = .ok (.iload_n 2, 1) := by decide +kernel
theorem dX11_stepOf_206 : decode cX11_stepOf 206 = .ok (.invokevirtual 133, 3) := by decide +kernel
theorem dX11_stepOf_209 : decode cX11_stepOf 209 = .ok (.ireturn, 1) := by decide +kernel
theorem dX11_stepWord_0 : decode cX11_stepWord 0 = .ok (.iload_n 1, 1) := by decide +kernel
theorem dX11_stepWord_1 : decode cX11_stepWord 1 = .ok (.tableswitch 230 9 18 #[55, 79, 230, 230, 101, 115, 144, 163, 187, 209], 55) := by decide +kernel
theorem dX11_stepWord_56 : decode cX11_stepWord 56 = .ok (.iload_n 2, 1) := by decide +kernel
theorem dX11_stepWord_57 : decode cX11_stepWord 57 = .ok (.bipush 63, 2) := by decide +kernel
theorem dX11_stepWord_59 : decode cX11_stepWord 59 = .ok (.if_icmp .ne 8, 3) := by decide +kernel
theorem dX11_stepWord_62 : decode cX11_stepWord 62 = .ok (.bipush 10, 2) := by decide +kernel
theorem dX11_stepWord_64 : decode cX11_stepWord 64 = .ok (.goto 15, 3) := by decide +kernel
theorem dX11_stepWord_67 : decode cX11_stepWord 67 = .ok (.iload_n 2, 1) := by decide +kernel
theorem dX11_stepWord_68 : decode cX11_stepWord 68 = .ok (.bipush 44, 2) := by decide +kernel
theorem dX11_stepWord_70 : decode cX11_stepWord 70 = .ok (.if_icmp .ne 8, 3) := by decide +kernel
theorem dX11_stepWord_73 : decode cX11_stepWord 73 = .ok (.bipush 8, 2) := by decide +kernel
theorem dX11_stepWord_75 : decode cX11_stepWord 75 = .ok (.goto 4, 3) := by decide +kernel
theorem dX11_stepWord_78 : decode cX11_stepWord 78 = .ok (.iconst (-1), 1) := by decide +kernel
theorem dX11_stepWord_79 : decode cX11_stepWord 79 = .ok (.ireturn, 1) := by decide +kernel
theorem dX11_stepWord_80 : decode cX11_stepWord 80 = .ok (.iload_n 2, 1) := by decide +kernel
theorem dX11_stepWord_81 : decode cX11_stepWord 81 = .ok (.invokestatic 110, 3) := by decide +kernel
theorem dX11_stepWord_84 : decode cX11_stepWord 84 = .ok (.ifCond .eq 16, 3) := by decide +kernel
theorem dX11_stepWord_87 : decode cX11_stepWord 87 = .ok (.iload_n 2, 1) := by decide +kernel
theorem dX11_stepWord_88 : decode cX11_stepWord 88 = .ok (.aload_n 0, 1) := by decide +kernel
theorem dX11_stepWord_89 : decode cX11_stepWord 89 = .ok (.getfield 114, 3) := by decide +kernel
theorem dX11_stepWord_92 : decode cX11_stepWord 92 = .ok (.if_icmp .eq 8, 3) := by decide +kernel
theorem dX11_stepWord_95 : decode cX11_stepWord 95 = .ok (.bipush 11, 2) := by decide +kernel
theorem dX11_stepWord_97 : decode cX11_stepWord 97 = .ok (.goto 4, 3) := by decide +kernel
theorem dX11_stepWord_100 : decode cX11_stepWord 100 = .ok (.iconst (-1), 1) := by decide +kernel
theorem dX11_stepWord_101 : decode cX11_stepWord 101 = .ok (.ireturn, 1) := by decide +kernel
theorem dX11_stepWord_102 : decode cX11_stepWord 102 = .ok (.iload_n 2, 1) := by decide +kernel
theorem dX11_stepWord_103 : decode cX11_stepWord 103 = .ok (.invokestatic 121, 3) := by decide +kernel
theorem dX11_stepWord_106 : decode cX11_stepWord 106 = .ok (.ifCond .eq 8, 3) := by decide +kernel
theorem dX11_stepWord_109 : decode cX11_stepWord 109 = .ok (.bipush 14, 2) := by decide +kernel
theorem dX11_stepWord_111 : decode cX11_stepWord 111 = .ok (.goto 4, 3) := by decide +kernel
theorem dX11_stepWord_114 : decode cX11_stepWord 114 = .ok (.iconst (-1), 1) := by decide +kernel
theorem dX11_stepWord_115 : decode cX11_stepWord 115 = .ok (.ireturn, 1) := by decide +kernel
theorem dX11_stepWord_116 : decode cX11_stepWord 116 = .ok (.iload_n 2, 1) := by decide +kernel
theorem dX11_stepWord_117 : decode cX11_stepWord 117 = .ok (.invokestatic 121, 3) := by decide +kernel
theorem dX11_stepWord_120 : decode cX11_stepWord 120 = .ok (.ifCond .eq 6, 3) := by decide +kernel
theorem dX11_stepWord_123 : decode cX11_stepWord 123 = .ok (.bipush 15, 2) := by decide +kernel
theorem dX11_stepWord_125 : decode cX11_stepWord 125 = .ok (.ireturn, 1) := by decide +kernel
theorem dX11_stepWord_126 : decode cX11_stepWord 126 = .ok (.aload_n 0, 1) := by decide +kernel
theorem dX11_stepWord_127 : decode cX11_stepWord 127 = .ok (.iload_n 2, 1) := by decide +kernel
theorem dX11_stepWord_128 : decode cX11_stepWord 128 = .ok (.putfield 114, 3) := by decide +kernel
theorem dX11_stepWord_131 : decode cX11_stepWord 131 = .ok (.iload_n 2, 1) := by decide +kernel
theorem dX11_stepWord_132 : decode cX11_stepWord 132 = .ok (.invokestatic 137, 3) := by decide +kernel
theorem dX11_stepWord_135 : decode cX11_stepWord 135 = .ok (.ifCond .eq 8, 3) := by decide +kernel
theorem dX11_stepWord_138 : decode cX11_stepWord 138 = .ok (.bipush 16, 2) := by decide +kernel
theorem dX11_stepWord_140 : decode cX11_stepWord 140 = .ok (.goto 4, 3) := by decide +kernel
theorem dX11_stepWord_143 : decode cX11_stepWord 143 = .ok (.iconst (-1), 1) := by decide +kernel
theorem dX11_stepWord_144 : decode cX11_stepWord 144 = .ok (.ireturn, 1) := by decide +kernel
theorem dX11_stepWord_145 : decode cX11_stepWord 145 = .ok (.aload_n 0, 1) := by decide +kernel
theorem dX11_stepWord_146 : decode cX11_stepWord 146 = .ok (.iload_n 2, 1) := by decide +kernel
theorem dX11_stepWord_147 : decode cX11_stepWord 147 = .ok (.putfield 114, 3) := by decide +kernel
theorem dX11_stepWord_150 : decode cX11_stepWord 150 = .ok (.iload_n 2, 1) := by decide +kernel
theorem dX11_stepWord_151 : decode cX11_stepWord 151 = .ok (.invokestatic 137, 3) := by decide +kernel
theorem dX11_stepWord_154 : decode cX11_stepWord 154 = .ok (.ifCond .eq 8, 3) := by decide +kernel
theorem dX11_stepWord_157 : decode cX11_stepWord 157 = .ok (.bipush 16, 2) := by decide +kernel
theorem dX11_stepWord_159 : decode cX11_stepWord 159 = .ok (.goto 4, 3) := by decide +kernel
theorem dX11_stepWord_162 : decode cX11_stepWord 162 = .ok (.iconst (-1), 1) := by decide +kernel
theorem dX11_stepWord_163 : decode cX11_stepWord 163 = .ok (.ireturn, 1) := by decide +kernel
theorem dX11_stepWord_164 : decode cX11_stepWord 164 = .ok (.iload_n 2, 1) := by decide +kernel
theorem dX11_stepWord_165 : decode cX11_stepWord 165 = .ok (.bipush 63, 2) := by decide +kernel
theorem dX11_stepWord_167 : decode cX11_stepWord 167 = .ok (.if_icmp .ne 8, 3) := by decide +kernel
theorem dX11_stepWord_170 : decode cX11_stepWord 170 = .ok (.bipush 17, 2) := by decide +kernel
theorem dX11_stepWord_172 : decode cX11_stepWord 172 = .ok (.goto 15, 3) := by decide +kernel
theorem dX11_stepWord_175 : decode cX11_stepWord 175 = .ok (.iload_n 2, 1) := by decide +kernel
theorem dX11_stepWord_176 : decode cX11_stepWord 176 = .ok (.bipush 44, 2) := by decide +kernel
theorem dX11_stepWord_178 : decode cX11_stepWord 178 = .ok (.if_icmp .ne 8, 3) := by decide +kernel
theorem dX11_stepWord_181 : decode cX11_stepWord 181 = .ok (.bipush 8, 2) := by decide +kernel
theorem dX11_stepWord_183 : decode cX11_stepWord 183 = .ok (.goto 4, 3) := by decide +kernel
theorem dX11_stepWord_186 : decode cX11_stepWord 186 = .ok (.iconst (-1), 1) := by decide +kernel
theorem dX11_stepWord_187 : decode cX11_stepWord 187 = .ok (.ireturn, 1) := by decide +kernel
theorem dX11_stepWord_188 : decode cX11_stepWord 188 = .ok (.iload_n 2, 1) := by decide +kernel
theorem dX11_stepWord_189 : decode cX11_stepWord 189 = .ok (.invokestatic 137, 3) := by decide +kernel
theorem dX11_stepWord_192 : decode cX11_stepWord 192 = .ok (.ifCond .eq 16, 3) := by decide +kernel
theorem dX11_stepWord_195 : decode cX11_stepWord 195 = .ok (.iload_n 2, 1) := by decide +kernel
theorem dX11_stepWord_196 : decode cX11_stepWord 196 = .ok (.aload_n 0, 1) := by decide +kernel
theorem dX11_stepWord_197 : decode cX11_stepWord 197 = .ok (.getfield 114, 3) := by decide +kernel
theorem dX11_stepWord_200 : decode cX11_stepWord 200 = .ok (.if_icmp .eq 8, 3) := by decide +kernel
theorem dX11_stepWord_203 : decode cX11_stepWord 203 = .ok (.bipush 19, 2) := by decide +kernel
theorem dX11_stepWord_205 : decode cX11_stepWord 205 = .ok (.goto 4, 3) := by decide +kernel
theorem dX11_stepWord_208 : decode cX11_stepWord 208 = .ok (.iconst (-1), 1) := by decide +kernel
theorem dX11_stepWord_209 : decode cX11_stepWord 209 = .ok (.ireturn, 1) := by decide +kernel
theorem dX11_stepWord_210 : decode cX11_stepWord 210 = .ok (.iload_n 2, 1) := by decide +kernel
theorem dX11_stepWord_211 : decode cX11_stepWord 211 = .ok (.i2l, 1) := by decide +kernel
theorem dX11_stepWord_212 : decode cX11_stepWord 212 = .ok (.ldc2_w 97, 3) := by decide +kernel
theorem dX11_stepWord_215 : decode cX11_stepWord 215 = .ok (.ldc2_w 128, 3) := by decide +kernel
theorem dX11_stepWord_218 : decode cX11_stepWord 218 = .ok (.invokestatic 86, 3) := by decide +kernel
theorem dX11_stepWord_221 : decode cX11_stepWord 221 = .ok (.ifCond .eq 8, 3) := by decide +kernel
theorem dX11_stepWord_224 : decode cX11_stepWord 224 = .ok (.bipush 20, 2) := by decide +kernel
theorem dX11_stepWord_226 : decode cX11_stepWord 226 = .ok (.goto 4, 3) := by decide +kernel
theorem dX11_stepWord_229 : decode cX11_stepWord 229 = .ok (.iconst (-1), 1) := by decide +kernel
theorem dX11_stepWord_230 : decode cX11_stepWord 230 = .ok (.ireturn, 1) := by decide +kernel
theorem dX11_stepWord_231 : decode cX11_stepWord 231 = .ok (.iload_n 2, 1) := by decide +kernel
theorem dX11_stepWord_232 : decode cX11_stepWord 232 = .ok (.bipush 44, 2) := by decide +kernel
theorem dX11_stepWord_234 : decode cX11_stepWord 234 = .ok (.if_icmp .ne 8, 3) := by decide +kernel
theorem dX11_stepWord_237 : decode cX11_stepWord 237 = .ok (.bipush 8, 2) := by decide +kernel
theorem dX11_stepWord_239 : decode cX11_stepWord 239 = .ok (.goto 4, 3) := by decide +kernel
theorem dX11_stepWord_242 : decode cX11_stepWord 242 = .ok (.iconst (-1), 1) := by decide +kernel
theorem dX11_stepWord_243 : decode cX11_stepWord 243 = .ok (.ireturn, 1) := by decide +kernel
theorem dX11_isWhole_0 : decode cX11_isWhole 0 = .ok (.iload_n 0, 1) := by decide +kernel
theorem dX11_isWhole_1 : decode cX11_isWhole 1 = .ok (.iconst 4, 1) := by decide +kernel
theorem dX11_isWhole_2 : decode cX11_isWhole 2 = .ok (.if_icmp .eq 44, 3) := by decide +kernel
theorem dX11_isWhole_5 : decode cX11_isWhole 5 = .ok (.iload_n 0, 1) := by decide +kernel
theorem dX11_isWhole_6 : decode cX11_isWhole 6 = .ok (.iconst 5, 1) := by decide +kernel
theorem dX11_isWhole_7 : decode cX11_isWhole 7 = .ok (.if_icmp .eq 39, 3) := by decide +kernel
theorem dX11_isWhole_10 : decode cX11_isWhole 10 = .ok (.iload_n 0, 1) := by decide +kernel
theorem dX11_isWhole_11 : decode cX11_isWhole 11 = .ok (.bipush 9, 2) := by decide +kernel
theorem dX11_isWhole_13 : decode cX11_isWhole 13 = .ok (.if_icmp .eq 33, 3) := by decide +kernel
theorem dX11_isWhole_16 : decode cX11_isWhole 16 = .ok (.iload_n 0, 1) := by decide +kernel
theorem dX11_isWhole_17 : decode cX11_isWhole 17 = .ok (.bipush 11, 2) := by decide +kernel
theorem dX11_isWhole_19 : decode cX11_isWhole 19 = .ok (.if_icmp .eq 27, 3) := by decide +kernel
theorem dX11_isWhole_22 : decode cX11_isWhole 22 = .ok (.iload_n 0, 1) := by decide +kernel
theorem dX11_isWhole_23 : decode cX11_isWhole 23 = .ok (.bipush 12, 2) := by decide +kernel
theorem dX11_isWhole_25 : decode cX11_isWhole 25 = .ok (.if_icmp .eq 21, 3) := by decide +kernel
theorem dX11_isWhole_28 : decode cX11_isWhole 28 = .ok (.iload_n 0, 1) := by decide +kernel
theorem dX11_isWhole_29 : decode cX11_isWhole 29 = .ok (.bipush 16, 2) := by decide +kernel
theorem dX11_isWhole_31 : decode cX11_isWhole 31 = .ok (.if_icmp .eq 15, 3) := by decide +kernel
theorem dX11_isWhole_34 : decode cX11_isWhole 34 = .ok (.iload_n 0, 1) := by decide +kernel
theorem dX11_isWhole_35 : decode cX11_isWhole 35 = .ok (.bipush 19, 2) := by decide +kernel
theorem dX11_isWhole_37 : decode cX11_isWhole 37 = .ok (.if_icmp .eq 9, 3) := by decide +kernel
theorem dX11_isWhole_40 : decode cX11_isWhole 40 = .ok (.iload_n 0, 1) := by decide +kernel
theorem dX11_isWhole_41 : decode cX11_isWhole 41 = .ok (.bipush 20, 2) := by decide +kernel
theorem dX11_isWhole_43 : decode cX11_isWhole 43 = .ok (.if_icmp .ne 7, 3) := by decide +kernel
theorem dX11_isWhole_46 : decode cX11_isWhole 46 = .ok (.iconst 1, 1) := by decide +kernel
theorem dX11_isWhole_47 : decode cX11_isWhole 47 = .ok (.goto 4, 3) := by decide +kernel
theorem dX11_isWhole_50 : decode cX11_isWhole 50 = .ok (.iconst 0, 1) := by decide +kernel
theorem dX11_isWhole_51 : decode cX11_isWhole 51 = .ok (.ireturn, 1) := by decide +kernel
theorem dX11_fault_0 : decode cX11_fault 0 = .ok (.aload_n 0, 1) := by decide +kernel
theorem dX11_fault_1 : decode cX11_fault 1 = .ok (.invokevirtual 140, 3) := by decide +kernel
theorem dX11_fault_4 : decode cX11_fault 4 = .ok (.iconst 0, 1) := by decide +kernel
theorem dX11_fault_5 : decode cX11_fault 5 = .ok (.istore_n 1, 1) := by decide +kernel
theorem dX11_fault_6 : decode cX11_fault 6 = .ok (.iconst 0, 1) := by decide +kernel
theorem dX11_fault_7 : decode cX11_fault 7 = .ok (.istore_n 2, 1) := by decide +kernel
theorem dX11_fault_8 : decode cX11_fault 8 = .ok (.iload_n 2, 1) := by decide +kernel
theorem dX11_fault_9 : decode cX11_fault 9 = .ok (.aload_n 0, 1) := by decide +kernel
theorem dX11_fault_10 : decode cX11_fault 10 = .ok (.getfield 94, 3) := by decide +kernel
theorem dX11_fault_13 : decode cX11_fault 13 = .ok (.if_icmp .ge 27, 3) := by decide +kernel
theorem dX11_fault_16 : decode cX11_fault 16 = .ok (.aload_n 0, 1) := by decide +kernel
theorem dX11_fault_17 : decode cX11_fault 17 = .ok (.iload_n 1, 1) := by decide +kernel
theorem dX11_fault_18 : decode cX11_fault 18 = .ok (.aload_n 0, 1) := by decide +kernel
theorem dX11_fault_19 : decode cX11_fault 19 = .ok (.getfield 7, 3) := by decide +kernel
theorem dX11_fault_22 : decode cX11_fault 22 = .ok (.iload_n 2, 1) := by decide +kernel
theorem dX11_fault_23 : decode cX11_fault 23 = .ok (.iaload, 1) := by decide +kernel
theorem dX11_fault_24 : decode cX11_fault 24 = .ok (.invokevirtual 143, 3) := by decide +kernel
theorem dX11_fault_27 : decode cX11_fault 27 = .ok (.istore_n 1, 1) := by decide +kernel
theorem dX11_fault_28 : decode cX11_fault 28 = .ok (.iload_n 1, 1) := by decide +kernel
theorem dX11_fault_29 : decode cX11_fault 29 = .ok (.ifCond .ge 5, 3) := by decide +kernel
theorem dX11_fault_32 : decode cX11_fault 32 = .ok (.iload_n 2, 1) := by decide +kernel
theorem dX11_fault_33 : decode cX11_fault 33 = .ok (.ireturn, 1) := by decide +kernel
theorem dX11_fault_34 : decode cX11_fault 34 = .ok (.iinc 2 1, 3) := by decide +kernel
theorem dX11_fault_37 : decode cX11_fault 37 = .ok (.goto (-29), 3) := by decide +kernel
theorem dX11_fault_40 : decode cX11_fault 40 = .ok (.iload_n 1, 1) := by decide +kernel
theorem dX11_fault_41 : decode cX11_fault 41 = .ok (.invokestatic 146, 3) := by decide +kernel
theorem dX11_fault_44 : decode cX11_fault 44 = .ok (.ifCond .eq 8, 3) := by decide +kernel
theorem dX11_fault_47 : decode cX11_fault 47 = .ok (.bipush (-6), 2) := by decide +kernel
theorem dX11_fault_49 : decode cX11_fault 49 = .ok (.goto 7, 3) := by decide +kernel
theorem dX11_fault_52 : decode cX11_fault 52 = .ok (.aload_n 0, 1) := by decide +kernel
theorem dX11_fault_53 : decode cX11_fault 53 = .ok (.getfield 94, 3) := by decide +kernel
theorem dX11_fault_56 : decode cX11_fault 56 = .ok (.ireturn, 1) := by decide +kernel
theorem dX11_isLaw_0 : decode cX11_isLaw 0 = .ok (.iload_n 1, 1) := by decide +kernel
theorem dX11_isLaw_1 : decode cX11_isLaw 1 = .ok (.i2l, 1) := by decide +kernel
theorem dX11_isLaw_2 : decode cX11_isLaw 2 = .ok (.lconst 0, 1) := by decide +kernel
theorem dX11_isLaw_3 : decode cX11_isLaw 3 = .ok (.aload_n 0, 1) := by decide +kernel
theorem dX11_isLaw_4 : decode cX11_isLaw 4 = .ok (.getfield 149, 3) := by decide +kernel
theorem dX11_isLaw_7 : decode cX11_isLaw 7 = .ok (.iconst 1, 1) := by decide +kernel
theorem dX11_isLaw_8 : decode cX11_isLaw 8 = .ok (.isub, 1) := by decide +kernel
theorem dX11_isLaw_9 : decode cX11_isLaw 9 = .ok (.i2l, 1) := by decide +kernel
theorem dX11_isLaw_10 : decode cX11_isLaw 10 = .ok (.invokestatic 86, 3) := by decide +kernel
theorem dX11_isLaw_13 : decode cX11_isLaw 13 = .ok (.ireturn, 1) := by decide +kernel
theorem dX11_layText_0 : decode cX11_layText 0 = .ok (.aload_n 0, 1) := by decide +kernel
theorem dX11_layText_1 : decode cX11_layText 1 = .ok (.invokevirtual 140, 3) := by decide +kernel
theorem dX11_layText_4 : decode cX11_layText 4 = .ok (.aload_n 0, 1) := by decide +kernel
theorem dX11_layText_5 : decode cX11_layText 5 = .ok (.getfield 19, 3) := by decide +kernel
theorem dX11_layText_8 : decode cX11_layText 8 = .ok (.iload_n 1, 1) := by decide +kernel
theorem dX11_layText_9 : decode cX11_layText 9 = .ok (.iconst 0, 1) := by decide +kernel
theorem dX11_layText_10 : decode cX11_layText 10 = .ok (.iastore, 1) := by decide +kernel
theorem dX11_layText_11 : decode cX11_layText 11 = .ok (.aload_n 0, 1) := by decide +kernel
theorem dX11_layText_12 : decode cX11_layText 12 = .ok (.getfield 28, 3) := by decide +kernel
theorem dX11_layText_15 : decode cX11_layText 15 = .ok (.iload_n 1, 1) := by decide +kernel
theorem dX11_layText_16 : decode cX11_layText 16 = .ok (.bipush 110, 2) := by decide +kernel
theorem dX11_layText_18 : decode cX11_layText 18 = .ok (.iastore, 1) := by decide +kernel
theorem dX11_layText_19 : decode cX11_layText 19 = .ok (.aload_n 0, 1) := by decide +kernel
theorem dX11_layText_20 : decode cX11_layText 20 = .ok (.getfield 31, 3) := by decide +kernel
theorem dX11_layText_23 : decode cX11_layText 23 = .ok (.iload_n 1, 1) := by decide +kernel
theorem dX11_layText_24 : decode cX11_layText 24 = .ok (.bipush (-6), 2) := by decide +kernel
theorem dX11_layText_26 : decode cX11_layText 26 = .ok (.iastore, 1) := by decide +kernel
theorem dX11_layText_27 : decode cX11_layText 27 = .ok (.aload_n 0, 1) := by decide +kernel
theorem dX11_layText_28 : decode cX11_layText 28 = .ok (.getfield 34, 3) := by decide +kernel
theorem dX11_layText_31 : decode cX11_layText 31 = .ok (.iload_n 1, 1) := by decide +kernel
theorem dX11_layText_32 : decode cX11_layText 32 = .ok (.iconst 0, 1) := by decide +kernel
theorem dX11_layText_33 : decode cX11_layText 33 = .ok (.iastore, 1) := by decide +kernel
theorem dX11_layText_34 : decode cX11_layText 34 = .ok (.aload_n 0, 1) := by decide +kernel
theorem dX11_layText_35 : decode cX11_layText 35 = .ok (.getfield 37, 3) := by decide +kernel
theorem dX11_layText_38 : decode cX11_layText 38 = .ok (.iload_n 1, 1) := by decide +kernel
theorem dX11_layText_39 : decode cX11_layText 39 = .ok (.bipush (-6), 2) := by decide +kernel
theorem dX11_layText_41 : decode cX11_layText 41 = .ok (.iastore, 1) := by decide +kernel
theorem dX11_layText_42 : decode cX11_layText 42 = .ok (.aload_n 0, 1) := by decide +kernel
theorem dX11_layText_43 : decode cX11_layText 43 = .ok (.getfield 40, 3) := by decide +kernel
theorem dX11_layText_46 : decode cX11_layText 46 = .ok (.iload_n 1, 1) := by decide +kernel
theorem dX11_layText_47 : decode cX11_layText 47 = .ok (.bipush (-6), 2) := by decide +kernel
theorem dX11_layText_49 : decode cX11_layText 49 = .ok (.iastore, 1) := by decide +kernel
theorem dX11_layText_50 : decode cX11_layText 50 = .ok (.aload_n 0, 1) := by decide +kernel
theorem dX11_layText_51 : decode cX11_layText 51 = .ok (.getfield 43, 3) := by decide +kernel
theorem dX11_layText_54 : decode cX11_layText 54 = .ok (.iload_n 1, 1) := by decide +kernel
theorem dX11_layText_55 : decode cX11_layText 55 = .ok (.bipush (-6), 2) := by decide +kernel
theorem dX11_layText_57 : decode cX11_layText 57 = .ok (.iastore, 1) := by decide +kernel
theorem dX11_layText_58 : decode cX11_layText 58 = .ok (.aload_n 0, 1) := by decide +kernel
theorem dX11_layText_59 : decode cX11_layText 59 = .ok (.getfield 46, 3) := by decide +kernel
theorem dX11_layText_62 : decode cX11_layText 62 = .ok (.iload_n 1, 1) := by decide +kernel
theorem dX11_layText_63 : decode cX11_layText 63 = .ok (.iconst 0, 1) := by decide +kernel
theorem dX11_layText_64 : decode cX11_layText 64 = .ok (.iastore, 1) := by decide +kernel
theorem dX11_layText_65 : decode cX11_layText 65 = .ok (.iconst 0, 1) := by decide +kernel
theorem dX11_layText_66 : decode cX11_layText 66 = .ok (.istore_n 2, 1) := by decide +kernel
theorem dX11_layText_67 : decode cX11_layText 67 = .ok (.iconst 0, 1) := by decide +kernel
theorem dX11_layText_68 : decode cX11_layText 68 = .ok (.istore_n 3, 1) := by decide +kernel
theorem dX11_layText_69 : decode cX11_layText 69 = .ok (.iconst 0, 1) := by decide +kernel
theorem dX11_layText_70 : decode cX11_layText 70 = .ok (.istore 4, 2) := by decide +kernel
theorem dX11_layText_72 : decode cX11_layText 72 = .ok (.iload 4, 2) := by decide +kernel
theorem dX11_layText_74 : decode cX11_layText 74 = .ok (.aload_n 0, 1) := by decide +kernel
theorem dX11_layText_75 : decode cX11_layText 75 = .ok (.getfield 94, 3) := by decide +kernel
theorem dX11_layText_78 : decode cX11_layText 78 = .ok (.if_icmp .ge 193, 3) := by decide +kernel
theorem dX11_layText_81 : decode cX11_layText 81 = .ok (.aload_n 0, 1) := by decide +kernel
theorem dX11_layText_82 : decode cX11_layText 82 = .ok (.getfield 7, 3) := by decide +kernel
theorem dX11_layText_85 : decode cX11_layText 85 = .ok (.iload 4, 2) := by decide +kernel
theorem dX11_layText_87 : decode cX11_layText 87 = .ok (.iaload, 1) := by decide +kernel
theorem dX11_layText_88 : decode cX11_layText 88 = .ok (.istore 5, 2) := by decide +kernel
theorem dX11_layText_90 : decode cX11_layText 90 = .ok (.iload_n 2, 1) := by decide +kernel
theorem dX11_layText_91 : decode cX11_layText 91 = .ok (.istore 6, 2) := by decide +kernel
theorem dX11_layText_93 : decode cX11_layText 93 = .ok (.aload_n 0, 1) := by decide +kernel
theorem dX11_layText_94 : decode cX11_layText 94 = .ok (.iload_n 2, 1) := by decide +kernel
theorem dX11_layText_95 : decode cX11_layText 95 = .ok (.iload 5, 2) := by decide +kernel
theorem dX11_layText_97 : decode cX11_layText 97 = .ok (.invokevirtual 143, 3) := by decide +kernel
theorem dX11_layText_100 : decode cX11_layText 100 = .ok (.istore_n 2, 1) := by decide +kernel
theorem dX11_layText_101 : decode cX11_layText 101 = .ok (.bipush 6, 2) := by decide +kernel
theorem dX11_layText_103 : decode cX11_layText 103 = .ok (.iload_n 1, 1) := by decide +kernel
theorem dX11_layText_104 : decode cX11_layText 104 = .ok (.imul, 1) := by decide +kernel
theorem dX11_layText_105 : decode cX11_layText 105 = .ok (.aload_n 0, 1) := by decide +kernel
theorem dX11_layText_106 : decode cX11_layText 106 = .ok (.getfield 19, 3) := by decide +kernel
theorem dX11_layText_109 : decode cX11_layText 109 = .ok (.iload_n 1, 1) := by decide +kernel
theorem dX11_layText_110 : decode cX11_layText 110 = .ok (.iaload, 1) := by decide +kernel
theorem dX11_layText_111 : decode cX11_layText 111 = .ok (.iadd, 1) := by decide +kernel
theorem dX11_layText_112 : decode cX11_layText 112 = .ok (.istore 7, 2) := by decide +kernel
theorem dX11_layText_114 : decode cX11_layText 114 = .ok (.iload_n 2, 1) := by decide +kernel
theorem dX11_layText_115 : decode cX11_layText 115 = .ok (.iconst 1, 1) := by decide +kernel
theorem dX11_layText_116 : decode cX11_layText 116 = .ok (.if_icmp .ne 16, 3) := by decide +kernel
theorem dX11_layText_119 : decode cX11_layText 119 = .ok (.iload_n 3, 1) := by decide +kernel
theorem dX11_layText_120 : decode cX11_layText 120 = .ok (.iconst 1, 1) := by decide +kernel
theorem dX11_layText_121 : decode cX11_layText 121 = .ok (.iload 5, 2) := by decide +kernel
theorem dX11_layText_123 : decode cX11_layText 123 = .ok (.bipush 97, 2) := by decide +kernel
theorem dX11_layText_125 : decode cX11_layText 125 = .ok (.isub, 1) := by decide +kernel
theorem dX11_layText_126 : decode cX11_layText 126 = .ok (.ishl, 1) := by decide +kernel
theorem dX11_layText_127 : decode cX11_layText 127 = .ok (.ior, 1) := by decide +kernel
theorem dX11_layText_128 : decode cX11_layText 128 = .ok (.istore_n 3, 1) := by decide +kernel
theorem dX11_layText_129 : decode cX11_layText 129 = .ok (.goto 136, 3) := by decide +kernel
theorem dX11_layText_132 : decode cX11_layText 132 = .ok (.iload_n 2, 1) := by decide +kernel
theorem dX11_layText_133 : decode cX11_layText 133 = .ok (.iconst 3, 1) := by decide +kernel
theorem dX11_layText_134 : decode cX11_layText 134 = .ok (.if_icmp .ne 24, 3) := by decide +kernel
theorem dX11_layText_137 : decode cX11_layText 137 = .ok (.aload_n 0, 1) := by decide +kernel
theorem dX11_layText_138 : decode cX11_layText 138 = .ok (.getfield 22, 3) := by decide +kernel
theorem dX11_layText_141 : decode cX11_layText 141 = .ok (.iload 7, 2) := by decide +kernel
theorem dX11_layText_143 : decode cX11_layText 143 = .ok (.iload_n 3, 1) := by decide +kernel
theorem dX11_layText_144 : decode cX11_layText 144 = .ok (.iastore, 1) := by decide +kernel
theorem dX11_layText_145 : decode cX11_layText 145 = .ok (.aload_n 0, 1) := by decide +kernel
theorem dX11_layText_146 : decode cX11_layText 146 = .ok (.getfield 25, 3) := by decide +kernel
theorem dX11_layText_149 : decode cX11_layText 149 = .ok (.iload 7, 2) := by decide +kernel
theorem dX11_layText_151 : decode cX11_layText 151 = .ok (.iconst 0, 1) := by decide +kernel
theorem dX11_layText_152 : decode cX11_layText 152 = .ok (.iastore, 1) := by decide +kernel
theorem dX11_layText_153 : decode cX11_layText 153 = .ok (.iconst 0, 1) := by decide +kernel
theorem dX11_layText_154 : decode cX11_layText 154 = .ok (.istore_n 3, 1) := by decide +kernel
theorem dX11_layText_155 : decode cX11_layText 155 = .ok (.goto 110, 3) := by decide +kernel
theorem dX11_layText_158 : decode cX11_layText 158 = .ok (.iload_n 2, 1) := by decide +kernel
theorem dX11_layText_159 : decode cX11_layText 159 = .ok (.bipush 6, 2) := by decide +kernel
theorem dX11_layText_161 : decode cX11_layText 161 = .ok (.if_icmp .ne 15, 3) := by decide +kernel
theorem dX11_layText_164 : decode cX11_layText 164 = .ok (.aload_n 0, 1) := by decide +kernel
theorem dX11_layText_165 : decode cX11_layText 165 = .ok (.getfield 25, 3) := by decide +kernel
theorem dX11_layText_168 : decode cX11_layText 168 = .ok (.iload 7, 2) := by decide +kernel
theorem dX11_layText_170 : decode cX11_layText 170 = .ok (.bipush 100, 2) := by decide +kernel
theorem dX11_layText_172 : decode cX11_layText 172 = .ok (.iastore, 1) := by decide +kernel
theorem dX11_layText_173 : decode cX11_layText 173 = .ok (.goto 92, 3) := by decide +kernel
theorem dX11_layText_176 : decode cX11_layText 176 = .ok (.iload_n 2, 1) := by decide +kernel
theorem dX11_layText_177 : decode cX11_layText 177 = .ok (.iconst 4, 1) := by decide +kernel
theorem dX11_layText_178 : decode cX11_layText 178 = .ok (.if_icmp .eq 8, 3) := by decide +kernel
theorem dX11_layText_181 : decode cX11_layText 181 = .ok (.iload_n 2, 1) := by decide +kernel
theorem dX11_layText_182 : decode cX11_layText 182 = .ok (.iconst 5, 1) := by decide +kernel
theorem dX11_layText_183 : decode cX11_layText 183 = .ok (.if_icmp .ne 47, 3) := by decide +kernel
theorem dX11_layText_186 : decode cX11_layText 186 = .ok (.aload_n 0, 1) := by decide +kernel
theorem dX11_layText_187 : decode cX11_layText 187 = .ok (.getfield 25, 3) := by decide +kernel
theorem dX11_layText_190 : decode cX11_layText 190 = .ok (.iload 7, 2) := by decide +kernel
theorem dX11_layText_192 : decode cX11_layText 192 = .ok (.iload 6, 2) := by decide +kernel
theorem dX11_layText_194 : decode cX11_layText 194 = .ok (.bipush 6, 2) := by decide +kernel
theorem dX11_layText_196 : decode cX11_layText 196 = .ok (.if_icmp .ne 14, 3) := by decide +kernel
theorem dX11_layText_199 : decode cX11_layText 199 = .ok (.bipush 100, 2) := by decide +kernel
theorem dX11_layText_201 : decode cX11_layText 201 = .ok (.iload 5, 2) := by decide +kernel
theorem dX11_layText_203 : decode cX11_layText 203 = .ok (.iadd, 1) := by decide +kernel
theorem dX11_layText_204 : decode cX11_layText 204 = .ok (.bipush 48, 2) := by decide +kernel
theorem dX11_layText_206 : decode cX11_layText 206 = .ok (.isub, 1) := by decide +kernel
theorem dX11_layText_207 : decode cX11_layText 207 = .ok (.goto 19, 3) := by decide +kernel
theorem dX11_layText_210 : decode cX11_layText 210 = .ok (.bipush 10, 2) := by decide +kernel
theorem dX11_layText_212 : decode cX11_layText 212 = .ok (.aload_n 0, 1) := by decide +kernel
theorem dX11_layText_213 : decode cX11_layText 213 = .ok (.getfield 25, 3) := by decide +kernel
theorem dX11_layText_216 : decode cX11_layText 216 = .ok (.iload 7, 2) := by decide +kernel
theorem dX11_layText_218 : decode cX11_layText 218 = .ok (.iaload, 1) := by decide +kernel
theorem dX11_layText_219 : decode cX11_layText 219 = .ok (.imul, 1) := by decide +kernel
theorem dX11_layText_220 : decode cX11_layText 220 = .ok (.iload 5, 2) := by decide +kernel
theorem dX11_layText_222 : decode cX11_layText 222 = .ok (.iadd, 1) := by decide +kernel
theorem dX11_layText_223 : decode cX11_layText 223 = .ok (.bipush 48, 2) := by decide +kernel
theorem dX11_layText_225 : decode cX11_layText 225 = .ok (.isub, 1) := by decide +kernel
theorem dX11_layText_226 : decode cX11_layText 226 = .ok (.iastore, 1) := by decide +kernel
theorem dX11_layText_227 : decode cX11_layText 227 = .ok (.goto 38, 3) := by decide +kernel
theorem dX11_layText_230 : decode cX11_layText 230 = .ok (.iload 5, 2) := by decide +kernel
theorem dX11_layText_232 : decode cX11_layText 232 = .ok (.bipush 124, 2) := by decide +kernel
theorem dX11_layText_234 : decode cX11_layText 234 = .ok (.if_icmp .eq 10, 3) := by decide +kernel
theorem dX11_layText_237 : decode cX11_layText 237 = .ok (.iload 5, 2) := by decide +kernel
theorem dX11_layText_239 : decode cX11_layText 239 = .ok (.bipush 47, 2) := by decide +kernel
theorem dX11_layText_241 : decode cX11_layText 241 = .ok (.if_icmp .ne 16, 3) := by decide +kernel
theorem dX11_layText_244 : decode cX11_layText 244 = .ok (.aload_n 0, 1) := by decide +kernel
theorem dX11_layText_245 : decode cX11_layText 245 = .ok (.getfield 19, 3) := by decide +kernel
theorem dX11_layText_248 : decode cX11_layText 248 = .ok (.iload_n 1, 1) := by decide +kernel
theorem dX11_layText_249 : decode cX11_layText 249 = .ok (.dup2, 1) := by decide +kernel
theorem dX11_layText_250 : decode cX11_layText 250 = .ok (.iaload, 1) := by decide +kernel
theorem dX11_layText_251 : decode cX11_layText 251 = .ok (.iconst 1, 1) := by decide +kernel
theorem dX11_layText_252 : decode cX11_layText 252 = .ok (.iadd, 1) := by decide +kernel
theorem dX11_layText_253 : decode cX11_layText 253 = .ok (.iastore, 1) := by decide +kernel
theorem dX11_layText_254 : decode cX11_layText 254 = .ok (.goto 11, 3) := by decide +kernel
theorem dX11_layText_257 : decode cX11_layText 257 = .ok (.aload_n 0, 1) := by decide +kernel
theorem dX11_layText_258 : decode cX11_layText 258 = .ok (.iload_n 1, 1) := by decide +kernel
theorem dX11_layText_259 : decode cX11_layText 259 = .ok (.iload_n 2, 1) := by decide +kernel
theorem dX11_layText_260 : decode cX11_layText 260 = .ok (.iload 5, 2) := by decide +kernel
theorem dX11_layText_262 : decode cX11_layText 262 = .ok (.invokevirtual 152, 3) := by decide +kernel
theorem dX11_layText_265 : decode cX11_layText 265 = .ok (.iinc 4 1, 3) := by decide +kernel
theorem dX11_layText_268 : decode cX11_layText 268 = .ok (.goto (-196), 3) := by decide +kernel
theorem dX11_layText_271 : decode cX11_layText 271 = .ok (.aload_n 0, 1) := by decide +kernel
theorem dX11_layText_272 : decode cX11_layText 272 = .ok (.getfield 19, 3) := by decide +kernel
theorem dX11_layText_275 : decode cX11_layText 275 = .ok (.iload_n 1, 1) := by decide +kernel
theorem dX11_layText_276 : decode cX11_layText 276 = .ok (.dup2, 1) := by decide +kernel
theorem dX11_layText_277 : decode cX11_layText 277 = .ok (.iaload, 1) := by decide +kernel
theorem dX11_layText_278 : decode cX11_layText 278 = .ok (.aload_n 0, 1) := by decide +kernel
theorem dX11_layText_279 : decode cX11_layText 279 = .ok (.getfield 107, 3) := by decide +kernel
theorem dX11_layText_282 : decode cX11_layText 282 = .ok (.ifCond .ne 7, 3) := by decide +kernel
theorem dX11_layText_285 : decode cX11_layText 285 = .ok (.iconst 1, 1) := by decide +kernel
theorem dX11_layText_286 : decode cX11_layText 286 = .ok (.goto 4, 3) := by decide +kernel
theorem dX11_layText_289 : decode cX11_layText 289 = .ok (.iconst 0, 1) := by decide +kernel
theorem dX11_layText_290 : decode cX11_layText 290 = .ok (.iadd, 1) := by decide +kernel
theorem dX11_layText_291 : decode cX11_layText 291 = .ok (.iastore, 1) := by decide +kernel
theorem dX11_layText_292 : decode cX11_layText 292 = .ok (.aload_n 0, 1) := by decide +kernel
theorem dX11_layText_293 : decode cX11_layText 293 = .ok (.iconst 0, 1) := by decide +kernel
theorem dX11_layText_294 : decode cX11_layText 294 = .ok (.putfield 94, 3) := by decide +kernel
theorem dX11_layText_297 : decode cX11_layText 297 = .ok (.return_, 1) := by decide +kernel
theorem dX11_layWord_0 : decode cX11_layWord 0 = .ok (.iload_n 2, 1) := by decide +kernel
theorem dX11_layWord_1 : decode cX11_layWord 1 = .ok (.tableswitch 167 9 20 #[63, 167, 73, 83, 167, 93, 106, 129, 167, 167, 139, 149], 63) := by decide +kernel
theorem dX11_layWord_64 : decode cX11_layWord 64 = .ok (.aload_n 0, 1) := by decide +kernel
theorem dX11_layWord_65 : decode cX11_layWord 65 = .ok (.getfield 28, 3) := by decide +kernel
theorem dX11_layWord_68 : decode cX11_layWord 68 = .ok (.iload_n 1, 1) := by decide +kernel
theorem dX11_layWord_69 : decode cX11_layWord 69 = .ok (.iload_n 3, 1) := by decide +kernel
theorem dX11_layWord_70 : decode cX11_layWord 70 = .ok (.iastore, 1) := by decide +kernel
theorem dX11_layWord_71 : decode cX11_layWord 71 = .ok (.goto 97, 3) := by decide +kernel
theorem dX11_layWord_74 : decode cX11_layWord 74 = .ok (.aload_n 0, 1) := by decide +kernel
theorem dX11_layWord_75 : decode cX11_layWord 75 = .ok (.getfield 31, 3) := by decide +kernel
theorem dX11_layWord_78 : decode cX11_layWord 78 = .ok (.iload_n 1, 1) := by decide +kernel
theorem dX11_layWord_79 : decode cX11_layWord 79 = .ok (.iload_n 3, 1) := by decide +kernel
theorem dX11_layWord_80 : decode cX11_layWord 80 = .ok (.iastore, 1) := by decide +kernel
theorem dX11_layWord_81 : decode cX11_layWord 81 = .ok (.goto 87, 3) := by decide +kernel
theorem dX11_layWord_84 : decode cX11_layWord 84 = .ok (.aload_n 0, 1) := by decide +kernel
theorem dX11_layWord_85 : decode cX11_layWord 85 = .ok (.getfield 34, 3) := by decide +kernel
theorem dX11_layWord_88 : decode cX11_layWord 88 = .ok (.iload_n 1, 1) := by decide +kernel
theorem dX11_layWord_89 : decode cX11_layWord 89 = .ok (.iconst 1, 1) := by decide +kernel
theorem dX11_layWord_90 : decode cX11_layWord 90 = .ok (.iastore, 1) := by decide +kernel
theorem dX11_layWord_91 : decode cX11_layWord 91 = .ok (.goto 77, 3) := by decide +kernel
theorem dX11_layWord_94 : decode cX11_layWord 94 = .ok (.aload_n 0, 1) := by decide +kernel
theorem dX11_layWord_95 : decode cX11_layWord 95 = .ok (.getfield 37, 3) := by decide +kernel
theorem dX11_layWord_98 : decode cX11_layWord 98 = .ok (.iload_n 1, 1) := by decide +kernel
theorem dX11_layWord_99 : decode cX11_layWord 99 = .ok (.iload_n 3, 1) := by decide +kernel
theorem dX11_layWord_100 : decode cX11_layWord 100 = .ok (.bipush 48, 2) := by decide +kernel
theorem dX11_layWord_102 : decode cX11_layWord 102 = .ok (.isub, 1) := by decide +kernel
theorem dX11_layWord_103 : decode cX11_layWord 103 = .ok (.iastore, 1) := by decide +kernel
theorem dX11_layWord_104 : decode cX11_layWord 104 = .ok (.goto 64, 3) := by decide +kernel
theorem dX11_layWord_107 : decode cX11_layWord 107 = .ok (.aload_n 0, 1) := by decide +kernel
theorem dX11_layWord_108 : decode cX11_layWord 108 = .ok (.getfield 37, 3) := by decide +kernel
theorem dX11_layWord_111 : decode cX11_layWord 111 = .ok (.iload_n 1, 1) := by decide +kernel
theorem dX11_layWord_112 : decode cX11_layWord 112 = .ok (.bipush 10, 2) := by decide +kernel
theorem dX11_layWord_114 : decode cX11_layWord 114 = .ok (.aload_n 0, 1) := by decide +kernel
theorem dX11_layWord_115 : decode cX11_layWord 115 = .ok (.getfield 37, 3) := by decide +kernel
theorem dX11_layWord_118 : decode cX11_layWord 118 = .ok (.iload_n 1, 1) := by decide +kernel
theorem dX11_layWord_119 : decode cX11_layWord 119 = .ok (.iaload, 1) := by decide +kernel
theorem dX11_layWord_120 : decode cX11_layWord 120 = .ok (.imul, 1) := by decide +kernel
theorem dX11_layWord_121 : decode cX11_layWord 121 = .ok (.iload_n 3, 1) := by decide +kernel
theorem dX11_layWord_122 : decode cX11_layWord 122 = .ok (.iadd, 1) := by decide +kernel
theorem dX11_layWord_123 : decode cX11_layWord 123 = .ok (.bipush 48, 2) := by decide +kernel
theorem dX11_layWord_125 : decode cX11_layWord 125 = .ok (.isub, 1) := by decide +kernel
theorem dX11_layWord_126 : decode cX11_layWord 126 = .ok (.iastore, 1) := by decide +kernel
theorem dX11_layWord_127 : decode cX11_layWord 127 = .ok (.goto 41, 3) := by decide +kernel
theorem dX11_layWord_130 : decode cX11_layWord 130 = .ok (.aload_n 0, 1) := by decide +kernel
theorem dX11_layWord_131 : decode cX11_layWord 131 = .ok (.getfield 40, 3) := by decide +kernel
theorem dX11_layWord_134 : decode cX11_layWord 134 = .ok (.iload_n 1, 1) := by decide +kernel
theorem dX11_layWord_135 : decode cX11_layWord 135 = .ok (.iload_n 3, 1) := by decide +kernel
theorem dX11_layWord_136 : decode cX11_layWord 136 = .ok (.iastore, 1) := by decide +kernel
theorem dX11_layWord_137 : decode cX11_layWord 137 = .ok (.goto 31, 3) := by decide +kernel
theorem dX11_layWord_140 : decode cX11_layWord 140 = .ok (.aload_n 0, 1) := by decide +kernel
theorem dX11_layWord_141 : decode cX11_layWord 141 = .ok (.getfield 43, 3) := by decide +kernel
theorem dX11_layWord_144 : decode cX11_layWord 144 = .ok (.iload_n 1, 1) := by decide +kernel
theorem dX11_layWord_145 : decode cX11_layWord 145 = .ok (.iload_n 3, 1) := by decide +kernel
theorem dX11_layWord_146 : decode cX11_layWord 146 = .ok (.iastore, 1) := by decide +kernel
theorem dX11_layWord_147 : decode cX11_layWord 147 = .ok (.goto 21, 3) := by decide +kernel
theorem dX11_layWord_150 : decode cX11_layWord 150 = .ok (.aload_n 0, 1) := by decide +kernel
theorem dX11_layWord_151 : decode cX11_layWord 151 = .ok (.getfield 46, 3) := by decide +kernel
theorem dX11_layWord_154 : decode cX11_layWord 154 = .ok (.iload_n 1, 1) := by decide +kernel
theorem dX11_layWord_155 : decode cX11_layWord 155 = .ok (.dup2, 1) := by decide +kernel
theorem dX11_layWord_156 : decode cX11_layWord 156 = .ok (.iaload, 1) := by decide +kernel
theorem dX11_layWord_157 : decode cX11_layWord 157 = .ok (.iconst 1, 1) := by decide +kernel
theorem dX11_layWord_158 : decode cX11_layWord 158 = .ok (.iload_n 3, 1) := by decide +kernel
theorem dX11_layWord_159 : decode cX11_layWord 159 = .ok (.bipush 48, 2) := by decide +kernel
theorem dX11_layWord_161 : decode cX11_layWord 161 = .ok (.isub, 1) := by decide +kernel
theorem dX11_layWord_162 : decode cX11_layWord 162 = .ok (.ishl, 1) := by decide +kernel
theorem dX11_layWord_163 : decode cX11_layWord 163 = .ok (.ior, 1) := by decide +kernel
theorem dX11_layWord_164 : decode cX11_layWord 164 = .ok (.iastore, 1) := by decide +kernel
theorem dX11_layWord_165 : decode cX11_layWord 165 = .ok (.goto 3, 3) := by decide +kernel
theorem dX11_layWord_168 : decode cX11_layWord 168 = .ok (.return_, 1) := by decide +kernel
theorem dX11_law_0 : decode cX11_law 0 = .ok (.iload_n 1, 1) := by decide +kernel
theorem dX11_law_1 : decode cX11_law 1 = .ok (.invokestatic 156, 3) := by decide +kernel
theorem dX11_law_4 : decode cX11_law 4 = .ok (.ifCond .eq 18, 3) := by decide +kernel
theorem dX11_law_7 : decode cX11_law 7 = .ok (.iload_n 2, 1) := by decide +kernel
theorem dX11_law_8 : decode cX11_law 8 = .ok (.i2l, 1) := by decide +kernel
theorem dX11_law_9 : decode cX11_law 9 = .ok (.iload_n 1, 1) := by decide +kernel
theorem dX11_law_10 : decode cX11_law 10 = .ok (.iconst 1, 1) := by decide +kernel
theorem dX11_law_11 : decode cX11_law 11 = .ok (.iadd, 1) := by decide +kernel
theorem dX11_law_12 : decode cX11_law 12 = .ok (.i2l, 1) := by decide +kernel
theorem dX11_law_13 : decode cX11_law 13 = .ok (.ldc2_w 159, 3) := by decide +kernel
theorem dX11_law_16 : decode cX11_law 16 = .ok (.invokestatic 86, 3) := by decide +kernel
theorem dX11_law_19 : decode cX11_law 19 = .ok (.ifCond .ne 6, 3) := by decide +kernel
theorem dX11_law_22 : decode cX11_law 22 = .ok (.bipush (-2), 2) := by decide +kernel
theorem dX11_law_24 : decode cX11_law 24 = .ok (.ireturn, 1) := by decide +kernel
theorem dX11_law_25 : decode cX11_law 25 = .ok (.aload_n 0, 1) := by decide +kernel
theorem dX11_law_26 : decode cX11_law 26 = .ok (.invokevirtual 161, 3) := by decide +kernel
theorem dX11_law_29 : decode cX11_law 29 = .ok (.ifCond .lt 6, 3) := by decide +kernel
theorem dX11_law_32 : decode cX11_law 32 = .ok (.bipush (-5), 2) := by decide +kernel
theorem dX11_law_34 : decode cX11_law 34 = .ok (.ireturn, 1) := by decide +kernel
theorem dX11_law_35 : decode cX11_law 35 = .ok (.aload_n 0, 1) := by decide +kernel
theorem dX11_law_36 : decode cX11_law 36 = .ok (.getfield 149, 3) := by decide +kernel
theorem dX11_law_39 : decode cX11_law 39 = .ok (.bipush 8, 2) := by decide +kernel
theorem dX11_law_41 : decode cX11_law 41 = .ok (.if_icmp .ne 6, 3) := by decide +kernel
theorem dX11_law_44 : decode cX11_law 44 = .ok (.bipush (-4), 2) := by decide +kernel
theorem dX11_law_46 : decode cX11_law 46 = .ok (.ireturn, 1) := by decide +kernel
theorem dX11_law_47 : decode cX11_law 47 = .ok (.aload_n 0, 1) := by decide +kernel
theorem dX11_law_48 : decode cX11_law 48 = .ok (.getfield 13, 3) := by decide +kernel
theorem dX11_law_51 : decode cX11_law 51 = .ok (.aload_n 0, 1) := by decide +kernel
theorem dX11_law_52 : decode cX11_law 52 = .ok (.getfield 149, 3) := by decide +kernel
theorem dX11_law_55 : decode cX11_law 55 = .ok (.iload_n 1, 1) := by decide +kernel
theorem dX11_law_56 : decode cX11_law 56 = .ok (.iastore, 1) := by decide +kernel
theorem dX11_law_57 : decode cX11_law 57 = .ok (.aload_n 0, 1) := by decide +kernel
theorem dX11_law_58 : decode cX11_law 58 = .ok (.getfield 16, 3) := by decide +kernel
theorem dX11_law_61 : decode cX11_law 61 = .ok (.aload_n 0, 1) := by decide +kernel
theorem dX11_law_62 : decode cX11_law 62 = .ok (.getfield 149, 3) := by decide +kernel
theorem dX11_law_65 : decode cX11_law 65 = .ok (.iload_n 2, 1) := by decide +kernel
theorem dX11_law_66 : decode cX11_law 66 = .ok (.iastore, 1) := by decide +kernel
theorem dX11_law_67 : decode cX11_law 67 = .ok (.aload_n 0, 1) := by decide +kernel
theorem dX11_law_68 : decode cX11_law 68 = .ok (.aload_n 0, 1) := by decide +kernel
theorem dX11_law_69 : decode cX11_law 69 = .ok (.getfield 149, 3) := by decide +kernel
theorem dX11_law_72 : decode cX11_law 72 = .ok (.invokevirtual 165, 3) := by decide +kernel
theorem dX11_law_75 : decode cX11_law 75 = .ok (.aload_n 0, 1) := by decide +kernel
theorem dX11_law_76 : decode cX11_law 76 = .ok (.dup, 1) := by decide +kernel
theorem dX11_law_77 : decode cX11_law 77 = .ok (.getfield 149, 3) := by decide +kernel
theorem dX11_law_80 : decode cX11_law 80 = .ok (.iconst 1, 1) := by decide +kernel
theorem dX11_law_81 : decode cX11_law 81 = .ok (.iadd, 1) := by decide +kernel
theorem dX11_law_82 : decode cX11_law 82 = .ok (.putfield 149, 3) := by decide +kernel
theorem dX11_law_85 : decode cX11_law 85 = .ok (.aload_n 0, 1) := by decide +kernel
theorem dX11_law_86 : decode cX11_law 86 = .ok (.getfield 149, 3) := by decide +kernel
theorem dX11_law_89 : decode cX11_law 89 = .ok (.iconst 1, 1) := by decide +kernel
theorem dX11_law_90 : decode cX11_law 90 = .ok (.isub, 1) := by decide +kernel
theorem dX11_law_91 : decode cX11_law 91 = .ok (.ireturn, 1) := by decide +kernel
theorem dX11_anew_0 : decode cX11_anew 0 = .ok (.aload_n 0, 1) := by decide +kernel
theorem dX11_anew_1 : decode cX11_anew 1 = .ok (.iload_n 1, 1) := by decide +kernel
theorem dX11_anew_2 : decode cX11_anew 2 = .ok (.invokevirtual 169, 3) := by decide +kernel
theorem dX11_anew_5 : decode cX11_anew 5 = .ok (.ifCond .ne 5, 3) := by decide +kernel
theorem dX11_anew_8 : decode cX11_anew 8 = .ok (.iconst (-1), 1) := by decide +kernel
theorem dX11_anew_9 : decode cX11_anew 9 = .ok (.ireturn, 1) := by decide +kernel
theorem dX11_anew_10 : decode cX11_anew 10 = .ok (.aload_n 0, 1) := by decide +kernel
theorem dX11_anew_11 : decode cX11_anew 11 = .ok (.invokevirtual 161, 3) := by decide +kernel
theorem dX11_anew_14 : decode cX11_anew 14 = .ok (.ifCond .lt 6, 3) := by decide +kernel
theorem dX11_anew_17 : decode cX11_anew 17 = .ok (.bipush (-5), 2) := by decide +kernel
theorem dX11_anew_19 : decode cX11_anew 19 = .ok (.ireturn, 1) := by decide +kernel
theorem dX11_anew_20 : decode cX11_anew 20 = .ok (.aload_n 0, 1) := by decide +kernel
theorem dX11_anew_21 : decode cX11_anew 21 = .ok (.iload_n 1, 1) := by decide +kernel
theorem dX11_anew_22 : decode cX11_anew 22 = .ok (.invokevirtual 165, 3) := by decide +kernel
theorem dX11_anew_25 : decode cX11_anew 25 = .ok (.aload_n 0, 1) := by decide +kernel
theorem dX11_anew_26 : decode cX11_anew 26 = .ok (.getfield 19, 3) := by decide +kernel
theorem dX11_anew_29 : decode cX11_anew 29 = .ok (.iload_n 1, 1) := by decide +kernel
theorem dX11_anew_30 : decode cX11_anew 30 = .ok (.iaload, 1) := by decide +kernel
theorem dX11_anew_31 : decode cX11_anew 31 = .ok (.ireturn, 1) := by decide +kernel
theorem dX11_move_0 : decode cX11_move 0 = .ok (.aload_n 0, 1) := by decide +kernel
theorem dX11_move_1 : decode cX11_move 1 = .ok (.iload_n 1, 1) := by decide +kernel
theorem dX11_move_2 : decode cX11_move 2 = .ok (.invokevirtual 169, 3) := by decide +kernel
theorem dX11_move_5 : decode cX11_move 5 = .ok (.ifCond .ne 5, 3) := by decide +kernel
theorem dX11_move_8 : decode cX11_move 8 = .ok (.iconst (-1), 1) := by decide +kernel
theorem dX11_move_9 : decode cX11_move 9 = .ok (.ireturn, 1) := by decide +kernel
theorem dX11_move_10 : decode cX11_move 10 = .ok (.iload_n 2, 1) := by decide +kernel
theorem dX11_move_11 : decode cX11_move 11 = .ok (.ifCond .ne 39, 3) := by decide +kernel
theorem dX11_move_14 : decode cX11_move 14 = .ok (.iload_n 3, 1) := by decide +kernel
theorem dX11_move_15 : decode cX11_move 15 = .ok (.i2l, 1) := by decide +kernel
theorem dX11_move_16 : decode cX11_move 16 = .ok (.lconst 0, 1) := by decide +kernel
theorem dX11_move_17 : decode cX11_move 17 = .ok (.aload_n 0, 1) := by decide +kernel
theorem dX11_move_18 : decode cX11_move 18 = .ok (.getfield 16, 3) := by decide +kernel
theorem dX11_move_21 : decode cX11_move 21 = .ok (.iload_n 1, 1) := by decide +kernel
theorem dX11_move_22 : decode cX11_move 22 = .ok (.iaload, 1) := by decide +kernel
theorem dX11_move_23 : decode cX11_move 23 = .ok (.iconst 1, 1) := by decide +kernel
theorem dX11_move_24 : decode cX11_move 24 = .ok (.isub, 1) := by decide +kernel
theorem dX11_move_25 : decode cX11_move 25 = .ok (.i2l, 1) := by decide +kernel
theorem dX11_move_26 : decode cX11_move 26 = .ok (.invokestatic 86, 3) := by decide +kernel
theorem dX11_move_29 : decode cX11_move 29 = .ok (.ifCond .eq 21, 3) := by decide +kernel
theorem dX11_move_32 : decode cX11_move 32 = .ok (.aload_n 0, 1) := by decide +kernel
theorem dX11_move_33 : decode cX11_move 33 = .ok (.getfield 13, 3) := by decide +kernel
theorem dX11_move_36 : decode cX11_move 36 = .ok (.iload_n 1, 1) := by decide +kernel
theorem dX11_move_37 : decode cX11_move 37 = .ok (.iaload, 1) := by decide +kernel
theorem dX11_move_38 : decode cX11_move 38 = .ok (.istore 4, 2) := by decide +kernel
theorem dX11_move_40 : decode cX11_move 40 = .ok (.aload_n 0, 1) := by decide +kernel
theorem dX11_move_41 : decode cX11_move 41 = .ok (.getfield 13, 3) := by decide +kernel
theorem dX11_move_44 : decode cX11_move 44 = .ok (.iload_n 1, 1) := by decide +kernel
theorem dX11_move_45 : decode cX11_move 45 = .ok (.iload_n 3, 1) := by decide +kernel
theorem dX11_move_46 : decode cX11_move 46 = .ok (.iastore, 1) := by decide +kernel
theorem dX11_move_47 : decode cX11_move 47 = .ok (.iload 4, 2) := by decide +kernel
theorem dX11_move_49 : decode cX11_move 49 = .ok (.ireturn, 1) := by decide +kernel
theorem dX11_move_50 : decode cX11_move 50 = .ok (.iload_n 2, 1) := by decide +kernel
theorem dX11_move_51 : decode cX11_move 51 = .ok (.iconst 1, 1) := by decide +kernel
theorem dX11_move_52 : decode cX11_move 52 = .ok (.if_icmp .ne 41, 3) := by decide +kernel
theorem dX11_move_55 : decode cX11_move 55 = .ok (.iload_n 3, 1) := by decide +kernel
theorem dX11_move_56 : decode cX11_move 56 = .ok (.i2l, 1) := by decide +kernel
theorem dX11_move_57 : decode cX11_move 57 = .ok (.aload_n 0, 1) := by decide +kernel
theorem dX11_move_58 : decode cX11_move 58 = .ok (.getfield 13, 3) := by decide +kernel
theorem dX11_move_61 : decode cX11_move 61 = .ok (.iload_n 1, 1) := by decide +kernel
theorem dX11_move_62 : decode cX11_move 62 = .ok (.iaload, 1) := by decide +kernel
theorem dX11_move_63 : decode cX11_move 63 = .ok (.iconst 1, 1) := by decide +kernel
theorem dX11_move_64 : decode cX11_move 64 = .ok (.iadd, 1) := by decide +kernel
theorem dX11_move_65 : decode cX11_move 65 = .ok (.i2l, 1) := by decide +kernel
theorem dX11_move_66 : decode cX11_move 66 = .ok (.ldc2_w 159, 3) := by decide +kernel
theorem dX11_move_69 : decode cX11_move 69 = .ok (.invokestatic 86, 3) := by decide +kernel
theorem dX11_move_72 : decode cX11_move 72 = .ok (.ifCond .eq 21, 3) := by decide +kernel
theorem dX11_move_75 : decode cX11_move 75 = .ok (.aload_n 0, 1) := by decide +kernel
theorem dX11_move_76 : decode cX11_move 76 = .ok (.getfield 16, 3) := by decide +kernel
theorem dX11_move_79 : decode cX11_move 79 = .ok (.iload_n 1, 1) := by decide +kernel
theorem dX11_move_80 : decode cX11_move 80 = .ok (.iaload, 1) := by decide +kernel
theorem dX11_move_81 : decode cX11_move 81 = .ok (.istore 4, 2) := by decide +kernel
theorem dX11_move_83 : decode cX11_move 83 = .ok (.aload_n 0, 1) := by decide +kernel
theorem dX11_move_84 : decode cX11_move 84 = .ok (.getfield 16, 3) := by decide +kernel
theorem dX11_move_87 : decode cX11_move 87 = .ok (.iload_n 1, 1) := by decide +kernel
theorem dX11_move_88 : decode cX11_move 88 = .ok (.iload_n 3, 1) := by decide +kernel
theorem dX11_move_89 : decode cX11_move 89 = .ok (.iastore, 1) := by decide +kernel
theorem dX11_move_90 : decode cX11_move 90 = .ok (.iload 4, 2) := by decide +kernel
theorem dX11_move_92 : decode cX11_move 92 = .ok (.ireturn, 1) := by decide +kernel
theorem dX11_move_93 : decode cX11_move 93 = .ok (.bipush (-2), 2) := by decide +kernel
theorem dX11_move_95 : decode cX11_move 95 = .ok (.ireturn, 1) := by decide +kernel
theorem dX11_of_0 : decode cX11_of 0 = .ok (.aload_n 0, 1) := by decide +kernel
theorem dX11_of_1 : decode cX11_of 1 = .ok (.iload_n 1, 1) := by decide +kernel
theorem dX11_of_2 : decode cX11_of 2 = .ok (.invokevirtual 169, 3) := by decide +kernel
theorem dX11_of_5 : decode cX11_of 5 = .ok (.ifCond .ne 5, 3) := by decide +kernel
theorem dX11_of_8 : decode cX11_of 8 = .ok (.iconst (-1), 1) := by decide +kernel
theorem dX11_of_9 : decode cX11_of 9 = .ok (.ireturn, 1) := by decide +kernel
theorem dX11_of_10 : decode cX11_of 10 = .ok (.iload_n 2, 1) := by decide +kernel
theorem dX11_of_11 : decode cX11_of 11 = .ok (.tableswitch 123 0 9 #[53, 60, 67, 74, 81, 88, 95, 102, 109, 116], 53) := by decide +kernel
theorem dX11_of_64 : decode cX11_of 64 = .ok (.aload_n 0, 1) := by decide +kernel
theorem dX11_of_65 : decode cX11_of 65 = .ok (.getfield 13, 3) := by decide +kernel
theorem dX11_of_68 : decode cX11_of 68 = .ok (.iload_n 1, 1) := by decide +kernel
theorem dX11_of_69 : decode cX11_of 69 = .ok (.iaload, 1) := by decide +kernel
theorem dX11_of_70 : decode cX11_of 70 = .ok (.ireturn, 1) := by decide +kernel
theorem dX11_of_71 : decode cX11_of 71 = .ok (.aload_n 0, 1) := by decide +kernel
theorem dX11_of_72 : decode cX11_of 72 = .ok (.getfield 16, 3) := by decide +kernel
theorem dX11_of_75 : decode cX11_of 75 = .ok (.iload_n 1, 1) := by decide +kernel
theorem dX11_of_76 : decode cX11_of 76 = .ok (.iaload, 1) := by decide +kernel
theorem dX11_of_77 : decode cX11_of 77 = .ok (.ireturn, 1) := by decide +kernel
theorem dX11_of_78 : decode cX11_of 78 = .ok (.aload_n 0, 1) := by decide +kernel
theorem dX11_of_79 : decode cX11_of 79 = .ok (.getfield 19, 3) := by decide +kernel
theorem dX11_of_82 : decode cX11_of 82 = .ok (.iload_n 1, 1) := by decide +kernel
theorem dX11_of_83 : decode cX11_of 83 = .ok (.iaload, 1) := by decide +kernel
theorem dX11_of_84 : decode cX11_of 84 = .ok (.ireturn, 1) := by decide +kernel
theorem dX11_of_85 : decode cX11_of 85 = .ok (.aload_n 0, 1) := by decide +kernel
theorem dX11_of_86 : decode cX11_of 86 = .ok (.getfield 28, 3) := by decide +kernel
theorem dX11_of_89 : decode cX11_of 89 = .ok (.iload_n 1, 1) := by decide +kernel
theorem dX11_of_90 : decode cX11_of 90 = .ok (.iaload, 1) := by decide +kernel
theorem dX11_of_91 : decode cX11_of 91 = .ok (.ireturn, 1) := by decide +kernel
theorem dX11_of_92 : decode cX11_of 92 = .ok (.aload_n 0, 1) := by decide +kernel
theorem dX11_of_93 : decode cX11_of 93 = .ok (.getfield 31, 3) := by decide +kernel
theorem dX11_of_96 : decode cX11_of 96 = .ok (.iload_n 1, 1) := by decide +kernel
theorem dX11_of_97 : decode cX11_of 97 = .ok (.iaload, 1) := by decide +kernel
theorem dX11_of_98 : decode cX11_of 98 = .ok (.ireturn, 1) := by decide +kernel
theorem dX11_of_99 : decode cX11_of 99 = .ok (.aload_n 0, 1) := by decide +kernel
theorem dX11_of_100 : decode cX11_of 100 = .ok (.getfield 34, 3) := by decide +kernel
theorem dX11_of_103 : decode cX11_of 103 = .ok (.iload_n 1, 1) := by decide +kernel
theorem dX11_of_104 : decode cX11_of 104 = .ok (.iaload, 1) := by decide +kernel
theorem dX11_of_105 : decode cX11_of 105 = .ok (.ireturn, 1) := by decide +kernel
theorem dX11_of_106 : decode cX11_of 106 = .ok (.aload_n 0, 1) := by decide +kernel
theorem dX11_of_107 : decode cX11_of 107 = .ok (.getfield 37, 3) := by decide +kernel
theorem dX11_of_110 : decode cX11_of 110 = .ok (.iload_n 1, 1) := by decide +kernel
theorem dX11_of_111 : decode cX11_of 111 = .ok (.iaload, 1) := by decide +kernel
theorem dX11_of_112 : decode cX11_of 112 = .ok (.ireturn, 1) := by decide +kernel
theorem dX11_of_113 : decode cX11_of 113 = .ok (.aload_n 0, 1) := by decide +kernel
theorem dX11_of_114 : decode cX11_of 114 = .ok (.getfield 40, 3) := by decide +kernel
theorem dX11_of_117 : decode cX11_of 117 = .ok (.iload_n 1, 1) := by decide +kernel
theorem dX11_of_118 : decode cX11_of 118 = .ok (.iaload, 1) := by decide +kernel
theorem dX11_of_119 : decode cX11_of 119 = .ok (.ireturn, 1) := by decide +kernel
theorem dX11_of_120 : decode cX11_of 120 = .ok (.aload_n 0, 1) := by decide +kernel
theorem dX11_of_121 : decode cX11_of 121 = .ok (.getfield 43, 3) := by decide +kernel
theorem dX11_of_124 : decode cX11_of 124 = .ok (.iload_n 1, 1) := by decide +kernel
theorem dX11_of_125 : decode cX11_of 125 = .ok (.iaload, 1) := by decide +kernel
theorem dX11_of_126 : decode cX11_of 126 = .ok (.ireturn, 1) := by decide +kernel
theorem dX11_of_127 : decode cX11_of 127 = .ok (.aload_n 0, 1) := by decide +kernel
theorem dX11_of_128 : decode cX11_of 128 = .ok (.getfield 46, 3) := by decide +kernel
theorem dX11_of_131 : decode cX11_of 131 = .ok (.iload_n 1, 1) := by decide +kernel
theorem dX11_of_132 : decode cX11_of 132 = .ok (.iaload, 1) := by decide +kernel
theorem dX11_of_133 : decode cX11_of 133 = .ok (.ireturn, 1) := by decide +kernel
theorem dX11_of_134 : decode cX11_of 134 = .ok (.bipush (-2), 2) := by decide +kernel
theorem dX11_of_136 : decode cX11_of 136 = .ok (.ireturn, 1) := by decide +kernel
theorem dX11_part_0 : decode cX11_part 0 = .ok (.aload_n 0, 1) := by decide +kernel
theorem dX11_part_1 : decode cX11_part 1 = .ok (.iload_n 1, 1) := by decide +kernel
theorem dX11_part_2 : decode cX11_part 2 = .ok (.invokevirtual 169, 3) := by decide +kernel
theorem dX11_part_5 : decode cX11_part 5 = .ok (.ifCond .eq 21, 3) := by decide +kernel
theorem dX11_part_8 : decode cX11_part 8 = .ok (.iload_n 2, 1) := by decide +kernel
theorem dX11_part_9 : decode cX11_part 9 = .ok (.i2l, 1) := by decide +kernel
theorem dX11_part_10 : decode cX11_part 10 = .ok (.lconst 0, 1) := by decide +kernel
theorem dX11_part_11 : decode cX11_part 11 = .ok (.aload_n 0, 1) := by decide +kernel
theorem dX11_part_12 : decode cX11_part 12 = .ok (.getfield 19, 3) := by decide +kernel
theorem dX11_part_15 : decode cX11_part 15 = .ok (.iload_n 1, 1) := by decide +kernel
theorem dX11_part_16 : decode cX11_part 16 = .ok (.iaload, 1) := by decide +kernel
theorem dX11_part_17 : decode cX11_part 17 = .ok (.iconst 1, 1) := by decide +kernel
theorem dX11_part_18 : decode cX11_part 18 = .ok (.isub, 1) := by decide +kernel
theorem dX11_part_19 : decode cX11_part 19 = .ok (.i2l, 1) := by decide +kernel
theorem dX11_part_20 : decode cX11_part 20 = .ok (.invokestatic 86, 3) := by decide +kernel
theorem dX11_part_23 : decode cX11_part 23 = .ok (.ifCond .ne 5, 3) := by decide +kernel
theorem dX11_part_26 : decode cX11_part 26 = .ok (.iconst (-1), 1) := by decide +kernel
theorem dX11_part_27 : decode cX11_part 27 = .ok (.ireturn, 1) := by decide +kernel
theorem dX11_part_28 : decode cX11_part 28 = .ok (.iload_n 3, 1) := by decide +kernel
theorem dX11_part_29 : decode cX11_part 29 = .ok (.ifCond .ne 17, 3) := by decide +kernel
theorem dX11_part_32 : decode cX11_part 32 = .ok (.aload_n 0, 1) := by decide +kernel
theorem dX11_part_33 : decode cX11_part 33 = .ok (.getfield 22, 3) := by decide +kernel
theorem dX11_part_36 : decode cX11_part 36 = .ok (.bipush 6, 2) := by decide +kernel
theorem dX11_part_38 : decode cX11_part 38 = .ok (.iload_n 1, 1) := by decide +kernel
theorem dX11_part_39 : decode cX11_part 39 = .ok (.imul, 1) := by decide +kernel
theorem dX11_part_40 : decode cX11_part 40 = .ok (.iload_n 2, 1) := by decide +kernel
theorem dX11_part_41 : decode cX11_part 41 = .ok (.iadd, 1) := by decide +kernel
theorem dX11_part_42 : decode cX11_part 42 = .ok (.iaload, 1) := by decide +kernel
theorem dX11_part_43 : decode cX11_part 43 = .ok (.goto 24, 3) := by decide +kernel
theorem dX11_part_46 : decode cX11_part 46 = .ok (.iload_n 3, 1) := by decide +kernel
theorem dX11_part_47 : decode cX11_part 47 = .ok (.iconst 1, 1) := by decide +kernel
theorem dX11_part_48 : decode cX11_part 48 = .ok (.if_icmp .ne 17, 3) := by decide +kernel
theorem dX11_part_51 : decode cX11_part 51 = .ok (.aload_n 0, 1) := by decide +kernel
theorem dX11_part_52 : decode cX11_part 52 = .ok (.getfield 25, 3) := by decide +kernel
theorem dX11_part_55 : decode cX11_part 55 = .ok (.bipush 6, 2) := by decide +kernel
theorem dX11_part_57 : decode cX11_part 57 = .ok (.iload_n 1, 1) := by decide +kernel
theorem dX11_part_58 : decode cX11_part 58 = .ok (.imul, 1) := by decide +kernel
theorem dX11_part_59 : decode cX11_part 59 = .ok (.iload_n 2, 1) := by decide +kernel
theorem dX11_part_60 : decode cX11_part 60 = .ok (.iadd, 1) := by decide +kernel
theorem dX11_part_61 : decode cX11_part 61 = .ok (.iaload, 1) := by decide +kernel
theorem dX11_part_62 : decode cX11_part 62 = .ok (.goto 5, 3) := by decide +kernel
theorem dX11_part_65 : decode cX11_part 65 = .ok (.bipush (-2), 2) := by decide +kernel
theorem dX11_part_67 : decode cX11_part 67 = .ok (.ireturn, 1) := by decide +kernel
theorem dX11_isInForce_0 : decode cX11_isInForce 0 = .ok (.iload_n 2, 1) := by decide +kernel
theorem dX11_isInForce_1 : decode cX11_isInForce 1 = .ok (.i2l, 1) := by decide +kernel
theorem dX11_isInForce_2 : decode cX11_isInForce 2 = .ok (.aload_n 0, 1) := by decide +kernel
theorem dX11_isInForce_3 : decode cX11_isInForce 3 = .ok (.getfield 13, 3) := by decide +kernel
theorem dX11_isInForce_6 : decode cX11_isInForce 6 = .ok (.iload_n 1, 1) := by decide +kernel
theorem dX11_isInForce_7 : decode cX11_isInForce 7 = .ok (.iaload, 1) := by decide +kernel
theorem dX11_isInForce_8 : decode cX11_isInForce 8 = .ok (.i2l, 1) := by decide +kernel
theorem dX11_isInForce_9 : decode cX11_isInForce 9 = .ok (.aload_n 0, 1) := by decide +kernel
theorem dX11_isInForce_10 : decode cX11_isInForce 10 = .ok (.getfield 16, 3) := by decide +kernel
theorem dX11_isInForce_13 : decode cX11_isInForce 13 = .ok (.iload_n 1, 1) := by decide +kernel
theorem dX11_isInForce_14 : decode cX11_isInForce 14 = .ok (.iaload, 1) := by decide +kernel
theorem dX11_isInForce_15 : decode cX11_isInForce 15 = .ok (.iconst 1, 1) := by decide +kernel
theorem dX11_isInForce_16 : decode cX11_isInForce 16 = .ok (.isub, 1) := by decide +kernel
theorem dX11_isInForce_17 : decode cX11_isInForce 17 = .ok (.i2l, 1) := by decide +kernel
theorem dX11_isInForce_18 : decode cX11_isInForce 18 = .ok (.invokestatic 86, 3) := by decide +kernel
theorem dX11_isInForce_21 : decode cX11_isInForce 21 = .ok (.ireturn, 1) := by decide +kernel
theorem dX11_forceOf_0 : decode cX11_forceOf 0 = .ok (.iconst 0, 1) := by decide +kernel
theorem dX11_forceOf_1 : decode cX11_forceOf 1 = .ok (.istore_n 2, 1) := by decide +kernel
theorem dX11_forceOf_2 : decode cX11_forceOf 2 = .ok (.iconst 0, 1) := by decide +kernel
theorem dX11_forceOf_3 : decode cX11_forceOf 3 = .ok (.istore_n 3, 1) := by decide +kernel
theorem dX11_forceOf_4 : decode cX11_forceOf 4 = .ok (.iload_n 3, 1) := by decide +kernel
theorem dX11_forceOf_5 : decode cX11_forceOf 5 = .ok (.aload_n 0, 1) := by decide +kernel
theorem dX11_forceOf_6 : decode cX11_forceOf 6 = .ok (.getfield 149, 3) := by decide +kernel
theorem dX11_forceOf_9 : decode cX11_forceOf 9 = .ok (.if_icmp .ge 28, 3) := by decide +kernel
theorem dX11_forceOf_12 : decode cX11_forceOf 12 = .ok (.iload_n 2, 1) := by decide +kernel
theorem dX11_forceOf_13 : decode cX11_forceOf 13 = .ok (.aload_n 0, 1) := by decide +kernel
theorem dX11_forceOf_14 : decode cX11_forceOf 14 = .ok (.iload_n 3, 1) := by decide +kernel
theorem dX11_forceOf_15 : decode cX11_forceOf 15 = .ok (.iload_n 1, 1) := by decide +kernel
theorem dX11_forceOf_16 : decode cX11_forceOf 16 = .ok (.invokevirtual 172, 3) := by decide +kernel
theorem dX11_forceOf_19 : decode cX11_forceOf 19 = .ok (.ifCond .eq 9, 3) := by decide +kernel
theorem dX11_forceOf_22 : decode cX11_forceOf 22 = .ok (.iconst 1, 1) := by decide +kernel
theorem dX11_forceOf_23 : decode cX11_forceOf 23 = .ok (.iload_n 3, 1) := by decide +kernel
theorem dX11_forceOf_24 : decode cX11_forceOf 24 = .ok (.ishl, 1) := by decide +kernel
theorem dX11_forceOf_25 : decode cX11_forceOf 25 = .ok (.goto 4, 3) := by decide +kernel
theorem dX11_forceOf_28 : decode cX11_forceOf 28 = .ok (.iconst 0, 1) := by decide +kernel
theorem dX11_forceOf_29 : decode cX11_forceOf 29 = .ok (.ior, 1) := by decide +kernel
theorem dX11_forceOf_30 : decode cX11_forceOf 30 = .ok (.istore_n 2, 1) := by decide +kernel
theorem dX11_forceOf_31 : decode cX11_forceOf 31 = .ok (.iinc 3 1, 3) := by decide +kernel
theorem dX11_forceOf_34 : decode cX11_forceOf 34 = .ok (.goto (-30), 3) := by decide +kernel
theorem dX11_forceOf_37 : decode cX11_forceOf 37 = .ok (.iload_n 2, 1) := by decide +kernel
theorem dX11_forceOf_38 : decode cX11_forceOf 38 = .ok (.ireturn, 1) := by decide +kernel
theorem dX11_undoneOf_0 : decode cX11_undoneOf 0 = .ok (.aload_n 0, 1) := by decide +kernel
theorem dX11_undoneOf_1 : decode cX11_undoneOf 1 = .ok (.iload_n 1, 1) := by decide +kernel
theorem dX11_undoneOf_2 : decode cX11_undoneOf 2 = .ok (.invokevirtual 176, 3) := by decide +kernel
theorem dX11_undoneOf_5 : decode cX11_undoneOf 5 = .ok (.istore_n 2, 1) := by decide +kernel
theorem dX11_undoneOf_6 : decode cX11_undoneOf 6 = .ok (.iconst 0, 1) := by decide +kernel
theorem dX11_undoneOf_7 : decode cX11_undoneOf 7 = .ok (.istore_n 3, 1) := by decide +kernel
theorem dX11_undoneOf_8 : decode cX11_undoneOf 8 = .ok (.iload_n 2, 1) := by decide +kernel
theorem dX11_undoneOf_9 : decode cX11_undoneOf 9 = .ok (.ifCond .eq 113, 3) := by decide +kernel
theorem dX11_undoneOf_12 : decode cX11_undoneOf 12 = .ok (.bipush (-6), 2) := by decide +kernel
theorem dX11_undoneOf_14 : decode cX11_undoneOf 14 = .ok (.istore 4, 2) := by decide +kernel
theorem dX11_undoneOf_16 : decode cX11_undoneOf 16 = .ok (.iconst 0, 1) := by decide +kernel
theorem dX11_undoneOf_17 : decode cX11_undoneOf 17 = .ok (.istore 5, 2) := by decide +kernel
theorem dX11_undoneOf_19 : decode cX11_undoneOf 19 = .ok (.iload 5, 2) := by decide +kernel
theorem dX11_undoneOf_21 : decode cX11_undoneOf 21 = .ok (.aload_n 0, 1) := by decide +kernel
theorem dX11_undoneOf_22 : decode cX11_undoneOf 22 = .ok (.getfield 149, 3) := by decide +kernel
theorem dX11_undoneOf_25 : decode cX11_undoneOf 25 = .ok (.if_icmp .ge 62, 3) := by decide +kernel
theorem dX11_undoneOf_28 : decode cX11_undoneOf 28 = .ok (.iload_n 2, 1) := by decide +kernel
theorem dX11_undoneOf_29 : decode cX11_undoneOf 29 = .ok (.iload 5, 2) := by decide +kernel
theorem dX11_undoneOf_31 : decode cX11_undoneOf 31 = .ok (.ishr, 1) := by decide +kernel
theorem dX11_undoneOf_32 : decode cX11_undoneOf 32 = .ok (.iconst 1, 1) := by decide +kernel
theorem dX11_undoneOf_33 : decode cX11_undoneOf 33 = .ok (.iand, 1) := by decide +kernel
theorem dX11_undoneOf_34 : decode cX11_undoneOf 34 = .ok (.iconst 1, 1) := by decide +kernel
theorem dX11_undoneOf_35 : decode cX11_undoneOf 35 = .ok (.if_icmp .ne 7, 3) := by decide +kernel
theorem dX11_undoneOf_38 : decode cX11_undoneOf 38 = .ok (.iconst 1, 1) := by decide +kernel
theorem dX11_undoneOf_39 : decode cX11_undoneOf 39 = .ok (.goto 4, 3) := by decide +kernel
theorem dX11_undoneOf_42 : decode cX11_undoneOf 42 = .ok (.iconst 0, 1) := by decide +kernel
theorem dX11_undoneOf_43 : decode cX11_undoneOf 43 = .ok (.istore 6, 2) := by decide +kernel
theorem dX11_undoneOf_45 : decode cX11_undoneOf 45 = .ok (.iload 6, 2) := by decide +kernel
theorem dX11_undoneOf_47 : decode cX11_undoneOf 47 = .ok (.ifCond .eq 30, 3) := by decide +kernel
theorem dX11_undoneOf_50 : decode cX11_undoneOf 50 = .ok (.iload 4, 2) := by decide +kernel
theorem dX11_undoneOf_52 : decode cX11_undoneOf 52 = .ok (.ifCond .lt 20, 3) := by decide +kernel
theorem dX11_undoneOf_55 : decode cX11_undoneOf 55 = .ok (.aload_n 0, 1) := by decide +kernel
theorem dX11_undoneOf_56 : decode cX11_undoneOf 56 = .ok (.getfield 13, 3) := by decide +kernel
theorem dX11_undoneOf_59 : decode cX11_undoneOf 59 = .ok (.iload 5, 2) := by decide +kernel
theorem dX11_undoneOf_61 : decode cX11_undoneOf 61 = .ok (.iaload, 1) := by decide +kernel
theorem dX11_undoneOf_62 : decode cX11_undoneOf 62 = .ok (.aload_n 0, 1) := by decide +kernel
theorem dX11_undoneOf_63 : decode cX11_undoneOf 63 = .ok (.getfield 13, 3) := by decide +kernel
theorem dX11_undoneOf_66 : decode cX11_undoneOf 66 = .ok (.iload 4, 2) := by decide +kernel
theorem dX11_undoneOf_68 : decode cX11_undoneOf 68 = .ok (.iaload, 1) := by decide +kernel
theorem dX11_undoneOf_69 : decode cX11_undoneOf 69 = .ok (.if_icmp .lt 8, 3) := by decide +kernel
theorem dX11_undoneOf_72 : decode cX11_undoneOf 72 = .ok (.iload 5, 2) := by decide +kernel
theorem dX11_undoneOf_74 : decode cX11_undoneOf 74 = .ok (.goto 5, 3) := by decide +kernel
theorem dX11_undoneOf_77 : decode cX11_undoneOf 77 = .ok (.iload 4, 2) := by decide +kernel
theorem dX11_undoneOf_79 : decode cX11_undoneOf 79 = .ok (.istore 4, 2) := by decide +kernel
theorem dX11_undoneOf_81 : decode cX11_undoneOf 81 = .ok (.iinc 5 1, 3) := by decide +kernel
theorem dX11_undoneOf_84 : decode cX11_undoneOf 84 = .ok (.goto (-65), 3) := by decide +kernel
theorem dX11_undoneOf_87 : decode cX11_undoneOf 87 = .ok (.iload_n 2, 1) := by decide +kernel
theorem dX11_undoneOf_88 : decode cX11_undoneOf 88 = .ok (.iconst 1, 1) := by decide +kernel
theorem dX11_undoneOf_89 : decode cX11_undoneOf 89 = .ok (.iload 4, 2) := by decide +kernel
theorem dX11_undoneOf_91 : decode cX11_undoneOf 91 = .ok (.ishl, 1) := by decide +kernel
theorem dX11_undoneOf_92 : decode cX11_undoneOf 92 = .ok (.iconst (-1), 1) := by decide +kernel
theorem dX11_undoneOf_93 : decode cX11_undoneOf 93 = .ok (.ixor, 1) := by decide +kernel
theorem dX11_undoneOf_94 : decode cX11_undoneOf 94 = .ok (.iand, 1) := by decide +kernel
theorem dX11_undoneOf_95 : decode cX11_undoneOf 95 = .ok (.istore_n 2, 1) := by decide +kernel
theorem dX11_undoneOf_96 : decode cX11_undoneOf 96 = .ok (.iload_n 3, 1) := by decide +kernel
theorem dX11_undoneOf_97 : decode cX11_undoneOf 97 = .ok (.iload_n 3, 1) := by decide +kernel
theorem dX11_undoneOf_98 : decode cX11_undoneOf 98 = .ok (.iload 4, 2) := by decide +kernel
theorem dX11_undoneOf_100 : decode cX11_undoneOf 100 = .ok (.ishr, 1) := by decide +kernel
theorem dX11_undoneOf_101 : decode cX11_undoneOf 101 = .ok (.iconst 1, 1) := by decide +kernel
theorem dX11_undoneOf_102 : decode cX11_undoneOf 102 = .ok (.iand, 1) := by decide +kernel
theorem dX11_undoneOf_103 : decode cX11_undoneOf 103 = .ok (.ifCond .ne 13, 3) := by decide +kernel
theorem dX11_undoneOf_106 : decode cX11_undoneOf 106 = .ok (.aload_n 0, 1) := by decide +kernel
theorem dX11_undoneOf_107 : decode cX11_undoneOf 107 = .ok (.getfield 46, 3) := by decide +kernel
theorem dX11_undoneOf_110 : decode cX11_undoneOf 110 = .ok (.iload 4, 2) := by decide +kernel
theorem dX11_undoneOf_112 : decode cX11_undoneOf 112 = .ok (.iaload, 1) := by decide +kernel
theorem dX11_undoneOf_113 : decode cX11_undoneOf 113 = .ok (.goto 4, 3) := by decide +kernel
theorem dX11_undoneOf_116 : decode cX11_undoneOf 116 = .ok (.iconst 0, 1) := by decide +kernel
theorem dX11_undoneOf_117 : decode cX11_undoneOf 117 = .ok (.ior, 1) := by decide +kernel
theorem dX11_undoneOf_118 : decode cX11_undoneOf 118 = .ok (.istore_n 3, 1) := by decide +kernel
theorem dX11_undoneOf_119 : decode cX11_undoneOf 119 = .ok (.goto (-111), 3) := by decide +kernel
theorem dX11_undoneOf_122 : decode cX11_undoneOf 122 = .ok (.iload_n 3, 1) := by decide +kernel
theorem dX11_undoneOf_123 : decode cX11_undoneOf 123 = .ok (.iconst 1, 1) := by decide +kernel
theorem dX11_undoneOf_124 : decode cX11_undoneOf 124 = .ok (.aload_n 0, 1) := by decide +kernel
theorem dX11_undoneOf_125 : decode cX11_undoneOf 125 = .ok (.getfield 149, 3) := by decide +kernel
theorem dX11_undoneOf_128 : decode cX11_undoneOf 128 = .ok (.ishl, 1) := by decide +kernel
theorem dX11_undoneOf_129 : decode cX11_undoneOf 129 = .ok (.iconst 1, 1) := by decide +kernel
theorem dX11_undoneOf_130 : decode cX11_undoneOf 130 = .ok (.isub, 1) := by decide +kernel
theorem dX11_undoneOf_131 : decode cX11_undoneOf 131 = .ok (.iand, 1) := by decide +kernel
theorem dX11_undoneOf_132 : decode cX11_undoneOf 132 = .ok (.ireturn, 1) := by decide +kernel
theorem dX11_force_0 : decode cX11_force 0 = .ok (.iload_n 1, 1) := by decide +kernel
theorem dX11_force_1 : decode cX11_force 1 = .ok (.invokestatic 156, 3) := by decide +kernel
theorem dX11_force_4 : decode cX11_force 4 = .ok (.ifCond .eq 15, 3) := by decide +kernel
theorem dX11_force_7 : decode cX11_force 7 = .ok (.iload_n 2, 1) := by decide +kernel
theorem dX11_force_8 : decode cX11_force 8 = .ok (.i2l, 1) := by decide +kernel
theorem dX11_force_9 : decode cX11_force 9 = .ok (.lconst 0, 1) := by decide +kernel
theorem dX11_force_10 : decode cX11_force 10 = .ok (.ldc2_w 179, 3) := by decide +kernel
theorem dX11_force_13 : decode cX11_force 13 = .ok (.invokestatic 86, 3) := by decide +kernel
theorem dX11_force_16 : decode cX11_force 16 = .ok (.ifCond .ne 6, 3) := by decide +kernel
theorem dX11_force_19 : decode cX11_force 19 = .ok (.bipush (-2), 2) := by decide +kernel
theorem dX11_force_21 : decode cX11_force 21 = .ok (.ireturn, 1) := by decide +kernel
theorem dX11_force_22 : decode cX11_force 22 = .ok (.iload_n 2, 1) := by decide +kernel
theorem dX11_force_23 : decode cX11_force 23 = .ok (.ifCond .ne 11, 3) := by decide +kernel
theorem dX11_force_26 : decode cX11_force 26 = .ok (.aload_n 0, 1) := by decide +kernel
theorem dX11_force_27 : decode cX11_force 27 = .ok (.iload_n 1, 1) := by decide +kernel
theorem dX11_force_28 : decode cX11_force 28 = .ok (.invokevirtual 176, 3) := by decide +kernel
theorem dX11_force_31 : decode cX11_force 31 = .ok (.goto 29, 3) := by decide +kernel
theorem dX11_force_34 : decode cX11_force 34 = .ok (.iload_n 2, 1) := by decide +kernel
theorem dX11_force_35 : decode cX11_force 35 = .ok (.iconst 1, 1) := by decide +kernel
theorem dX11_force_36 : decode cX11_force 36 = .ok (.if_icmp .ne 11, 3) := by decide +kernel
theorem dX11_force_39 : decode cX11_force 39 = .ok (.aload_n 0, 1) := by decide +kernel
theorem dX11_force_40 : decode cX11_force 40 = .ok (.iload_n 1, 1) := by decide +kernel
theorem dX11_force_41 : decode cX11_force 41 = .ok (.invokevirtual 181, 3) := by decide +kernel
theorem dX11_force_44 : decode cX11_force 44 = .ok (.goto 16, 3) := by decide +kernel
theorem dX11_force_47 : decode cX11_force 47 = .ok (.aload_n 0, 1) := by decide +kernel
theorem dX11_force_48 : decode cX11_force 48 = .ok (.iload_n 1, 1) := by decide +kernel
theorem dX11_force_49 : decode cX11_force 49 = .ok (.invokevirtual 176, 3) := by decide +kernel
theorem dX11_force_52 : decode cX11_force 52 = .ok (.aload_n 0, 1) := by decide +kernel
theorem dX11_force_53 : decode cX11_force 53 = .ok (.iload_n 1, 1) := by decide +kernel
theorem dX11_force_54 : decode cX11_force 54 = .ok (.invokevirtual 181, 3) := by decide +kernel
theorem dX11_force_57 : decode cX11_force 57 = .ok (.iconst (-1), 1) := by decide +kernel
theorem dX11_force_58 : decode cX11_force 58 = .ok (.ixor, 1) := by decide +kernel
theorem dX11_force_59 : decode cX11_force 59 = .ok (.iand, 1) := by decide +kernel
theorem dX11_force_60 : decode cX11_force 60 = .ok (.ireturn, 1) := by decide +kernel
theorem dX11_open_0 : decode cX11_open 0 = .ok (.iconst 0, 1) := by decide +kernel
theorem dX11_open_1 : decode cX11_open 1 = .ok (.istore_n 2, 1) := by decide +kernel
theorem dX11_open_2 : decode cX11_open 2 = .ok (.iconst 0, 1) := by decide +kernel
theorem dX11_open_3 : decode cX11_open 3 = .ok (.istore_n 3, 1) := by decide +kernel
theorem dX11_open_4 : decode cX11_open 4 = .ok (.iload_n 3, 1) := by decide +kernel
theorem dX11_open_5 : decode cX11_open 5 = .ok (.aload_n 0, 1) := by decide +kernel
theorem dX11_open_6 : decode cX11_open 6 = .ok (.getfield 149, 3) := by decide +kernel
theorem dX11_open_9 : decode cX11_open 9 = .ok (.if_icmp .ge 63, 3) := by decide +kernel
theorem dX11_open_12 : decode cX11_open 12 = .ok (.iconst 0, 1) := by decide +kernel
theorem dX11_open_13 : decode cX11_open 13 = .ok (.istore 4, 2) := by decide +kernel
theorem dX11_open_15 : decode cX11_open 15 = .ok (.iload 4, 2) := by decide +kernel
theorem dX11_open_17 : decode cX11_open 17 = .ok (.iconst 2, 1) := by decide +kernel
theorem dX11_open_18 : decode cX11_open 18 = .ok (.if_icmp .ge 48, 3) := by decide +kernel
theorem dX11_open_21 : decode cX11_open 21 = .ok (.iload 4, 2) := by decide +kernel
theorem dX11_open_23 : decode cX11_open 23 = .ok (.ifCond .ne 12, 3) := by decide +kernel
theorem dX11_open_26 : decode cX11_open 26 = .ok (.aload_n 0, 1) := by decide +kernel
theorem dX11_open_27 : decode cX11_open 27 = .ok (.getfield 31, 3) := by decide +kernel
theorem dX11_open_30 : decode cX11_open 30 = .ok (.iload_n 3, 1) := by decide +kernel
theorem dX11_open_31 : decode cX11_open 31 = .ok (.iaload, 1) := by decide +kernel
theorem dX11_open_32 : decode cX11_open 32 = .ok (.goto 9, 3) := by decide +kernel
theorem dX11_open_35 : decode cX11_open 35 = .ok (.aload_n 0, 1) := by decide +kernel
theorem dX11_open_36 : decode cX11_open 36 = .ok (.getfield 43, 3) := by decide +kernel
theorem dX11_open_39 : decode cX11_open 39 = .ok (.iload_n 3, 1) := by decide +kernel
theorem dX11_open_40 : decode cX11_open 40 = .ok (.iaload, 1) := by decide +kernel
theorem dX11_open_41 : decode cX11_open 41 = .ok (.ifCond .lt 19, 3) := by decide +kernel
theorem dX11_open_44 : decode cX11_open 44 = .ok (.iload_n 2, 1) := by decide +kernel
theorem dX11_open_45 : decode cX11_open 45 = .ok (.iload_n 1, 1) := by decide +kernel
theorem dX11_open_46 : decode cX11_open 46 = .ok (.if_icmp .ne 11, 3) := by decide +kernel
theorem dX11_open_49 : decode cX11_open 49 = .ok (.bipush 10, 2) := by decide +kernel
theorem dX11_open_51 : decode cX11_open 51 = .ok (.iload_n 3, 1) := by decide +kernel
theorem dX11_open_52 : decode cX11_open 52 = .ok (.imul, 1) := by decide +kernel
theorem dX11_open_53 : decode cX11_open 53 = .ok (.iload 4, 2) := by decide +kernel
theorem dX11_open_55 : decode cX11_open 55 = .ok (.iadd, 1) := by decide +kernel
theorem dX11_open_56 : decode cX11_open 56 = .ok (.ireturn, 1) := by decide +kernel
theorem dX11_open_57 : decode cX11_open 57 = .ok (.iinc 2 1, 3) := by decide +kernel
theorem dX11_open_60 : decode cX11_open 60 = .ok (.iinc 4 1, 3) := by decide +kernel
theorem dX11_open_63 : decode cX11_open 63 = .ok (.goto (-48), 3) := by decide +kernel
theorem dX11_open_66 : decode cX11_open 66 = .ok (.iinc 3 1, 3) := by decide +kernel
theorem dX11_open_69 : decode cX11_open 69 = .ok (.goto (-65), 3) := by decide +kernel
theorem dX11_open_72 : decode cX11_open 72 = .ok (.iload_n 1, 1) := by decide +kernel
theorem dX11_open_73 : decode cX11_open 73 = .ok (.iconst (-1), 1) := by decide +kernel
theorem dX11_open_74 : decode cX11_open 74 = .ok (.if_icmp .ne 7, 3) := by decide +kernel
theorem dX11_open_77 : decode cX11_open 77 = .ok (.iload_n 2, 1) := by decide +kernel
theorem dX11_open_78 : decode cX11_open 78 = .ok (.goto 5, 3) := by decide +kernel
theorem dX11_open_81 : decode cX11_open 81 = .ok (.bipush (-6), 2) := by decide +kernel
theorem dX11_open_83 : decode cX11_open 83 = .ok (.ireturn, 1) := by decide +kernel
theorem dX11_isSecond_0 : decode cX11_isSecond 0 = .ok (.iconst 0, 1) := by decide +kernel
theorem dX11_isSecond_1 : decode cX11_isSecond 1 = .ok (.istore_n 3, 1) := by decide +kernel
theorem dX11_isSecond_2 : decode cX11_isSecond 2 = .ok (.iconst 0, 1) := by decide +kernel
theorem dX11_isSecond_3 : decode cX11_isSecond 3 = .ok (.istore 4, 2) := by decide +kernel
theorem dX11_isSecond_5 : decode cX11_isSecond 5 = .ok (.iload 4, 2) := by decide +kernel
theorem dX11_isSecond_7 : decode cX11_isSecond 7 = .ok (.iload_n 1, 1) := by decide +kernel
theorem dX11_isSecond_8 : decode cX11_isSecond 8 = .ok (.if_icmp .gt 62, 3) := by decide +kernel
theorem dX11_isSecond_11 : decode cX11_isSecond 11 = .ok (.iload_n 3, 1) := by decide +kernel
theorem dX11_isSecond_12 : decode cX11_isSecond 12 = .ok (.aload_n 0, 1) := by decide +kernel
theorem dX11_isSecond_13 : decode cX11_isSecond 13 = .ok (.getfield 31, 3) := by decide +kernel
theorem dX11_isSecond_16 : decode cX11_isSecond 16 = .ok (.iload 4, 2) := by decide +kernel
theorem dX11_isSecond_18 : decode cX11_isSecond 18 = .ok (.iaload, 1) := by decide +kernel
theorem dX11_isSecond_19 : decode cX11_isSecond 19 = .ok (.ifCond .lt 18, 3) := by decide +kernel
theorem dX11_isSecond_22 : decode cX11_isSecond 22 = .ok (.iload 4, 2) := by decide +kernel
theorem dX11_isSecond_24 : decode cX11_isSecond 24 = .ok (.iload_n 1, 1) := by decide +kernel
theorem dX11_isSecond_25 : decode cX11_isSecond 25 = .ok (.if_icmp .lt 8, 3) := by decide +kernel
theorem dX11_isSecond_28 : decode cX11_isSecond 28 = .ok (.iload_n 2, 1) := by decide +kernel
theorem dX11_isSecond_29 : decode cX11_isSecond 29 = .ok (.iconst 1, 1) := by decide +kernel
theorem dX11_isSecond_30 : decode cX11_isSecond 30 = .ok (.if_icmp .ne 7, 3) := by decide +kernel
theorem dX11_isSecond_33 : decode cX11_isSecond 33 = .ok (.iconst 1, 1) := by decide +kernel
theorem dX11_isSecond_34 : decode cX11_isSecond 34 = .ok (.goto 4, 3) := by decide +kernel
theorem dX11_isSecond_37 : decode cX11_isSecond 37 = .ok (.iconst 0, 1) := by decide +kernel
theorem dX11_isSecond_38 : decode cX11_isSecond 38 = .ok (.iadd, 1) := by decide +kernel
theorem dX11_isSecond_39 : decode cX11_isSecond 39 = .ok (.istore_n 3, 1) := by decide +kernel
theorem dX11_isSecond_40 : decode cX11_isSecond 40 = .ok (.iload_n 3, 1) := by decide +kernel
theorem dX11_isSecond_41 : decode cX11_isSecond 41 = .ok (.aload_n 0, 1) := by decide +kernel
theorem dX11_isSecond_42 : decode cX11_isSecond 42 = .ok (.getfield 43, 3) := by decide +kernel
theorem dX11_isSecond_45 : decode cX11_isSecond 45 = .ok (.iload 4, 2) := by decide +kernel
theorem dX11_isSecond_47 : decode cX11_isSecond 47 = .ok (.iaload, 1) := by decide +kernel
theorem dX11_isSecond_48 : decode cX11_isSecond 48 = .ok (.ifCond .lt 13, 3) := by decide +kernel
theorem dX11_isSecond_51 : decode cX11_isSecond 51 = .ok (.iload 4, 2) := by decide +kernel
theorem dX11_isSecond_53 : decode cX11_isSecond 53 = .ok (.iload_n 1, 1) := by decide +kernel
theorem dX11_isSecond_54 : decode cX11_isSecond 54 = .ok (.if_icmp .ge 7, 3) := by decide +kernel
theorem dX11_isSecond_57 : decode cX11_isSecond 57 = .ok (.iconst 1, 1) := by decide +kernel
theorem dX11_isSecond_58 : decode cX11_isSecond 58 = .ok (.goto 4, 3) := by decide +kernel
theorem dX11_isSecond_61 : decode cX11_isSecond 61 = .ok (.iconst 0, 1) := by decide +kernel
theorem dX11_isSecond_62 : decode cX11_isSecond 62 = .ok (.iadd, 1) := by decide +kernel
theorem dX11_isSecond_63 : decode cX11_isSecond 63 = .ok (.istore_n 3, 1) := by decide +kernel
theorem dX11_isSecond_64 : decode cX11_isSecond 64 = .ok (.iinc 4 1, 3) := by decide +kernel
theorem dX11_isSecond_67 : decode cX11_isSecond 67 = .ok (.goto (-62), 3) := by decide +kernel
theorem dX11_isSecond_70 : decode cX11_isSecond 70 = .ok (.iload_n 3, 1) := by decide +kernel
theorem dX11_isSecond_71 : decode cX11_isSecond 71 = .ok (.bipush 8, 2) := by decide +kernel
theorem dX11_isSecond_73 : decode cX11_isSecond 73 = .ok (.if_icmp .ge 19, 3) := by decide +kernel
theorem dX11_isSecond_76 : decode cX11_isSecond 76 = .ok (.aload_n 0, 1) := by decide +kernel
theorem dX11_isSecond_77 : decode cX11_isSecond 77 = .ok (.getfield 184, 3) := by decide +kernel
theorem dX11_isSecond_80 : decode cX11_isSecond 80 = .ok (.iload_n 3, 1) := by decide +kernel
theorem dX11_isSecond_81 : decode cX11_isSecond 81 = .ok (.ishr, 1) := by decide +kernel
theorem dX11_isSecond_82 : decode cX11_isSecond 82 = .ok (.iconst 1, 1) := by decide +kernel
theorem dX11_isSecond_83 : decode cX11_isSecond 83 = .ok (.iand, 1) := by decide +kernel
theorem dX11_isSecond_84 : decode cX11_isSecond 84 = .ok (.iconst 1, 1) := by decide +kernel
theorem dX11_isSecond_85 : decode cX11_isSecond 85 = .ok (.if_icmp .ne 7, 3) := by decide +kernel
theorem dX11_isSecond_88 : decode cX11_isSecond 88 = .ok (.iconst 1, 1) := by decide +kernel
theorem dX11_isSecond_89 : decode cX11_isSecond 89 = .ok (.goto 4, 3) := by decide +kernel
theorem dX11_isSecond_92 : decode cX11_isSecond 92 = .ok (.iconst 0, 1) := by decide +kernel
theorem dX11_isSecond_93 : decode cX11_isSecond 93 = .ok (.ireturn, 1) := by decide +kernel
theorem dX11_timeOf_0 : decode cX11_timeOf 0 = .ok (.aload_n 0, 1) := by decide +kernel
theorem dX11_timeOf_1 : decode cX11_timeOf 1 = .ok (.getfield 31, 3) := by decide +kernel
theorem dX11_timeOf_4 : decode cX11_timeOf 4 = .ok (.iload_n 1, 1) := by decide +kernel
theorem dX11_timeOf_5 : decode cX11_timeOf 5 = .ok (.iaload, 1) := by decide +kernel
theorem dX11_timeOf_6 : decode cX11_timeOf 6 = .ok (.ifCond .lt 21, 3) := by decide +kernel
theorem dX11_timeOf_9 : decode cX11_timeOf 9 = .ok (.aload_n 0, 1) := by decide +kernel
theorem dX11_timeOf_10 : decode cX11_timeOf 10 = .ok (.iload_n 1, 1) := by decide +kernel
theorem dX11_timeOf_11 : decode cX11_timeOf 11 = .ok (.iconst 0, 1) := by decide +kernel
theorem dX11_timeOf_12 : decode cX11_timeOf 12 = .ok (.invokevirtual 187, 3) := by decide +kernel
theorem dX11_timeOf_15 : decode cX11_timeOf 15 = .ok (.ifCond .eq 12, 3) := by decide +kernel
theorem dX11_timeOf_18 : decode cX11_timeOf 18 = .ok (.aload_n 0, 1) := by decide +kernel
theorem dX11_timeOf_19 : decode cX11_timeOf 19 = .ok (.getfield 31, 3) := by decide +kernel
theorem dX11_timeOf_22 : decode cX11_timeOf 22 = .ok (.iload_n 1, 1) := by decide +kernel
theorem dX11_timeOf_23 : decode cX11_timeOf 23 = .ok (.iaload, 1) := by decide +kernel
theorem dX11_timeOf_24 : decode cX11_timeOf 24 = .ok (.goto 9, 3) := by decide +kernel
theorem dX11_timeOf_27 : decode cX11_timeOf 27 = .ok (.aload_n 0, 1) := by decide +kernel
theorem dX11_timeOf_28 : decode cX11_timeOf 28 = .ok (.getfield 28, 3) := by decide +kernel
theorem dX11_timeOf_31 : decode cX11_timeOf 31 = .ok (.iload_n 1, 1) := by decide +kernel
theorem dX11_timeOf_32 : decode cX11_timeOf 32 = .ok (.iaload, 1) := by decide +kernel
theorem dX11_timeOf_33 : decode cX11_timeOf 33 = .ok (.ireturn, 1) := by decide +kernel
theorem dX11_wayOf_0 : decode cX11_wayOf 0 = .ok (.aload_n 0, 1) := by decide +kernel
theorem dX11_wayOf_1 : decode cX11_wayOf 1 = .ok (.getfield 49, 3) := by decide +kernel
theorem dX11_wayOf_4 : decode cX11_wayOf 4 = .ok (.ifCond .lt 10, 3) := by decide +kernel
theorem dX11_wayOf_7 : decode cX11_wayOf 7 = .ok (.aload_n 0, 1) := by decide +kernel
theorem dX11_wayOf_8 : decode cX11_wayOf 8 = .ok (.getfield 49, 3) := by decide +kernel
theorem dX11_wayOf_11 : decode cX11_wayOf 11 = .ok (.goto 36, 3) := by decide +kernel
theorem dX11_wayOf_14 : decode cX11_wayOf 14 = .ok (.aload_n 0, 1) := by decide +kernel
theorem dX11_wayOf_15 : decode cX11_wayOf 15 = .ok (.getfield 43, 3) := by decide +kernel
theorem dX11_wayOf_18 : decode cX11_wayOf 18 = .ok (.iload_n 1, 1) := by decide +kernel
theorem dX11_wayOf_19 : decode cX11_wayOf 19 = .ok (.iaload, 1) := by decide +kernel
theorem dX11_wayOf_20 : decode cX11_wayOf 20 = .ok (.ifCond .lt 21, 3) := by decide +kernel
theorem dX11_wayOf_23 : decode cX11_wayOf 23 = .ok (.aload_n 0, 1) := by decide +kernel
theorem dX11_wayOf_24 : decode cX11_wayOf 24 = .ok (.iload_n 1, 1) := by decide +kernel
theorem dX11_wayOf_25 : decode cX11_wayOf 25 = .ok (.iconst 1, 1) := by decide +kernel
theorem dX11_wayOf_26 : decode cX11_wayOf 26 = .ok (.invokevirtual 187, 3) := by decide +kernel
theorem dX11_wayOf_29 : decode cX11_wayOf 29 = .ok (.ifCond .eq 12, 3) := by decide +kernel
theorem dX11_wayOf_32 : decode cX11_wayOf 32 = .ok (.aload_n 0, 1) := by decide +kernel
theorem dX11_wayOf_33 : decode cX11_wayOf 33 = .ok (.getfield 43, 3) := by decide +kernel
theorem dX11_wayOf_36 : decode cX11_wayOf 36 = .ok (.iload_n 1, 1) := by decide +kernel
theorem dX11_wayOf_37 : decode cX11_wayOf 37 = .ok (.iaload, 1) := by decide +kernel
theorem dX11_wayOf_38 : decode cX11_wayOf 38 = .ok (.goto 9, 3) := by decide +kernel
theorem dX11_wayOf_41 : decode cX11_wayOf 41 = .ok (.aload_n 0, 1) := by decide +kernel
theorem dX11_wayOf_42 : decode cX11_wayOf 42 = .ok (.getfield 40, 3) := by decide +kernel
theorem dX11_wayOf_45 : decode cX11_wayOf 45 = .ok (.iload_n 1, 1) := by decide +kernel
theorem dX11_wayOf_46 : decode cX11_wayOf 46 = .ok (.iaload, 1) := by decide +kernel
theorem dX11_wayOf_47 : decode cX11_wayOf 47 = .ok (.ireturn, 1) := by decide +kernel
theorem dX11_isPiece_0 : decode cX11_isPiece 0 = .ok (.iload_n 1, 1) := by decide +kernel
theorem dX11_isPiece_1 : decode cX11_isPiece 1 = .ok (.i2l, 1) := by decide +kernel
theorem dX11_isPiece_2 : decode cX11_isPiece 2 = .ok (.lconst 0, 1) := by decide +kernel
theorem dX11_isPiece_3 : decode cX11_isPiece 3 = .ok (.aload_n 0, 1) := by decide +kernel
theorem dX11_isPiece_4 : decode cX11_isPiece 4 = .ok (.getfield 190, 3) := by decide +kernel
theorem dX11_isPiece_7 : decode cX11_isPiece 7 = .ok (.iconst 1, 1) := by decide +kernel
theorem dX11_isPiece_8 : decode cX11_isPiece 8 = .ok (.isub, 1) := by decide +kernel
theorem dX11_isPiece_9 : decode cX11_isPiece 9 = .ok (.i2l, 1) := by decide +kernel
theorem dX11_isPiece_10 : decode cX11_isPiece 10 = .ok (.invokestatic 86, 3) := by decide +kernel
theorem dX11_isPiece_13 : decode cX11_isPiece 13 = .ok (.ireturn, 1) := by decide +kernel
theorem dX11_layPiece_0 : decode cX11_layPiece 0 = .ok (.aload_n 0, 1) := by decide +kernel
theorem dX11_layPiece_1 : decode cX11_layPiece 1 = .ok (.getfield 53, 3) := by decide +kernel
theorem dX11_layPiece_4 : decode cX11_layPiece 4 = .ok (.iload_n 1, 1) := by decide +kernel
theorem dX11_layPiece_5 : decode cX11_layPiece 5 = .ok (.iload_n 2, 1) := by decide +kernel
theorem dX11_layPiece_6 : decode cX11_layPiece 6 = .ok (.iastore, 1) := by decide +kernel
theorem dX11_layPiece_7 : decode cX11_layPiece 7 = .ok (.aload_n 0, 1) := by decide +kernel
theorem dX11_layPiece_8 : decode cX11_layPiece 8 = .ok (.getfield 56, 3) := by decide +kernel
theorem dX11_layPiece_11 : decode cX11_layPiece 11 = .ok (.iload_n 1, 1) := by decide +kernel
theorem dX11_layPiece_12 : decode cX11_layPiece 12 = .ok (.bipush (-6), 2) := by decide +kernel
theorem dX11_layPiece_14 : decode cX11_layPiece 14 = .ok (.iastore, 1) := by decide +kernel
theorem dX11_layPiece_15 : decode cX11_layPiece 15 = .ok (.aload_n 0, 1) := by decide +kernel
theorem dX11_layPiece_16 : decode cX11_layPiece 16 = .ok (.getfield 59, 3) := by decide +kernel
theorem dX11_layPiece_19 : decode cX11_layPiece 19 = .ok (.iload_n 1, 1) := by decide +kernel
theorem dX11_layPiece_20 : decode cX11_layPiece 20 = .ok (.bipush (-6), 2) := by decide +kernel
theorem dX11_layPiece_22 : decode cX11_layPiece 22 = .ok (.iastore, 1) := by decide +kernel
theorem dX11_layPiece_23 : decode cX11_layPiece 23 = .ok (.aload_n 0, 1) := by decide +kernel
theorem dX11_layPiece_24 : decode cX11_layPiece 24 = .ok (.getfield 62, 3) := by decide +kernel
theorem dX11_layPiece_27 : decode cX11_layPiece 27 = .ok (.iload_n 1, 1) := by decide +kernel
theorem dX11_layPiece_28 : decode cX11_layPiece 28 = .ok (.iload_n 3, 1) := by decide +kernel
theorem dX11_layPiece_29 : decode cX11_layPiece 29 = .ok (.iastore, 1) := by decide +kernel
theorem dX11_layPiece_30 : decode cX11_layPiece 30 = .ok (.aload_n 0, 1) := by decide +kernel
theorem dX11_layPiece_31 : decode cX11_layPiece 31 = .ok (.getfield 65, 3) := by decide +kernel
theorem dX11_layPiece_34 : decode cX11_layPiece 34 = .ok (.iload_n 1, 1) := by decide +kernel
theorem dX11_layPiece_35 : decode cX11_layPiece 35 = .ok (.bipush (-6), 2) := by decide +kernel
theorem dX11_layPiece_37 : decode cX11_layPiece 37 = .ok (.iastore, 1) := by decide +kernel
theorem dX11_layPiece_38 : decode cX11_layPiece 38 = .ok (.return_, 1) := by decide +kernel
theorem dX11_piece_0 : decode cX11_piece 0 = .ok (.iload_n 1, 1) := by decide +kernel
theorem dX11_piece_1 : decode cX11_piece 1 = .ok (.invokestatic 156, 3) := by decide +kernel
theorem dX11_piece_4 : decode cX11_piece 4 = .ok (.ifCond .eq 15, 3) := by decide +kernel
theorem dX11_piece_7 : decode cX11_piece 7 = .ok (.iload_n 2, 1) := by decide +kernel
theorem dX11_piece_8 : decode cX11_piece 8 = .ok (.i2l, 1) := by decide +kernel
theorem dX11_piece_9 : decode cX11_piece 9 = .ok (.lconst 0, 1) := by decide +kernel
theorem dX11_piece_10 : decode cX11_piece 10 = .ok (.ldc2_w 193, 3) := by decide +kernel
theorem dX11_piece_13 : decode cX11_piece 13 = .ok (.invokestatic 86, 3) := by decide +kernel
theorem dX11_piece_16 : decode cX11_piece 16 = .ok (.ifCond .ne 6, 3) := by decide +kernel
theorem dX11_piece_19 : decode cX11_piece 19 = .ok (.bipush (-2), 2) := by decide +kernel
theorem dX11_piece_21 : decode cX11_piece 21 = .ok (.ireturn, 1) := by decide +kernel
theorem dX11_piece_22 : decode cX11_piece 22 = .ok (.aload_n 0, 1) := by decide +kernel
theorem dX11_piece_23 : decode cX11_piece 23 = .ok (.getfield 190, 3) := by decide +kernel
theorem dX11_piece_26 : decode cX11_piece 26 = .ok (.bipush 8, 2) := by decide +kernel
theorem dX11_piece_28 : decode cX11_piece 28 = .ok (.if_icmp .ne 6, 3) := by decide +kernel
theorem dX11_piece_31 : decode cX11_piece 31 = .ok (.bipush (-4), 2) := by decide +kernel
theorem dX11_piece_33 : decode cX11_piece 33 = .ok (.ireturn, 1) := by decide +kernel
theorem dX11_piece_34 : decode cX11_piece 34 = .ok (.aload_n 0, 1) := by decide +kernel
theorem dX11_piece_35 : decode cX11_piece 35 = .ok (.aload_n 0, 1) := by decide +kernel
theorem dX11_piece_36 : decode cX11_piece 36 = .ok (.getfield 190, 3) := by decide +kernel
theorem dX11_piece_39 : decode cX11_piece 39 = .ok (.iload_n 1, 1) := by decide +kernel
theorem dX11_piece_40 : decode cX11_piece 40 = .ok (.iload_n 2, 1) := by decide +kernel
theorem dX11_piece_41 : decode cX11_piece 41 = .ok (.invokevirtual 195, 3) := by decide +kernel
theorem dX11_piece_44 : decode cX11_piece 44 = .ok (.aload_n 0, 1) := by decide +kernel
theorem dX11_piece_45 : decode cX11_piece 45 = .ok (.dup, 1) := by decide +kernel
theorem dX11_piece_46 : decode cX11_piece 46 = .ok (.getfield 190, 3) := by decide +kernel
theorem dX11_piece_49 : decode cX11_piece 49 = .ok (.iconst 1, 1) := by decide +kernel
theorem dX11_piece_50 : decode cX11_piece 50 = .ok (.iadd, 1) := by decide +kernel
theorem dX11_piece_51 : decode cX11_piece 51 = .ok (.putfield 190, 3) := by decide +kernel
theorem dX11_piece_54 : decode cX11_piece 54 = .ok (.aload_n 0, 1) := by decide +kernel
theorem dX11_piece_55 : decode cX11_piece 55 = .ok (.getfield 190, 3) := by decide +kernel
theorem dX11_piece_58 : decode cX11_piece 58 = .ok (.iconst 1, 1) := by decide +kernel
theorem dX11_piece_59 : decode cX11_piece 59 = .ok (.isub, 1) := by decide +kernel
theorem dX11_piece_60 : decode cX11_piece 60 = .ok (.ireturn, 1) := by decide +kernel
theorem dX11_about_0 : decode cX11_about 0 = .ok (.aload_n 0, 1) := by decide +kernel
theorem dX11_about_1 : decode cX11_about 1 = .ok (.iload_n 1, 1) := by decide +kernel
theorem dX11_about_2 : decode cX11_about 2 = .ok (.invokevirtual 198, 3) := by decide +kernel
theorem dX11_about_5 : decode cX11_about 5 = .ok (.ifCond .ne 5, 3) := by decide +kernel
theorem dX11_about_8 : decode cX11_about 8 = .ok (.iconst (-1), 1) := by decide +kernel
theorem dX11_about_9 : decode cX11_about 9 = .ok (.ireturn, 1) := by decide +kernel
theorem dX11_about_10 : decode cX11_about 10 = .ok (.iload_n 2, 1) := by decide +kernel
theorem dX11_about_11 : decode cX11_about 11 = .ok (.tableswitch 68 0 4 #[33, 40, 47, 54, 61], 33) := by decide +kernel
theorem dX11_about_44 : decode cX11_about 44 = .ok (.aload_n 0, 1) := by decide +kernel
theorem dX11_about_45 : decode cX11_about 45 = .ok (.getfield 53, 3) := by decide +kernel
theorem dX11_about_48 : decode cX11_about 48 = .ok (.iload_n 1, 1) := by decide +kernel
theorem dX11_about_49 : decode cX11_about 49 = .ok (.iaload, 1) := by decide +kernel
theorem dX11_about_50 : decode cX11_about 50 = .ok (.ireturn, 1) := by decide +kernel
theorem dX11_about_51 : decode cX11_about 51 = .ok (.aload_n 0, 1) := by decide +kernel
theorem dX11_about_52 : decode cX11_about 52 = .ok (.getfield 56, 3) := by decide +kernel
theorem dX11_about_55 : decode cX11_about 55 = .ok (.iload_n 1, 1) := by decide +kernel
theorem dX11_about_56 : decode cX11_about 56 = .ok (.iaload, 1) := by decide +kernel
theorem dX11_about_57 : decode cX11_about 57 = .ok (.ireturn, 1) := by decide +kernel
theorem dX11_about_58 : decode cX11_about 58 = .ok (.aload_n 0, 1) := by decide +kernel
theorem dX11_about_59 : decode cX11_about 59 = .ok (.getfield 59, 3) := by decide +kernel
theorem dX11_about_62 : decode cX11_about 62 = .ok (.iload_n 1, 1) := by decide +kernel
theorem dX11_about_63 : decode cX11_about 63 = .ok (.iaload, 1) := by decide +kernel
theorem dX11_about_64 : decode cX11_about 64 = .ok (.ireturn, 1) := by decide +kernel
theorem dX11_about_65 : decode cX11_about 65 = .ok (.aload_n 0, 1) := by decide +kernel
theorem dX11_about_66 : decode cX11_about 66 = .ok (.getfield 62, 3) := by decide +kernel
theorem dX11_about_69 : decode cX11_about 69 = .ok (.iload_n 1, 1) := by decide +kernel
theorem dX11_about_70 : decode cX11_about 70 = .ok (.iaload, 1) := by decide +kernel
theorem dX11_about_71 : decode cX11_about 71 = .ok (.ireturn, 1) := by decide +kernel
theorem dX11_about_72 : decode cX11_about 72 = .ok (.aload_n 0, 1) := by decide +kernel
theorem dX11_about_73 : decode cX11_about 73 = .ok (.getfield 65, 3) := by decide +kernel
theorem dX11_about_76 : decode cX11_about 76 = .ok (.iload_n 1, 1) := by decide +kernel
theorem dX11_about_77 : decode cX11_about 77 = .ok (.iaload, 1) := by decide +kernel
theorem dX11_about_78 : decode cX11_about 78 = .ok (.ireturn, 1) := by decide +kernel
theorem dX11_about_79 : decode cX11_about 79 = .ok (.bipush (-2), 2) := by decide +kernel
theorem dX11_about_81 : decode cX11_about 81 = .ok (.ireturn, 1) := by decide +kernel
theorem dX11_change_0 : decode cX11_change 0 = .ok (.aload_n 0, 1) := by decide +kernel
theorem dX11_change_1 : decode cX11_change 1 = .ok (.iload_n 1, 1) := by decide +kernel
theorem dX11_change_2 : decode cX11_change 2 = .ok (.invokevirtual 198, 3) := by decide +kernel
theorem dX11_change_5 : decode cX11_change 5 = .ok (.ifCond .ne 5, 3) := by decide +kernel
theorem dX11_change_8 : decode cX11_change 8 = .ok (.iconst (-1), 1) := by decide +kernel
theorem dX11_change_9 : decode cX11_change 9 = .ok (.ireturn, 1) := by decide +kernel
theorem dX11_change_10 : decode cX11_change 10 = .ok (.iload_n 2, 1) := by decide +kernel
theorem dX11_change_11 : decode cX11_change 11 = .ok (.iconst 3, 1) := by decide +kernel
theorem dX11_change_12 : decode cX11_change 12 = .ok (.if_icmp .ne 15, 3) := by decide +kernel
theorem dX11_change_15 : decode cX11_change 15 = .ok (.iload_n 3, 1) := by decide +kernel
theorem dX11_change_16 : decode cX11_change 16 = .ok (.i2l, 1) := by decide +kernel
theorem dX11_change_17 : decode cX11_change 17 = .ok (.lconst 0, 1) := by decide +kernel
theorem dX11_change_18 : decode cX11_change 18 = .ok (.ldc2_w 193, 3) := by decide +kernel
theorem dX11_change_21 : decode cX11_change 21 = .ok (.invokestatic 86, 3) := by decide +kernel
theorem dX11_change_24 : decode cX11_change 24 = .ok (.goto 43, 3) := by decide +kernel
theorem dX11_change_27 : decode cX11_change 27 = .ok (.iload_n 2, 1) := by decide +kernel
theorem dX11_change_28 : decode cX11_change 28 = .ok (.i2l, 1) := by decide +kernel
theorem dX11_change_29 : decode cX11_change 29 = .ok (.lconst 1, 1) := by decide +kernel
theorem dX11_change_30 : decode cX11_change 30 = .ok (.ldc2_w 179, 3) := by decide +kernel
theorem dX11_change_33 : decode cX11_change 33 = .ok (.invokestatic 86, 3) := by decide +kernel
theorem dX11_change_36 : decode cX11_change 36 = .ok (.ifCond .eq 30, 3) := by decide +kernel
theorem dX11_change_39 : decode cX11_change 39 = .ok (.iload_n 3, 1) := by decide +kernel
theorem dX11_change_40 : decode cX11_change 40 = .ok (.iconst (-1), 1) := by decide +kernel
theorem dX11_change_41 : decode cX11_change 41 = .ok (.if_icmp .eq 21, 3) := by decide +kernel
theorem dX11_change_44 : decode cX11_change 44 = .ok (.iload_n 3, 1) := by decide +kernel
theorem dX11_change_45 : decode cX11_change 45 = .ok (.i2l, 1) := by decide +kernel
theorem dX11_change_46 : decode cX11_change 46 = .ok (.aload_n 0, 1) := by decide +kernel
theorem dX11_change_47 : decode cX11_change 47 = .ok (.getfield 53, 3) := by decide +kernel
theorem dX11_change_50 : decode cX11_change 50 = .ok (.iload_n 1, 1) := by decide +kernel
theorem dX11_change_51 : decode cX11_change 51 = .ok (.iaload, 1) := by decide +kernel
theorem dX11_change_52 : decode cX11_change 52 = .ok (.i2l, 1) := by decide +kernel
theorem dX11_change_53 : decode cX11_change 53 = .ok (.ldc2_w 84, 3) := by decide +kernel
theorem dX11_change_56 : decode cX11_change 56 = .ok (.invokestatic 86, 3) := by decide +kernel
theorem dX11_change_59 : decode cX11_change 59 = .ok (.ifCond .eq 7, 3) := by decide +kernel
theorem dX11_change_62 : decode cX11_change 62 = .ok (.iconst 1, 1) := by decide +kernel
theorem dX11_change_63 : decode cX11_change 63 = .ok (.goto 4, 3) := by decide +kernel
theorem dX11_change_66 : decode cX11_change 66 = .ok (.iconst 0, 1) := by decide +kernel
theorem dX11_change_67 : decode cX11_change 67 = .ok (.istore 4, 2) := by decide +kernel
theorem dX11_change_69 : decode cX11_change 69 = .ok (.iload 4, 2) := by decide +kernel
theorem dX11_change_71 : decode cX11_change 71 = .ok (.ifCond .ne 6, 3) := by decide +kernel
theorem dX11_change_74 : decode cX11_change 74 = .ok (.bipush (-2), 2) := by decide +kernel
theorem dX11_change_76 : decode cX11_change 76 = .ok (.ireturn, 1) := by decide +kernel
theorem dX11_change_77 : decode cX11_change 77 = .ok (.iload_n 2, 1) := by decide +kernel
theorem dX11_change_78 : decode cX11_change 78 = .ok (.iconst 3, 1) := by decide +kernel
theorem dX11_change_79 : decode cX11_change 79 = .ok (.if_icmp .ge 12, 3) := by decide +kernel
theorem dX11_change_82 : decode cX11_change 82 = .ok (.iload_n 3, 1) := by decide +kernel
theorem dX11_change_83 : decode cX11_change 83 = .ok (.ifCond .ge 8, 3) := by decide +kernel
theorem dX11_change_86 : decode cX11_change 86 = .ok (.bipush (-6), 2) := by decide +kernel
theorem dX11_change_88 : decode cX11_change 88 = .ok (.goto 4, 3) := by decide +kernel
theorem dX11_change_91 : decode cX11_change 91 = .ok (.iload_n 3, 1) := by decide +kernel
theorem dX11_change_92 : decode cX11_change 92 = .ok (.istore 5, 2) := by decide +kernel
theorem dX11_change_94 : decode cX11_change 94 = .ok (.iload_n 2, 1) := by decide +kernel
theorem dX11_change_95 : decode cX11_change 95 = .ok (.iconst 1, 1) := by decide +kernel
theorem dX11_change_96 : decode cX11_change 96 = .ok (.if_icmp .ne 12, 3) := by decide +kernel
theorem dX11_change_99 : decode cX11_change 99 = .ok (.aload_n 0, 1) := by decide +kernel
theorem dX11_change_100 : decode cX11_change 100 = .ok (.getfield 56, 3) := by decide +kernel
theorem dX11_change_103 : decode cX11_change 103 = .ok (.iload_n 1, 1) := by decide +kernel
theorem dX11_change_104 : decode cX11_change 104 = .ok (.iaload, 1) := by decide +kernel
theorem dX11_change_105 : decode cX11_change 105 = .ok (.goto 23, 3) := by decide +kernel
theorem dX11_change_108 : decode cX11_change 108 = .ok (.iload_n 2, 1) := by decide +kernel
theorem dX11_change_109 : decode cX11_change 109 = .ok (.iconst 2, 1) := by decide +kernel
theorem dX11_change_110 : decode cX11_change 110 = .ok (.if_icmp .ne 12, 3) := by decide +kernel
theorem dX11_change_113 : decode cX11_change 113 = .ok (.aload_n 0, 1) := by decide +kernel
theorem dX11_change_114 : decode cX11_change 114 = .ok (.getfield 59, 3) := by decide +kernel
theorem dX11_change_117 : decode cX11_change 117 = .ok (.iload_n 1, 1) := by decide +kernel
theorem dX11_change_118 : decode cX11_change 118 = .ok (.iaload, 1) := by decide +kernel
theorem dX11_change_119 : decode cX11_change 119 = .ok (.goto 9, 3) := by decide +kernel
theorem dX11_change_122 : decode cX11_change 122 = .ok (.aload_n 0, 1) := by decide +kernel
theorem dX11_change_123 : decode cX11_change 123 = .ok (.getfield 62, 3) := by decide +kernel
theorem dX11_change_126 : decode cX11_change 126 = .ok (.iload_n 1, 1) := by decide +kernel
theorem dX11_change_127 : decode cX11_change 127 = .ok (.iaload, 1) := by decide +kernel
theorem dX11_change_128 : decode cX11_change 128 = .ok (.istore 6, 2) := by decide +kernel
theorem dX11_change_130 : decode cX11_change 130 = .ok (.iload_n 2, 1) := by decide +kernel
theorem dX11_change_131 : decode cX11_change 131 = .ok (.iconst 1, 1) := by decide +kernel
theorem dX11_change_132 : decode cX11_change 132 = .ok (.if_icmp .ne 14, 3) := by decide +kernel
theorem dX11_change_135 : decode cX11_change 135 = .ok (.aload_n 0, 1) := by decide +kernel
theorem dX11_change_136 : decode cX11_change 136 = .ok (.getfield 56, 3) := by decide +kernel
theorem dX11_change_139 : decode cX11_change 139 = .ok (.iload_n 1, 1) := by decide +kernel
theorem dX11_change_140 : decode cX11_change 140 = .ok (.iload 5, 2) := by decide +kernel
theorem dX11_change_142 : decode cX11_change 142 = .ok (.iastore, 1) := by decide +kernel
theorem dX11_change_143 : decode cX11_change 143 = .ok (.goto 27, 3) := by decide +kernel
theorem dX11_change_146 : decode cX11_change 146 = .ok (.iload_n 2, 1) := by decide +kernel
theorem dX11_change_147 : decode cX11_change 147 = .ok (.iconst 2, 1) := by decide +kernel
theorem dX11_change_148 : decode cX11_change 148 = .ok (.if_icmp .ne 14, 3) := by decide +kernel
theorem dX11_change_151 : decode cX11_change 151 = .ok (.aload_n 0, 1) := by decide +kernel
theorem dX11_change_152 : decode cX11_change 152 = .ok (.getfield 59, 3) := by decide +kernel
theorem dX11_change_155 : decode cX11_change 155 = .ok (.iload_n 1, 1) := by decide +kernel
theorem dX11_change_156 : decode cX11_change 156 = .ok (.iload 5, 2) := by decide +kernel
theorem dX11_change_158 : decode cX11_change 158 = .ok (.iastore, 1) := by decide +kernel
theorem dX11_change_159 : decode cX11_change 159 = .ok (.goto 11, 3) := by decide +kernel
theorem dX11_change_162 : decode cX11_change 162 = .ok (.aload_n 0, 1) := by decide +kernel
theorem dX11_change_163 : decode cX11_change 163 = .ok (.getfield 62, 3) := by decide +kernel
theorem dX11_change_166 : decode cX11_change 166 = .ok (.iload_n 1, 1) := by decide +kernel
theorem dX11_change_167 : decode cX11_change 167 = .ok (.iload 5, 2) := by decide +kernel
theorem dX11_change_169 : decode cX11_change 169 = .ok (.iastore, 1) := by decide +kernel
theorem dX11_change_170 : decode cX11_change 170 = .ok (.iload 6, 2) := by decide +kernel
theorem dX11_change_172 : decode cX11_change 172 = .ok (.ireturn, 1) := by decide +kernel
theorem dX11_set_0 : decode cX11_set 0 = .ok (.iload_n 1, 1) := by decide +kernel
theorem dX11_set_1 : decode cX11_set 1 = .ok (.i2l, 1) := by decide +kernel
theorem dX11_set_2 : decode cX11_set 2 = .ok (.lconst 0, 1) := by decide +kernel
theorem dX11_set_3 : decode cX11_set 3 = .ok (.ldc2_w 179, 3) := by decide +kernel
theorem dX11_set_6 : decode cX11_set 6 = .ok (.invokestatic 86, 3) := by decide +kernel
theorem dX11_set_9 : decode cX11_set 9 = .ok (.ifCond .eq 13, 3) := by decide +kernel
theorem dX11_set_12 : decode cX11_set 12 = .ok (.iload_n 2, 1) := by decide +kernel
theorem dX11_set_13 : decode cX11_set 13 = .ok (.i2l, 1) := by decide +kernel
theorem dX11_set_14 : decode cX11_set 14 = .ok (.lconst 0, 1) := by decide +kernel
theorem dX11_set_15 : decode cX11_set 15 = .ok (.lconst 1, 1) := by decide +kernel
theorem dX11_set_16 : decode cX11_set 16 = .ok (.invokestatic 86, 3) := by decide +kernel
theorem dX11_set_19 : decode cX11_set 19 = .ok (.ifCond .ne 6, 3) := by decide +kernel
theorem dX11_set_22 : decode cX11_set 22 = .ok (.bipush (-2), 2) := by decide +kernel
theorem dX11_set_24 : decode cX11_set 24 = .ok (.ireturn, 1) := by decide +kernel
theorem dX11_set_25 : decode cX11_set 25 = .ok (.iload_n 1, 1) := by decide +kernel
theorem dX11_set_26 : decode cX11_set 26 = .ok (.ifCond .ne 10, 3) := by decide +kernel
theorem dX11_set_29 : decode cX11_set 29 = .ok (.aload_n 0, 1) := by decide +kernel
theorem dX11_set_30 : decode cX11_set 30 = .ok (.getfield 201, 3) := by decide +kernel
theorem dX11_set_33 : decode cX11_set 33 = .ok (.goto 19, 3) := by decide +kernel
theorem dX11_set_36 : decode cX11_set 36 = .ok (.iload_n 1, 1) := by decide +kernel
theorem dX11_set_37 : decode cX11_set 37 = .ok (.iconst 1, 1) := by decide +kernel
theorem dX11_set_38 : decode cX11_set 38 = .ok (.if_icmp .ne 10, 3) := by decide +kernel
theorem dX11_set_41 : decode cX11_set 41 = .ok (.aload_n 0, 1) := by decide +kernel
theorem dX11_set_42 : decode cX11_set 42 = .ok (.getfield 204, 3) := by decide +kernel
theorem dX11_set_45 : decode cX11_set 45 = .ok (.goto 7, 3) := by decide +kernel
theorem dX11_set_48 : decode cX11_set 48 = .ok (.aload_n 0, 1) := by decide +kernel
theorem dX11_set_49 : decode cX11_set 49 = .ok (.getfield 207, 3) := by decide +kernel
theorem dX11_set_52 : decode cX11_set 52 = .ok (.istore_n 3, 1) := by decide +kernel
theorem dX11_set_53 : decode cX11_set 53 = .ok (.iload_n 1, 1) := by decide +kernel
theorem dX11_set_54 : decode cX11_set 54 = .ok (.ifCond .ne 11, 3) := by decide +kernel
theorem dX11_set_57 : decode cX11_set 57 = .ok (.aload_n 0, 1) := by decide +kernel
theorem dX11_set_58 : decode cX11_set 58 = .ok (.iload_n 2, 1) := by decide +kernel
theorem dX11_set_59 : decode cX11_set 59 = .ok (.putfield 201, 3) := by decide +kernel
theorem dX11_set_62 : decode cX11_set 62 = .ok (.goto 21, 3) := by decide +kernel
theorem dX11_set_65 : decode cX11_set 65 = .ok (.iload_n 1, 1) := by decide +kernel
theorem dX11_set_66 : decode cX11_set 66 = .ok (.iconst 1, 1) := by decide +kernel
theorem dX11_set_67 : decode cX11_set 67 = .ok (.if_icmp .ne 11, 3) := by decide +kernel
theorem dX11_set_70 : decode cX11_set 70 = .ok (.aload_n 0, 1) := by decide +kernel
theorem dX11_set_71 : decode cX11_set 71 = .ok (.iload_n 2, 1) := by decide +kernel
theorem dX11_set_72 : decode cX11_set 72 = .ok (.putfield 204, 3) := by decide +kernel
theorem dX11_set_75 : decode cX11_set 75 = .ok (.goto 8, 3) := by decide +kernel
theorem dX11_set_78 : decode cX11_set 78 = .ok (.aload_n 0, 1) := by decide +kernel
theorem dX11_set_79 : decode cX11_set 79 = .ok (.iload_n 2, 1) := by decide +kernel
theorem dX11_set_80 : decode cX11_set 80 = .ok (.putfield 207, 3) := by decide +kernel
theorem dX11_set_83 : decode cX11_set 83 = .ok (.iload_n 3, 1) := by decide +kernel
theorem dX11_set_84 : decode cX11_set 84 = .ok (.ireturn, 1) := by decide +kernel
theorem dX11_fitting_0 : decode cX11_fitting 0 = .ok (.bipush (-6), 2) := by decide +kernel
theorem dX11_fitting_2 : decode cX11_fitting 2 = .ok (.istore_n 3, 1) := by decide +kernel
theorem dX11_fitting_3 : decode cX11_fitting 3 = .ok (.aload_n 0, 1) := by decide +kernel
theorem dX11_fitting_4 : decode cX11_fitting 4 = .ok (.getfield 19, 3) := by decide +kernel
theorem dX11_fitting_7 : decode cX11_fitting 7 = .ok (.iload_n 1, 1) := by decide +kernel
theorem dX11_fitting_8 : decode cX11_fitting 8 = .ok (.iaload, 1) := by decide +kernel
theorem dX11_fitting_9 : decode cX11_fitting 9 = .ok (.iconst 1, 1) := by decide +kernel
theorem dX11_fitting_10 : decode cX11_fitting 10 = .ok (.isub, 1) := by decide +kernel
theorem dX11_fitting_11 : decode cX11_fitting 11 = .ok (.istore 4, 2) := by decide +kernel
theorem dX11_fitting_13 : decode cX11_fitting 13 = .ok (.iload 4, 2) := by decide +kernel
theorem dX11_fitting_15 : decode cX11_fitting 15 = .ok (.ifCond .lt 40, 3) := by decide +kernel
theorem dX11_fitting_18 : decode cX11_fitting 18 = .ok (.aload_n 0, 1) := by decide +kernel
theorem dX11_fitting_19 : decode cX11_fitting 19 = .ok (.getfield 22, 3) := by decide +kernel
theorem dX11_fitting_22 : decode cX11_fitting 22 = .ok (.bipush 6, 2) := by decide +kernel
theorem dX11_fitting_24 : decode cX11_fitting 24 = .ok (.iload_n 1, 1) := by decide +kernel
theorem dX11_fitting_25 : decode cX11_fitting 25 = .ok (.imul, 1) := by decide +kernel
theorem dX11_fitting_26 : decode cX11_fitting 26 = .ok (.iload 4, 2) := by decide +kernel
theorem dX11_fitting_28 : decode cX11_fitting 28 = .ok (.iadd, 1) := by decide +kernel
theorem dX11_fitting_29 : decode cX11_fitting 29 = .ok (.iaload, 1) := by decide +kernel
theorem dX11_fitting_30 : decode cX11_fitting 30 = .ok (.aload_n 0, 1) := by decide +kernel
theorem dX11_fitting_31 : decode cX11_fitting 31 = .ok (.getfield 62, 3) := by decide +kernel
theorem dX11_fitting_34 : decode cX11_fitting 34 = .ok (.iload_n 2, 1) := by decide +kernel
theorem dX11_fitting_35 : decode cX11_fitting 35 = .ok (.iaload, 1) := by decide +kernel
theorem dX11_fitting_36 : decode cX11_fitting 36 = .ok (.iconst (-1), 1) := by decide +kernel
theorem dX11_fitting_37 : decode cX11_fitting 37 = .ok (.ixor, 1) := by decide +kernel
theorem dX11_fitting_38 : decode cX11_fitting 38 = .ok (.iand, 1) := by decide +kernel
theorem dX11_fitting_39 : decode cX11_fitting 39 = .ok (.ifCond .ne 8, 3) := by decide +kernel
theorem dX11_fitting_42 : decode cX11_fitting 42 = .ok (.iload 4, 2) := by decide +kernel
theorem dX11_fitting_44 : decode cX11_fitting 44 = .ok (.goto 4, 3) := by decide +kernel
theorem dX11_fitting_47 : decode cX11_fitting 47 = .ok (.iload_n 3, 1) := by decide +kernel
theorem dX11_fitting_48 : decode cX11_fitting 48 = .ok (.istore_n 3, 1) := by decide +kernel
theorem dX11_fitting_49 : decode cX11_fitting 49 = .ok (.iinc 4 (-1), 3) := by decide +kernel
theorem dX11_fitting_52 : decode cX11_fitting 52 = .ok (.goto (-39), 3) := by decide +kernel
theorem dX11_fitting_55 : decode cX11_fitting 55 = .ok (.iload_n 3, 1) := by decide +kernel
theorem dX11_fitting_56 : decode cX11_fitting 56 = .ok (.ireturn, 1) := by decide +kernel
theorem dX11_lackOf_0 : decode cX11_lackOf 0 = .ok (.aload_n 0, 1) := by decide +kernel
theorem dX11_lackOf_1 : decode cX11_lackOf 1 = .ok (.iload_n 1, 1) := by decide +kernel
theorem dX11_lackOf_2 : decode cX11_lackOf 2 = .ok (.iload_n 3, 1) := by decide +kernel
theorem dX11_lackOf_3 : decode cX11_lackOf 3 = .ok (.invokevirtual 172, 3) := by decide +kernel
theorem dX11_lackOf_6 : decode cX11_lackOf 6 = .ok (.ifCond .ne 5, 3) := by decide +kernel
theorem dX11_lackOf_9 : decode cX11_lackOf 9 = .ok (.iconst 1, 1) := by decide +kernel
theorem dX11_lackOf_10 : decode cX11_lackOf 10 = .ok (.ireturn, 1) := by decide +kernel
theorem dX11_lackOf_11 : decode cX11_lackOf 11 = .ok (.iload 4, 2) := by decide +kernel
theorem dX11_lackOf_13 : decode cX11_lackOf 13 = .ok (.iload_n 1, 1) := by decide +kernel
theorem dX11_lackOf_14 : decode cX11_lackOf 14 = .ok (.ishr, 1) := by decide +kernel
theorem dX11_lackOf_15 : decode cX11_lackOf 15 = .ok (.iconst 1, 1) := by decide +kernel
theorem dX11_lackOf_16 : decode cX11_lackOf 16 = .ok (.iand, 1) := by decide +kernel
theorem dX11_lackOf_17 : decode cX11_lackOf 17 = .ok (.iconst 1, 1) := by decide +kernel
theorem dX11_lackOf_18 : decode cX11_lackOf 18 = .ok (.if_icmp .ne 5, 3) := by decide +kernel
theorem dX11_lackOf_21 : decode cX11_lackOf 21 = .ok (.iconst 2, 1) := by decide +kernel
theorem dX11_lackOf_22 : decode cX11_lackOf 22 = .ok (.ireturn, 1) := by decide +kernel
theorem dX11_lackOf_23 : decode cX11_lackOf 23 = .ok (.aload_n 0, 1) := by decide +kernel
theorem dX11_lackOf_24 : decode cX11_lackOf 24 = .ok (.getfield 53, 3) := by decide +kernel
theorem dX11_lackOf_27 : decode cX11_lackOf 27 = .ok (.iload_n 2, 1) := by decide +kernel
theorem dX11_lackOf_28 : decode cX11_lackOf 28 = .ok (.iaload, 1) := by decide +kernel
theorem dX11_lackOf_29 : decode cX11_lackOf 29 = .ok (.iload_n 3, 1) := by decide +kernel
theorem dX11_lackOf_30 : decode cX11_lackOf 30 = .ok (.if_icmp .le 5, 3) := by decide +kernel
theorem dX11_lackOf_33 : decode cX11_lackOf 33 = .ok (.iconst 3, 1) := by decide +kernel
theorem dX11_lackOf_34 : decode cX11_lackOf 34 = .ok (.ireturn, 1) := by decide +kernel
theorem dX11_lackOf_35 : decode cX11_lackOf 35 = .ok (.aload_n 0, 1) := by decide +kernel
theorem dX11_lackOf_36 : decode cX11_lackOf 36 = .ok (.iload_n 1, 1) := by decide +kernel
theorem dX11_lackOf_37 : decode cX11_lackOf 37 = .ok (.iload_n 2, 1) := by decide +kernel
theorem dX11_lackOf_38 : decode cX11_lackOf 38 = .ok (.invokevirtual 210, 3) := by decide +kernel
theorem dX11_lackOf_41 : decode cX11_lackOf 41 = .ok (.ifCond .ge 5, 3) := by decide +kernel
theorem dX11_lackOf_44 : decode cX11_lackOf 44 = .ok (.iconst 4, 1) := by decide +kernel
theorem dX11_lackOf_45 : decode cX11_lackOf 45 = .ok (.ireturn, 1) := by decide +kernel
theorem dX11_lackOf_46 : decode cX11_lackOf 46 = .ok (.aload_n 0, 1) := by decide +kernel
theorem dX11_lackOf_47 : decode cX11_lackOf 47 = .ok (.iload_n 1, 1) := by decide +kernel
theorem dX11_lackOf_48 : decode cX11_lackOf 48 = .ok (.invokevirtual 213, 3) := by decide +kernel
theorem dX11_lackOf_51 : decode cX11_lackOf 51 = .ok (.istore 5, 2) := by decide +kernel
theorem dX11_lackOf_53 : decode cX11_lackOf 53 = .ok (.aload_n 0, 1) := by decide +kernel
theorem dX11_lackOf_54 : decode cX11_lackOf 54 = .ok (.getfield 56, 3) := by decide +kernel
theorem dX11_lackOf_57 : decode cX11_lackOf 57 = .ok (.iload_n 2, 1) := by decide +kernel
theorem dX11_lackOf_58 : decode cX11_lackOf 58 = .ok (.iaload, 1) := by decide +kernel
theorem dX11_lackOf_59 : decode cX11_lackOf 59 = .ok (.ifCond .lt 18, 3) := by decide +kernel
theorem dX11_lackOf_62 : decode cX11_lackOf 62 = .ok (.aload_n 0, 1) := by decide +kernel
theorem dX11_lackOf_63 : decode cX11_lackOf 63 = .ok (.getfield 56, 3) := by decide +kernel
theorem dX11_lackOf_66 : decode cX11_lackOf 66 = .ok (.iload_n 2, 1) := by decide +kernel
theorem dX11_lackOf_67 : decode cX11_lackOf 67 = .ok (.iaload, 1) := by decide +kernel
theorem dX11_lackOf_68 : decode cX11_lackOf 68 = .ok (.aload_n 0, 1) := by decide +kernel
theorem dX11_lackOf_69 : decode cX11_lackOf 69 = .ok (.getfield 13, 3) := by decide +kernel
theorem dX11_lackOf_72 : decode cX11_lackOf 72 = .ok (.iload_n 1, 1) := by decide +kernel
theorem dX11_lackOf_73 : decode cX11_lackOf 73 = .ok (.iaload, 1) := by decide +kernel
theorem dX11_lackOf_74 : decode cX11_lackOf 74 = .ok (.if_icmp .lt 7, 3) := by decide +kernel
theorem dX11_lackOf_77 : decode cX11_lackOf 77 = .ok (.iconst 1, 1) := by decide +kernel
theorem dX11_lackOf_78 : decode cX11_lackOf 78 = .ok (.goto 4, 3) := by decide +kernel
theorem dX11_lackOf_81 : decode cX11_lackOf 81 = .ok (.iconst 0, 1) := by decide +kernel
theorem dX11_lackOf_82 : decode cX11_lackOf 82 = .ok (.istore 6, 2) := by decide +kernel
theorem dX11_lackOf_84 : decode cX11_lackOf 84 = .ok (.iload 5, 2) := by decide +kernel
theorem dX11_lackOf_86 : decode cX11_lackOf 86 = .ok (.bipush 97, 2) := by decide +kernel
theorem dX11_lackOf_88 : decode cX11_lackOf 88 = .ok (.if_icmp .eq 30, 3) := by decide +kernel
theorem dX11_lackOf_91 : decode cX11_lackOf 91 = .ok (.aload_n 0, 1) := by decide +kernel
theorem dX11_lackOf_92 : decode cX11_lackOf 92 = .ok (.getfield 53, 3) := by decide +kernel
theorem dX11_lackOf_95 : decode cX11_lackOf 95 = .ok (.iload_n 2, 1) := by decide +kernel
theorem dX11_lackOf_96 : decode cX11_lackOf 96 = .ok (.iaload, 1) := by decide +kernel
theorem dX11_lackOf_97 : decode cX11_lackOf 97 = .ok (.aload_n 0, 1) := by decide +kernel
theorem dX11_lackOf_98 : decode cX11_lackOf 98 = .ok (.getfield 13, 3) := by decide +kernel
theorem dX11_lackOf_101 : decode cX11_lackOf 101 = .ok (.iload_n 1, 1) := by decide +kernel
theorem dX11_lackOf_102 : decode cX11_lackOf 102 = .ok (.iaload, 1) := by decide +kernel
theorem dX11_lackOf_103 : decode cX11_lackOf 103 = .ok (.if_icmp .ge 15, 3) := by decide +kernel
theorem dX11_lackOf_106 : decode cX11_lackOf 106 = .ok (.iload 5, 2) := by decide +kernel
theorem dX11_lackOf_108 : decode cX11_lackOf 108 = .ok (.bipush 104, 2) := by decide +kernel
theorem dX11_lackOf_110 : decode cX11_lackOf 110 = .ok (.if_icmp .ne 12, 3) := by decide +kernel
theorem dX11_lackOf_113 : decode cX11_lackOf 113 = .ok (.iload 6, 2) := by decide +kernel
theorem dX11_lackOf_115 : decode cX11_lackOf 115 = .ok (.ifCond .eq 7, 3) := by decide +kernel
theorem dX11_lackOf_118 : decode cX11_lackOf 118 = .ok (.iconst 1, 1) := by decide +kernel
theorem dX11_lackOf_119 : decode cX11_lackOf 119 = .ok (.goto 4, 3) := by decide +kernel
theorem dX11_lackOf_122 : decode cX11_lackOf 122 = .ok (.iconst 0, 1) := by decide +kernel
theorem dX11_lackOf_123 : decode cX11_lackOf 123 = .ok (.istore 7, 2) := by decide +kernel
theorem dX11_lackOf_125 : decode cX11_lackOf 125 = .ok (.iload 7, 2) := by decide +kernel
theorem dX11_lackOf_127 : decode cX11_lackOf 127 = .ok (.ifCond .eq 21, 3) := by decide +kernel
theorem dX11_lackOf_130 : decode cX11_lackOf 130 = .ok (.aload_n 0, 1) := by decide +kernel
theorem dX11_lackOf_131 : decode cX11_lackOf 131 = .ok (.getfield 34, 3) := by decide +kernel
theorem dX11_lackOf_134 : decode cX11_lackOf 134 = .ok (.iload_n 1, 1) := by decide +kernel
theorem dX11_lackOf_135 : decode cX11_lackOf 135 = .ok (.iaload, 1) := by decide +kernel
theorem dX11_lackOf_136 : decode cX11_lackOf 136 = .ok (.ifCond .eq 8, 3) := by decide +kernel
theorem dX11_lackOf_139 : decode cX11_lackOf 139 = .ok (.iload 6, 2) := by decide +kernel
theorem dX11_lackOf_141 : decode cX11_lackOf 141 = .ok (.ifCond .eq 7, 3) := by decide +kernel
theorem dX11_lackOf_144 : decode cX11_lackOf 144 = .ok (.iconst 0, 1) := by decide +kernel
theorem dX11_lackOf_145 : decode cX11_lackOf 145 = .ok (.goto 4, 3) := by decide +kernel
theorem dX11_lackOf_148 : decode cX11_lackOf 148 = .ok (.iconst 5, 1) := by decide +kernel
theorem dX11_lackOf_149 : decode cX11_lackOf 149 = .ok (.ireturn, 1) := by decide +kernel
theorem dX11_sameDay_0 : decode cX11_sameDay 0 = .ok (.aload_n 0, 1) := by decide +kernel
theorem dX11_sameDay_1 : decode cX11_sameDay 1 = .ok (.getfield 59, 3) := by decide +kernel
theorem dX11_sameDay_4 : decode cX11_sameDay 4 = .ok (.iload_n 1, 1) := by decide +kernel
theorem dX11_sameDay_5 : decode cX11_sameDay 5 = .ok (.iaload, 1) := by decide +kernel
theorem dX11_sameDay_6 : decode cX11_sameDay 6 = .ok (.ifCond .lt 22, 3) := by decide +kernel
theorem dX11_sameDay_9 : decode cX11_sameDay 9 = .ok (.aload_n 0, 1) := by decide +kernel
theorem dX11_sameDay_10 : decode cX11_sameDay 10 = .ok (.getfield 59, 3) := by decide +kernel
theorem dX11_sameDay_13 : decode cX11_sameDay 13 = .ok (.iload_n 1, 1) := by decide +kernel
theorem dX11_sameDay_14 : decode cX11_sameDay 14 = .ok (.iaload, 1) := by decide +kernel
theorem dX11_sameDay_15 : decode cX11_sameDay 15 = .ok (.iload_n 2, 1) := by decide +kernel
theorem dX11_sameDay_16 : decode cX11_sameDay 16 = .ok (.if_icmp .ge 12, 3) := by decide +kernel
theorem dX11_sameDay_19 : decode cX11_sameDay 19 = .ok (.aload_n 0, 1) := by decide +kernel
theorem dX11_sameDay_20 : decode cX11_sameDay 20 = .ok (.getfield 59, 3) := by decide +kernel
theorem dX11_sameDay_23 : decode cX11_sameDay 23 = .ok (.iload_n 1, 1) := by decide +kernel
theorem dX11_sameDay_24 : decode cX11_sameDay 24 = .ok (.iaload, 1) := by decide +kernel
theorem dX11_sameDay_25 : decode cX11_sameDay 25 = .ok (.goto 4, 3) := by decide +kernel
theorem dX11_sameDay_28 : decode cX11_sameDay 28 = .ok (.iload_n 2, 1) := by decide +kernel
theorem dX11_sameDay_29 : decode cX11_sameDay 29 = .ok (.ireturn, 1) := by decide +kernel
theorem dX11_chosen_0 : decode cX11_chosen 0 = .ok (.bipush (-6), 2) := by decide +kernel
theorem dX11_chosen_2 : decode cX11_chosen 2 = .ok (.istore_n 3, 1) := by decide +kernel
theorem dX11_chosen_3 : decode cX11_chosen 3 = .ok (.aload_n 0, 1) := by decide +kernel
theorem dX11_chosen_4 : decode cX11_chosen 4 = .ok (.iconst 0, 1) := by decide +kernel
theorem dX11_chosen_5 : decode cX11_chosen 5 = .ok (.putfield 216, 3) := by decide +kernel
theorem dX11_chosen_8 : decode cX11_chosen 8 = .ok (.iconst 0, 1) := by decide +kernel
theorem dX11_chosen_9 : decode cX11_chosen 9 = .ok (.istore 4, 2) := by decide +kernel
theorem dX11_chosen_11 : decode cX11_chosen 11 = .ok (.iload 4, 2) := by decide +kernel
theorem dX11_chosen_13 : decode cX11_chosen 13 = .ok (.aload_n 0, 1) := by decide +kernel
theorem dX11_chosen_14 : decode cX11_chosen 14 = .ok (.getfield 149, 3) := by decide +kernel
theorem dX11_chosen_17 : decode cX11_chosen 17 = .ok (.if_icmp .ge 75, 3) := by decide +kernel
theorem dX11_chosen_20 : decode cX11_chosen 20 = .ok (.iload_n 1, 1) := by decide +kernel
theorem dX11_chosen_21 : decode cX11_chosen 21 = .ok (.iload 4, 2) := by decide +kernel
theorem dX11_chosen_23 : decode cX11_chosen 23 = .ok (.ishr, 1) := by decide +kernel
theorem dX11_chosen_24 : decode cX11_chosen 24 = .ok (.iconst 1, 1) := by decide +kernel
theorem dX11_chosen_25 : decode cX11_chosen 25 = .ok (.iand, 1) := by decide +kernel
theorem dX11_chosen_26 : decode cX11_chosen 26 = .ok (.iconst 1, 1) := by decide +kernel
theorem dX11_chosen_27 : decode cX11_chosen 27 = .ok (.if_icmp .ne 59, 3) := by decide +kernel
theorem dX11_chosen_30 : decode cX11_chosen 30 = .ok (.iload_n 3, 1) := by decide +kernel
theorem dX11_chosen_31 : decode cX11_chosen 31 = .ok (.ifCond .ge 7, 3) := by decide +kernel
theorem dX11_chosen_34 : decode cX11_chosen 34 = .ok (.iconst 1, 1) := by decide +kernel
theorem dX11_chosen_35 : decode cX11_chosen 35 = .ok (.goto 11, 3) := by decide +kernel
theorem dX11_chosen_38 : decode cX11_chosen 38 = .ok (.aload_n 0, 1) := by decide +kernel
theorem dX11_chosen_39 : decode cX11_chosen 39 = .ok (.iload 4, 2) := by decide +kernel
theorem dX11_chosen_41 : decode cX11_chosen 41 = .ok (.iload_n 3, 1) := by decide +kernel
theorem dX11_chosen_42 : decode cX11_chosen 42 = .ok (.iload_n 2, 1) := by decide +kernel
theorem dX11_chosen_43 : decode cX11_chosen 43 = .ok (.invokevirtual 220, 3) := by decide +kernel
theorem dX11_chosen_46 : decode cX11_chosen 46 = .ok (.istore 5, 2) := by decide +kernel
theorem dX11_chosen_48 : decode cX11_chosen 48 = .ok (.aload_n 0, 1) := by decide +kernel
theorem dX11_chosen_49 : decode cX11_chosen 49 = .ok (.iload 5, 2) := by decide +kernel
theorem dX11_chosen_51 : decode cX11_chosen 51 = .ok (.ifCond .eq 15, 3) := by decide +kernel
theorem dX11_chosen_54 : decode cX11_chosen 54 = .ok (.iload 5, 2) := by decide +kernel
theorem dX11_chosen_56 : decode cX11_chosen 56 = .ok (.ifCond .ge 14, 3) := by decide +kernel
theorem dX11_chosen_59 : decode cX11_chosen 59 = .ok (.aload_n 0, 1) := by decide +kernel
theorem dX11_chosen_60 : decode cX11_chosen 60 = .ok (.getfield 216, 3) := by decide +kernel
theorem dX11_chosen_63 : decode cX11_chosen 63 = .ok (.ifCond .eq 7, 3) := by decide +kernel
theorem dX11_chosen_66 : decode cX11_chosen 66 = .ok (.iconst 1, 1) := by decide +kernel
theorem dX11_chosen_67 : decode cX11_chosen 67 = .ok (.goto 4, 3) := by decide +kernel
theorem dX11_chosen_70 : decode cX11_chosen 70 = .ok (.iconst 0, 1) := by decide +kernel
theorem dX11_chosen_71 : decode cX11_chosen 71 = .ok (.putfield 216, 3) := by decide +kernel
theorem dX11_chosen_74 : decode cX11_chosen 74 = .ok (.iload 5, 2) := by decide +kernel
theorem dX11_chosen_76 : decode cX11_chosen 76 = .ok (.ifCond .le 8, 3) := by decide +kernel
theorem dX11_chosen_79 : decode cX11_chosen 79 = .ok (.iload 4, 2) := by decide +kernel
theorem dX11_chosen_81 : decode cX11_chosen 81 = .ok (.goto 4, 3) := by decide +kernel
theorem dX11_chosen_84 : decode cX11_chosen 84 = .ok (.iload_n 3, 1) := by decide +kernel
theorem dX11_chosen_85 : decode cX11_chosen 85 = .ok (.istore_n 3, 1) := by decide +kernel
theorem dX11_chosen_86 : decode cX11_chosen 86 = .ok (.iinc 4 1, 3) := by decide +kernel
theorem dX11_chosen_89 : decode cX11_chosen 89 = .ok (.goto (-78), 3) := by decide +kernel
theorem dX11_chosen_92 : decode cX11_chosen 92 = .ok (.iload_n 3, 1) := by decide +kernel
theorem dX11_chosen_93 : decode cX11_chosen 93 = .ok (.ireturn, 1) := by decide +kernel
theorem dX11_heldAgainst_0 : decode cX11_heldAgainst 0 = .ok (.aload_n 0, 1) := by decide +kernel
theorem dX11_heldAgainst_1 : decode cX11_heldAgainst 1 = .ok (.getfield 13, 3) := by decide +kernel
theorem dX11_heldAgainst_4 : decode cX11_heldAgainst 4 = .ok (.iload_n 1, 1) := by decide +kernel
theorem dX11_heldAgainst_5 : decode cX11_heldAgainst 5 = .ok (.iaload, 1) := by decide +kernel
theorem dX11_heldAgainst_6 : decode cX11_heldAgainst 6 = .ok (.aload_n 0, 1) := by decide +kernel
theorem dX11_heldAgainst_7 : decode cX11_heldAgainst 7 = .ok (.getfield 13, 3) := by decide +kernel
theorem dX11_heldAgainst_10 : decode cX11_heldAgainst 10 = .ok (.iload_n 2, 1) := by decide +kernel
theorem dX11_heldAgainst_11 : decode cX11_heldAgainst 11 = .ok (.iaload, 1) := by decide +kernel
theorem dX11_heldAgainst_12 : decode cX11_heldAgainst 12 = .ok (.isub, 1) := by decide +kernel
theorem dX11_heldAgainst_13 : decode cX11_heldAgainst 13 = .ok (.istore 4, 2) := by decide +kernel
theorem dX11_heldAgainst_15 : decode cX11_heldAgainst 15 = .ok (.aload_n 0, 1) := by decide +kernel
theorem dX11_heldAgainst_16 : decode cX11_heldAgainst 16 = .ok (.iload_n 1, 1) := by decide +kernel
theorem dX11_heldAgainst_17 : decode cX11_heldAgainst 17 = .ok (.iload_n 3, 1) := by decide +kernel
theorem dX11_heldAgainst_18 : decode cX11_heldAgainst 18 = .ok (.invokevirtual 224, 3) := by decide +kernel
theorem dX11_heldAgainst_21 : decode cX11_heldAgainst 21 = .ok (.aload_n 0, 1) := by decide +kernel
theorem dX11_heldAgainst_22 : decode cX11_heldAgainst 22 = .ok (.iload_n 2, 1) := by decide +kernel
theorem dX11_heldAgainst_23 : decode cX11_heldAgainst 23 = .ok (.iload_n 3, 1) := by decide +kernel
theorem dX11_heldAgainst_24 : decode cX11_heldAgainst 24 = .ok (.invokevirtual 224, 3) := by decide +kernel
theorem dX11_heldAgainst_27 : decode cX11_heldAgainst 27 = .ok (.isub, 1) := by decide +kernel
theorem dX11_heldAgainst_28 : decode cX11_heldAgainst 28 = .ok (.istore 5, 2) := by decide +kernel
theorem dX11_heldAgainst_30 : decode cX11_heldAgainst 30 = .ok (.aload_n 0, 1) := by decide +kernel
theorem dX11_heldAgainst_31 : decode cX11_heldAgainst 31 = .ok (.getfield 201, 3) := by decide +kernel
theorem dX11_heldAgainst_34 : decode cX11_heldAgainst 34 = .ok (.ifCond .ne 18, 3) := by decide +kernel
theorem dX11_heldAgainst_37 : decode cX11_heldAgainst 37 = .ok (.iload 4, 2) := by decide +kernel
theorem dX11_heldAgainst_39 : decode cX11_heldAgainst 39 = .ok (.ifCond .eq 8, 3) := by decide +kernel
theorem dX11_heldAgainst_42 : decode cX11_heldAgainst 42 = .ok (.iload 4, 2) := by decide +kernel
theorem dX11_heldAgainst_44 : decode cX11_heldAgainst 44 = .ok (.goto 20, 3) := by decide +kernel
theorem dX11_heldAgainst_47 : decode cX11_heldAgainst 47 = .ok (.iload 5, 2) := by decide +kernel
theorem dX11_heldAgainst_49 : decode cX11_heldAgainst 49 = .ok (.goto 15, 3) := by decide +kernel
theorem dX11_heldAgainst_52 : decode cX11_heldAgainst 52 = .ok (.iload 5, 2) := by decide +kernel
theorem dX11_heldAgainst_54 : decode cX11_heldAgainst 54 = .ok (.ifCond .eq 8, 3) := by decide +kernel
theorem dX11_heldAgainst_57 : decode cX11_heldAgainst 57 = .ok (.iload 5, 2) := by decide +kernel
theorem dX11_heldAgainst_59 : decode cX11_heldAgainst 59 = .ok (.goto 5, 3) := by decide +kernel
theorem dX11_heldAgainst_62 : decode cX11_heldAgainst 62 = .ok (.iload 4, 2) := by decide +kernel
theorem dX11_heldAgainst_64 : decode cX11_heldAgainst 64 = .ok (.ireturn, 1) := by decide +kernel
theorem dX11_marksAt_0 : decode cX11_marksAt 0 = .ok (.aload_n 0, 1) := by decide +kernel
theorem dX11_marksAt_1 : decode cX11_marksAt 1 = .ok (.getfield 22, 3) := by decide +kernel
theorem dX11_marksAt_4 : decode cX11_marksAt 4 = .ok (.bipush 6, 2) := by decide +kernel
theorem dX11_marksAt_6 : decode cX11_marksAt 6 = .ok (.iload_n 1, 1) := by decide +kernel
theorem dX11_marksAt_7 : decode cX11_marksAt 7 = .ok (.imul, 1) := by decide +kernel
theorem dX11_marksAt_8 : decode cX11_marksAt 8 = .ok (.aload_n 0, 1) := by decide +kernel
theorem dX11_marksAt_9 : decode cX11_marksAt 9 = .ok (.iload_n 1, 1) := by decide +kernel
theorem dX11_marksAt_10 : decode cX11_marksAt 10 = .ok (.iload_n 2, 1) := by decide +kernel
theorem dX11_marksAt_11 : decode cX11_marksAt 11 = .ok (.invokevirtual 210, 3) := by decide +kernel
theorem dX11_marksAt_14 : decode cX11_marksAt 14 = .ok (.iadd, 1) := by decide +kernel
theorem dX11_marksAt_15 : decode cX11_marksAt 15 = .ok (.iaload, 1) := by decide +kernel
theorem dX11_marksAt_16 : decode cX11_marksAt 16 = .ok (.invokestatic 227, 3) := by decide +kernel
theorem dX11_marksAt_19 : decode cX11_marksAt 19 = .ok (.ireturn, 1) := by decide +kernel
theorem dX11_governing_0 : decode cX11_governing 0 = .ok (.aload_n 0, 1) := by decide +kernel
theorem dX11_governing_1 : decode cX11_governing 1 = .ok (.iload_n 2, 1) := by decide +kernel
theorem dX11_governing_2 : decode cX11_governing 2 = .ok (.invokevirtual 181, 3) := by decide +kernel
theorem dX11_governing_5 : decode cX11_governing 5 = .ok (.istore_n 3, 1) := by decide +kernel
theorem dX11_governing_6 : decode cX11_governing 6 = .ok (.iconst 0, 1) := by decide +kernel
theorem dX11_governing_7 : decode cX11_governing 7 = .ok (.istore 4, 2) := by decide +kernel
theorem dX11_governing_9 : decode cX11_governing 9 = .ok (.iconst 0, 1) := by decide +kernel
theorem dX11_governing_10 : decode cX11_governing 10 = .ok (.istore 5, 2) := by decide +kernel
theorem dX11_governing_12 : decode cX11_governing 12 = .ok (.iload 5, 2) := by decide +kernel
theorem dX11_governing_14 : decode cX11_governing 14 = .ok (.aload_n 0, 1) := by decide +kernel
theorem dX11_governing_15 : decode cX11_governing 15 = .ok (.getfield 149, 3) := by decide +kernel
theorem dX11_governing_18 : decode cX11_governing 18 = .ok (.if_icmp .ge 34, 3) := by decide +kernel
theorem dX11_governing_21 : decode cX11_governing 21 = .ok (.iload 4, 2) := by decide +kernel
theorem dX11_governing_23 : decode cX11_governing 23 = .ok (.aload_n 0, 1) := by decide +kernel
theorem dX11_governing_24 : decode cX11_governing 24 = .ok (.iload 5, 2) := by decide +kernel
theorem dX11_governing_26 : decode cX11_governing 26 = .ok (.iload_n 1, 1) := by decide +kernel
theorem dX11_governing_27 : decode cX11_governing 27 = .ok (.iload_n 2, 1) := by decide +kernel
theorem dX11_governing_28 : decode cX11_governing 28 = .ok (.iload_n 3, 1) := by decide +kernel
theorem dX11_governing_29 : decode cX11_governing 29 = .ok (.invokevirtual 230, 3) := by decide +kernel
theorem dX11_governing_32 : decode cX11_governing 32 = .ok (.ifCond .ne 10, 3) := by decide +kernel
theorem dX11_governing_35 : decode cX11_governing 35 = .ok (.iconst 1, 1) := by decide +kernel
theorem dX11_governing_36 : decode cX11_governing 36 = .ok (.iload 5, 2) := by decide +kernel
theorem dX11_governing_38 : decode cX11_governing 38 = .ok (.ishl, 1) := by decide +kernel
theorem dX11_governing_39 : decode cX11_governing 39 = .ok (.goto 4, 3) := by decide +kernel
theorem dX11_governing_42 : decode cX11_governing 42 = .ok (.iconst 0, 1) := by decide +kernel
theorem dX11_governing_43 : decode cX11_governing 43 = .ok (.ior, 1) := by decide +kernel
theorem dX11_governing_44 : decode cX11_governing 44 = .ok (.istore 4, 2) := by decide +kernel
theorem dX11_governing_46 : decode cX11_governing 46 = .ok (.iinc 5 1, 3) := by decide +kernel
theorem dX11_governing_49 : decode cX11_governing 49 = .ok (.goto (-37), 3) := by decide +kernel
theorem dX11_governing_52 : decode cX11_governing 52 = .ok (.iload 4, 2) := by decide +kernel
theorem dX11_governing_54 : decode cX11_governing 54 = .ok (.ifCond .ne 98, 3) := by decide +kernel
theorem dX11_governing_57 : decode cX11_governing 57 = .ok (.aload_n 0, 1) := by decide +kernel
theorem dX11_governing_58 : decode cX11_governing 58 = .ok (.getfield 204, 3) := by decide +kernel
theorem dX11_governing_61 : decode cX11_governing 61 = .ok (.iconst 1, 1) := by decide +kernel
theorem dX11_governing_62 : decode cX11_governing 62 = .ok (.if_icmp .ne 90, 3) := by decide +kernel
theorem dX11_governing_65 : decode cX11_governing 65 = .ok (.aload_n 0, 1) := by decide +kernel
theorem dX11_governing_66 : decode cX11_governing 66 = .ok (.getfield 53, 3) := by decide +kernel
theorem dX11_governing_69 : decode cX11_governing 69 = .ok (.iload_n 1, 1) := by decide +kernel
theorem dX11_governing_70 : decode cX11_governing 70 = .ok (.iaload, 1) := by decide +kernel
theorem dX11_governing_71 : decode cX11_governing 71 = .ok (.iload_n 2, 1) := by decide +kernel
theorem dX11_governing_72 : decode cX11_governing 72 = .ok (.if_icmp .gt 80, 3) := by decide +kernel
theorem dX11_governing_75 : decode cX11_governing 75 = .ok (.iconst 0, 1) := by decide +kernel
theorem dX11_governing_76 : decode cX11_governing 76 = .ok (.istore 5, 2) := by decide +kernel
theorem dX11_governing_78 : decode cX11_governing 78 = .ok (.iload 5, 2) := by decide +kernel
theorem dX11_governing_80 : decode cX11_governing 80 = .ok (.aload_n 0, 1) := by decide +kernel
theorem dX11_governing_81 : decode cX11_governing 81 = .ok (.getfield 149, 3) := by decide +kernel
theorem dX11_governing_84 : decode cX11_governing 84 = .ok (.if_icmp .ge 68, 3) := by decide +kernel
theorem dX11_governing_87 : decode cX11_governing 87 = .ok (.aload_n 0, 1) := by decide +kernel
theorem dX11_governing_88 : decode cX11_governing 88 = .ok (.iload 5, 2) := by decide +kernel
theorem dX11_governing_90 : decode cX11_governing 90 = .ok (.aload_n 0, 1) := by decide +kernel
theorem dX11_governing_91 : decode cX11_governing 91 = .ok (.getfield 53, 3) := by decide +kernel
theorem dX11_governing_94 : decode cX11_governing 94 = .ok (.iload_n 1, 1) := by decide +kernel
theorem dX11_governing_95 : decode cX11_governing 95 = .ok (.iaload, 1) := by decide +kernel
theorem dX11_governing_96 : decode cX11_governing 96 = .ok (.invokevirtual 172, 3) := by decide +kernel
theorem dX11_governing_99 : decode cX11_governing 99 = .ok (.ifCond .eq 26, 3) := by decide +kernel
theorem dX11_governing_102 : decode cX11_governing 102 = .ok (.iload_n 3, 1) := by decide +kernel
theorem dX11_governing_103 : decode cX11_governing 103 = .ok (.iload 5, 2) := by decide +kernel
theorem dX11_governing_105 : decode cX11_governing 105 = .ok (.ishr, 1) := by decide +kernel
theorem dX11_governing_106 : decode cX11_governing 106 = .ok (.iconst 1, 1) := by decide +kernel
theorem dX11_governing_107 : decode cX11_governing 107 = .ok (.iand, 1) := by decide +kernel
theorem dX11_governing_108 : decode cX11_governing 108 = .ok (.ifCond .ne 17, 3) := by decide +kernel
theorem dX11_governing_111 : decode cX11_governing 111 = .ok (.aload_n 0, 1) := by decide +kernel
theorem dX11_governing_112 : decode cX11_governing 112 = .ok (.iload 5, 2) := by decide +kernel
theorem dX11_governing_114 : decode cX11_governing 114 = .ok (.iload_n 1, 1) := by decide +kernel
theorem dX11_governing_115 : decode cX11_governing 115 = .ok (.invokevirtual 210, 3) := by decide +kernel
theorem dX11_governing_118 : decode cX11_governing 118 = .ok (.ifCond .lt 7, 3) := by decide +kernel
theorem dX11_governing_121 : decode cX11_governing 121 = .ok (.iconst 1, 1) := by decide +kernel
theorem dX11_governing_122 : decode cX11_governing 122 = .ok (.goto 4, 3) := by decide +kernel
theorem dX11_governing_125 : decode cX11_governing 125 = .ok (.iconst 0, 1) := by decide +kernel
theorem dX11_governing_126 : decode cX11_governing 126 = .ok (.istore 6, 2) := by decide +kernel
theorem dX11_governing_128 : decode cX11_governing 128 = .ok (.iload 4, 2) := by decide +kernel
theorem dX11_governing_130 : decode cX11_governing 130 = .ok (.iload 6, 2) := by decide +kernel
theorem dX11_governing_132 : decode cX11_governing 132 = .ok (.ifCond .eq 10, 3) := by decide +kernel
theorem dX11_governing_135 : decode cX11_governing 135 = .ok (.iconst 1, 1) := by decide +kernel
theorem dX11_governing_136 : decode cX11_governing 136 = .ok (.iload 5, 2) := by decide +kernel
theorem dX11_governing_138 : decode cX11_governing 138 = .ok (.ishl, 1) := by decide +kernel
theorem dX11_governing_139 : decode cX11_governing 139 = .ok (.goto 4, 3) := by decide +kernel
theorem dX11_governing_142 : decode cX11_governing 142 = .ok (.iconst 0, 1) := by decide +kernel
theorem dX11_governing_143 : decode cX11_governing 143 = .ok (.ior, 1) := by decide +kernel
theorem dX11_governing_144 : decode cX11_governing 144 = .ok (.istore 4, 2) := by decide +kernel
theorem dX11_governing_146 : decode cX11_governing 146 = .ok (.iinc 5 1, 3) := by decide +kernel
theorem dX11_governing_149 : decode cX11_governing 149 = .ok (.goto (-71), 3) := by decide +kernel
theorem dX11_governing_152 : decode cX11_governing 152 = .ok (.aload_n 0, 1) := by decide +kernel
theorem dX11_governing_153 : decode cX11_governing 153 = .ok (.iload 4, 2) := by decide +kernel
theorem dX11_governing_155 : decode cX11_governing 155 = .ok (.iload_n 1, 1) := by decide +kernel
theorem dX11_governing_156 : decode cX11_governing 156 = .ok (.invokevirtual 234, 3) := by decide +kernel
theorem dX11_governing_159 : decode cX11_governing 159 = .ok (.ireturn, 1) := by decide +kernel
theorem dX11_governs0_0 : decode cX11_governs0 0 = .ok (.aload_n 0, 1) := by decide +kernel
theorem dX11_governs0_1 : decode cX11_governs0 1 = .ok (.iload_n 1, 1) := by decide +kernel
theorem dX11_governs0_2 : decode cX11_governs0 2 = .ok (.aload_n 0, 1) := by decide +kernel
theorem dX11_governs0_3 : decode cX11_governs0 3 = .ok (.iload_n 1, 1) := by decide +kernel
theorem dX11_governs0_4 : decode cX11_governs0 4 = .ok (.iload_n 2, 1) := by decide +kernel
theorem dX11_governs0_5 : decode cX11_governs0 5 = .ok (.invokevirtual 237, 3) := by decide +kernel
theorem dX11_governs0_8 : decode cX11_governs0 8 = .ok (.invokevirtual 240, 3) := by decide +kernel
theorem dX11_governs0_11 : decode cX11_governs0 11 = .ok (.ireturn, 1) := by decide +kernel
theorem dX11_meets_0 : decode cX11_meets 0 = .ok (.aload_n 0, 1) := by decide +kernel
theorem dX11_meets_1 : decode cX11_meets 1 = .ok (.iload_n 1, 1) := by decide +kernel
theorem dX11_meets_2 : decode cX11_meets 2 = .ok (.invokevirtual 169, 3) := by decide +kernel
theorem dX11_meets_5 : decode cX11_meets 5 = .ok (.ifCond .eq 11, 3) := by decide +kernel
theorem dX11_meets_8 : decode cX11_meets 8 = .ok (.aload_n 0, 1) := by decide +kernel
theorem dX11_meets_9 : decode cX11_meets 9 = .ok (.iload_n 2, 1) := by decide +kernel
theorem dX11_meets_10 : decode cX11_meets 10 = .ok (.invokevirtual 198, 3) := by decide +kernel
theorem dX11_meets_13 : decode cX11_meets 13 = .ok (.ifCond .ne 5, 3) := by decide +kernel
theorem dX11_meets_16 : decode cX11_meets 16 = .ok (.iconst (-1), 1) := by decide +kernel
theorem dX11_meets_17 : decode cX11_meets 17 = .ok (.ireturn, 1) := by decide +kernel
theorem dX11_meets_18 : decode cX11_meets 18 = .ok (.iload_n 3, 1) := by decide +kernel
theorem dX11_meets_19 : decode cX11_meets 19 = .ok (.invokestatic 156, 3) := by decide +kernel
theorem dX11_meets_22 : decode cX11_meets 22 = .ok (.ifCond .ne 6, 3) := by decide +kernel
theorem dX11_meets_25 : decode cX11_meets 25 = .ok (.bipush (-2), 2) := by decide +kernel
theorem dX11_meets_27 : decode cX11_meets 27 = .ok (.ireturn, 1) := by decide +kernel
theorem dX11_meets_28 : decode cX11_meets 28 = .ok (.aload_n 0, 1) := by decide +kernel
theorem dX11_meets_29 : decode cX11_meets 29 = .ok (.iload_n 2, 1) := by decide +kernel
theorem dX11_meets_30 : decode cX11_meets 30 = .ok (.iload_n 3, 1) := by decide +kernel
theorem dX11_meets_31 : decode cX11_meets 31 = .ok (.invokevirtual 237, 3) := by decide +kernel
theorem dX11_meets_34 : decode cX11_meets 34 = .ok (.istore 4, 2) := by decide +kernel
theorem dX11_meets_36 : decode cX11_meets 36 = .ok (.aload_n 0, 1) := by decide +kernel
theorem dX11_meets_37 : decode cX11_meets 37 = .ok (.iload_n 1, 1) := by decide +kernel
theorem dX11_meets_38 : decode cX11_meets 38 = .ok (.iload_n 2, 1) := by decide +kernel
theorem dX11_meets_39 : decode cX11_meets 39 = .ok (.iload 4, 2) := by decide +kernel
theorem dX11_meets_41 : decode cX11_meets 41 = .ok (.aload_n 0, 1) := by decide +kernel
theorem dX11_meets_42 : decode cX11_meets 42 = .ok (.iload 4, 2) := by decide +kernel
theorem dX11_meets_44 : decode cX11_meets 44 = .ok (.invokevirtual 181, 3) := by decide +kernel
theorem dX11_meets_47 : decode cX11_meets 47 = .ok (.invokevirtual 230, 3) := by decide +kernel
theorem dX11_meets_50 : decode cX11_meets 50 = .ok (.ifCond .ne 7, 3) := by decide +kernel
theorem dX11_meets_53 : decode cX11_meets 53 = .ok (.iconst 1, 1) := by decide +kernel
theorem dX11_meets_54 : decode cX11_meets 54 = .ok (.goto 4, 3) := by decide +kernel
theorem dX11_meets_57 : decode cX11_meets 57 = .ok (.iconst 0, 1) := by decide +kernel
theorem dX11_meets_58 : decode cX11_meets 58 = .ok (.ireturn, 1) := by decide +kernel
theorem dX11_why_0 : decode cX11_why 0 = .ok (.aload_n 0, 1) := by decide +kernel
theorem dX11_why_1 : decode cX11_why 1 = .ok (.iload_n 1, 1) := by decide +kernel
theorem dX11_why_2 : decode cX11_why 2 = .ok (.invokevirtual 169, 3) := by decide +kernel
theorem dX11_why_5 : decode cX11_why 5 = .ok (.ifCond .eq 11, 3) := by decide +kernel
theorem dX11_why_8 : decode cX11_why 8 = .ok (.aload_n 0, 1) := by decide +kernel
theorem dX11_why_9 : decode cX11_why 9 = .ok (.iload_n 2, 1) := by decide +kernel
theorem dX11_why_10 : decode cX11_why 10 = .ok (.invokevirtual 198, 3) := by decide +kernel
theorem dX11_why_13 : decode cX11_why 13 = .ok (.ifCond .ne 5, 3) := by decide +kernel
theorem dX11_why_16 : decode cX11_why 16 = .ok (.iconst (-1), 1) := by decide +kernel
theorem dX11_why_17 : decode cX11_why 17 = .ok (.ireturn, 1) := by decide +kernel
theorem dX11_why_18 : decode cX11_why 18 = .ok (.iload_n 3, 1) := by decide +kernel
theorem dX11_why_19 : decode cX11_why 19 = .ok (.invokestatic 156, 3) := by decide +kernel
theorem dX11_why_22 : decode cX11_why 22 = .ok (.ifCond .ne 6, 3) := by decide +kernel
theorem dX11_why_25 : decode cX11_why 25 = .ok (.bipush (-2), 2) := by decide +kernel
theorem dX11_why_27 : decode cX11_why 27 = .ok (.ireturn, 1) := by decide +kernel
theorem dX11_why_28 : decode cX11_why 28 = .ok (.aload_n 0, 1) := by decide +kernel
theorem dX11_why_29 : decode cX11_why 29 = .ok (.iload_n 2, 1) := by decide +kernel
theorem dX11_why_30 : decode cX11_why 30 = .ok (.iload_n 3, 1) := by decide +kernel
theorem dX11_why_31 : decode cX11_why 31 = .ok (.invokevirtual 243, 3) := by decide +kernel
theorem dX11_why_34 : decode cX11_why 34 = .ok (.iload_n 1, 1) := by decide +kernel
theorem dX11_why_35 : decode cX11_why 35 = .ok (.if_icmp .ne 5, 3) := by decide +kernel
theorem dX11_why_38 : decode cX11_why 38 = .ok (.iconst 0, 1) := by decide +kernel
theorem dX11_why_39 : decode cX11_why 39 = .ok (.ireturn, 1) := by decide +kernel
theorem dX11_why_40 : decode cX11_why 40 = .ok (.aload_n 0, 1) := by decide +kernel
theorem dX11_why_41 : decode cX11_why 41 = .ok (.iload_n 2, 1) := by decide +kernel
theorem dX11_why_42 : decode cX11_why 42 = .ok (.iload_n 3, 1) := by decide +kernel
theorem dX11_why_43 : decode cX11_why 43 = .ok (.invokevirtual 237, 3) := by decide +kernel
theorem dX11_why_46 : decode cX11_why 46 = .ok (.istore 4, 2) := by decide +kernel
theorem dX11_why_48 : decode cX11_why 48 = .ok (.aload_n 0, 1) := by decide +kernel
theorem dX11_why_49 : decode cX11_why 49 = .ok (.iload_n 1, 1) := by decide +kernel
theorem dX11_why_50 : decode cX11_why 50 = .ok (.iload_n 2, 1) := by decide +kernel
theorem dX11_why_51 : decode cX11_why 51 = .ok (.iload 4, 2) := by decide +kernel
theorem dX11_why_53 : decode cX11_why 53 = .ok (.aload_n 0, 1) := by decide +kernel
theorem dX11_why_54 : decode cX11_why 54 = .ok (.iload 4, 2) := by decide +kernel
theorem dX11_why_56 : decode cX11_why 56 = .ok (.invokevirtual 181, 3) := by decide +kernel
theorem dX11_why_59 : decode cX11_why 59 = .ok (.invokevirtual 230, 3) := by decide +kernel
theorem dX11_why_62 : decode cX11_why 62 = .ok (.istore 5, 2) := by decide +kernel
theorem dX11_why_64 : decode cX11_why 64 = .ok (.iload 5, 2) := by decide +kernel
theorem dX11_why_66 : decode cX11_why 66 = .ok (.ifCond .ne 8, 3) := by decide +kernel
theorem dX11_why_69 : decode cX11_why 69 = .ok (.bipush 6, 2) := by decide +kernel
theorem dX11_why_71 : decode cX11_why 71 = .ok (.goto 5, 3) := by decide +kernel
theorem dX11_why_74 : decode cX11_why 74 = .ok (.iload 5, 2) := by decide +kernel
theorem dX11_why_76 : decode cX11_why 76 = .ok (.ireturn, 1) := by decide +kernel
theorem dX11_governs_0 : decode cX11_governs 0 = .ok (.aload_n 0, 1) := by decide +kernel
theorem dX11_governs_1 : decode cX11_governs 1 = .ok (.iload_n 1, 1) := by decide +kernel
theorem dX11_governs_2 : decode cX11_governs 2 = .ok (.invokevirtual 198, 3) := by decide +kernel
theorem dX11_governs_5 : decode cX11_governs 5 = .ok (.ifCond .ne 5, 3) := by decide +kernel
theorem dX11_governs_8 : decode cX11_governs 8 = .ok (.iconst (-1), 1) := by decide +kernel
theorem dX11_governs_9 : decode cX11_governs 9 = .ok (.ireturn, 1) := by decide +kernel
theorem dX11_governs_10 : decode cX11_governs 10 = .ok (.iload_n 2, 1) := by decide +kernel
theorem dX11_governs_11 : decode cX11_governs 11 = .ok (.invokestatic 156, 3) := by decide +kernel
theorem dX11_governs_14 : decode cX11_governs 14 = .ok (.ifCond .eq 12, 3) := by decide +kernel
theorem dX11_governs_17 : decode cX11_governs 17 = .ok (.aload_n 0, 1) := by decide +kernel
theorem dX11_governs_18 : decode cX11_governs 18 = .ok (.iload_n 1, 1) := by decide +kernel
theorem dX11_governs_19 : decode cX11_governs 19 = .ok (.iload_n 2, 1) := by decide +kernel
theorem dX11_governs_20 : decode cX11_governs 20 = .ok (.invokevirtual 243, 3) := by decide +kernel
theorem dX11_governs_23 : decode cX11_governs 23 = .ok (.goto 5, 3) := by decide +kernel
theorem dX11_governs_26 : decode cX11_governs 26 = .ok (.bipush (-2), 2) := by decide +kernel
theorem dX11_governs_28 : decode cX11_governs 28 = .ok (.ireturn, 1) := by decide +kernel
theorem dX11_those_0 : decode cX11_those 0 = .ok (.iload_n 1, 1) := by decide +kernel
theorem dX11_those_1 : decode cX11_those 1 = .ok (.invokestatic 156, 3) := by decide +kernel
theorem dX11_those_4 : decode cX11_those 4 = .ok (.ifCond .eq 15, 3) := by decide +kernel
theorem dX11_those_7 : decode cX11_those 7 = .ok (.iload_n 2, 1) := by decide +kernel
theorem dX11_those_8 : decode cX11_those 8 = .ok (.i2l, 1) := by decide +kernel
theorem dX11_those_9 : decode cX11_those 9 = .ok (.lconst 0, 1) := by decide +kernel
theorem dX11_those_10 : decode cX11_those 10 = .ok (.ldc2_w 246, 3) := by decide +kernel
theorem dX11_those_13 : decode cX11_those 13 = .ok (.invokestatic 86, 3) := by decide +kernel
theorem dX11_those_16 : decode cX11_those 16 = .ok (.ifCond .ne 6, 3) := by decide +kernel
theorem dX11_those_19 : decode cX11_those 19 = .ok (.bipush (-2), 2) := by decide +kernel
theorem dX11_those_21 : decode cX11_those 21 = .ok (.ireturn, 1) := by decide +kernel
theorem dX11_those_22 : decode cX11_those 22 = .ok (.iconst 0, 1) := by decide +kernel
theorem dX11_those_23 : decode cX11_those 23 = .ok (.istore_n 3, 1) := by decide +kernel
theorem dX11_those_24 : decode cX11_those 24 = .ok (.iconst 0, 1) := by decide +kernel
theorem dX11_those_25 : decode cX11_those 25 = .ok (.istore 4, 2) := by decide +kernel
theorem dX11_those_27 : decode cX11_those 27 = .ok (.iload 4, 2) := by decide +kernel
theorem dX11_those_29 : decode cX11_those 29 = .ok (.aload_n 0, 1) := by decide +kernel
theorem dX11_those_30 : decode cX11_those 30 = .ok (.getfield 190, 3) := by decide +kernel
theorem dX11_those_33 : decode cX11_those 33 = .ok (.if_icmp .ge 112, 3) := by decide +kernel
theorem dX11_those_36 : decode cX11_those 36 = .ok (.aload_n 0, 1) := by decide +kernel
theorem dX11_those_37 : decode cX11_those 37 = .ok (.getfield 53, 3) := by decide +kernel
theorem dX11_those_40 : decode cX11_those 40 = .ok (.iload 4, 2) := by decide +kernel
theorem dX11_those_42 : decode cX11_those 42 = .ok (.iaload, 1) := by decide +kernel
theorem dX11_those_43 : decode cX11_those 43 = .ok (.iload_n 1, 1) := by decide +kernel
theorem dX11_those_44 : decode cX11_those 44 = .ok (.if_icmp .gt 7, 3) := by decide +kernel
theorem dX11_those_47 : decode cX11_those 47 = .ok (.iconst 1, 1) := by decide +kernel
theorem dX11_those_48 : decode cX11_those 48 = .ok (.goto 4, 3) := by decide +kernel
theorem dX11_those_51 : decode cX11_those 51 = .ok (.iconst 0, 1) := by decide +kernel
theorem dX11_those_52 : decode cX11_those 52 = .ok (.istore 5, 2) := by decide +kernel
theorem dX11_those_54 : decode cX11_those 54 = .ok (.iload_n 2, 1) := by decide +kernel
theorem dX11_those_55 : decode cX11_those 55 = .ok (.iconst 2, 1) := by decide +kernel
theorem dX11_those_56 : decode cX11_those 56 = .ok (.if_icmp .ne 25, 3) := by decide +kernel
theorem dX11_those_59 : decode cX11_those 59 = .ok (.aload_n 0, 1) := by decide +kernel
theorem dX11_those_60 : decode cX11_those 60 = .ok (.iload 4, 2) := by decide +kernel
theorem dX11_those_62 : decode cX11_those 62 = .ok (.iload_n 1, 1) := by decide +kernel
theorem dX11_those_63 : decode cX11_those 63 = .ok (.invokevirtual 248, 3) := by decide +kernel
theorem dX11_those_66 : decode cX11_those 66 = .ok (.bipush (-3), 2) := by decide +kernel
theorem dX11_those_68 : decode cX11_those 68 = .ok (.if_icmp .ne 7, 3) := by decide +kernel
theorem dX11_those_71 : decode cX11_those 71 = .ok (.iconst 1, 1) := by decide +kernel
theorem dX11_those_72 : decode cX11_those 72 = .ok (.goto 4, 3) := by decide +kernel
theorem dX11_those_75 : decode cX11_those 75 = .ok (.iconst 0, 1) := by decide +kernel
theorem dX11_those_76 : decode cX11_those 76 = .ok (.istore 5, 2) := by decide +kernel
theorem dX11_those_78 : decode cX11_those 78 = .ok (.goto 45, 3) := by decide +kernel
theorem dX11_those_81 : decode cX11_those 81 = .ok (.iload_n 2, 1) := by decide +kernel
theorem dX11_those_82 : decode cX11_those 82 = .ok (.iconst 2, 1) := by decide +kernel
theorem dX11_those_83 : decode cX11_those 83 = .ok (.if_icmp .ge 40, 3) := by decide +kernel
theorem dX11_those_86 : decode cX11_those 86 = .ok (.aload_n 0, 1) := by decide +kernel
theorem dX11_those_87 : decode cX11_those 87 = .ok (.iload 4, 2) := by decide +kernel
theorem dX11_those_89 : decode cX11_those 89 = .ok (.iload_n 1, 1) := by decide +kernel
theorem dX11_those_90 : decode cX11_those 90 = .ok (.invokevirtual 243, 3) := by decide +kernel
theorem dX11_those_93 : decode cX11_those 93 = .ok (.istore 6, 2) := by decide +kernel
theorem dX11_those_95 : decode cX11_those 95 = .ok (.iload_n 2, 1) := by decide +kernel
theorem dX11_those_96 : decode cX11_those 96 = .ok (.ifCond .ne 10, 3) := by decide +kernel
theorem dX11_those_99 : decode cX11_those 99 = .ok (.aload_n 0, 1) := by decide +kernel
theorem dX11_those_100 : decode cX11_those 100 = .ok (.getfield 216, 3) := by decide +kernel
theorem dX11_those_103 : decode cX11_those 103 = .ok (.goto 18, 3) := by decide +kernel
theorem dX11_those_106 : decode cX11_those 106 = .ok (.iload 5, 2) := by decide +kernel
theorem dX11_those_108 : decode cX11_those 108 = .ok (.ifCond .eq 12, 3) := by decide +kernel
theorem dX11_those_111 : decode cX11_those 111 = .ok (.iload 6, 2) := by decide +kernel
theorem dX11_those_113 : decode cX11_those 113 = .ok (.ifCond .ge 7, 3) := by decide +kernel
theorem dX11_those_116 : decode cX11_those 116 = .ok (.iconst 1, 1) := by decide +kernel
theorem dX11_those_117 : decode cX11_those 117 = .ok (.goto 4, 3) := by decide +kernel
theorem dX11_those_120 : decode cX11_those 120 = .ok (.iconst 0, 1) := by decide +kernel
theorem dX11_those_121 : decode cX11_those 121 = .ok (.istore 5, 2) := by decide +kernel
theorem dX11_those_123 : decode cX11_those 123 = .ok (.iload_n 3, 1) := by decide +kernel
theorem dX11_those_124 : decode cX11_those 124 = .ok (.iload 5, 2) := by decide +kernel
theorem dX11_those_126 : decode cX11_those 126 = .ok (.ifCond .eq 10, 3) := by decide +kernel
theorem dX11_those_129 : decode cX11_those 129 = .ok (.iconst 1, 1) := by decide +kernel
theorem dX11_those_130 : decode cX11_those 130 = .ok (.iload 4, 2) := by decide +kernel
theorem dX11_those_132 : decode cX11_those 132 = .ok (.ishl, 1) := by decide +kernel
theorem dX11_those_133 : decode cX11_those 133 = .ok (.goto 4, 3) := by decide +kernel
theorem dX11_those_136 : decode cX11_those 136 = .ok (.iconst 0, 1) := by decide +kernel
theorem dX11_those_137 : decode cX11_those 137 = .ok (.ior, 1) := by decide +kernel
theorem dX11_those_138 : decode cX11_those 138 = .ok (.istore_n 3, 1) := by decide +kernel
theorem dX11_those_139 : decode cX11_those 139 = .ok (.iinc 4 1, 3) := by decide +kernel
theorem dX11_those_142 : decode cX11_those 142 = .ok (.goto (-115), 3) := by decide +kernel
theorem dX11_those_145 : decode cX11_those 145 = .ok (.iload_n 3, 1) := by decide +kernel
theorem dX11_those_146 : decode cX11_those 146 = .ok (.ireturn, 1) := by decide +kernel
theorem dX11_plainGift_0 : decode cX11_plainGift 0 = .ok (.aload_n 0, 1) := by decide +kernel
theorem dX11_plainGift_1 : decode cX11_plainGift 1 = .ok (.iload_n 1, 1) := by decide +kernel
theorem dX11_plainGift_2 : decode cX11_plainGift 2 = .ok (.iload_n 2, 1) := by decide +kernel
theorem dX11_plainGift_3 : decode cX11_plainGift 3 = .ok (.invokevirtual 237, 3) := by decide +kernel
theorem dX11_plainGift_6 : decode cX11_plainGift 6 = .ok (.istore_n 3, 1) := by decide +kernel
theorem dX11_plainGift_7 : decode cX11_plainGift 7 = .ok (.aload_n 0, 1) := by decide +kernel
theorem dX11_plainGift_8 : decode cX11_plainGift 8 = .ok (.iload_n 3, 1) := by decide +kernel
theorem dX11_plainGift_9 : decode cX11_plainGift 9 = .ok (.invokevirtual 181, 3) := by decide +kernel
theorem dX11_plainGift_12 : decode cX11_plainGift 12 = .ok (.istore 4, 2) := by decide +kernel
theorem dX11_plainGift_14 : decode cX11_plainGift 14 = .ok (.aload_n 0, 1) := by decide +kernel
theorem dX11_plainGift_15 : decode cX11_plainGift 15 = .ok (.iload_n 1, 1) := by decide +kernel
theorem dX11_plainGift_16 : decode cX11_plainGift 16 = .ok (.iload_n 3, 1) := by decide +kernel
theorem dX11_plainGift_17 : decode cX11_plainGift 17 = .ok (.invokevirtual 240, 3) := by decide +kernel
theorem dX11_plainGift_20 : decode cX11_plainGift 20 = .ok (.istore 5, 2) := by decide +kernel
theorem dX11_plainGift_22 : decode cX11_plainGift 22 = .ok (.iconst 0, 1) := by decide +kernel
theorem dX11_plainGift_23 : decode cX11_plainGift 23 = .ok (.istore 6, 2) := by decide +kernel
theorem dX11_plainGift_25 : decode cX11_plainGift 25 = .ok (.aload_n 0, 1) := by decide +kernel
theorem dX11_plainGift_26 : decode cX11_plainGift 26 = .ok (.iconst 0, 1) := by decide +kernel
theorem dX11_plainGift_27 : decode cX11_plainGift 27 = .ok (.putfield 251, 3) := by decide +kernel
theorem dX11_plainGift_30 : decode cX11_plainGift 30 = .ok (.aload_n 0, 1) := by decide +kernel
theorem dX11_plainGift_31 : decode cX11_plainGift 31 = .ok (.iload 5, 2) := by decide +kernel
theorem dX11_plainGift_33 : decode cX11_plainGift 33 = .ok (.invokevirtual 169, 3) := by decide +kernel
theorem dX11_plainGift_36 : decode cX11_plainGift 36 = .ok (.ifCond .eq 106, 3) := by decide +kernel
theorem dX11_plainGift_39 : decode cX11_plainGift 39 = .ok (.iload 6, 2) := by decide +kernel
theorem dX11_plainGift_41 : decode cX11_plainGift 41 = .ok (.iload 5, 2) := by decide +kernel
theorem dX11_plainGift_43 : decode cX11_plainGift 43 = .ok (.ishr, 1) := by decide +kernel
theorem dX11_plainGift_44 : decode cX11_plainGift 44 = .ok (.iconst 1, 1) := by decide +kernel
theorem dX11_plainGift_45 : decode cX11_plainGift 45 = .ok (.iand, 1) := by decide +kernel
theorem dX11_plainGift_46 : decode cX11_plainGift 46 = .ok (.ifCond .ne 96, 3) := by decide +kernel
theorem dX11_plainGift_49 : decode cX11_plainGift 49 = .ok (.aload_n 0, 1) := by decide +kernel
theorem dX11_plainGift_50 : decode cX11_plainGift 50 = .ok (.iload 5, 2) := by decide +kernel
theorem dX11_plainGift_52 : decode cX11_plainGift 52 = .ok (.iload_n 1, 1) := by decide +kernel
theorem dX11_plainGift_53 : decode cX11_plainGift 53 = .ok (.invokevirtual 210, 3) := by decide +kernel
theorem dX11_plainGift_56 : decode cX11_plainGift 56 = .ok (.istore 7, 2) := by decide +kernel
theorem dX11_plainGift_58 : decode cX11_plainGift 58 = .ok (.iload 7, 2) := by decide +kernel
theorem dX11_plainGift_60 : decode cX11_plainGift 60 = .ok (.ifCond .lt 14, 3) := by decide +kernel
theorem dX11_plainGift_63 : decode cX11_plainGift 63 = .ok (.iload 4, 2) := by decide +kernel
theorem dX11_plainGift_65 : decode cX11_plainGift 65 = .ok (.iload 5, 2) := by decide +kernel
theorem dX11_plainGift_67 : decode cX11_plainGift 67 = .ok (.ishr, 1) := by decide +kernel
theorem dX11_plainGift_68 : decode cX11_plainGift 68 = .ok (.iconst 1, 1) := by decide +kernel
theorem dX11_plainGift_69 : decode cX11_plainGift 69 = .ok (.iand, 1) := by decide +kernel
theorem dX11_plainGift_70 : decode cX11_plainGift 70 = .ok (.iconst 1, 1) := by decide +kernel
theorem dX11_plainGift_71 : decode cX11_plainGift 71 = .ok (.if_icmp .ne 6, 3) := by decide +kernel
theorem dX11_plainGift_74 : decode cX11_plainGift 74 = .ok (.bipush (-6), 2) := by decide +kernel
theorem dX11_plainGift_76 : decode cX11_plainGift 76 = .ok (.ireturn, 1) := by decide +kernel
theorem dX11_plainGift_77 : decode cX11_plainGift 77 = .ok (.aload_n 0, 1) := by decide +kernel
theorem dX11_plainGift_78 : decode cX11_plainGift 78 = .ok (.getfield 68, 3) := by decide +kernel
theorem dX11_plainGift_81 : decode cX11_plainGift 81 = .ok (.aload_n 0, 1) := by decide +kernel
theorem dX11_plainGift_82 : decode cX11_plainGift 82 = .ok (.getfield 251, 3) := by decide +kernel
theorem dX11_plainGift_85 : decode cX11_plainGift 85 = .ok (.iload 5, 2) := by decide +kernel
theorem dX11_plainGift_87 : decode cX11_plainGift 87 = .ok (.iastore, 1) := by decide +kernel
theorem dX11_plainGift_88 : decode cX11_plainGift 88 = .ok (.aload_n 0, 1) := by decide +kernel
theorem dX11_plainGift_89 : decode cX11_plainGift 89 = .ok (.dup, 1) := by decide +kernel
theorem dX11_plainGift_90 : decode cX11_plainGift 90 = .ok (.getfield 251, 3) := by decide +kernel
theorem dX11_plainGift_93 : decode cX11_plainGift 93 = .ok (.iconst 1, 1) := by decide +kernel
theorem dX11_plainGift_94 : decode cX11_plainGift 94 = .ok (.iadd, 1) := by decide +kernel
theorem dX11_plainGift_95 : decode cX11_plainGift 95 = .ok (.putfield 251, 3) := by decide +kernel
theorem dX11_plainGift_98 : decode cX11_plainGift 98 = .ok (.iload 6, 2) := by decide +kernel
theorem dX11_plainGift_100 : decode cX11_plainGift 100 = .ok (.iconst 1, 1) := by decide +kernel
theorem dX11_plainGift_101 : decode cX11_plainGift 101 = .ok (.iload 5, 2) := by decide +kernel
theorem dX11_plainGift_103 : decode cX11_plainGift 103 = .ok (.ishl, 1) := by decide +kernel
theorem dX11_plainGift_104 : decode cX11_plainGift 104 = .ok (.ior, 1) := by decide +kernel
theorem dX11_plainGift_105 : decode cX11_plainGift 105 = .ok (.istore 6, 2) := by decide +kernel
theorem dX11_plainGift_107 : decode cX11_plainGift 107 = .ok (.aload_n 0, 1) := by decide +kernel
theorem dX11_plainGift_108 : decode cX11_plainGift 108 = .ok (.getfield 25, 3) := by decide +kernel
theorem dX11_plainGift_111 : decode cX11_plainGift 111 = .ok (.bipush 6, 2) := by decide +kernel
theorem dX11_plainGift_113 : decode cX11_plainGift 113 = .ok (.iload 5, 2) := by decide +kernel
theorem dX11_plainGift_115 : decode cX11_plainGift 115 = .ok (.imul, 1) := by decide +kernel
theorem dX11_plainGift_116 : decode cX11_plainGift 116 = .ok (.iload 7, 2) := by decide +kernel
theorem dX11_plainGift_118 : decode cX11_plainGift 118 = .ok (.iadd, 1) := by decide +kernel
theorem dX11_plainGift_119 : decode cX11_plainGift 119 = .ok (.iaload, 1) := by decide +kernel
theorem dX11_plainGift_120 : decode cX11_plainGift 120 = .ok (.istore 8, 2) := by decide +kernel
theorem dX11_plainGift_122 : decode cX11_plainGift 122 = .ok (.iload 8, 2) := by decide +kernel
theorem dX11_plainGift_124 : decode cX11_plainGift 124 = .ok (.bipush 100, 2) := by decide +kernel
theorem dX11_plainGift_126 : decode cX11_plainGift 126 = .ok (.if_icmp .ge 6, 3) := by decide +kernel
theorem dX11_plainGift_129 : decode cX11_plainGift 129 = .ok (.iload 8, 2) := by decide +kernel
theorem dX11_plainGift_131 : decode cX11_plainGift 131 = .ok (.ireturn, 1) := by decide +kernel
theorem dX11_plainGift_132 : decode cX11_plainGift 132 = .ok (.iload 8, 2) := by decide +kernel
theorem dX11_plainGift_134 : decode cX11_plainGift 134 = .ok (.bipush 100, 2) := by decide +kernel
theorem dX11_plainGift_136 : decode cX11_plainGift 136 = .ok (.isub, 1) := by decide +kernel
theorem dX11_plainGift_137 : decode cX11_plainGift 137 = .ok (.istore 5, 2) := by decide +kernel
theorem dX11_plainGift_139 : decode cX11_plainGift 139 = .ok (.goto (-109), 3) := by decide +kernel
theorem dX11_plainGift_142 : decode cX11_plainGift 142 = .ok (.aload_n 0, 1) := by decide +kernel
theorem dX11_plainGift_143 : decode cX11_plainGift 143 = .ok (.iload 5, 2) := by decide +kernel
theorem dX11_plainGift_145 : decode cX11_plainGift 145 = .ok (.invokevirtual 169, 3) := by decide +kernel
theorem dX11_plainGift_148 : decode cX11_plainGift 148 = .ok (.ifCond .eq 8, 3) := by decide +kernel
theorem dX11_plainGift_151 : decode cX11_plainGift 151 = .ok (.bipush (-3), 2) := by decide +kernel
theorem dX11_plainGift_153 : decode cX11_plainGift 153 = .ok (.goto 5, 3) := by decide +kernel
theorem dX11_plainGift_156 : decode cX11_plainGift 156 = .ok (.bipush (-6), 2) := by decide +kernel
theorem dX11_plainGift_158 : decode cX11_plainGift 158 = .ok (.ireturn, 1) := by decide +kernel
theorem dX11_giftOf_0 : decode cX11_giftOf 0 = .ok (.aload_n 0, 1) := by decide +kernel
theorem dX11_giftOf_1 : decode cX11_giftOf 1 = .ok (.iload_n 1, 1) := by decide +kernel
theorem dX11_giftOf_2 : decode cX11_giftOf 2 = .ok (.iload_n 2, 1) := by decide +kernel
theorem dX11_giftOf_3 : decode cX11_giftOf 3 = .ok (.invokevirtual 248, 3) := by decide +kernel
theorem dX11_giftOf_6 : decode cX11_giftOf 6 = .ok (.istore_n 3, 1) := by decide +kernel
theorem dX11_giftOf_7 : decode cX11_giftOf 7 = .ok (.aload_n 0, 1) := by decide +kernel
theorem dX11_giftOf_8 : decode cX11_giftOf 8 = .ok (.getfield 251, 3) := by decide +kernel
theorem dX11_giftOf_11 : decode cX11_giftOf 11 = .ok (.ifCond .le 12, 3) := by decide +kernel
theorem dX11_giftOf_14 : decode cX11_giftOf 14 = .ok (.aload_n 0, 1) := by decide +kernel
theorem dX11_giftOf_15 : decode cX11_giftOf 15 = .ok (.getfield 68, 3) := by decide +kernel
theorem dX11_giftOf_18 : decode cX11_giftOf 18 = .ok (.iconst 0, 1) := by decide +kernel
theorem dX11_giftOf_19 : decode cX11_giftOf 19 = .ok (.iaload, 1) := by decide +kernel
theorem dX11_giftOf_20 : decode cX11_giftOf 20 = .ok (.goto 5, 3) := by decide +kernel
theorem dX11_giftOf_23 : decode cX11_giftOf 23 = .ok (.bipush (-6), 2) := by decide +kernel
theorem dX11_giftOf_25 : decode cX11_giftOf 25 = .ok (.istore 4, 2) := by decide +kernel
theorem dX11_giftOf_27 : decode cX11_giftOf 27 = .ok (.aload_n 0, 1) := by decide +kernel
theorem dX11_giftOf_28 : decode cX11_giftOf 28 = .ok (.getfield 207, 3) := by decide +kernel
theorem dX11_giftOf_31 : decode cX11_giftOf 31 = .ok (.iconst 1, 1) := by decide +kernel
theorem dX11_giftOf_32 : decode cX11_giftOf 32 = .ok (.if_icmp .ne 54, 3) := by decide +kernel
theorem dX11_giftOf_35 : decode cX11_giftOf 35 = .ok (.iload_n 3, 1) := by decide +kernel
theorem dX11_giftOf_36 : decode cX11_giftOf 36 = .ok (.ifCond .lt 50, 3) := by decide +kernel
theorem dX11_giftOf_39 : decode cX11_giftOf 39 = .ok (.aload_n 0, 1) := by decide +kernel
theorem dX11_giftOf_40 : decode cX11_giftOf 40 = .ok (.getfield 13, 3) := by decide +kernel
theorem dX11_giftOf_43 : decode cX11_giftOf 43 = .ok (.iload 4, 2) := by decide +kernel
theorem dX11_giftOf_45 : decode cX11_giftOf 45 = .ok (.iaload, 1) := by decide +kernel
theorem dX11_giftOf_46 : decode cX11_giftOf 46 = .ok (.aload_n 0, 1) := by decide +kernel
theorem dX11_giftOf_47 : decode cX11_giftOf 47 = .ok (.getfield 53, 3) := by decide +kernel
theorem dX11_giftOf_50 : decode cX11_giftOf 50 = .ok (.iload_n 1, 1) := by decide +kernel
theorem dX11_giftOf_51 : decode cX11_giftOf 51 = .ok (.iaload, 1) := by decide +kernel
theorem dX11_giftOf_52 : decode cX11_giftOf 52 = .ok (.if_icmp .le 34, 3) := by decide +kernel
theorem dX11_giftOf_55 : decode cX11_giftOf 55 = .ok (.aload_n 0, 1) := by decide +kernel
theorem dX11_giftOf_56 : decode cX11_giftOf 56 = .ok (.iload_n 1, 1) := by decide +kernel
theorem dX11_giftOf_57 : decode cX11_giftOf 57 = .ok (.aload_n 0, 1) := by decide +kernel
theorem dX11_giftOf_58 : decode cX11_giftOf 58 = .ok (.getfield 53, 3) := by decide +kernel
theorem dX11_giftOf_61 : decode cX11_giftOf 61 = .ok (.iload_n 1, 1) := by decide +kernel
theorem dX11_giftOf_62 : decode cX11_giftOf 62 = .ok (.iaload, 1) := by decide +kernel
theorem dX11_giftOf_63 : decode cX11_giftOf 63 = .ok (.invokevirtual 248, 3) := by decide +kernel
theorem dX11_giftOf_66 : decode cX11_giftOf 66 = .ok (.istore 5, 2) := by decide +kernel
theorem dX11_giftOf_68 : decode cX11_giftOf 68 = .ok (.iload 5, 2) := by decide +kernel
theorem dX11_giftOf_70 : decode cX11_giftOf 70 = .ok (.ifCond .lt 14, 3) := by decide +kernel
theorem dX11_giftOf_73 : decode cX11_giftOf 73 = .ok (.iload 5, 2) := by decide +kernel
theorem dX11_giftOf_75 : decode cX11_giftOf 75 = .ok (.iload_n 3, 1) := by decide +kernel
theorem dX11_giftOf_76 : decode cX11_giftOf 76 = .ok (.if_icmp .ge 8, 3) := by decide +kernel
theorem dX11_giftOf_79 : decode cX11_giftOf 79 = .ok (.iload 5, 2) := by decide +kernel
theorem dX11_giftOf_81 : decode cX11_giftOf 81 = .ok (.goto 4, 3) := by decide +kernel
theorem dX11_giftOf_84 : decode cX11_giftOf 84 = .ok (.iload_n 3, 1) := by decide +kernel
theorem dX11_giftOf_85 : decode cX11_giftOf 85 = .ok (.istore_n 3, 1) := by decide +kernel
theorem dX11_giftOf_86 : decode cX11_giftOf 86 = .ok (.iload_n 3, 1) := by decide +kernel
theorem dX11_giftOf_87 : decode cX11_giftOf 87 = .ok (.ireturn, 1) := by decide +kernel
theorem dX11_gives_0 : decode cX11_gives 0 = .ok (.aload_n 0, 1) := by decide +kernel
theorem dX11_gives_1 : decode cX11_gives 1 = .ok (.iload_n 1, 1) := by decide +kernel
theorem dX11_gives_2 : decode cX11_gives 2 = .ok (.invokevirtual 198, 3) := by decide +kernel
theorem dX11_gives_5 : decode cX11_gives 5 = .ok (.ifCond .ne 5, 3) := by decide +kernel
theorem dX11_gives_8 : decode cX11_gives 8 = .ok (.iconst (-1), 1) := by decide +kernel
theorem dX11_gives_9 : decode cX11_gives 9 = .ok (.ireturn, 1) := by decide +kernel
theorem dX11_gives_10 : decode cX11_gives 10 = .ok (.iload_n 2, 1) := by decide +kernel
theorem dX11_gives_11 : decode cX11_gives 11 = .ok (.invokestatic 156, 3) := by decide +kernel
theorem dX11_gives_14 : decode cX11_gives 14 = .ok (.ifCond .eq 12, 3) := by decide +kernel
theorem dX11_gives_17 : decode cX11_gives 17 = .ok (.aload_n 0, 1) := by decide +kernel
theorem dX11_gives_18 : decode cX11_gives 18 = .ok (.iload_n 1, 1) := by decide +kernel
theorem dX11_gives_19 : decode cX11_gives 19 = .ok (.iload_n 2, 1) := by decide +kernel
theorem dX11_gives_20 : decode cX11_gives 20 = .ok (.invokevirtual 254, 3) := by decide +kernel
theorem dX11_gives_23 : decode cX11_gives 23 = .ok (.goto 5, 3) := by decide +kernel
theorem dX11_gives_26 : decode cX11_gives 26 = .ok (.bipush (-2), 2) := by decide +kernel
theorem dX11_gives_28 : decode cX11_gives 28 = .ok (.ireturn, 1) := by decide +kernel
theorem dX11_route_0 : decode cX11_route 0 = .ok (.aload_n 0, 1) := by decide +kernel
theorem dX11_route_1 : decode cX11_route 1 = .ok (.iload_n 1, 1) := by decide +kernel
theorem dX11_route_2 : decode cX11_route 2 = .ok (.invokevirtual 198, 3) := by decide +kernel
theorem dX11_route_5 : decode cX11_route 5 = .ok (.ifCond .ne 5, 3) := by decide +kernel
theorem dX11_route_8 : decode cX11_route 8 = .ok (.iconst (-1), 1) := by decide +kernel
theorem dX11_route_9 : decode cX11_route 9 = .ok (.ireturn, 1) := by decide +kernel
theorem dX11_route_10 : decode cX11_route 10 = .ok (.iload_n 2, 1) := by decide +kernel
theorem dX11_route_11 : decode cX11_route 11 = .ok (.invokestatic 156, 3) := by decide +kernel
theorem dX11_route_14 : decode cX11_route 14 = .ok (.ifCond .ne 6, 3) := by decide +kernel
theorem dX11_route_17 : decode cX11_route 17 = .ok (.bipush (-2), 2) := by decide +kernel
theorem dX11_route_19 : decode cX11_route 19 = .ok (.ireturn, 1) := by decide +kernel
theorem dX11_route_20 : decode cX11_route 20 = .ok (.aload_n 0, 1) := by decide +kernel
theorem dX11_route_21 : decode cX11_route 21 = .ok (.iload_n 1, 1) := by decide +kernel
theorem dX11_route_22 : decode cX11_route 22 = .ok (.iload_n 2, 1) := by decide +kernel
theorem dX11_route_23 : decode cX11_route 23 = .ok (.invokevirtual 248, 3) := by decide +kernel
theorem dX11_route_26 : decode cX11_route 26 = .ok (.pop, 1) := by decide +kernel
theorem dX11_route_27 : decode cX11_route 27 = .ok (.iload_n 3, 1) := by decide +kernel
theorem dX11_route_28 : decode cX11_route 28 = .ok (.iconst (-1), 1) := by decide +kernel
theorem dX11_route_29 : decode cX11_route 29 = .ok (.if_icmp .ne 10, 3) := by decide +kernel
theorem dX11_route_32 : decode cX11_route 32 = .ok (.aload_n 0, 1) := by decide +kernel
theorem dX11_route_33 : decode cX11_route 33 = .ok (.getfield 251, 3) := by decide +kernel
theorem dX11_route_36 : decode cX11_route 36 = .ok (.goto 30, 3) := by decide +kernel
theorem dX11_route_39 : decode cX11_route 39 = .ok (.iload_n 3, 1) := by decide +kernel
theorem dX11_route_40 : decode cX11_route 40 = .ok (.i2l, 1) := by decide +kernel
theorem dX11_route_41 : decode cX11_route 41 = .ok (.lconst 0, 1) := by decide +kernel
theorem dX11_route_42 : decode cX11_route 42 = .ok (.aload_n 0, 1) := by decide +kernel
theorem dX11_route_43 : decode cX11_route 43 = .ok (.getfield 251, 3) := by decide +kernel
theorem dX11_route_46 : decode cX11_route 46 = .ok (.iconst 1, 1) := by decide +kernel
theorem dX11_route_47 : decode cX11_route 47 = .ok (.isub, 1) := by decide +kernel
theorem dX11_route_48 : decode cX11_route 48 = .ok (.i2l, 1) := by decide +kernel
theorem dX11_route_49 : decode cX11_route 49 = .ok (.invokestatic 86, 3) := by decide +kernel
theorem dX11_route_52 : decode cX11_route 52 = .ok (.ifCond .eq 12, 3) := by decide +kernel
theorem dX11_route_55 : decode cX11_route 55 = .ok (.aload_n 0, 1) := by decide +kernel
theorem dX11_route_56 : decode cX11_route 56 = .ok (.getfield 68, 3) := by decide +kernel
theorem dX11_route_59 : decode cX11_route 59 = .ok (.iload_n 3, 1) := by decide +kernel
theorem dX11_route_60 : decode cX11_route 60 = .ok (.iaload, 1) := by decide +kernel
theorem dX11_route_61 : decode cX11_route 61 = .ok (.goto 5, 3) := by decide +kernel
theorem dX11_route_64 : decode cX11_route 64 = .ok (.bipush (-6), 2) := by decide +kernel
theorem dX11_route_66 : decode cX11_route 66 = .ok (.ireturn, 1) := by decide +kernel
theorem dX11_sum_0 : decode cX11_sum 0 = .ok (.iload_n 1, 1) := by decide +kernel
theorem dX11_sum_1 : decode cX11_sum 1 = .ok (.invokestatic 156, 3) := by decide +kernel
theorem dX11_sum_4 : decode cX11_sum 4 = .ok (.ifCond .ne 6, 3) := by decide +kernel
theorem dX11_sum_7 : decode cX11_sum 7 = .ok (.bipush (-2), 2) := by decide +kernel
theorem dX11_sum_9 : decode cX11_sum 9 = .ok (.ireturn, 1) := by decide +kernel
theorem dX11_sum_10 : decode cX11_sum 10 = .ok (.iconst 0, 1) := by decide +kernel
theorem dX11_sum_11 : decode cX11_sum 11 = .ok (.istore_n 2, 1) := by decide +kernel
theorem dX11_sum_12 : decode cX11_sum 12 = .ok (.iconst 0, 1) := by decide +kernel
theorem dX11_sum_13 : decode cX11_sum 13 = .ok (.istore_n 3, 1) := by decide +kernel
theorem dX11_sum_14 : decode cX11_sum 14 = .ok (.iload_n 3, 1) := by decide +kernel
theorem dX11_sum_15 : decode cX11_sum 15 = .ok (.aload_n 0, 1) := by decide +kernel
theorem dX11_sum_16 : decode cX11_sum 16 = .ok (.getfield 190, 3) := by decide +kernel
theorem dX11_sum_19 : decode cX11_sum 19 = .ok (.if_icmp .ge 31, 3) := by decide +kernel
theorem dX11_sum_22 : decode cX11_sum 22 = .ok (.aload_n 0, 1) := by decide +kernel
theorem dX11_sum_23 : decode cX11_sum 23 = .ok (.iload_n 3, 1) := by decide +kernel
theorem dX11_sum_24 : decode cX11_sum 24 = .ok (.iload_n 1, 1) := by decide +kernel
theorem dX11_sum_25 : decode cX11_sum 25 = .ok (.invokevirtual 254, 3) := by decide +kernel
theorem dX11_sum_28 : decode cX11_sum 28 = .ok (.istore 4, 2) := by decide +kernel
theorem dX11_sum_30 : decode cX11_sum 30 = .ok (.iload_n 2, 1) := by decide +kernel
theorem dX11_sum_31 : decode cX11_sum 31 = .ok (.iload 4, 2) := by decide +kernel
theorem dX11_sum_33 : decode cX11_sum 33 = .ok (.ifCond .le 8, 3) := by decide +kernel
theorem dX11_sum_36 : decode cX11_sum 36 = .ok (.iload 4, 2) := by decide +kernel
theorem dX11_sum_38 : decode cX11_sum 38 = .ok (.goto 4, 3) := by decide +kernel
theorem dX11_sum_41 : decode cX11_sum 41 = .ok (.iconst 0, 1) := by decide +kernel
theorem dX11_sum_42 : decode cX11_sum 42 = .ok (.iadd, 1) := by decide +kernel
theorem dX11_sum_43 : decode cX11_sum 43 = .ok (.istore_n 2, 1) := by decide +kernel
theorem dX11_sum_44 : decode cX11_sum 44 = .ok (.iinc 3 1, 3) := by decide +kernel
theorem dX11_sum_47 : decode cX11_sum 47 = .ok (.goto (-33), 3) := by decide +kernel
theorem dX11_sum_50 : decode cX11_sum 50 = .ok (.iload_n 2, 1) := by decide +kernel
theorem dX11_sum_51 : decode cX11_sum 51 = .ok (.ireturn, 1) := by decide +kernel
theorem dX11_passage_0 : decode cX11_passage 0 = .ok (.aload_n 0, 1) := by decide +kernel
theorem dX11_passage_1 : decode cX11_passage 1 = .ok (.iload_n 1, 1) := by decide +kernel
theorem dX11_passage_2 : decode cX11_passage 2 = .ok (.invokevirtual 198, 3) := by decide +kernel
theorem dX11_passage_5 : decode cX11_passage 5 = .ok (.ifCond .ne 5, 3) := by decide +kernel
theorem dX11_passage_8 : decode cX11_passage 8 = .ok (.iconst (-1), 1) := by decide +kernel
theorem dX11_passage_9 : decode cX11_passage 9 = .ok (.ireturn, 1) := by decide +kernel
theorem dX11_passage_10 : decode cX11_passage 10 = .ok (.iload_n 3, 1) := by decide +kernel
theorem dX11_passage_11 : decode cX11_passage 11 = .ok (.i2l, 1) := by decide +kernel
theorem dX11_passage_12 : decode cX11_passage 12 = .ok (.lconst 0, 1) := by decide +kernel
theorem dX11_passage_13 : decode cX11_passage 13 = .ok (.lconst 1, 1) := by decide +kernel
theorem dX11_passage_14 : decode cX11_passage 14 = .ok (.invokestatic 86, 3) := by decide +kernel
theorem dX11_passage_17 : decode cX11_passage 17 = .ok (.ifCond .ne 6, 3) := by decide +kernel
theorem dX11_passage_20 : decode cX11_passage 20 = .ok (.bipush (-2), 2) := by decide +kernel
theorem dX11_passage_22 : decode cX11_passage 22 = .ok (.ireturn, 1) := by decide +kernel
theorem dX11_passage_23 : decode cX11_passage 23 = .ok (.iconst 0, 1) := by decide +kernel
theorem dX11_passage_24 : decode cX11_passage 24 = .ok (.istore 4, 2) := by decide +kernel
theorem dX11_passage_26 : decode cX11_passage 26 = .ok (.bipush (-6), 2) := by decide +kernel
theorem dX11_passage_28 : decode cX11_passage 28 = .ok (.istore 5, 2) := by decide +kernel
theorem dX11_passage_30 : decode cX11_passage 30 = .ok (.aload_n 0, 1) := by decide +kernel
theorem dX11_passage_31 : decode cX11_passage 31 = .ok (.getfield 53, 3) := by decide +kernel
theorem dX11_passage_34 : decode cX11_passage 34 = .ok (.iload_n 1, 1) := by decide +kernel
theorem dX11_passage_35 : decode cX11_passage 35 = .ok (.iaload, 1) := by decide +kernel
theorem dX11_passage_36 : decode cX11_passage 36 = .ok (.istore 6, 2) := by decide +kernel
theorem dX11_passage_38 : decode cX11_passage 38 = .ok (.iload 6, 2) := by decide +kernel
theorem dX11_passage_40 : decode cX11_passage 40 = .ok (.bipush 99, 2) := by decide +kernel
theorem dX11_passage_42 : decode cX11_passage 42 = .ok (.if_icmp .gt 61, 3) := by decide +kernel
theorem dX11_passage_45 : decode cX11_passage 45 = .ok (.aload_n 0, 1) := by decide +kernel
theorem dX11_passage_46 : decode cX11_passage 46 = .ok (.iload_n 1, 1) := by decide +kernel
theorem dX11_passage_47 : decode cX11_passage 47 = .ok (.iload 6, 2) := by decide +kernel
theorem dX11_passage_49 : decode cX11_passage 49 = .ok (.invokevirtual 240, 3) := by decide +kernel
theorem dX11_passage_52 : decode cX11_passage 52 = .ok (.istore 7, 2) := by decide +kernel
theorem dX11_passage_54 : decode cX11_passage 54 = .ok (.iload 7, 2) := by decide +kernel
theorem dX11_passage_56 : decode cX11_passage 56 = .ok (.iload 5, 2) := by decide +kernel
theorem dX11_passage_58 : decode cX11_passage 58 = .ok (.if_icmp .ne 14, 3) := by decide +kernel
theorem dX11_passage_61 : decode cX11_passage 61 = .ok (.iload 6, 2) := by decide +kernel
theorem dX11_passage_63 : decode cX11_passage 63 = .ok (.aload_n 0, 1) := by decide +kernel
theorem dX11_passage_64 : decode cX11_passage 64 = .ok (.getfield 53, 3) := by decide +kernel
theorem dX11_passage_67 : decode cX11_passage 67 = .ok (.iload_n 1, 1) := by decide +kernel
theorem dX11_passage_68 : decode cX11_passage 68 = .ok (.iaload, 1) := by decide +kernel
theorem dX11_passage_69 : decode cX11_passage 69 = .ok (.if_icmp .ne 24, 3) := by decide +kernel
theorem dX11_passage_72 : decode cX11_passage 72 = .ok (.iload 4, 2) := by decide +kernel
theorem dX11_passage_74 : decode cX11_passage 74 = .ok (.iload_n 2, 1) := by decide +kernel
theorem dX11_passage_75 : decode cX11_passage 75 = .ok (.if_icmp .ne 15, 3) := by decide +kernel
theorem dX11_passage_78 : decode cX11_passage 78 = .ok (.iload_n 3, 1) := by decide +kernel
theorem dX11_passage_79 : decode cX11_passage 79 = .ok (.ifCond .ne 8, 3) := by decide +kernel
theorem dX11_passage_82 : decode cX11_passage 82 = .ok (.iload 6, 2) := by decide +kernel
theorem dX11_passage_84 : decode cX11_passage 84 = .ok (.goto 5, 3) := by decide +kernel
theorem dX11_passage_87 : decode cX11_passage 87 = .ok (.iload 7, 2) := by decide +kernel
theorem dX11_passage_89 : decode cX11_passage 89 = .ok (.ireturn, 1) := by decide +kernel
theorem dX11_passage_90 : decode cX11_passage 90 = .ok (.iinc 4 1, 3) := by decide +kernel
theorem dX11_passage_93 : decode cX11_passage 93 = .ok (.iload 7, 2) := by decide +kernel
theorem dX11_passage_95 : decode cX11_passage 95 = .ok (.istore 5, 2) := by decide +kernel
theorem dX11_passage_97 : decode cX11_passage 97 = .ok (.iinc 6 1, 3) := by decide +kernel
theorem dX11_passage_100 : decode cX11_passage 100 = .ok (.goto (-62), 3) := by decide +kernel
theorem dX11_passage_103 : decode cX11_passage 103 = .ok (.iload_n 2, 1) := by decide +kernel
theorem dX11_passage_104 : decode cX11_passage 104 = .ok (.iconst (-1), 1) := by decide +kernel
theorem dX11_passage_105 : decode cX11_passage 105 = .ok (.if_icmp .ne 8, 3) := by decide +kernel
theorem dX11_passage_108 : decode cX11_passage 108 = .ok (.iload 4, 2) := by decide +kernel
theorem dX11_passage_110 : decode cX11_passage 110 = .ok (.goto 5, 3) := by decide +kernel
theorem dX11_passage_113 : decode cX11_passage 113 = .ok (.bipush (-6), 2) := by decide +kernel
theorem dX11_passage_115 : decode cX11_passage 115 = .ok (.ireturn, 1) := by decide +kernel
theorem dX11_carry_0 : decode cX11_carry 0 = .ok (.aload_n 0, 1) := by decide +kernel
theorem dX11_carry_1 : decode cX11_carry 1 = .ok (.iload_n 1, 1) := by decide +kernel
theorem dX11_carry_2 : decode cX11_carry 2 = .ok (.iload_n 2, 1) := by decide +kernel
theorem dX11_carry_3 : decode cX11_carry 3 = .ok (.invokevirtual 240, 3) := by decide +kernel
theorem dX11_carry_6 : decode cX11_carry 6 = .ok (.istore_n 3, 1) := by decide +kernel
theorem dX11_carry_7 : decode cX11_carry 7 = .ok (.iload_n 3, 1) := by decide +kernel
theorem dX11_carry_8 : decode cX11_carry 8 = .ok (.aload_n 0, 1) := by decide +kernel
theorem dX11_carry_9 : decode cX11_carry 9 = .ok (.getfield 257, 3) := by decide +kernel
theorem dX11_carry_12 : decode cX11_carry 12 = .ok (.if_icmp .ne 13, 3) := by decide +kernel
theorem dX11_carry_15 : decode cX11_carry 15 = .ok (.iload_n 2, 1) := by decide +kernel
theorem dX11_carry_16 : decode cX11_carry 16 = .ok (.aload_n 0, 1) := by decide +kernel
theorem dX11_carry_17 : decode cX11_carry 17 = .ok (.getfield 53, 3) := by decide +kernel
theorem dX11_carry_20 : decode cX11_carry 20 = .ok (.iload_n 1, 1) := by decide +kernel
theorem dX11_carry_21 : decode cX11_carry 21 = .ok (.iaload, 1) := by decide +kernel
theorem dX11_carry_22 : decode cX11_carry 22 = .ok (.if_icmp .ne 7, 3) := by decide +kernel
theorem dX11_carry_25 : decode cX11_carry 25 = .ok (.iconst 1, 1) := by decide +kernel
theorem dX11_carry_26 : decode cX11_carry 26 = .ok (.goto 4, 3) := by decide +kernel
theorem dX11_carry_29 : decode cX11_carry 29 = .ok (.iconst 0, 1) := by decide +kernel
theorem dX11_carry_30 : decode cX11_carry 30 = .ok (.istore 4, 2) := by decide +kernel
theorem dX11_carry_32 : decode cX11_carry 32 = .ok (.aload_n 0, 1) := by decide +kernel
theorem dX11_carry_33 : decode cX11_carry 33 = .ok (.iload_n 3, 1) := by decide +kernel
theorem dX11_carry_34 : decode cX11_carry 34 = .ok (.putfield 257, 3) := by decide +kernel
theorem dX11_carry_37 : decode cX11_carry 37 = .ok (.iload 4, 2) := by decide +kernel
theorem dX11_carry_39 : decode cX11_carry 39 = .ok (.ifCond .ne 4, 3) := by decide +kernel
theorem dX11_carry_42 : decode cX11_carry 42 = .ok (.return_, 1) := by decide +kernel
theorem dX11_carry_43 : decode cX11_carry 43 = .ok (.iload_n 3, 1) := by decide +kernel
theorem dX11_carry_44 : decode cX11_carry 44 = .ok (.ifCond .ge 8, 3) := by decide +kernel
theorem dX11_carry_47 : decode cX11_carry 47 = .ok (.bipush (-6), 2) := by decide +kernel
theorem dX11_carry_49 : decode cX11_carry 49 = .ok (.goto 9, 3) := by decide +kernel
theorem dX11_carry_52 : decode cX11_carry 52 = .ok (.aload_n 0, 1) := by decide +kernel
theorem dX11_carry_53 : decode cX11_carry 53 = .ok (.getfield 37, 3) := by decide +kernel
theorem dX11_carry_56 : decode cX11_carry 56 = .ok (.iload_n 3, 1) := by decide +kernel
theorem dX11_carry_57 : decode cX11_carry 57 = .ok (.iaload, 1) := by decide +kernel
theorem dX11_carry_58 : decode cX11_carry 58 = .ok (.istore 5, 2) := by decide +kernel
theorem dX11_carry_60 : decode cX11_carry 60 = .ok (.iload 5, 2) := by decide +kernel
theorem dX11_carry_62 : decode cX11_carry 62 = .ok (.ifCond .ge 12, 3) := by decide +kernel
theorem dX11_carry_65 : decode cX11_carry 65 = .ok (.aload_n 0, 1) := by decide +kernel
theorem dX11_carry_66 : decode cX11_carry 66 = .ok (.bipush (-6), 2) := by decide +kernel
theorem dX11_carry_68 : decode cX11_carry 68 = .ok (.putfield 260, 3) := by decide +kernel
theorem dX11_carry_71 : decode cX11_carry 71 = .ok (.goto 93, 3) := by decide +kernel
theorem dX11_carry_74 : decode cX11_carry 74 = .ok (.aload_n 0, 1) := by decide +kernel
theorem dX11_carry_75 : decode cX11_carry 75 = .ok (.getfield 260, 3) := by decide +kernel
theorem dX11_carry_78 : decode cX11_carry 78 = .ok (.ifCond .ge 17, 3) := by decide +kernel
theorem dX11_carry_81 : decode cX11_carry 81 = .ok (.aload_n 0, 1) := by decide +kernel
theorem dX11_carry_82 : decode cX11_carry 82 = .ok (.aload_n 0, 1) := by decide +kernel
theorem dX11_carry_83 : decode cX11_carry 83 = .ok (.getfield 263, 3) := by decide +kernel
theorem dX11_carry_86 : decode cX11_carry 86 = .ok (.iload 5, 2) := by decide +kernel
theorem dX11_carry_88 : decode cX11_carry 88 = .ok (.iadd, 1) := by decide +kernel
theorem dX11_carry_89 : decode cX11_carry 89 = .ok (.putfield 260, 3) := by decide +kernel
theorem dX11_carry_92 : decode cX11_carry 92 = .ok (.goto 72, 3) := by decide +kernel
theorem dX11_carry_95 : decode cX11_carry 95 = .ok (.aload_n 0, 1) := by decide +kernel
theorem dX11_carry_96 : decode cX11_carry 96 = .ok (.iload_n 3, 1) := by decide +kernel
theorem dX11_carry_97 : decode cX11_carry 97 = .ok (.invokevirtual 266, 3) := by decide +kernel
theorem dX11_carry_100 : decode cX11_carry 100 = .ok (.istore 6, 2) := by decide +kernel
theorem dX11_carry_102 : decode cX11_carry 102 = .ok (.aload_n 0, 1) := by decide +kernel
theorem dX11_carry_103 : decode cX11_carry 103 = .ok (.iload 6, 2) := by decide +kernel
theorem dX11_carry_105 : decode cX11_carry 105 = .ok (.bipush 98, 2) := by decide +kernel
theorem dX11_carry_107 : decode cX11_carry 107 = .ok (.if_icmp .ne 7, 3) := by decide +kernel
theorem dX11_carry_110 : decode cX11_carry 110 = .ok (.iload_n 2, 1) := by decide +kernel
theorem dX11_carry_111 : decode cX11_carry 111 = .ok (.goto 7, 3) := by decide +kernel
theorem dX11_carry_114 : decode cX11_carry 114 = .ok (.aload_n 0, 1) := by decide +kernel
theorem dX11_carry_115 : decode cX11_carry 115 = .ok (.getfield 263, 3) := by decide +kernel
theorem dX11_carry_118 : decode cX11_carry 118 = .ok (.putfield 263, 3) := by decide +kernel
theorem dX11_carry_121 : decode cX11_carry 121 = .ok (.aload_n 0, 1) := by decide +kernel
theorem dX11_carry_122 : decode cX11_carry 122 = .ok (.iload 6, 2) := by decide +kernel
theorem dX11_carry_124 : decode cX11_carry 124 = .ok (.bipush 108, 2) := by decide +kernel
theorem dX11_carry_126 : decode cX11_carry 126 = .ok (.if_icmp .ne 28, 3) := by decide +kernel
theorem dX11_carry_129 : decode cX11_carry 129 = .ok (.aload_n 0, 1) := by decide +kernel
theorem dX11_carry_130 : decode cX11_carry 130 = .ok (.getfield 260, 3) := by decide +kernel
theorem dX11_carry_133 : decode cX11_carry 133 = .ok (.iload_n 2, 1) := by decide +kernel
theorem dX11_carry_134 : decode cX11_carry 134 = .ok (.iload 5, 2) := by decide +kernel
theorem dX11_carry_136 : decode cX11_carry 136 = .ok (.iadd, 1) := by decide +kernel
theorem dX11_carry_137 : decode cX11_carry 137 = .ok (.if_icmp .ge 10, 3) := by decide +kernel
theorem dX11_carry_140 : decode cX11_carry 140 = .ok (.aload_n 0, 1) := by decide +kernel
theorem dX11_carry_141 : decode cX11_carry 141 = .ok (.getfield 260, 3) := by decide +kernel
theorem dX11_carry_144 : decode cX11_carry 144 = .ok (.goto 17, 3) := by decide +kernel
theorem dX11_carry_147 : decode cX11_carry 147 = .ok (.iload_n 2, 1) := by decide +kernel
theorem dX11_carry_148 : decode cX11_carry 148 = .ok (.iload 5, 2) := by decide +kernel
theorem dX11_carry_150 : decode cX11_carry 150 = .ok (.iadd, 1) := by decide +kernel
theorem dX11_carry_151 : decode cX11_carry 151 = .ok (.goto 10, 3) := by decide +kernel
theorem dX11_carry_154 : decode cX11_carry 154 = .ok (.aload_n 0, 1) := by decide +kernel
theorem dX11_carry_155 : decode cX11_carry 155 = .ok (.getfield 263, 3) := by decide +kernel
theorem dX11_carry_158 : decode cX11_carry 158 = .ok (.iload 5, 2) := by decide +kernel
theorem dX11_carry_160 : decode cX11_carry 160 = .ok (.iadd, 1) := by decide +kernel
theorem dX11_carry_161 : decode cX11_carry 161 = .ok (.putfield 260, 3) := by decide +kernel
theorem dX11_carry_164 : decode cX11_carry 164 = .ok (.return_, 1) := by decide +kernel
theorem dX11_beginTerm_0 : decode cX11_beginTerm 0 = .ok (.aload_n 0, 1) := by decide +kernel
theorem dX11_beginTerm_1 : decode cX11_beginTerm 1 = .ok (.aload_n 0, 1) := by decide +kernel
theorem dX11_beginTerm_2 : decode cX11_beginTerm 2 = .ok (.getfield 53, 3) := by decide +kernel
theorem dX11_beginTerm_5 : decode cX11_beginTerm 5 = .ok (.iload_n 1, 1) := by decide +kernel
theorem dX11_beginTerm_6 : decode cX11_beginTerm 6 = .ok (.iaload, 1) := by decide +kernel
theorem dX11_beginTerm_7 : decode cX11_beginTerm 7 = .ok (.putfield 263, 3) := by decide +kernel
theorem dX11_beginTerm_10 : decode cX11_beginTerm 10 = .ok (.aload_n 0, 1) := by decide +kernel
theorem dX11_beginTerm_11 : decode cX11_beginTerm 11 = .ok (.bipush (-6), 2) := by decide +kernel
theorem dX11_beginTerm_13 : decode cX11_beginTerm 13 = .ok (.putfield 260, 3) := by decide +kernel
theorem dX11_beginTerm_16 : decode cX11_beginTerm 16 = .ok (.aload_n 0, 1) := by decide +kernel
theorem dX11_beginTerm_17 : decode cX11_beginTerm 17 = .ok (.bipush (-6), 2) := by decide +kernel
theorem dX11_beginTerm_19 : decode cX11_beginTerm 19 = .ok (.putfield 257, 3) := by decide +kernel
theorem dX11_beginTerm_22 : decode cX11_beginTerm 22 = .ok (.return_, 1) := by decide +kernel
theorem dX11_term_0 : decode cX11_term 0 = .ok (.aload_n 0, 1) := by decide +kernel
theorem dX11_term_1 : decode cX11_term 1 = .ok (.iload_n 1, 1) := by decide +kernel
theorem dX11_term_2 : decode cX11_term 2 = .ok (.invokevirtual 198, 3) := by decide +kernel
theorem dX11_term_5 : decode cX11_term 5 = .ok (.ifCond .ne 5, 3) := by decide +kernel
theorem dX11_term_8 : decode cX11_term 8 = .ok (.iconst (-1), 1) := by decide +kernel
theorem dX11_term_9 : decode cX11_term 9 = .ok (.ireturn, 1) := by decide +kernel
theorem dX11_term_10 : decode cX11_term 10 = .ok (.iload_n 2, 1) := by decide +kernel
theorem dX11_term_11 : decode cX11_term 11 = .ok (.invokestatic 156, 3) := by decide +kernel
theorem dX11_term_14 : decode cX11_term 14 = .ok (.ifCond .eq 13, 3) := by decide +kernel
theorem dX11_term_17 : decode cX11_term 17 = .ok (.iload_n 3, 1) := by decide +kernel
theorem dX11_term_18 : decode cX11_term 18 = .ok (.i2l, 1) := by decide +kernel
theorem dX11_term_19 : decode cX11_term 19 = .ok (.lconst 0, 1) := by decide +kernel
theorem dX11_term_20 : decode cX11_term 20 = .ok (.lconst 1, 1) := by decide +kernel
theorem dX11_term_21 : decode cX11_term 21 = .ok (.invokestatic 86, 3) := by decide +kernel
theorem dX11_term_24 : decode cX11_term 24 = .ok (.ifCond .ne 6, 3) := by decide +kernel
theorem dX11_term_27 : decode cX11_term 27 = .ok (.bipush (-2), 2) := by decide +kernel
theorem dX11_term_29 : decode cX11_term 29 = .ok (.ireturn, 1) := by decide +kernel
theorem dX11_term_30 : decode cX11_term 30 = .ok (.iload_n 2, 1) := by decide +kernel
theorem dX11_term_31 : decode cX11_term 31 = .ok (.aload_n 0, 1) := by decide +kernel
theorem dX11_term_32 : decode cX11_term 32 = .ok (.getfield 53, 3) := by decide +kernel
theorem dX11_term_35 : decode cX11_term 35 = .ok (.iload_n 1, 1) := by decide +kernel
theorem dX11_term_36 : decode cX11_term 36 = .ok (.iaload, 1) := by decide +kernel
theorem dX11_term_37 : decode cX11_term 37 = .ok (.if_icmp .ge 6, 3) := by decide +kernel
theorem dX11_term_40 : decode cX11_term 40 = .ok (.bipush (-3), 2) := by decide +kernel
theorem dX11_term_42 : decode cX11_term 42 = .ok (.ireturn, 1) := by decide +kernel
theorem dX11_term_43 : decode cX11_term 43 = .ok (.aload_n 0, 1) := by decide +kernel
theorem dX11_term_44 : decode cX11_term 44 = .ok (.iload_n 1, 1) := by decide +kernel
theorem dX11_term_45 : decode cX11_term 45 = .ok (.invokevirtual 269, 3) := by decide +kernel
theorem dX11_term_48 : decode cX11_term 48 = .ok (.aload_n 0, 1) := by decide +kernel
theorem dX11_term_49 : decode cX11_term 49 = .ok (.getfield 53, 3) := by decide +kernel
theorem dX11_term_52 : decode cX11_term 52 = .ok (.iload_n 1, 1) := by decide +kernel
theorem dX11_term_53 : decode cX11_term 53 = .ok (.iaload, 1) := by decide +kernel
theorem dX11_term_54 : decode cX11_term 54 = .ok (.istore 4, 2) := by decide +kernel
theorem dX11_term_56 : decode cX11_term 56 = .ok (.iload 4, 2) := by decide +kernel
theorem dX11_term_58 : decode cX11_term 58 = .ok (.iload_n 2, 1) := by decide +kernel
theorem dX11_term_59 : decode cX11_term 59 = .ok (.if_icmp .gt 16, 3) := by decide +kernel
theorem dX11_term_62 : decode cX11_term 62 = .ok (.aload_n 0, 1) := by decide +kernel
theorem dX11_term_63 : decode cX11_term 63 = .ok (.iload_n 1, 1) := by decide +kernel
theorem dX11_term_64 : decode cX11_term 64 = .ok (.iload 4, 2) := by decide +kernel
theorem dX11_term_66 : decode cX11_term 66 = .ok (.invokevirtual 272, 3) := by decide +kernel
theorem dX11_term_69 : decode cX11_term 69 = .ok (.iinc 4 1, 3) := by decide +kernel
theorem dX11_term_72 : decode cX11_term 72 = .ok (.goto (-16), 3) := by decide +kernel
theorem dX11_term_75 : decode cX11_term 75 = .ok (.iload_n 3, 1) := by decide +kernel
theorem dX11_term_76 : decode cX11_term 76 = .ok (.ifCond .ne 10, 3) := by decide +kernel
theorem dX11_term_79 : decode cX11_term 79 = .ok (.aload_n 0, 1) := by decide +kernel
theorem dX11_term_80 : decode cX11_term 80 = .ok (.getfield 263, 3) := by decide +kernel
theorem dX11_term_83 : decode cX11_term 83 = .ok (.goto 7, 3) := by decide +kernel
theorem dX11_term_86 : decode cX11_term 86 = .ok (.aload_n 0, 1) := by decide +kernel
theorem dX11_term_87 : decode cX11_term 87 = .ok (.getfield 260, 3) := by decide +kernel
theorem dX11_term_90 : decode cX11_term 90 = .ok (.ireturn, 1) := by decide +kernel
theorem dX11_whole_0 : decode cX11_whole 0 = .ok (.aload_n 0, 1) := by decide +kernel
theorem dX11_whole_1 : decode cX11_whole 1 = .ok (.iload_n 1, 1) := by decide +kernel
theorem dX11_whole_2 : decode cX11_whole 2 = .ok (.invokevirtual 198, 3) := by decide +kernel
theorem dX11_whole_5 : decode cX11_whole 5 = .ok (.ifCond .ne 5, 3) := by decide +kernel
theorem dX11_whole_8 : decode cX11_whole 8 = .ok (.iconst (-1), 1) := by decide +kernel
theorem dX11_whole_9 : decode cX11_whole 9 = .ok (.ireturn, 1) := by decide +kernel
theorem dX11_whole_10 : decode cX11_whole 10 = .ok (.iload_n 2, 1) := by decide +kernel
theorem dX11_whole_11 : decode cX11_whole 11 = .ok (.i2l, 1) := by decide +kernel
theorem dX11_whole_12 : decode cX11_whole 12 = .ok (.lconst 0, 1) := by decide +kernel
theorem dX11_whole_13 : decode cX11_whole 13 = .ok (.ldc2_w 246, 3) := by decide +kernel
theorem dX11_whole_16 : decode cX11_whole 16 = .ok (.invokestatic 86, 3) := by decide +kernel
theorem dX11_whole_19 : decode cX11_whole 19 = .ok (.ifCond .ne 6, 3) := by decide +kernel
theorem dX11_whole_22 : decode cX11_whole 22 = .ok (.bipush (-2), 2) := by decide +kernel
theorem dX11_whole_24 : decode cX11_whole 24 = .ok (.ireturn, 1) := by decide +kernel
theorem dX11_whole_25 : decode cX11_whole 25 = .ok (.aload_n 0, 1) := by decide +kernel
theorem dX11_whole_26 : decode cX11_whole 26 = .ok (.iload_n 2, 1) := by decide +kernel
theorem dX11_whole_27 : decode cX11_whole 27 = .ok (.ifCond .ne 8, 3) := by decide +kernel
theorem dX11_whole_30 : decode cX11_whole 30 = .ok (.bipush (-6), 2) := by decide +kernel
theorem dX11_whole_32 : decode cX11_whole 32 = .ok (.goto 25, 3) := by decide +kernel
theorem dX11_whole_35 : decode cX11_whole 35 = .ok (.iload_n 2, 1) := by decide +kernel
theorem dX11_whole_36 : decode cX11_whole 36 = .ok (.iconst 1, 1) := by decide +kernel
theorem dX11_whole_37 : decode cX11_whole 37 = .ok (.if_icmp .ne 8, 3) := by decide +kernel
theorem dX11_whole_40 : decode cX11_whole 40 = .ok (.bipush 99, 2) := by decide +kernel
theorem dX11_whole_42 : decode cX11_whole 42 = .ok (.goto 15, 3) := by decide +kernel
theorem dX11_whole_45 : decode cX11_whole 45 = .ok (.iload_n 2, 1) := by decide +kernel
theorem dX11_whole_46 : decode cX11_whole 46 = .ok (.iconst 2, 1) := by decide +kernel
theorem dX11_whole_47 : decode cX11_whole 47 = .ok (.if_icmp .ne 8, 3) := by decide +kernel
theorem dX11_whole_50 : decode cX11_whole 50 = .ok (.bipush 98, 2) := by decide +kernel
theorem dX11_whole_52 : decode cX11_whole 52 = .ok (.goto 5, 3) := by decide +kernel
theorem dX11_whole_55 : decode cX11_whole 55 = .ok (.bipush 108, 2) := by decide +kernel
theorem dX11_whole_57 : decode cX11_whole 57 = .ok (.putfield 49, 3) := by decide +kernel
theorem dX11_whole_60 : decode cX11_whole 60 = .ok (.aload_n 0, 1) := by decide +kernel
theorem dX11_whole_61 : decode cX11_whole 61 = .ok (.iload_n 1, 1) := by decide +kernel
theorem dX11_whole_62 : decode cX11_whole 62 = .ok (.invokevirtual 269, 3) := by decide +kernel
theorem dX11_whole_65 : decode cX11_whole 65 = .ok (.bipush (-6), 2) := by decide +kernel
theorem dX11_whole_67 : decode cX11_whole 67 = .ok (.istore_n 3, 1) := by decide +kernel
theorem dX11_whole_68 : decode cX11_whole 68 = .ok (.aload_n 0, 1) := by decide +kernel
theorem dX11_whole_69 : decode cX11_whole 69 = .ok (.getfield 53, 3) := by decide +kernel
theorem dX11_whole_72 : decode cX11_whole 72 = .ok (.iload_n 1, 1) := by decide +kernel
theorem dX11_whole_73 : decode cX11_whole 73 = .ok (.iaload, 1) := by decide +kernel
theorem dX11_whole_74 : decode cX11_whole 74 = .ok (.istore 4, 2) := by decide +kernel
theorem dX11_whole_76 : decode cX11_whole 76 = .ok (.iload 4, 2) := by decide +kernel
theorem dX11_whole_78 : decode cX11_whole 78 = .ok (.bipush 99, 2) := by decide +kernel
theorem dX11_whole_80 : decode cX11_whole 80 = .ok (.if_icmp .gt 44, 3) := by decide +kernel
theorem dX11_whole_83 : decode cX11_whole 83 = .ok (.iload_n 3, 1) := by decide +kernel
theorem dX11_whole_84 : decode cX11_whole 84 = .ok (.ifCond .ge 40, 3) := by decide +kernel
theorem dX11_whole_87 : decode cX11_whole 87 = .ok (.aload_n 0, 1) := by decide +kernel
theorem dX11_whole_88 : decode cX11_whole 88 = .ok (.iload_n 1, 1) := by decide +kernel
theorem dX11_whole_89 : decode cX11_whole 89 = .ok (.iload 4, 2) := by decide +kernel
theorem dX11_whole_91 : decode cX11_whole 91 = .ok (.invokevirtual 272, 3) := by decide +kernel
theorem dX11_whole_94 : decode cX11_whole 94 = .ok (.aload_n 0, 1) := by decide +kernel
theorem dX11_whole_95 : decode cX11_whole 95 = .ok (.getfield 260, 3) := by decide +kernel
theorem dX11_whole_98 : decode cX11_whole 98 = .ok (.ifCond .lt 17, 3) := by decide +kernel
theorem dX11_whole_101 : decode cX11_whole 101 = .ok (.aload_n 0, 1) := by decide +kernel
theorem dX11_whole_102 : decode cX11_whole 102 = .ok (.getfield 260, 3) := by decide +kernel
theorem dX11_whole_105 : decode cX11_whole 105 = .ok (.iload 4, 2) := by decide +kernel
theorem dX11_whole_107 : decode cX11_whole 107 = .ok (.if_icmp .gt 8, 3) := by decide +kernel
theorem dX11_whole_110 : decode cX11_whole 110 = .ok (.iload 4, 2) := by decide +kernel
theorem dX11_whole_112 : decode cX11_whole 112 = .ok (.goto 5, 3) := by decide +kernel
theorem dX11_whole_115 : decode cX11_whole 115 = .ok (.bipush (-6), 2) := by decide +kernel
theorem dX11_whole_117 : decode cX11_whole 117 = .ok (.istore_n 3, 1) := by decide +kernel
theorem dX11_whole_118 : decode cX11_whole 118 = .ok (.iinc 4 1, 3) := by decide +kernel
theorem dX11_whole_121 : decode cX11_whole 121 = .ok (.goto (-45), 3) := by decide +kernel
theorem dX11_whole_124 : decode cX11_whole 124 = .ok (.aload_n 0, 1) := by decide +kernel
theorem dX11_whole_125 : decode cX11_whole 125 = .ok (.bipush (-6), 2) := by decide +kernel
theorem dX11_whole_127 : decode cX11_whole 127 = .ok (.putfield 49, 3) := by decide +kernel
theorem dX11_whole_130 : decode cX11_whole 130 = .ok (.iload_n 3, 1) := by decide +kernel
theorem dX11_whole_131 : decode cX11_whole 131 = .ok (.ireturn, 1) := by decide +kernel
theorem dX11_taken_0 : decode cX11_taken 0 = .ok (.aload_n 0, 1) := by decide +kernel
theorem dX11_taken_1 : decode cX11_taken 1 = .ok (.iload_n 1, 1) := by decide +kernel
theorem dX11_taken_2 : decode cX11_taken 2 = .ok (.invokevirtual 169, 3) := by decide +kernel
theorem dX11_taken_5 : decode cX11_taken 5 = .ok (.ifCond .ne 5, 3) := by decide +kernel
theorem dX11_taken_8 : decode cX11_taken 8 = .ok (.iconst (-1), 1) := by decide +kernel
theorem dX11_taken_9 : decode cX11_taken 9 = .ok (.ireturn, 1) := by decide +kernel
theorem dX11_taken_10 : decode cX11_taken 10 = .ok (.iconst 0, 1) := by decide +kernel
theorem dX11_taken_11 : decode cX11_taken 11 = .ok (.istore_n 2, 1) := by decide +kernel
theorem dX11_taken_12 : decode cX11_taken 12 = .ok (.iconst 0, 1) := by decide +kernel
theorem dX11_taken_13 : decode cX11_taken 13 = .ok (.istore_n 3, 1) := by decide +kernel
theorem dX11_taken_14 : decode cX11_taken 14 = .ok (.iload_n 3, 1) := by decide +kernel
theorem dX11_taken_15 : decode cX11_taken 15 = .ok (.aload_n 0, 1) := by decide +kernel
theorem dX11_taken_16 : decode cX11_taken 16 = .ok (.getfield 190, 3) := by decide +kernel
theorem dX11_taken_19 : decode cX11_taken 19 = .ok (.if_icmp .ge 70, 3) := by decide +kernel
theorem dX11_taken_22 : decode cX11_taken 22 = .ok (.aload_n 0, 1) := by decide +kernel
theorem dX11_taken_23 : decode cX11_taken 23 = .ok (.getfield 56, 3) := by decide +kernel
theorem dX11_taken_26 : decode cX11_taken 26 = .ok (.iload_n 3, 1) := by decide +kernel
theorem dX11_taken_27 : decode cX11_taken 27 = .ok (.iaload, 1) := by decide +kernel
theorem dX11_taken_28 : decode cX11_taken 28 = .ok (.ifCond .lt 22, 3) := by decide +kernel
theorem dX11_taken_31 : decode cX11_taken 31 = .ok (.aload_n 0, 1) := by decide +kernel
theorem dX11_taken_32 : decode cX11_taken 32 = .ok (.getfield 56, 3) := by decide +kernel
theorem dX11_taken_35 : decode cX11_taken 35 = .ok (.iload_n 3, 1) := by decide +kernel
theorem dX11_taken_36 : decode cX11_taken 36 = .ok (.iaload, 1) := by decide +kernel
theorem dX11_taken_37 : decode cX11_taken 37 = .ok (.aload_n 0, 1) := by decide +kernel
theorem dX11_taken_38 : decode cX11_taken 38 = .ok (.getfield 13, 3) := by decide +kernel
theorem dX11_taken_41 : decode cX11_taken 41 = .ok (.iload_n 1, 1) := by decide +kernel
theorem dX11_taken_42 : decode cX11_taken 42 = .ok (.iaload, 1) := by decide +kernel
theorem dX11_taken_43 : decode cX11_taken 43 = .ok (.if_icmp .ge 7, 3) := by decide +kernel
theorem dX11_taken_46 : decode cX11_taken 46 = .ok (.iconst 1, 1) := by decide +kernel
theorem dX11_taken_47 : decode cX11_taken 47 = .ok (.goto 4, 3) := by decide +kernel
theorem dX11_taken_50 : decode cX11_taken 50 = .ok (.iconst 0, 1) := by decide +kernel
theorem dX11_taken_51 : decode cX11_taken 51 = .ok (.istore 4, 2) := by decide +kernel
theorem dX11_taken_53 : decode cX11_taken 53 = .ok (.iload_n 2, 1) := by decide +kernel
theorem dX11_taken_54 : decode cX11_taken 54 = .ok (.iload 4, 2) := by decide +kernel
theorem dX11_taken_56 : decode cX11_taken 56 = .ok (.ifCond .eq 24, 3) := by decide +kernel
theorem dX11_taken_59 : decode cX11_taken 59 = .ok (.aload_n 0, 1) := by decide +kernel
theorem dX11_taken_60 : decode cX11_taken 60 = .ok (.iload_n 3, 1) := by decide +kernel
theorem dX11_taken_61 : decode cX11_taken 61 = .ok (.aload_n 0, 1) := by decide +kernel
theorem dX11_taken_62 : decode cX11_taken 62 = .ok (.getfield 13, 3) := by decide +kernel
theorem dX11_taken_65 : decode cX11_taken 65 = .ok (.iload_n 1, 1) := by decide +kernel
theorem dX11_taken_66 : decode cX11_taken 66 = .ok (.iaload, 1) := by decide +kernel
theorem dX11_taken_67 : decode cX11_taken 67 = .ok (.invokevirtual 243, 3) := by decide +kernel
theorem dX11_taken_70 : decode cX11_taken 70 = .ok (.iload_n 1, 1) := by decide +kernel
theorem dX11_taken_71 : decode cX11_taken 71 = .ok (.if_icmp .ne 9, 3) := by decide +kernel
theorem dX11_taken_74 : decode cX11_taken 74 = .ok (.iconst 1, 1) := by decide +kernel
theorem dX11_taken_75 : decode cX11_taken 75 = .ok (.iload_n 3, 1) := by decide +kernel
theorem dX11_taken_76 : decode cX11_taken 76 = .ok (.ishl, 1) := by decide +kernel
theorem dX11_taken_77 : decode cX11_taken 77 = .ok (.goto 4, 3) := by decide +kernel
theorem dX11_taken_80 : decode cX11_taken 80 = .ok (.iconst 0, 1) := by decide +kernel
theorem dX11_taken_81 : decode cX11_taken 81 = .ok (.ior, 1) := by decide +kernel
theorem dX11_taken_82 : decode cX11_taken 82 = .ok (.istore_n 2, 1) := by decide +kernel
theorem dX11_taken_83 : decode cX11_taken 83 = .ok (.iinc 3 1, 3) := by decide +kernel
theorem dX11_taken_86 : decode cX11_taken 86 = .ok (.goto (-72), 3) := by decide +kernel
theorem dX11_taken_89 : decode cX11_taken 89 = .ok (.iload_n 2, 1) := by decide +kernel
theorem dX11_taken_90 : decode cX11_taken 90 = .ok (.ireturn, 1) := by decide +kernel
theorem dX11_brief_0 : decode cX11_brief 0 = .ok (.iload_n 1, 1) := by decide +kernel
theorem dX11_brief_1 : decode cX11_brief 1 = .ok (.i2l, 1) := by decide +kernel
theorem dX11_brief_2 : decode cX11_brief 2 = .ok (.lconst 0, 1) := by decide +kernel
theorem dX11_brief_3 : decode cX11_brief 3 = .ok (.lconst 1, 1) := by decide +kernel
theorem dX11_brief_4 : decode cX11_brief 4 = .ok (.invokestatic 86, 3) := by decide +kernel
theorem dX11_brief_7 : decode cX11_brief 7 = .ok (.ifCond .ne 6, 3) := by decide +kernel
theorem dX11_brief_10 : decode cX11_brief 10 = .ok (.bipush (-2), 2) := by decide +kernel
theorem dX11_brief_12 : decode cX11_brief 12 = .ok (.ireturn, 1) := by decide +kernel
theorem dX11_brief_13 : decode cX11_brief 13 = .ok (.aload_n 0, 1) := by decide +kernel
theorem dX11_brief_14 : decode cX11_brief 14 = .ok (.getfield 149, 3) := by decide +kernel
theorem dX11_brief_17 : decode cX11_brief 17 = .ok (.ifCond .ne 6, 3) := by decide +kernel
theorem dX11_brief_20 : decode cX11_brief 20 = .ok (.bipush (-3), 2) := by decide +kernel
theorem dX11_brief_22 : decode cX11_brief 22 = .ok (.ireturn, 1) := by decide +kernel
theorem dX11_brief_23 : decode cX11_brief 23 = .ok (.iconst 0, 1) := by decide +kernel
theorem dX11_brief_24 : decode cX11_brief 24 = .ok (.istore_n 2, 1) := by decide +kernel
theorem dX11_brief_25 : decode cX11_brief 25 = .ok (.iconst 1, 1) := by decide +kernel
theorem dX11_brief_26 : decode cX11_brief 26 = .ok (.istore_n 3, 1) := by decide +kernel
theorem dX11_brief_27 : decode cX11_brief 27 = .ok (.iload_n 3, 1) := by decide +kernel
theorem dX11_brief_28 : decode cX11_brief 28 = .ok (.aload_n 0, 1) := by decide +kernel
theorem dX11_brief_29 : decode cX11_brief 29 = .ok (.getfield 149, 3) := by decide +kernel
theorem dX11_brief_32 : decode cX11_brief 32 = .ok (.if_icmp .ge 44, 3) := by decide +kernel
theorem dX11_brief_35 : decode cX11_brief 35 = .ok (.aload_n 0, 1) := by decide +kernel
theorem dX11_brief_36 : decode cX11_brief 36 = .ok (.getfield 16, 3) := by decide +kernel
theorem dX11_brief_39 : decode cX11_brief 39 = .ok (.iload_n 3, 1) := by decide +kernel
theorem dX11_brief_40 : decode cX11_brief 40 = .ok (.iaload, 1) := by decide +kernel
theorem dX11_brief_41 : decode cX11_brief 41 = .ok (.aload_n 0, 1) := by decide +kernel
theorem dX11_brief_42 : decode cX11_brief 42 = .ok (.getfield 13, 3) := by decide +kernel
theorem dX11_brief_45 : decode cX11_brief 45 = .ok (.iload_n 3, 1) := by decide +kernel
theorem dX11_brief_46 : decode cX11_brief 46 = .ok (.iaload, 1) := by decide +kernel
theorem dX11_brief_47 : decode cX11_brief 47 = .ok (.isub, 1) := by decide +kernel
theorem dX11_brief_48 : decode cX11_brief 48 = .ok (.aload_n 0, 1) := by decide +kernel
theorem dX11_brief_49 : decode cX11_brief 49 = .ok (.getfield 16, 3) := by decide +kernel
theorem dX11_brief_52 : decode cX11_brief 52 = .ok (.iload_n 2, 1) := by decide +kernel
theorem dX11_brief_53 : decode cX11_brief 53 = .ok (.iaload, 1) := by decide +kernel
theorem dX11_brief_54 : decode cX11_brief 54 = .ok (.aload_n 0, 1) := by decide +kernel
theorem dX11_brief_55 : decode cX11_brief 55 = .ok (.getfield 13, 3) := by decide +kernel
theorem dX11_brief_58 : decode cX11_brief 58 = .ok (.iload_n 2, 1) := by decide +kernel
theorem dX11_brief_59 : decode cX11_brief 59 = .ok (.iaload, 1) := by decide +kernel
theorem dX11_brief_60 : decode cX11_brief 60 = .ok (.isub, 1) := by decide +kernel
theorem dX11_brief_61 : decode cX11_brief 61 = .ok (.if_icmp .ge 7, 3) := by decide +kernel
theorem dX11_brief_64 : decode cX11_brief 64 = .ok (.iload_n 3, 1) := by decide +kernel
theorem dX11_brief_65 : decode cX11_brief 65 = .ok (.goto 4, 3) := by decide +kernel
theorem dX11_brief_68 : decode cX11_brief 68 = .ok (.iload_n 2, 1) := by decide +kernel
theorem dX11_brief_69 : decode cX11_brief 69 = .ok (.istore_n 2, 1) := by decide +kernel
theorem dX11_brief_70 : decode cX11_brief 70 = .ok (.iinc 3 1, 3) := by decide +kernel
theorem dX11_brief_73 : decode cX11_brief 73 = .ok (.goto (-46), 3) := by decide +kernel
theorem dX11_brief_76 : decode cX11_brief 76 = .ok (.iload_n 1, 1) := by decide +kernel
theorem dX11_brief_77 : decode cX11_brief 77 = .ok (.ifCond .ne 7, 3) := by decide +kernel
theorem dX11_brief_80 : decode cX11_brief 80 = .ok (.iload_n 2, 1) := by decide +kernel
theorem dX11_brief_81 : decode cX11_brief 81 = .ok (.goto 16, 3) := by decide +kernel
theorem dX11_brief_84 : decode cX11_brief 84 = .ok (.aload_n 0, 1) := by decide +kernel
theorem dX11_brief_85 : decode cX11_brief 85 = .ok (.getfield 16, 3) := by decide +kernel
theorem dX11_brief_88 : decode cX11_brief 88 = .ok (.iload_n 2, 1) := by decide +kernel
theorem dX11_brief_89 : decode cX11_brief 89 = .ok (.iaload, 1) := by decide +kernel
theorem dX11_brief_90 : decode cX11_brief 90 = .ok (.aload_n 0, 1) := by decide +kernel
theorem dX11_brief_91 : decode cX11_brief 91 = .ok (.getfield 13, 3) := by decide +kernel
theorem dX11_brief_94 : decode cX11_brief 94 = .ok (.iload_n 2, 1) := by decide +kernel
theorem dX11_brief_95 : decode cX11_brief 95 = .ok (.iaload, 1) := by decide +kernel
theorem dX11_brief_96 : decode cX11_brief 96 = .ok (.isub, 1) := by decide +kernel
theorem dX11_brief_97 : decode cX11_brief 97 = .ok (.ireturn, 1) := by decide +kernel
theorem dX11_caught_0 : decode cX11_caught 0 = .ok (.aload_n 0, 1) := by decide +kernel
theorem dX11_caught_1 : decode cX11_caught 1 = .ok (.iload_n 1, 1) := by decide +kernel
theorem dX11_caught_2 : decode cX11_caught 2 = .ok (.invokevirtual 169, 3) := by decide +kernel
theorem dX11_caught_5 : decode cX11_caught 5 = .ok (.ifCond .ne 5, 3) := by decide +kernel
theorem dX11_caught_8 : decode cX11_caught 8 = .ok (.iconst (-1), 1) := by decide +kernel
theorem dX11_caught_9 : decode cX11_caught 9 = .ok (.ireturn, 1) := by decide +kernel
theorem dX11_caught_10 : decode cX11_caught 10 = .ok (.iconst 0, 1) := by decide +kernel
theorem dX11_caught_11 : decode cX11_caught 11 = .ok (.istore_n 2, 1) := by decide +kernel
theorem dX11_caught_12 : decode cX11_caught 12 = .ok (.iconst 0, 1) := by decide +kernel
theorem dX11_caught_13 : decode cX11_caught 13 = .ok (.istore_n 3, 1) := by decide +kernel
theorem dX11_caught_14 : decode cX11_caught 14 = .ok (.iload_n 3, 1) := by decide +kernel
theorem dX11_caught_15 : decode cX11_caught 15 = .ok (.aload_n 0, 1) := by decide +kernel
theorem dX11_caught_16 : decode cX11_caught 16 = .ok (.getfield 190, 3) := by decide +kernel
theorem dX11_caught_19 : decode cX11_caught 19 = .ok (.if_icmp .ge 59, 3) := by decide +kernel
theorem dX11_caught_22 : decode cX11_caught 22 = .ok (.aload_n 0, 1) := by decide +kernel
theorem dX11_caught_23 : decode cX11_caught 23 = .ok (.getfield 53, 3) := by decide +kernel
theorem dX11_caught_26 : decode cX11_caught 26 = .ok (.iload_n 3, 1) := by decide +kernel
theorem dX11_caught_27 : decode cX11_caught 27 = .ok (.iaload, 1) := by decide +kernel
theorem dX11_caught_28 : decode cX11_caught 28 = .ok (.istore 4, 2) := by decide +kernel
theorem dX11_caught_30 : decode cX11_caught 30 = .ok (.iload 4, 2) := by decide +kernel
theorem dX11_caught_32 : decode cX11_caught 32 = .ok (.bipush 99, 2) := by decide +kernel
theorem dX11_caught_34 : decode cX11_caught 34 = .ok (.if_icmp .gt 38, 3) := by decide +kernel
theorem dX11_caught_37 : decode cX11_caught 37 = .ok (.iload_n 2, 1) := by decide +kernel
theorem dX11_caught_38 : decode cX11_caught 38 = .ok (.iload_n 3, 1) := by decide +kernel
theorem dX11_caught_39 : decode cX11_caught 39 = .ok (.ishr, 1) := by decide +kernel
theorem dX11_caught_40 : decode cX11_caught 40 = .ok (.iconst 1, 1) := by decide +kernel
theorem dX11_caught_41 : decode cX11_caught 41 = .ok (.iand, 1) := by decide +kernel
theorem dX11_caught_42 : decode cX11_caught 42 = .ok (.ifCond .ne 30, 3) := by decide +kernel
theorem dX11_caught_45 : decode cX11_caught 45 = .ok (.iload_n 2, 1) := by decide +kernel
theorem dX11_caught_46 : decode cX11_caught 46 = .ok (.aload_n 0, 1) := by decide +kernel
theorem dX11_caught_47 : decode cX11_caught 47 = .ok (.iload_n 3, 1) := by decide +kernel
theorem dX11_caught_48 : decode cX11_caught 48 = .ok (.iload 4, 2) := by decide +kernel
theorem dX11_caught_50 : decode cX11_caught 50 = .ok (.invokevirtual 243, 3) := by decide +kernel
theorem dX11_caught_53 : decode cX11_caught 53 = .ok (.iload_n 1, 1) := by decide +kernel
theorem dX11_caught_54 : decode cX11_caught 54 = .ok (.if_icmp .ne 9, 3) := by decide +kernel
theorem dX11_caught_57 : decode cX11_caught 57 = .ok (.iconst 1, 1) := by decide +kernel
theorem dX11_caught_58 : decode cX11_caught 58 = .ok (.iload_n 3, 1) := by decide +kernel
theorem dX11_caught_59 : decode cX11_caught 59 = .ok (.ishl, 1) := by decide +kernel
theorem dX11_caught_60 : decode cX11_caught 60 = .ok (.goto 4, 3) := by decide +kernel
theorem dX11_caught_63 : decode cX11_caught 63 = .ok (.iconst 0, 1) := by decide +kernel
theorem dX11_caught_64 : decode cX11_caught 64 = .ok (.ior, 1) := by decide +kernel
theorem dX11_caught_65 : decode cX11_caught 65 = .ok (.istore_n 2, 1) := by decide +kernel
theorem dX11_caught_66 : decode cX11_caught 66 = .ok (.iinc 4 1, 3) := by decide +kernel
theorem dX11_caught_69 : decode cX11_caught 69 = .ok (.goto (-39), 3) := by decide +kernel
theorem dX11_caught_72 : decode cX11_caught 72 = .ok (.iinc 3 1, 3) := by decide +kernel
theorem dX11_caught_75 : decode cX11_caught 75 = .ok (.goto (-61), 3) := by decide +kernel
theorem dX11_caught_78 : decode cX11_caught 78 = .ok (.iload_n 2, 1) := by decide +kernel
theorem dX11_caught_79 : decode cX11_caught 79 = .ok (.ireturn, 1) := by decide +kernel
theorem dX11_giftBy_0 : decode cX11_giftBy 0 = .ok (.aload_n 0, 1) := by decide +kernel
theorem dX11_giftBy_1 : decode cX11_giftBy 1 = .ok (.iload_n 3, 1) := by decide +kernel
theorem dX11_giftBy_2 : decode cX11_giftBy 2 = .ok (.putfield 184, 3) := by decide +kernel
theorem dX11_giftBy_5 : decode cX11_giftBy 5 = .ok (.aload_n 0, 1) := by decide +kernel
theorem dX11_giftBy_6 : decode cX11_giftBy 6 = .ok (.iload_n 1, 1) := by decide +kernel
theorem dX11_giftBy_7 : decode cX11_giftBy 7 = .ok (.iload_n 2, 1) := by decide +kernel
theorem dX11_giftBy_8 : decode cX11_giftBy 8 = .ok (.invokevirtual 254, 3) := by decide +kernel
theorem dX11_giftBy_11 : decode cX11_giftBy 11 = .ok (.istore 4, 2) := by decide +kernel
theorem dX11_giftBy_13 : decode cX11_giftBy 13 = .ok (.aload_n 0, 1) := by decide +kernel
theorem dX11_giftBy_14 : decode cX11_giftBy 14 = .ok (.iconst 0, 1) := by decide +kernel
theorem dX11_giftBy_15 : decode cX11_giftBy 15 = .ok (.putfield 184, 3) := by decide +kernel
theorem dX11_giftBy_18 : decode cX11_giftBy 18 = .ok (.iload 4, 2) := by decide +kernel
theorem dX11_giftBy_20 : decode cX11_giftBy 20 = .ok (.ireturn, 1) := by decide +kernel
theorem dX11_read_0 : decode cX11_read 0 = .ok (.aload_n 0, 1) := by decide +kernel
theorem dX11_read_1 : decode cX11_read 1 = .ok (.iload_n 1, 1) := by decide +kernel
theorem dX11_read_2 : decode cX11_read 2 = .ok (.invokevirtual 198, 3) := by decide +kernel
theorem dX11_read_5 : decode cX11_read 5 = .ok (.ifCond .ne 5, 3) := by decide +kernel
theorem dX11_read_8 : decode cX11_read 8 = .ok (.iconst (-1), 1) := by decide +kernel
theorem dX11_read_9 : decode cX11_read 9 = .ok (.ireturn, 1) := by decide +kernel
theorem dX11_read_10 : decode cX11_read 10 = .ok (.iload_n 2, 1) := by decide +kernel
theorem dX11_read_11 : decode cX11_read 11 = .ok (.invokestatic 156, 3) := by decide +kernel
theorem dX11_read_14 : decode cX11_read 14 = .ok (.ifCond .eq 25, 3) := by decide +kernel
theorem dX11_read_17 : decode cX11_read 17 = .ok (.iload_n 3, 1) := by decide +kernel
theorem dX11_read_18 : decode cX11_read 18 = .ok (.i2l, 1) := by decide +kernel
theorem dX11_read_19 : decode cX11_read 19 = .ok (.lconst 0, 1) := by decide +kernel
theorem dX11_read_20 : decode cX11_read 20 = .ok (.ldc2_w 276, 3) := by decide +kernel
theorem dX11_read_23 : decode cX11_read 23 = .ok (.invokestatic 86, 3) := by decide +kernel
theorem dX11_read_26 : decode cX11_read 26 = .ok (.ifCond .eq 13, 3) := by decide +kernel
theorem dX11_read_29 : decode cX11_read 29 = .ok (.aload_n 0, 1) := by decide +kernel
theorem dX11_read_30 : decode cX11_read 30 = .ok (.iload_n 1, 1) := by decide +kernel
theorem dX11_read_31 : decode cX11_read 31 = .ok (.iload_n 2, 1) := by decide +kernel
theorem dX11_read_32 : decode cX11_read 32 = .ok (.iload_n 3, 1) := by decide +kernel
theorem dX11_read_33 : decode cX11_read 33 = .ok (.invokevirtual 278, 3) := by decide +kernel
theorem dX11_read_36 : decode cX11_read 36 = .ok (.goto 5, 3) := by decide +kernel
theorem dX11_read_39 : decode cX11_read 39 = .ok (.bipush (-2), 2) := by decide +kernel
theorem dX11_read_41 : decode cX11_read 41 = .ok (.ireturn, 1) := by decide +kernel
theorem dX11_opens_0 : decode cX11_opens 0 = .ok (.aload_n 0, 1) := by decide +kernel
theorem dX11_opens_1 : decode cX11_opens 1 = .ok (.iconst (-1), 1) := by decide +kernel
theorem dX11_opens_2 : decode cX11_opens 2 = .ok (.invokevirtual 281, 3) := by decide +kernel
theorem dX11_opens_5 : decode cX11_opens 5 = .ok (.istore_n 1, 1) := by decide +kernel
theorem dX11_opens_6 : decode cX11_opens 6 = .ok (.iload_n 1, 1) := by decide +kernel
theorem dX11_opens_7 : decode cX11_opens 7 = .ok (.bipush 8, 2) := by decide +kernel
theorem dX11_opens_9 : decode cX11_opens 9 = .ok (.if_icmp .le 8, 3) := by decide +kernel
theorem dX11_opens_12 : decode cX11_opens 12 = .ok (.bipush 8, 2) := by decide +kernel
theorem dX11_opens_14 : decode cX11_opens 14 = .ok (.goto 4, 3) := by decide +kernel
theorem dX11_opens_17 : decode cX11_opens 17 = .ok (.iload_n 1, 1) := by decide +kernel
theorem dX11_opens_18 : decode cX11_opens 18 = .ok (.ireturn, 1) := by decide +kernel
theorem dX11_clearWere_0 : decode cX11_clearWere 0 = .ok (.iconst 0, 1) := by decide +kernel
theorem dX11_clearWere_1 : decode cX11_clearWere 1 = .ok (.istore_n 1, 1) := by decide +kernel
theorem dX11_clearWere_2 : decode cX11_clearWere 2 = .ok (.iload_n 1, 1) := by decide +kernel
theorem dX11_clearWere_3 : decode cX11_clearWere 3 = .ok (.bipush 102, 2) := by decide +kernel
theorem dX11_clearWere_5 : decode cX11_clearWere 5 = .ok (.if_icmp .ge 16, 3) := by decide +kernel
theorem dX11_clearWere_8 : decode cX11_clearWere 8 = .ok (.aload_n 0, 1) := by decide +kernel
theorem dX11_clearWere_9 : decode cX11_clearWere 9 = .ok (.getfield 71, 3) := by decide +kernel
theorem dX11_clearWere_12 : decode cX11_clearWere 12 = .ok (.iload_n 1, 1) := by decide +kernel
theorem dX11_clearWere_13 : decode cX11_clearWere 13 = .ok (.iconst 0, 1) := by decide +kernel
theorem dX11_clearWere_14 : decode cX11_clearWere 14 = .ok (.bastore, 1) := by decide +kernel
theorem dX11_clearWere_15 : decode cX11_clearWere 15 = .ok (.iinc 1 1, 3) := by decide +kernel
theorem dX11_clearWere_18 : decode cX11_clearWere 18 = .ok (.goto (-16), 3) := by decide +kernel
theorem dX11_clearWere_21 : decode cX11_clearWere 21 = .ok (.return_, 1) := by decide +kernel
theorem dX11_note_0 : decode cX11_note 0 = .ok (.aload_n 0, 1) := by decide +kernel
theorem dX11_note_1 : decode cX11_note 1 = .ok (.getfield 71, 3) := by decide +kernel
theorem dX11_note_4 : decode cX11_note 4 = .ok (.iload_n 1, 1) := by decide +kernel
theorem dX11_note_5 : decode cX11_note 5 = .ok (.ifCond .lt 7, 3) := by decide +kernel
theorem dX11_note_8 : decode cX11_note 8 = .ok (.iload_n 1, 1) := by decide +kernel
theorem dX11_note_9 : decode cX11_note 9 = .ok (.goto 16, 3) := by decide +kernel
theorem dX11_note_12 : decode cX11_note 12 = .ok (.iload_n 1, 1) := by decide +kernel
theorem dX11_note_13 : decode cX11_note 13 = .ok (.bipush (-6), 2) := by decide +kernel
theorem dX11_note_15 : decode cX11_note 15 = .ok (.if_icmp .ne 8, 3) := by decide +kernel
theorem dX11_note_18 : decode cX11_note 18 = .ok (.bipush 100, 2) := by decide +kernel
theorem dX11_note_20 : decode cX11_note 20 = .ok (.goto 5, 3) := by decide +kernel
theorem dX11_note_23 : decode cX11_note 23 = .ok (.bipush 101, 2) := by decide +kernel
theorem dX11_note_25 : decode cX11_note 25 = .ok (.iconst 1, 1) := by decide +kernel
theorem dX11_note_26 : decode cX11_note 26 = .ok (.bastore, 1) := by decide +kernel
theorem dX11_note_27 : decode cX11_note 27 = .ok (.return_, 1) := by decide +kernel
theorem dX11_manyWere_0 : decode cX11_manyWere 0 = .ok (.iconst 0, 1) := by decide +kernel
theorem dX11_manyWere_1 : decode cX11_manyWere 1 = .ok (.istore_n 1, 1) := by decide +kernel
theorem dX11_manyWere_2 : decode cX11_manyWere 2 = .ok (.iconst 0, 1) := by decide +kernel
theorem dX11_manyWere_3 : decode cX11_manyWere 3 = .ok (.istore_n 2, 1) := by decide +kernel
theorem dX11_manyWere_4 : decode cX11_manyWere 4 = .ok (.iload_n 2, 1) := by decide +kernel
theorem dX11_manyWere_5 : decode cX11_manyWere 5 = .ok (.bipush 102, 2) := by decide +kernel
theorem dX11_manyWere_7 : decode cX11_manyWere 7 = .ok (.if_icmp .ge 26, 3) := by decide +kernel
theorem dX11_manyWere_10 : decode cX11_manyWere 10 = .ok (.iload_n 1, 1) := by decide +kernel
theorem dX11_manyWere_11 : decode cX11_manyWere 11 = .ok (.aload_n 0, 1) := by decide +kernel
theorem dX11_manyWere_12 : decode cX11_manyWere 12 = .ok (.getfield 71, 3) := by decide +kernel
theorem dX11_manyWere_15 : decode cX11_manyWere 15 = .ok (.iload_n 2, 1) := by decide +kernel
theorem dX11_manyWere_16 : decode cX11_manyWere 16 = .ok (.baload, 1) := by decide +kernel
theorem dX11_manyWere_17 : decode cX11_manyWere 17 = .ok (.ifCond .eq 7, 3) := by decide +kernel
theorem dX11_manyWere_20 : decode cX11_manyWere 20 = .ok (.iconst 1, 1) := by decide +kernel
theorem dX11_manyWere_21 : decode cX11_manyWere 21 = .ok (.goto 4, 3) := by decide +kernel
theorem dX11_manyWere_24 : decode cX11_manyWere 24 = .ok (.iconst 0, 1) := by decide +kernel
theorem dX11_manyWere_25 : decode cX11_manyWere 25 = .ok (.iadd, 1) := by decide +kernel
theorem dX11_manyWere_26 : decode cX11_manyWere 26 = .ok (.istore_n 1, 1) := by decide +kernel
theorem dX11_manyWere_27 : decode cX11_manyWere 27 = .ok (.iinc 2 1, 3) := by decide +kernel
theorem dX11_manyWere_30 : decode cX11_manyWere 30 = .ok (.goto (-26), 3) := by decide +kernel
theorem dX11_manyWere_33 : decode cX11_manyWere 33 = .ok (.iload_n 1, 1) := by decide +kernel
theorem dX11_manyWere_34 : decode cX11_manyWere 34 = .ok (.ireturn, 1) := by decide +kernel
theorem dX11_ways_0 : decode cX11_ways 0 = .ok (.aload_n 0, 1) := by decide +kernel
theorem dX11_ways_1 : decode cX11_ways 1 = .ok (.iload_n 1, 1) := by decide +kernel
theorem dX11_ways_2 : decode cX11_ways 2 = .ok (.invokevirtual 198, 3) := by decide +kernel
theorem dX11_ways_5 : decode cX11_ways 5 = .ok (.ifCond .ne 5, 3) := by decide +kernel
theorem dX11_ways_8 : decode cX11_ways 8 = .ok (.iconst (-1), 1) := by decide +kernel
theorem dX11_ways_9 : decode cX11_ways 9 = .ok (.ireturn, 1) := by decide +kernel
theorem dX11_ways_10 : decode cX11_ways 10 = .ok (.iload_n 2, 1) := by decide +kernel
theorem dX11_ways_11 : decode cX11_ways 11 = .ok (.invokestatic 156, 3) := by decide +kernel
theorem dX11_ways_14 : decode cX11_ways 14 = .ok (.ifCond .ne 6, 3) := by decide +kernel
theorem dX11_ways_17 : decode cX11_ways 17 = .ok (.bipush (-2), 2) := by decide +kernel
theorem dX11_ways_19 : decode cX11_ways 19 = .ok (.ireturn, 1) := by decide +kernel
theorem dX11_ways_20 : decode cX11_ways 20 = .ok (.aload_n 0, 1) := by decide +kernel
theorem dX11_ways_21 : decode cX11_ways 21 = .ok (.invokevirtual 284, 3) := by decide +kernel
theorem dX11_ways_24 : decode cX11_ways 24 = .ok (.iconst 0, 1) := by decide +kernel
theorem dX11_ways_25 : decode cX11_ways 25 = .ok (.istore_n 3, 1) := by decide +kernel
theorem dX11_ways_26 : decode cX11_ways 26 = .ok (.iload_n 3, 1) := by decide +kernel
theorem dX11_ways_27 : decode cX11_ways 27 = .ok (.iconst 1, 1) := by decide +kernel
theorem dX11_ways_28 : decode cX11_ways 28 = .ok (.aload_n 0, 1) := by decide +kernel
theorem dX11_ways_29 : decode cX11_ways 29 = .ok (.invokevirtual 287, 3) := by decide +kernel
theorem dX11_ways_32 : decode cX11_ways 32 = .ok (.ishl, 1) := by decide +kernel
theorem dX11_ways_33 : decode cX11_ways 33 = .ok (.if_icmp .ge 20, 3) := by decide +kernel
theorem dX11_ways_36 : decode cX11_ways 36 = .ok (.aload_n 0, 1) := by decide +kernel
theorem dX11_ways_37 : decode cX11_ways 37 = .ok (.aload_n 0, 1) := by decide +kernel
theorem dX11_ways_38 : decode cX11_ways 38 = .ok (.iload_n 1, 1) := by decide +kernel
theorem dX11_ways_39 : decode cX11_ways 39 = .ok (.iload_n 2, 1) := by decide +kernel
theorem dX11_ways_40 : decode cX11_ways 40 = .ok (.iload_n 3, 1) := by decide +kernel
theorem dX11_ways_41 : decode cX11_ways 41 = .ok (.invokevirtual 278, 3) := by decide +kernel
theorem dX11_ways_44 : decode cX11_ways 44 = .ok (.invokevirtual 290, 3) := by decide +kernel
theorem dX11_ways_47 : decode cX11_ways 47 = .ok (.iinc 3 1, 3) := by decide +kernel
theorem dX11_ways_50 : decode cX11_ways 50 = .ok (.goto (-24), 3) := by decide +kernel
theorem dX11_ways_53 : decode cX11_ways 53 = .ok (.aload_n 0, 1) := by decide +kernel
theorem dX11_ways_54 : decode cX11_ways 54 = .ok (.invokevirtual 293, 3) := by decide +kernel
theorem dX11_ways_57 : decode cX11_ways 57 = .ok (.ireturn, 1) := by decide +kernel
theorem dX11_hangs_0 : decode cX11_hangs 0 = .ok (.iload_n 1, 1) := by decide +kernel
theorem dX11_hangs_1 : decode cX11_hangs 1 = .ok (.invokestatic 156, 3) := by decide +kernel
theorem dX11_hangs_4 : decode cX11_hangs 4 = .ok (.ifCond .eq 13, 3) := by decide +kernel
theorem dX11_hangs_7 : decode cX11_hangs 7 = .ok (.iload_n 2, 1) := by decide +kernel
theorem dX11_hangs_8 : decode cX11_hangs 8 = .ok (.i2l, 1) := by decide +kernel
theorem dX11_hangs_9 : decode cX11_hangs 9 = .ok (.lconst 0, 1) := by decide +kernel
theorem dX11_hangs_10 : decode cX11_hangs 10 = .ok (.lconst 1, 1) := by decide +kernel
theorem dX11_hangs_11 : decode cX11_hangs 11 = .ok (.invokestatic 86, 3) := by decide +kernel
theorem dX11_hangs_14 : decode cX11_hangs 14 = .ok (.ifCond .ne 6, 3) := by decide +kernel
theorem dX11_hangs_17 : decode cX11_hangs 17 = .ok (.bipush (-2), 2) := by decide +kernel
theorem dX11_hangs_19 : decode cX11_hangs 19 = .ok (.ireturn, 1) := by decide +kernel
theorem dX11_hangs_20 : decode cX11_hangs 20 = .ok (.bipush (-6), 2) := by decide +kernel
theorem dX11_hangs_22 : decode cX11_hangs 22 = .ok (.istore_n 3, 1) := by decide +kernel
theorem dX11_hangs_23 : decode cX11_hangs 23 = .ok (.iconst 0, 1) := by decide +kernel
theorem dX11_hangs_24 : decode cX11_hangs 24 = .ok (.istore 4, 2) := by decide +kernel
theorem dX11_hangs_26 : decode cX11_hangs 26 = .ok (.iconst 0, 1) := by decide +kernel
theorem dX11_hangs_27 : decode cX11_hangs 27 = .ok (.istore 5, 2) := by decide +kernel
theorem dX11_hangs_29 : decode cX11_hangs 29 = .ok (.iload 5, 2) := by decide +kernel
theorem dX11_hangs_31 : decode cX11_hangs 31 = .ok (.aload_n 0, 1) := by decide +kernel
theorem dX11_hangs_32 : decode cX11_hangs 32 = .ok (.invokevirtual 287, 3) := by decide +kernel
theorem dX11_hangs_35 : decode cX11_hangs 35 = .ok (.if_icmp .ge 80, 3) := by decide +kernel
theorem dX11_hangs_38 : decode cX11_hangs 38 = .ok (.iconst 0, 1) := by decide +kernel
theorem dX11_hangs_39 : decode cX11_hangs 39 = .ok (.istore 6, 2) := by decide +kernel
theorem dX11_hangs_41 : decode cX11_hangs 41 = .ok (.iconst 0, 1) := by decide +kernel
theorem dX11_hangs_42 : decode cX11_hangs 42 = .ok (.istore 7, 2) := by decide +kernel
theorem dX11_hangs_44 : decode cX11_hangs 44 = .ok (.iload 7, 2) := by decide +kernel
theorem dX11_hangs_46 : decode cX11_hangs 46 = .ok (.aload_n 0, 1) := by decide +kernel
theorem dX11_hangs_47 : decode cX11_hangs 47 = .ok (.getfield 190, 3) := by decide +kernel
theorem dX11_hangs_50 : decode cX11_hangs 50 = .ok (.if_icmp .ge 41, 3) := by decide +kernel
theorem dX11_hangs_53 : decode cX11_hangs 53 = .ok (.iload 6, 2) := by decide +kernel
theorem dX11_hangs_55 : decode cX11_hangs 55 = .ok (.aload_n 0, 1) := by decide +kernel
theorem dX11_hangs_56 : decode cX11_hangs 56 = .ok (.iload 7, 2) := by decide +kernel
theorem dX11_hangs_58 : decode cX11_hangs 58 = .ok (.iload_n 1, 1) := by decide +kernel
theorem dX11_hangs_59 : decode cX11_hangs 59 = .ok (.iconst 1, 1) := by decide +kernel
theorem dX11_hangs_60 : decode cX11_hangs 60 = .ok (.iload 5, 2) := by decide +kernel
theorem dX11_hangs_62 : decode cX11_hangs 62 = .ok (.ishl, 1) := by decide +kernel
theorem dX11_hangs_63 : decode cX11_hangs 63 = .ok (.invokevirtual 278, 3) := by decide +kernel
theorem dX11_hangs_66 : decode cX11_hangs 66 = .ok (.aload_n 0, 1) := by decide +kernel
theorem dX11_hangs_67 : decode cX11_hangs 67 = .ok (.iload 7, 2) := by decide +kernel
theorem dX11_hangs_69 : decode cX11_hangs 69 = .ok (.iload_n 1, 1) := by decide +kernel
theorem dX11_hangs_70 : decode cX11_hangs 70 = .ok (.iconst 0, 1) := by decide +kernel
theorem dX11_hangs_71 : decode cX11_hangs 71 = .ok (.invokevirtual 278, 3) := by decide +kernel
theorem dX11_hangs_74 : decode cX11_hangs 74 = .ok (.if_icmp .eq 7, 3) := by decide +kernel
theorem dX11_hangs_77 : decode cX11_hangs 77 = .ok (.iconst 1, 1) := by decide +kernel
theorem dX11_hangs_78 : decode cX11_hangs 78 = .ok (.goto 4, 3) := by decide +kernel
theorem dX11_hangs_81 : decode cX11_hangs 81 = .ok (.iconst 0, 1) := by decide +kernel
theorem dX11_hangs_82 : decode cX11_hangs 82 = .ok (.iadd, 1) := by decide +kernel
theorem dX11_hangs_83 : decode cX11_hangs 83 = .ok (.istore 6, 2) := by decide +kernel
theorem dX11_hangs_85 : decode cX11_hangs 85 = .ok (.iinc 7 1, 3) := by decide +kernel
theorem dX11_hangs_88 : decode cX11_hangs 88 = .ok (.goto (-44), 3) := by decide +kernel
theorem dX11_hangs_91 : decode cX11_hangs 91 = .ok (.iload_n 3, 1) := by decide +kernel
theorem dX11_hangs_92 : decode cX11_hangs 92 = .ok (.ifCond .lt 10, 3) := by decide +kernel
theorem dX11_hangs_95 : decode cX11_hangs 95 = .ok (.iload 6, 2) := by decide +kernel
theorem dX11_hangs_97 : decode cX11_hangs 97 = .ok (.iload 4, 2) := by decide +kernel
theorem dX11_hangs_99 : decode cX11_hangs 99 = .ok (.if_icmp .le 10, 3) := by decide +kernel
theorem dX11_hangs_102 : decode cX11_hangs 102 = .ok (.iload 5, 2) := by decide +kernel
theorem dX11_hangs_104 : decode cX11_hangs 104 = .ok (.istore_n 3, 1) := by decide +kernel
theorem dX11_hangs_105 : decode cX11_hangs 105 = .ok (.iload 6, 2) := by decide +kernel
theorem dX11_hangs_107 : decode cX11_hangs 107 = .ok (.istore 4, 2) := by decide +kernel
theorem dX11_hangs_109 : decode cX11_hangs 109 = .ok (.iinc 5 1, 3) := by decide +kernel
theorem dX11_hangs_112 : decode cX11_hangs 112 = .ok (.goto (-83), 3) := by decide +kernel
theorem dX11_hangs_115 : decode cX11_hangs 115 = .ok (.iload_n 2, 1) := by decide +kernel
theorem dX11_hangs_116 : decode cX11_hangs 116 = .ok (.ifCond .ne 7, 3) := by decide +kernel
theorem dX11_hangs_119 : decode cX11_hangs 119 = .ok (.iload_n 3, 1) := by decide +kernel
theorem dX11_hangs_120 : decode cX11_hangs 120 = .ok (.goto 5, 3) := by decide +kernel
theorem dX11_hangs_123 : decode cX11_hangs 123 = .ok (.iload 4, 2) := by decide +kernel
theorem dX11_hangs_125 : decode cX11_hangs 125 = .ok (.ireturn, 1) := by decide +kernel
theorem dX11_wish_0 : decode cX11_wish 0 = .ok (.aload_n 0, 1) := by decide +kernel
theorem dX11_wish_1 : decode cX11_wish 1 = .ok (.iload_n 1, 1) := by decide +kernel
theorem dX11_wish_2 : decode cX11_wish 2 = .ok (.invokevirtual 198, 3) := by decide +kernel
theorem dX11_wish_5 : decode cX11_wish 5 = .ok (.ifCond .ne 5, 3) := by decide +kernel
theorem dX11_wish_8 : decode cX11_wish 8 = .ok (.iconst (-1), 1) := by decide +kernel
theorem dX11_wish_9 : decode cX11_wish 9 = .ok (.ireturn, 1) := by decide +kernel
theorem dX11_wish_10 : decode cX11_wish 10 = .ok (.iload_n 2, 1) := by decide +kernel
theorem dX11_wish_11 : decode cX11_wish 11 = .ok (.i2l, 1) := by decide +kernel
theorem dX11_wish_12 : decode cX11_wish 12 = .ok (.ldc2_w 296, 3) := by decide +kernel
theorem dX11_wish_15 : decode cX11_wish 15 = .ok (.ldc2_w 84, 3) := by decide +kernel
theorem dX11_wish_18 : decode cX11_wish 18 = .ok (.invokestatic 86, 3) := by decide +kernel
theorem dX11_wish_21 : decode cX11_wish 21 = .ok (.ifCond .ne 6, 3) := by decide +kernel
theorem dX11_wish_24 : decode cX11_wish 24 = .ok (.bipush (-2), 2) := by decide +kernel
theorem dX11_wish_26 : decode cX11_wish 26 = .ok (.ireturn, 1) := by decide +kernel
theorem dX11_wish_27 : decode cX11_wish 27 = .ok (.aload_n 0, 1) := by decide +kernel
theorem dX11_wish_28 : decode cX11_wish 28 = .ok (.getfield 65, 3) := by decide +kernel
theorem dX11_wish_31 : decode cX11_wish 31 = .ok (.iload_n 1, 1) := by decide +kernel
theorem dX11_wish_32 : decode cX11_wish 32 = .ok (.iaload, 1) := by decide +kernel
theorem dX11_wish_33 : decode cX11_wish 33 = .ok (.istore_n 3, 1) := by decide +kernel
theorem dX11_wish_34 : decode cX11_wish 34 = .ok (.aload_n 0, 1) := by decide +kernel
theorem dX11_wish_35 : decode cX11_wish 35 = .ok (.getfield 65, 3) := by decide +kernel
theorem dX11_wish_38 : decode cX11_wish 38 = .ok (.iload_n 1, 1) := by decide +kernel
theorem dX11_wish_39 : decode cX11_wish 39 = .ok (.iload_n 2, 1) := by decide +kernel
theorem dX11_wish_40 : decode cX11_wish 40 = .ok (.ifCond .ge 8, 3) := by decide +kernel
theorem dX11_wish_43 : decode cX11_wish 43 = .ok (.bipush (-6), 2) := by decide +kernel
theorem dX11_wish_45 : decode cX11_wish 45 = .ok (.goto 4, 3) := by decide +kernel
theorem dX11_wish_48 : decode cX11_wish 48 = .ok (.iload_n 2, 1) := by decide +kernel
theorem dX11_wish_49 : decode cX11_wish 49 = .ok (.iastore, 1) := by decide +kernel
theorem dX11_wish_50 : decode cX11_wish 50 = .ok (.iload_n 3, 1) := by decide +kernel
theorem dX11_wish_51 : decode cX11_wish 51 = .ok (.ireturn, 1) := by decide +kernel
theorem dX11_areAsWished_0 : decode cX11_areAsWished 0 = .ok (.iconst 1, 1) := by decide +kernel
theorem dX11_areAsWished_1 : decode cX11_areAsWished 1 = .ok (.istore_n 2, 1) := by decide +kernel
theorem dX11_areAsWished_2 : decode cX11_areAsWished 2 = .ok (.iconst 0, 1) := by decide +kernel
theorem dX11_areAsWished_3 : decode cX11_areAsWished 3 = .ok (.istore_n 3, 1) := by decide +kernel
theorem dX11_areAsWished_4 : decode cX11_areAsWished 4 = .ok (.iload_n 3, 1) := by decide +kernel
theorem dX11_areAsWished_5 : decode cX11_areAsWished 5 = .ok (.aload_n 0, 1) := by decide +kernel
theorem dX11_areAsWished_6 : decode cX11_areAsWished 6 = .ok (.getfield 190, 3) := by decide +kernel
theorem dX11_areAsWished_9 : decode cX11_areAsWished 9 = .ok (.if_icmp .ge 52, 3) := by decide +kernel
theorem dX11_areAsWished_12 : decode cX11_areAsWished 12 = .ok (.iload_n 2, 1) := by decide +kernel
theorem dX11_areAsWished_13 : decode cX11_areAsWished 13 = .ok (.ifCond .eq 48, 3) := by decide +kernel
theorem dX11_areAsWished_16 : decode cX11_areAsWished 16 = .ok (.aload_n 0, 1) := by decide +kernel
theorem dX11_areAsWished_17 : decode cX11_areAsWished 17 = .ok (.iload_n 3, 1) := by decide +kernel
theorem dX11_areAsWished_18 : decode cX11_areAsWished 18 = .ok (.iload_n 1, 1) := by decide +kernel
theorem dX11_areAsWished_19 : decode cX11_areAsWished 19 = .ok (.invokevirtual 254, 3) := by decide +kernel
theorem dX11_areAsWished_22 : decode cX11_areAsWished 22 = .ok (.aload_n 0, 1) := by decide +kernel
theorem dX11_areAsWished_23 : decode cX11_areAsWished 23 = .ok (.getfield 65, 3) := by decide +kernel
theorem dX11_areAsWished_26 : decode cX11_areAsWished 26 = .ok (.iload_n 3, 1) := by decide +kernel
theorem dX11_areAsWished_27 : decode cX11_areAsWished 27 = .ok (.iaload, 1) := by decide +kernel
theorem dX11_areAsWished_28 : decode cX11_areAsWished 28 = .ok (.ifCond .lt 12, 3) := by decide +kernel
theorem dX11_areAsWished_31 : decode cX11_areAsWished 31 = .ok (.aload_n 0, 1) := by decide +kernel
theorem dX11_areAsWished_32 : decode cX11_areAsWished 32 = .ok (.getfield 65, 3) := by decide +kernel
theorem dX11_areAsWished_35 : decode cX11_areAsWished 35 = .ok (.iload_n 3, 1) := by decide +kernel
theorem dX11_areAsWished_36 : decode cX11_areAsWished 36 = .ok (.iaload, 1) := by decide +kernel
theorem dX11_areAsWished_37 : decode cX11_areAsWished 37 = .ok (.goto 9, 3) := by decide +kernel
theorem dX11_areAsWished_40 : decode cX11_areAsWished 40 = .ok (.aload_n 0, 1) := by decide +kernel
theorem dX11_areAsWished_41 : decode cX11_areAsWished 41 = .ok (.getfield 75, 3) := by decide +kernel
theorem dX11_areAsWished_44 : decode cX11_areAsWished 44 = .ok (.iload_n 3, 1) := by decide +kernel
theorem dX11_areAsWished_45 : decode cX11_areAsWished 45 = .ok (.iaload, 1) := by decide +kernel
theorem dX11_areAsWished_46 : decode cX11_areAsWished 46 = .ok (.if_icmp .ne 7, 3) := by decide +kernel
theorem dX11_areAsWished_49 : decode cX11_areAsWished 49 = .ok (.iconst 1, 1) := by decide +kernel
theorem dX11_areAsWished_50 : decode cX11_areAsWished 50 = .ok (.goto 4, 3) := by decide +kernel
theorem dX11_areAsWished_53 : decode cX11_areAsWished 53 = .ok (.iconst 0, 1) := by decide +kernel
theorem dX11_areAsWished_54 : decode cX11_areAsWished 54 = .ok (.istore_n 2, 1) := by decide +kernel
theorem dX11_areAsWished_55 : decode cX11_areAsWished 55 = .ok (.iinc 3 1, 3) := by decide +kernel
theorem dX11_areAsWished_58 : decode cX11_areAsWished 58 = .ok (.goto (-54), 3) := by decide +kernel
theorem dX11_areAsWished_61 : decode cX11_areAsWished 61 = .ok (.iload_n 2, 1) := by decide +kernel
theorem dX11_areAsWished_62 : decode cX11_areAsWished 62 = .ok (.ireturn, 1) := by decide +kernel
theorem dX11_timeAt_0 : decode cX11_timeAt 0 = .ok (.iload_n 0, 1) := by decide +kernel
theorem dX11_timeAt_1 : decode cX11_timeAt 1 = .ok (.ifCond .ne 8, 3) := by decide +kernel
theorem dX11_timeAt_4 : decode cX11_timeAt 4 = .ok (.bipush 110, 2) := by decide +kernel
theorem dX11_timeAt_6 : decode cX11_timeAt 6 = .ok (.goto 15, 3) := by decide +kernel
theorem dX11_timeAt_9 : decode cX11_timeAt 9 = .ok (.iload_n 0, 1) := by decide +kernel
theorem dX11_timeAt_10 : decode cX11_timeAt 10 = .ok (.iconst 1, 1) := by decide +kernel
theorem dX11_timeAt_11 : decode cX11_timeAt 11 = .ok (.if_icmp .ne 8, 3) := by decide +kernel
theorem dX11_timeAt_14 : decode cX11_timeAt 14 = .ok (.bipush 104, 2) := by decide +kernel
theorem dX11_timeAt_16 : decode cX11_timeAt 16 = .ok (.goto 5, 3) := by decide +kernel
theorem dX11_timeAt_19 : decode cX11_timeAt 19 = .ok (.bipush 97, 2) := by decide +kernel
theorem dX11_timeAt_21 : decode cX11_timeAt 21 = .ok (.ireturn, 1) := by decide +kernel
theorem dX11_mend_0 : decode cX11_mend 0 = .ok (.aload_n 0, 1) := by decide +kernel
theorem dX11_mend_1 : decode cX11_mend 1 = .ok (.iload_n 1, 1) := by decide +kernel
theorem dX11_mend_2 : decode cX11_mend 2 = .ok (.invokevirtual 169, 3) := by decide +kernel
theorem dX11_mend_5 : decode cX11_mend 5 = .ok (.ifCond .ne 5, 3) := by decide +kernel
theorem dX11_mend_8 : decode cX11_mend 8 = .ok (.iconst (-1), 1) := by decide +kernel
theorem dX11_mend_9 : decode cX11_mend 9 = .ok (.ireturn, 1) := by decide +kernel
theorem dX11_mend_10 : decode cX11_mend 10 = .ok (.iload_n 2, 1) := by decide +kernel
theorem dX11_mend_11 : decode cX11_mend 11 = .ok (.invokestatic 156, 3) := by decide +kernel
theorem dX11_mend_14 : decode cX11_mend 14 = .ok (.ifCond .eq 15, 3) := by decide +kernel
theorem dX11_mend_17 : decode cX11_mend 17 = .ok (.iload_n 3, 1) := by decide +kernel
theorem dX11_mend_18 : decode cX11_mend 18 = .ok (.i2l, 1) := by decide +kernel
theorem dX11_mend_19 : decode cX11_mend 19 = .ok (.lconst 0, 1) := by decide +kernel
theorem dX11_mend_20 : decode cX11_mend 20 = .ok (.ldc2_w 246, 3) := by decide +kernel
theorem dX11_mend_23 : decode cX11_mend 23 = .ok (.invokestatic 86, 3) := by decide +kernel
theorem dX11_mend_26 : decode cX11_mend 26 = .ok (.ifCond .ne 6, 3) := by decide +kernel
theorem dX11_mend_29 : decode cX11_mend 29 = .ok (.bipush (-2), 2) := by decide +kernel
theorem dX11_mend_31 : decode cX11_mend 31 = .ok (.ireturn, 1) := by decide +kernel
theorem dX11_mend_32 : decode cX11_mend 32 = .ok (.iconst 0, 1) := by decide +kernel
theorem dX11_mend_33 : decode cX11_mend 33 = .ok (.istore 4, 2) := by decide +kernel
theorem dX11_mend_35 : decode cX11_mend 35 = .ok (.iload 4, 2) := by decide +kernel
theorem dX11_mend_37 : decode cX11_mend 37 = .ok (.aload_n 0, 1) := by decide +kernel
theorem dX11_mend_38 : decode cX11_mend 38 = .ok (.getfield 190, 3) := by decide +kernel
theorem dX11_mend_41 : decode cX11_mend 41 = .ok (.if_icmp .ge 23, 3) := by decide +kernel
theorem dX11_mend_44 : decode cX11_mend 44 = .ok (.aload_n 0, 1) := by decide +kernel
theorem dX11_mend_45 : decode cX11_mend 45 = .ok (.getfield 75, 3) := by decide +kernel
theorem dX11_mend_48 : decode cX11_mend 48 = .ok (.iload 4, 2) := by decide +kernel
theorem dX11_mend_50 : decode cX11_mend 50 = .ok (.aload_n 0, 1) := by decide +kernel
theorem dX11_mend_51 : decode cX11_mend 51 = .ok (.iload 4, 2) := by decide +kernel
theorem dX11_mend_53 : decode cX11_mend 53 = .ok (.iload_n 2, 1) := by decide +kernel
theorem dX11_mend_54 : decode cX11_mend 54 = .ok (.invokevirtual 254, 3) := by decide +kernel
theorem dX11_mend_57 : decode cX11_mend 57 = .ok (.iastore, 1) := by decide +kernel
theorem dX11_mend_58 : decode cX11_mend 58 = .ok (.iinc 4 1, 3) := by decide +kernel
theorem dX11_mend_61 : decode cX11_mend 61 = .ok (.goto (-26), 3) := by decide +kernel
theorem dX11_mend_64 : decode cX11_mend 64 = .ok (.aload_n 0, 1) := by decide +kernel
theorem dX11_mend_65 : decode cX11_mend 65 = .ok (.getfield 28, 3) := by decide +kernel
theorem dX11_mend_68 : decode cX11_mend 68 = .ok (.iload_n 1, 1) := by decide +kernel
theorem dX11_mend_69 : decode cX11_mend 69 = .ok (.iaload, 1) := by decide +kernel
theorem dX11_mend_70 : decode cX11_mend 70 = .ok (.istore 4, 2) := by decide +kernel
theorem dX11_mend_72 : decode cX11_mend 72 = .ok (.aload_n 0, 1) := by decide +kernel
theorem dX11_mend_73 : decode cX11_mend 73 = .ok (.getfield 31, 3) := by decide +kernel
theorem dX11_mend_76 : decode cX11_mend 76 = .ok (.iload_n 1, 1) := by decide +kernel
theorem dX11_mend_77 : decode cX11_mend 77 = .ok (.iaload, 1) := by decide +kernel
theorem dX11_mend_78 : decode cX11_mend 78 = .ok (.istore 5, 2) := by decide +kernel
theorem dX11_mend_80 : decode cX11_mend 80 = .ok (.aload_n 0, 1) := by decide +kernel
theorem dX11_mend_81 : decode cX11_mend 81 = .ok (.getfield 34, 3) := by decide +kernel
theorem dX11_mend_84 : decode cX11_mend 84 = .ok (.iload_n 1, 1) := by decide +kernel
theorem dX11_mend_85 : decode cX11_mend 85 = .ok (.iaload, 1) := by decide +kernel
theorem dX11_mend_86 : decode cX11_mend 86 = .ok (.istore 6, 2) := by decide +kernel
theorem dX11_mend_88 : decode cX11_mend 88 = .ok (.aload_n 0, 1) := by decide +kernel
theorem dX11_mend_89 : decode cX11_mend 89 = .ok (.getfield 46, 3) := by decide +kernel
theorem dX11_mend_92 : decode cX11_mend 92 = .ok (.iload_n 1, 1) := by decide +kernel
theorem dX11_mend_93 : decode cX11_mend 93 = .ok (.iaload, 1) := by decide +kernel
theorem dX11_mend_94 : decode cX11_mend 94 = .ok (.istore 7, 2) := by decide +kernel
theorem dX11_mend_96 : decode cX11_mend 96 = .ok (.bipush (-6), 2) := by decide +kernel
theorem dX11_mend_98 : decode cX11_mend 98 = .ok (.istore 8, 2) := by decide +kernel
theorem dX11_mend_100 : decode cX11_mend 100 = .ok (.bipush 9, 2) := by decide +kernel
theorem dX11_mend_102 : decode cX11_mend 102 = .ok (.istore 9, 2) := by decide +kernel
theorem dX11_mend_104 : decode cX11_mend 104 = .ok (.iconst 0, 1) := by decide +kernel
theorem dX11_mend_105 : decode cX11_mend 105 = .ok (.istore 10, 2) := by decide +kernel
theorem dX11_mend_107 : decode cX11_mend 107 = .ok (.iload 10, 2) := by decide +kernel
theorem dX11_mend_109 : decode cX11_mend 109 = .ok (.bipush 54, 2) := by decide +kernel
theorem dX11_mend_111 : decode cX11_mend 111 = .ok (.if_icmp .ge 189, 3) := by decide +kernel
theorem dX11_mend_114 : decode cX11_mend 114 = .ok (.iload 10, 2) := by decide +kernel
theorem dX11_mend_116 : decode cX11_mend 116 = .ok (.bipush 9, 2) := by decide +kernel
theorem dX11_mend_118 : decode cX11_mend 118 = .ok (.irem, 1) := by decide +kernel
theorem dX11_mend_119 : decode cX11_mend 119 = .ok (.iconst 1, 1) := by decide +kernel
theorem dX11_mend_120 : decode cX11_mend 120 = .ok (.isub, 1) := by decide +kernel
theorem dX11_mend_121 : decode cX11_mend 121 = .ok (.istore 11, 2) := by decide +kernel
theorem dX11_mend_123 : decode cX11_mend 123 = .ok (.iload 5, 2) := by decide +kernel
theorem dX11_mend_125 : decode cX11_mend 125 = .ok (.ifCond .ge 16, 3) := by decide +kernel
theorem dX11_mend_128 : decode cX11_mend 128 = .ok (.iload 10, 2) := by decide +kernel
theorem dX11_mend_130 : decode cX11_mend 130 = .ok (.bipush 18, 2) := by decide +kernel
theorem dX11_mend_132 : decode cX11_mend 132 = .ok (.idiv, 1) := by decide +kernel
theorem dX11_mend_133 : decode cX11_mend 133 = .ok (.invokestatic 298, 3) := by decide +kernel
theorem dX11_mend_136 : decode cX11_mend 136 = .ok (.iload 4, 2) := by decide +kernel
theorem dX11_mend_138 : decode cX11_mend 138 = .ok (.if_icmp .eq 7, 3) := by decide +kernel
theorem dX11_mend_141 : decode cX11_mend 141 = .ok (.iconst 1, 1) := by decide +kernel
theorem dX11_mend_142 : decode cX11_mend 142 = .ok (.goto 4, 3) := by decide +kernel
theorem dX11_mend_145 : decode cX11_mend 145 = .ok (.iconst 0, 1) := by decide +kernel
theorem dX11_mend_146 : decode cX11_mend 146 = .ok (.iload 10, 2) := by decide +kernel
theorem dX11_mend_148 : decode cX11_mend 148 = .ok (.bipush 9, 2) := by decide +kernel
theorem dX11_mend_150 : decode cX11_mend 150 = .ok (.idiv, 1) := by decide +kernel
theorem dX11_mend_151 : decode cX11_mend 151 = .ok (.iconst 2, 1) := by decide +kernel
theorem dX11_mend_152 : decode cX11_mend 152 = .ok (.irem, 1) := by decide +kernel
theorem dX11_mend_153 : decode cX11_mend 153 = .ok (.iload 6, 2) := by decide +kernel
theorem dX11_mend_155 : decode cX11_mend 155 = .ok (.if_icmp .eq 7, 3) := by decide +kernel
theorem dX11_mend_158 : decode cX11_mend 158 = .ok (.iconst 1, 1) := by decide +kernel
theorem dX11_mend_159 : decode cX11_mend 159 = .ok (.goto 4, 3) := by decide +kernel
theorem dX11_mend_162 : decode cX11_mend 162 = .ok (.iconst 0, 1) := by decide +kernel
theorem dX11_mend_163 : decode cX11_mend 163 = .ok (.iadd, 1) := by decide +kernel
theorem dX11_mend_164 : decode cX11_mend 164 = .ok (.iload 11, 2) := by decide +kernel
theorem dX11_mend_166 : decode cX11_mend 166 = .ok (.ifCond .lt 7, 3) := by decide +kernel
theorem dX11_mend_169 : decode cX11_mend 169 = .ok (.iconst 1, 1) := by decide +kernel
theorem dX11_mend_170 : decode cX11_mend 170 = .ok (.goto 4, 3) := by decide +kernel
theorem dX11_mend_173 : decode cX11_mend 173 = .ok (.iconst 0, 1) := by decide +kernel
theorem dX11_mend_174 : decode cX11_mend 174 = .ok (.iadd, 1) := by decide +kernel
theorem dX11_mend_175 : decode cX11_mend 175 = .ok (.istore 12, 2) := by decide +kernel
theorem dX11_mend_177 : decode cX11_mend 177 = .ok (.iload 12, 2) := by decide +kernel
theorem dX11_mend_179 : decode cX11_mend 179 = .ok (.iload 9, 2) := by decide +kernel
theorem dX11_mend_181 : decode cX11_mend 181 = .ok (.if_icmp .ge 31, 3) := by decide +kernel
theorem dX11_mend_184 : decode cX11_mend 184 = .ok (.iload 11, 2) := by decide +kernel
theorem dX11_mend_186 : decode cX11_mend 186 = .ok (.ifCond .lt 22, 3) := by decide +kernel
theorem dX11_mend_189 : decode cX11_mend 189 = .ok (.aload_n 0, 1) := by decide +kernel
theorem dX11_mend_190 : decode cX11_mend 190 = .ok (.iload 11, 2) := by decide +kernel
theorem dX11_mend_192 : decode cX11_mend 192 = .ok (.invokevirtual 169, 3) := by decide +kernel
theorem dX11_mend_195 : decode cX11_mend 195 = .ok (.ifCond .eq 17, 3) := by decide +kernel
theorem dX11_mend_198 : decode cX11_mend 198 = .ok (.iload 7, 2) := by decide +kernel
theorem dX11_mend_200 : decode cX11_mend 200 = .ok (.iload 11, 2) := by decide +kernel
theorem dX11_mend_202 : decode cX11_mend 202 = .ok (.ishr, 1) := by decide +kernel
theorem dX11_mend_203 : decode cX11_mend 203 = .ok (.iconst 1, 1) := by decide +kernel
theorem dX11_mend_204 : decode cX11_mend 204 = .ok (.iand, 1) := by decide +kernel
theorem dX11_mend_205 : decode cX11_mend 205 = .ok (.ifCond .ne 7, 3) := by decide +kernel
theorem dX11_mend_208 : decode cX11_mend 208 = .ok (.iconst 1, 1) := by decide +kernel
theorem dX11_mend_209 : decode cX11_mend 209 = .ok (.goto 4, 3) := by decide +kernel
theorem dX11_mend_212 : decode cX11_mend 212 = .ok (.iconst 0, 1) := by decide +kernel
theorem dX11_mend_213 : decode cX11_mend 213 = .ok (.istore 13, 2) := by decide +kernel
theorem dX11_mend_215 : decode cX11_mend 215 = .ok (.iload 13, 2) := by decide +kernel
theorem dX11_mend_217 : decode cX11_mend 217 = .ok (.ifCond .eq 77, 3) := by decide +kernel
theorem dX11_mend_220 : decode cX11_mend 220 = .ok (.aload_n 0, 1) := by decide +kernel
theorem dX11_mend_221 : decode cX11_mend 221 = .ok (.getfield 28, 3) := by decide +kernel
theorem dX11_mend_224 : decode cX11_mend 224 = .ok (.iload_n 1, 1) := by decide +kernel
theorem dX11_mend_225 : decode cX11_mend 225 = .ok (.iload 10, 2) := by decide +kernel
theorem dX11_mend_227 : decode cX11_mend 227 = .ok (.bipush 18, 2) := by decide +kernel
theorem dX11_mend_229 : decode cX11_mend 229 = .ok (.idiv, 1) := by decide +kernel
theorem dX11_mend_230 : decode cX11_mend 230 = .ok (.invokestatic 298, 3) := by decide +kernel
theorem dX11_mend_233 : decode cX11_mend 233 = .ok (.iastore, 1) := by decide +kernel
theorem dX11_mend_234 : decode cX11_mend 234 = .ok (.aload_n 0, 1) := by decide +kernel
theorem dX11_mend_235 : decode cX11_mend 235 = .ok (.getfield 31, 3) := by decide +kernel
theorem dX11_mend_238 : decode cX11_mend 238 = .ok (.iload_n 1, 1) := by decide +kernel
theorem dX11_mend_239 : decode cX11_mend 239 = .ok (.bipush (-6), 2) := by decide +kernel
theorem dX11_mend_241 : decode cX11_mend 241 = .ok (.iastore, 1) := by decide +kernel
theorem dX11_mend_242 : decode cX11_mend 242 = .ok (.aload_n 0, 1) := by decide +kernel
theorem dX11_mend_243 : decode cX11_mend 243 = .ok (.getfield 34, 3) := by decide +kernel
theorem dX11_mend_246 : decode cX11_mend 246 = .ok (.iload_n 1, 1) := by decide +kernel
theorem dX11_mend_247 : decode cX11_mend 247 = .ok (.iload 10, 2) := by decide +kernel
theorem dX11_mend_249 : decode cX11_mend 249 = .ok (.bipush 9, 2) := by decide +kernel
theorem dX11_mend_251 : decode cX11_mend 251 = .ok (.idiv, 1) := by decide +kernel
theorem dX11_mend_252 : decode cX11_mend 252 = .ok (.iconst 2, 1) := by decide +kernel
theorem dX11_mend_253 : decode cX11_mend 253 = .ok (.irem, 1) := by decide +kernel
theorem dX11_mend_254 : decode cX11_mend 254 = .ok (.iastore, 1) := by decide +kernel
theorem dX11_mend_255 : decode cX11_mend 255 = .ok (.aload_n 0, 1) := by decide +kernel
theorem dX11_mend_256 : decode cX11_mend 256 = .ok (.getfield 46, 3) := by decide +kernel
theorem dX11_mend_259 : decode cX11_mend 259 = .ok (.iload_n 1, 1) := by decide +kernel
theorem dX11_mend_260 : decode cX11_mend 260 = .ok (.iload 11, 2) := by decide +kernel
theorem dX11_mend_262 : decode cX11_mend 262 = .ok (.ifCond .ge 8, 3) := by decide +kernel
theorem dX11_mend_265 : decode cX11_mend 265 = .ok (.iload 7, 2) := by decide +kernel
theorem dX11_mend_267 : decode cX11_mend 267 = .ok (.goto 10, 3) := by decide +kernel
theorem dX11_mend_270 : decode cX11_mend 270 = .ok (.iload 7, 2) := by decide +kernel
theorem dX11_mend_272 : decode cX11_mend 272 = .ok (.iconst 1, 1) := by decide +kernel
theorem dX11_mend_273 : decode cX11_mend 273 = .ok (.iload 11, 2) := by decide +kernel
theorem dX11_mend_275 : decode cX11_mend 275 = .ok (.ishl, 1) := by decide +kernel
theorem dX11_mend_276 : decode cX11_mend 276 = .ok (.ior, 1) := by decide +kernel
theorem dX11_mend_277 : decode cX11_mend 277 = .ok (.iastore, 1) := by decide +kernel
theorem dX11_mend_278 : decode cX11_mend 278 = .ok (.aload_n 0, 1) := by decide +kernel
theorem dX11_mend_279 : decode cX11_mend 279 = .ok (.iload_n 2, 1) := by decide +kernel
theorem dX11_mend_280 : decode cX11_mend 280 = .ok (.invokevirtual 301, 3) := by decide +kernel
theorem dX11_mend_283 : decode cX11_mend 283 = .ok (.ifCond .eq 11, 3) := by decide +kernel
theorem dX11_mend_286 : decode cX11_mend 286 = .ok (.iload 10, 2) := by decide +kernel
theorem dX11_mend_288 : decode cX11_mend 288 = .ok (.istore 8, 2) := by decide +kernel
theorem dX11_mend_290 : decode cX11_mend 290 = .ok (.iload 12, 2) := by decide +kernel
theorem dX11_mend_292 : decode cX11_mend 292 = .ok (.istore 9, 2) := by decide +kernel
theorem dX11_mend_294 : decode cX11_mend 294 = .ok (.iinc 10 1, 3) := by decide +kernel
theorem dX11_mend_297 : decode cX11_mend 297 = .ok (.goto (-190), 3) := by decide +kernel
theorem dX11_mend_300 : decode cX11_mend 300 = .ok (.aload_n 0, 1) := by decide +kernel
theorem dX11_mend_301 : decode cX11_mend 301 = .ok (.getfield 28, 3) := by decide +kernel
theorem dX11_mend_304 : decode cX11_mend 304 = .ok (.iload_n 1, 1) := by decide +kernel
theorem dX11_mend_305 : decode cX11_mend 305 = .ok (.iload 4, 2) := by decide +kernel
theorem dX11_mend_307 : decode cX11_mend 307 = .ok (.iastore, 1) := by decide +kernel
theorem dX11_mend_308 : decode cX11_mend 308 = .ok (.aload_n 0, 1) := by decide +kernel
theorem dX11_mend_309 : decode cX11_mend 309 = .ok (.getfield 31, 3) := by decide +kernel
theorem dX11_mend_312 : decode cX11_mend 312 = .ok (.iload_n 1, 1) := by decide +kernel
theorem dX11_mend_313 : decode cX11_mend 313 = .ok (.iload 5, 2) := by decide +kernel
theorem dX11_mend_315 : decode cX11_mend 315 = .ok (.iastore, 1) := by decide +kernel
theorem dX11_mend_316 : decode cX11_mend 316 = .ok (.aload_n 0, 1) := by decide +kernel
theorem dX11_mend_317 : decode cX11_mend 317 = .ok (.getfield 34, 3) := by decide +kernel
theorem dX11_mend_320 : decode cX11_mend 320 = .ok (.iload_n 1, 1) := by decide +kernel
theorem dX11_mend_321 : decode cX11_mend 321 = .ok (.iload 6, 2) := by decide +kernel
theorem dX11_mend_323 : decode cX11_mend 323 = .ok (.iastore, 1) := by decide +kernel
theorem dX11_mend_324 : decode cX11_mend 324 = .ok (.aload_n 0, 1) := by decide +kernel
theorem dX11_mend_325 : decode cX11_mend 325 = .ok (.getfield 46, 3) := by decide +kernel
theorem dX11_mend_328 : decode cX11_mend 328 = .ok (.iload_n 1, 1) := by decide +kernel
theorem dX11_mend_329 : decode cX11_mend 329 = .ok (.iload 7, 2) := by decide +kernel
theorem dX11_mend_331 : decode cX11_mend 331 = .ok (.iastore, 1) := by decide +kernel
theorem dX11_mend_332 : decode cX11_mend 332 = .ok (.iload 8, 2) := by decide +kernel
theorem dX11_mend_334 : decode cX11_mend 334 = .ok (.ifCond .ge 6, 3) := by decide +kernel
theorem dX11_mend_337 : decode cX11_mend 337 = .ok (.bipush (-5), 2) := by decide +kernel
theorem dX11_mend_339 : decode cX11_mend 339 = .ok (.ireturn, 1) := by decide +kernel
theorem dX11_mend_340 : decode cX11_mend 340 = .ok (.iload 8, 2) := by decide +kernel
theorem dX11_mend_342 : decode cX11_mend 342 = .ok (.bipush 9, 2) := by decide +kernel
theorem dX11_mend_344 : decode cX11_mend 344 = .ok (.irem, 1) := by decide +kernel
theorem dX11_mend_345 : decode cX11_mend 345 = .ok (.iconst 1, 1) := by decide +kernel
theorem dX11_mend_346 : decode cX11_mend 346 = .ok (.isub, 1) := by decide +kernel
theorem dX11_mend_347 : decode cX11_mend 347 = .ok (.istore 10, 2) := by decide +kernel
theorem dX11_mend_349 : decode cX11_mend 349 = .ok (.iload_n 3, 1) := by decide +kernel
theorem dX11_mend_350 : decode cX11_mend 350 = .ok (.ifCond .ne 8, 3) := by decide +kernel
theorem dX11_mend_353 : decode cX11_mend 353 = .ok (.iload 9, 2) := by decide +kernel
theorem dX11_mend_355 : decode cX11_mend 355 = .ok (.goto 46, 3) := by decide +kernel
theorem dX11_mend_358 : decode cX11_mend 358 = .ok (.iload_n 3, 1) := by decide +kernel
theorem dX11_mend_359 : decode cX11_mend 359 = .ok (.iconst 1, 1) := by decide +kernel
theorem dX11_mend_360 : decode cX11_mend 360 = .ok (.if_icmp .ne 14, 3) := by decide +kernel
theorem dX11_mend_363 : decode cX11_mend 363 = .ok (.iload 8, 2) := by decide +kernel
theorem dX11_mend_365 : decode cX11_mend 365 = .ok (.bipush 18, 2) := by decide +kernel
theorem dX11_mend_367 : decode cX11_mend 367 = .ok (.idiv, 1) := by decide +kernel
theorem dX11_mend_368 : decode cX11_mend 368 = .ok (.invokestatic 298, 3) := by decide +kernel
theorem dX11_mend_371 : decode cX11_mend 371 = .ok (.goto 30, 3) := by decide +kernel
theorem dX11_mend_374 : decode cX11_mend 374 = .ok (.iload_n 3, 1) := by decide +kernel
theorem dX11_mend_375 : decode cX11_mend 375 = .ok (.iconst 2, 1) := by decide +kernel
theorem dX11_mend_376 : decode cX11_mend 376 = .ok (.if_icmp .ne 13, 3) := by decide +kernel
theorem dX11_mend_379 : decode cX11_mend 379 = .ok (.iload 8, 2) := by decide +kernel
theorem dX11_mend_381 : decode cX11_mend 381 = .ok (.bipush 9, 2) := by decide +kernel
theorem dX11_mend_383 : decode cX11_mend 383 = .ok (.idiv, 1) := by decide +kernel
theorem dX11_mend_384 : decode cX11_mend 384 = .ok (.iconst 2, 1) := by decide +kernel
theorem dX11_mend_385 : decode cX11_mend 385 = .ok (.irem, 1) := by decide +kernel
theorem dX11_mend_386 : decode cX11_mend 386 = .ok (.goto 15, 3) := by decide +kernel
theorem dX11_mend_389 : decode cX11_mend 389 = .ok (.iload 10, 2) := by decide +kernel
theorem dX11_mend_391 : decode cX11_mend 391 = .ok (.ifCond .ge 8, 3) := by decide +kernel
theorem dX11_mend_394 : decode cX11_mend 394 = .ok (.bipush (-6), 2) := by decide +kernel
theorem dX11_mend_396 : decode cX11_mend 396 = .ok (.goto 5, 3) := by decide +kernel
theorem dX11_mend_399 : decode cX11_mend 399 = .ok (.iload 10, 2) := by decide +kernel
theorem dX11_mend_401 : decode cX11_mend 401 = .ok (.ireturn, 1) := by decide +kernel
theorem dX11_all_0 : decode cX11_all 0 = .ok (.iload_n 1, 1) := by decide +kernel
theorem dX11_all_1 : decode cX11_all 1 = .ok (.invokestatic 156, 3) := by decide +kernel
theorem dX11_all_4 : decode cX11_all 4 = .ok (.ifCond .eq 13, 3) := by decide +kernel
theorem dX11_all_7 : decode cX11_all 7 = .ok (.iload_n 2, 1) := by decide +kernel
theorem dX11_all_8 : decode cX11_all 8 = .ok (.i2l, 1) := by decide +kernel
theorem dX11_all_9 : decode cX11_all 9 = .ok (.lconst 0, 1) := by decide +kernel
theorem dX11_all_10 : decode cX11_all 10 = .ok (.lconst 1, 1) := by decide +kernel
theorem dX11_all_11 : decode cX11_all 11 = .ok (.invokestatic 86, 3) := by decide +kernel
theorem dX11_all_14 : decode cX11_all 14 = .ok (.ifCond .ne 6, 3) := by decide +kernel
theorem dX11_all_17 : decode cX11_all 17 = .ok (.bipush (-2), 2) := by decide +kernel
theorem dX11_all_19 : decode cX11_all 19 = .ok (.ireturn, 1) := by decide +kernel
theorem dX11_all_20 : decode cX11_all 20 = .ok (.aload_n 0, 1) := by decide +kernel
theorem dX11_all_21 : decode cX11_all 21 = .ok (.invokevirtual 284, 3) := by decide +kernel
theorem dX11_all_24 : decode cX11_all 24 = .ok (.iconst 0, 1) := by decide +kernel
theorem dX11_all_25 : decode cX11_all 25 = .ok (.istore_n 3, 1) := by decide +kernel
theorem dX11_all_26 : decode cX11_all 26 = .ok (.iload_n 3, 1) := by decide +kernel
theorem dX11_all_27 : decode cX11_all 27 = .ok (.iload_n 1, 1) := by decide +kernel
theorem dX11_all_28 : decode cX11_all 28 = .ok (.if_icmp .gt 72, 3) := by decide +kernel
theorem dX11_all_31 : decode cX11_all 31 = .ok (.iconst 0, 1) := by decide +kernel
theorem dX11_all_32 : decode cX11_all 32 = .ok (.istore 4, 2) := by decide +kernel
theorem dX11_all_34 : decode cX11_all 34 = .ok (.iload 4, 2) := by decide +kernel
theorem dX11_all_36 : decode cX11_all 36 = .ok (.bipush 31, 2) := by decide +kernel
theorem dX11_all_38 : decode cX11_all 38 = .ok (.if_icmp .gt 56, 3) := by decide +kernel
theorem dX11_all_41 : decode cX11_all 41 = .ok (.aload_n 0, 1) := by decide +kernel
theorem dX11_all_42 : decode cX11_all 42 = .ok (.bipush 8, 2) := by decide +kernel
theorem dX11_all_44 : decode cX11_all 44 = .ok (.iload_n 3, 1) := by decide +kernel
theorem dX11_all_45 : decode cX11_all 45 = .ok (.iload 4, 2) := by decide +kernel
theorem dX11_all_47 : decode cX11_all 47 = .ok (.invokevirtual 195, 3) := by decide +kernel
theorem dX11_all_50 : decode cX11_all 50 = .ok (.iload_n 2, 1) := by decide +kernel
theorem dX11_all_51 : decode cX11_all 51 = .ok (.iconst 1, 1) := by decide +kernel
theorem dX11_all_52 : decode cX11_all 52 = .ok (.if_icmp .ne 21, 3) := by decide +kernel
theorem dX11_all_55 : decode cX11_all 55 = .ok (.aload_n 0, 1) := by decide +kernel
theorem dX11_all_56 : decode cX11_all 56 = .ok (.bipush 8, 2) := by decide +kernel
theorem dX11_all_58 : decode cX11_all 58 = .ok (.iload_n 1, 1) := by decide +kernel
theorem dX11_all_59 : decode cX11_all 59 = .ok (.invokevirtual 240, 3) := by decide +kernel
theorem dX11_all_62 : decode cX11_all 62 = .ok (.ifCond .ge 11, 3) := by decide +kernel
theorem dX11_all_65 : decode cX11_all 65 = .ok (.bipush 100, 2) := by decide +kernel
theorem dX11_all_67 : decode cX11_all 67 = .ok (.iload_n 3, 1) := by decide +kernel
theorem dX11_all_68 : decode cX11_all 68 = .ok (.imul, 1) := by decide +kernel
theorem dX11_all_69 : decode cX11_all 69 = .ok (.iload 4, 2) := by decide +kernel
theorem dX11_all_71 : decode cX11_all 71 = .ok (.iadd, 1) := by decide +kernel
theorem dX11_all_72 : decode cX11_all 72 = .ok (.ireturn, 1) := by decide +kernel
theorem dX11_all_73 : decode cX11_all 73 = .ok (.iload_n 2, 1) := by decide +kernel
theorem dX11_all_74 : decode cX11_all 74 = .ok (.ifCond .ne 14, 3) := by decide +kernel
theorem dX11_all_77 : decode cX11_all 77 = .ok (.aload_n 0, 1) := by decide +kernel
theorem dX11_all_78 : decode cX11_all 78 = .ok (.aload_n 0, 1) := by decide +kernel
theorem dX11_all_79 : decode cX11_all 79 = .ok (.bipush 8, 2) := by decide +kernel
theorem dX11_all_81 : decode cX11_all 81 = .ok (.iload_n 1, 1) := by decide +kernel
theorem dX11_all_82 : decode cX11_all 82 = .ok (.invokevirtual 254, 3) := by decide +kernel
theorem dX11_all_85 : decode cX11_all 85 = .ok (.invokevirtual 290, 3) := by decide +kernel
theorem dX11_all_88 : decode cX11_all 88 = .ok (.iinc 4 1, 3) := by decide +kernel
theorem dX11_all_91 : decode cX11_all 91 = .ok (.goto (-57), 3) := by decide +kernel
theorem dX11_all_94 : decode cX11_all 94 = .ok (.iinc 3 1, 3) := by decide +kernel
theorem dX11_all_97 : decode cX11_all 97 = .ok (.goto (-71), 3) := by decide +kernel
theorem dX11_all_100 : decode cX11_all 100 = .ok (.iload_n 2, 1) := by decide +kernel
theorem dX11_all_101 : decode cX11_all 101 = .ok (.ifCond .ne 10, 3) := by decide +kernel
theorem dX11_all_104 : decode cX11_all 104 = .ok (.aload_n 0, 1) := by decide +kernel
theorem dX11_all_105 : decode cX11_all 105 = .ok (.invokevirtual 293, 3) := by decide +kernel
theorem dX11_all_108 : decode cX11_all 108 = .ok (.goto 5, 3) := by decide +kernel
theorem dX11_all_111 : decode cX11_all 111 = .ok (.bipush (-6), 2) := by decide +kernel
theorem dX11_all_113 : decode cX11_all 113 = .ok (.ireturn, 1) := by decide +kernel
theorem dX11_pass_0 : decode cX11_pass 0 = .ok (.aload_n 0, 1) := by decide +kernel
theorem dX11_pass_1 : decode cX11_pass 1 = .ok (.getfield 304, 3) := by decide +kernel
theorem dX11_pass_4 : decode cX11_pass 4 = .ok (.ifCond .eq 7, 3) := by decide +kernel
theorem dX11_pass_7 : decode cX11_pass 7 = .ok (.iload_n 1, 1) := by decide +kernel
theorem dX11_pass_8 : decode cX11_pass 8 = .ok (.goto 12, 3) := by decide +kernel
theorem dX11_pass_11 : decode cX11_pass 11 = .ok (.aload_n 0, 1) := by decide +kernel
theorem dX11_pass_12 : decode cX11_pass 12 = .ok (.getfield 78, 3) := by decide +kernel
theorem dX11_pass_15 : decode cX11_pass 15 = .ok (.aload_n 0, 1) := by decide +kernel
theorem dX11_pass_16 : decode cX11_pass 16 = .ok (.getfield 307, 3) := by decide +kernel
theorem dX11_pass_19 : decode cX11_pass 19 = .ok (.iaload, 1) := by decide +kernel
theorem dX11_pass_20 : decode cX11_pass 20 = .ok (.istore_n 2, 1) := by decide +kernel
theorem dX11_pass_21 : decode cX11_pass 21 = .ok (.aload_n 0, 1) := by decide +kernel
theorem dX11_pass_22 : decode cX11_pass 22 = .ok (.getfield 78, 3) := by decide +kernel
theorem dX11_pass_25 : decode cX11_pass 25 = .ok (.aload_n 0, 1) := by decide +kernel
theorem dX11_pass_26 : decode cX11_pass 26 = .ok (.getfield 307, 3) := by decide +kernel
theorem dX11_pass_29 : decode cX11_pass 29 = .ok (.iload_n 2, 1) := by decide +kernel
theorem dX11_pass_30 : decode cX11_pass 30 = .ok (.iastore, 1) := by decide +kernel
theorem dX11_pass_31 : decode cX11_pass 31 = .ok (.aload_n 0, 1) := by decide +kernel
theorem dX11_pass_32 : decode cX11_pass 32 = .ok (.dup, 1) := by decide +kernel
theorem dX11_pass_33 : decode cX11_pass 33 = .ok (.getfield 307, 3) := by decide +kernel
theorem dX11_pass_36 : decode cX11_pass 36 = .ok (.iconst 1, 1) := by decide +kernel
theorem dX11_pass_37 : decode cX11_pass 37 = .ok (.iadd, 1) := by decide +kernel
theorem dX11_pass_38 : decode cX11_pass 38 = .ok (.putfield 307, 3) := by decide +kernel
theorem dX11_pass_41 : decode cX11_pass 41 = .ok (.iload_n 2, 1) := by decide +kernel
theorem dX11_pass_42 : decode cX11_pass 42 = .ok (.ireturn, 1) := by decide +kernel
theorem dX11_passAll_0 : decode cX11_passAll 0 = .ok (.aload_n 0, 1) := by decide +kernel
theorem dX11_passAll_1 : decode cX11_passAll 1 = .ok (.aload_n 0, 1) := by decide +kernel
theorem dX11_passAll_2 : decode cX11_passAll 2 = .ok (.aload_n 0, 1) := by decide +kernel
theorem dX11_passAll_3 : decode cX11_passAll 3 = .ok (.getfield 149, 3) := by decide +kernel
theorem dX11_passAll_6 : decode cX11_passAll 6 = .ok (.invokevirtual 310, 3) := by decide +kernel
theorem dX11_passAll_9 : decode cX11_passAll 9 = .ok (.putfield 149, 3) := by decide +kernel
theorem dX11_passAll_12 : decode cX11_passAll 12 = .ok (.aload_n 0, 1) := by decide +kernel
theorem dX11_passAll_13 : decode cX11_passAll 13 = .ok (.aload_n 0, 1) := by decide +kernel
theorem dX11_passAll_14 : decode cX11_passAll 14 = .ok (.aload_n 0, 1) := by decide +kernel
theorem dX11_passAll_15 : decode cX11_passAll 15 = .ok (.getfield 190, 3) := by decide +kernel
theorem dX11_passAll_18 : decode cX11_passAll 18 = .ok (.invokevirtual 310, 3) := by decide +kernel
theorem dX11_passAll_21 : decode cX11_passAll 21 = .ok (.putfield 190, 3) := by decide +kernel
theorem dX11_passAll_24 : decode cX11_passAll 24 = .ok (.aload_n 0, 1) := by decide +kernel
theorem dX11_passAll_25 : decode cX11_passAll 25 = .ok (.aload_n 0, 1) := by decide +kernel
theorem dX11_passAll_26 : decode cX11_passAll 26 = .ok (.aload_n 0, 1) := by decide +kernel
theorem dX11_passAll_27 : decode cX11_passAll 27 = .ok (.getfield 201, 3) := by decide +kernel
theorem dX11_passAll_30 : decode cX11_passAll 30 = .ok (.invokevirtual 310, 3) := by decide +kernel
theorem dX11_passAll_33 : decode cX11_passAll 33 = .ok (.putfield 201, 3) := by decide +kernel
theorem dX11_passAll_36 : decode cX11_passAll 36 = .ok (.aload_n 0, 1) := by decide +kernel
theorem dX11_passAll_37 : decode cX11_passAll 37 = .ok (.aload_n 0, 1) := by decide +kernel
theorem dX11_passAll_38 : decode cX11_passAll 38 = .ok (.aload_n 0, 1) := by decide +kernel
theorem dX11_passAll_39 : decode cX11_passAll 39 = .ok (.getfield 204, 3) := by decide +kernel
theorem dX11_passAll_42 : decode cX11_passAll 42 = .ok (.invokevirtual 310, 3) := by decide +kernel
theorem dX11_passAll_45 : decode cX11_passAll 45 = .ok (.putfield 204, 3) := by decide +kernel
theorem dX11_passAll_48 : decode cX11_passAll 48 = .ok (.aload_n 0, 1) := by decide +kernel
theorem dX11_passAll_49 : decode cX11_passAll 49 = .ok (.aload_n 0, 1) := by decide +kernel
theorem dX11_passAll_50 : decode cX11_passAll 50 = .ok (.aload_n 0, 1) := by decide +kernel
theorem dX11_passAll_51 : decode cX11_passAll 51 = .ok (.getfield 207, 3) := by decide +kernel
theorem dX11_passAll_54 : decode cX11_passAll 54 = .ok (.invokevirtual 310, 3) := by decide +kernel
theorem dX11_passAll_57 : decode cX11_passAll 57 = .ok (.putfield 207, 3) := by decide +kernel
theorem dX11_passAll_60 : decode cX11_passAll 60 = .ok (.iconst 0, 1) := by decide +kernel
theorem dX11_passAll_61 : decode cX11_passAll 61 = .ok (.istore_n 1, 1) := by decide +kernel
theorem dX11_passAll_62 : decode cX11_passAll 62 = .ok (.iload_n 1, 1) := by decide +kernel
theorem dX11_passAll_63 : decode cX11_passAll 63 = .ok (.bipush 8, 2) := by decide +kernel
theorem dX11_passAll_65 : decode cX11_passAll 65 = .ok (.if_icmp .ge 169, 3) := by decide +kernel
theorem dX11_passAll_68 : decode cX11_passAll 68 = .ok (.aload_n 0, 1) := by decide +kernel
theorem dX11_passAll_69 : decode cX11_passAll 69 = .ok (.getfield 13, 3) := by decide +kernel
theorem dX11_passAll_72 : decode cX11_passAll 72 = .ok (.iload_n 1, 1) := by decide +kernel
theorem dX11_passAll_73 : decode cX11_passAll 73 = .ok (.aload_n 0, 1) := by decide +kernel
theorem dX11_passAll_74 : decode cX11_passAll 74 = .ok (.aload_n 0, 1) := by decide +kernel
theorem dX11_passAll_75 : decode cX11_passAll 75 = .ok (.getfield 13, 3) := by decide +kernel
theorem dX11_passAll_78 : decode cX11_passAll 78 = .ok (.iload_n 1, 1) := by decide +kernel
theorem dX11_passAll_79 : decode cX11_passAll 79 = .ok (.iaload, 1) := by decide +kernel
theorem dX11_passAll_80 : decode cX11_passAll 80 = .ok (.invokevirtual 310, 3) := by decide +kernel
theorem dX11_passAll_83 : decode cX11_passAll 83 = .ok (.iastore, 1) := by decide +kernel
theorem dX11_passAll_84 : decode cX11_passAll 84 = .ok (.aload_n 0, 1) := by decide +kernel
theorem dX11_passAll_85 : decode cX11_passAll 85 = .ok (.getfield 16, 3) := by decide +kernel
theorem dX11_passAll_88 : decode cX11_passAll 88 = .ok (.iload_n 1, 1) := by decide +kernel
theorem dX11_passAll_89 : decode cX11_passAll 89 = .ok (.aload_n 0, 1) := by decide +kernel
theorem dX11_passAll_90 : decode cX11_passAll 90 = .ok (.aload_n 0, 1) := by decide +kernel
theorem dX11_passAll_91 : decode cX11_passAll 91 = .ok (.getfield 16, 3) := by decide +kernel
theorem dX11_passAll_94 : decode cX11_passAll 94 = .ok (.iload_n 1, 1) := by decide +kernel
theorem dX11_passAll_95 : decode cX11_passAll 95 = .ok (.iaload, 1) := by decide +kernel
theorem dX11_passAll_96 : decode cX11_passAll 96 = .ok (.invokevirtual 310, 3) := by decide +kernel
theorem dX11_passAll_99 : decode cX11_passAll 99 = .ok (.iastore, 1) := by decide +kernel
theorem dX11_passAll_100 : decode cX11_passAll 100 = .ok (.aload_n 0, 1) := by decide +kernel
theorem dX11_passAll_101 : decode cX11_passAll 101 = .ok (.getfield 19, 3) := by decide +kernel
theorem dX11_passAll_104 : decode cX11_passAll 104 = .ok (.iload_n 1, 1) := by decide +kernel
theorem dX11_passAll_105 : decode cX11_passAll 105 = .ok (.aload_n 0, 1) := by decide +kernel
theorem dX11_passAll_106 : decode cX11_passAll 106 = .ok (.aload_n 0, 1) := by decide +kernel
theorem dX11_passAll_107 : decode cX11_passAll 107 = .ok (.getfield 19, 3) := by decide +kernel
theorem dX11_passAll_110 : decode cX11_passAll 110 = .ok (.iload_n 1, 1) := by decide +kernel
theorem dX11_passAll_111 : decode cX11_passAll 111 = .ok (.iaload, 1) := by decide +kernel
theorem dX11_passAll_112 : decode cX11_passAll 112 = .ok (.invokevirtual 310, 3) := by decide +kernel
theorem dX11_passAll_115 : decode cX11_passAll 115 = .ok (.iastore, 1) := by decide +kernel
theorem dX11_passAll_116 : decode cX11_passAll 116 = .ok (.aload_n 0, 1) := by decide +kernel
theorem dX11_passAll_117 : decode cX11_passAll 117 = .ok (.getfield 28, 3) := by decide +kernel
theorem dX11_passAll_120 : decode cX11_passAll 120 = .ok (.iload_n 1, 1) := by decide +kernel
theorem dX11_passAll_121 : decode cX11_passAll 121 = .ok (.aload_n 0, 1) := by decide +kernel
theorem dX11_passAll_122 : decode cX11_passAll 122 = .ok (.aload_n 0, 1) := by decide +kernel
theorem dX11_passAll_123 : decode cX11_passAll 123 = .ok (.getfield 28, 3) := by decide +kernel
theorem dX11_passAll_126 : decode cX11_passAll 126 = .ok (.iload_n 1, 1) := by decide +kernel
theorem dX11_passAll_127 : decode cX11_passAll 127 = .ok (.iaload, 1) := by decide +kernel
theorem dX11_passAll_128 : decode cX11_passAll 128 = .ok (.invokevirtual 310, 3) := by decide +kernel
theorem dX11_passAll_131 : decode cX11_passAll 131 = .ok (.iastore, 1) := by decide +kernel
theorem dX11_passAll_132 : decode cX11_passAll 132 = .ok (.aload_n 0, 1) := by decide +kernel
theorem dX11_passAll_133 : decode cX11_passAll 133 = .ok (.getfield 31, 3) := by decide +kernel
theorem dX11_passAll_136 : decode cX11_passAll 136 = .ok (.iload_n 1, 1) := by decide +kernel
theorem dX11_passAll_137 : decode cX11_passAll 137 = .ok (.aload_n 0, 1) := by decide +kernel
theorem dX11_passAll_138 : decode cX11_passAll 138 = .ok (.aload_n 0, 1) := by decide +kernel
theorem dX11_passAll_139 : decode cX11_passAll 139 = .ok (.getfield 31, 3) := by decide +kernel
theorem dX11_passAll_142 : decode cX11_passAll 142 = .ok (.iload_n 1, 1) := by decide +kernel
theorem dX11_passAll_143 : decode cX11_passAll 143 = .ok (.iaload, 1) := by decide +kernel
theorem dX11_passAll_144 : decode cX11_passAll 144 = .ok (.invokevirtual 310, 3) := by decide +kernel
theorem dX11_passAll_147 : decode cX11_passAll 147 = .ok (.iastore, 1) := by decide +kernel
theorem dX11_passAll_148 : decode cX11_passAll 148 = .ok (.aload_n 0, 1) := by decide +kernel
theorem dX11_passAll_149 : decode cX11_passAll 149 = .ok (.getfield 34, 3) := by decide +kernel
theorem dX11_passAll_152 : decode cX11_passAll 152 = .ok (.iload_n 1, 1) := by decide +kernel
theorem dX11_passAll_153 : decode cX11_passAll 153 = .ok (.aload_n 0, 1) := by decide +kernel
theorem dX11_passAll_154 : decode cX11_passAll 154 = .ok (.aload_n 0, 1) := by decide +kernel
theorem dX11_passAll_155 : decode cX11_passAll 155 = .ok (.getfield 34, 3) := by decide +kernel
theorem dX11_passAll_158 : decode cX11_passAll 158 = .ok (.iload_n 1, 1) := by decide +kernel
theorem dX11_passAll_159 : decode cX11_passAll 159 = .ok (.iaload, 1) := by decide +kernel
theorem dX11_passAll_160 : decode cX11_passAll 160 = .ok (.invokevirtual 310, 3) := by decide +kernel
theorem dX11_passAll_163 : decode cX11_passAll 163 = .ok (.iastore, 1) := by decide +kernel
theorem dX11_passAll_164 : decode cX11_passAll 164 = .ok (.aload_n 0, 1) := by decide +kernel
theorem dX11_passAll_165 : decode cX11_passAll 165 = .ok (.getfield 37, 3) := by decide +kernel
theorem dX11_passAll_168 : decode cX11_passAll 168 = .ok (.iload_n 1, 1) := by decide +kernel
theorem dX11_passAll_169 : decode cX11_passAll 169 = .ok (.aload_n 0, 1) := by decide +kernel
theorem dX11_passAll_170 : decode cX11_passAll 170 = .ok (.aload_n 0, 1) := by decide +kernel
theorem dX11_passAll_171 : decode cX11_passAll 171 = .ok (.getfield 37, 3) := by decide +kernel
theorem dX11_passAll_174 : decode cX11_passAll 174 = .ok (.iload_n 1, 1) := by decide +kernel
theorem dX11_passAll_175 : decode cX11_passAll 175 = .ok (.iaload, 1) := by decide +kernel
theorem dX11_passAll_176 : decode cX11_passAll 176 = .ok (.invokevirtual 310, 3) := by decide +kernel
theorem dX11_passAll_179 : decode cX11_passAll 179 = .ok (.iastore, 1) := by decide +kernel
theorem dX11_passAll_180 : decode cX11_passAll 180 = .ok (.aload_n 0, 1) := by decide +kernel
theorem dX11_passAll_181 : decode cX11_passAll 181 = .ok (.getfield 40, 3) := by decide +kernel
theorem dX11_passAll_184 : decode cX11_passAll 184 = .ok (.iload_n 1, 1) := by decide +kernel
theorem dX11_passAll_185 : decode cX11_passAll 185 = .ok (.aload_n 0, 1) := by decide +kernel
theorem dX11_passAll_186 : decode cX11_passAll 186 = .ok (.aload_n 0, 1) := by decide +kernel
theorem dX11_passAll_187 : decode cX11_passAll 187 = .ok (.getfield 40, 3) := by decide +kernel
theorem dX11_passAll_190 : decode cX11_passAll 190 = .ok (.iload_n 1, 1) := by decide +kernel
theorem dX11_passAll_191 : decode cX11_passAll 191 = .ok (.iaload, 1) := by decide +kernel
theorem dX11_passAll_192 : decode cX11_passAll 192 = .ok (.invokevirtual 310, 3) := by decide +kernel
theorem dX11_passAll_195 : decode cX11_passAll 195 = .ok (.iastore, 1) := by decide +kernel
theorem dX11_passAll_196 : decode cX11_passAll 196 = .ok (.aload_n 0, 1) := by decide +kernel
theorem dX11_passAll_197 : decode cX11_passAll 197 = .ok (.getfield 43, 3) := by decide +kernel
theorem dX11_passAll_200 : decode cX11_passAll 200 = .ok (.iload_n 1, 1) := by decide +kernel
theorem dX11_passAll_201 : decode cX11_passAll 201 = .ok (.aload_n 0, 1) := by decide +kernel
theorem dX11_passAll_202 : decode cX11_passAll 202 = .ok (.aload_n 0, 1) := by decide +kernel
theorem dX11_passAll_203 : decode cX11_passAll 203 = .ok (.getfield 43, 3) := by decide +kernel
theorem dX11_passAll_206 : decode cX11_passAll 206 = .ok (.iload_n 1, 1) := by decide +kernel
theorem dX11_passAll_207 : decode cX11_passAll 207 = .ok (.iaload, 1) := by decide +kernel
theorem dX11_passAll_208 : decode cX11_passAll 208 = .ok (.invokevirtual 310, 3) := by decide +kernel
theorem dX11_passAll_211 : decode cX11_passAll 211 = .ok (.iastore, 1) := by decide +kernel
theorem dX11_passAll_212 : decode cX11_passAll 212 = .ok (.aload_n 0, 1) := by decide +kernel
theorem dX11_passAll_213 : decode cX11_passAll 213 = .ok (.getfield 46, 3) := by decide +kernel
theorem dX11_passAll_216 : decode cX11_passAll 216 = .ok (.iload_n 1, 1) := by decide +kernel
theorem dX11_passAll_217 : decode cX11_passAll 217 = .ok (.aload_n 0, 1) := by decide +kernel
theorem dX11_passAll_218 : decode cX11_passAll 218 = .ok (.aload_n 0, 1) := by decide +kernel
theorem dX11_passAll_219 : decode cX11_passAll 219 = .ok (.getfield 46, 3) := by decide +kernel
theorem dX11_passAll_222 : decode cX11_passAll 222 = .ok (.iload_n 1, 1) := by decide +kernel
theorem dX11_passAll_223 : decode cX11_passAll 223 = .ok (.iaload, 1) := by decide +kernel
theorem dX11_passAll_224 : decode cX11_passAll 224 = .ok (.invokevirtual 310, 3) := by decide +kernel
theorem dX11_passAll_227 : decode cX11_passAll 227 = .ok (.iastore, 1) := by decide +kernel
theorem dX11_passAll_228 : decode cX11_passAll 228 = .ok (.iinc 1 1, 3) := by decide +kernel
theorem dX11_passAll_231 : decode cX11_passAll 231 = .ok (.goto (-169), 3) := by decide +kernel
theorem dX11_passAll_234 : decode cX11_passAll 234 = .ok (.iconst 0, 1) := by decide +kernel
theorem dX11_passAll_235 : decode cX11_passAll 235 = .ok (.istore_n 1, 1) := by decide +kernel
theorem dX11_passAll_236 : decode cX11_passAll 236 = .ok (.iload_n 1, 1) := by decide +kernel
theorem dX11_passAll_237 : decode cX11_passAll 237 = .ok (.bipush 48, 2) := by decide +kernel
theorem dX11_passAll_239 : decode cX11_passAll 239 = .ok (.if_icmp .ge 41, 3) := by decide +kernel
theorem dX11_passAll_242 : decode cX11_passAll 242 = .ok (.aload_n 0, 1) := by decide +kernel
theorem dX11_passAll_243 : decode cX11_passAll 243 = .ok (.getfield 22, 3) := by decide +kernel
theorem dX11_passAll_246 : decode cX11_passAll 246 = .ok (.iload_n 1, 1) := by decide +kernel
theorem dX11_passAll_247 : decode cX11_passAll 247 = .ok (.aload_n 0, 1) := by decide +kernel
theorem dX11_passAll_248 : decode cX11_passAll 248 = .ok (.aload_n 0, 1) := by decide +kernel
theorem dX11_passAll_249 : decode cX11_passAll 249 = .ok (.getfield 22, 3) := by decide +kernel
theorem dX11_passAll_252 : decode cX11_passAll 252 = .ok (.iload_n 1, 1) := by decide +kernel
theorem dX11_passAll_253 : decode cX11_passAll 253 = .ok (.iaload, 1) := by decide +kernel
theorem dX11_passAll_254 : decode cX11_passAll 254 = .ok (.invokevirtual 310, 3) := by decide +kernel
theorem dX11_passAll_257 : decode cX11_passAll 257 = .ok (.iastore, 1) := by decide +kernel
theorem dX11_passAll_258 : decode cX11_passAll 258 = .ok (.aload_n 0, 1) := by decide +kernel
theorem dX11_passAll_259 : decode cX11_passAll 259 = .ok (.getfield 25, 3) := by decide +kernel
theorem dX11_passAll_262 : decode cX11_passAll 262 = .ok (.iload_n 1, 1) := by decide +kernel
theorem dX11_passAll_263 : decode cX11_passAll 263 = .ok (.aload_n 0, 1) := by decide +kernel
theorem dX11_passAll_264 : decode cX11_passAll 264 = .ok (.aload_n 0, 1) := by decide +kernel
theorem dX11_passAll_265 : decode cX11_passAll 265 = .ok (.getfield 25, 3) := by decide +kernel
theorem dX11_passAll_268 : decode cX11_passAll 268 = .ok (.iload_n 1, 1) := by decide +kernel
theorem dX11_passAll_269 : decode cX11_passAll 269 = .ok (.iaload, 1) := by decide +kernel
theorem dX11_passAll_270 : decode cX11_passAll 270 = .ok (.invokevirtual 310, 3) := by decide +kernel
theorem dX11_passAll_273 : decode cX11_passAll 273 = .ok (.iastore, 1) := by decide +kernel
theorem dX11_passAll_274 : decode cX11_passAll 274 = .ok (.iinc 1 1, 3) := by decide +kernel
theorem dX11_passAll_277 : decode cX11_passAll 277 = .ok (.goto (-41), 3) := by decide +kernel
theorem dX11_passAll_280 : decode cX11_passAll 280 = .ok (.iconst 0, 1) := by decide +kernel
theorem dX11_passAll_281 : decode cX11_passAll 281 = .ok (.istore_n 1, 1) := by decide +kernel
theorem dX11_passAll_282 : decode cX11_passAll 282 = .ok (.iload_n 1, 1) := by decide +kernel
theorem dX11_passAll_283 : decode cX11_passAll 283 = .ok (.bipush 8, 2) := by decide +kernel
theorem dX11_passAll_285 : decode cX11_passAll 285 = .ok (.if_icmp .ge 89, 3) := by decide +kernel
theorem dX11_passAll_288 : decode cX11_passAll 288 = .ok (.aload_n 0, 1) := by decide +kernel
theorem dX11_passAll_289 : decode cX11_passAll 289 = .ok (.getfield 53, 3) := by decide +kernel
theorem dX11_passAll_292 : decode cX11_passAll 292 = .ok (.iload_n 1, 1) := by decide +kernel
theorem dX11_passAll_293 : decode cX11_passAll 293 = .ok (.aload_n 0, 1) := by decide +kernel
theorem dX11_passAll_294 : decode cX11_passAll 294 = .ok (.aload_n 0, 1) := by decide +kernel
theorem dX11_passAll_295 : decode cX11_passAll 295 = .ok (.getfield 53, 3) := by decide +kernel
theorem dX11_passAll_298 : decode cX11_passAll 298 = .ok (.iload_n 1, 1) := by decide +kernel
theorem dX11_passAll_299 : decode cX11_passAll 299 = .ok (.iaload, 1) := by decide +kernel
theorem dX11_passAll_300 : decode cX11_passAll 300 = .ok (.invokevirtual 310, 3) := by decide +kernel
theorem dX11_passAll_303 : decode cX11_passAll 303 = .ok (.iastore, 1) := by decide +kernel
theorem dX11_passAll_304 : decode cX11_passAll 304 = .ok (.aload_n 0, 1) := by decide +kernel
theorem dX11_passAll_305 : decode cX11_passAll 305 = .ok (.getfield 56, 3) := by decide +kernel
theorem dX11_passAll_308 : decode cX11_passAll 308 = .ok (.iload_n 1, 1) := by decide +kernel
theorem dX11_passAll_309 : decode cX11_passAll 309 = .ok (.aload_n 0, 1) := by decide +kernel
theorem dX11_passAll_310 : decode cX11_passAll 310 = .ok (.aload_n 0, 1) := by decide +kernel
theorem dX11_passAll_311 : decode cX11_passAll 311 = .ok (.getfield 56, 3) := by decide +kernel
theorem dX11_passAll_314 : decode cX11_passAll 314 = .ok (.iload_n 1, 1) := by decide +kernel
theorem dX11_passAll_315 : decode cX11_passAll 315 = .ok (.iaload, 1) := by decide +kernel
theorem dX11_passAll_316 : decode cX11_passAll 316 = .ok (.invokevirtual 310, 3) := by decide +kernel
theorem dX11_passAll_319 : decode cX11_passAll 319 = .ok (.iastore, 1) := by decide +kernel
theorem dX11_passAll_320 : decode cX11_passAll 320 = .ok (.aload_n 0, 1) := by decide +kernel
theorem dX11_passAll_321 : decode cX11_passAll 321 = .ok (.getfield 59, 3) := by decide +kernel
theorem dX11_passAll_324 : decode cX11_passAll 324 = .ok (.iload_n 1, 1) := by decide +kernel
theorem dX11_passAll_325 : decode cX11_passAll 325 = .ok (.aload_n 0, 1) := by decide +kernel
theorem dX11_passAll_326 : decode cX11_passAll 326 = .ok (.aload_n 0, 1) := by decide +kernel
theorem dX11_passAll_327 : decode cX11_passAll 327 = .ok (.getfield 59, 3) := by decide +kernel
theorem dX11_passAll_330 : decode cX11_passAll 330 = .ok (.iload_n 1, 1) := by decide +kernel
theorem dX11_passAll_331 : decode cX11_passAll 331 = .ok (.iaload, 1) := by decide +kernel
theorem dX11_passAll_332 : decode cX11_passAll 332 = .ok (.invokevirtual 310, 3) := by decide +kernel
theorem dX11_passAll_335 : decode cX11_passAll 335 = .ok (.iastore, 1) := by decide +kernel
theorem dX11_passAll_336 : decode cX11_passAll 336 = .ok (.aload_n 0, 1) := by decide +kernel
theorem dX11_passAll_337 : decode cX11_passAll 337 = .ok (.getfield 62, 3) := by decide +kernel
theorem dX11_passAll_340 : decode cX11_passAll 340 = .ok (.iload_n 1, 1) := by decide +kernel
theorem dX11_passAll_341 : decode cX11_passAll 341 = .ok (.aload_n 0, 1) := by decide +kernel
theorem dX11_passAll_342 : decode cX11_passAll 342 = .ok (.aload_n 0, 1) := by decide +kernel
theorem dX11_passAll_343 : decode cX11_passAll 343 = .ok (.getfield 62, 3) := by decide +kernel
theorem dX11_passAll_346 : decode cX11_passAll 346 = .ok (.iload_n 1, 1) := by decide +kernel
theorem dX11_passAll_347 : decode cX11_passAll 347 = .ok (.iaload, 1) := by decide +kernel
theorem dX11_passAll_348 : decode cX11_passAll 348 = .ok (.invokevirtual 310, 3) := by decide +kernel
theorem dX11_passAll_351 : decode cX11_passAll 351 = .ok (.iastore, 1) := by decide +kernel
theorem dX11_passAll_352 : decode cX11_passAll 352 = .ok (.aload_n 0, 1) := by decide +kernel
theorem dX11_passAll_353 : decode cX11_passAll 353 = .ok (.getfield 65, 3) := by decide +kernel
theorem dX11_passAll_356 : decode cX11_passAll 356 = .ok (.iload_n 1, 1) := by decide +kernel
theorem dX11_passAll_357 : decode cX11_passAll 357 = .ok (.aload_n 0, 1) := by decide +kernel
theorem dX11_passAll_358 : decode cX11_passAll 358 = .ok (.aload_n 0, 1) := by decide +kernel
theorem dX11_passAll_359 : decode cX11_passAll 359 = .ok (.getfield 65, 3) := by decide +kernel
theorem dX11_passAll_362 : decode cX11_passAll 362 = .ok (.iload_n 1, 1) := by decide +kernel
theorem dX11_passAll_363 : decode cX11_passAll 363 = .ok (.iaload, 1) := by decide +kernel
theorem dX11_passAll_364 : decode cX11_passAll 364 = .ok (.invokevirtual 310, 3) := by decide +kernel
theorem dX11_passAll_367 : decode cX11_passAll 367 = .ok (.iastore, 1) := by decide +kernel
theorem dX11_passAll_368 : decode cX11_passAll 368 = .ok (.iinc 1 1, 3) := by decide +kernel
theorem dX11_passAll_371 : decode cX11_passAll 371 = .ok (.goto (-89), 3) := by decide +kernel
theorem dX11_passAll_374 : decode cX11_passAll 374 = .ok (.return_, 1) := by decide +kernel
theorem dX11_image_0 : decode cX11_image 0 = .ok (.iload_n 1, 1) := by decide +kernel
theorem dX11_image_1 : decode cX11_image 1 = .ok (.i2l, 1) := by decide +kernel
theorem dX11_image_2 : decode cX11_image 2 = .ok (.lconst 0, 1) := by decide +kernel
theorem dX11_image_3 : decode cX11_image 3 = .ok (.lconst 1, 1) := by decide +kernel
theorem dX11_image_4 : decode cX11_image 4 = .ok (.invokestatic 86, 3) := by decide +kernel
theorem dX11_image_7 : decode cX11_image 7 = .ok (.ifCond .ne 6, 3) := by decide +kernel
theorem dX11_image_10 : decode cX11_image 10 = .ok (.bipush (-2), 2) := by decide +kernel
theorem dX11_image_12 : decode cX11_image 12 = .ok (.ireturn, 1) := by decide +kernel
theorem dX11_image_13 : decode cX11_image 13 = .ok (.aload_n 0, 1) := by decide +kernel
theorem dX11_image_14 : decode cX11_image 14 = .ok (.sipush 400, 3) := by decide +kernel
theorem dX11_image_17 : decode cX11_image 17 = .ok (.iload_n 1, 1) := by decide +kernel
theorem dX11_image_18 : decode cX11_image 18 = .ok (.imul, 1) := by decide +kernel
theorem dX11_image_19 : decode cX11_image 19 = .ok (.putfield 307, 3) := by decide +kernel
theorem dX11_image_22 : decode cX11_image 22 = .ok (.aload_n 0, 1) := by decide +kernel
theorem dX11_image_23 : decode cX11_image 23 = .ok (.iconst 1, 1) := by decide +kernel
theorem dX11_image_24 : decode cX11_image 24 = .ok (.putfield 304, 3) := by decide +kernel
theorem dX11_image_27 : decode cX11_image 27 = .ok (.aload_n 0, 1) := by decide +kernel
theorem dX11_image_28 : decode cX11_image 28 = .ok (.invokevirtual 313, 3) := by decide +kernel
theorem dX11_image_31 : decode cX11_image 31 = .ok (.aload_n 0, 1) := by decide +kernel
theorem dX11_image_32 : decode cX11_image 32 = .ok (.getfield 81, 3) := by decide +kernel
theorem dX11_image_35 : decode cX11_image 35 = .ok (.iload_n 1, 1) := by decide +kernel
theorem dX11_image_36 : decode cX11_image 36 = .ok (.iconst 1, 1) := by decide +kernel
theorem dX11_image_37 : decode cX11_image 37 = .ok (.bastore, 1) := by decide +kernel
theorem dX11_image_38 : decode cX11_image 38 = .ok (.iconst 1, 1) := by decide +kernel
theorem dX11_image_39 : decode cX11_image 39 = .ok (.ireturn, 1) := by decide +kernel
theorem dX11_restore_0 : decode cX11_restore 0 = .ok (.iload_n 1, 1) := by decide +kernel
theorem dX11_restore_1 : decode cX11_restore 1 = .ok (.i2l, 1) := by decide +kernel
theorem dX11_restore_2 : decode cX11_restore 2 = .ok (.lconst 0, 1) := by decide +kernel
theorem dX11_restore_3 : decode cX11_restore 3 = .ok (.lconst 1, 1) := by decide +kernel
theorem dX11_restore_4 : decode cX11_restore 4 = .ok (.invokestatic 86, 3) := by decide +kernel
theorem dX11_restore_7 : decode cX11_restore 7 = .ok (.ifCond .ne 6, 3) := by decide +kernel
theorem dX11_restore_10 : decode cX11_restore 10 = .ok (.bipush (-2), 2) := by decide +kernel
theorem dX11_restore_12 : decode cX11_restore 12 = .ok (.ireturn, 1) := by decide +kernel
theorem dX11_restore_13 : decode cX11_restore 13 = .ok (.aload_n 0, 1) := by decide +kernel
theorem dX11_restore_14 : decode cX11_restore 14 = .ok (.getfield 81, 3) := by decide +kernel
theorem dX11_restore_17 : decode cX11_restore 17 = .ok (.iload_n 1, 1) := by decide +kernel
theorem dX11_restore_18 : decode cX11_restore 18 = .ok (.baload, 1) := by decide +kernel
theorem dX11_restore_19 : decode cX11_restore 19 = .ok (.ifCond .ne 6, 3) := by decide +kernel
theorem dX11_restore_22 : decode cX11_restore 22 = .ok (.bipush (-3), 2) := by decide +kernel
theorem dX11_restore_24 : decode cX11_restore 24 = .ok (.ireturn, 1) := by decide +kernel
theorem dX11_restore_25 : decode cX11_restore 25 = .ok (.aload_n 0, 1) := by decide +kernel
theorem dX11_restore_26 : decode cX11_restore 26 = .ok (.sipush 400, 3) := by decide +kernel
theorem dX11_restore_29 : decode cX11_restore 29 = .ok (.iload_n 1, 1) := by decide +kernel
theorem dX11_restore_30 : decode cX11_restore 30 = .ok (.imul, 1) := by decide +kernel
theorem dX11_restore_31 : decode cX11_restore 31 = .ok (.putfield 307, 3) := by decide +kernel
theorem dX11_restore_34 : decode cX11_restore 34 = .ok (.aload_n 0, 1) := by decide +kernel
theorem dX11_restore_35 : decode cX11_restore 35 = .ok (.iconst 0, 1) := by decide +kernel
theorem dX11_restore_36 : decode cX11_restore 36 = .ok (.putfield 304, 3) := by decide +kernel
theorem dX11_restore_39 : decode cX11_restore 39 = .ok (.aload_n 0, 1) := by decide +kernel
theorem dX11_restore_40 : decode cX11_restore 40 = .ok (.invokevirtual 313, 3) := by decide +kernel
theorem dX11_restore_43 : decode cX11_restore 43 = .ok (.iconst 1, 1) := by decide +kernel
theorem dX11_restore_44 : decode cX11_restore 44 = .ok (.ireturn, 1) := by decide +kernel
theorem dX11_told_0 : decode cX11_told 0 = .ok (.iload_n 1, 1) := by decide +kernel
theorem dX11_told_1 : decode cX11_told 1 = .ok (.tableswitch 69 0 5 #[39, 44, 49, 54, 59, 64], 39) := by decide +kernel
theorem dX11_told_40 : decode cX11_told 40 = .ok (.aload_n 0, 1) := by decide +kernel
theorem dX11_told_41 : decode cX11_told 41 = .ok (.getfield 149, 3) := by decide +kernel
theorem dX11_told_44 : decode cX11_told 44 = .ok (.ireturn, 1) := by decide +kernel
theorem dX11_told_45 : decode cX11_told 45 = .ok (.aload_n 0, 1) := by decide +kernel
theorem dX11_told_46 : decode cX11_told 46 = .ok (.getfield 190, 3) := by decide +kernel
theorem dX11_told_49 : decode cX11_told 49 = .ok (.ireturn, 1) := by decide +kernel
theorem dX11_told_50 : decode cX11_told 50 = .ok (.aload_n 0, 1) := by decide +kernel
theorem dX11_told_51 : decode cX11_told 51 = .ok (.getfield 94, 3) := by decide +kernel
theorem dX11_told_54 : decode cX11_told 54 = .ok (.ireturn, 1) := by decide +kernel
theorem dX11_told_55 : decode cX11_told 55 = .ok (.aload_n 0, 1) := by decide +kernel
theorem dX11_told_56 : decode cX11_told 56 = .ok (.getfield 201, 3) := by decide +kernel
theorem dX11_told_59 : decode cX11_told 59 = .ok (.ireturn, 1) := by decide +kernel
theorem dX11_told_60 : decode cX11_told 60 = .ok (.aload_n 0, 1) := by decide +kernel
theorem dX11_told_61 : decode cX11_told 61 = .ok (.getfield 204, 3) := by decide +kernel
theorem dX11_told_64 : decode cX11_told 64 = .ok (.ireturn, 1) := by decide +kernel
theorem dX11_told_65 : decode cX11_told 65 = .ok (.aload_n 0, 1) := by decide +kernel
theorem dX11_told_66 : decode cX11_told 66 = .ok (.getfield 207, 3) := by decide +kernel
theorem dX11_told_69 : decode cX11_told 69 = .ok (.ireturn, 1) := by decide +kernel
theorem dX11_told_70 : decode cX11_told 70 = .ok (.bipush (-2), 2) := by decide +kernel
theorem dX11_told_72 : decode cX11_told 72 = .ok (.ireturn, 1) := by decide +kernel
end
section
theorem dL_law_0 : decode cL_law 0 = .ok (.new 7, 3) := by decide +kernel
theorem dL_law_3 : decode cL_law 3 = .ok (.dup, 1) := by decide +kernel
theorem dL_law_4 : decode cL_law 4 = .ok (.invokespecial 9, 3) := by decide +kernel
theorem dL_law_7 : decode cL_law 7 = .ok (.astore_n 1, 1) := by decide +kernel
theorem dL_law_8 : decode cL_law 8 = .ok (.new 10, 3) := by decide +kernel
theorem dL_law_11 : decode cL_law 11 = .ok (.dup, 1) := by decide +kernel
theorem dL_law_12 : decode cL_law 12 = .ok (.invokespecial 12, 3) := by decide +kernel
theorem dL_law_15 : decode cL_law 15 = .ok (.astore_n 2, 1) := by decide +kernel
theorem dL_law_16 : decode cL_law 16 = .ok (.iconst 0, 1) := by decide +kernel
theorem dL_law_17 : decode cL_law 17 = .ok (.istore_n 3, 1) := by decide +kernel
theorem dL_law_18 : decode cL_law 18 = .ok (.iload_n 3, 1) := by decide +kernel
theorem dL_law_19 : decode cL_law 19 = .ok (.aload_n 0, 1) := by decide +kernel
theorem dL_law_20 : decode cL_law 20 = .ok (.arraylength, 1) := by decide +kernel
theorem dL_law_21 : decode cL_law 21 = .ok (.iconst 4, 1) := by decide +kernel
theorem dL_law_22 : decode cL_law 22 = .ok (.isub, 1) := by decide +kernel
theorem dL_law_23 : decode cL_law 23 = .ok (.if_icmp .gt 1323, 3) := by decide +kernel
theorem dL_law_26 : decode cL_law 26 = .ok (.aload_n 0, 1) := by decide +kernel
theorem dL_law_27 : decode cL_law 27 = .ok (.iload_n 3, 1) := by decide +kernel
theorem dL_law_28 : decode cL_law 28 = .ok (.iaload, 1) := by decide +kernel
theorem dL_law_29 : decode cL_law 29 = .ok (.bipush 63, 2) := by decide +kernel
theorem dL_law_31 : decode cL_law 31 = .ok (.iand, 1) := by decide +kernel
theorem dL_law_32 : decode cL_law 32 = .ok (.tableswitch 1308 0 35 #[160, 183, 196, 209, 242, 265, 308, 341, 384, 417, 440, 473, 506, 549, 582, 625, 668, 701, 734, 767, 810, 833, 876, 919, 952, 975, 998, 1021, 1064, 1097, 1130, 1163, 1206, 1239, 1262, 1285], 160) := by decide +kernel
theorem dL_law_192 : decode cL_law 192 = .ok (.aload_n 1, 1) := by decide +kernel
theorem dL_law_193 : decode cL_law 193 = .ok (.aload_n 0, 1) := by decide +kernel
theorem dL_law_194 : decode cL_law 194 = .ok (.iload_n 3, 1) := by decide +kernel
theorem dL_law_195 : decode cL_law 195 = .ok (.iconst 1, 1) := by decide +kernel
theorem dL_law_196 : decode cL_law 196 = .ok (.iadd, 1) := by decide +kernel
theorem dL_law_197 : decode cL_law 197 = .ok (.iaload, 1) := by decide +kernel
theorem dL_law_198 : decode cL_law 198 = .ok (.invokevirtual 13, 3) := by decide +kernel
theorem dL_law_201 : decode cL_law 201 = .ok (.aload_n 2, 1) := by decide +kernel
theorem dL_law_202 : decode cL_law 202 = .ok (.aload_n 0, 1) := by decide +kernel
theorem dL_law_203 : decode cL_law 203 = .ok (.iload_n 3, 1) := by decide +kernel
theorem dL_law_204 : decode cL_law 204 = .ok (.iconst 1, 1) := by decide +kernel
theorem dL_law_205 : decode cL_law 205 = .ok (.iadd, 1) := by decide +kernel
theorem dL_law_206 : decode cL_law 206 = .ok (.iaload, 1) := by decide +kernel
theorem dL_law_207 : decode cL_law 207 = .ok (.invokevirtual 17, 3) := by decide +kernel
theorem dL_law_210 : decode cL_law 210 = .ok (.if_icmp .eq 1130, 3) := by decide +kernel
theorem dL_law_213 : decode cL_law 213 = .ok (.iconst 0, 1) := by decide +kernel
theorem dL_law_214 : decode cL_law 214 = .ok (.ireturn, 1) := by decide +kernel
theorem dL_law_215 : decode cL_law 215 = .ok (.aload_n 1, 1) := by decide +kernel
theorem dL_law_216 : decode cL_law 216 = .ok (.invokevirtual 18, 3) := by decide +kernel
theorem dL_law_219 : decode cL_law 219 = .ok (.aload_n 2, 1) := by decide +kernel
theorem dL_law_220 : decode cL_law 220 = .ok (.invokevirtual 22, 3) := by decide +kernel
theorem dL_law_223 : decode cL_law 223 = .ok (.if_icmp .eq 1117, 3) := by decide +kernel
theorem dL_law_226 : decode cL_law 226 = .ok (.iconst 0, 1) := by decide +kernel
theorem dL_law_227 : decode cL_law 227 = .ok (.ireturn, 1) := by decide +kernel
theorem dL_law_228 : decode cL_law 228 = .ok (.aload_n 1, 1) := by decide +kernel
theorem dL_law_229 : decode cL_law 229 = .ok (.invokevirtual 23, 3) := by decide +kernel
theorem dL_law_232 : decode cL_law 232 = .ok (.aload_n 2, 1) := by decide +kernel
theorem dL_law_233 : decode cL_law 233 = .ok (.invokevirtual 26, 3) := by decide +kernel
theorem dL_law_236 : decode cL_law 236 = .ok (.if_icmp .eq 1104, 3) := by decide +kernel
theorem dL_law_239 : decode cL_law 239 = .ok (.iconst 0, 1) := by decide +kernel
theorem dL_law_240 : decode cL_law 240 = .ok (.ireturn, 1) := by decide +kernel
theorem dL_law_241 : decode cL_law 241 = .ok (.aload_n 1, 1) := by decide +kernel
theorem dL_law_242 : decode cL_law 242 = .ok (.aload_n 0, 1) := by decide +kernel
theorem dL_law_243 : decode cL_law 243 = .ok (.iload_n 3, 1) := by decide +kernel
theorem dL_law_244 : decode cL_law 244 = .ok (.iconst 1, 1) := by decide +kernel
theorem dL_law_245 : decode cL_law 245 = .ok (.iadd, 1) := by decide +kernel
theorem dL_law_246 : decode cL_law 246 = .ok (.iaload, 1) := by decide +kernel
theorem dL_law_247 : decode cL_law 247 = .ok (.aload_n 0, 1) := by decide +kernel
theorem dL_law_248 : decode cL_law 248 = .ok (.iload_n 3, 1) := by decide +kernel
theorem dL_law_249 : decode cL_law 249 = .ok (.iconst 2, 1) := by decide +kernel
theorem dL_law_250 : decode cL_law 250 = .ok (.iadd, 1) := by decide +kernel
theorem dL_law_251 : decode cL_law 251 = .ok (.iaload, 1) := by decide +kernel
theorem dL_law_252 : decode cL_law 252 = .ok (.invokevirtual 27, 3) := by decide +kernel
theorem dL_law_255 : decode cL_law 255 = .ok (.aload_n 2, 1) := by decide +kernel
theorem dL_law_256 : decode cL_law 256 = .ok (.aload_n 0, 1) := by decide +kernel
theorem dL_law_257 : decode cL_law 257 = .ok (.iload_n 3, 1) := by decide +kernel
theorem dL_law_258 : decode cL_law 258 = .ok (.iconst 1, 1) := by decide +kernel
theorem dL_law_259 : decode cL_law 259 = .ok (.iadd, 1) := by decide +kernel
theorem dL_law_260 : decode cL_law 260 = .ok (.iaload, 1) := by decide +kernel
theorem dL_law_261 : decode cL_law 261 = .ok (.aload_n 0, 1) := by decide +kernel
theorem dL_law_262 : decode cL_law 262 = .ok (.iload_n 3, 1) := by decide +kernel
theorem dL_law_263 : decode cL_law 263 = .ok (.iconst 2, 1) := by decide +kernel
theorem dL_law_264 : decode cL_law 264 = .ok (.iadd, 1) := by decide +kernel
theorem dL_law_265 : decode cL_law 265 = .ok (.iaload, 1) := by decide +kernel
theorem dL_law_266 : decode cL_law 266 = .ok (.invokevirtual 31, 3) := by decide +kernel
theorem dL_law_269 : decode cL_law 269 = .ok (.if_icmp .eq 1071, 3) := by decide +kernel
theorem dL_law_272 : decode cL_law 272 = .ok (.iconst 0, 1) := by decide +kernel
theorem dL_law_273 : decode cL_law 273 = .ok (.ireturn, 1) := by decide +kernel
theorem dL_law_274 : decode cL_law 274 = .ok (.aload_n 1, 1) := by decide +kernel
theorem dL_law_275 : decode cL_law 275 = .ok (.aload_n 0, 1) := by decide +kernel
theorem dL_law_276 : decode cL_law 276 = .ok (.iload_n 3, 1) := by decide +kernel
theorem dL_law_277 : decode cL_law 277 = .ok (.iconst 1, 1) := by decide +kernel
theorem dL_law_278 : decode cL_law 278 = .ok (.iadd, 1) := by decide +kernel
theorem dL_law_279 : decode cL_law 279 = .ok (.iaload, 1) := by decide +kernel
theorem dL_law_280 : decode cL_law 280 = .ok (.invokevirtual 32, 3) := by decide +kernel
theorem dL_law_283 : decode cL_law 283 = .ok (.aload_n 2, 1) := by decide +kernel
theorem dL_law_284 : decode cL_law 284 = .ok (.aload_n 0, 1) := by decide +kernel
theorem dL_law_285 : decode cL_law 285 = .ok (.iload_n 3, 1) := by decide +kernel
theorem dL_law_286 : decode cL_law 286 = .ok (.iconst 1, 1) := by decide +kernel
theorem dL_law_287 : decode cL_law 287 = .ok (.iadd, 1) := by decide +kernel
theorem dL_law_288 : decode cL_law 288 = .ok (.iaload, 1) := by decide +kernel
theorem dL_law_289 : decode cL_law 289 = .ok (.invokevirtual 35, 3) := by decide +kernel
theorem dL_law_292 : decode cL_law 292 = .ok (.if_icmp .eq 1048, 3) := by decide +kernel
theorem dL_law_295 : decode cL_law 295 = .ok (.iconst 0, 1) := by decide +kernel
theorem dL_law_296 : decode cL_law 296 = .ok (.ireturn, 1) := by decide +kernel
theorem dL_law_297 : decode cL_law 297 = .ok (.aload_n 1, 1) := by decide +kernel
theorem dL_law_298 : decode cL_law 298 = .ok (.aload_n 0, 1) := by decide +kernel
theorem dL_law_299 : decode cL_law 299 = .ok (.iload_n 3, 1) := by decide +kernel
theorem dL_law_300 : decode cL_law 300 = .ok (.iconst 1, 1) := by decide +kernel
theorem dL_law_301 : decode cL_law 301 = .ok (.iadd, 1) := by decide +kernel
theorem dL_law_302 : decode cL_law 302 = .ok (.iaload, 1) := by decide +kernel
theorem dL_law_303 : decode cL_law 303 = .ok (.aload_n 0, 1) := by decide +kernel
theorem dL_law_304 : decode cL_law 304 = .ok (.iload_n 3, 1) := by decide +kernel
theorem dL_law_305 : decode cL_law 305 = .ok (.iconst 2, 1) := by decide +kernel
theorem dL_law_306 : decode cL_law 306 = .ok (.iadd, 1) := by decide +kernel
theorem dL_law_307 : decode cL_law 307 = .ok (.iaload, 1) := by decide +kernel
theorem dL_law_308 : decode cL_law 308 = .ok (.aload_n 0, 1) := by decide +kernel
theorem dL_law_309 : decode cL_law 309 = .ok (.iload_n 3, 1) := by decide +kernel
theorem dL_law_310 : decode cL_law 310 = .ok (.iconst 3, 1) := by decide +kernel
theorem dL_law_311 : decode cL_law 311 = .ok (.iadd, 1) := by decide +kernel
theorem dL_law_312 : decode cL_law 312 = .ok (.iaload, 1) := by decide +kernel
theorem dL_law_313 : decode cL_law 313 = .ok (.invokevirtual 36, 3) := by decide +kernel
theorem dL_law_316 : decode cL_law 316 = .ok (.aload_n 2, 1) := by decide +kernel
theorem dL_law_317 : decode cL_law 317 = .ok (.aload_n 0, 1) := by decide +kernel
theorem dL_law_318 : decode cL_law 318 = .ok (.iload_n 3, 1) := by decide +kernel
theorem dL_law_319 : decode cL_law 319 = .ok (.iconst 1, 1) := by decide +kernel
theorem dL_law_320 : decode cL_law 320 = .ok (.iadd, 1) := by decide +kernel
theorem dL_law_321 : decode cL_law 321 = .ok (.iaload, 1) := by decide +kernel
theorem dL_law_322 : decode cL_law 322 = .ok (.aload_n 0, 1) := by decide +kernel
theorem dL_law_323 : decode cL_law 323 = .ok (.iload_n 3, 1) := by decide +kernel
theorem dL_law_324 : decode cL_law 324 = .ok (.iconst 2, 1) := by decide +kernel
theorem dL_law_325 : decode cL_law 325 = .ok (.iadd, 1) := by decide +kernel
theorem dL_law_326 : decode cL_law 326 = .ok (.iaload, 1) := by decide +kernel
theorem dL_law_327 : decode cL_law 327 = .ok (.aload_n 0, 1) := by decide +kernel
theorem dL_law_328 : decode cL_law 328 = .ok (.iload_n 3, 1) := by decide +kernel
theorem dL_law_329 : decode cL_law 329 = .ok (.iconst 3, 1) := by decide +kernel
theorem dL_law_330 : decode cL_law 330 = .ok (.iadd, 1) := by decide +kernel
theorem dL_law_331 : decode cL_law 331 = .ok (.iaload, 1) := by decide +kernel
theorem dL_law_332 : decode cL_law 332 = .ok (.invokevirtual 40, 3) := by decide +kernel
theorem dL_law_335 : decode cL_law 335 = .ok (.if_icmp .eq 1005, 3) := by decide +kernel
theorem dL_law_338 : decode cL_law 338 = .ok (.iconst 0, 1) := by decide +kernel
theorem dL_law_339 : decode cL_law 339 = .ok (.ireturn, 1) := by decide +kernel
theorem dL_law_340 : decode cL_law 340 = .ok (.aload_n 1, 1) := by decide +kernel
theorem dL_law_341 : decode cL_law 341 = .ok (.aload_n 0, 1) := by decide +kernel
theorem dL_law_342 : decode cL_law 342 = .ok (.iload_n 3, 1) := by decide +kernel
theorem dL_law_343 : decode cL_law 343 = .ok (.iconst 1, 1) := by decide +kernel
theorem dL_law_344 : decode cL_law 344 = .ok (.iadd, 1) := by decide +kernel
theorem dL_law_345 : decode cL_law 345 = .ok (.iaload, 1) := by decide +kernel
theorem dL_law_346 : decode cL_law 346 = .ok (.aload_n 0, 1) := by decide +kernel
theorem dL_law_347 : decode cL_law 347 = .ok (.iload_n 3, 1) := by decide +kernel
theorem dL_law_348 : decode cL_law 348 = .ok (.iconst 2, 1) := by decide +kernel
theorem dL_law_349 : decode cL_law 349 = .ok (.iadd, 1) := by decide +kernel
theorem dL_law_350 : decode cL_law 350 = .ok (.iaload, 1) := by decide +kernel
theorem dL_law_351 : decode cL_law 351 = .ok (.invokevirtual 41, 3) := by decide +kernel
theorem dL_law_354 : decode cL_law 354 = .ok (.aload_n 2, 1) := by decide +kernel
theorem dL_law_355 : decode cL_law 355 = .ok (.aload_n 0, 1) := by decide +kernel
theorem dL_law_356 : decode cL_law 356 = .ok (.iload_n 3, 1) := by decide +kernel
theorem dL_law_357 : decode cL_law 357 = .ok (.iconst 1, 1) := by decide +kernel
theorem dL_law_358 : decode cL_law 358 = .ok (.iadd, 1) := by decide +kernel
theorem dL_law_359 : decode cL_law 359 = .ok (.iaload, 1) := by decide +kernel
theorem dL_law_360 : decode cL_law 360 = .ok (.aload_n 0, 1) := by decide +kernel
theorem dL_law_361 : decode cL_law 361 = .ok (.iload_n 3, 1) := by decide +kernel
theorem dL_law_362 : decode cL_law 362 = .ok (.iconst 2, 1) := by decide +kernel
theorem dL_law_363 : decode cL_law 363 = .ok (.iadd, 1) := by decide +kernel
theorem dL_law_364 : decode cL_law 364 = .ok (.iaload, 1) := by decide +kernel
theorem dL_law_365 : decode cL_law 365 = .ok (.invokevirtual 44, 3) := by decide +kernel
theorem dL_law_368 : decode cL_law 368 = .ok (.if_icmp .eq 972, 3) := by decide +kernel
theorem dL_law_371 : decode cL_law 371 = .ok (.iconst 0, 1) := by decide +kernel
theorem dL_law_372 : decode cL_law 372 = .ok (.ireturn, 1) := by decide +kernel
theorem dL_law_373 : decode cL_law 373 = .ok (.aload_n 1, 1) := by decide +kernel
theorem dL_law_374 : decode cL_law 374 = .ok (.aload_n 0, 1) := by decide +kernel
theorem dL_law_375 : decode cL_law 375 = .ok (.iload_n 3, 1) := by decide +kernel
theorem dL_law_376 : decode cL_law 376 = .ok (.iconst 1, 1) := by decide +kernel
theorem dL_law_377 : decode cL_law 377 = .ok (.iadd, 1) := by decide +kernel
theorem dL_law_378 : decode cL_law 378 = .ok (.iaload, 1) := by decide +kernel
theorem dL_law_379 : decode cL_law 379 = .ok (.aload_n 0, 1) := by decide +kernel
theorem dL_law_380 : decode cL_law 380 = .ok (.iload_n 3, 1) := by decide +kernel
theorem dL_law_381 : decode cL_law 381 = .ok (.iconst 2, 1) := by decide +kernel
theorem dL_law_382 : decode cL_law 382 = .ok (.iadd, 1) := by decide +kernel
theorem dL_law_383 : decode cL_law 383 = .ok (.iaload, 1) := by decide +kernel
theorem dL_law_384 : decode cL_law 384 = .ok (.aload_n 0, 1) := by decide +kernel
theorem dL_law_385 : decode cL_law 385 = .ok (.iload_n 3, 1) := by decide +kernel
theorem dL_law_386 : decode cL_law 386 = .ok (.iconst 3, 1) := by decide +kernel
theorem dL_law_387 : decode cL_law 387 = .ok (.iadd, 1) := by decide +kernel
theorem dL_law_388 : decode cL_law 388 = .ok (.iaload, 1) := by decide +kernel
theorem dL_law_389 : decode cL_law 389 = .ok (.invokevirtual 45, 3) := by decide +kernel
theorem dL_law_392 : decode cL_law 392 = .ok (.aload_n 2, 1) := by decide +kernel
theorem dL_law_393 : decode cL_law 393 = .ok (.aload_n 0, 1) := by decide +kernel
theorem dL_law_394 : decode cL_law 394 = .ok (.iload_n 3, 1) := by decide +kernel
theorem dL_law_395 : decode cL_law 395 = .ok (.iconst 1, 1) := by decide +kernel
theorem dL_law_396 : decode cL_law 396 = .ok (.iadd, 1) := by decide +kernel
theorem dL_law_397 : decode cL_law 397 = .ok (.iaload, 1) := by decide +kernel
theorem dL_law_398 : decode cL_law 398 = .ok (.aload_n 0, 1) := by decide +kernel
theorem dL_law_399 : decode cL_law 399 = .ok (.iload_n 3, 1) := by decide +kernel
theorem dL_law_400 : decode cL_law 400 = .ok (.iconst 2, 1) := by decide +kernel
theorem dL_law_401 : decode cL_law 401 = .ok (.iadd, 1) := by decide +kernel
theorem dL_law_402 : decode cL_law 402 = .ok (.iaload, 1) := by decide +kernel
theorem dL_law_403 : decode cL_law 403 = .ok (.aload_n 0, 1) := by decide +kernel
theorem dL_law_404 : decode cL_law 404 = .ok (.iload_n 3, 1) := by decide +kernel
theorem dL_law_405 : decode cL_law 405 = .ok (.iconst 3, 1) := by decide +kernel
theorem dL_law_406 : decode cL_law 406 = .ok (.iadd, 1) := by decide +kernel
theorem dL_law_407 : decode cL_law 407 = .ok (.iaload, 1) := by decide +kernel
theorem dL_law_408 : decode cL_law 408 = .ok (.invokevirtual 48, 3) := by decide +kernel
theorem dL_law_411 : decode cL_law 411 = .ok (.if_icmp .eq 929, 3) := by decide +kernel
theorem dL_law_414 : decode cL_law 414 = .ok (.iconst 0, 1) := by decide +kernel
theorem dL_law_415 : decode cL_law 415 = .ok (.ireturn, 1) := by decide +kernel
theorem dL_law_416 : decode cL_law 416 = .ok (.aload_n 1, 1) := by decide +kernel
theorem dL_law_417 : decode cL_law 417 = .ok (.aload_n 0, 1) := by decide +kernel
theorem dL_law_418 : decode cL_law 418 = .ok (.iload_n 3, 1) := by decide +kernel
theorem dL_law_419 : decode cL_law 419 = .ok (.iconst 1, 1) := by decide +kernel
theorem dL_law_420 : decode cL_law 420 = .ok (.iadd, 1) := by decide +kernel
theorem dL_law_421 : decode cL_law 421 = .ok (.iaload, 1) := by decide +kernel
theorem dL_law_422 : decode cL_law 422 = .ok (.aload_n 0, 1) := by decide +kernel
theorem dL_law_423 : decode cL_law 423 = .ok (.iload_n 3, 1) := by decide +kernel
theorem dL_law_424 : decode cL_law 424 = .ok (.iconst 2, 1) := by decide +kernel
theorem dL_law_425 : decode cL_law 425 = .ok (.iadd, 1) := by decide +kernel
theorem dL_law_426 : decode cL_law 426 = .ok (.iaload, 1) := by decide +kernel
theorem dL_law_427 : decode cL_law 427 = .ok (.invokevirtual 49, 3) := by decide +kernel
theorem dL_law_430 : decode cL_law 430 = .ok (.aload_n 2, 1) := by decide +kernel
theorem dL_law_431 : decode cL_law 431 = .ok (.aload_n 0, 1) := by decide +kernel
theorem dL_law_432 : decode cL_law 432 = .ok (.iload_n 3, 1) := by decide +kernel
theorem dL_law_433 : decode cL_law 433 = .ok (.iconst 1, 1) := by decide +kernel
theorem dL_law_434 : decode cL_law 434 = .ok (.iadd, 1) := by decide +kernel
theorem dL_law_435 : decode cL_law 435 = .ok (.iaload, 1) := by decide +kernel
theorem dL_law_436 : decode cL_law 436 = .ok (.aload_n 0, 1) := by decide +kernel
theorem dL_law_437 : decode cL_law 437 = .ok (.iload_n 3, 1) := by decide +kernel
theorem dL_law_438 : decode cL_law 438 = .ok (.iconst 2, 1) := by decide +kernel
theorem dL_law_439 : decode cL_law 439 = .ok (.iadd, 1) := by decide +kernel
theorem dL_law_440 : decode cL_law 440 = .ok (.iaload, 1) := by decide +kernel
theorem dL_law_441 : decode cL_law 441 = .ok (.invokevirtual 52, 3) := by decide +kernel
theorem dL_law_444 : decode cL_law 444 = .ok (.if_icmp .eq 896, 3) := by decide +kernel
theorem dL_law_447 : decode cL_law 447 = .ok (.iconst 0, 1) := by decide +kernel
theorem dL_law_448 : decode cL_law 448 = .ok (.ireturn, 1) := by decide +kernel
theorem dL_law_449 : decode cL_law 449 = .ok (.aload_n 1, 1) := by decide +kernel
theorem dL_law_450 : decode cL_law 450 = .ok (.aload_n 0, 1) := by decide +kernel
theorem dL_law_451 : decode cL_law 451 = .ok (.iload_n 3, 1) := by decide +kernel
theorem dL_law_452 : decode cL_law 452 = .ok (.iconst 1, 1) := by decide +kernel
theorem dL_law_453 : decode cL_law 453 = .ok (.iadd, 1) := by decide +kernel
theorem dL_law_454 : decode cL_law 454 = .ok (.iaload, 1) := by decide +kernel
theorem dL_law_455 : decode cL_law 455 = .ok (.invokevirtual 53, 3) := by decide +kernel
theorem dL_law_458 : decode cL_law 458 = .ok (.aload_n 2, 1) := by decide +kernel
theorem dL_law_459 : decode cL_law 459 = .ok (.aload_n 0, 1) := by decide +kernel
theorem dL_law_460 : decode cL_law 460 = .ok (.iload_n 3, 1) := by decide +kernel
theorem dL_law_461 : decode cL_law 461 = .ok (.iconst 1, 1) := by decide +kernel
theorem dL_law_462 : decode cL_law 462 = .ok (.iadd, 1) := by decide +kernel
theorem dL_law_463 : decode cL_law 463 = .ok (.iaload, 1) := by decide +kernel
theorem dL_law_464 : decode cL_law 464 = .ok (.invokevirtual 56, 3) := by decide +kernel
theorem dL_law_467 : decode cL_law 467 = .ok (.if_icmp .eq 873, 3) := by decide +kernel
theorem dL_law_470 : decode cL_law 470 = .ok (.iconst 0, 1) := by decide +kernel
theorem dL_law_471 : decode cL_law 471 = .ok (.ireturn, 1) := by decide +kernel
theorem dL_law_472 : decode cL_law 472 = .ok (.aload_n 1, 1) := by decide +kernel
theorem dL_law_473 : decode cL_law 473 = .ok (.aload_n 0, 1) := by decide +kernel
theorem dL_law_474 : decode cL_law 474 = .ok (.iload_n 3, 1) := by decide +kernel
theorem dL_law_475 : decode cL_law 475 = .ok (.iconst 1, 1) := by decide +kernel
theorem dL_law_476 : decode cL_law 476 = .ok (.iadd, 1) := by decide +kernel
theorem dL_law_477 : decode cL_law 477 = .ok (.iaload, 1) := by decide +kernel
theorem dL_law_478 : decode cL_law 478 = .ok (.aload_n 0, 1) := by decide +kernel
theorem dL_law_479 : decode cL_law 479 = .ok (.iload_n 3, 1) := by decide +kernel
theorem dL_law_480 : decode cL_law 480 = .ok (.iconst 2, 1) := by decide +kernel
theorem dL_law_481 : decode cL_law 481 = .ok (.iadd, 1) := by decide +kernel
theorem dL_law_482 : decode cL_law 482 = .ok (.iaload, 1) := by decide +kernel
theorem dL_law_483 : decode cL_law 483 = .ok (.invokevirtual 57, 3) := by decide +kernel
theorem dL_law_486 : decode cL_law 486 = .ok (.aload_n 2, 1) := by decide +kernel
theorem dL_law_487 : decode cL_law 487 = .ok (.aload_n 0, 1) := by decide +kernel
theorem dL_law_488 : decode cL_law 488 = .ok (.iload_n 3, 1) := by decide +kernel
theorem dL_law_489 : decode cL_law 489 = .ok (.iconst 1, 1) := by decide +kernel
theorem dL_law_490 : decode cL_law 490 = .ok (.iadd, 1) := by decide +kernel
theorem dL_law_491 : decode cL_law 491 = .ok (.iaload, 1) := by decide +kernel
theorem dL_law_492 : decode cL_law 492 = .ok (.aload_n 0, 1) := by decide +kernel
theorem dL_law_493 : decode cL_law 493 = .ok (.iload_n 3, 1) := by decide +kernel
theorem dL_law_494 : decode cL_law 494 = .ok (.iconst 2, 1) := by decide +kernel
theorem dL_law_495 : decode cL_law 495 = .ok (.iadd, 1) := by decide +kernel
theorem dL_law_496 : decode cL_law 496 = .ok (.iaload, 1) := by decide +kernel
theorem dL_law_497 : decode cL_law 497 = .ok (.invokevirtual 60, 3) := by decide +kernel
theorem dL_law_500 : decode cL_law 500 = .ok (.if_icmp .eq 840, 3) := by decide +kernel
theorem dL_law_503 : decode cL_law 503 = .ok (.iconst 0, 1) := by decide +kernel
theorem dL_law_504 : decode cL_law 504 = .ok (.ireturn, 1) := by decide +kernel
theorem dL_law_505 : decode cL_law 505 = .ok (.aload_n 1, 1) := by decide +kernel
theorem dL_law_506 : decode cL_law 506 = .ok (.aload_n 0, 1) := by decide +kernel
theorem dL_law_507 : decode cL_law 507 = .ok (.iload_n 3, 1) := by decide +kernel
theorem dL_law_508 : decode cL_law 508 = .ok (.iconst 1, 1) := by decide +kernel
theorem dL_law_509 : decode cL_law 509 = .ok (.iadd, 1) := by decide +kernel
theorem dL_law_510 : decode cL_law 510 = .ok (.iaload, 1) := by decide +kernel
theorem dL_law_511 : decode cL_law 511 = .ok (.aload_n 0, 1) := by decide +kernel
theorem dL_law_512 : decode cL_law 512 = .ok (.iload_n 3, 1) := by decide +kernel
theorem dL_law_513 : decode cL_law 513 = .ok (.iconst 2, 1) := by decide +kernel
theorem dL_law_514 : decode cL_law 514 = .ok (.iadd, 1) := by decide +kernel
theorem dL_law_515 : decode cL_law 515 = .ok (.iaload, 1) := by decide +kernel
theorem dL_law_516 : decode cL_law 516 = .ok (.invokevirtual 61, 3) := by decide +kernel
theorem dL_law_519 : decode cL_law 519 = .ok (.aload_n 2, 1) := by decide +kernel
theorem dL_law_520 : decode cL_law 520 = .ok (.aload_n 0, 1) := by decide +kernel
theorem dL_law_521 : decode cL_law 521 = .ok (.iload_n 3, 1) := by decide +kernel
theorem dL_law_522 : decode cL_law 522 = .ok (.iconst 1, 1) := by decide +kernel
theorem dL_law_523 : decode cL_law 523 = .ok (.iadd, 1) := by decide +kernel
theorem dL_law_524 : decode cL_law 524 = .ok (.iaload, 1) := by decide +kernel
theorem dL_law_525 : decode cL_law 525 = .ok (.aload_n 0, 1) := by decide +kernel
theorem dL_law_526 : decode cL_law 526 = .ok (.iload_n 3, 1) := by decide +kernel
theorem dL_law_527 : decode cL_law 527 = .ok (.iconst 2, 1) := by decide +kernel
theorem dL_law_528 : decode cL_law 528 = .ok (.iadd, 1) := by decide +kernel
theorem dL_law_529 : decode cL_law 529 = .ok (.iaload, 1) := by decide +kernel
theorem dL_law_530 : decode cL_law 530 = .ok (.invokevirtual 64, 3) := by decide +kernel
theorem dL_law_533 : decode cL_law 533 = .ok (.if_icmp .eq 807, 3) := by decide +kernel
theorem dL_law_536 : decode cL_law 536 = .ok (.iconst 0, 1) := by decide +kernel
theorem dL_law_537 : decode cL_law 537 = .ok (.ireturn, 1) := by decide +kernel
theorem dL_law_538 : decode cL_law 538 = .ok (.aload_n 1, 1) := by decide +kernel
theorem dL_law_539 : decode cL_law 539 = .ok (.aload_n 0, 1) := by decide +kernel
theorem dL_law_540 : decode cL_law 540 = .ok (.iload_n 3, 1) := by decide +kernel
theorem dL_law_541 : decode cL_law 541 = .ok (.iconst 1, 1) := by decide +kernel
theorem dL_law_542 : decode cL_law 542 = .ok (.iadd, 1) := by decide +kernel
theorem dL_law_543 : decode cL_law 543 = .ok (.iaload, 1) := by decide +kernel
theorem dL_law_544 : decode cL_law 544 = .ok (.aload_n 0, 1) := by decide +kernel
theorem dL_law_545 : decode cL_law 545 = .ok (.iload_n 3, 1) := by decide +kernel
theorem dL_law_546 : decode cL_law 546 = .ok (.iconst 2, 1) := by decide +kernel
theorem dL_law_547 : decode cL_law 547 = .ok (.iadd, 1) := by decide +kernel
theorem dL_law_548 : decode cL_law 548 = .ok (.iaload, 1) := by decide +kernel
theorem dL_law_549 : decode cL_law 549 = .ok (.aload_n 0, 1) := by decide +kernel
theorem dL_law_550 : decode cL_law 550 = .ok (.iload_n 3, 1) := by decide +kernel
theorem dL_law_551 : decode cL_law 551 = .ok (.iconst 3, 1) := by decide +kernel
theorem dL_law_552 : decode cL_law 552 = .ok (.iadd, 1) := by decide +kernel
theorem dL_law_553 : decode cL_law 553 = .ok (.iaload, 1) := by decide +kernel
theorem dL_law_554 : decode cL_law 554 = .ok (.invokevirtual 65, 3) := by decide +kernel
theorem dL_law_557 : decode cL_law 557 = .ok (.aload_n 2, 1) := by decide +kernel
theorem dL_law_558 : decode cL_law 558 = .ok (.aload_n 0, 1) := by decide +kernel
theorem dL_law_559 : decode cL_law 559 = .ok (.iload_n 3, 1) := by decide +kernel
theorem dL_law_560 : decode cL_law 560 = .ok (.iconst 1, 1) := by decide +kernel
theorem dL_law_561 : decode cL_law 561 = .ok (.iadd, 1) := by decide +kernel
theorem dL_law_562 : decode cL_law 562 = .ok (.iaload, 1) := by decide +kernel
theorem dL_law_563 : decode cL_law 563 = .ok (.aload_n 0, 1) := by decide +kernel
theorem dL_law_564 : decode cL_law 564 = .ok (.iload_n 3, 1) := by decide +kernel
theorem dL_law_565 : decode cL_law 565 = .ok (.iconst 2, 1) := by decide +kernel
theorem dL_law_566 : decode cL_law 566 = .ok (.iadd, 1) := by decide +kernel
theorem dL_law_567 : decode cL_law 567 = .ok (.iaload, 1) := by decide +kernel
theorem dL_law_568 : decode cL_law 568 = .ok (.aload_n 0, 1) := by decide +kernel
theorem dL_law_569 : decode cL_law 569 = .ok (.iload_n 3, 1) := by decide +kernel
theorem dL_law_570 : decode cL_law 570 = .ok (.iconst 3, 1) := by decide +kernel
theorem dL_law_571 : decode cL_law 571 = .ok (.iadd, 1) := by decide +kernel
theorem dL_law_572 : decode cL_law 572 = .ok (.iaload, 1) := by decide +kernel
theorem dL_law_573 : decode cL_law 573 = .ok (.invokevirtual 68, 3) := by decide +kernel
theorem dL_law_576 : decode cL_law 576 = .ok (.if_icmp .eq 764, 3) := by decide +kernel
theorem dL_law_579 : decode cL_law 579 = .ok (.iconst 0, 1) := by decide +kernel
theorem dL_law_580 : decode cL_law 580 = .ok (.ireturn, 1) := by decide +kernel
theorem dL_law_581 : decode cL_law 581 = .ok (.aload_n 1, 1) := by decide +kernel
theorem dL_law_582 : decode cL_law 582 = .ok (.aload_n 0, 1) := by decide +kernel
theorem dL_law_583 : decode cL_law 583 = .ok (.iload_n 3, 1) := by decide +kernel
theorem dL_law_584 : decode cL_law 584 = .ok (.iconst 1, 1) := by decide +kernel
theorem dL_law_585 : decode cL_law 585 = .ok (.iadd, 1) := by decide +kernel
theorem dL_law_586 : decode cL_law 586 = .ok (.iaload, 1) := by decide +kernel
theorem dL_law_587 : decode cL_law 587 = .ok (.aload_n 0, 1) := by decide +kernel
theorem dL_law_588 : decode cL_law 588 = .ok (.iload_n 3, 1) := by decide +kernel
theorem dL_law_589 : decode cL_law 589 = .ok (.iconst 2, 1) := by decide +kernel
theorem dL_law_590 : decode cL_law 590 = .ok (.iadd, 1) := by decide +kernel
theorem dL_law_591 : decode cL_law 591 = .ok (.iaload, 1) := by decide +kernel
theorem dL_law_592 : decode cL_law 592 = .ok (.invokevirtual 69, 3) := by decide +kernel
theorem dL_law_595 : decode cL_law 595 = .ok (.aload_n 2, 1) := by decide +kernel
theorem dL_law_596 : decode cL_law 596 = .ok (.aload_n 0, 1) := by decide +kernel
theorem dL_law_597 : decode cL_law 597 = .ok (.iload_n 3, 1) := by decide +kernel
theorem dL_law_598 : decode cL_law 598 = .ok (.iconst 1, 1) := by decide +kernel
theorem dL_law_599 : decode cL_law 599 = .ok (.iadd, 1) := by decide +kernel
theorem dL_law_600 : decode cL_law 600 = .ok (.iaload, 1) := by decide +kernel
theorem dL_law_601 : decode cL_law 601 = .ok (.aload_n 0, 1) := by decide +kernel
theorem dL_law_602 : decode cL_law 602 = .ok (.iload_n 3, 1) := by decide +kernel
theorem dL_law_603 : decode cL_law 603 = .ok (.iconst 2, 1) := by decide +kernel
theorem dL_law_604 : decode cL_law 604 = .ok (.iadd, 1) := by decide +kernel
theorem dL_law_605 : decode cL_law 605 = .ok (.iaload, 1) := by decide +kernel
theorem dL_law_606 : decode cL_law 606 = .ok (.invokevirtual 72, 3) := by decide +kernel
theorem dL_law_609 : decode cL_law 609 = .ok (.if_icmp .eq 731, 3) := by decide +kernel
theorem dL_law_612 : decode cL_law 612 = .ok (.iconst 0, 1) := by decide +kernel
theorem dL_law_613 : decode cL_law 613 = .ok (.ireturn, 1) := by decide +kernel
theorem dL_law_614 : decode cL_law 614 = .ok (.aload_n 1, 1) := by decide +kernel
theorem dL_law_615 : decode cL_law 615 = .ok (.aload_n 0, 1) := by decide +kernel
theorem dL_law_616 : decode cL_law 616 = .ok (.iload_n 3, 1) := by decide +kernel
theorem dL_law_617 : decode cL_law 617 = .ok (.iconst 1, 1) := by decide +kernel
theorem dL_law_618 : decode cL_law 618 = .ok (.iadd, 1) := by decide +kernel
theorem dL_law_619 : decode cL_law 619 = .ok (.iaload, 1) := by decide +kernel
theorem dL_law_620 : decode cL_law 620 = .ok (.aload_n 0, 1) := by decide +kernel
theorem dL_law_621 : decode cL_law 621 = .ok (.iload_n 3, 1) := by decide +kernel
theorem dL_law_622 : decode cL_law 622 = .ok (.iconst 2, 1) := by decide +kernel
theorem dL_law_623 : decode cL_law 623 = .ok (.iadd, 1) := by decide +kernel
theorem dL_law_624 : decode cL_law 624 = .ok (.iaload, 1) := by decide +kernel
theorem dL_law_625 : decode cL_law 625 = .ok (.aload_n 0, 1) := by decide +kernel
theorem dL_law_626 : decode cL_law 626 = .ok (.iload_n 3, 1) := by decide +kernel
theorem dL_law_627 : decode cL_law 627 = .ok (.iconst 3, 1) := by decide +kernel
theorem dL_law_628 : decode cL_law 628 = .ok (.iadd, 1) := by decide +kernel
theorem dL_law_629 : decode cL_law 629 = .ok (.iaload, 1) := by decide +kernel
theorem dL_law_630 : decode cL_law 630 = .ok (.invokevirtual 73, 3) := by decide +kernel
theorem dL_law_633 : decode cL_law 633 = .ok (.aload_n 2, 1) := by decide +kernel
theorem dL_law_634 : decode cL_law 634 = .ok (.aload_n 0, 1) := by decide +kernel
theorem dL_law_635 : decode cL_law 635 = .ok (.iload_n 3, 1) := by decide +kernel
theorem dL_law_636 : decode cL_law 636 = .ok (.iconst 1, 1) := by decide +kernel
theorem dL_law_637 : decode cL_law 637 = .ok (.iadd, 1) := by decide +kernel
theorem dL_law_638 : decode cL_law 638 = .ok (.iaload, 1) := by decide +kernel
theorem dL_law_639 : decode cL_law 639 = .ok (.aload_n 0, 1) := by decide +kernel
theorem dL_law_640 : decode cL_law 640 = .ok (.iload_n 3, 1) := by decide +kernel
theorem dL_law_641 : decode cL_law 641 = .ok (.iconst 2, 1) := by decide +kernel
theorem dL_law_642 : decode cL_law 642 = .ok (.iadd, 1) := by decide +kernel
theorem dL_law_643 : decode cL_law 643 = .ok (.iaload, 1) := by decide +kernel
theorem dL_law_644 : decode cL_law 644 = .ok (.aload_n 0, 1) := by decide +kernel
theorem dL_law_645 : decode cL_law 645 = .ok (.iload_n 3, 1) := by decide +kernel
theorem dL_law_646 : decode cL_law 646 = .ok (.iconst 3, 1) := by decide +kernel
theorem dL_law_647 : decode cL_law 647 = .ok (.iadd, 1) := by decide +kernel
theorem dL_law_648 : decode cL_law 648 = .ok (.iaload, 1) := by decide +kernel
theorem dL_law_649 : decode cL_law 649 = .ok (.invokevirtual 76, 3) := by decide +kernel
theorem dL_law_652 : decode cL_law 652 = .ok (.if_icmp .eq 688, 3) := by decide +kernel
theorem dL_law_655 : decode cL_law 655 = .ok (.iconst 0, 1) := by decide +kernel
theorem dL_law_656 : decode cL_law 656 = .ok (.ireturn, 1) := by decide +kernel
theorem dL_law_657 : decode cL_law 657 = .ok (.aload_n 1, 1) := by decide +kernel
theorem dL_law_658 : decode cL_law 658 = .ok (.aload_n 0, 1) := by decide +kernel
theorem dL_law_659 : decode cL_law 659 = .ok (.iload_n 3, 1) := by decide +kernel
theorem dL_law_660 : decode cL_law 660 = .ok (.iconst 1, 1) := by decide +kernel
theorem dL_law_661 : decode cL_law 661 = .ok (.iadd, 1) := by decide +kernel
theorem dL_law_662 : decode cL_law 662 = .ok (.iaload, 1) := by decide +kernel
theorem dL_law_663 : decode cL_law 663 = .ok (.aload_n 0, 1) := by decide +kernel
theorem dL_law_664 : decode cL_law 664 = .ok (.iload_n 3, 1) := by decide +kernel
theorem dL_law_665 : decode cL_law 665 = .ok (.iconst 2, 1) := by decide +kernel
theorem dL_law_666 : decode cL_law 666 = .ok (.iadd, 1) := by decide +kernel
theorem dL_law_667 : decode cL_law 667 = .ok (.iaload, 1) := by decide +kernel
theorem dL_law_668 : decode cL_law 668 = .ok (.aload_n 0, 1) := by decide +kernel
theorem dL_law_669 : decode cL_law 669 = .ok (.iload_n 3, 1) := by decide +kernel
theorem dL_law_670 : decode cL_law 670 = .ok (.iconst 3, 1) := by decide +kernel
theorem dL_law_671 : decode cL_law 671 = .ok (.iadd, 1) := by decide +kernel
theorem dL_law_672 : decode cL_law 672 = .ok (.iaload, 1) := by decide +kernel
theorem dL_law_673 : decode cL_law 673 = .ok (.invokevirtual 77, 3) := by decide +kernel
theorem dL_law_676 : decode cL_law 676 = .ok (.aload_n 2, 1) := by decide +kernel
theorem dL_law_677 : decode cL_law 677 = .ok (.aload_n 0, 1) := by decide +kernel
theorem dL_law_678 : decode cL_law 678 = .ok (.iload_n 3, 1) := by decide +kernel
theorem dL_law_679 : decode cL_law 679 = .ok (.iconst 1, 1) := by decide +kernel
theorem dL_law_680 : decode cL_law 680 = .ok (.iadd, 1) := by decide +kernel
theorem dL_law_681 : decode cL_law 681 = .ok (.iaload, 1) := by decide +kernel
theorem dL_law_682 : decode cL_law 682 = .ok (.aload_n 0, 1) := by decide +kernel
theorem dL_law_683 : decode cL_law 683 = .ok (.iload_n 3, 1) := by decide +kernel
theorem dL_law_684 : decode cL_law 684 = .ok (.iconst 2, 1) := by decide +kernel
theorem dL_law_685 : decode cL_law 685 = .ok (.iadd, 1) := by decide +kernel
theorem dL_law_686 : decode cL_law 686 = .ok (.iaload, 1) := by decide +kernel
theorem dL_law_687 : decode cL_law 687 = .ok (.aload_n 0, 1) := by decide +kernel
theorem dL_law_688 : decode cL_law 688 = .ok (.iload_n 3, 1) := by decide +kernel
theorem dL_law_689 : decode cL_law 689 = .ok (.iconst 3, 1) := by decide +kernel
theorem dL_law_690 : decode cL_law 690 = .ok (.iadd, 1) := by decide +kernel
theorem dL_law_691 : decode cL_law 691 = .ok (.iaload, 1) := by decide +kernel
theorem dL_law_692 : decode cL_law 692 = .ok (.invokevirtual 80, 3) := by decide +kernel
theorem dL_law_695 : decode cL_law 695 = .ok (.if_icmp .eq 645, 3) := by decide +kernel
theorem dL_law_698 : decode cL_law 698 = .ok (.iconst 0, 1) := by decide +kernel
theorem dL_law_699 : decode cL_law 699 = .ok (.ireturn, 1) := by decide +kernel
theorem dL_law_700 : decode cL_law 700 = .ok (.aload_n 1, 1) := by decide +kernel
theorem dL_law_701 : decode cL_law 701 = .ok (.aload_n 0, 1) := by decide +kernel
theorem dL_law_702 : decode cL_law 702 = .ok (.iload_n 3, 1) := by decide +kernel
theorem dL_law_703 : decode cL_law 703 = .ok (.iconst 1, 1) := by decide +kernel
theorem dL_law_704 : decode cL_law 704 = .ok (.iadd, 1) := by decide +kernel
theorem dL_law_705 : decode cL_law 705 = .ok (.iaload, 1) := by decide +kernel
theorem dL_law_706 : decode cL_law 706 = .ok (.aload_n 0, 1) := by decide +kernel
theorem dL_law_707 : decode cL_law 707 = .ok (.iload_n 3, 1) := by decide +kernel
theorem dL_law_708 : decode cL_law 708 = .ok (.iconst 2, 1) := by decide +kernel
theorem dL_law_709 : decode cL_law 709 = .ok (.iadd, 1) := by decide +kernel
theorem dL_law_710 : decode cL_law 710 = .ok (.iaload, 1) := by decide +kernel
theorem dL_law_711 : decode cL_law 711 = .ok (.invokevirtual 81, 3) := by decide +kernel
theorem dL_law_714 : decode cL_law 714 = .ok (.aload_n 2, 1) := by decide +kernel
theorem dL_law_715 : decode cL_law 715 = .ok (.aload_n 0, 1) := by decide +kernel
theorem dL_law_716 : decode cL_law 716 = .ok (.iload_n 3, 1) := by decide +kernel
theorem dL_law_717 : decode cL_law 717 = .ok (.iconst 1, 1) := by decide +kernel
theorem dL_law_718 : decode cL_law 718 = .ok (.iadd, 1) := by decide +kernel
theorem dL_law_719 : decode cL_law 719 = .ok (.iaload, 1) := by decide +kernel
theorem dL_law_720 : decode cL_law 720 = .ok (.aload_n 0, 1) := by decide +kernel
theorem dL_law_721 : decode cL_law 721 = .ok (.iload_n 3, 1) := by decide +kernel
theorem dL_law_722 : decode cL_law 722 = .ok (.iconst 2, 1) := by decide +kernel
theorem dL_law_723 : decode cL_law 723 = .ok (.iadd, 1) := by decide +kernel
theorem dL_law_724 : decode cL_law 724 = .ok (.iaload, 1) := by decide +kernel
theorem dL_law_725 : decode cL_law 725 = .ok (.invokevirtual 84, 3) := by decide +kernel
theorem dL_law_728 : decode cL_law 728 = .ok (.if_icmp .eq 612, 3) := by decide +kernel
theorem dL_law_731 : decode cL_law 731 = .ok (.iconst 0, 1) := by decide +kernel
theorem dL_law_732 : decode cL_law 732 = .ok (.ireturn, 1) := by decide +kernel
theorem dL_law_733 : decode cL_law 733 = .ok (.aload_n 1, 1) := by decide +kernel
theorem dL_law_734 : decode cL_law 734 = .ok (.aload_n 0, 1) := by decide +kernel
theorem dL_law_735 : decode cL_law 735 = .ok (.iload_n 3, 1) := by decide +kernel
theorem dL_law_736 : decode cL_law 736 = .ok (.iconst 1, 1) := by decide +kernel
theorem dL_law_737 : decode cL_law 737 = .ok (.iadd, 1) := by decide +kernel
theorem dL_law_738 : decode cL_law 738 = .ok (.iaload, 1) := by decide +kernel
theorem dL_law_739 : decode cL_law 739 = .ok (.aload_n 0, 1) := by decide +kernel
theorem dL_law_740 : decode cL_law 740 = .ok (.iload_n 3, 1) := by decide +kernel
theorem dL_law_741 : decode cL_law 741 = .ok (.iconst 2, 1) := by decide +kernel
theorem dL_law_742 : decode cL_law 742 = .ok (.iadd, 1) := by decide +kernel
theorem dL_law_743 : decode cL_law 743 = .ok (.iaload, 1) := by decide +kernel
theorem dL_law_744 : decode cL_law 744 = .ok (.invokevirtual 85, 3) := by decide +kernel
theorem dL_law_747 : decode cL_law 747 = .ok (.aload_n 2, 1) := by decide +kernel
theorem dL_law_748 : decode cL_law 748 = .ok (.aload_n 0, 1) := by decide +kernel
theorem dL_law_749 : decode cL_law 749 = .ok (.iload_n 3, 1) := by decide +kernel
theorem dL_law_750 : decode cL_law 750 = .ok (.iconst 1, 1) := by decide +kernel
theorem dL_law_751 : decode cL_law 751 = .ok (.iadd, 1) := by decide +kernel
theorem dL_law_752 : decode cL_law 752 = .ok (.iaload, 1) := by decide +kernel
theorem dL_law_753 : decode cL_law 753 = .ok (.aload_n 0, 1) := by decide +kernel
theorem dL_law_754 : decode cL_law 754 = .ok (.iload_n 3, 1) := by decide +kernel
theorem dL_law_755 : decode cL_law 755 = .ok (.iconst 2, 1) := by decide +kernel
theorem dL_law_756 : decode cL_law 756 = .ok (.iadd, 1) := by decide +kernel
theorem dL_law_757 : decode cL_law 757 = .ok (.iaload, 1) := by decide +kernel
theorem dL_law_758 : decode cL_law 758 = .ok (.invokevirtual 88, 3) := by decide +kernel
theorem dL_law_761 : decode cL_law 761 = .ok (.if_icmp .eq 579, 3) := by decide +kernel
theorem dL_law_764 : decode cL_law 764 = .ok (.iconst 0, 1) := by decide +kernel
theorem dL_law_765 : decode cL_law 765 = .ok (.ireturn, 1) := by decide +kernel
theorem dL_law_766 : decode cL_law 766 = .ok (.aload_n 1, 1) := by decide +kernel
theorem dL_law_767 : decode cL_law 767 = .ok (.aload_n 0, 1) := by decide +kernel
theorem dL_law_768 : decode cL_law 768 = .ok (.iload_n 3, 1) := by decide +kernel
theorem dL_law_769 : decode cL_law 769 = .ok (.iconst 1, 1) := by decide +kernel
theorem dL_law_770 : decode cL_law 770 = .ok (.iadd, 1) := by decide +kernel
theorem dL_law_771 : decode cL_law 771 = .ok (.iaload, 1) := by decide +kernel
theorem dL_law_772 : decode cL_law 772 = .ok (.aload_n 0, 1) := by decide +kernel
theorem dL_law_773 : decode cL_law 773 = .ok (.iload_n 3, 1) := by decide +kernel
theorem dL_law_774 : decode cL_law 774 = .ok (.iconst 2, 1) := by decide +kernel
theorem dL_law_775 : decode cL_law 775 = .ok (.iadd, 1) := by decide +kernel
theorem dL_law_776 : decode cL_law 776 = .ok (.iaload, 1) := by decide +kernel
theorem dL_law_777 : decode cL_law 777 = .ok (.invokevirtual 89, 3) := by decide +kernel
theorem dL_law_780 : decode cL_law 780 = .ok (.aload_n 2, 1) := by decide +kernel
theorem dL_law_781 : decode cL_law 781 = .ok (.aload_n 0, 1) := by decide +kernel
theorem dL_law_782 : decode cL_law 782 = .ok (.iload_n 3, 1) := by decide +kernel
theorem dL_law_783 : decode cL_law 783 = .ok (.iconst 1, 1) := by decide +kernel
theorem dL_law_784 : decode cL_law 784 = .ok (.iadd, 1) := by decide +kernel
theorem dL_law_785 : decode cL_law 785 = .ok (.iaload, 1) := by decide +kernel
theorem dL_law_786 : decode cL_law 786 = .ok (.aload_n 0, 1) := by decide +kernel
theorem dL_law_787 : decode cL_law 787 = .ok (.iload_n 3, 1) := by decide +kernel
theorem dL_law_788 : decode cL_law 788 = .ok (.iconst 2, 1) := by decide +kernel
theorem dL_law_789 : decode cL_law 789 = .ok (.iadd, 1) := by decide +kernel
theorem dL_law_790 : decode cL_law 790 = .ok (.iaload, 1) := by decide +kernel
theorem dL_law_791 : decode cL_law 791 = .ok (.invokevirtual 92, 3) := by decide +kernel
theorem dL_law_794 : decode cL_law 794 = .ok (.if_icmp .eq 546, 3) := by decide +kernel
theorem dL_law_797 : decode cL_law 797 = .ok (.iconst 0, 1) := by decide +kernel
theorem dL_law_798 : decode cL_law 798 = .ok (.ireturn, 1) := by decide +kernel
theorem dL_law_799 : decode cL_law 799 = .ok (.aload_n 1, 1) := by decide +kernel
theorem dL_law_800 : decode cL_law 800 = .ok (.aload_n 0, 1) := by decide +kernel
theorem dL_law_801 : decode cL_law 801 = .ok (.iload_n 3, 1) := by decide +kernel
theorem dL_law_802 : decode cL_law 802 = .ok (.iconst 1, 1) := by decide +kernel
theorem dL_law_803 : decode cL_law 803 = .ok (.iadd, 1) := by decide +kernel
theorem dL_law_804 : decode cL_law 804 = .ok (.iaload, 1) := by decide +kernel
theorem dL_law_805 : decode cL_law 805 = .ok (.aload_n 0, 1) := by decide +kernel
theorem dL_law_806 : decode cL_law 806 = .ok (.iload_n 3, 1) := by decide +kernel
theorem dL_law_807 : decode cL_law 807 = .ok (.iconst 2, 1) := by decide +kernel
theorem dL_law_808 : decode cL_law 808 = .ok (.iadd, 1) := by decide +kernel
theorem dL_law_809 : decode cL_law 809 = .ok (.iaload, 1) := by decide +kernel
theorem dL_law_810 : decode cL_law 810 = .ok (.aload_n 0, 1) := by decide +kernel
theorem dL_law_811 : decode cL_law 811 = .ok (.iload_n 3, 1) := by decide +kernel
theorem dL_law_812 : decode cL_law 812 = .ok (.iconst 3, 1) := by decide +kernel
theorem dL_law_813 : decode cL_law 813 = .ok (.iadd, 1) := by decide +kernel
theorem dL_law_814 : decode cL_law 814 = .ok (.iaload, 1) := by decide +kernel
theorem dL_law_815 : decode cL_law 815 = .ok (.invokevirtual 93, 3) := by decide +kernel
theorem dL_law_818 : decode cL_law 818 = .ok (.aload_n 2, 1) := by decide +kernel
theorem dL_law_819 : decode cL_law 819 = .ok (.aload_n 0, 1) := by decide +kernel
theorem dL_law_820 : decode cL_law 820 = .ok (.iload_n 3, 1) := by decide +kernel
theorem dL_law_821 : decode cL_law 821 = .ok (.iconst 1, 1) := by decide +kernel
theorem dL_law_822 : decode cL_law 822 = .ok (.iadd, 1) := by decide +kernel
theorem dL_law_823 : decode cL_law 823 = .ok (.iaload, 1) := by decide +kernel
theorem dL_law_824 : decode cL_law 824 = .ok (.aload_n 0, 1) := by decide +kernel
theorem dL_law_825 : decode cL_law 825 = .ok (.iload_n 3, 1) := by decide +kernel
theorem dL_law_826 : decode cL_law 826 = .ok (.iconst 2, 1) := by decide +kernel
theorem dL_law_827 : decode cL_law 827 = .ok (.iadd, 1) := by decide +kernel
theorem dL_law_828 : decode cL_law 828 = .ok (.iaload, 1) := by decide +kernel
theorem dL_law_829 : decode cL_law 829 = .ok (.aload_n 0, 1) := by decide +kernel
theorem dL_law_830 : decode cL_law 830 = .ok (.iload_n 3, 1) := by decide +kernel
theorem dL_law_831 : decode cL_law 831 = .ok (.iconst 3, 1) := by decide +kernel
theorem dL_law_832 : decode cL_law 832 = .ok (.iadd, 1) := by decide +kernel
theorem dL_law_833 : decode cL_law 833 = .ok (.iaload, 1) := by decide +kernel
theorem dL_law_834 : decode cL_law 834 = .ok (.invokevirtual 96, 3) := by decide +kernel
theorem dL_law_837 : decode cL_law 837 = .ok (.if_icmp .eq 503, 3) := by decide +kernel
theorem dL_law_840 : decode cL_law 840 = .ok (.iconst 0, 1) := by decide +kernel
theorem dL_law_841 : decode cL_law 841 = .ok (.ireturn, 1) := by decide +kernel
theorem dL_law_842 : decode cL_law 842 = .ok (.aload_n 1, 1) := by decide +kernel
theorem dL_law_843 : decode cL_law 843 = .ok (.aload_n 0, 1) := by decide +kernel
theorem dL_law_844 : decode cL_law 844 = .ok (.iload_n 3, 1) := by decide +kernel
theorem dL_law_845 : decode cL_law 845 = .ok (.iconst 1, 1) := by decide +kernel
theorem dL_law_846 : decode cL_law 846 = .ok (.iadd, 1) := by decide +kernel
theorem dL_law_847 : decode cL_law 847 = .ok (.iaload, 1) := by decide +kernel
theorem dL_law_848 : decode cL_law 848 = .ok (.invokevirtual 97, 3) := by decide +kernel
theorem dL_law_851 : decode cL_law 851 = .ok (.aload_n 2, 1) := by decide +kernel
theorem dL_law_852 : decode cL_law 852 = .ok (.aload_n 0, 1) := by decide +kernel
theorem dL_law_853 : decode cL_law 853 = .ok (.iload_n 3, 1) := by decide +kernel
theorem dL_law_854 : decode cL_law 854 = .ok (.iconst 1, 1) := by decide +kernel
theorem dL_law_855 : decode cL_law 855 = .ok (.iadd, 1) := by decide +kernel
theorem dL_law_856 : decode cL_law 856 = .ok (.iaload, 1) := by decide +kernel
theorem dL_law_857 : decode cL_law 857 = .ok (.invokevirtual 100, 3) := by decide +kernel
theorem dL_law_860 : decode cL_law 860 = .ok (.if_icmp .eq 480, 3) := by decide +kernel
theorem dL_law_863 : decode cL_law 863 = .ok (.iconst 0, 1) := by decide +kernel
theorem dL_law_864 : decode cL_law 864 = .ok (.ireturn, 1) := by decide +kernel
theorem dL_law_865 : decode cL_law 865 = .ok (.aload_n 1, 1) := by decide +kernel
theorem dL_law_866 : decode cL_law 866 = .ok (.aload_n 0, 1) := by decide +kernel
theorem dL_law_867 : decode cL_law 867 = .ok (.iload_n 3, 1) := by decide +kernel
theorem dL_law_868 : decode cL_law 868 = .ok (.iconst 1, 1) := by decide +kernel
theorem dL_law_869 : decode cL_law 869 = .ok (.iadd, 1) := by decide +kernel
theorem dL_law_870 : decode cL_law 870 = .ok (.iaload, 1) := by decide +kernel
theorem dL_law_871 : decode cL_law 871 = .ok (.aload_n 0, 1) := by decide +kernel
theorem dL_law_872 : decode cL_law 872 = .ok (.iload_n 3, 1) := by decide +kernel
theorem dL_law_873 : decode cL_law 873 = .ok (.iconst 2, 1) := by decide +kernel
theorem dL_law_874 : decode cL_law 874 = .ok (.iadd, 1) := by decide +kernel
theorem dL_law_875 : decode cL_law 875 = .ok (.iaload, 1) := by decide +kernel
theorem dL_law_876 : decode cL_law 876 = .ok (.aload_n 0, 1) := by decide +kernel
theorem dL_law_877 : decode cL_law 877 = .ok (.iload_n 3, 1) := by decide +kernel
theorem dL_law_878 : decode cL_law 878 = .ok (.iconst 3, 1) := by decide +kernel
theorem dL_law_879 : decode cL_law 879 = .ok (.iadd, 1) := by decide +kernel
theorem dL_law_880 : decode cL_law 880 = .ok (.iaload, 1) := by decide +kernel
theorem dL_law_881 : decode cL_law 881 = .ok (.invokevirtual 101, 3) := by decide +kernel
theorem dL_law_884 : decode cL_law 884 = .ok (.aload_n 2, 1) := by decide +kernel
theorem dL_law_885 : decode cL_law 885 = .ok (.aload_n 0, 1) := by decide +kernel
theorem dL_law_886 : decode cL_law 886 = .ok (.iload_n 3, 1) := by decide +kernel
theorem dL_law_887 : decode cL_law 887 = .ok (.iconst 1, 1) := by decide +kernel
theorem dL_law_888 : decode cL_law 888 = .ok (.iadd, 1) := by decide +kernel
theorem dL_law_889 : decode cL_law 889 = .ok (.iaload, 1) := by decide +kernel
theorem dL_law_890 : decode cL_law 890 = .ok (.aload_n 0, 1) := by decide +kernel
theorem dL_law_891 : decode cL_law 891 = .ok (.iload_n 3, 1) := by decide +kernel
theorem dL_law_892 : decode cL_law 892 = .ok (.iconst 2, 1) := by decide +kernel
theorem dL_law_893 : decode cL_law 893 = .ok (.iadd, 1) := by decide +kernel
theorem dL_law_894 : decode cL_law 894 = .ok (.iaload, 1) := by decide +kernel
theorem dL_law_895 : decode cL_law 895 = .ok (.aload_n 0, 1) := by decide +kernel
theorem dL_law_896 : decode cL_law 896 = .ok (.iload_n 3, 1) := by decide +kernel
theorem dL_law_897 : decode cL_law 897 = .ok (.iconst 3, 1) := by decide +kernel
theorem dL_law_898 : decode cL_law 898 = .ok (.iadd, 1) := by decide +kernel
theorem dL_law_899 : decode cL_law 899 = .ok (.iaload, 1) := by decide +kernel
theorem dL_law_900 : decode cL_law 900 = .ok (.invokevirtual 104, 3) := by decide +kernel
theorem dL_law_903 : decode cL_law 903 = .ok (.if_icmp .eq 437, 3) := by decide +kernel
theorem dL_law_906 : decode cL_law 906 = .ok (.iconst 0, 1) := by decide +kernel
theorem dL_law_907 : decode cL_law 907 = .ok (.ireturn, 1) := by decide +kernel
theorem dL_law_908 : decode cL_law 908 = .ok (.aload_n 1, 1) := by decide +kernel
theorem dL_law_909 : decode cL_law 909 = .ok (.aload_n 0, 1) := by decide +kernel
theorem dL_law_910 : decode cL_law 910 = .ok (.iload_n 3, 1) := by decide +kernel
theorem dL_law_911 : decode cL_law 911 = .ok (.iconst 1, 1) := by decide +kernel
theorem dL_law_912 : decode cL_law 912 = .ok (.iadd, 1) := by decide +kernel
theorem dL_law_913 : decode cL_law 913 = .ok (.iaload, 1) := by decide +kernel
theorem dL_law_914 : decode cL_law 914 = .ok (.aload_n 0, 1) := by decide +kernel
theorem dL_law_915 : decode cL_law 915 = .ok (.iload_n 3, 1) := by decide +kernel
theorem dL_law_916 : decode cL_law 916 = .ok (.iconst 2, 1) := by decide +kernel
theorem dL_law_917 : decode cL_law 917 = .ok (.iadd, 1) := by decide +kernel
theorem dL_law_918 : decode cL_law 918 = .ok (.iaload, 1) := by decide +kernel
theorem dL_law_919 : decode cL_law 919 = .ok (.aload_n 0, 1) := by decide +kernel
theorem dL_law_920 : decode cL_law 920 = .ok (.iload_n 3, 1) := by decide +kernel
theorem dL_law_921 : decode cL_law 921 = .ok (.iconst 3, 1) := by decide +kernel
theorem dL_law_922 : decode cL_law 922 = .ok (.iadd, 1) := by decide +kernel
theorem dL_law_923 : decode cL_law 923 = .ok (.iaload, 1) := by decide +kernel
theorem dL_law_924 : decode cL_law 924 = .ok (.invokevirtual 105, 3) := by decide +kernel
theorem dL_law_927 : decode cL_law 927 = .ok (.aload_n 2, 1) := by decide +kernel
theorem dL_law_928 : decode cL_law 928 = .ok (.aload_n 0, 1) := by decide +kernel
theorem dL_law_929 : decode cL_law 929 = .ok (.iload_n 3, 1) := by decide +kernel
theorem dL_law_930 : decode cL_law 930 = .ok (.iconst 1, 1) := by decide +kernel
theorem dL_law_931 : decode cL_law 931 = .ok (.iadd, 1) := by decide +kernel
theorem dL_law_932 : decode cL_law 932 = .ok (.iaload, 1) := by decide +kernel
theorem dL_law_933 : decode cL_law 933 = .ok (.aload_n 0, 1) := by decide +kernel
theorem dL_law_934 : decode cL_law 934 = .ok (.iload_n 3, 1) := by decide +kernel
theorem dL_law_935 : decode cL_law 935 = .ok (.iconst 2, 1) := by decide +kernel
theorem dL_law_936 : decode cL_law 936 = .ok (.iadd, 1) := by decide +kernel
theorem dL_law_937 : decode cL_law 937 = .ok (.iaload, 1) := by decide +kernel
theorem dL_law_938 : decode cL_law 938 = .ok (.aload_n 0, 1) := by decide +kernel
theorem dL_law_939 : decode cL_law 939 = .ok (.iload_n 3, 1) := by decide +kernel
theorem dL_law_940 : decode cL_law 940 = .ok (.iconst 3, 1) := by decide +kernel
theorem dL_law_941 : decode cL_law 941 = .ok (.iadd, 1) := by decide +kernel
theorem dL_law_942 : decode cL_law 942 = .ok (.iaload, 1) := by decide +kernel
theorem dL_law_943 : decode cL_law 943 = .ok (.invokevirtual 108, 3) := by decide +kernel
theorem dL_law_946 : decode cL_law 946 = .ok (.if_icmp .eq 394, 3) := by decide +kernel
theorem dL_law_949 : decode cL_law 949 = .ok (.iconst 0, 1) := by decide +kernel
theorem dL_law_950 : decode cL_law 950 = .ok (.ireturn, 1) := by decide +kernel
theorem dL_law_951 : decode cL_law 951 = .ok (.aload_n 1, 1) := by decide +kernel
theorem dL_law_952 : decode cL_law 952 = .ok (.aload_n 0, 1) := by decide +kernel
theorem dL_law_953 : decode cL_law 953 = .ok (.iload_n 3, 1) := by decide +kernel
theorem dL_law_954 : decode cL_law 954 = .ok (.iconst 1, 1) := by decide +kernel
theorem dL_law_955 : decode cL_law 955 = .ok (.iadd, 1) := by decide +kernel
theorem dL_law_956 : decode cL_law 956 = .ok (.iaload, 1) := by decide +kernel
theorem dL_law_957 : decode cL_law 957 = .ok (.aload_n 0, 1) := by decide +kernel
theorem dL_law_958 : decode cL_law 958 = .ok (.iload_n 3, 1) := by decide +kernel
theorem dL_law_959 : decode cL_law 959 = .ok (.iconst 2, 1) := by decide +kernel
theorem dL_law_960 : decode cL_law 960 = .ok (.iadd, 1) := by decide +kernel
theorem dL_law_961 : decode cL_law 961 = .ok (.iaload, 1) := by decide +kernel
theorem dL_law_962 : decode cL_law 962 = .ok (.invokevirtual 109, 3) := by decide +kernel
theorem dL_law_965 : decode cL_law 965 = .ok (.aload_n 2, 1) := by decide +kernel
theorem dL_law_966 : decode cL_law 966 = .ok (.aload_n 0, 1) := by decide +kernel
theorem dL_law_967 : decode cL_law 967 = .ok (.iload_n 3, 1) := by decide +kernel
theorem dL_law_968 : decode cL_law 968 = .ok (.iconst 1, 1) := by decide +kernel
theorem dL_law_969 : decode cL_law 969 = .ok (.iadd, 1) := by decide +kernel
theorem dL_law_970 : decode cL_law 970 = .ok (.iaload, 1) := by decide +kernel
theorem dL_law_971 : decode cL_law 971 = .ok (.aload_n 0, 1) := by decide +kernel
theorem dL_law_972 : decode cL_law 972 = .ok (.iload_n 3, 1) := by decide +kernel
theorem dL_law_973 : decode cL_law 973 = .ok (.iconst 2, 1) := by decide +kernel
theorem dL_law_974 : decode cL_law 974 = .ok (.iadd, 1) := by decide +kernel
theorem dL_law_975 : decode cL_law 975 = .ok (.iaload, 1) := by decide +kernel
theorem dL_law_976 : decode cL_law 976 = .ok (.invokevirtual 112, 3) := by decide +kernel
theorem dL_law_979 : decode cL_law 979 = .ok (.if_icmp .eq 361, 3) := by decide +kernel
theorem dL_law_982 : decode cL_law 982 = .ok (.iconst 0, 1) := by decide +kernel
theorem dL_law_983 : decode cL_law 983 = .ok (.ireturn, 1) := by decide +kernel
theorem dL_law_984 : decode cL_law 984 = .ok (.aload_n 1, 1) := by decide +kernel
theorem dL_law_985 : decode cL_law 985 = .ok (.aload_n 0, 1) := by decide +kernel
theorem dL_law_986 : decode cL_law 986 = .ok (.iload_n 3, 1) := by decide +kernel
theorem dL_law_987 : decode cL_law 987 = .ok (.iconst 1, 1) := by decide +kernel
theorem dL_law_988 : decode cL_law 988 = .ok (.iadd, 1) := by decide +kernel
theorem dL_law_989 : decode cL_law 989 = .ok (.iaload, 1) := by decide +kernel
theorem dL_law_990 : decode cL_law 990 = .ok (.invokevirtual 113, 3) := by decide +kernel
theorem dL_law_993 : decode cL_law 993 = .ok (.aload_n 2, 1) := by decide +kernel
theorem dL_law_994 : decode cL_law 994 = .ok (.aload_n 0, 1) := by decide +kernel
theorem dL_law_995 : decode cL_law 995 = .ok (.iload_n 3, 1) := by decide +kernel
theorem dL_law_996 : decode cL_law 996 = .ok (.iconst 1, 1) := by decide +kernel
theorem dL_law_997 : decode cL_law 997 = .ok (.iadd, 1) := by decide +kernel
theorem dL_law_998 : decode cL_law 998 = .ok (.iaload, 1) := by decide +kernel
theorem dL_law_999 : decode cL_law 999 = .ok (.invokevirtual 116, 3) := by decide +kernel
theorem dL_law_1002 : decode cL_law 1002 = .ok (.if_icmp .eq 338, 3) := by decide +kernel
theorem dL_law_1005 : decode cL_law 1005 = .ok (.iconst 0, 1) := by decide +kernel
theorem dL_law_1006 : decode cL_law 1006 = .ok (.ireturn, 1) := by decide +kernel
theorem dL_law_1007 : decode cL_law 1007 = .ok (.aload_n 1, 1) := by decide +kernel
theorem dL_law_1008 : decode cL_law 1008 = .ok (.aload_n 0, 1) := by decide +kernel
theorem dL_law_1009 : decode cL_law 1009 = .ok (.iload_n 3, 1) := by decide +kernel
theorem dL_law_1010 : decode cL_law 1010 = .ok (.iconst 1, 1) := by decide +kernel
theorem dL_law_1011 : decode cL_law 1011 = .ok (.iadd, 1) := by decide +kernel
theorem dL_law_1012 : decode cL_law 1012 = .ok (.iaload, 1) := by decide +kernel
theorem dL_law_1013 : decode cL_law 1013 = .ok (.invokevirtual 117, 3) := by decide +kernel
theorem dL_law_1016 : decode cL_law 1016 = .ok (.aload_n 2, 1) := by decide +kernel
theorem dL_law_1017 : decode cL_law 1017 = .ok (.aload_n 0, 1) := by decide +kernel
theorem dL_law_1018 : decode cL_law 1018 = .ok (.iload_n 3, 1) := by decide +kernel
theorem dL_law_1019 : decode cL_law 1019 = .ok (.iconst 1, 1) := by decide +kernel
theorem dL_law_1020 : decode cL_law 1020 = .ok (.iadd, 1) := by decide +kernel
theorem dL_law_1021 : decode cL_law 1021 = .ok (.iaload, 1) := by decide +kernel
theorem dL_law_1022 : decode cL_law 1022 = .ok (.invokevirtual 120, 3) := by decide +kernel
theorem dL_law_1025 : decode cL_law 1025 = .ok (.if_icmp .eq 315, 3) := by decide +kernel
theorem dL_law_1028 : decode cL_law 1028 = .ok (.iconst 0, 1) := by decide +kernel
theorem dL_law_1029 : decode cL_law 1029 = .ok (.ireturn, 1) := by decide +kernel
theorem dL_law_1030 : decode cL_law 1030 = .ok (.aload_n 1, 1) := by decide +kernel
theorem dL_law_1031 : decode cL_law 1031 = .ok (.aload_n 0, 1) := by decide +kernel
theorem dL_law_1032 : decode cL_law 1032 = .ok (.iload_n 3, 1) := by decide +kernel
theorem dL_law_1033 : decode cL_law 1033 = .ok (.iconst 1, 1) := by decide +kernel
theorem dL_law_1034 : decode cL_law 1034 = .ok (.iadd, 1) := by decide +kernel
theorem dL_law_1035 : decode cL_law 1035 = .ok (.iaload, 1) := by decide +kernel
theorem dL_law_1036 : decode cL_law 1036 = .ok (.invokevirtual 121, 3) := by decide +kernel
theorem dL_law_1039 : decode cL_law 1039 = .ok (.aload_n 2, 1) := by decide +kernel
theorem dL_law_1040 : decode cL_law 1040 = .ok (.aload_n 0, 1) := by decide +kernel
theorem dL_law_1041 : decode cL_law 1041 = .ok (.iload_n 3, 1) := by decide +kernel
theorem dL_law_1042 : decode cL_law 1042 = .ok (.iconst 1, 1) := by decide +kernel
theorem dL_law_1043 : decode cL_law 1043 = .ok (.iadd, 1) := by decide +kernel
theorem dL_law_1044 : decode cL_law 1044 = .ok (.iaload, 1) := by decide +kernel
theorem dL_law_1045 : decode cL_law 1045 = .ok (.invokevirtual 124, 3) := by decide +kernel
theorem dL_law_1048 : decode cL_law 1048 = .ok (.if_icmp .eq 292, 3) := by decide +kernel
theorem dL_law_1051 : decode cL_law 1051 = .ok (.iconst 0, 1) := by decide +kernel
theorem dL_law_1052 : decode cL_law 1052 = .ok (.ireturn, 1) := by decide +kernel
theorem dL_law_1053 : decode cL_law 1053 = .ok (.aload_n 1, 1) := by decide +kernel
theorem dL_law_1054 : decode cL_law 1054 = .ok (.aload_n 0, 1) := by decide +kernel
theorem dL_law_1055 : decode cL_law 1055 = .ok (.iload_n 3, 1) := by decide +kernel
theorem dL_law_1056 : decode cL_law 1056 = .ok (.iconst 1, 1) := by decide +kernel
theorem dL_law_1057 : decode cL_law 1057 = .ok (.iadd, 1) := by decide +kernel
theorem dL_law_1058 : decode cL_law 1058 = .ok (.iaload, 1) := by decide +kernel
theorem dL_law_1059 : decode cL_law 1059 = .ok (.aload_n 0, 1) := by decide +kernel
theorem dL_law_1060 : decode cL_law 1060 = .ok (.iload_n 3, 1) := by decide +kernel
theorem dL_law_1061 : decode cL_law 1061 = .ok (.iconst 2, 1) := by decide +kernel
theorem dL_law_1062 : decode cL_law 1062 = .ok (.iadd, 1) := by decide +kernel
theorem dL_law_1063 : decode cL_law 1063 = .ok (.iaload, 1) := by decide +kernel
theorem dL_law_1064 : decode cL_law 1064 = .ok (.aload_n 0, 1) := by decide +kernel
theorem dL_law_1065 : decode cL_law 1065 = .ok (.iload_n 3, 1) := by decide +kernel
theorem dL_law_1066 : decode cL_law 1066 = .ok (.iconst 3, 1) := by decide +kernel
theorem dL_law_1067 : decode cL_law 1067 = .ok (.iadd, 1) := by decide +kernel
theorem dL_law_1068 : decode cL_law 1068 = .ok (.iaload, 1) := by decide +kernel
theorem dL_law_1069 : decode cL_law 1069 = .ok (.invokevirtual 125, 3) := by decide +kernel
theorem dL_law_1072 : decode cL_law 1072 = .ok (.aload_n 2, 1) := by decide +kernel
theorem dL_law_1073 : decode cL_law 1073 = .ok (.aload_n 0, 1) := by decide +kernel
theorem dL_law_1074 : decode cL_law 1074 = .ok (.iload_n 3, 1) := by decide +kernel
theorem dL_law_1075 : decode cL_law 1075 = .ok (.iconst 1, 1) := by decide +kernel
theorem dL_law_1076 : decode cL_law 1076 = .ok (.iadd, 1) := by decide +kernel
theorem dL_law_1077 : decode cL_law 1077 = .ok (.iaload, 1) := by decide +kernel
theorem dL_law_1078 : decode cL_law 1078 = .ok (.aload_n 0, 1) := by decide +kernel
theorem dL_law_1079 : decode cL_law 1079 = .ok (.iload_n 3, 1) := by decide +kernel
theorem dL_law_1080 : decode cL_law 1080 = .ok (.iconst 2, 1) := by decide +kernel
theorem dL_law_1081 : decode cL_law 1081 = .ok (.iadd, 1) := by decide +kernel
theorem dL_law_1082 : decode cL_law 1082 = .ok (.iaload, 1) := by decide +kernel
theorem dL_law_1083 : decode cL_law 1083 = .ok (.aload_n 0, 1) := by decide +kernel
theorem dL_law_1084 : decode cL_law 1084 = .ok (.iload_n 3, 1) := by decide +kernel
theorem dL_law_1085 : decode cL_law 1085 = .ok (.iconst 3, 1) := by decide +kernel
theorem dL_law_1086 : decode cL_law 1086 = .ok (.iadd, 1) := by decide +kernel
theorem dL_law_1087 : decode cL_law 1087 = .ok (.iaload, 1) := by decide +kernel
theorem dL_law_1088 : decode cL_law 1088 = .ok (.invokevirtual 128, 3) := by decide +kernel
theorem dL_law_1091 : decode cL_law 1091 = .ok (.if_icmp .eq 249, 3) := by decide +kernel
theorem dL_law_1094 : decode cL_law 1094 = .ok (.iconst 0, 1) := by decide +kernel
theorem dL_law_1095 : decode cL_law 1095 = .ok (.ireturn, 1) := by decide +kernel
theorem dL_law_1096 : decode cL_law 1096 = .ok (.aload_n 1, 1) := by decide +kernel
theorem dL_law_1097 : decode cL_law 1097 = .ok (.aload_n 0, 1) := by decide +kernel
theorem dL_law_1098 : decode cL_law 1098 = .ok (.iload_n 3, 1) := by decide +kernel
theorem dL_law_1099 : decode cL_law 1099 = .ok (.iconst 1, 1) := by decide +kernel
theorem dL_law_1100 : decode cL_law 1100 = .ok (.iadd, 1) := by decide +kernel
theorem dL_law_1101 : decode cL_law 1101 = .ok (.iaload, 1) := by decide +kernel
theorem dL_law_1102 : decode cL_law 1102 = .ok (.aload_n 0, 1) := by decide +kernel
theorem dL_law_1103 : decode cL_law 1103 = .ok (.iload_n 3, 1) := by decide +kernel
theorem dL_law_1104 : decode cL_law 1104 = .ok (.iconst 2, 1) := by decide +kernel
theorem dL_law_1105 : decode cL_law 1105 = .ok (.iadd, 1) := by decide +kernel
theorem dL_law_1106 : decode cL_law 1106 = .ok (.iaload, 1) := by decide +kernel
theorem dL_law_1107 : decode cL_law 1107 = .ok (.invokevirtual 129, 3) := by decide +kernel
theorem dL_law_1110 : decode cL_law 1110 = .ok (.aload_n 2, 1) := by decide +kernel
theorem dL_law_1111 : decode cL_law 1111 = .ok (.aload_n 0, 1) := by decide +kernel
theorem dL_law_1112 : decode cL_law 1112 = .ok (.iload_n 3, 1) := by decide +kernel
theorem dL_law_1113 : decode cL_law 1113 = .ok (.iconst 1, 1) := by decide +kernel
theorem dL_law_1114 : decode cL_law 1114 = .ok (.iadd, 1) := by decide +kernel
theorem dL_law_1115 : decode cL_law 1115 = .ok (.iaload, 1) := by decide +kernel
theorem dL_law_1116 : decode cL_law 1116 = .ok (.aload_n 0, 1) := by decide +kernel
theorem dL_law_1117 : decode cL_law 1117 = .ok (.iload_n 3, 1) := by decide +kernel
theorem dL_law_1118 : decode cL_law 1118 = .ok (.iconst 2, 1) := by decide +kernel
theorem dL_law_1119 : decode cL_law 1119 = .ok (.iadd, 1) := by decide +kernel
theorem dL_law_1120 : decode cL_law 1120 = .ok (.iaload, 1) := by decide +kernel
theorem dL_law_1121 : decode cL_law 1121 = .ok (.invokevirtual 132, 3) := by decide +kernel
theorem dL_law_1124 : decode cL_law 1124 = .ok (.if_icmp .eq 216, 3) := by decide +kernel
theorem dL_law_1127 : decode cL_law 1127 = .ok (.iconst 0, 1) := by decide +kernel
theorem dL_law_1128 : decode cL_law 1128 = .ok (.ireturn, 1) := by decide +kernel
theorem dL_law_1129 : decode cL_law 1129 = .ok (.aload_n 1, 1) := by decide +kernel
theorem dL_law_1130 : decode cL_law 1130 = .ok (.aload_n 0, 1) := by decide +kernel
theorem dL_law_1131 : decode cL_law 1131 = .ok (.iload_n 3, 1) := by decide +kernel
theorem dL_law_1132 : decode cL_law 1132 = .ok (.iconst 1, 1) := by decide +kernel
theorem dL_law_1133 : decode cL_law 1133 = .ok (.iadd, 1) := by decide +kernel
theorem dL_law_1134 : decode cL_law 1134 = .ok (.iaload, 1) := by decide +kernel
theorem dL_law_1135 : decode cL_law 1135 = .ok (.aload_n 0, 1) := by decide +kernel
theorem dL_law_1136 : decode cL_law 1136 = .ok (.iload_n 3, 1) := by decide +kernel
theorem dL_law_1137 : decode cL_law 1137 = .ok (.iconst 2, 1) := by decide +kernel
theorem dL_law_1138 : decode cL_law 1138 = .ok (.iadd, 1) := by decide +kernel
theorem dL_law_1139 : decode cL_law 1139 = .ok (.iaload, 1) := by decide +kernel
theorem dL_law_1140 : decode cL_law 1140 = .ok (.invokevirtual 133, 3) := by decide +kernel
theorem dL_law_1143 : decode cL_law 1143 = .ok (.aload_n 2, 1) := by decide +kernel
theorem dL_law_1144 : decode cL_law 1144 = .ok (.aload_n 0, 1) := by decide +kernel
theorem dL_law_1145 : decode cL_law 1145 = .ok (.iload_n 3, 1) := by decide +kernel
theorem dL_law_1146 : decode cL_law 1146 = .ok (.iconst 1, 1) := by decide +kernel
theorem dL_law_1147 : decode cL_law 1147 = .ok (.iadd, 1) := by decide +kernel
theorem dL_law_1148 : decode cL_law 1148 = .ok (.iaload, 1) := by decide +kernel
theorem dL_law_1149 : decode cL_law 1149 = .ok (.aload_n 0, 1) := by decide +kernel
theorem dL_law_1150 : decode cL_law 1150 = .ok (.iload_n 3, 1) := by decide +kernel
theorem dL_law_1151 : decode cL_law 1151 = .ok (.iconst 2, 1) := by decide +kernel
theorem dL_law_1152 : decode cL_law 1152 = .ok (.iadd, 1) := by decide +kernel
theorem dL_law_1153 : decode cL_law 1153 = .ok (.iaload, 1) := by decide +kernel
theorem dL_law_1154 : decode cL_law 1154 = .ok (.invokevirtual 136, 3) := by decide +kernel
theorem dL_law_1157 : decode cL_law 1157 = .ok (.if_icmp .eq 183, 3) := by decide +kernel
theorem dL_law_1160 : decode cL_law 1160 = .ok (.iconst 0, 1) := by decide +kernel
theorem dL_law_1161 : decode cL_law 1161 = .ok (.ireturn, 1) := by decide +kernel
theorem dL_law_1162 : decode cL_law 1162 = .ok (.aload_n 1, 1) := by decide +kernel
theorem dL_law_1163 : decode cL_law 1163 = .ok (.aload_n 0, 1) := by decide +kernel
theorem dL_law_1164 : decode cL_law 1164 = .ok (.iload_n 3, 1) := by decide +kernel
theorem dL_law_1165 : decode cL_law 1165 = .ok (.iconst 1, 1) := by decide +kernel
theorem dL_law_1166 : decode cL_law 1166 = .ok (.iadd, 1) := by decide +kernel
theorem dL_law_1167 : decode cL_law 1167 = .ok (.iaload, 1) := by decide +kernel
theorem dL_law_1168 : decode cL_law 1168 = .ok (.aload_n 0, 1) := by decide +kernel
theorem dL_law_1169 : decode cL_law 1169 = .ok (.iload_n 3, 1) := by decide +kernel
theorem dL_law_1170 : decode cL_law 1170 = .ok (.iconst 2, 1) := by decide +kernel
theorem dL_law_1171 : decode cL_law 1171 = .ok (.iadd, 1) := by decide +kernel
theorem dL_law_1172 : decode cL_law 1172 = .ok (.iaload, 1) := by decide +kernel
theorem dL_law_1173 : decode cL_law 1173 = .ok (.invokevirtual 137, 3) := by decide +kernel
theorem dL_law_1176 : decode cL_law 1176 = .ok (.aload_n 2, 1) := by decide +kernel
theorem dL_law_1177 : decode cL_law 1177 = .ok (.aload_n 0, 1) := by decide +kernel
theorem dL_law_1178 : decode cL_law 1178 = .ok (.iload_n 3, 1) := by decide +kernel
theorem dL_law_1179 : decode cL_law 1179 = .ok (.iconst 1, 1) := by decide +kernel
theorem dL_law_1180 : decode cL_law 1180 = .ok (.iadd, 1) := by decide +kernel
theorem dL_law_1181 : decode cL_law 1181 = .ok (.iaload, 1) := by decide +kernel
theorem dL_law_1182 : decode cL_law 1182 = .ok (.aload_n 0, 1) := by decide +kernel
theorem dL_law_1183 : decode cL_law 1183 = .ok (.iload_n 3, 1) := by decide +kernel
theorem dL_law_1184 : decode cL_law 1184 = .ok (.iconst 2, 1) := by decide +kernel
theorem dL_law_1185 : decode cL_law 1185 = .ok (.iadd, 1) := by decide +kernel
theorem dL_law_1186 : decode cL_law 1186 = .ok (.iaload, 1) := by decide +kernel
theorem dL_law_1187 : decode cL_law 1187 = .ok (.invokevirtual 140, 3) := by decide +kernel
theorem dL_law_1190 : decode cL_law 1190 = .ok (.if_icmp .eq 150, 3) := by decide +kernel
theorem dL_law_1193 : decode cL_law 1193 = .ok (.iconst 0, 1) := by decide +kernel
theorem dL_law_1194 : decode cL_law 1194 = .ok (.ireturn, 1) := by decide +kernel
theorem dL_law_1195 : decode cL_law 1195 = .ok (.aload_n 1, 1) := by decide +kernel
theorem dL_law_1196 : decode cL_law 1196 = .ok (.aload_n 0, 1) := by decide +kernel
theorem dL_law_1197 : decode cL_law 1197 = .ok (.iload_n 3, 1) := by decide +kernel
theorem dL_law_1198 : decode cL_law 1198 = .ok (.iconst 1, 1) := by decide +kernel
theorem dL_law_1199 : decode cL_law 1199 = .ok (.iadd, 1) := by decide +kernel
theorem dL_law_1200 : decode cL_law 1200 = .ok (.iaload, 1) := by decide +kernel
theorem dL_law_1201 : decode cL_law 1201 = .ok (.aload_n 0, 1) := by decide +kernel
theorem dL_law_1202 : decode cL_law 1202 = .ok (.iload_n 3, 1) := by decide +kernel
theorem dL_law_1203 : decode cL_law 1203 = .ok (.iconst 2, 1) := by decide +kernel
theorem dL_law_1204 : decode cL_law 1204 = .ok (.iadd, 1) := by decide +kernel
theorem dL_law_1205 : decode cL_law 1205 = .ok (.iaload, 1) := by decide +kernel
theorem dL_law_1206 : decode cL_law 1206 = .ok (.aload_n 0, 1) := by decide +kernel
theorem dL_law_1207 : decode cL_law 1207 = .ok (.iload_n 3, 1) := by decide +kernel
theorem dL_law_1208 : decode cL_law 1208 = .ok (.iconst 3, 1) := by decide +kernel
theorem dL_law_1209 : decode cL_law 1209 = .ok (.iadd, 1) := by decide +kernel
theorem dL_law_1210 : decode cL_law 1210 = .ok (.iaload, 1) := by decide +kernel
theorem dL_law_1211 : decode cL_law 1211 = .ok (.invokevirtual 141, 3) := by decide +kernel
theorem dL_law_1214 : decode cL_law 1214 = .ok (.aload_n 2, 1) := by decide +kernel
theorem dL_law_1215 : decode cL_law 1215 = .ok (.aload_n 0, 1) := by decide +kernel
theorem dL_law_1216 : decode cL_law 1216 = .ok (.iload_n 3, 1) := by decide +kernel
theorem dL_law_1217 : decode cL_law 1217 = .ok (.iconst 1, 1) := by decide +kernel
theorem dL_law_1218 : decode cL_law 1218 = .ok (.iadd, 1) := by decide +kernel
theorem dL_law_1219 : decode cL_law 1219 = .ok (.iaload, 1) := by decide +kernel
theorem dL_law_1220 : decode cL_law 1220 = .ok (.aload_n 0, 1) := by decide +kernel
theorem dL_law_1221 : decode cL_law 1221 = .ok (.iload_n 3, 1) := by decide +kernel
theorem dL_law_1222 : decode cL_law 1222 = .ok (.iconst 2, 1) := by decide +kernel
theorem dL_law_1223 : decode cL_law 1223 = .ok (.iadd, 1) := by decide +kernel
theorem dL_law_1224 : decode cL_law 1224 = .ok (.iaload, 1) := by decide +kernel
theorem dL_law_1225 : decode cL_law 1225 = .ok (.aload_n 0, 1) := by decide +kernel
theorem dL_law_1226 : decode cL_law 1226 = .ok (.iload_n 3, 1) := by decide +kernel
theorem dL_law_1227 : decode cL_law 1227 = .ok (.iconst 3, 1) := by decide +kernel
theorem dL_law_1228 : decode cL_law 1228 = .ok (.iadd, 1) := by decide +kernel
theorem dL_law_1229 : decode cL_law 1229 = .ok (.iaload, 1) := by decide +kernel
theorem dL_law_1230 : decode cL_law 1230 = .ok (.invokevirtual 144, 3) := by decide +kernel
theorem dL_law_1233 : decode cL_law 1233 = .ok (.if_icmp .eq 107, 3) := by decide +kernel
theorem dL_law_1236 : decode cL_law 1236 = .ok (.iconst 0, 1) := by decide +kernel
theorem dL_law_1237 : decode cL_law 1237 = .ok (.ireturn, 1) := by decide +kernel
theorem dL_law_1238 : decode cL_law 1238 = .ok (.aload_n 1, 1) := by decide +kernel
theorem dL_law_1239 : decode cL_law 1239 = .ok (.aload_n 0, 1) := by decide +kernel
theorem dL_law_1240 : decode cL_law 1240 = .ok (.iload_n 3, 1) := by decide +kernel
theorem dL_law_1241 : decode cL_law 1241 = .ok (.iconst 1, 1) := by decide +kernel
theorem dL_law_1242 : decode cL_law 1242 = .ok (.iadd, 1) := by decide +kernel
theorem dL_law_1243 : decode cL_law 1243 = .ok (.iaload, 1) := by decide +kernel
theorem dL_law_1244 : decode cL_law 1244 = .ok (.aload_n 0, 1) := by decide +kernel
theorem dL_law_1245 : decode cL_law 1245 = .ok (.iload_n 3, 1) := by decide +kernel
theorem dL_law_1246 : decode cL_law 1246 = .ok (.iconst 2, 1) := by decide +kernel
theorem dL_law_1247 : decode cL_law 1247 = .ok (.iadd, 1) := by decide +kernel
theorem dL_law_1248 : decode cL_law 1248 = .ok (.iaload, 1) := by decide +kernel
theorem dL_law_1249 : decode cL_law 1249 = .ok (.invokevirtual 145, 3) := by decide +kernel
theorem dL_law_1252 : decode cL_law 1252 = .ok (.aload_n 2, 1) := by decide +kernel
theorem dL_law_1253 : decode cL_law 1253 = .ok (.aload_n 0, 1) := by decide +kernel
theorem dL_law_1254 : decode cL_law 1254 = .ok (.iload_n 3, 1) := by decide +kernel
theorem dL_law_1255 : decode cL_law 1255 = .ok (.iconst 1, 1) := by decide +kernel
theorem dL_law_1256 : decode cL_law 1256 = .ok (.iadd, 1) := by decide +kernel
theorem dL_law_1257 : decode cL_law 1257 = .ok (.iaload, 1) := by decide +kernel
theorem dL_law_1258 : decode cL_law 1258 = .ok (.aload_n 0, 1) := by decide +kernel
theorem dL_law_1259 : decode cL_law 1259 = .ok (.iload_n 3, 1) := by decide +kernel
theorem dL_law_1260 : decode cL_law 1260 = .ok (.iconst 2, 1) := by decide +kernel
theorem dL_law_1261 : decode cL_law 1261 = .ok (.iadd, 1) := by decide +kernel
theorem dL_law_1262 : decode cL_law 1262 = .ok (.iaload, 1) := by decide +kernel
theorem dL_law_1263 : decode cL_law 1263 = .ok (.invokevirtual 148, 3) := by decide +kernel
theorem dL_law_1266 : decode cL_law 1266 = .ok (.if_icmp .eq 74, 3) := by decide +kernel
theorem dL_law_1269 : decode cL_law 1269 = .ok (.iconst 0, 1) := by decide +kernel
theorem dL_law_1270 : decode cL_law 1270 = .ok (.ireturn, 1) := by decide +kernel
theorem dL_law_1271 : decode cL_law 1271 = .ok (.aload_n 1, 1) := by decide +kernel
theorem dL_law_1272 : decode cL_law 1272 = .ok (.aload_n 0, 1) := by decide +kernel
theorem dL_law_1273 : decode cL_law 1273 = .ok (.iload_n 3, 1) := by decide +kernel
theorem dL_law_1274 : decode cL_law 1274 = .ok (.iconst 1, 1) := by decide +kernel
theorem dL_law_1275 : decode cL_law 1275 = .ok (.iadd, 1) := by decide +kernel
theorem dL_law_1276 : decode cL_law 1276 = .ok (.iaload, 1) := by decide +kernel
theorem dL_law_1277 : decode cL_law 1277 = .ok (.invokevirtual 149, 3) := by decide +kernel
theorem dL_law_1280 : decode cL_law 1280 = .ok (.aload_n 2, 1) := by decide +kernel
theorem dL_law_1281 : decode cL_law 1281 = .ok (.aload_n 0, 1) := by decide +kernel
theorem dL_law_1282 : decode cL_law 1282 = .ok (.iload_n 3, 1) := by decide +kernel
theorem dL_law_1283 : decode cL_law 1283 = .ok (.iconst 1, 1) := by decide +kernel
theorem dL_law_1284 : decode cL_law 1284 = .ok (.iadd, 1) := by decide +kernel
theorem dL_law_1285 : decode cL_law 1285 = .ok (.iaload, 1) := by decide +kernel
theorem dL_law_1286 : decode cL_law 1286 = .ok (.invokevirtual 152, 3) := by decide +kernel
theorem dL_law_1289 : decode cL_law 1289 = .ok (.if_icmp .eq 51, 3) := by decide +kernel
theorem dL_law_1292 : decode cL_law 1292 = .ok (.iconst 0, 1) := by decide +kernel
theorem dL_law_1293 : decode cL_law 1293 = .ok (.ireturn, 1) := by decide +kernel
theorem dL_law_1294 : decode cL_law 1294 = .ok (.aload_n 1, 1) := by decide +kernel
theorem dL_law_1295 : decode cL_law 1295 = .ok (.aload_n 0, 1) := by decide +kernel
theorem dL_law_1296 : decode cL_law 1296 = .ok (.iload_n 3, 1) := by decide +kernel
theorem dL_law_1297 : decode cL_law 1297 = .ok (.iconst 1, 1) := by decide +kernel
theorem dL_law_1298 : decode cL_law 1298 = .ok (.iadd, 1) := by decide +kernel
theorem dL_law_1299 : decode cL_law 1299 = .ok (.iaload, 1) := by decide +kernel
theorem dL_law_1300 : decode cL_law 1300 = .ok (.invokevirtual 153, 3) := by decide +kernel
theorem dL_law_1303 : decode cL_law 1303 = .ok (.aload_n 2, 1) := by decide +kernel
theorem dL_law_1304 : decode cL_law 1304 = .ok (.aload_n 0, 1) := by decide +kernel
theorem dL_law_1305 : decode cL_law 1305 = .ok (.iload_n 3, 1) := by decide +kernel
theorem dL_law_1306 : decode cL_law 1306 = .ok (.iconst 1, 1) := by decide +kernel
theorem dL_law_1307 : decode cL_law 1307 = .ok (.iadd, 1) := by decide +kernel
theorem dL_law_1308 : decode cL_law 1308 = .ok (.iaload, 1) := by decide +kernel
theorem dL_law_1309 : decode cL_law 1309 = .ok (.invokevirtual 156, 3) := by decide +kernel
theorem dL_law_1312 : decode cL_law 1312 = .ok (.if_icmp .eq 28, 3) := by decide +kernel
theorem dL_law_1315 : decode cL_law 1315 = .ok (.iconst 0, 1) := by decide +kernel
theorem dL_law_1316 : decode cL_law 1316 = .ok (.ireturn, 1) := by decide +kernel
theorem dL_law_1317 : decode cL_law 1317 = .ok (.aload_n 1, 1) := by decide +kernel
theorem dL_law_1318 : decode cL_law 1318 = .ok (.aload_n 0, 1) := by decide +kernel
theorem dL_law_1319 : decode cL_law 1319 = .ok (.iload_n 3, 1) := by decide +kernel
theorem dL_law_1320 : decode cL_law 1320 = .ok (.iconst 1, 1) := by decide +kernel
theorem dL_law_1321 : decode cL_law 1321 = .ok (.iadd, 1) := by decide +kernel
theorem dL_law_1322 : decode cL_law 1322 = .ok (.iaload, 1) := by decide +kernel
theorem dL_law_1323 : decode cL_law 1323 = .ok (.invokevirtual 157, 3) := by decide +kernel
theorem dL_law_1326 : decode cL_law 1326 = .ok (.aload_n 2, 1) := by decide +kernel
theorem dL_law_1327 : decode cL_law 1327 = .ok (.aload_n 0, 1) := by decide +kernel
theorem dL_law_1328 : decode cL_law 1328 = .ok (.iload_n 3, 1) := by decide +kernel
theorem dL_law_1329 : decode cL_law 1329 = .ok (.iconst 1, 1) := by decide +kernel
theorem dL_law_1330 : decode cL_law 1330 = .ok (.iadd, 1) := by decide +kernel
theorem dL_law_1331 : decode cL_law 1331 = .ok (.iaload, 1) := by decide +kernel
theorem dL_law_1332 : decode cL_law 1332 = .ok (.invokevirtual 160, 3) := by decide +kernel
theorem dL_law_1335 : decode cL_law 1335 = .ok (.if_icmp .eq 5, 3) := by decide +kernel
theorem dL_law_1338 : decode cL_law 1338 = .ok (.iconst 0, 1) := by decide +kernel
theorem dL_law_1339 : decode cL_law 1339 = .ok (.ireturn, 1) := by decide +kernel
theorem dL_law_1340 : decode cL_law 1340 = .ok (.iinc 3 4, 3) := by decide +kernel
theorem dL_law_1343 : decode cL_law 1343 = .ok (.goto (-1325), 3) := by decide +kernel
theorem dL_law_1346 : decode cL_law 1346 = .ok (.iconst 1, 1) := by decide +kernel
theorem dL_law_1347 : decode cL_law 1347 = .ok (.ireturn, 1) := by decide +kernel
end
section
/-! ===== the layer: an abstract machine over an abstract memory, proved once over the kit's rows ===== -/
abbrev GT : Type := Launch × Nat × va_G × (Nat → ClassId) × Nat × Nat
abbrev g_l (G : GT) : Launch := G.1
abbrev g_b (G : GT) : Nat := G.2.1
abbrev g_D (G : GT) : va_G := G.2.2.1
abbrev g_c (G : GT) : Nat → ClassId := G.2.2.2.1
abbrev g_t1 (G : GT) : Nat := G.2.2.2.2.1
abbrev g_t2 (G : GT) : Nat := G.2.2.2.2.2
def nw_is : Cond → Bool
  | .fieldLinkNest _ _ _ _ _ _ => true
  | .methodLinkNest _ _ _ _ => true
  | _ => false
def aw_ws : List Cond := lw_tbl.filter goodWord
theorem aw_mem {w : Cond} (i : Nat) (h : lw_tbl[i]? = some w) (hg : goodWord w = true) : w ∈ aw_ws := List.mem_filter.mpr ⟨List.mem_of_getElem? h, hg⟩
theorem aw_goodIn {w0 : Cond} (h : w0 ∈ aw_ws) : GoodIn aw_ws (w0 :: aw_ws) := by
  intro w hw
  have hm : w ∈ aw_ws := by
    rcases List.mem_cons.mp hw with rfl | h2
    · exact h
    · exact h2
  exact ⟨hm, good_of_word (List.mem_filter.mp hm).2⟩
abbrev aw_tys (G : GT) : List (ClassId × FieldType) := [(g_c G 0, .int), (g_c G 1, .boolean), (g_c G 2, .object "BetweenLaws$Law"), (g_c G 3, .object "BetweenLaws$Piece"), (g_c G 4, .object "BetweenLaws$World")]
abbrev aw_A (G : GT) : Nat → Prop := fun q => g_b G ≤ q
def aw_K (G : GT) (U : State) : Prop := va_K (g_D G) vwCl (aw_tys G) U ∧ ∀ w ∈ lw_tbl, nw_is w = true → va_Nw w U
def aw_f1 : Nat → Int32 := fun j => match j with
  | 0 => -6
  | 1 => 99
  | 2 => 98
  | _ => 108
def aw_f2 : Nat → Int32 := fun j => match j with
  | 0 => 110
  | 1 => 104
  | _ => 97
def aw_T (G : GT) (U : State) (H : Heap) : Prop :=
  (va_Z "BetweenLaws" "WAY_LETTERS" "[I" (.ref (g_t1 G)) (aw_A G) U H ∧ va_T .int (g_t1 G) 4 (fun j => .int (aw_f1 j)) (aw_A G) U H) ∧
  (va_Z "BetweenLaws" "TIME_LETTERS" "[I" (.ref (g_t2 G)) (aw_A G) U H ∧ va_T .int (g_t2 G) 3 (fun j => .int (aw_f2 j)) (aw_A G) U H)
theorem aw_T.moved {G : GT} {u U : State} {H : Heap} (hvm : u.vm.Alike U.vm) (h : aw_T G u H) : aw_T G U H :=
  ⟨⟨h.1.1.moved hvm, h.1.2.moved hvm⟩, ⟨h.2.1.moved hvm, h.2.2.moved hvm⟩⟩
theorem aw_T.kept {G : GT} {U : State} {H H1 : Heap} (h : aw_T G U H) (hq : ∀ a : Nat, a < H.size → ¬ aw_A G a → H1[a]? = H[a]?) : aw_T G U H1 :=
  ⟨⟨h.1.1.kept hq, h.1.2.kept hq⟩, ⟨h.2.1.kept hq, h.2.2.kept hq⟩⟩
theorem aw_K.warm {G : GT} {s U : State} (hW : s.WarmedH U.vm) (h : aw_K G s) : aw_K G U := by
  refine ⟨va_K.moved hW.alike h.1, fun w hw hn => ?_⟩
  have h1 := h.2 w hw hn
  cases w <;> first | (cases hn; done) | exact va_Nw.warmF hW h1 | exact va_Nw.warmM hW h1
theorem aw_K.same {G : GT} {s U : State} (hv : s.vm = U.vm) (h : aw_K G s) : aw_K G U := by
  refine ⟨va_K.moved (by rw [hv]; exact Vm.Alike.refl U.vm) h.1, fun w hw hn => ?_⟩
  have h1 := h.2 w hw hn
  cases w <;> first | (cases hn; done) | exact va_Nw.same rfl hv h1
def aw_W {μ : Type} (G : GT) (R : μ → Heap → Prop) (M : μ) (U : State) : Prop := R M U.heap ∧ aw_K G U ∧ aw_T G U U.heap ∧ g_b G ≤ U.heap.size
/-- what a method leaves (the class facts of the caller stand anyhow) -/
def aw_B {μ : Type} (G : GT) (R : μ → Heap → Prop) (M : μ) (t : State) : Prop := R M t.heap
def aw_Q {μ : Type} (G : GT) (R : μ → Heap → Prop) (rt : Option FieldType) (K : Int32 → μ → Prop) : Array Value → State → Outcome → State → Prop := match rt with
  | none => va_Qv (fun M => K 0 M) (aw_B G R) (aw_A G)
  | some _ => va_Qi (fun r M => K r M) (aw_B G R) (aw_A G)
def aw_v (G : GT) : Value → Value
  | .ref c => .ref (g_b G + c)
  | .float x => .ref (if x = 1 then g_t1 G else g_t2 G)
  | v => v
abbrev aw_lv (G : GT) (q : Nat × Value) : Nat × Value := (q.1, aw_v G q.2)
theorem aw_v_cat (G : GT) (v : Value) : (aw_v G v).category = v.category := by cases v <;> rfl
/-- a method's contract over the abstract memory -/
def MT {μ : Type} (G : GT) (R : μ → Heap → Prop) (y : MethodName) (b : ByteArray) (n : Nat) (rt : Option FieldType) (rm : Room) (as : List Value) (M : μ) (K : Int32 → μ → Prop) : Prop :=
  Met (g_l G) y (.code y b n rt :: aw_ws) rm (va_Pc (as.map (aw_v G)) (aw_W G R M)) (aw_Q G R rt K) rm.cells rm.slots (aw_A G)
/-- what stands in a method's body -/
def aw_F (G : GT) (own nm : String) (b : ByteArray) (n : Nat) (rt : Option FieldType) (p : Program) (s : State) (m : MethodId) (args : Array Value) (meth : Method) (c : Code) : Prop :=
  p.tables.exec = Jvm.exec ∧ c.code = b ∧ meth.sig.returnType = rt ∧ c.maxLocals = n ∧ s.vm.findClass own = some m.cls ∧ (∀ w ∈ aw_ws, w.before args s = true) ∧ aw_K G s ∧ aw_T G s s.heap ∧ meth.locks = false ∧ meth.name = nm ∧ g_b G ≤ s.heap.size
/-- the machine in a method's body, at pc, with abstract locals L, stack S, memory M, comes to its end with K -/
def BT {μ : Type} (G : GT) (R : μ → Heap → Prop) (own nm : String) (b : ByteArray) (n : Nat) (rt : Option FieldType) (rm : Room) (K : Int32 → μ → Prop) (kc ks pc : Nat) (L : List (Nat × Value)) (S : List Value) (M : μ) : Prop :=
  ∀ (p : Program) (e : Env) (s : State) (m : MethodId) (args : Array Value) (below : List Frame) (meth : Method) (c : Code) (H : Heap) (locs : List Loc),
    aw_F G own nm b n rt p s m args meth c → R M H → va_S (aw_A G) s.heap H locs → ∀ ls : Array Slot, lv_has ls n (L.map (aw_lv G)) →
    W p (g_l G) e rm s m args below meth c H locs kc ks (MQ below (aw_Q G R rt K) args s rm.cells rm.slots (aw_A G)) (F0 m pc ls (S.map (aw_v G)))
theorem aw_hA {G : GT} {s : State} {H : Heap} {locs : List Loc} (h : g_b G ≤ s.heap.size) (hS : va_S (aw_A G) s.heap H locs) : ∀ q : Nat, H.size ≤ q → aw_A G q := fun q hq => Nat.le_trans h (Nat.le_trans hS.1 hq)
theorem aw_argsmap (G : GT) : ∀ (vs : List Value) (i : Nat), lv_args i (vs.map (aw_v G)) = (lv_args i vs).map (aw_lv G)
  | [], _ => rfl
  | v :: vs, i => by
    show (i, aw_v G v) :: lv_args (if (aw_v G v).category = 2 then i + 2 else i + 1) (vs.map (aw_v G)) = _
    rw [aw_v_cat, aw_argsmap G vs]
    rfl
theorem aw_slen (G : GT) : ∀ (vs : List Value), (lg_sl (vs.map (aw_v G))).length = (lg_sl vs).length
  | [] => rfl
  | v :: vs => by
    have ih := aw_slen G vs
    unfold lg_sl at ih ⊢
    simp only [List.map_cons, List.flatMap_cons, List.length_append, aw_v_cat]
    rw [ih]
    congr 1
    split <;> rfl
section BTS
variable {μ : Type} {G : GT} {R : μ → Heap → Prop} {own nm : String} {b : ByteArray} {n : Nat} {rt : Option FieldType} {rm : Room} {K : Int32 → μ → Prop} {kc ks pc : Nat} {L : List (Nat × Value)} {S : List Value} {M : μ}
set_option maxHeartbeats 1000000 in
theorem MT.of {y : MethodName} (hy : plainName y.cls = true) (hcls : y.cls = own) (hnm : y.name = nm) {as : List Value} (hn : (lg_sl as).length ≤ n) (hL : lv_args 0 as = L) (k : BT G R own nm b n rt rm K 0 0 0 L [] M) : MT G R y b n rt rm as M K := by
  subst hcls
  subst hnm
  refine Met.ofW (cc := b) (maxL := n) (ret := rt) hy rfl ?_
  intro p e s m args below meth c s₁ B hml hv
  obtain ⟨rfl, hR, hK, hT, hz⟩ := hv
  have hts := atoms_spec (ws := Cond.code y b n rt :: aw_ws) B.pre
  have hl := lv_entry (as.map (aw_v G)) (n := n) (by rw [aw_slen]; exact hn)
  rw [lg_entry_eq]
  generalize (lg_sl (as.map (aw_v G)) ++ List.replicate (n - (lg_sl (as.map (aw_v G))).length) Slot.unset).toArray = ls at hl ⊢
  rw [aw_argsmap, hL] at hl
  exact k p e s m _ below meth c s.heap [] ⟨B.exec, B.bytes, B.returns, hml, findClass_of_methodNamed B.named, fun w hw => hts w (List.mem_cons_of_mem _ hw), hK, hT, B.notSynchronized, (name_of_methodNamed B.named B.method).1, hz⟩ hR va_S.rf ls hl
/-- fewer locals, in another order, by their places -/
theorem BT.sub {L' : List (Nat × Value)} (is : List Nat) (h : lv_pick L is = L') (k : BT G R own nm b n rt rm K kc ks pc L' S M) : BT G R own nm b n rt rm K kc ks pc L S M := by
  intro p e s m args below meth c H locs F hR hS ls hl
  refine k p e s m args below meth c H locs F hR hS ls (lv_sub hl is ?_)
  rw [← h]
  unfold lv_pick
  rw [List.map_filterMap]
  congr 1
  funext k
  rw [List.getElem?_map]
theorem BT.widen {kc' ks' : Nat} (h1 : kc ≤ kc') (h2 : ks ≤ ks') (k : BT G R own nm b n rt rm K kc' ks' pc L S M) : BT G R own nm b n rt rm K kc ks pc L S M :=
  fun p e s m args below meth c H locs F hR hS ls hl => W.widen h1 h2 (k p e s m args below meth c H locs F hR hS ls hl)
theorem aw_at {ls : Array Slot} (h : lv_has ls n (L.map (aw_lv G))) (k : Nat) {i : Nat} {v : Value} (hk : L[k]? = some (i, v)) : ls[i]? = some (.val (aw_v G v)) :=
  lv_at h k (by rw [List.getElem?_map, hk]; rfl)
theorem aw_filter1 (G : GT) (i : Nat) (v : Value) (L : List (Nat × Value)) : (i, aw_v G v) :: (L.map (aw_lv G)).filter (fun q => !(q.1 == i) && !(q.1 + 1 == i && q.2.category == 2)) = ((i, v) :: L.filter (fun q => !(q.1 == i) && !(q.1 + 1 == i && q.2.category == 2))).map (aw_lv G) := by
  rw [List.map_cons, List.filter_map]
  congr 2
  apply List.filter_congr
  intro q _
  simp [Function.comp, aw_v_cat]
theorem aw_filter2 (G : GT) (i : Nat) (v : Value) (L : List (Nat × Value)) : (i, aw_v G v) :: (L.map (aw_lv G)).filter (fun q => !(q.1 == i) && (!(q.1 == i + 1) && !(q.1 + 1 == i && q.2.category == 2))) = ((i, v) :: L.filter (fun q => !(q.1 == i) && (!(q.1 == i + 1) && !(q.1 + 1 == i && q.2.category == 2)))).map (aw_lv G) := by
  rw [List.map_cons, List.filter_map]
  congr 2
  apply List.filter_congr
  intro q _
  simp [Function.comp, aw_v_cat]
theorem BT.iconst {k : Int} {v : Int32} (hd : decode b pc = .ok (.iconst k, 1)) (hv : Int32.ofInt k = v) (kk : BT G R own nm b n rt rm K kc ks (pc + 1) L (.int v :: S) M) : BT G R own nm b n rt rm K kc ks pc L S M :=
  fun p e s m args below meth c H locs F hR hS ls hl => lv_iconst F.1 F.2.1 hd hv (kk p e s m args below meth c H locs F hR hS ls hl)
theorem BT.bipush {k : Int} {v : Int32} (hd : decode b pc = .ok (.bipush k, 2)) (hv : (Int8.ofInt k).toInt32 = v) (kk : BT G R own nm b n rt rm K kc ks (pc + 2) L (.int v :: S) M) : BT G R own nm b n rt rm K kc ks pc L S M :=
  fun p e s m args below meth c H locs F hR hS ls hl => lv_bipush F.1 F.2.1 hd hv (kk p e s m args below meth c H locs F hR hS ls hl)
theorem BT.sipush {k : Int} {v : Int32} (hd : decode b pc = .ok (.sipush k, 3)) (hv : (Int16.ofInt k).toInt32 = v) (kk : BT G R own nm b n rt rm K kc ks (pc + 3) L (.int v :: S) M) : BT G R own nm b n rt rm K kc ks pc L S M :=
  fun p e s m args below meth c H locs F hR hS ls hl => lv_sipush F.1 F.2.1 hd hv (kk p e s m args below meth c H locs F hR hS ls hl)
theorem BT.lconst {k : Fin 2} {v : Int64} (hd : decode b pc = .ok (.lconst k, 1)) (hv : Int64.ofNat (k : Nat) = v) (kk : BT G R own nm b n rt rm K kc ks (pc + 1) L (.long v :: S) M) : BT G R own nm b n rt rm K kc ks pc L S M :=
  fun p e s m args below meth c H locs F hR hS ls hl => lv_lconst F.1 F.2.1 hd hv (kk p e s m args below meth c H locs F hR hS ls hl)
theorem BT.iload_n {k : Fin 4} {i : Nat} {x : Int32} (hd : decode b pc = .ok (.iload_n k, 1)) (hi : (k : Nat) = i) (j : Nat) (hj : L[j]? = some (i, .int x)) (kk : BT G R own nm b n rt rm K kc ks (pc + 1) L (.int x :: S) M) : BT G R own nm b n rt rm K kc ks pc L S M :=
  fun p e s m args below meth c H locs F hR hS ls hl => lv_iload_n F.1 F.2.1 hd hi (aw_at hl j hj) (kk p e s m args below meth c H locs F hR hS ls hl)
theorem BT.iload {i : Nat} {x : Int32} (hd : decode b pc = .ok (.iload i, 2)) (j : Nat) (hj : L[j]? = some (i, .int x)) (kk : BT G R own nm b n rt rm K kc ks (pc + 2) L (.int x :: S) M) : BT G R own nm b n rt rm K kc ks pc L S M :=
  fun p e s m args below meth c H locs F hR hS ls hl => lv_iload F.1 F.2.1 hd (aw_at hl j hj) (kk p e s m args below meth c H locs F hR hS ls hl)
theorem BT.lload_n {k : Fin 4} {i : Nat} {x : Int64} (hd : decode b pc = .ok (.lload_n k, 1)) (hi : (k : Nat) = i) (j : Nat) (hj : L[j]? = some (i, .long x)) (kk : BT G R own nm b n rt rm K kc ks (pc + 1) L (.long x :: S) M) : BT G R own nm b n rt rm K kc ks pc L S M :=
  fun p e s m args below meth c H locs F hR hS ls hl => lv_lload_n F.1 F.2.1 hd hi (aw_at hl j hj) (kk p e s m args below meth c H locs F hR hS ls hl)
theorem BT.lload {i : Nat} {x : Int64} (hd : decode b pc = .ok (.lload i, 2)) (j : Nat) (hj : L[j]? = some (i, .long x)) (kk : BT G R own nm b n rt rm K kc ks (pc + 2) L (.long x :: S) M) : BT G R own nm b n rt rm K kc ks pc L S M :=
  fun p e s m args below meth c H locs F hR hS ls hl => lv_lload F.1 F.2.1 hd (aw_at hl j hj) (kk p e s m args below meth c H locs F hR hS ls hl)
theorem BT.aload_n {k : Fin 4} {i : Nat} {x : Nat} (hd : decode b pc = .ok (.aload_n k, 1)) (hi : (k : Nat) = i) (j : Nat) (hj : L[j]? = some (i, .ref x)) (kk : BT G R own nm b n rt rm K kc ks (pc + 1) L (.ref x :: S) M) : BT G R own nm b n rt rm K kc ks pc L S M :=
  fun p e s m args below meth c H locs F hR hS ls hl => lv_aload_n F.1 F.2.1 hd hi (aw_at hl j hj) (kk p e s m args below meth c H locs F hR hS ls hl)
theorem BT.aload {i : Nat} {x : Nat} (hd : decode b pc = .ok (.aload i, 2)) (j : Nat) (hj : L[j]? = some (i, .ref x)) (kk : BT G R own nm b n rt rm K kc ks (pc + 2) L (.ref x :: S) M) : BT G R own nm b n rt rm K kc ks pc L S M :=
  fun p e s m args below meth c H locs F hR hS ls hl => lv_aload F.1 F.2.1 hd (aw_at hl j hj) (kk p e s m args below meth c H locs F hR hS ls hl)
theorem BT.istore_n {k : Fin 4} {i : Nat} {x : Int32} {L' : List (Nat × Value)} (hd : decode b pc = .ok (.istore_n k, 1)) (hi : (k : Nat) = i) (hn : i < n) (h : (i, Value.int x) :: L.filter (fun q => !(q.1 == i) && !(q.1 + 1 == i && q.2.category == 2)) = L') (kk : BT G R own nm b n rt rm K kc ks (pc + 1) L' S M) : BT G R own nm b n rt rm K kc ks pc L (.int x :: S) M :=
  fun p e s m args below meth c H locs F hR hS ls hl => lv_istore_n F.1 F.2.1 hd hi hl hn ((aw_filter1 G i (.int x) L).trans (congrArg _ h)) (fun ls hl => kk p e s m args below meth c H locs F hR hS ls hl)
theorem BT.istore {i : Nat} {x : Int32} {L' : List (Nat × Value)} (hd : decode b pc = .ok (.istore i, 2)) (hn : i < n) (h : (i, Value.int x) :: L.filter (fun q => !(q.1 == i) && !(q.1 + 1 == i && q.2.category == 2)) = L') (kk : BT G R own nm b n rt rm K kc ks (pc + 2) L' S M) : BT G R own nm b n rt rm K kc ks pc L (.int x :: S) M :=
  fun p e s m args below meth c H locs F hR hS ls hl => lv_istore F.1 F.2.1 hd hl hn ((aw_filter1 G i (.int x) L).trans (congrArg _ h)) (fun ls hl => kk p e s m args below meth c H locs F hR hS ls hl)
theorem BT.lstore_n {k : Fin 4} {i : Nat} {x : Int64} {L' : List (Nat × Value)} (hd : decode b pc = .ok (.lstore_n k, 1)) (hi : (k : Nat) = i) (hn : i + 1 < n) (h : (i, Value.long x) :: L.filter (fun q => !(q.1 == i) && (!(q.1 == i + 1) && !(q.1 + 1 == i && q.2.category == 2))) = L') (kk : BT G R own nm b n rt rm K kc ks (pc + 1) L' S M) : BT G R own nm b n rt rm K kc ks pc L (.long x :: S) M :=
  fun p e s m args below meth c H locs F hR hS ls hl => lv_lstore_n F.1 F.2.1 hd hi hl hn ((aw_filter2 G i (.long x) L).trans (congrArg _ h)) (fun ls hl => kk p e s m args below meth c H locs F hR hS ls hl)
theorem BT.astore_n {k : Fin 4} {i : Nat} {x : Nat} {L' : List (Nat × Value)} (hd : decode b pc = .ok (.astore_n k, 1)) (hi : (k : Nat) = i) (hn : i < n) (h : (i, Value.ref x) :: L.filter (fun q => !(q.1 == i) && !(q.1 + 1 == i && q.2.category == 2)) = L') (kk : BT G R own nm b n rt rm K kc ks (pc + 1) L' S M) : BT G R own nm b n rt rm K kc ks pc L (.ref x :: S) M :=
  fun p e s m args below meth c H locs F hR hS ls hl => lv_astore_n F.1 F.2.1 hd hi hl hn ((aw_filter1 G i (.ref x) L).trans (congrArg _ h)) (fun ls hl => kk p e s m args below meth c H locs F hR hS ls hl)
theorem BT.astore {i : Nat} {x : Nat} {L' : List (Nat × Value)} (hd : decode b pc = .ok (.astore i, 2)) (hn : i < n) (h : (i, Value.ref x) :: L.filter (fun q => !(q.1 == i) && !(q.1 + 1 == i && q.2.category == 2)) = L') (kk : BT G R own nm b n rt rm K kc ks (pc + 2) L' S M) : BT G R own nm b n rt rm K kc ks pc L (.ref x :: S) M :=
  fun p e s m args below meth c H locs F hR hS ls hl => lv_astore F.1 F.2.1 hd hl hn ((aw_filter1 G i (.ref x) L).trans (congrArg _ h)) (fun ls hl => kk p e s m args below meth c H locs F hR hS ls hl)
theorem BT.iinc {i j : Nat} {k : Int} {x v : Int32} {L' : List (Nat × Value)} (hd : decode b pc = .ok (.iinc i k, 3)) (hj : L[j]? = some (i, .int x)) (hv : x + Int32.ofInt k = v) (hn : i < n) (h : (i, Value.int v) :: L.filter (fun q => !(q.1 == i) && !(q.1 + 1 == i && q.2.category == 2)) = L') (kk : BT G R own nm b n rt rm K kc ks (pc + 3) L' S M) : BT G R own nm b n rt rm K kc ks pc L S M :=
  fun p e s m args below meth c H locs F hR hS ls hl => lv_iinc F.1 F.2.1 hd hl (k := j) (by rw [List.getElem?_map, hj]; rfl) hv hn ((aw_filter1 G i (.int v) L).trans (congrArg _ h)) (fun ls hl => kk p e s m args below meth c H locs F hR hS ls hl)
theorem BT.iadd {x y : Int32} (hd : decode b pc = .ok (.iadd, 1)) (kk : BT G R own nm b n rt rm K kc ks (pc + 1) L (.int (x + y) :: S) M) : BT G R own nm b n rt rm K kc ks pc L (.int y :: .int x :: S) M :=
  fun p e s m args below meth c H locs F hR hS ls hl => lv_iadd F.1 F.2.1 hd (kk p e s m args below meth c H locs F hR hS ls hl)
theorem BT.isub {x y : Int32} (hd : decode b pc = .ok (.isub, 1)) (kk : BT G R own nm b n rt rm K kc ks (pc + 1) L (.int (x - y) :: S) M) : BT G R own nm b n rt rm K kc ks pc L (.int y :: .int x :: S) M :=
  fun p e s m args below meth c H locs F hR hS ls hl => lv_isub F.1 F.2.1 hd (kk p e s m args below meth c H locs F hR hS ls hl)
theorem BT.imul {x y : Int32} (hd : decode b pc = .ok (.imul, 1)) (kk : BT G R own nm b n rt rm K kc ks (pc + 1) L (.int (x * y) :: S) M) : BT G R own nm b n rt rm K kc ks pc L (.int y :: .int x :: S) M :=
  fun p e s m args below meth c H locs F hR hS ls hl => lv_imul F.1 F.2.1 hd (kk p e s m args below meth c H locs F hR hS ls hl)
theorem BT.iand {x y : Int32} (hd : decode b pc = .ok (.iand, 1)) (kk : BT G R own nm b n rt rm K kc ks (pc + 1) L (.int (x &&& y) :: S) M) : BT G R own nm b n rt rm K kc ks pc L (.int y :: .int x :: S) M :=
  fun p e s m args below meth c H locs F hR hS ls hl => lv_iand F.1 F.2.1 hd (kk p e s m args below meth c H locs F hR hS ls hl)
theorem BT.ior {x y : Int32} (hd : decode b pc = .ok (.ior, 1)) (kk : BT G R own nm b n rt rm K kc ks (pc + 1) L (.int (x ||| y) :: S) M) : BT G R own nm b n rt rm K kc ks pc L (.int y :: .int x :: S) M :=
  fun p e s m args below meth c H locs F hR hS ls hl => lv_ior F.1 F.2.1 hd (kk p e s m args below meth c H locs F hR hS ls hl)
theorem BT.ixor {x y : Int32} (hd : decode b pc = .ok (.ixor, 1)) (kk : BT G R own nm b n rt rm K kc ks (pc + 1) L (.int (x ^^^ y) :: S) M) : BT G R own nm b n rt rm K kc ks pc L (.int y :: .int x :: S) M :=
  fun p e s m args below meth c H locs F hR hS ls hl => lv_ixor F.1 F.2.1 hd (kk p e s m args below meth c H locs F hR hS ls hl)
theorem BT.ishl {x y : Int32} (hd : decode b pc = .ok (.ishl, 1)) (kk : BT G R own nm b n rt rm K kc ks (pc + 1) L (.int (x <<< (y &&& 31)) :: S) M) : BT G R own nm b n rt rm K kc ks pc L (.int y :: .int x :: S) M :=
  fun p e s m args below meth c H locs F hR hS ls hl => lv_ishl F.1 F.2.1 hd (kk p e s m args below meth c H locs F hR hS ls hl)
theorem BT.ishr {x y : Int32} (hd : decode b pc = .ok (.ishr, 1)) (kk : BT G R own nm b n rt rm K kc ks (pc + 1) L (.int (x >>> (y &&& 31)) :: S) M) : BT G R own nm b n rt rm K kc ks pc L (.int y :: .int x :: S) M :=
  fun p e s m args below meth c H locs F hR hS ls hl => lv_ishr F.1 F.2.1 hd (kk p e s m args below meth c H locs F hR hS ls hl)
theorem BT.idiv {x y : Int32} (hd : decode b pc = .ok (.idiv, 1)) (hne : ¬ y = 0) (kk : BT G R own nm b n rt rm K kc ks (pc + 1) L (.int (x / y) :: S) M) : BT G R own nm b n rt rm K kc ks pc L (.int y :: .int x :: S) M :=
  fun p e s m args below meth c H locs F hR hS ls hl => lv_idiv F.1 F.2.1 hd hne (kk p e s m args below meth c H locs F hR hS ls hl)
theorem BT.irem {x y : Int32} (hd : decode b pc = .ok (.irem, 1)) (hne : ¬ y = 0) (kk : BT G R own nm b n rt rm K kc ks (pc + 1) L (.int (x - x / y * y) :: S) M) : BT G R own nm b n rt rm K kc ks pc L (.int y :: .int x :: S) M :=
  fun p e s m args below meth c H locs F hR hS ls hl => lv_irem F.1 F.2.1 hd hne (kk p e s m args below meth c H locs F hR hS ls hl)
theorem BT.ladd {x y : Int64} (hd : decode b pc = .ok (.ladd, 1)) (kk : BT G R own nm b n rt rm K kc ks (pc + 1) L (.long (x + y) :: S) M) : BT G R own nm b n rt rm K kc ks pc L (.long y :: .long x :: S) M :=
  fun p e s m args below meth c H locs F hR hS ls hl => lv_ladd F.1 F.2.1 hd (kk p e s m args below meth c H locs F hR hS ls hl)
theorem BT.lsub {x y : Int64} (hd : decode b pc = .ok (.lsub, 1)) (kk : BT G R own nm b n rt rm K kc ks (pc + 1) L (.long (x - y) :: S) M) : BT G R own nm b n rt rm K kc ks pc L (.long y :: .long x :: S) M :=
  fun p e s m args below meth c H locs F hR hS ls hl => lv_lsub F.1 F.2.1 hd (kk p e s m args below meth c H locs F hR hS ls hl)
theorem BT.land {x y : Int64} (hd : decode b pc = .ok (.land, 1)) (kk : BT G R own nm b n rt rm K kc ks (pc + 1) L (.long (x &&& y) :: S) M) : BT G R own nm b n rt rm K kc ks pc L (.long y :: .long x :: S) M :=
  fun p e s m args below meth c H locs F hR hS ls hl => lv_land F.1 F.2.1 hd (kk p e s m args below meth c H locs F hR hS ls hl)
theorem BT.lor {x y : Int64} (hd : decode b pc = .ok (.lor, 1)) (kk : BT G R own nm b n rt rm K kc ks (pc + 1) L (.long (x ||| y) :: S) M) : BT G R own nm b n rt rm K kc ks pc L (.long y :: .long x :: S) M :=
  fun p e s m args below meth c H locs F hR hS ls hl => lv_lor F.1 F.2.1 hd (kk p e s m args below meth c H locs F hR hS ls hl)
theorem BT.iushr {x y : Int32} (hd : decode b pc = .ok (.iushr, 1)) (kk : BT G R own nm b n rt rm K kc ks (pc + 1) L (.int ((x.toUInt32 >>> (y.toUInt32 &&& Int32.toUInt32 31)).toInt32) :: S) M) : BT G R own nm b n rt rm K kc ks pc L (.int y :: .int x :: S) M :=
  fun p e s m args below meth c H locs F hR hS ls hl => lv_iushr F.1 F.2.1 hd rfl (kk p e s m args below meth c H locs F hR hS ls hl)
theorem BT.lushr {x : Int64} {y : Int32} (hd : decode b pc = .ok (.lushr, 1)) (kk : BT G R own nm b n rt rm K kc ks (pc + 1) L (.long ((x.toUInt64 >>> (y.toInt64.toUInt64 &&& Int64.toUInt64 63)).toInt64) :: S) M) : BT G R own nm b n rt rm K kc ks pc L (.int y :: .long x :: S) M :=
  fun p e s m args below meth c H locs F hR hS ls hl => lv_lushr F.1 F.2.1 hd rfl (kk p e s m args below meth c H locs F hR hS ls hl)
theorem BT.lshl {x : Int64} {y : Int32} (hd : decode b pc = .ok (.lshl, 1)) (kk : BT G R own nm b n rt rm K kc ks (pc + 1) L (.long (x <<< (y.toInt64 &&& 63)) :: S) M) : BT G R own nm b n rt rm K kc ks pc L (.int y :: .long x :: S) M :=
  fun p e s m args below meth c H locs F hR hS ls hl => lv_lshl F.1 F.2.1 hd rfl (kk p e s m args below meth c H locs F hR hS ls hl)
theorem BT.i2l {x : Int32} (hd : decode b pc = .ok (.i2l, 1)) (kk : BT G R own nm b n rt rm K kc ks (pc + 1) L (.long x.toInt64 :: S) M) : BT G R own nm b n rt rm K kc ks pc L (.int x :: S) M :=
  fun p e s m args below meth c H locs F hR hS ls hl => lv_i2l F.1 F.2.1 hd rfl (kk p e s m args below meth c H locs F hR hS ls hl)
theorem BT.l2i {x : Int64} (hd : decode b pc = .ok (.l2i, 1)) (kk : BT G R own nm b n rt rm K kc ks (pc + 1) L (.int x.toInt32 :: S) M) : BT G R own nm b n rt rm K kc ks pc L (.long x :: S) M :=
  fun p e s m args below meth c H locs F hR hS ls hl => lv_l2i F.1 F.2.1 hd rfl (kk p e s m args below meth c H locs F hR hS ls hl)
theorem BT.dup {v : Value} (hd : decode b pc = .ok (.dup, 1)) (hv : v.category = 1) (kk : BT G R own nm b n rt rm K kc ks (pc + 1) L (v :: v :: S) M) : BT G R own nm b n rt rm K kc ks pc L (v :: S) M :=
  fun p e s m args below meth c H locs F hR hS ls hl => lv_dup F.1 F.2.1 hd ((aw_v_cat G v).trans hv) (kk p e s m args below meth c H locs F hR hS ls hl)
theorem BT.pop {v : Value} (hd : decode b pc = .ok (.pop, 1)) (hv : v.category = 1) (kk : BT G R own nm b n rt rm K kc ks (pc + 1) L S M) : BT G R own nm b n rt rm K kc ks pc L (v :: S) M :=
  fun p e s m args below meth c H locs F hR hS ls hl => lv_pop F.1 F.2.1 hd ((aw_v_cat G v).trans hv) (kk p e s m args below meth c H locs F hR hS ls hl)
theorem BT.dup2 {v w : Value} (hd : decode b pc = .ok (.dup2, 1)) (hv : v.category = 1) (hw : w.category = 1) (kk : BT G R own nm b n rt rm K kc ks (pc + 1) L (v :: w :: v :: w :: S) M) : BT G R own nm b n rt rm K kc ks pc L (v :: w :: S) M :=
  fun p e s m args below meth c H locs F hR hS ls hl => lv_dup2_11 F.1 F.2.1 hd ((aw_v_cat G v).trans hv) ((aw_v_cat G w).trans hw) (kk p e s m args below meth c H locs F hR hS ls hl)
theorem BT.if_eq {x : Int32} {off : Int} {tgt : Nat} (hd : decode b pc = .ok (.ifCond .eq off, 3)) (ht : (pc : Int) + off = (tgt : Int)) (kt : x = 0 → BT G R own nm b n rt rm K kc ks tgt L S M) (kf : ¬ x = 0 → BT G R own nm b n rt rm K kc ks (pc + 3) L S M) : BT G R own nm b n rt rm K kc ks pc L (.int x :: S) M :=
  fun p e s m args below meth c H locs F hR hS ls hl => lv_if_eq F.1 F.2.1 hd ht (fun h => kt h p e s m args below meth c H locs F hR hS ls hl) (fun h => kf h p e s m args below meth c H locs F hR hS ls hl)
theorem BT.icmp_eq {x y : Int32} {off : Int} {tgt : Nat} (hd : decode b pc = .ok (.if_icmp .eq off, 3)) (ht : (pc : Int) + off = (tgt : Int)) (kt : x = y → BT G R own nm b n rt rm K kc ks tgt L S M) (kf : ¬ x = y → BT G R own nm b n rt rm K kc ks (pc + 3) L S M) : BT G R own nm b n rt rm K kc ks pc L (.int y :: .int x :: S) M :=
  fun p e s m args below meth c H locs F hR hS ls hl => lv_icmp_eq F.1 F.2.1 hd ht (fun h => kt h p e s m args below meth c H locs F hR hS ls hl) (fun h => kf h p e s m args below meth c H locs F hR hS ls hl)
theorem BT.if_ne {x : Int32} {off : Int} {tgt : Nat} (hd : decode b pc = .ok (.ifCond .ne off, 3)) (ht : (pc : Int) + off = (tgt : Int)) (kt : ¬ x = 0 → BT G R own nm b n rt rm K kc ks tgt L S M) (kf : x = 0 → BT G R own nm b n rt rm K kc ks (pc + 3) L S M) : BT G R own nm b n rt rm K kc ks pc L (.int x :: S) M :=
  fun p e s m args below meth c H locs F hR hS ls hl => lv_if_ne F.1 F.2.1 hd ht (fun h => kt h p e s m args below meth c H locs F hR hS ls hl) (fun h => kf h p e s m args below meth c H locs F hR hS ls hl)
theorem BT.icmp_ne {x y : Int32} {off : Int} {tgt : Nat} (hd : decode b pc = .ok (.if_icmp .ne off, 3)) (ht : (pc : Int) + off = (tgt : Int)) (kt : ¬ x = y → BT G R own nm b n rt rm K kc ks tgt L S M) (kf : x = y → BT G R own nm b n rt rm K kc ks (pc + 3) L S M) : BT G R own nm b n rt rm K kc ks pc L (.int y :: .int x :: S) M :=
  fun p e s m args below meth c H locs F hR hS ls hl => lv_icmp_ne F.1 F.2.1 hd ht (fun h => kt h p e s m args below meth c H locs F hR hS ls hl) (fun h => kf h p e s m args below meth c H locs F hR hS ls hl)
theorem BT.if_lt {x : Int32} {off : Int} {tgt : Nat} (hd : decode b pc = .ok (.ifCond .lt off, 3)) (ht : (pc : Int) + off = (tgt : Int)) (kt : x < 0 → BT G R own nm b n rt rm K kc ks tgt L S M) (kf : ¬ x < 0 → BT G R own nm b n rt rm K kc ks (pc + 3) L S M) : BT G R own nm b n rt rm K kc ks pc L (.int x :: S) M :=
  fun p e s m args below meth c H locs F hR hS ls hl => lv_if_lt F.1 F.2.1 hd ht (fun h => kt h p e s m args below meth c H locs F hR hS ls hl) (fun h => kf h p e s m args below meth c H locs F hR hS ls hl)
theorem BT.icmp_lt {x y : Int32} {off : Int} {tgt : Nat} (hd : decode b pc = .ok (.if_icmp .lt off, 3)) (ht : (pc : Int) + off = (tgt : Int)) (kt : x < y → BT G R own nm b n rt rm K kc ks tgt L S M) (kf : ¬ x < y → BT G R own nm b n rt rm K kc ks (pc + 3) L S M) : BT G R own nm b n rt rm K kc ks pc L (.int y :: .int x :: S) M :=
  fun p e s m args below meth c H locs F hR hS ls hl => lv_icmp_lt F.1 F.2.1 hd ht (fun h => kt h p e s m args below meth c H locs F hR hS ls hl) (fun h => kf h p e s m args below meth c H locs F hR hS ls hl)
theorem BT.if_ge {x : Int32} {off : Int} {tgt : Nat} (hd : decode b pc = .ok (.ifCond .ge off, 3)) (ht : (pc : Int) + off = (tgt : Int)) (kt : 0 ≤ x → BT G R own nm b n rt rm K kc ks tgt L S M) (kf : ¬ 0 ≤ x → BT G R own nm b n rt rm K kc ks (pc + 3) L S M) : BT G R own nm b n rt rm K kc ks pc L (.int x :: S) M :=
  fun p e s m args below meth c H locs F hR hS ls hl => lv_if_ge F.1 F.2.1 hd ht (fun h => kt h p e s m args below meth c H locs F hR hS ls hl) (fun h => kf h p e s m args below meth c H locs F hR hS ls hl)
theorem BT.icmp_ge {x y : Int32} {off : Int} {tgt : Nat} (hd : decode b pc = .ok (.if_icmp .ge off, 3)) (ht : (pc : Int) + off = (tgt : Int)) (kt : y ≤ x → BT G R own nm b n rt rm K kc ks tgt L S M) (kf : ¬ y ≤ x → BT G R own nm b n rt rm K kc ks (pc + 3) L S M) : BT G R own nm b n rt rm K kc ks pc L (.int y :: .int x :: S) M :=
  fun p e s m args below meth c H locs F hR hS ls hl => lv_icmp_ge F.1 F.2.1 hd ht (fun h => kt h p e s m args below meth c H locs F hR hS ls hl) (fun h => kf h p e s m args below meth c H locs F hR hS ls hl)
theorem BT.if_gt {x : Int32} {off : Int} {tgt : Nat} (hd : decode b pc = .ok (.ifCond .gt off, 3)) (ht : (pc : Int) + off = (tgt : Int)) (kt : 0 < x → BT G R own nm b n rt rm K kc ks tgt L S M) (kf : ¬ 0 < x → BT G R own nm b n rt rm K kc ks (pc + 3) L S M) : BT G R own nm b n rt rm K kc ks pc L (.int x :: S) M :=
  fun p e s m args below meth c H locs F hR hS ls hl => lv_if_gt F.1 F.2.1 hd ht (fun h => kt h p e s m args below meth c H locs F hR hS ls hl) (fun h => kf h p e s m args below meth c H locs F hR hS ls hl)
theorem BT.icmp_gt {x y : Int32} {off : Int} {tgt : Nat} (hd : decode b pc = .ok (.if_icmp .gt off, 3)) (ht : (pc : Int) + off = (tgt : Int)) (kt : y < x → BT G R own nm b n rt rm K kc ks tgt L S M) (kf : ¬ y < x → BT G R own nm b n rt rm K kc ks (pc + 3) L S M) : BT G R own nm b n rt rm K kc ks pc L (.int y :: .int x :: S) M :=
  fun p e s m args below meth c H locs F hR hS ls hl => lv_icmp_gt F.1 F.2.1 hd ht (fun h => kt h p e s m args below meth c H locs F hR hS ls hl) (fun h => kf h p e s m args below meth c H locs F hR hS ls hl)
theorem BT.if_le {x : Int32} {off : Int} {tgt : Nat} (hd : decode b pc = .ok (.ifCond .le off, 3)) (ht : (pc : Int) + off = (tgt : Int)) (kt : x ≤ 0 → BT G R own nm b n rt rm K kc ks tgt L S M) (kf : ¬ x ≤ 0 → BT G R own nm b n rt rm K kc ks (pc + 3) L S M) : BT G R own nm b n rt rm K kc ks pc L (.int x :: S) M :=
  fun p e s m args below meth c H locs F hR hS ls hl => lv_if_le F.1 F.2.1 hd ht (fun h => kt h p e s m args below meth c H locs F hR hS ls hl) (fun h => kf h p e s m args below meth c H locs F hR hS ls hl)
theorem BT.icmp_le {x y : Int32} {off : Int} {tgt : Nat} (hd : decode b pc = .ok (.if_icmp .le off, 3)) (ht : (pc : Int) + off = (tgt : Int)) (kt : x ≤ y → BT G R own nm b n rt rm K kc ks tgt L S M) (kf : ¬ x ≤ y → BT G R own nm b n rt rm K kc ks (pc + 3) L S M) : BT G R own nm b n rt rm K kc ks pc L (.int y :: .int x :: S) M :=
  fun p e s m args below meth c H locs F hR hS ls hl => lv_icmp_le F.1 F.2.1 hd ht (fun h => kt h p e s m args below meth c H locs F hR hS ls hl) (fun h => kf h p e s m args below meth c H locs F hR hS ls hl)
theorem BT.goto {off : Int} {tgt : Nat} (hd : decode b pc = .ok (.goto off, 3)) (ht : (pc : Int) + off = (tgt : Int)) (kk : BT G R own nm b n rt rm K kc ks tgt L S M) : BT G R own nm b n rt rm K kc ks pc L S M :=
  fun p e s m args below meth c H locs F hR hS ls hl => lv_goto F.1 F.2.1 hd ht (kk p e s m args below meth c H locs F hR hS ls hl)
theorem BT.tsw {dflt lo hi : Int} {offs : Array Int} {len : Nat} {x : Int32} {td : Nat} (hd : decode b pc = .ok (.tableswitch dflt lo hi offs, len)) (ht : (pc : Int) + dflt = (td : Int)) (kd : (x.toInt < lo ∨ hi < x.toInt) → BT G R own nm b n rt rm K kc ks td L S M) (ki : ∀ j : Nat, x.toInt = lo + (j : Int) → lo + (j : Int) ≤ hi → ∃ (tgt : Nat) (off : Int), offs[j]? = some off ∧ (pc : Int) + off = (tgt : Int) ∧ BT G R own nm b n rt rm K kc ks tgt L S M) : BT G R own nm b n rt rm K kc ks pc L (.int x :: S) M := by
  intro p e s m args below meth c H locs F hR hS ls hl
  by_cases h : x.toInt < lo ∨ hi < x.toInt
  · exact lv_tableOut F.1 F.2.1 hd h ht (kd h p e s m args below meth c H locs F hR hS ls hl)
  · have h1 : ¬ x.toInt < lo := fun q => h (Or.inl q)
    have h2 : ¬ hi < x.toInt := fun q => h (Or.inr q)
    obtain ⟨tgt, off, e1, e2, k⟩ := ki (x.toInt - lo).toNat (by omega) (by omega)
    exact lv_tableIn F.1 F.2.1 hd h1 h2 e1 e2 (k p e s m args below meth c H locs F hR hS ls hl)
theorem BT.ldc2 {index : Nat} {v : Int64} (hd : decode b pc = .ok (.ldc2_w index, 3)) (hw : Cond.constantLong own index v ∈ aw_ws) (kk : BT G R own nm b n rt rm K kc ks (pc + 3) L (.long v :: S) M) : BT G R own nm b n rt rm K kc ks pc L S M :=
  fun p e s m args below meth c H locs F hR hS ls hl => lv_ldc2 F.1 F.2.1 F.2.2.2.2.1 (F.2.2.2.2.2.1 _ hw) hd (kk p e s m args below meth c H locs F hR hS ls hl)
theorem BT.ldcw {index : Nat} {v : Int32} (hd : decode b pc = .ok (.ldc_w index, 3)) (hw : Cond.constant own index v ∈ aw_ws) (kk : BT G R own nm b n rt rm K kc ks (pc + 3) L (.int v :: S) M) : BT G R own nm b n rt rm K kc ks pc L S M :=
  fun p e s m args below meth c H locs F hR hS ls hl => lv_ldcw F.1 F.2.1 F.2.2.2.2.1 (F.2.2.2.2.2.1 _ hw) hd (kk p e s m args below meth c H locs F hR hS ls hl)
theorem BT.lcmp {x y : Int64} (hd : decode b pc = .ok (.lcmp, 1)) (kk : BT G R own nm b n rt rm K kc ks (pc + 1) L (.int (lg_cmp x y) :: S) M) : BT G R own nm b n rt rm K kc ks pc L (.long y :: .long x :: S) M :=
  fun p e s m args below meth c H locs F hR hS ls hl => W.lcmp F.1 F.2.1 hd (kk p e s m args below meth c H locs F hR hS ls hl)
theorem BT.iret {v : Int32} (hd : decode b pc = .ok (.ireturn, 1)) (hrt : rt = some .int) (hc : kc ≤ rm.cells) (hs : ks ≤ rm.slots) (hK : K v M) : BT G R own nm b n rt rm K kc ks pc L [.int v] M := by
  subst hrt
  intro p e s m args below meth c H locs F hR hS ls hl
  exact W.widen hc hs (W.iret (v := v) F.1 F.2.1 F.2.2.1 (fun t ht hW => ⟨⟨v, M, rfl, hK, by show R M t.heap; rw [ht]; exact hR⟩, hS.F ht⟩) hS.2.2 hd F.2.2.2.2.2.2.2.2.1)
theorem BT.zret {v : Int32} (hd : decode b pc = .ok (.ireturn, 1)) (hrt : rt = some .boolean) (hc : kc ≤ rm.cells) (hs : ks ≤ rm.slots) (hn : narrow .boolean (.int v) = .int v) (hK : K v M) : BT G R own nm b n rt rm K kc ks pc L [.int v] M := by
  subst hrt
  intro p e s m args below meth c H locs F hR hS ls hl
  exact W.widen hc hs (W.zret (v := v) F.1 F.2.1 F.2.2.1 hn (fun t ht hW => ⟨⟨v, M, rfl, hK, by show R M t.heap; rw [ht]; exact hR⟩, hS.F ht⟩) hS.2.2 hd F.2.2.2.2.2.2.2.2.1)
theorem BT.vret (hd : decode b pc = .ok (.return_, 1)) (hrt : rt = none) (hc : kc ≤ rm.cells) (hs : ks ≤ rm.slots) (hK : K 0 M) : BT G R own nm b n rt rm K kc ks pc L [] M := by
  subst hrt
  intro p e s m args below meth c H locs F hR hS ls hl
  exact W.widen hc hs (W.vret F.1 F.2.1 F.2.2.1 (fun t ht hW => ⟨⟨M, rfl, hK, by show R M t.heap; rw [ht]; exact hR⟩, hS.F ht⟩) hS.2.2 hd F.2.2.2.2.2.2.2.2.1)
theorem aw_blind {as : List Value} : FrameBlind (va_Pc as (aw_W G R M)) := by
  intro a U g mk q
  obtain ⟨q0, q1, q2, q3, q4⟩ := q
  exact ⟨q0, q1, aw_K.same (s := U) (U := U.calling g mk a) rfl q2, aw_T.moved (u := U) (U := U.calling g mk a) (Vm.Alike.refl U.vm) q3, q4⟩
theorem aw_pre {p : Program} {s : State} {m : MethodId} {args : Array Value} {meth : Method} {c : Code} {H : Heap} {locs : List Loc} (F : aw_F G own nm b n rt p s m args meth c) (hR : R M H) (hS : va_S (aw_A G) s.heap H locs) {U : State} (hU : U.heap = H) (hW : s.WarmedH U.vm) : aw_W G R M U := by
  refine ⟨by rw [hU]; exact hR, aw_K.warm hW F.2.2.2.2.2.2.1, ?_, by rw [hU]; exact Nat.le_trans F.2.2.2.2.2.2.2.2.2.2 hS.1⟩
  rw [hU]
  exact (aw_T.moved hW.alike F.2.2.2.2.2.2.2.1).kept (fun a h1 h2 => hS.2.1 a h1 h2)
def MWb (y : MethodName) (yb : ByteArray) (yn : Nat) (yrt : Option FieldType) (k : Nat) : Prop :=
  Cond.code y yb yn yrt ∈ aw_ws ∧ Cond.initialized y.cls ∈ aw_ws ∧ (y.cls ≠ "java/lang/invoke/MethodHandle" ∧ y.cls ≠ "java/lang/invoke/VarHandle" ∧ (parseMethodDescriptor y.desc).map (fun d => d.parameters.length) = some k)
def MWv (y : MethodName) : Prop := Cond.instanceMethod y ∈ aw_ws ∧ Cond.selects y.cls y y ∈ aw_ws
def MWs (y : MethodName) : Prop := Cond.static y ∈ aw_ws
abbrev aw_Recv (G : GT) (R : μ → Heap → Prop) (M : μ) (c : Nat) (C : String) : Prop := ∀ (s : State) (H : Heap), R M H → aw_K G s → ∃ cell : Cell, H[g_b G + c]? = some cell ∧ cell.vm.isStatics = false ∧ s.vm.findClass C = some cell.cls
theorem aw_sum (G : GT) (S : List Value) (h : (S.map fun v => v.category).sum ≤ 8) {m : MethodId} {pc : Nat} {ls : Array Slot} {st : List Value} : 2 * (F0 m pc ls st).monitorRoom + ((S.map (aw_v G)).map fun v => v.category).sum ≤ 8 := by
  refine lv_room ?_
  rw [List.map_map]
  have e : ((fun v : Value => v.category) ∘ aw_v G) = (fun v : Value => v.category) := by
    funext v
    exact aw_v_cat G v
  rw [e]
  exact h
section CALLS
variable {y : MethodName} {yb : ByteArray} {yn : Nat} {ty : FieldType} {yrm : Room} {k idx c0 : Nat} {As : List Value} {K' : Int32 → μ → Prop}
theorem BT.callV (As : List Value) (hM : MT G R y yb yn (some ty) yrm (.ref c0 :: As) M K') (hb1 : MWb y yb yn (some ty) k) (hv : MWv y) (hlk : Cond.methodLink own idx y ∈ aw_ws) (hroom : yrm.frames + 1 ≤ rm.frames ∧ 8 + (yn + 11) + yrm.locals ≤ rm.locals) (hcl : kc + yrm.cells ≤ rm.cells ∧ ks + yrm.slots ≤ rm.slots) (hk : As.length = k) (hrc : aw_Recv G R M c0 y.cls) (h8 : (S.map fun v => v.category).sum ≤ 8) (hd : decode b pc = .ok (.invokevirtual idx, 3))
    (kk : ∀ (r : Int32) (M' : μ), K' r M' → BT G R own nm b n rt rm K (kc + yrm.cells) (ks + yrm.slots) (pc + 3) L (.int r :: S) M') : BT G R own nm b n rt rm K kc ks pc L (As.reverse ++ .ref c0 :: S) M := by
  intro p e s m args below meth c H locs F hR hS ls hl
  have hts := F.2.2.2.2.2.1
  have hst : (As.reverse ++ .ref c0 :: S).map (aw_v G) = (As.map (aw_v G)).reverse ++ .ref (g_b G + c0) :: S.map (aw_v G) := by
    rw [List.map_append, List.map_reverse, List.map_cons]; rfl
  rw [hst]
  refine va_calli (va_runV (As := As.map (aw_v G)) (rest := S.map (aw_v G)) ⟨F.1, F.2.1, F.2.2.2.1, F.2.2.2.2.1, hts⟩ hM ⟨callB_of k hts (aw_goodIn hb1.1) rfl rfl rfl (hts _ hb1.2.1) (hts _ hlk) hb1.2.2 hroom, hts _ hv.1, hts _ hv.2⟩
    ⟨aw_blind, hrc s H hR F.2.2.2.2.2.2.1, fun U hU hW => ⟨rfl, aw_pre F hR hS hU hW⟩⟩ rfl (by rw [List.length_map]; exact hk) hl.1 rfl (aw_sum G S h8) hd hcl) hS (fun q _ h => h) (fun q h => h) (fun r M' t H1 locs1 ht hvm hp hB hz hk1 hS1 => ?_)
  exact kk r M' hp p e s m args below meth c H1 locs1 F (by rw [← ht]; exact hB) hS1 ls hl
theorem BT.callVv (As : List Value) (hM : MT G R y yb yn none yrm (.ref c0 :: As) M K') (hb1 : MWb y yb yn none k) (hv : MWv y) (hlk : Cond.methodLink own idx y ∈ aw_ws) (hroom : yrm.frames + 1 ≤ rm.frames ∧ 8 + (yn + 11) + yrm.locals ≤ rm.locals) (hcl : kc + yrm.cells ≤ rm.cells ∧ ks + yrm.slots ≤ rm.slots) (hk : As.length = k) (hrc : aw_Recv G R M c0 y.cls) (h8 : (S.map fun v => v.category).sum ≤ 8) (hd : decode b pc = .ok (.invokevirtual idx, 3))
    (kk : ∀ (M' : μ), K' 0 M' → BT G R own nm b n rt rm K (kc + yrm.cells) (ks + yrm.slots) (pc + 3) L S M') : BT G R own nm b n rt rm K kc ks pc L (As.reverse ++ .ref c0 :: S) M := by
  intro p e s m args below meth c H locs F hR hS ls hl
  have hts := F.2.2.2.2.2.1
  have hst : (As.reverse ++ .ref c0 :: S).map (aw_v G) = (As.map (aw_v G)).reverse ++ .ref (g_b G + c0) :: S.map (aw_v G) := by
    rw [List.map_append, List.map_reverse, List.map_cons]; rfl
  rw [hst]
  refine va_callv (va_runV (As := As.map (aw_v G)) (rest := S.map (aw_v G)) ⟨F.1, F.2.1, F.2.2.2.1, F.2.2.2.2.1, hts⟩ hM ⟨callB_of k hts (aw_goodIn hb1.1) rfl rfl rfl (hts _ hb1.2.1) (hts _ hlk) hb1.2.2 hroom, hts _ hv.1, hts _ hv.2⟩
    ⟨aw_blind, hrc s H hR F.2.2.2.2.2.2.1, fun U hU hW => ⟨rfl, aw_pre F hR hS hU hW⟩⟩ rfl (by rw [List.length_map]; exact hk) hl.1 rfl (aw_sum G S h8) hd hcl) hS (fun q _ h => h) (fun q h => h) (fun M' t H1 locs1 ht hvm hp hB hz hk1 hS1 => ?_)
  exact kk M' hp p e s m args below meth c H1 locs1 F (by rw [← ht]; exact hB) hS1 ls hl
theorem BT.callS (As : List Value) (hM : MT G R y yb yn (some ty) yrm As M K') (hb1 : MWb y yb yn (some ty) k) (hv : MWs y) (hlk : Cond.methodLink own idx y ∈ aw_ws) (hroom : yrm.frames + 1 ≤ rm.frames ∧ 8 + (yn + 11) + yrm.locals ≤ rm.locals) (hcl : kc + yrm.cells ≤ rm.cells ∧ ks + yrm.slots ≤ rm.slots) (hk : As.length = k) (h8 : (S.map fun v => v.category).sum ≤ 8) (hd : decode b pc = .ok (.invokestatic idx, 3))
    (kk : ∀ (r : Int32) (M' : μ), K' r M' → BT G R own nm b n rt rm K (kc + yrm.cells) (ks + yrm.slots) (pc + 3) L (.int r :: S) M') : BT G R own nm b n rt rm K kc ks pc L (As.reverse ++ S) M := by
  intro p e s m args below meth c H locs F hR hS ls hl
  have hts := F.2.2.2.2.2.1
  have hst : (As.reverse ++ S).map (aw_v G) = (As.map (aw_v G)).reverse ++ S.map (aw_v G) := by
    rw [List.map_append, List.map_reverse]
  rw [hst]
  refine va_calli (va_runS (As := As.map (aw_v G)) (rest := S.map (aw_v G)) ⟨F.1, F.2.1, F.2.2.2.1, F.2.2.2.2.1, hts⟩ hM ⟨callB_of k hts (aw_goodIn hb1.1) rfl rfl rfl (hts _ hb1.2.1) (hts _ hlk) hb1.2.2 hroom, hts _ hv⟩
    ⟨aw_blind, fun U hU hW => ⟨rfl, aw_pre F hR hS hU hW⟩⟩ rfl (by rw [List.length_map]; exact hk) hl.1 rfl (aw_sum G S h8) hd hcl) hS (fun q _ h => h) (fun q h => h) (fun r M' t H1 locs1 ht hvm hp hB hz hk1 hS1 => ?_)
  exact kk r M' hp p e s m args below meth c H1 locs1 F (by rw [← ht]; exact hB) hS1 ls hl
theorem BT.callSN {host : String} (As : List Value) (hM : MT G R y yb yn (some ty) yrm As M K') (hb1 : MWb y yb yn (some ty) k) (hv : MWs y) (hlk : Cond.methodLinkNest own idx y host ∈ lw_tbl) (hroom : yrm.frames + 1 ≤ rm.frames ∧ 8 + (yn + 11) + yrm.locals ≤ rm.locals) (hcl : kc + yrm.cells ≤ rm.cells ∧ ks + yrm.slots ≤ rm.slots) (hk : As.length = k) (h8 : (S.map fun v => v.category).sum ≤ 8) (hd : decode b pc = .ok (.invokestatic idx, 3))
    (kk : ∀ (r : Int32) (M' : μ), K' r M' → BT G R own nm b n rt rm K (kc + yrm.cells) (ks + yrm.slots) (pc + 3) L (.int r :: S) M') : BT G R own nm b n rt rm K kc ks pc L (As.reverse ++ S) M := by
  intro p e s m args below meth c H locs F hR hS ls hl
  have hts := F.2.2.2.2.2.1
  have hst : (As.reverse ++ S).map (aw_v G) = (As.map (aw_v G)).reverse ++ S.map (aw_v G) := by
    rw [List.map_append, List.map_reverse]
  rw [hst]
  refine va_calli (va_runSN (As := As.map (aw_v G)) (rest := S.map (aw_v G)) ⟨F.1, F.2.1, F.2.2.2.1, F.2.2.2.2.1, hts⟩ hM ⟨va_cnB (host := host) k hts (aw_goodIn hb1.1) rfl rfl rfl (F.2.2.2.2.2.2.1.2 _ hlk rfl) (hts _ hb1.2.1) hb1.2.2 hroom, hts _ hv, trivial⟩
    ⟨aw_blind, fun U hU hW => ⟨rfl, aw_pre F hR hS hU hW⟩⟩ rfl (by rw [List.length_map]; exact hk) hl.1 rfl (aw_sum G S h8) hd hcl) hS (fun q _ h => h) (fun q h => h) (fun r M' t H1 locs1 ht hvm hp hB hz hk1 hS1 => ?_)
  exact kk r M' hp p e s m args below meth c H1 locs1 F (by rw [← ht]; exact hB) hS1 ls hl
theorem BT.callI (As : List Value) (hM : MT G R y yb yn none yrm (.ref c0 :: As) M K') (hb1 : MWb y yb yn none k) (hy1 : y.name = "<init>") (hv : Cond.instanceMethod y ∈ aw_ws) (hlk : Cond.methodLink own idx y ∈ aw_ws) (hroom : yrm.frames + 1 ≤ rm.frames ∧ 8 + (yn + 11) + yrm.locals ≤ rm.locals) (hcl : kc + yrm.cells ≤ rm.cells ∧ ks + yrm.slots ≤ rm.slots) (hk : As.length = k) (h8 : (S.map fun v => v.category).sum ≤ 8) (hd : decode b pc = .ok (.invokespecial idx, 3))
    (kk : ∀ (M' : μ), K' 0 M' → BT G R own nm b n rt rm K (kc + yrm.cells) (ks + yrm.slots) (pc + 3) L S M') : BT G R own nm b n rt rm K kc ks pc L (As.reverse ++ .ref c0 :: S) M := by
  intro p e s m args below meth c H locs F hR hS ls hl
  have hts := F.2.2.2.2.2.1
  have hst : (As.reverse ++ .ref c0 :: S).map (aw_v G) = (As.map (aw_v G)).reverse ++ .ref (g_b G + c0) :: S.map (aw_v G) := by
    rw [List.map_append, List.map_reverse, List.map_cons]; rfl
  rw [hst]
  refine va_callv (va_runI (As := As.map (aw_v G)) (rest := S.map (aw_v G)) ⟨F.1, F.2.1, F.2.2.2.1, F.2.2.2.2.1, hts⟩ hM (cwI k hts (aw_goodIn hb1.1) rfl rfl rfl (hts _ hb1.2.1) (hts _ hlk) (hts _ hv) hy1 hb1.2.2 hroom)
    ⟨aw_blind, fun U hU hW => ⟨rfl, aw_pre F hR hS hU hW⟩⟩ rfl (by rw [List.length_map]; exact hk) hl.1 rfl (aw_sum G S h8) hd hcl) hS (fun q _ h => h) (fun q h => h) (fun M' t H1 locs1 ht hvm hp hB hz hk1 hS1 => ?_)
  exact kk M' hp p e s m args below meth c H1 locs1 F (by rw [← ht]; exact hB) hS1 ls hl
theorem BT.callIN {host : String} (As : List Value) (hM : MT G R y yb yn none yrm (.ref c0 :: As) M K') (hb1 : MWb y yb yn none k) (hy1 : y.name = "<init>") (hv : Cond.instanceMethod y ∈ aw_ws) (hlk : Cond.methodLinkNest own idx y host ∈ lw_tbl) (hroom : yrm.frames + 1 ≤ rm.frames ∧ 8 + (yn + 11) + yrm.locals ≤ rm.locals) (hcl : kc + yrm.cells ≤ rm.cells ∧ ks + yrm.slots ≤ rm.slots) (hk : As.length = k) (h8 : (S.map fun v => v.category).sum ≤ 8) (hd : decode b pc = .ok (.invokespecial idx, 3))
    (kk : ∀ (M' : μ), K' 0 M' → BT G R own nm b n rt rm K (kc + yrm.cells) (ks + yrm.slots) (pc + 3) L S M') : BT G R own nm b n rt rm K kc ks pc L (As.reverse ++ .ref c0 :: S) M := by
  intro p e s m args below meth c H locs F hR hS ls hl
  have hts := F.2.2.2.2.2.1
  have hst : (As.reverse ++ .ref c0 :: S).map (aw_v G) = (As.map (aw_v G)).reverse ++ .ref (g_b G + c0) :: S.map (aw_v G) := by
    rw [List.map_append, List.map_reverse, List.map_cons]; rfl
  rw [hst]
  refine va_callv (va_runIN (As := As.map (aw_v G)) (rest := S.map (aw_v G)) ⟨F.1, F.2.1, F.2.2.2.1, F.2.2.2.2.1, hts⟩ hM ⟨va_cnB (host := host) k hts (aw_goodIn hb1.1) rfl rfl rfl (F.2.2.2.2.2.2.1.2 _ hlk rfl) (hts _ hb1.2.1) hb1.2.2 hroom, hy1, hts _ hv⟩
    ⟨aw_blind, fun U hU hW => ⟨rfl, aw_pre F hR hS hU hW⟩⟩ rfl (by rw [List.length_map]; exact hk) hl.1 rfl (aw_sum G S h8) hd hcl) hS (fun q _ h => h) (fun q h => h) (fun M' t H1 locs1 ht hvm hp hB hz hk1 hS1 => ?_)
  exact kk M' hp p e s m args below meth c H1 locs1 F (by rw [← ht]; exact hB) hS1 ls hl
end CALLS
theorem BT.objInit {idx c0 : Nat} (hlk : Cond.methodLink own idx objectInit ∈ aw_ws) (hin : Cond.instanceMethod objectInit ∈ aw_ws) (hco : Cond.code objectInit ⟨#[0xb1]⟩ 1 none ∈ aw_ws) (h8 : (S.map fun v => v.category).sum ≤ 8) (hd : decode b pc = .ok (.invokespecial idx, 3)) (hfr : 1 ≤ rm.frames) (hlo : 8 + 12 ≤ rm.locals) (kk : BT G R own nm b n rt rm K kc ks (pc + 3) L S M) : BT G R own nm b n rt rm K kc ks pc L (.ref c0 :: S) M := by
  intro p e s m args below meth c H locs F hR hS ls hl
  have hts := F.2.2.2.2.2.1
  refine W.objInit F.1 F.2.1 F.2.2.2.2.1 (hts _ hlk) (hts _ hin) (hts _ hco) rfl (hl.1.trans F.2.2.2.1.symm) rfl hd hfr ?_ (kk p e s m args below meth c H locs F hR hS ls hl)
  have h := aw_sum G S h8 (m := m) (pc := pc) (ls := ls) (st := (Value.ref c0 :: S).map (aw_v G))
  have hlo2 : 20 ≤ rm.locals := hlo
  show _ + _ + 12 ≤ rm.locals
  exact Nat.le_trans (Nat.add_le_add_right h 12) hlo2
theorem BT.mmin {idx : Nat} {x z : Int32} (hlk : Cond.methodLink own idx Lib.Math.min.name ∈ aw_ws) (hst : Cond.static Lib.Math.min.name ∈ aw_ws) (hin : Cond.initialized "java/lang/Math" ∈ aw_ws) (hco : Cond.code Lib.Math.min.name Lib.Math.min.code 2 (some .int) ∈ aw_ws) (h8 : (S.map fun v => v.category).sum ≤ 8) (hd : decode b pc = .ok (.invokestatic idx, 3)) (hfr : 1 ≤ rm.frames) (hlo : 8 + 13 ≤ rm.locals) (hc : kc ≤ rm.cells) (hs : ks ≤ rm.slots) (kk : BT G R own nm b n rt rm K kc ks (pc + 3) L (.int (if z < x then z else x) :: S) M) : BT G R own nm b n rt rm K kc ks pc L (.int z :: .int x :: S) M := by
  intro p e s m args below meth c H locs F hR hS ls hl
  have hts := F.2.2.2.2.2.1
  refine va_mmin F.1 F.2.1 (F.2.2.2.1.trans hl.1.symm) F.2.2.2.2.1 (hts _ hlk) (hts _ hst) (hts _ hin) (hts _ hco) hfr ?_ hc hs hd (kk p e s m args below meth c H locs F hR hS ls hl)
  have h := aw_sum G S h8 (m := m) (pc := pc) (ls := ls) (st := [])
  have e2 : 2 * (F0 m pc ls []).monitorRoom = 0 := rfl
  have hlo2 : 21 ≤ rm.locals := hlo
  show _ ≤ rm.locals
  omega
end BTS
end
section
/-! ===== the memory: 199 cells of a fixed shape, their ints and longs ===== -/
abbrev ShT : Type := (Nat × Nat × Nat × Nat) ⊕ (Nat × List Nat)
def shl : List ShT := [
  .inr (10, [3, 5, 10, 62, 167, 169, 171, 172, 173, 175]),
  .inr (5, [4, 0, 0]),
  .inl (0, 60, 0, 0),
  .inr (3, [0, 0, 0, 6, 7, 8, 9, 0, 0, 0, 0, 0, 0, 0, 0]),
  .inl (0, 6, 0, 0),
  .inl (0, 6, 0, 0),
  .inl (0, 32, 0, 0),
  .inl (0, 32, 0, 0),
  .inr (9, [11, 0, 52, 53, 0, 0, 0, 0]),
  .inl (2, 8, 10, 5),
  .inr (3, [0, 0, 0, 13, 14, 15, 16, 0, 0, 0, 0, 0, 0, 0, 0]),
  .inl (0, 6, 0, 0),
  .inl (0, 6, 0, 0),
  .inl (0, 32, 0, 0),
  .inl (0, 32, 0, 0),
  .inr (3, [0, 0, 0, 18, 19, 20, 21, 0, 0, 0, 0, 0, 0, 0, 0]),
  .inl (0, 6, 0, 0),
  .inl (0, 6, 0, 0),
  .inl (0, 32, 0, 0),
  .inl (0, 32, 0, 0),
  .inr (3, [0, 0, 0, 23, 24, 25, 26, 0, 0, 0, 0, 0, 0, 0, 0]),
  .inl (0, 6, 0, 0),
  .inl (0, 6, 0, 0),
  .inl (0, 32, 0, 0),
  .inl (0, 32, 0, 0),
  .inr (3, [0, 0, 0, 28, 29, 30, 31, 0, 0, 0, 0, 0, 0, 0, 0]),
  .inl (0, 6, 0, 0),
  .inl (0, 6, 0, 0),
  .inl (0, 32, 0, 0),
  .inl (0, 32, 0, 0),
  .inr (3, [0, 0, 0, 33, 34, 35, 36, 0, 0, 0, 0, 0, 0, 0, 0]),
  .inl (0, 6, 0, 0),
  .inl (0, 6, 0, 0),
  .inl (0, 32, 0, 0),
  .inl (0, 32, 0, 0),
  .inr (3, [0, 0, 0, 38, 39, 40, 41, 0, 0, 0, 0, 0, 0, 0, 0]),
  .inl (0, 6, 0, 0),
  .inl (0, 6, 0, 0),
  .inl (0, 32, 0, 0),
  .inl (0, 32, 0, 0),
  .inr (3, [0, 0, 0, 43, 44, 45, 46, 0, 0, 0, 0, 0, 0, 0, 0]),
  .inl (0, 6, 0, 0),
  .inl (0, 6, 0, 0),
  .inl (0, 32, 0, 0),
  .inl (0, 32, 0, 0),
  .inr (3, [0, 0, 0, 48, 49, 50, 51, 0, 0, 0, 0, 0, 0, 0, 0]),
  .inl (0, 6, 0, 0),
  .inl (0, 6, 0, 0),
  .inl (0, 32, 0, 0),
  .inl (0, 32, 0, 0),
  .inl (0, 8, 0, 0),
  .inl (3, 8, 52, 1),
  .inr (6, [0, 0, 0, 0, 0]),
  .inr (6, [0, 0, 0, 0, 0]),
  .inr (6, [0, 0, 0, 0, 0]),
  .inr (6, [0, 0, 0, 0, 0]),
  .inr (6, [0, 0, 0, 0, 0]),
  .inr (6, [0, 0, 0, 0, 0]),
  .inr (6, [0, 0, 0, 0, 0]),
  .inr (6, [0, 0, 0, 0, 0]),
  .inl (4, 2, 61, 52),
  .inr (9, [64, 0, 105, 106, 0, 0, 0, 0]),
  .inl (2, 8, 63, 5),
  .inr (3, [0, 0, 0, 66, 67, 68, 69, 0, 0, 0, 0, 0, 0, 0, 0]),
  .inl (0, 6, 0, 0),
  .inl (0, 6, 0, 0),
  .inl (0, 32, 0, 0),
  .inl (0, 32, 0, 0),
  .inr (3, [0, 0, 0, 71, 72, 73, 74, 0, 0, 0, 0, 0, 0, 0, 0]),
  .inl (0, 6, 0, 0),
  .inl (0, 6, 0, 0),
  .inl (0, 32, 0, 0),
  .inl (0, 32, 0, 0),
  .inr (3, [0, 0, 0, 76, 77, 78, 79, 0, 0, 0, 0, 0, 0, 0, 0]),
  .inl (0, 6, 0, 0),
  .inl (0, 6, 0, 0),
  .inl (0, 32, 0, 0),
  .inl (0, 32, 0, 0),
  .inr (3, [0, 0, 0, 81, 82, 83, 84, 0, 0, 0, 0, 0, 0, 0, 0]),
  .inl (0, 6, 0, 0),
  .inl (0, 6, 0, 0),
  .inl (0, 32, 0, 0),
  .inl (0, 32, 0, 0),
  .inr (3, [0, 0, 0, 86, 87, 88, 89, 0, 0, 0, 0, 0, 0, 0, 0]),
  .inl (0, 6, 0, 0),
  .inl (0, 6, 0, 0),
  .inl (0, 32, 0, 0),
  .inl (0, 32, 0, 0),
  .inr (3, [0, 0, 0, 91, 92, 93, 94, 0, 0, 0, 0, 0, 0, 0, 0]),
  .inl (0, 6, 0, 0),
  .inl (0, 6, 0, 0),
  .inl (0, 32, 0, 0),
  .inl (0, 32, 0, 0),
  .inr (3, [0, 0, 0, 96, 97, 98, 99, 0, 0, 0, 0, 0, 0, 0, 0]),
  .inl (0, 6, 0, 0),
  .inl (0, 6, 0, 0),
  .inl (0, 32, 0, 0),
  .inl (0, 32, 0, 0),
  .inr (3, [0, 0, 0, 101, 102, 103, 104, 0, 0, 0, 0, 0, 0, 0, 0]),
  .inl (0, 6, 0, 0),
  .inl (0, 6, 0, 0),
  .inl (0, 32, 0, 0),
  .inl (0, 32, 0, 0),
  .inl (0, 8, 0, 0),
  .inl (3, 8, 105, 1),
  .inr (6, [0, 0, 0, 0, 0]),
  .inr (6, [0, 0, 0, 0, 0]),
  .inr (6, [0, 0, 0, 0, 0]),
  .inr (6, [0, 0, 0, 0, 0]),
  .inr (6, [0, 0, 0, 0, 0]),
  .inr (6, [0, 0, 0, 0, 0]),
  .inr (6, [0, 0, 0, 0, 0]),
  .inr (6, [0, 0, 0, 0, 0]),
  .inr (9, [116, 0, 157, 158, 0, 0, 0, 0]),
  .inl (2, 8, 115, 5),
  .inr (3, [0, 0, 0, 118, 119, 120, 121, 0, 0, 0, 0, 0, 0, 0, 0]),
  .inl (0, 6, 0, 0),
  .inl (0, 6, 0, 0),
  .inl (0, 32, 0, 0),
  .inl (0, 32, 0, 0),
  .inr (3, [0, 0, 0, 123, 124, 125, 126, 0, 0, 0, 0, 0, 0, 0, 0]),
  .inl (0, 6, 0, 0),
  .inl (0, 6, 0, 0),
  .inl (0, 32, 0, 0),
  .inl (0, 32, 0, 0),
  .inr (3, [0, 0, 0, 128, 129, 130, 131, 0, 0, 0, 0, 0, 0, 0, 0]),
  .inl (0, 6, 0, 0),
  .inl (0, 6, 0, 0),
  .inl (0, 32, 0, 0),
  .inl (0, 32, 0, 0),
  .inr (3, [0, 0, 0, 133, 134, 135, 136, 0, 0, 0, 0, 0, 0, 0, 0]),
  .inl (0, 6, 0, 0),
  .inl (0, 6, 0, 0),
  .inl (0, 32, 0, 0),
  .inl (0, 32, 0, 0),
  .inr (3, [0, 0, 0, 138, 139, 140, 141, 0, 0, 0, 0, 0, 0, 0, 0]),
  .inl (0, 6, 0, 0),
  .inl (0, 6, 0, 0),
  .inl (0, 32, 0, 0),
  .inl (0, 32, 0, 0),
  .inr (3, [0, 0, 0, 143, 144, 145, 146, 0, 0, 0, 0, 0, 0, 0, 0]),
  .inl (0, 6, 0, 0),
  .inl (0, 6, 0, 0),
  .inl (0, 32, 0, 0),
  .inl (0, 32, 0, 0),
  .inr (3, [0, 0, 0, 148, 149, 150, 151, 0, 0, 0, 0, 0, 0, 0, 0]),
  .inl (0, 6, 0, 0),
  .inl (0, 6, 0, 0),
  .inl (0, 32, 0, 0),
  .inl (0, 32, 0, 0),
  .inr (3, [0, 0, 0, 153, 154, 155, 156, 0, 0, 0, 0, 0, 0, 0, 0]),
  .inl (0, 6, 0, 0),
  .inl (0, 6, 0, 0),
  .inl (0, 32, 0, 0),
  .inl (0, 32, 0, 0),
  .inl (0, 8, 0, 0),
  .inl (3, 8, 157, 1),
  .inr (6, [0, 0, 0, 0, 0]),
  .inr (6, [0, 0, 0, 0, 0]),
  .inr (6, [0, 0, 0, 0, 0]),
  .inr (6, [0, 0, 0, 0, 0]),
  .inr (6, [0, 0, 0, 0, 0]),
  .inr (6, [0, 0, 0, 0, 0]),
  .inr (6, [0, 0, 0, 0, 0]),
  .inr (6, [0, 0, 0, 0, 0]),
  .inl (1, 2, 0, 0),
  .inr (0, [1, 1]),
  .inr (2, [10, 0, 170, 0]),
  .inl (0, 8, 0, 0),
  .inr (1, [10, 169, 0, 0, 0, 0, 0]),
  .inr (7, [10, 169, 168, 0, 0]),
  .inr (4, [10, 169, 174, 0, 0, 0, 0]),
  .inl (0, 8, 0, 0),
  .inr (8, [10, 169, 168, 176]),
  .inr (6, [0, 0, 0, 0, 0]),
  .inr (11, [178, 0, 0, 0, 0, 0, 179, 180, 181, 182, 183, 184, 185, 186, 187, 188, 189, 190, 0, 0, 0, 191, 192, 193, 194, 195, 0, 0, 0, 0, 0, 196, 0, 0, 0, 0, 197, 198, 199, 200, 0, 0]),
  .inl (0, 60, 0, 0),
  .inl (0, 8, 0, 0),
  .inl (0, 8, 0, 0),
  .inl (0, 8, 0, 0),
  .inl (0, 48, 0, 0),
  .inl (0, 48, 0, 0),
  .inl (0, 8, 0, 0),
  .inl (0, 8, 0, 0),
  .inl (0, 8, 0, 0),
  .inl (0, 8, 0, 0),
  .inl (0, 8, 0, 0),
  .inl (0, 8, 0, 0),
  .inl (0, 8, 0, 0),
  .inl (0, 9, 0, 0),
  .inl (0, 9, 0, 0),
  .inl (0, 9, 0, 0),
  .inl (0, 9, 0, 0),
  .inl (0, 9, 0, 0),
  .inl (0, 8, 0, 0),
  .inl (1, 102, 0, 0),
  .inl (0, 8, 0, 0),
  .inl (0, 800, 0, 0),
  .inl (1, 2, 0, 0)]
def sh (c : Nat) : ShT := shl.getD c (.inr (99, []))
abbrev Mem : Type := (Nat → Nat → Int32) × (Nat → Nat → Int64)
def m_i (M : Mem) (c k : Nat) (v : Int32) : Mem := (fun i j => if i = c ∧ j = k then v else M.1 i j, M.2)
def m_l (M : Mem) (c k : Nat) (v : Int64) : Mem := (M.1, fun i j => if i = c ∧ j = k then v else M.2 i j)
def m_c (M : Mem) (a sp d dp n : Nat) : Mem := (fun i j => if i = d ∧ dp ≤ j ∧ j < dp + n then M.1 a (sp + (j - dp)) else M.1 i j, M.2)
def fv (G : GT) (M : Mem) (c j z : Nat) : Value := match z with
  | 0 => .int (M.1 c j)
  | 1 => .long (M.2 c j)
  | r + 2 => .ref (g_b G + r)
def fl (G : GT) (M : Mem) (c : Nat) (sp : List Nat) : List Value := sp.mapIdx (fun j z => fv G M c j z)
def cellOf (G : GT) (M : Mem) (c : Nat) : va_E := match sh c with
  | .inl (t, n, s, d) => .inl (g_c G t, n, if t < 2 then .inl (M.1 c) else .inr (.inr (.inr (.inr (fun i => some (g_b G + (s + d * i)))))))
  | .inr (ci, sp) => .inr (ci, fl G M c sp)
def PL (b N : Nat) (f : Nat → va_E) : va_W := (List.range N).map (fun k => (b + k, f k))
theorem PL_at {b N : Nat} {f : Nat → va_E} {k : Nat} (h : k < N) : (PL b N f)[k]? = some (b + k, f k) := by
  unfold PL
  rw [List.getElem?_map, List.getElem?_range h]
  rfl
theorem PL_lt {b N : Nat} {f : Nat → va_E} {k : Nat} {q : Nat × va_E} (h : (PL b N f)[k]? = some q) : k < N ∧ q = (b + k, f k) := by
  have hl := (List.getElem?_eq_some_iff.mp h).1
  unfold PL at hl
  rw [List.length_map, List.length_range] at hl
  exact ⟨hl, (Option.some.inj ((PL_at hl).symm.trans h)).symm⟩
theorem PL_D (b N : Nat) (f : Nat → va_E) : va_D (fun q => b ≤ q) (PL b N f) := by
  refine ⟨fun i j p q hi hj h => ?_, fun k q hk => ?_⟩
  · rw [(PL_lt hi).2, (PL_lt hj).2] at h
    exact Nat.add_left_cancel h
  · rw [(PL_lt hk).2]
    exact Nat.le_add_right b k
theorem PL_set {b N : Nat} {f g : Nat → va_E} {k : Nat} {e : va_E} (hk : g k = e) (ho : ∀ j, j ≠ k → g j = f j) : (PL b N f).set k (b + k, e) = PL b N g := by
  apply List.ext_getElem?
  intro j
  rw [List.getElem?_set]
  by_cases hj : k = j
  · subst hj
    rw [if_pos rfl]
    by_cases hl : k < N
    · rw [PL_at hl, if_pos (by unfold PL; rw [List.length_map, List.length_range]; exact hl), hk]
    · rw [if_neg (by unfold PL; rw [List.length_map, List.length_range]; exact hl)]
      unfold PL
      rw [List.getElem?_map, List.getElem?_eq_none (by rw [List.length_range]; omega)]
      rfl
  · rw [if_neg hj]
    by_cases hl : j < N
    · rw [PL_at hl, PL_at hl, ho j (fun e => hj e.symm)]
    · unfold PL
      rw [List.getElem?_map, List.getElem?_map]
      rw [List.getElem?_eq_none (by rw [List.length_range]; omega)]
      rfl
def Rep (G : GT) (M : Mem) (H : Heap) : Prop := va_P (g_D G) vwCl (PL (g_b G) 199 (cellOf G M)) H
abbrev IsO (c ci : Nat) (sp : List Nat) : Prop := c < 199 ∧ sh c = .inr (ci, sp)
abbrev IsA (c t n s d : Nat) : Prop := c < 199 ∧ sh c = .inl (t, n, s, d)
theorem cellOf_O {G : GT} {M : Mem} {c ci : Nat} {sp : List Nat} (h : IsO c ci sp) : cellOf G M c = .inr (ci, fl G M c sp) := by
  unfold cellOf; rw [h.2]
theorem cellOf_A {G : GT} {M : Mem} {c t n s d : Nat} (h : IsA c t n s d) (ht : t < 2) : cellOf G M c = .inl (g_c G t, n, .inl (M.1 c)) := by
  unfold cellOf; rw [h.2]; simp only [if_pos ht]
theorem cellOf_Q {G : GT} {M : Mem} {c t n s d : Nat} (h : IsA c t n s d) (ht : ¬ t < 2) : cellOf G M c = .inl (g_c G t, n, .inr (.inr (.inr (.inr (fun i => some (g_b G + (s + d * i))))))) := by
  unfold cellOf; rw [h.2]; simp only [if_neg ht]
theorem fl_at {G : GT} {M : Mem} {c k z : Nat} {sp : List Nat} (h : sp[k]? = some z) : (fl G M c sp)[k]? = some (fv G M c k z) := by
  unfold fl
  rw [List.getElem?_mapIdx, h]
  rfl
theorem fl_len {G : GT} {M : Mem} {c : Nat} {sp : List Nat} : (fl G M c sp).length = sp.length := by
  unfold fl; exact List.length_mapIdx
theorem fl_set {G : GT} {M M' : Mem} {c k : Nat} {sp : List Nat} {v : Value} (hv : ∀ z, sp[k]? = some z → fv G M' c k z = v) (ho : ∀ j z, j ≠ k → fv G M' c j z = fv G M c j z) : (fl G M c sp).set k v = fl G M' c sp := by
  apply List.ext_getElem?
  intro j
  rw [List.getElem?_set]
  by_cases hj : k = j
  · subst hj
    rw [if_pos rfl]
    unfold fl
    rw [List.length_mapIdx, List.getElem?_mapIdx]
    by_cases hl : k < sp.length
    · rw [if_pos hl]
      obtain ⟨z, hz⟩ : ∃ z, sp[k]? = some z := ⟨_, List.getElem?_eq_getElem hl⟩
      rw [hz]
      exact congrArg some (hv z hz).symm
    · rw [if_neg hl, List.getElem?_eq_none (by omega)]
      rfl
  · rw [if_neg hj]
    unfold fl
    rw [List.getElem?_mapIdx, List.getElem?_mapIdx]
    cases sp[j]? with
    | none => rfl
    | some z => exact congrArg some (ho j z (fun e => hj e.symm)).symm
theorem cellOf_congr {G : GT} {M M' : Mem} {c : Nat} (h1 : M'.1 c = M.1 c) (h2 : M'.2 c = M.2 c) : cellOf G M' c = cellOf G M c := by
  unfold cellOf
  cases hs : sh c with
  | inl q =>
    obtain ⟨t, n, s, d⟩ := q
    simp only [h1]
  | inr q =>
    obtain ⟨ci, sp⟩ := q
    simp only
    congr 2
    unfold fl
    congr 1
    funext j z
    unfold fv
    rw [h1, h2]
/-- the words of a field: how a class's code reads slot k of the objects of kind ci -/
def FL (own : String) (idx ci k : Nat) : Prop := ∃ (C : String) (T : u_T) (N : Nat), vwCl[ci]? = some (C, T, N) ∧ k < N ∧ (∀ w ∈ u_ws C T N, w ∈ aw_ws) ∧ (Cond.fieldLink own idx (T k).1 (T k).2.1 (T k).2.2.1 ∈ aw_ws ∨ ∃ h : String, Cond.fieldLinkNest own idx (T k).1 (T k).2.1 (T k).2.2.1 h ∈ lw_tbl)
def FT (ci k : Nat) (ty : FieldType) (fin : Bool) : Prop := ∃ (C : String) (T : u_T) (N : Nat) (ty0 : Nat → FieldType), vwCl[ci]? = some (C, T, N) ∧ (∀ k, k < N → parseFieldDescriptor (T k).2.2.1 = some (ty0 k)) ∧ (∀ a, a < N → ∀ b, b < N → a ≠ b → (T a).2.1 ≠ (T b).2.1) ∧ (T k).2.2.2 = fin ∧ parseFieldDescriptor (T k).2.2.1 = some ty ∧ (T k).1 = C
section MEM
variable {G : GT} {own nm : String} {b : ByteArray} {n : Nat} {rt : Option FieldType} {rm : Room} {K : Int32 → Mem → Prop} {kc ks pc : Nat} {L : List (Nat × Value)} {S : List Value} {M : Mem}
theorem get_v {c ci k idx : Nat} {sp : List Nat} {z : Nat} {v : Value} (hf : FL own idx ci k) (hsh : IsO c ci sp) (hsp : sp[k]? = some z) (hv : fv G M c k z = aw_v G v) (hd : decode b pc = .ok (.getfield idx, 3)) (kk : BT G (Rep G) own nm b n rt rm K kc ks (pc + 3) L (v :: S) M) : BT G (Rep G) own nm b n rt rm K kc ks pc L (.ref c :: S) M := by
  intro p e s m args below meth cc H locs F hR hS ls hl
  obtain ⟨C, T, N, hc, hk, hin, hl0⟩ := hf
  have hts := F.2.2.2.2.2.1
  have he : (PL (g_b G) 199 (cellOf G M))[c]? = some (g_b G + c, .inr (ci, fl G M c sp)) := by rw [PL_at hsh.1, cellOf_O hsh]
  have hkk := kk p e s m args below meth cc H locs F hR hS ls hl
  have hv2 : (fl G M c sp)[k]? = some (aw_v G v) := by rw [fl_at hsp, hv]
  rcases hl0 with h | ⟨host, h⟩
  · exact va_get F.1 F.2.1 hts hin F.2.2.2.2.1 F.2.2.2.2.2.2.1.1 hR c he hc k hk (hts _ h) (fun _ h => h) hv2 hd hkk
  · exact va_getN F.1 F.2.1 hts hin F.2.2.2.2.1 F.2.2.2.2.2.2.1.1 hR c he hc k hk (va_Nw.use rfl (F.2.2.2.2.2.2.1.2 _ h rfl)) (fun _ h => h) hv2 hd hkk
theorem BT.getI {c ci k idx : Nat} {sp : List Nat} (hf : FL own idx ci k) (hsh : IsO c ci sp) (hsp : sp[k]? = some 0) (hd : decode b pc = .ok (.getfield idx, 3)) (kk : BT G (Rep G) own nm b n rt rm K kc ks (pc + 3) L (.int (M.1 c k) :: S) M) : BT G (Rep G) own nm b n rt rm K kc ks pc L (.ref c :: S) M :=
  get_v hf hsh hsp rfl hd kk
theorem BT.getL {c ci k idx : Nat} {sp : List Nat} (hf : FL own idx ci k) (hsh : IsO c ci sp) (hsp : sp[k]? = some 1) (hd : decode b pc = .ok (.getfield idx, 3)) (kk : BT G (Rep G) own nm b n rt rm K kc ks (pc + 3) L (.long (M.2 c k) :: S) M) : BT G (Rep G) own nm b n rt rm K kc ks pc L (.ref c :: S) M :=
  get_v hf hsh hsp rfl hd kk
theorem BT.getR {c ci k idx r : Nat} {sp : List Nat} (hf : FL own idx ci k) (hsh : IsO c ci sp) (hsp : sp[k]? = some (r + 2)) (hd : decode b pc = .ok (.getfield idx, 3)) (kk : BT G (Rep G) own nm b n rt rm K kc ks (pc + 3) L (.ref r :: S) M) : BT G (Rep G) own nm b n rt rm K kc ks pc L (.ref c :: S) M :=
  get_v hf hsh hsp rfl hd kk
theorem put_v {c ci k idx : Nat} {sp : List Nat} {v : Value} {ty : FieldType} {M' : Mem} (hf : FL own idx ci k) (hft : FT ci k ty false) (hsh : IsO c ci sp) (hk : k < sp.length) (hn : narrow ty (aw_v G v) = aw_v G v) (hfit : fits ty (aw_v G v) = true) (h1 : cellOf G M' c = .inr (ci, (fl G M c sp).set k (aw_v G v))) (h2 : ∀ j, j ≠ c → cellOf G M' j = cellOf G M j) (hd : decode b pc = .ok (.putfield idx, 3)) (kk : BT G (Rep G) own nm b n rt rm K kc ks (pc + 3) L S M') : BT G (Rep G) own nm b n rt rm K kc ks pc L (v :: .ref c :: S) M := by
  intro p e s m args below meth cc H locs F hR hS ls hl
  obtain ⟨C, T, N, hc, hkN, hin, hl0⟩ := hf
  obtain ⟨C', T', N', ty0, hc', g1, g2, g3, g4, -⟩ := hft
  cases hc.symm.trans hc'
  have hts := F.2.2.2.2.2.1
  have he : (PL (g_b G) 199 (cellOf G M))[c]? = some (g_b G + c, .inr (ci, fl G M c sp)) := by rw [PL_at hsh.1, cellOf_O hsh]
  have hset := PL_set (b := g_b G) (N := 199) h1 h2
  rcases hl0 with h | ⟨host, h⟩
  · refine va_put (v := aw_v G v) (D := g_D G) (ty := ty) F.1 F.2.1 hts hin ty0 g1 g2 F.2.2.2.2.1 F.2.2.2.2.2.2.1.1 hR (PL_D _ _ _) hS c he hc k hkN (hts _ h) (fun _ h => h) g3 g4 hn hfit (by rw [fl_len]; exact hk) hd (fun H1 locs1 hP hD hS1 => ?_)
    rw [hset] at hP
    exact kk p e s m args below meth cc H1 locs1 F hP hS1 ls hl
  · refine va_putN (v := aw_v G v) (D := g_D G) (ty := ty) F.1 F.2.1 hts hin ty0 g1 g2 F.2.2.2.2.1 F.2.2.2.2.2.2.1.1 hR (PL_D _ _ _) hS c he hc k hkN (va_Nw.use rfl (F.2.2.2.2.2.2.1.2 _ h rfl)) (fun _ h => h) g3 g4 hn hfit (by rw [fl_len]; exact hk) hd (fun H1 locs1 hP hD hS1 => ?_)
    rw [hset] at hP
    exact kk p e s m args below meth cc H1 locs1 F hP hS1 ls hl
theorem m_i_set {c ci k : Nat} {sp : List Nat} {v : Int32} (hsh : IsO c ci sp) (hsp : sp[k]? = some 0) : cellOf G (m_i M c k v) c = .inr (ci, (fl G M c sp).set k (.int v)) := by
  rw [cellOf_O hsh]
  congr 2
  refine (fl_set (fun z hz => ?_) (fun j z hj => ?_)).symm
  · rw [hsp] at hz
    cases hz
    show Value.int _ = _
    simp [m_i]
  · unfold fv m_i
    simp [hj]
theorem m_i_off {c k : Nat} {v : Int32} : ∀ j, j ≠ c → cellOf G (m_i M c k v) j = cellOf G M j := by
  intro j hj
  refine cellOf_congr ?_ rfl
  funext i
  simp [m_i, hj]
theorem BT.putI {c ci k idx : Nat} {sp : List Nat} {v : Int32} (hf : FL own idx ci k) (hft : FT ci k .int false) (hsh : IsO c ci sp) (hsp : sp[k]? = some 0) (hd : decode b pc = .ok (.putfield idx, 3)) (kk : BT G (Rep G) own nm b n rt rm K kc ks (pc + 3) L S (m_i M c k v)) : BT G (Rep G) own nm b n rt rm K kc ks pc L (.int v :: .ref c :: S) M :=
  put_v hf hft hsh (List.getElem?_eq_some_iff.mp hsp).1 rfl rfl (m_i_set hsh hsp) m_i_off hd kk
theorem BT.putZ {c ci k idx : Nat} {sp : List Nat} {v : Int32} (hf : FL own idx ci k) (hft : FT ci k .boolean false) (hsh : IsO c ci sp) (hsp : sp[k]? = some 0) (hv : v = 0 ∨ v = 1) (hd : decode b pc = .ok (.putfield idx, 3)) (kk : BT G (Rep G) own nm b n rt rm K kc ks (pc + 3) L S (m_i M c k v)) : BT G (Rep G) own nm b n rt rm K kc ks pc L (.int v :: .ref c :: S) M :=
  put_v hf hft hsh (List.getElem?_eq_some_iff.mp hsp).1 (by rcases hv with rfl | rfl <;> rfl) (by rcases hv with rfl | rfl <;> rfl) (m_i_set hsh hsp) m_i_off hd kk
theorem BT.putL {c ci k idx : Nat} {sp : List Nat} {v : Int64} (hf : FL own idx ci k) (hft : FT ci k .long false) (hsh : IsO c ci sp) (hsp : sp[k]? = some 1) (hd : decode b pc = .ok (.putfield idx, 3)) (kk : BT G (Rep G) own nm b n rt rm K kc ks (pc + 3) L S (m_l M c k v)) : BT G (Rep G) own nm b n rt rm K kc ks pc L (.long v :: .ref c :: S) M := by
  refine put_v hf hft hsh (List.getElem?_eq_some_iff.mp hsp).1 rfl rfl ?_ ?_ hd kk
  · rw [cellOf_O hsh]
    congr 2
    refine (fl_set (fun z hz => ?_) (fun j z hj => ?_)).symm
    · rw [hsp] at hz
      cases hz
      show Value.long _ = _
      simp [m_l, aw_v]
    · unfold fv m_l
      simp [hj]
  · intro j hj
    refine cellOf_congr rfl ?_
    funext i
    simp [m_l, hj]
theorem BT.iald {c nn s0 d0 : Nat} {i : Int32} (hsh : IsA c 0 nn s0 d0) (hi : vp_in i nn) (hd : decode b pc = .ok (.iaload, 1)) (kk : BT G (Rep G) own nm b n rt rm K kc ks (pc + 1) L (.int (M.1 c i.toNatClampNeg) :: S) M) : BT G (Rep G) own nm b n rt rm K kc ks pc L (.int i :: .ref c :: S) M := by
  intro p e s m args below meth cc H locs F hR hS ls hl
  have he : (PL (g_b G) 199 (cellOf G M))[c]? = some (g_b G + c, .inl (g_c G 0, nn, .inl (M.1 c))) := by rw [PL_at hsh.1, cellOf_A hsh (by decide)]
  exact va_iald F.1 F.2.1 F.2.2.2.2.2.2.1.1 hR c 0 he rfl hi hd (kk p e s m args below meth cc H locs F hR hS ls hl)
theorem BT.zald {c nn s0 d0 : Nat} {i : Int32} (hsh : IsA c 1 nn s0 d0) (hi : vp_in i nn) (hd : decode b pc = .ok (.baload, 1)) (kk : BT G (Rep G) own nm b n rt rm K kc ks (pc + 1) L (.int (M.1 c i.toNatClampNeg) :: S) M) : BT G (Rep G) own nm b n rt rm K kc ks pc L (.int i :: .ref c :: S) M := by
  intro p e s m args below meth cc H locs F hR hS ls hl
  have he : (PL (g_b G) 199 (cellOf G M))[c]? = some (g_b G + c, .inl (g_c G 1, nn, .inl (M.1 c))) := by rw [PL_at hsh.1, cellOf_A hsh (by decide)]
  exact va_zald F.1 F.2.1 F.2.2.2.2.2.2.1.1 hR c 1 he rfl hi hd (kk p e s m args below meth cc H locs F hR hS ls hl)
theorem BT.alen {c t nn s0 d0 : Nat} {v : Int32} (hsh : IsA c t nn s0 d0) (ht : t < 2) (hv : Int32.ofNat nn = v) (hd : decode b pc = .ok (.arraylength, 1)) (kk : BT G (Rep G) own nm b n rt rm K kc ks (pc + 1) L (.int v :: S) M) : BT G (Rep G) own nm b n rt rm K kc ks pc L (.ref c :: S) M := by
  intro p e s m args below meth cc H locs F hR hS ls hl
  have he : (PL (g_b G) 199 (cellOf G M))[c]? = some (g_b G + c, .inl (g_c G t, nn, .inl (M.1 c))) := by rw [PL_at hsh.1, cellOf_A hsh ht]
  have hkk := kk p e s m args below meth cc H locs F hR hS ls hl
  match t, ht with
  | 0, _ => exact va_alen F.1 F.2.1 F.2.2.2.2.2.2.1.1 hR c 0 he (ty := .int) rfl hv hd hkk
  | 1, _ => exact va_alen F.1 F.2.1 F.2.2.2.2.2.2.1.1 hR c 1 he (ty := .boolean) rfl hv hd hkk
theorem m_i_arr {c t nn s0 d0 k : Nat} {v : Int32} (hsh : IsA c t nn s0 d0) (ht : t < 2) : cellOf G (m_i M c k v) c = .inl (g_c G t, nn, .inl (upd (M.1 c) k v)) := by
  rw [cellOf_A hsh ht]
  congr 4
  funext j
  simp [m_i, upd]
theorem BT.iast {c nn s0 d0 : Nat} {i x : Int32} (hsh : IsA c 0 nn s0 d0) (hi : vp_in i nn) (hd : decode b pc = .ok (.iastore, 1)) (kk : BT G (Rep G) own nm b n rt rm K kc ks (pc + 1) L S (m_i M c i.toNatClampNeg x)) : BT G (Rep G) own nm b n rt rm K kc ks pc L (.int x :: .int i :: .ref c :: S) M := by
  intro p e s m args below meth cc H locs F hR hS ls hl
  have he : (PL (g_b G) 199 (cellOf G M))[c]? = some (g_b G + c, .inl (g_c G 0, nn, .inl (M.1 c))) := by rw [PL_at hsh.1, cellOf_A hsh (by decide)]
  refine va_iast F.1 F.2.1 F.2.2.2.2.2.2.1.1 hR (PL_D _ _ _) hS c 0 he rfl hi hd (fun H1 locs1 hP hD hS1 => ?_)
  rw [PL_set (m_i_arr hsh (by decide)) m_i_off] at hP
  exact kk p e s m args below meth cc H1 locs1 F hP hS1 ls hl
theorem BT.zast {c nn s0 d0 : Nat} {i x : Int32} (hsh : IsA c 1 nn s0 d0) (hi : vp_in i nn) (hv : x = 0 ∨ x = 1) (hd : decode b pc = .ok (.bastore, 1)) (kk : BT G (Rep G) own nm b n rt rm K kc ks (pc + 1) L S (m_i M c i.toNatClampNeg x)) : BT G (Rep G) own nm b n rt rm K kc ks pc L (.int x :: .int i :: .ref c :: S) M := by
  intro p e s m args below meth cc H locs F hR hS ls hl
  have he : (PL (g_b G) 199 (cellOf G M))[c]? = some (g_b G + c, .inl (g_c G 1, nn, .inl (M.1 c))) := by rw [PL_at hsh.1, cellOf_A hsh (by decide)]
  have hx : vp_nar .boolean x = x := by rcases hv with rfl | rfl <;> decide
  refine va_zast F.1 F.2.1 F.2.2.2.2.2.2.1.1 hR (PL_D _ _ _) hS c 1 he rfl hi hd (fun H1 locs1 hP hD hS1 => ?_)
  rw [hx, PL_set (m_i_arr hsh (by decide)) m_i_off] at hP
  exact kk p e s m args below meth cc H1 locs1 F hP hS1 ls hl
theorem BT.aald {c t nn s0 d0 : Nat} {i : Int32} (hsh : IsA c t nn s0 d0) (ht : 2 ≤ t ∧ t < 5) (hi : vp_in i nn) (hd : decode b pc = .ok (.aaload, 1)) (kk : BT G (Rep G) own nm b n rt rm K kc ks (pc + 1) L (.ref (s0 + d0 * i.toNatClampNeg) :: S) M) : BT G (Rep G) own nm b n rt rm K kc ks pc L (.int i :: .ref c :: S) M := by
  intro p e s m args below meth cc H locs F hR hS ls hl
  have he : (PL (g_b G) 199 (cellOf G M))[c]? = some (g_b G + c, .inl (g_c G t, nn, .inr (.inr (.inr (.inr (fun i => some (g_b G + (s0 + d0 * i)))))))) := by rw [PL_at hsh.1, cellOf_Q hsh (by omega)]
  have hkk := kk p e s m args below meth cc H locs F hR hS ls hl
  match t, ht with
  | 2, _ => exact va_aldq F.1 F.2.1 F.2.2.2.2.2.2.1.1 hR c 2 he (C := "BetweenLaws$Law") rfl hi hd hkk
  | 3, _ => exact va_aldq F.1 F.2.1 F.2.2.2.2.2.2.1.1 hR c 3 he (C := "BetweenLaws$Piece") rfl hi hd hkk
  | 4, _ => exact va_aldq F.1 F.2.1 F.2.2.2.2.2.2.1.1 hR c 4 he (C := "BetweenLaws$World") rfl hi hd hkk
theorem recvRep {c ci : Nat} {sp : List Nat} {C : String} {T : u_T} {N : Nat} (hsh : IsO c ci sp) (hc : vwCl[ci]? = some (C, T, N)) : aw_Recv G (Rep G) M c C := by
  intro s H hR hK
  have he : (PL (g_b G) 199 (cellOf G M))[c]? = some (g_b G + c, .inr (ci, fl G M c sp)) := by rw [PL_at hsh.1, cellOf_O hsh]
  exact va_recv hK.1 hR hc he
theorem BT.acopy {idx a sn s0 d0 c nn s1 d1 : Nat} {sp dp k : Int32} (hlk : Cond.methodLink own idx arraycopyName ∈ aw_ws) (hnat : Cond.native arraycopyName ∈ aw_ws) (hst : Cond.static arraycopyName ∈ aw_ws) (hin : Cond.initialized "java/lang/System" ∈ aw_ws) (hsa : IsA a 0 sn s0 d0) (hsc : IsA c 0 nn s1 d1) (h1 : ¬ sp < 0) (h2 : ¬ dp < 0) (h3 : ¬ k < 0) (h4 : sp.toNatClampNeg + k.toNatClampNeg ≤ sn) (h5 : dp.toNatClampNeg + k.toNatClampNeg ≤ nn) (h8 : (S.map fun v => v.category).sum ≤ 8) (hfr : 1 ≤ rm.frames) (hlo : 8 + (nativeFrameWords "java/lang/System" "arraycopy" 5 + 11) ≤ rm.locals) (hd : decode b pc = .ok (.invokestatic idx, 3))
    (kk : BT G (Rep G) own nm b n rt rm K kc ks (pc + 3) L S (m_c M a sp.toNatClampNeg c dp.toNatClampNeg k.toNatClampNeg)) : BT G (Rep G) own nm b n rt rm K kc ks pc L (.int k :: .int dp :: .ref c :: .int sp :: .ref a :: S) M := by
  intro p e s m args below meth cc H locs F hR hS ls hl
  have hts := F.2.2.2.2.2.1
  have hea : (PL (g_b G) 199 (cellOf G M))[a]? = some (g_b G + a, .inl (g_c G 0, sn, .inl (M.1 a))) := by rw [PL_at hsa.1, cellOf_A hsa (by decide)]
  have hec : (PL (g_b G) 199 (cellOf G M))[c]? = some (g_b G + c, .inl (g_c G 0, nn, .inl (M.1 c))) := by rw [PL_at hsc.1, cellOf_A hsc (by decide)]
  have hc1 : cellOf G (m_c M a sp.toNatClampNeg c dp.toNatClampNeg k.toNatClampNeg) c = .inl (g_c G 0, nn, .inl (va_cpy (M.1 a) (M.1 c) sp.toNatClampNeg dp.toNatClampNeg k.toNatClampNeg)) := by
    rw [cellOf_A hsc (by decide)]
    congr 4
    funext j
    simp [m_c, va_cpy]
  have hc2 : ∀ j, j ≠ c → cellOf G (m_c M a sp.toNatClampNeg c dp.toNatClampNeg k.toNatClampNeg) j = cellOf G M j := by
    intro j hj
    refine cellOf_congr ?_ rfl
    funext i
    simp [m_c, hj]
  have hlo2 : ((S.map (aw_v G)).map fun v => v.category).sum ≤ 8 := by
    have h := aw_sum G S h8 (m := m) (pc := pc) (ls := ls) (st := [])
    have e2 : 2 * (F0 m pc ls []).monitorRoom = 0 := rfl
    omega
  refine va_copyi (ty := .int) F.1 F.2.1 (F.2.2.2.1.trans hl.1.symm) F.2.2.2.2.1 (hts _ hlk) (hts _ hnat) (hts _ hst) (hts _ hin) F.2.2.2.2.2.2.1.1 hR (PL_D _ _ _) hS a c 0 0 hea hec rfl rfl rfl h1 h2 h3 h4 h5 (fun i _ => rfl) hfr (Nat.le_trans (Nat.add_le_add_right hlo2 _) hlo) hd (fun H1 locs1 hP hD hS1 => ?_)
  rw [PL_set hc1 hc2] at hP
  exact kk p e s m args below meth cc H1 locs1 F hP hS1 ls hl
theorem BT.gst1 {idx : Nat} (hlk : Cond.fieldLink own idx "BetweenLaws" "WAY_LETTERS" "[I" ∈ aw_ws) (hd : decode b pc = .ok (.getstatic idx, 3)) (kk : BT G (Rep G) own nm b n rt rm K kc ks (pc + 3) L (.float 1 :: S) M) : BT G (Rep G) own nm b n rt rm K kc ks pc L S M := by
  intro p e s m args below meth cc H locs F hR hS ls hl
  exact va_gets F.1 F.2.1 F.2.2.2.2.2.2.2.1.1.1 hS F.2.2.2.2.1 (F.2.2.2.2.2.1 _ hlk) (fun _ h => h) hd (kk p e s m args below meth cc H locs F hR hS ls hl)
theorem BT.gst2 {idx : Nat} {host : String} (hlk : Cond.fieldLinkNest own idx "BetweenLaws" "TIME_LETTERS" "[I" host ∈ lw_tbl) (hd : decode b pc = .ok (.getstatic idx, 3)) (kk : BT G (Rep G) own nm b n rt rm K kc ks (pc + 3) L (.float 2 :: S) M) : BT G (Rep G) own nm b n rt rm K kc ks pc L S M := by
  intro p e s m args below meth cc H locs F hR hS ls hl
  exact va_getsN F.1 F.2.1 F.2.2.2.2.2.2.2.1.2.1 hS F.2.2.2.2.1 (va_Nw.use rfl (F.2.2.2.2.2.2.1.2 _ hlk rfl)) (fun _ h => h) hd (kk p e s m args below meth cc H locs F hR hS ls hl)
theorem BT.sald1 {i : Int32} (hi : vp_in i 4) (hd : decode b pc = .ok (.iaload, 1)) (kk : BT G (Rep G) own nm b n rt rm K kc ks (pc + 1) L (.int (aw_f1 i.toNatClampNeg) :: S) M) : BT G (Rep G) own nm b n rt rm K kc ks pc L (.int i :: .float 1 :: S) M := by
  intro p e s m args below meth cc H locs F hR hS ls hl
  exact va_ti F.1 F.2.1 F.2.2.2.2.2.2.2.1.1.2 hS hi rfl hd (kk p e s m args below meth cc H locs F hR hS ls hl)
theorem BT.sald2 {i : Int32} (hi : vp_in i 3) (hd : decode b pc = .ok (.iaload, 1)) (kk : BT G (Rep G) own nm b n rt rm K kc ks (pc + 1) L (.int (aw_f2 i.toNatClampNeg) :: S) M) : BT G (Rep G) own nm b n rt rm K kc ks pc L (.int i :: .float 2 :: S) M := by
  intro p e s m args below meth cc H locs F hR hS ls hl
  exact va_ti F.1 F.2.1 F.2.2.2.2.2.2.2.1.2.2 hS hi rfl hd (kk p e s m args below meth cc H locs F hR hS ls hl)
theorem BT.slen1 (hd : decode b pc = .ok (.arraylength, 1)) (kk : BT G (Rep G) own nm b n rt rm K kc ks (pc + 1) L (.int 4 :: S) M) : BT G (Rep G) own nm b n rt rm K kc ks pc L (.float 1 :: S) M := by
  intro p e s m args below meth cc H locs F hR hS ls hl
  exact va_tlen F.1 F.2.1 F.2.2.2.2.2.2.2.1.1.2 hS rfl hd (kk p e s m args below meth cc H locs F hR hS ls hl)
theorem BT.slen2 (hd : decode b pc = .ok (.arraylength, 1)) (kk : BT G (Rep G) own nm b n rt rm K kc ks (pc + 1) L (.int 3 :: S) M) : BT G (Rep G) own nm b n rt rm K kc ks pc L (.float 2 :: S) M := by
  intro p e s m args below meth cc H locs F hR hS ls hl
  exact va_tlen F.1 F.2.1 F.2.2.2.2.2.2.2.1.2.2 hS rfl hd (kk p e s m args below meth cc H locs F hR hS ls hl)
end MEM
end
