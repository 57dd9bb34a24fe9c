section
-- ===== PART A: goes FIRST, ahead of the names: the tables' words, and 'selects' of the private methods out of them =====
/-- a private method of a class that the tables say can be made, by its rows of tables_1 -/
def lw_okq (q : MethodName × Nat) : Prop := (q.1.cls ≠ "java/lang/invoke/MethodHandle" ∧ q.1.cls ≠ "java/lang/invoke/VarHandle") ∧ Cond.instantiable q.1.cls q.2 ∈ tables_1 ∧ Cond.privateMethod q.1 ∈ tables_1 ∧ Cond.instanceMethod q.1 ∈ tables_1
theorem lw_p0 : lw_okq (⟨"TwoWidths", "refuse", "(I)I"⟩, 10) := ⟨⟨by decide +kernel, by decide +kernel⟩, List.mem_of_getElem? (i := 18) (by decide +kernel), List.mem_of_getElem? (i := 282) (by decide +kernel), List.mem_of_getElem? (i := 283) (by decide +kernel)⟩
theorem lw_p1 : lw_okq (⟨"TwoWidths", "noRow", "(I)I"⟩, 10) := ⟨⟨by decide +kernel, by decide +kernel⟩, List.mem_of_getElem? (i := 18) (by decide +kernel), List.mem_of_getElem? (i := 297) (by decide +kernel), List.mem_of_getElem? (i := 298) (by decide +kernel)⟩
theorem lw_p2 : lw_okq (⟨"TwoWidths$Tape", "next", "()V"⟩, 6) := ⟨⟨by decide +kernel, by decide +kernel⟩, List.mem_of_getElem? (i := 88) (by decide +kernel), List.mem_of_getElem? (i := 463) (by decide +kernel), List.mem_of_getElem? (i := 464) (by decide +kernel)⟩
theorem lw_p3 : lw_okq (⟨"TwoWidths$Tape", "tokenAt", "(I)I"⟩, 6) := ⟨⟨by decide +kernel, by decide +kernel⟩, List.mem_of_getElem? (i := 88) (by decide +kernel), List.mem_of_getElem? (i := 467) (by decide +kernel), List.mem_of_getElem? (i := 468) (by decide +kernel)⟩
theorem lw_p4 : lw_okq (⟨"TwoWidths$Tape", "valueHere", "()I"⟩, 6) := ⟨⟨by decide +kernel, by decide +kernel⟩, List.mem_of_getElem? (i := 88) (by decide +kernel), List.mem_of_getElem? (i := 471) (by decide +kernel), List.mem_of_getElem? (i := 472) (by decide +kernel)⟩
theorem lw_p5 : lw_okq (⟨"TwoWidths$Tape", "readStatement", "(LTwoWidths$Land;)Z"⟩, 6) := ⟨⟨by decide +kernel, by decide +kernel⟩, List.mem_of_getElem? (i := 88) (by decide +kernel), List.mem_of_getElem? (i := 475) (by decide +kernel), List.mem_of_getElem? (i := 476) (by decide +kernel)⟩
theorem lw_p6 : lw_okq (⟨"TwoWidths$Tape", "isWord", "(Ljava/lang/String;)Z"⟩, 6) := ⟨⟨by decide +kernel, by decide +kernel⟩, List.mem_of_getElem? (i := 88) (by decide +kernel), List.mem_of_getElem? (i := 480) (by decide +kernel), List.mem_of_getElem? (i := 481) (by decide +kernel)⟩
theorem lw_p7 : lw_okq (⟨"TwoWidths$Tape", "readLine", "(LTwoWidths$Land;)Z"⟩, 6) := ⟨⟨by decide +kernel, by decide +kernel⟩, List.mem_of_getElem? (i := 88) (by decide +kernel), List.mem_of_getElem? (i := 532) (by decide +kernel), List.mem_of_getElem? (i := 533) (by decide +kernel)⟩
theorem lw_p8 : lw_okq (⟨"TwoWidths$Tape", "number", "(II)I"⟩, 6) := ⟨⟨by decide +kernel, by decide +kernel⟩, List.mem_of_getElem? (i := 88) (by decide +kernel), List.mem_of_getElem? (i := 536) (by decide +kernel), List.mem_of_getElem? (i := 537) (by decide +kernel)⟩
theorem lw_p9 : lw_okq (⟨"TwoWidths$Tape", "numberUnlike", "(II)I"⟩, 6) := ⟨⟨by decide +kernel, by decide +kernel⟩, List.mem_of_getElem? (i := 88) (by decide +kernel), List.mem_of_getElem? (i := 541) (by decide +kernel), List.mem_of_getElem? (i := 542) (by decide +kernel)⟩
theorem lw_p10 : lw_okq (⟨"TwoWidths$Tape", "perhaps", "(Ljava/lang/String;III)I"⟩, 6) := ⟨⟨by decide +kernel, by decide +kernel⟩, List.mem_of_getElem? (i := 88) (by decide +kernel), List.mem_of_getElem? (i := 548) (by decide +kernel), List.mem_of_getElem? (i := 549) (by decide +kernel)⟩
theorem lw_p11 : lw_okq (⟨"TwoWidths$Tape", "readGoods", "(LTwoWidths$Land;)Z"⟩, 6) := ⟨⟨by decide +kernel, by decide +kernel⟩, List.mem_of_getElem? (i := 88) (by decide +kernel), List.mem_of_getElem? (i := 555) (by decide +kernel), List.mem_of_getElem? (i := 556) (by decide +kernel)⟩
theorem lw_p12 : lw_okq (⟨"TwoWidths$Tape", "readWork", "(LTwoWidths$Land;)Z"⟩, 6) := ⟨⟨by decide +kernel, by decide +kernel⟩, List.mem_of_getElem? (i := 88) (by decide +kernel), List.mem_of_getElem? (i := 561) (by decide +kernel), List.mem_of_getElem? (i := 562) (by decide +kernel)⟩
theorem lw_p13 : lw_okq (⟨"TwoWidths$Tape", "readChange", "(LTwoWidths$Land;)Z"⟩, 6) := ⟨⟨by decide +kernel, by decide +kernel⟩, List.mem_of_getElem? (i := 88) (by decide +kernel), List.mem_of_getElem? (i := 570) (by decide +kernel), List.mem_of_getElem? (i := 571) (by decide +kernel)⟩
theorem lw_p14 : lw_okq (⟨"TwoWidths$Tape", "readCoin", "(LTwoWidths$Land;)Z"⟩, 6) := ⟨⟨by decide +kernel, by decide +kernel⟩, List.mem_of_getElem? (i := 88) (by decide +kernel), List.mem_of_getElem? (i := 576) (by decide +kernel), List.mem_of_getElem? (i := 577) (by decide +kernel)⟩
theorem lw_p15 : lw_okq (⟨"TwoWidths$Tape", "readYears", "(LTwoWidths$Land;)Z"⟩, 6) := ⟨⟨by decide +kernel, by decide +kernel⟩, List.mem_of_getElem? (i := 88) (by decide +kernel), List.mem_of_getElem? (i := 582) (by decide +kernel), List.mem_of_getElem? (i := 583) (by decide +kernel)⟩
def lw_privs_1 : List (MethodName × Nat) := [(⟨"TwoWidths", "refuse", "(I)I"⟩, 10), (⟨"TwoWidths", "noRow", "(I)I"⟩, 10), (⟨"TwoWidths$Tape", "next", "()V"⟩, 6), (⟨"TwoWidths$Tape", "tokenAt", "(I)I"⟩, 6), (⟨"TwoWidths$Tape", "valueHere", "()I"⟩, 6), (⟨"TwoWidths$Tape", "readStatement", "(LTwoWidths$Land;)Z"⟩, 6), (⟨"TwoWidths$Tape", "isWord", "(Ljava/lang/String;)Z"⟩, 6), (⟨"TwoWidths$Tape", "readLine", "(LTwoWidths$Land;)Z"⟩, 6), (⟨"TwoWidths$Tape", "number", "(II)I"⟩, 6), (⟨"TwoWidths$Tape", "numberUnlike", "(II)I"⟩, 6), (⟨"TwoWidths$Tape", "perhaps", "(Ljava/lang/String;III)I"⟩, 6), (⟨"TwoWidths$Tape", "readGoods", "(LTwoWidths$Land;)Z"⟩, 6), (⟨"TwoWidths$Tape", "readWork", "(LTwoWidths$Land;)Z"⟩, 6), (⟨"TwoWidths$Tape", "readChange", "(LTwoWidths$Land;)Z"⟩, 6), (⟨"TwoWidths$Tape", "readCoin", "(LTwoWidths$Land;)Z"⟩, 6), (⟨"TwoWidths$Tape", "readYears", "(LTwoWidths$Land;)Z"⟩, 6)]
theorem lw_r1 : ∀ q ∈ lw_privs_1, lw_okq q := List.forall_mem_cons.mpr ⟨lw_p0, List.forall_mem_cons.mpr ⟨lw_p1, List.forall_mem_cons.mpr ⟨lw_p2, List.forall_mem_cons.mpr ⟨lw_p3, List.forall_mem_cons.mpr ⟨lw_p4, List.forall_mem_cons.mpr ⟨lw_p5, List.forall_mem_cons.mpr ⟨lw_p6, List.forall_mem_cons.mpr ⟨lw_p7, List.forall_mem_cons.mpr ⟨lw_p8, List.forall_mem_cons.mpr ⟨lw_p9, List.forall_mem_cons.mpr ⟨lw_p10, List.forall_mem_cons.mpr ⟨lw_p11, List.forall_mem_cons.mpr ⟨lw_p12, List.forall_mem_cons.mpr ⟨lw_p13, List.forall_mem_cons.mpr ⟨lw_p14, List.forall_mem_cons.mpr ⟨lw_p15, fun _ h => absurd h List.not_mem_nil⟩⟩⟩⟩⟩⟩⟩⟩⟩⟩⟩⟩⟩⟩⟩⟩
theorem lw_p16 : lw_okq (⟨"TwoWidths$Ways", "nearByLines", "()Z"⟩, 14) := ⟨⟨by decide +kernel, by decide +kernel⟩, List.mem_of_getElem? (i := 149) (by decide +kernel), List.mem_of_getElem? (i := 632) (by decide +kernel), List.mem_of_getElem? (i := 633) (by decide +kernel)⟩
theorem lw_p17 : lw_okq (⟨"TwoWidths$Ways", "nearByChanges", "()V"⟩, 14) := ⟨⟨by decide +kernel, by decide +kernel⟩, List.mem_of_getElem? (i := 149) (by decide +kernel), List.mem_of_getElem? (i := 636) (by decide +kernel), List.mem_of_getElem? (i := 637) (by decide +kernel)⟩
theorem lw_p18 : lw_okq (⟨"TwoWidths$Ways", "note", "(II)V"⟩, 14) := ⟨⟨by decide +kernel, by decide +kernel⟩, List.mem_of_getElem? (i := 149) (by decide +kernel), List.mem_of_getElem? (i := 656) (by decide +kernel), List.mem_of_getElem? (i := 657) (by decide +kernel)⟩
theorem lw_p19 : lw_okq (⟨"TwoWidths$Ways", "stepOn", "(IJ)I"⟩, 14) := ⟨⟨by decide +kernel, by decide +kernel⟩, List.mem_of_getElem? (i := 149) (by decide +kernel), List.mem_of_getElem? (i := 660) (by decide +kernel), List.mem_of_getElem? (i := 661) (by decide +kernel)⟩
theorem lw_p20 : lw_okq (⟨"TwoWidths$Ways", "leads", "(IIIJ)Z"⟩, 14) := ⟨⟨by decide +kernel, by decide +kernel⟩, List.mem_of_getElem? (i := 149) (by decide +kernel), List.mem_of_getElem? (i := 664) (by decide +kernel), List.mem_of_getElem? (i := 665) (by decide +kernel)⟩
theorem lw_p21 : lw_okq (⟨"TwoWidths$Ways", "arrives", "(IJ)Z"⟩, 14) := ⟨⟨by decide +kernel, by decide +kernel⟩, List.mem_of_getElem? (i := 149) (by decide +kernel), List.mem_of_getElem? (i := 668) (by decide +kernel), List.mem_of_getElem? (i := 669) (by decide +kernel)⟩
theorem lw_p22 : lw_okq (⟨"TwoWidths$Ways", "openIfCheapest", "(III)V"⟩, 14) := ⟨⟨by decide +kernel, by decide +kernel⟩, List.mem_of_getElem? (i := 149) (by decide +kernel), List.mem_of_getElem? (i := 672) (by decide +kernel), List.mem_of_getElem? (i := 673) (by decide +kernel)⟩
theorem lw_p23 : lw_okq (⟨"TwoWidths$Ways", "otherEnd", "(II)I"⟩, 14) := ⟨⟨by decide +kernel, by decide +kernel⟩, List.mem_of_getElem? (i := 149) (by decide +kernel), List.mem_of_getElem? (i := 676) (by decide +kernel), List.mem_of_getElem? (i := 677) (by decide +kernel)⟩
theorem lw_p24 : lw_okq (⟨"TwoWidths$Traffic", "linesBearing", "(LTwoWidths$Land;I)I"⟩, 5) := ⟨⟨by decide +kernel, by decide +kernel⟩, List.mem_of_getElem? (i := 143) (by decide +kernel), List.mem_of_getElem? (i := 762) (by decide +kernel), List.mem_of_getElem? (i := 763) (by decide +kernel)⟩
theorem lw_p25 : lw_okq (⟨"TwoWidths$Traffic", "load", "(I)V"⟩, 5) := ⟨⟨by decide +kernel, by decide +kernel⟩, List.mem_of_getElem? (i := 143) (by decide +kernel), List.mem_of_getElem? (i := 767) (by decide +kernel), List.mem_of_getElem? (i := 768) (by decide +kernel)⟩
theorem lw_p26 : lw_okq (⟨"TwoWidths", "noChoice", "(I)I"⟩, 10) := ⟨⟨by decide +kernel, by decide +kernel⟩, List.mem_of_getElem? (i := 18) (by decide +kernel), List.mem_of_getElem? (i := 797) (by decide +kernel), List.mem_of_getElem? (i := 798) (by decide +kernel)⟩
theorem lw_p27 : lw_okq (⟨"TwoWidths$Choice", "alwaysCostsMore", "(LTwoWidths$Land;I)Z"⟩, 4) := ⟨⟨by decide +kernel, by decide +kernel⟩, List.mem_of_getElem? (i := 137) (by decide +kernel), List.mem_of_getElem? (i := 846) (by decide +kernel), List.mem_of_getElem? (i := 847) (by decide +kernel)⟩
theorem lw_p28 : lw_okq (⟨"TwoWidths$Traffic", "payOwners", "(LTwoWidths$Land;I[I)V"⟩, 5) := ⟨⟨by decide +kernel, by decide +kernel⟩, List.mem_of_getElem? (i := 143) (by decide +kernel), List.mem_of_getElem? (i := 873) (by decide +kernel), List.mem_of_getElem? (i := 874) (by decide +kernel)⟩
theorem lw_p29 : lw_okq (⟨"TwoWidths$Traffic", "changesAt", "(I)I"⟩, 5) := ⟨⟨by decide +kernel, by decide +kernel⟩, List.mem_of_getElem? (i := 143) (by decide +kernel), List.mem_of_getElem? (i := 899) (by decide +kernel), List.mem_of_getElem? (i := 900) (by decide +kernel)⟩
theorem lw_p30 : lw_okq (⟨"TwoWidths$Traffic", "stepsTo", "(I)I"⟩, 5) := ⟨⟨by decide +kernel, by decide +kernel⟩, List.mem_of_getElem? (i := 143) (by decide +kernel), List.mem_of_getElem? (i := 908) (by decide +kernel), List.mem_of_getElem? (i := 909) (by decide +kernel)⟩
theorem lw_p31 : lw_okq (⟨"TwoWidths", "noPlan", "(II)I"⟩, 10) := ⟨⟨by decide +kernel, by decide +kernel⟩, List.mem_of_getElem? (i := 18) (by decide +kernel), List.mem_of_getElem? (i := 928) (by decide +kernel), List.mem_of_getElem? (i := 929) (by decide +kernel)⟩
def lw_privs_2 : List (MethodName × Nat) := [(⟨"TwoWidths$Ways", "nearByLines", "()Z"⟩, 14), (⟨"TwoWidths$Ways", "nearByChanges", "()V"⟩, 14), (⟨"TwoWidths$Ways", "note", "(II)V"⟩, 14), (⟨"TwoWidths$Ways", "stepOn", "(IJ)I"⟩, 14), (⟨"TwoWidths$Ways", "leads", "(IIIJ)Z"⟩, 14), (⟨"TwoWidths$Ways", "arrives", "(IJ)Z"⟩, 14), (⟨"TwoWidths$Ways", "openIfCheapest", "(III)V"⟩, 14), (⟨"TwoWidths$Ways", "otherEnd", "(II)I"⟩, 14), (⟨"TwoWidths$Traffic", "linesBearing", "(LTwoWidths$Land;I)I"⟩, 5), (⟨"TwoWidths$Traffic", "load", "(I)V"⟩, 5), (⟨"TwoWidths", "noChoice", "(I)I"⟩, 10), (⟨"TwoWidths$Choice", "alwaysCostsMore", "(LTwoWidths$Land;I)Z"⟩, 4), (⟨"TwoWidths$Traffic", "payOwners", "(LTwoWidths$Land;I[I)V"⟩, 5), (⟨"TwoWidths$Traffic", "changesAt", "(I)I"⟩, 5), (⟨"TwoWidths$Traffic", "stepsTo", "(I)I"⟩, 5), (⟨"TwoWidths", "noPlan", "(II)I"⟩, 10)]
theorem lw_r2 : ∀ q ∈ lw_privs_2, lw_okq q := List.forall_mem_cons.mpr ⟨lw_p16, List.forall_mem_cons.mpr ⟨lw_p17, List.forall_mem_cons.mpr ⟨lw_p18, List.forall_mem_cons.mpr ⟨lw_p19, List.forall_mem_cons.mpr ⟨lw_p20, List.forall_mem_cons.mpr ⟨lw_p21, List.forall_mem_cons.mpr ⟨lw_p22, List.forall_mem_cons.mpr ⟨lw_p23, List.forall_mem_cons.mpr ⟨lw_p24, List.forall_mem_cons.mpr ⟨lw_p25, List.forall_mem_cons.mpr ⟨lw_p26, List.forall_mem_cons.mpr ⟨lw_p27, List.forall_mem_cons.mpr ⟨lw_p28, List.forall_mem_cons.mpr ⟨lw_p29, List.forall_mem_cons.mpr ⟨lw_p30, List.forall_mem_cons.mpr ⟨lw_p31, fun _ h => absurd h List.not_mem_nil⟩⟩⟩⟩⟩⟩⟩⟩⟩⟩⟩⟩⟩⟩⟩⟩
theorem lw_p32 : lw_okq (⟨"TwoWidths", "passYear", "(I)I"⟩, 10) := ⟨⟨by decide +kernel, by decide +kernel⟩, List.mem_of_getElem? (i := 18) (by decide +kernel), List.mem_of_getElem? (i := 956) (by decide +kernel), List.mem_of_getElem? (i := 957) (by decide +kernel)⟩
theorem lw_p33 : lw_okq (⟨"TwoWidthsModel", "refuse", "(I)I"⟩, 38) := ⟨⟨by decide +kernel, by decide +kernel⟩, List.mem_of_getElem? (i := 993) (by decide +kernel), List.mem_of_getElem? (i := 1127) (by decide +kernel), List.mem_of_getElem? (i := 1128) (by decide +kernel)⟩
theorem lw_p34 : lw_okq (⟨"TwoWidthsModel", "isWork", "(I)Z"⟩, 38) := ⟨⟨by decide +kernel, by decide +kernel⟩, List.mem_of_getElem? (i := 993) (by decide +kernel), List.mem_of_getElem? (i := 1154) (by decide +kernel), List.mem_of_getElem? (i := 1155) (by decide +kernel)⟩
theorem lw_p35 : lw_okq (⟨"TwoWidthsModel", "newLine", "(II)V"⟩, 38) := ⟨⟨by decide +kernel, by decide +kernel⟩, List.mem_of_getElem? (i := 993) (by decide +kernel), List.mem_of_getElem? (i := 1176) (by decide +kernel), List.mem_of_getElem? (i := 1177) (by decide +kernel)⟩
theorem lw_p36 : lw_okq (⟨"TwoWidthsModel", "mayBeFirst", "(II)Z"⟩, 38) := ⟨⟨by decide +kernel, by decide +kernel⟩, List.mem_of_getElem? (i := 993) (by decide +kernel), List.mem_of_getElem? (i := 1189) (by decide +kernel), List.mem_of_getElem? (i := 1190) (by decide +kernel)⟩
theorem lw_p37 : lw_okq (⟨"TwoWidthsModel", "isLine", "(I)Z"⟩, 38) := ⟨⟨by decide +kernel, by decide +kernel⟩, List.mem_of_getElem? (i := 993) (by decide +kernel), List.mem_of_getElem? (i := 1193) (by decide +kernel), List.mem_of_getElem? (i := 1194) (by decide +kernel)⟩
theorem lw_p38 : lw_okq (⟨"TwoWidthsModel", "mayBeSecond", "(III)Z"⟩, 38) := ⟨⟨by decide +kernel, by decide +kernel⟩, List.mem_of_getElem? (i := 993) (by decide +kernel), List.mem_of_getElem? (i := 1197) (by decide +kernel), List.mem_of_getElem? (i := 1198) (by decide +kernel)⟩
theorem lw_p39 : lw_okq (⟨"TwoWidthsModel", "fresh", "()LTwoWidthsModel;"⟩, 38) := ⟨⟨by decide +kernel, by decide +kernel⟩, List.mem_of_getElem? (i := 993) (by decide +kernel), List.mem_of_getElem? (i := 1233) (by decide +kernel), List.mem_of_getElem? (i := 1234) (by decide +kernel)⟩
theorem lw_p40 : lw_okq (⟨"TwoWidthsModel", "takeFrom", "(LTwoWidthsModel;)V"⟩, 38) := ⟨⟨by decide +kernel, by decide +kernel⟩, List.mem_of_getElem? (i := 993) (by decide +kernel), List.mem_of_getElem? (i := 1239) (by decide +kernel), List.mem_of_getElem? (i := 1240) (by decide +kernel)⟩
theorem lw_p41 : lw_okq (⟨"TwoWidthsModel", "read", "()Z"⟩, 38) := ⟨⟨by decide +kernel, by decide +kernel⟩, List.mem_of_getElem? (i := 993) (by decide +kernel), List.mem_of_getElem? (i := 1249) (by decide +kernel), List.mem_of_getElem? (i := 1250) (by decide +kernel)⟩
theorem lw_p42 : lw_okq (⟨"TwoWidthsModel", "look", "()V"⟩, 38) := ⟨⟨by decide +kernel, by decide +kernel⟩, List.mem_of_getElem? (i := 993) (by decide +kernel), List.mem_of_getElem? (i := 1253) (by decide +kernel), List.mem_of_getElem? (i := 1254) (by decide +kernel)⟩
theorem lw_p43 : lw_okq (⟨"TwoWidthsModel", "statement", "()Z"⟩, 38) := ⟨⟨by decide +kernel, by decide +kernel⟩, List.mem_of_getElem? (i := 993) (by decide +kernel), List.mem_of_getElem? (i := 1266) (by decide +kernel), List.mem_of_getElem? (i := 1267) (by decide +kernel)⟩
theorem lw_p44 : lw_okq (⟨"TwoWidthsModel", "isWord", "(Ljava/lang/String;)Z"⟩, 38) := ⟨⟨by decide +kernel, by decide +kernel⟩, List.mem_of_getElem? (i := 993) (by decide +kernel), List.mem_of_getElem? (i := 1271) (by decide +kernel), List.mem_of_getElem? (i := 1272) (by decide +kernel)⟩
theorem lw_p45 : lw_okq (⟨"TwoWidthsModel", "two", "([I)Z"⟩, 38) := ⟨⟨by decide +kernel, by decide +kernel⟩, List.mem_of_getElem? (i := 993) (by decide +kernel), List.mem_of_getElem? (i := 1277) (by decide +kernel), List.mem_of_getElem? (i := 1278) (by decide +kernel)⟩
theorem lw_p46 : lw_okq (⟨"TwoWidthsModel", "number", "([IIII)Z"⟩, 38) := ⟨⟨by decide +kernel, by decide +kernel⟩, List.mem_of_getElem? (i := 993) (by decide +kernel), List.mem_of_getElem? (i := 1281) (by decide +kernel), List.mem_of_getElem? (i := 1282) (by decide +kernel)⟩
theorem lw_p47 : lw_okq (⟨"TwoWidthsModel", "wrong", "()Z"⟩, 38) := ⟨⟨by decide +kernel, by decide +kernel⟩, List.mem_of_getElem? (i := 993) (by decide +kernel), List.mem_of_getElem? (i := 1285) (by decide +kernel), List.mem_of_getElem? (i := 1286) (by decide +kernel)⟩
def lw_privs_3 : List (MethodName × Nat) := [(⟨"TwoWidths", "passYear", "(I)I"⟩, 10), (⟨"TwoWidthsModel", "refuse", "(I)I"⟩, 38), (⟨"TwoWidthsModel", "isWork", "(I)Z"⟩, 38), (⟨"TwoWidthsModel", "newLine", "(II)V"⟩, 38), (⟨"TwoWidthsModel", "mayBeFirst", "(II)Z"⟩, 38), (⟨"TwoWidthsModel", "isLine", "(I)Z"⟩, 38), (⟨"TwoWidthsModel", "mayBeSecond", "(III)Z"⟩, 38), (⟨"TwoWidthsModel", "fresh", "()LTwoWidthsModel;"⟩, 38), (⟨"TwoWidthsModel", "takeFrom", "(LTwoWidthsModel;)V"⟩, 38), (⟨"TwoWidthsModel", "read", "()Z"⟩, 38), (⟨"TwoWidthsModel", "look", "()V"⟩, 38), (⟨"TwoWidthsModel", "statement", "()Z"⟩, 38), (⟨"TwoWidthsModel", "isWord", "(Ljava/lang/String;)Z"⟩, 38), (⟨"TwoWidthsModel", "two", "([I)Z"⟩, 38), (⟨"TwoWidthsModel", "number", "([IIII)Z"⟩, 38), (⟨"TwoWidthsModel", "wrong", "()Z"⟩, 38)]
theorem lw_r3 : ∀ q ∈ lw_privs_3, lw_okq q := List.forall_mem_cons.mpr ⟨lw_p32, List.forall_mem_cons.mpr ⟨lw_p33, List.forall_mem_cons.mpr ⟨lw_p34, List.forall_mem_cons.mpr ⟨lw_p35, List.forall_mem_cons.mpr ⟨lw_p36, List.forall_mem_cons.mpr ⟨lw_p37, List.forall_mem_cons.mpr ⟨lw_p38, List.forall_mem_cons.mpr ⟨lw_p39, List.forall_mem_cons.mpr ⟨lw_p40, List.forall_mem_cons.mpr ⟨lw_p41, List.forall_mem_cons.mpr ⟨lw_p42, List.forall_mem_cons.mpr ⟨lw_p43, List.forall_mem_cons.mpr ⟨lw_p44, List.forall_mem_cons.mpr ⟨lw_p45, List.forall_mem_cons.mpr ⟨lw_p46, List.forall_mem_cons.mpr ⟨lw_p47, fun _ h => absurd h List.not_mem_nil⟩⟩⟩⟩⟩⟩⟩⟩⟩⟩⟩⟩⟩⟩⟩⟩
theorem lw_p48 : lw_okq (⟨"TwoWidthsModel", "told", "(Ljava/lang/String;[IIII)Z"⟩, 38) := ⟨⟨by decide +kernel, by decide +kernel⟩, List.mem_of_getElem? (i := 993) (by decide +kernel), List.mem_of_getElem? (i := 1290) (by decide +kernel), List.mem_of_getElem? (i := 1291) (by decide +kernel)⟩
theorem lw_p49 : lw_okq (⟨"TwoWidthsModel", "perhaps", "(Ljava/lang/String;[IIII)Z"⟩, 38) := ⟨⟨by decide +kernel, by decide +kernel⟩, List.mem_of_getElem? (i := 993) (by decide +kernel), List.mem_of_getElem? (i := 1296) (by decide +kernel), List.mem_of_getElem? (i := 1297) (by decide +kernel)⟩
theorem lw_p50 : lw_okq (⟨"TwoWidthsModel", "workTold", "([I)Z"⟩, 38) := ⟨⟨by decide +kernel, by decide +kernel⟩, List.mem_of_getElem? (i := 993) (by decide +kernel), List.mem_of_getElem? (i := 1303) (by decide +kernel), List.mem_of_getElem? (i := 1304) (by decide +kernel)⟩
theorem lw_p51 : lw_okq (⟨"TwoWidthsModel", "refill", "()V"⟩, 38) := ⟨⟨by decide +kernel, by decide +kernel⟩, List.mem_of_getElem? (i := 993) (by decide +kernel), List.mem_of_getElem? (i := 1327) (by decide +kernel), List.mem_of_getElem? (i := 1328) (by decide +kernel)⟩
theorem lw_p52 : lw_okq (⟨"TwoWidthsModel", "findFar", "(II)V"⟩, 38) := ⟨⟨by decide +kernel, by decide +kernel⟩, List.mem_of_getElem? (i := 993) (by decide +kernel), List.mem_of_getElem? (i := 1331) (by decide +kernel), List.mem_of_getElem? (i := 1332) (by decide +kernel)⟩
theorem lw_p53 : lw_okq (⟨"TwoWidthsModel", "bears", "(II)Z"⟩, 38) := ⟨⟨by decide +kernel, by decide +kernel⟩, List.mem_of_getElem? (i := 993) (by decide +kernel), List.mem_of_getElem? (i := 1336) (by decide +kernel), List.mem_of_getElem? (i := 1337) (by decide +kernel)⟩
theorem lw_p54 : lw_okq (⟨"TwoWidthsModel", "least", "(I)I"⟩, 38) := ⟨⟨by decide +kernel, by decide +kernel⟩, List.mem_of_getElem? (i := 993) (by decide +kernel), List.mem_of_getElem? (i := 1340) (by decide +kernel), List.mem_of_getElem? (i := 1341) (by decide +kernel)⟩
theorem lw_p55 : lw_okq (⟨"TwoWidthsModel", "findGoods", "(I)Z"⟩, 38) := ⟨⟨by decide +kernel, by decide +kernel⟩, List.mem_of_getElem? (i := 993) (by decide +kernel), List.mem_of_getElem? (i := 1348) (by decide +kernel), List.mem_of_getElem? (i := 1349) (by decide +kernel)⟩
theorem lw_p56 : lw_okq (⟨"TwoWidthsModel", "findWay", "(III)Z"⟩, 38) := ⟨⟨by decide +kernel, by decide +kernel⟩, List.mem_of_getElem? (i := 993) (by decide +kernel), List.mem_of_getElem? (i := 1352) (by decide +kernel), List.mem_of_getElem? (i := 1353) (by decide +kernel)⟩
theorem lw_p57 : lw_okq (⟨"TwoWidthsModel", "canEnd", "(II)Z"⟩, 38) := ⟨⟨by decide +kernel, by decide +kernel⟩, List.mem_of_getElem? (i := 993) (by decide +kernel), List.mem_of_getElem? (i := 1356) (by decide +kernel), List.mem_of_getElem? (i := 1357) (by decide +kernel)⟩
theorem lw_p58 : lw_okq (⟨"TwoWidthsModel", "stepTo", "(II)I"⟩, 38) := ⟨⟨by decide +kernel, by decide +kernel⟩, List.mem_of_getElem? (i := 993) (by decide +kernel), List.mem_of_getElem? (i := 1360) (by decide +kernel), List.mem_of_getElem? (i := 1361) (by decide +kernel)⟩
theorem lw_p59 : lw_okq (⟨"TwoWidthsModel", "earned", "(I)I"⟩, 38) := ⟨⟨by decide +kernel, by decide +kernel⟩, List.mem_of_getElem? (i := 993) (by decide +kernel), List.mem_of_getElem? (i := 1376) (by decide +kernel), List.mem_of_getElem? (i := 1377) (by decide +kernel)⟩
theorem lw_p60 : lw_okq (⟨"TwoWidthsModel", "totalOf", "(I)I"⟩, 38) := ⟨⟨by decide +kernel, by decide +kernel⟩, List.mem_of_getElem? (i := 993) (by decide +kernel), List.mem_of_getElem? (i := 1393) (by decide +kernel), List.mem_of_getElem? (i := 1394) (by decide +kernel)⟩
theorem lw_p61 : lw_okq (⟨"TwoWidthsModel", "does", "(I)V"⟩, 38) := ⟨⟨by decide +kernel, by decide +kernel⟩, List.mem_of_getElem? (i := 993) (by decide +kernel), List.mem_of_getElem? (i := 1397) (by decide +kernel), List.mem_of_getElem? (i := 1398) (by decide +kernel)⟩
theorem lw_p62 : lw_okq (⟨"TwoWidthsModel", "worthOf", "(I)I"⟩, 38) := ⟨⟨by decide +kernel, by decide +kernel⟩, List.mem_of_getElem? (i := 993) (by decide +kernel), List.mem_of_getElem? (i := 1410) (by decide +kernel), List.mem_of_getElem? (i := 1411) (by decide +kernel)⟩
theorem lw_p63 : lw_okq (⟨"TwoWidthsModel", "saves", "(I)I"⟩, 38) := ⟨⟨by decide +kernel, by decide +kernel⟩, List.mem_of_getElem? (i := 993) (by decide +kernel), List.mem_of_getElem? (i := 1414) (by decide +kernel), List.mem_of_getElem? (i := 1415) (by decide +kernel)⟩
def lw_privs_4 : List (MethodName × Nat) := [(⟨"TwoWidthsModel", "told", "(Ljava/lang/String;[IIII)Z"⟩, 38), (⟨"TwoWidthsModel", "perhaps", "(Ljava/lang/String;[IIII)Z"⟩, 38), (⟨"TwoWidthsModel", "workTold", "([I)Z"⟩, 38), (⟨"TwoWidthsModel", "refill", "()V"⟩, 38), (⟨"TwoWidthsModel", "findFar", "(II)V"⟩, 38), (⟨"TwoWidthsModel", "bears", "(II)Z"⟩, 38), (⟨"TwoWidthsModel", "least", "(I)I"⟩, 38), (⟨"TwoWidthsModel", "findGoods", "(I)Z"⟩, 38), (⟨"TwoWidthsModel", "findWay", "(III)Z"⟩, 38), (⟨"TwoWidthsModel", "canEnd", "(II)Z"⟩, 38), (⟨"TwoWidthsModel", "stepTo", "(II)I"⟩, 38), (⟨"TwoWidthsModel", "earned", "(I)I"⟩, 38), (⟨"TwoWidthsModel", "totalOf", "(I)I"⟩, 38), (⟨"TwoWidthsModel", "does", "(I)V"⟩, 38), (⟨"TwoWidthsModel", "worthOf", "(I)I"⟩, 38), (⟨"TwoWidthsModel", "saves", "(I)I"⟩, 38)]
theorem lw_r4 : ∀ q ∈ lw_privs_4, lw_okq q := List.forall_mem_cons.mpr ⟨lw_p48, List.forall_mem_cons.mpr ⟨lw_p49, List.forall_mem_cons.mpr ⟨lw_p50, List.forall_mem_cons.mpr ⟨lw_p51, List.forall_mem_cons.mpr ⟨lw_p52, List.forall_mem_cons.mpr ⟨lw_p53, List.forall_mem_cons.mpr ⟨lw_p54, List.forall_mem_cons.mpr ⟨lw_p55, List.forall_mem_cons.mpr ⟨lw_p56, List.forall_mem_cons.mpr ⟨lw_p57, List.forall_mem_cons.mpr ⟨lw_p58, List.forall_mem_cons.mpr ⟨lw_p59, List.forall_mem_cons.mpr ⟨lw_p60, List.forall_mem_cons.mpr ⟨lw_p61, List.forall_mem_cons.mpr ⟨lw_p62, List.forall_mem_cons.mpr ⟨lw_p63, fun _ h => absurd h List.not_mem_nil⟩⟩⟩⟩⟩⟩⟩⟩⟩⟩⟩⟩⟩⟩⟩⟩
theorem lw_p64 : lw_okq (⟨"TwoWidthsModel", "oneWidth", "(II)I"⟩, 38) := ⟨⟨by decide +kernel, by decide +kernel⟩, List.mem_of_getElem? (i := 993) (by decide +kernel), List.mem_of_getElem? (i := 1445) (by decide +kernel), List.mem_of_getElem? (i := 1446) (by decide +kernel)⟩
theorem lw_p65 : lw_okq (⟨"TwoWidthsModel", "gainOf", "(II)I"⟩, 38) := ⟨⟨by decide +kernel, by decide +kernel⟩, List.mem_of_getElem? (i := 993) (by decide +kernel), List.mem_of_getElem? (i := 1457) (by decide +kernel), List.mem_of_getElem? (i := 1458) (by decide +kernel)⟩
theorem lw_p66 : lw_okq (⟨"TwoWidthsModel", "noRow", "(II)I"⟩, 38) := ⟨⟨by decide +kernel, by decide +kernel⟩, List.mem_of_getElem? (i := 993) (by decide +kernel), List.mem_of_getElem? (i := 1469) (by decide +kernel), List.mem_of_getElem? (i := 1470) (by decide +kernel)⟩
theorem lw_p67 : lw_okq (⟨"TwoWidthsModel", "wrongAt", "(II)I"⟩, 38) := ⟨⟨by decide +kernel, by decide +kernel⟩, List.mem_of_getElem? (i := 993) (by decide +kernel), List.mem_of_getElem? (i := 1473) (by decide +kernel), List.mem_of_getElem? (i := 1474) (by decide +kernel)⟩
theorem lw_p68 : lw_okq (⟨"TwoWidthsModel", "goes", "(I)I"⟩, 38) := ⟨⟨by decide +kernel, by decide +kernel⟩, List.mem_of_getElem? (i := 993) (by decide +kernel), List.mem_of_getElem? (i := 1485) (by decide +kernel), List.mem_of_getElem? (i := 1486) (by decide +kernel)⟩
def lw_privs_5 : List (MethodName × Nat) := [(⟨"TwoWidthsModel", "oneWidth", "(II)I"⟩, 38), (⟨"TwoWidthsModel", "gainOf", "(II)I"⟩, 38), (⟨"TwoWidthsModel", "noRow", "(II)I"⟩, 38), (⟨"TwoWidthsModel", "wrongAt", "(II)I"⟩, 38), (⟨"TwoWidthsModel", "goes", "(I)I"⟩, 38)]
theorem lw_r5 : ∀ q ∈ lw_privs_5, lw_okq q := List.forall_mem_cons.mpr ⟨lw_p64, List.forall_mem_cons.mpr ⟨lw_p65, List.forall_mem_cons.mpr ⟨lw_p66, List.forall_mem_cons.mpr ⟨lw_p67, List.forall_mem_cons.mpr ⟨lw_p68, fun _ h => absurd h List.not_mem_nil⟩⟩⟩⟩⟩
def lw_privs : List (MethodName × Nat) := lw_privs_1 ++ (lw_privs_2 ++ (lw_privs_3 ++ (lw_privs_4 ++ (lw_privs_5))))
def lw_tbl : List Cond := k2_sels lw_privs ++ tables_1
theorem lw_privs_ok : ∀ q ∈ lw_privs, lw_okq q := by
  show ∀ q ∈ lw_privs_1 ++ (lw_privs_2 ++ (lw_privs_3 ++ (lw_privs_4 ++ (lw_privs_5)))), lw_okq q
  exact List.forall_mem_append.mpr ⟨lw_r1, List.forall_mem_append.mpr ⟨lw_r2, List.forall_mem_append.mpr ⟨lw_r3, List.forall_mem_append.mpr ⟨lw_r4, lw_r5⟩⟩⟩⟩
end
section
def dcR (c : ByteArray) (p : Nat) (i : Instr) (k : Nat) : Decidable (decode c p = .ok (i, k)) := inferInstance
/-- an array class over arrays of ty (the printed rows name it, the kit has it for objects alone) -/
def va_AOA (ty : FieldType) (U : State) : Prop := (Cond.arrayOver (.array ty)).before #[] U = true
theorem va_AOA.of {ty : FieldType} {A : Array Value} {U : State} (h : (Cond.arrayOver (.array ty)).before A U = true) : va_AOA ty U := h
theorem va_AOA.use {ty : FieldType} {A : Array Value} {U : State} (h : va_AOA ty U) : (Cond.arrayOver (.array ty)).before A U = true := h
theorem va_AOA.moved {ty : FieldType} {u U : State} (hvm : u.vm.Alike U.vm) (h : va_AOA ty u) : va_AOA ty U := by
  have key : ∃ comp c k, u.vm.findClass (FieldType.array ty).toString = some comp ∧ (u.vm.classes.findIdx? fun x => match x.kind with | .array component _ => component == comp | _ => false) = some c ∧ u.vm.classes[c]? = some k ∧ k.kind = .array comp (.array ty) ∧ u.vm.findClass ("[" ++ (FieldType.array ty).toString) = some c := by
    have h0 := h
    unfold va_AOA Cond.before at h0
    simp only [Cond.holds, Cond.value, beq_iff_eq] at h0
    cases hc : u.vm.findClass (FieldType.array ty).toString with
    | none => simp [hc] at h0
    | some comp =>
      simp only [hc, Option.bind_some, Option.bind_eq_some_iff, Option.map_eq_some_iff] at h0
      obtain ⟨c, hi, k, hk, hb⟩ := h0
      obtain ⟨hlt, hp, -⟩ := Array.findIdx?_eq_some_iff_getElem.mp hi
      have hkk : u.vm.classes[c] = k := (Array.getElem?_eq_some_iff.mp hk).2
      rw [hkk] at hp
      cases hkind : k.kind with
      | array component ty2 =>
        rw [hkind] at hb hp
        simp at hb hp
        subst hp
        exact ⟨component, c, k, rfl, hi, hk, by rw [hkind, hb.1], hb.2⟩
      | _ => rw [hkind] at hb; simp at hb
  obtain ⟨comp, c, k, h1, h2, h3, h4, h5⟩ := key
  obtain ⟨k', hk', he⟩ := hvm.2.2 _ _ h3
  have hi : (U.vm.classes.findIdx? fun (x : Class) => match x.kind with | .array component _ => component == comp | _ => false) = some c := by
    have e0 : u.vm.bare = U.vm.bare := by first | exact hvm.bare_eq | exact hvm.bare_eq.symm
    exact (va_idx_bare U.vm comp).symm.trans ((congrArg (fun z : Vm => z.classes.findIdx? fun (x : Class) => match x.kind with | .array component _ => component == comp | _ => false) e0.symm).trans ((va_idx_bare u.vm comp).trans h2))
  have hkind : k'.kind = .array comp (.array ty) := by rw [he]; exact h4
  have f1 : U.vm.findClass (FieldType.array ty).toString = some comp := by rw [hvm.findClass]; exact h1
  have f2 : U.vm.findClass ("[" ++ (FieldType.array ty).toString) = some c := by rw [hvm.findClass]; exact h5
  unfold va_AOA Cond.before Cond.holds
  simp only [Cond.value]
  rw [f1, Option.bind_some]
  refine (congrArg (fun o : Option Nat => (o.bind (fun c => (U.vm.classes[c]?).map fun (k : Class) => match k.kind with | .array _ ty' => decide (ty' = FieldType.array ty) && decide (U.vm.findClass ("[" ++ (FieldType.array ty).toString) = some c) | _ => false) == some true)) hi).trans ?_
  simp [hk', hkind, f2]
/-! ===== BEGIN words of one list among another's, by their places ===== -/
theorem goodIn_r {big : List Cond} (ws : List Cond) (ps : List Nat) (hp : ws = ps.filterMap (fun i => big[i]?)) (h : ws.all goodWord = true) : GoodIn big ws := by
  intro w hw
  have h1 := List.all_eq_true.mp h w hw
  rw [hp] at hw
  obtain ⟨i, -, hi⟩ := List.mem_filterMap.mp hw
  have hm : w ∈ big := by first | exact List.mem_of_getElem? hi | exact List.getElem?_mem hi
  exact ⟨hm, good_of_word h1⟩
theorem goodIn_app {big a b : List Cond} (ha : GoodIn big a) (hb : GoodIn big b) : GoodIn big (a ++ b) := fun w h => (List.mem_append.mp h).elim (ha w) (hb w)
theorem goodIn_ca {big a b : List Cond} {c : Cond} (ha : GoodIn big (c :: a)) (hb : GoodIn big b) : GoodIn big (c :: (a ++ b)) := fun w h => (List.mem_cons.mp h).elim (fun e => ha w (List.mem_cons.mpr (Or.inl e))) (fun h => (List.mem_append.mp h).elim (fun h => ha w (List.mem_cons.mpr (Or.inr h))) (hb w))
theorem goodIn_sub {big ws : List Cond} (hm : ∀ w ∈ ws, w ∈ big) (h : ws.all goodWord = true) : GoodIn big ws := fun w hw => ⟨hm w hw, good_of_word (List.all_eq_true.mp h w hw)⟩
/-! ===== END ===== -/

/-! ===== BEGIN new T[n][m]: the outer array a place, the inner ones among the pooled ===== -/
/-- f, but v at every address of l -/
def vr_up {α : Type} (f : Nat → α) (l : List Nat) (v : α) : Nat → α := fun a => if a ∈ l then v else f a
theorem vr_up_in {α : Type} {f : Nat → α} {l : List Nat} {v : α} {a : Nat} (h : a ∈ l) : vr_up f l v a = v := if_pos h
theorem vr_up_ne {α : Type} {f : Nat → α} {l : List Nat} {v : α} {a : Nat} (h : a ∉ l) : vr_up f l v a = f a := if_neg h
theorem vr_rows {L l : List Nat} {f : Nat → va_E} {e : va_E} (h : ∀ a, a ∈ l → a ∉ L) : va_pl L f ++ l.map (fun a => (a, e)) = va_pl (L ++ l) (vr_up f l e) := by
  unfold va_pl
  rw [List.map_append]
  congr 1
  · apply List.map_congr_left
    intro a ha
    rw [vr_up_ne (fun q => h a q ha)]
  · apply List.map_congr_left
    intro a ha
    rw [vr_up_in ha]
theorem vr_lay {X rows : va_W} {x : Nat × va_E} {pl : va_W} {D : va_G} {cl : List vw_C} {H : Heap} (hP : va_P D cl (((X ++ pl) ++ [x]) ++ rows) H) : va_P D cl ((X ++ [x]) ++ (pl ++ rows)) H := by
  rw [List.append_assoc (X ++ pl)] at hP
  have h := va_P.swap hP
  rw [← List.append_assoc X] at h
  have h2 := va_P.swap h
  rw [List.append_assoc (X ++ [x])] at h2
  exact h2
theorem vr_layD {X rows : va_W} {x : Nat × va_E} {pl : va_W} {A : Nat → Prop} (hD : va_D A (((X ++ pl) ++ [x]) ++ rows)) : va_D A ((X ++ [x]) ++ (pl ++ rows)) := by
  rw [List.append_assoc (X ++ pl)] at hD
  have h := va_D.swap hD
  rw [← List.append_assoc X] at h
  have h2 := va_D.swap h
  rw [List.append_assoc (X ++ [x])] at h2
  exact h2
theorem vr_outer (c : ClassId) (N h0 : Nat) : ∀ i : Nat, Jvm.Free.Multi.outerC c N h0 i = arrV c N (fun j => va_rf (if j < i then some (h0 + 1 + j) else none))
  | 0 => by
    show ({ cls := c, slots := Array.replicate N .null, vm := .none } : Cell) = _
    rw [arrV_new]
    refine congrArg (arrV c N) (funext fun j => ?_)
    simp [va_rf]
  | i + 1 => by
    show (Jvm.Free.Multi.outerC c N h0 i).setSlot i (.ref (h0 + 1 + i)) = _
    rw [vr_outer c N h0 i, arrV_store]
    refine congrArg (arrV c N) (funext fun j => ?_)
    by_cases e : j = i
    · subst e
      simp [updV, va_rf]
    · by_cases h : j < i
      · simp [updV, e, h, Nat.lt_succ_of_lt h]
      · simp [updV, e, h, show ¬ j < i + 1 by omega]
section VGM
variable {p : Program} {l : Launch} {e : Env} {R : Room} {s : State} {m : MethodId} {args : Array Value} {below : List Frame} {meth : Method} {c : Code} {H : Heap} {locs : List Loc} {cells slots : Nat} {Q : State → Prop}
variable {cc : ByteArray} {pc : Nat} {ls : Array Slot} {rest : List Value} {D : va_G} {cl : List vw_C} {A : Nat → Prop} {a : Nat} {tys : List (ClassId × FieldType)} {ws : va_W} {H0 : Heap}
theorem va_mna {X : va_W} {L : List Nat} {f : Nat → va_E} {cc : ByteArray} (hexec : p.tables.exec = Jvm.exec) (hb : c.code = cc) {own : String} {index : Nat} {ty : FieldType} {cy : ClassId} (hown : s.vm.findClass own = some m.cls) (hclink : (Cond.classLink own index ("[" ++ (FieldType.array ty).toString)).before args s = true) (hover : va_AOA ty s) (harr : (Cond.arrayClass ty).before args s = true) (hcy : s.vm.findClass (FieldType.array ty).toString = some cy)
    (hK : va_K D cl tys s) (hP : va_P D cl (X ++ va_pl L f) H) (hD : va_D A (X ++ va_pl L f)) (hS : va_S A H0 H locs) (hA : ∀ q, H0.size ≤ q → A q) {n k : Int32} {N' K' : Nat} {z : vp_A} (hn : ¬ n < 0) (hk : ¬ k < 0) (hN : n.toNatClampNeg = N') (hM : k.toNatClampNeg = K')
    (hb1 : N' * 4 ≤ 536870912) (hb2 : K' * componentBytes ty ≤ 536870912) (hb3 : K' ≤ 536870912) (hdf : fits ty (defaultValue ty) = true) (hdd : (defaultValue ty).isDefault = true) (hcells : cells + (1 + N') ≤ R.cells) (hslots : slots + (N' + N' * K') ≤ R.slots) (hz : ∀ c : ClassId, Jvm.Free.Multi.innerC c K' (defaultValue ty) = vp_cell c z) (hdg : decode cc pc = .ok (.multianewarray index 2, 4))
    (kk : ∀ (q : Nat) (r : Nat → Nat) (cA : ClassId) (H1 : Heap), (∀ i j : Nat, i < N' → j < N' → r i = r j → i = j) → (∀ i : Nat, i < N' → r i ∉ L) → va_K D cl (tys ++ [(cA, .array ty)]) s →
      va_P D cl ((X ++ [(q, .inl (cA, N', .inr (.inr (.inr (.inr (fun i => if i < N' then some (r i) else none))))))]) ++ va_pl (L ++ (List.range N').map r) (vr_up f ((List.range N').map r) (.inl (cy, z)))) H1 → va_D A ((X ++ [(q, .inl (cA, N', .inr (.inr (.inr (.inr (fun i => if i < N' then some (r i) else none))))))]) ++ va_pl (L ++ (List.range N').map r) (vr_up f ((List.range N').map r) (.inl (cy, z)))) → va_S A H0 H1 locs →
      W p l e R s m args below meth c H1 locs (cells + 1 + N') (slots + N' + N' * K') Q (F0 m (pc + 4) ls (.ref q :: rest))) : W p l e R s m args below meth c H locs cells slots Q (F0 m pc ls (.int k :: .int n :: rest)) := by
  subst hN
  subst hM
  intro T hT Xs
  obtain ⟨vm₁, cA, comp, -, fA, fC, hO, -, X', step⟩ := Xs.multianewarray2F hexec hown hclink (va_AOA.use hover) harr (g := F0 m pc ls (.int k :: .int n :: rest)) rfl (by rw [hb]; exact hdg) rfl hn hk hb1 hb2 hb3 hdf hdd hcells hslots
  have ec : some cy = some comp := hcy.symm.trans fC
  cases ec
  generalize hF : Jvm.Free.Multi.fill (T.setVm vm₁) cA cy n.toNatClampNeg k.toNatClampNeg (defaultValue ty) n.toNatClampNeg = F at X' step
  have hTh : (T.setVm vm₁).heap = H := hT
  obtain ⟨f1, f2, -, -⟩ := Jvm.Free.Multi.fill_facts (T.setVm vm₁) cA cy n.toNatClampNeg k.toNatClampNeg (defaultValue ty) n.toNatClampNeg
  rw [hF, hTh] at f1 f2
  have hold : ∀ x : Nat, x < H.size → F.heap[x]? = H[x]? := fun x hx => by
    have := Jvm.Free.Multi.fill_old (T.setVm vm₁) cA cy n.toNatClampNeg k.toNatClampNeg (defaultValue ty) (a := x) (by rw [hTh]; exact hx) n.toNatClampNeg
    rw [hF, hTh] at this
    exact this
  have hrow : ∀ j : Nat, j < n.toNatClampNeg → F.heap[H.size + 1 + j]? = some (vp_cell cy z) := fun j hj => by
    have := Jvm.Free.Multi.fill_inner (T.setVm vm₁) cA cy n.toNatClampNeg k.toNatClampNeg (defaultValue ty) n.toNatClampNeg j hj
    rw [hF, hTh, hz] at this
    exact this
  have hout : Jvm.Free.Multi.outerC cA n.toNatClampNeg H.size n.toNatClampNeg = vp_cell cA (n.toNatClampNeg, .inr (.inr (.inr (.inr (fun i => if i < n.toNatClampNeg then some (H.size + 1 + i) else none))))) := by
    rw [vp_cell_q]
    exact vr_outer cA n.toNatClampNeg H.size n.toNatClampNeg
  rw [hout] at f2
  have hlt : ∀ a, a ∈ L → a < H.size := fun a ha => by
    obtain ⟨k9, hk9⟩ := va_pl_get (X := X) (f := f) ha
    exact (hP k9 _ hk9).lt
  have hnl : ∀ i : Nat, i < n.toNatClampNeg → H.size + 1 + i ∉ L := fun i _ h => by
    have := hlt _ h
    omega
  have hnm : ∀ a, a ∈ (List.range n.toNatClampNeg).map (fun i => H.size + 1 + i) → a ∉ L := fun a ha h => by
    obtain ⟨i, -, rfl⟩ := List.mem_map.mp ha
    have := hlt _ h
    omega
  have hP0 : va_P D cl (X ++ va_pl L f) F.heap := hP.kept (fun k9 x hx => hold x.1 ((hP k9 x hx).lt))
  have hP1 : va_P D cl ((X ++ va_pl L f) ++ [(H.size, .inl (cA, n.toNatClampNeg, .inr (.inr (.inr (.inr (fun i => if i < n.toNatClampNeg then some (H.size + 1 + i) else none))))))]) F.heap := hP0.app (fun k9 x hx => by
    have h0 : k9 < 1 := (List.getElem?_eq_some_iff.mp hx).1
    rw [show k9 = 0 by omega] at hx
    cases hx
    exact f2)
  have hP2 : va_P D cl (((X ++ va_pl L f) ++ [(H.size, .inl (cA, n.toNatClampNeg, .inr (.inr (.inr (.inr (fun i => if i < n.toNatClampNeg then some (H.size + 1 + i) else none))))))]) ++ ((List.range n.toNatClampNeg).map (fun i => H.size + 1 + i)).map (fun a => (a, .inl (cy, z)))) F.heap := hP1.app (fun k9 x hx => by
    obtain ⟨a, ha, rfl⟩ := List.mem_map.mp (List.mem_of_getElem? hx)
    obtain ⟨i, hi, rfl⟩ := List.mem_map.mp ha
    exact hrow i (List.mem_range.mp hi))
  have hD2 : va_D A (((X ++ va_pl L f) ++ [(H.size, .inl (cA, n.toNatClampNeg, .inr (.inr (.inr (.inr (fun i => if i < n.toNatClampNeg then some (H.size + 1 + i) else none))))))]) ++ ((List.range n.toNatClampNeg).map (fun i => H.size + 1 + i)).map (fun a => (a, .inl (cy, z)))) := by
    have hD1 := hD.push (e := .inl (cA, n.toNatClampNeg, .inr (.inr (.inr (.inr (fun i => if i < n.toNatClampNeg then some (H.size + 1 + i) else none)))))) hP rfl (hA _ hS.1)
    generalize hW1 : (X ++ va_pl L f) ++ [(H.size, .inl (cA, n.toNatClampNeg, .inr (.inr (.inr (.inr (fun i => if i < n.toNatClampNeg then some (H.size + 1 + i) else none))))))] = W1 at hD1 hP1 ⊢
    have hle : ∀ (k9 : Nat) (x : Nat × va_E), W1[k9]? = some x → x.1 ≤ H.size := fun k9 x hx => by
      rw [← hW1] at hx
      by_cases hl : k9 < (X ++ va_pl L f).length
      · rw [List.getElem?_append_left hl] at hx
        exact Nat.le_of_lt ((hP k9 x hx).lt)
      · rw [List.getElem?_append_right (by omega)] at hx
        have h0 : k9 - (X ++ va_pl L f).length < 1 := (List.getElem?_eq_some_iff.mp hx).1
        rw [show k9 - (X ++ va_pl L f).length = 0 by omega] at hx
        cases hx
        exact Nat.le_refl _
    have hr : ∀ (k9 : Nat) (x : Nat × va_E), (((List.range n.toNatClampNeg).map (fun i => H.size + 1 + i)).map (fun a => ((a, .inl (cy, z)) : Nat × va_E)))[k9]? = some x → x.1 = H.size + 1 + k9 := fun k9 x hx => by
      rw [List.getElem?_map, List.getElem?_map] at hx
      by_cases h9 : k9 < n.toNatClampNeg
      · rw [List.getElem?_range h9] at hx
        cases hx
        rfl
      · have hn0 : (List.range n.toNatClampNeg)[k9]? = none := List.getElem?_eq_none (by rw [List.length_range]; omega)
        rw [hn0] at hx
        cases hx
    refine ⟨fun i j x y hi hj hxy => ?_, fun k9 x hx => ?_⟩
    · by_cases h1 : i < W1.length <;> by_cases h2 : j < W1.length
      · rw [List.getElem?_append_left h1] at hi
        rw [List.getElem?_append_left h2] at hj
        exact hD1.1 i j x y hi hj hxy
      · rw [List.getElem?_append_left h1] at hi
        rw [List.getElem?_append_right (by omega)] at hj
        have := hle _ _ hi
        have := hr _ _ hj
        omega
      · rw [List.getElem?_append_right (by omega)] at hi
        rw [List.getElem?_append_left h2] at hj
        have := hle _ _ hj
        have := hr _ _ hi
        omega
      · rw [List.getElem?_append_right (by omega)] at hi hj
        have := hr _ _ hi
        have := hr _ _ hj
        omega
    · by_cases h1 : k9 < W1.length
      · rw [List.getElem?_append_left h1] at hx
        exact hD1.2 k9 x hx
      · rw [List.getElem?_append_right (by omega)] at hx
        have := hr _ _ hx
        exact hA _ (by have := hS.1; omega)
  have hAr : ArrOfT s cA (.array ty) := fun N9 z9 => by
    obtain ⟨-, k9, hk9, cm9, hkk9⟩ := (hO 0 0 0).1
    exact ⟨(fun q hq => by cases hq), k9, hk9, cm9, hkk9⟩
  have hK2 : va_K D cl (tys ++ [(cA, .array ty)]) s := ⟨hK.1, fun k9 x hx => by
    by_cases hl : k9 < tys.length
    · rw [List.getElem?_append_left hl] at hx
      exact hK.2 k9 x hx
    · rw [List.getElem?_append_right (by omega)] at hx
      have h0 : k9 - tys.length < 1 := (List.getElem?_eq_some_iff.mp hx).1
      rw [show k9 - tys.length = 0 by omega] at hx
      cases hx
      exact ⟨hAr, fA⟩⟩
  obtain ⟨t, a1, b1⟩ := kk H.size (fun i => H.size + 1 + i) cA F.heap (fun i j _ _ h => by have h9 : H.size + 1 + i = H.size + 1 + j := h; omega) hnl hK2 (by rw [← vr_rows hnm]; exact vr_lay hP2) (by rw [← vr_rows hnm]; exact vr_layD hD2) ⟨by rw [f1]; have := hS.1; omega, fun x h1 h2 => (hold x (Nat.lt_of_lt_of_le h1 hS.1)).trans (hS.2.1 x h1 h2), hS.2.2⟩ F rfl X'
  refine ⟨t, step t ?_, b1⟩
  have e : T.heap.size = H.size := by rw [hT]
  rw [e]
  exact a1
end VGM
/-! ===== END ===== -/

def RX0 : String := "TwoWidths$Choice"
def TX0 : u_T := fun k => match k with
  | 0 => ("TwoWidths$Choice", "traffic", "LTwoWidths$Traffic;", true)
  | 1 => ("TwoWidths$Choice", "after", "LTwoWidths$Land;", true)
  | 2 => ("TwoWidths$Choice", "gained", "[I", true)
  | _ => ("TwoWidths$Choice", "trial", "LTwoWidths$Land;", true)
def tyX0 : Nat → FieldType := fun k => match k with
  | 0 => .object "TwoWidths$Traffic"
  | 1 => .object "TwoWidths$Land"
  | 2 => .array .int
  | _ => .object "TwoWidths$Land"
abbrev wsX00 : List Cond := u_ws RX0 TX0 4
theorem nmX0 : ∀ a, a < 4 → ∀ b, b < 4 → a ≠ b → (TX0 a).2.1 ≠ (TX0 b).2.1 := by decide +kernel
theorem tyX0_ok : ∀ k, k < 4 → parseFieldDescriptor (TX0 k).2.2.1 = some (tyX0 k) := by decide +kernel
abbrev cX0_init : ByteArray := prog_2_method_1_code
def yX0_init : MethodName := ⟨RX0, "<init>", "()V"⟩
abbrev cX0_freeWith : ByteArray := prog_2_method_2_code
def yX0_freeWith : MethodName := ⟨RX0, "freeWith", "(LTwoWidths$Land;I)I"⟩
abbrev cX0_totalOf : ByteArray := prog_2_method_3_code
def yX0_totalOf : MethodName := ⟨RX0, "totalOf", "(LTwoWidths$Land;I)I"⟩
abbrev cX0_bestOf : ByteArray := prog_2_method_4_code
def yX0_bestOf : MethodName := ⟨RX0, "bestOf", "(LTwoWidths$Land;)I"⟩
abbrev cX0_worthIn : ByteArray := prog_2_method_5_code
def yX0_worthIn : MethodName := ⟨RX0, "worthIn", "(LTwoWidths$Land;II)I"⟩
abbrev cX0_firstOf : ByteArray := prog_2_method_6_code
def yX0_firstOf : MethodName := ⟨RX0, "firstOf", "(LTwoWidths$Land;)I"⟩
abbrev cX0_greedyOf : ByteArray := prog_2_method_7_code
def yX0_greedyOf : MethodName := ⟨RX0, "greedyOf", "(LTwoWidths$Land;)I"⟩
abbrev cX0_neverOf : ByteArray := prog_2_method_8_code
def yX0_neverOf : MethodName := ⟨RX0, "neverOf", "(LTwoWidths$Land;)I"⟩
abbrev cX0_alwaysCostsMore : ByteArray := prog_2_method_9_code
def yX0_alwaysCostsMore : MethodName := ⟨RX0, "alwaysCostsMore", "(LTwoWidths$Land;I)Z"⟩
abbrev cX0_costOfWidth : ByteArray := prog_2_method_10_code
def yX0_costOfWidth : MethodName := ⟨RX0, "costOfWidth", "(LTwoWidths$Land;II)I"⟩
abbrev cX0_gainBy : ByteArray := prog_2_method_11_code
def yX0_gainBy : MethodName := ⟨RX0, "gainBy", "(LTwoWidths$Land;I)V"⟩
abbrev cX0_workTold : ByteArray := prog_2_method_12_code
def yX0_workTold : MethodName := ⟨RX0, "workTold", "(LTwoWidths$Land;J)I"⟩
abbrev cX0_wrongAt : ByteArray := prog_2_method_13_code
def yX0_wrongAt : MethodName := ⟨RX0, "wrongAt", "(LTwoWidths$Land;[JI)I"⟩
abbrev cX0_costOfPlan : ByteArray := prog_2_method_14_code
def yX0_costOfPlan : MethodName := ⟨RX0, "costOfPlan", "(LTwoWidths$Land;[JI)I"⟩
abbrev cX0_costOfYear : ByteArray := prog_2_method_15_code
def yX0_costOfYear : MethodName := ⟨RX0, "costOfYear", "(LTwoWidths$Land;I)I"⟩
def RX1 : String := "TwoWidths$Land"
def TX1 : u_T := fun k => match k with
  | 0 => ("TwoWidths$Land", "lineCount", "I", false)
  | 1 => ("TwoWidths$Land", "goodsCount", "I", false)
  | 2 => ("TwoWidths$Land", "workCount", "I", false)
  | 3 => ("TwoWidths$Land", "years", "I", false)
  | 4 => ("TwoWidths$Land", "lines", "[I", true)
  | 5 => ("TwoWidths$Land", "goods", "[I", true)
  | 6 => ("TwoWidths$Land", "works", "[I", true)
  | 7 => ("TwoWidths$Land", "change", "[I", true)
  | 8 => ("TwoWidths$Land", "coin", "[I", true)
  | 9 => ("TwoWidths$Land", "knownFree", "[I", true)
  | _ => ("TwoWidths$Land", "isKnown", "Z", false)
def tyX1 : Nat → FieldType := fun k => match k with
  | 0 => .int
  | 1 => .int
  | 2 => .int
  | 3 => .int
  | 4 => .array .int
  | 5 => .array .int
  | 6 => .array .int
  | 7 => .array .int
  | 8 => .array .int
  | 9 => .array .int
  | _ => .boolean
abbrev wsX10 : List Cond := u_ws RX1 TX1 11
theorem nmX1 : ∀ a, a < 11 → ∀ b, b < 11 → a ≠ b → (TX1 a).2.1 ≠ (TX1 b).2.1 := by decide +kernel
theorem tyX1_ok : ∀ k, k < 11 → parseFieldDescriptor (TX1 k).2.2.1 = some (tyX1 k) := by decide +kernel
abbrev cX1_init : ByteArray := prog_3_method_1_code
def yX1_init : MethodName := ⟨RX1, "<init>", "()V"⟩
abbrev cX1_take : ByteArray := prog_3_method_2_code
def yX1_take : MethodName := ⟨RX1, "take", "(LTwoWidths$Land;)V"⟩
abbrev cX1_hasLine : ByteArray := prog_3_method_3_code
def yX1_hasLine : MethodName := ⟨RX1, "hasLine", "(I)Z"⟩
abbrev cX1_hasGoods : ByteArray := prog_3_method_4_code
def yX1_hasGoods : MethodName := ⟨RX1, "hasGoods", "(I)Z"⟩
abbrev cX1_hasWork : ByteArray := prog_3_method_5_code
def yX1_hasWork : MethodName := ⟨RX1, "hasWork", "(I)Z"⟩
abbrev cX1_ofLine : ByteArray := prog_3_method_6_code
def yX1_ofLine : MethodName := ⟨RX1, "ofLine", "(II)I"⟩
abbrev cX1_ofGoods : ByteArray := prog_3_method_7_code
def yX1_ofGoods : MethodName := ⟨RX1, "ofGoods", "(II)I"⟩
abbrev cX1_ofWork : ByteArray := prog_3_method_8_code
def yX1_ofWork : MethodName := ⟨RX1, "ofWork", "(II)I"⟩
abbrev cX1_isDone : ByteArray := prog_3_method_9_code
def yX1_isDone : MethodName := ⟨RX1, "isDone", "(I)Z"⟩
abbrev cX1_doneWorks : ByteArray := prog_3_method_10_code
def yX1_doneWorks : MethodName := ⟨RX1, "doneWorks", "()I"⟩
abbrev cX1_linesThere : ByteArray := prog_3_method_11_code
def yX1_linesThere : MethodName := ⟨RX1, "linesThere", "()I"⟩
abbrev cX1_addLine : ByteArray := prog_3_method_12_code
def yX1_addLine : MethodName := ⟨RX1, "addLine", "(IIIIII)V"⟩
abbrev cX1_addGoods : ByteArray := prog_3_method_13_code
def yX1_addGoods : MethodName := ⟨RX1, "addGoods", "(III)V"⟩
abbrev cX1_addWork : ByteArray := prog_3_method_14_code
def yX1_addWork : MethodName := ⟨RX1, "addWork", "(IIII)V"⟩
abbrev cX1_putChange : ByteArray := prog_3_method_15_code
def yX1_putChange : MethodName := ⟨RX1, "putChange", "(II)V"⟩
abbrev cX1_putCoin : ByteArray := prog_3_method_16_code
def yX1_putCoin : MethodName := ⟨RX1, "putCoin", "(II)V"⟩
abbrev cX1_putWashed : ByteArray := prog_3_method_17_code
def yX1_putWashed : MethodName := ⟨RX1, "putWashed", "(II)V"⟩
abbrev cX1_putWidths : ByteArray := prog_3_method_18_code
def yX1_putWidths : MethodName := ⟨RX1, "putWidths", "(II)V"⟩
abbrev cX1_greatestA : ByteArray := prog_3_method_19_code
def yX1_greatestA : MethodName := ⟨RX1, "greatestA", "(I)I"⟩
abbrev cX1_greatestB : ByteArray := prog_3_method_20_code
def yX1_greatestB : MethodName := ⟨RX1, "greatestB", "(I)I"⟩
abbrev cX1_allowsWork : ByteArray := prog_3_method_21_code
def yX1_allowsWork : MethodName := ⟨RX1, "allowsWork", "(III)Z"⟩
abbrev cX1_perform : ByteArray := prog_3_method_22_code
def yX1_perform : MethodName := ⟨RX1, "perform", "(I)V"⟩
abbrev cX1_performForGood : ByteArray := prog_3_method_23_code
def yX1_performForGood : MethodName := ⟨RX1, "performForGood", "(I)V"⟩
abbrev cX1_freeKnown : ByteArray := prog_3_method_24_code
def yX1_freeKnown : MethodName := ⟨RX1, "freeKnown", "(I)I"⟩
abbrev cX1_keepFree : ByteArray := prog_3_method_25_code
def yX1_keepFree : MethodName := ⟨RX1, "keepFree", "(II)V"⟩
def RX2 : String := "TwoWidths$Shelves"
def TX2 : u_T := fun k => match k with
  | 0 => ("TwoWidths$Shelves", "elements", "[[J", true)
  | 1 => ("TwoWidths$Shelves", "held", "[I", true)
  | _ => ("TwoWidths$Shelves", "sizes", "[I", true)
def tyX2 : Nat → FieldType := fun k => match k with
  | 0 => .array (.array .long)
  | 1 => .array .int
  | _ => .array .int
abbrev wsX20 : List Cond := u_ws RX2 TX2 3
theorem nmX2 : ∀ a, a < 3 → ∀ b, b < 3 → a ≠ b → (TX2 a).2.1 ≠ (TX2 b).2.1 := by decide +kernel
theorem tyX2_ok : ∀ k, k < 3 → parseFieldDescriptor (TX2 k).2.2.1 = some (tyX2 k) := by decide +kernel
abbrev cX2_init : ByteArray := prog_4_method_1_code
def yX2_init : MethodName := ⟨RX2, "<init>", "()V"⟩
abbrev cX2_has : ByteArray := prog_4_method_2_code
def yX2_has : MethodName := ⟨RX2, "has", "(I)Z"⟩
abbrev cX2_hasRow : ByteArray := prog_4_method_3_code
def yX2_hasRow : MethodName := ⟨RX2, "hasRow", "(I)Z"⟩
abbrev cX2_hasWork : ByteArray := prog_4_method_4_code
def yX2_hasWork : MethodName := ⟨RX2, "hasWork", "(I)Z"⟩
abbrev cX2_differ : ByteArray := prog_4_method_5_code
def yX2_differ : MethodName := ⟨RX2, "differ", "(II)Z"⟩
abbrev cX2_workIn : ByteArray := prog_4_method_6_code
def yX2_workIn : MethodName := ⟨RX2, "workIn", "(I)I"⟩
abbrev cX2_putRow : ByteArray := prog_4_method_7_code
def yX2_putRow : MethodName := ⟨RX2, "putRow", "(III)V"⟩
abbrev cX2_put : ByteArray := prog_4_method_8_code
def yX2_put : MethodName := ⟨RX2, "put", "(IIJ)V"⟩
abbrev cX2_fitted : ByteArray := prog_4_method_9_code
def yX2_fitted : MethodName := ⟨RX2, "fitted", "(IJ)J"⟩
abbrev cX2_dropWorksFrom : ByteArray := prog_4_method_10_code
def yX2_dropWorksFrom : MethodName := ⟨RX2, "dropWorksFrom", "(I)V"⟩
abbrev cX2_inUse : ByteArray := prog_4_method_11_code
def yX2_inUse : MethodName := ⟨RX2, "inUse", "()I"⟩
def RX3 : String := "TwoWidths$Tape"
def TX3 : u_T := fun k => match k with
  | 0 => ("TwoWidths$Tape", "bytes", "[I", true)
  | 1 => ("TwoWidths$Tape", "size", "I", false)
  | 2 => ("TwoWidths$Tape", "start", "I", false)
  | 3 => ("TwoWidths$Tape", "end", "I", false)
  | 4 => ("TwoWidths$Tape", "token", "I", false)
  | _ => ("TwoWidths$Tape", "value", "I", false)
def tyX3 : Nat → FieldType := fun k => match k with
  | 0 => .array .int
  | 1 => .int
  | 2 => .int
  | 3 => .int
  | 4 => .int
  | _ => .int
abbrev wsX30 : List Cond := u_ws RX3 TX3 6
theorem nmX3 : ∀ a, a < 6 → ∀ b, b < 6 → a ≠ b → (TX3 a).2.1 ≠ (TX3 b).2.1 := by decide +kernel
theorem tyX3_ok : ∀ k, k < 6 → parseFieldDescriptor (TX3 k).2.2.1 = some (tyX3 k) := by decide +kernel
abbrev cX3_init : ByteArray := prog_5_method_1_code
def yX3_init : MethodName := ⟨RX3, "<init>", "()V"⟩
abbrev cX3_put : ByteArray := prog_5_method_2_code
def yX3_put : MethodName := ⟨RX3, "put", "(I)V"⟩
abbrev cX3_readInto : ByteArray := prog_5_method_3_code
def yX3_readInto : MethodName := ⟨RX3, "readInto", "(LTwoWidths$Land;)I"⟩
abbrev cX3_readStatement : ByteArray := prog_5_method_4_code
def yX3_readStatement : MethodName := ⟨RX3, "readStatement", "(LTwoWidths$Land;)Z"⟩
abbrev cX3_readLine : ByteArray := prog_5_method_5_code
def yX3_readLine : MethodName := ⟨RX3, "readLine", "(LTwoWidths$Land;)Z"⟩
abbrev cX3_readGoods : ByteArray := prog_5_method_6_code
def yX3_readGoods : MethodName := ⟨RX3, "readGoods", "(LTwoWidths$Land;)Z"⟩
abbrev cX3_readWork : ByteArray := prog_5_method_7_code
def yX3_readWork : MethodName := ⟨RX3, "readWork", "(LTwoWidths$Land;)Z"⟩
abbrev cX3_readChange : ByteArray := prog_5_method_8_code
def yX3_readChange : MethodName := ⟨RX3, "readChange", "(LTwoWidths$Land;)Z"⟩
abbrev cX3_readCoin : ByteArray := prog_5_method_9_code
def yX3_readCoin : MethodName := ⟨RX3, "readCoin", "(LTwoWidths$Land;)Z"⟩
abbrev cX3_readYears : ByteArray := prog_5_method_10_code
def yX3_readYears : MethodName := ⟨RX3, "readYears", "(LTwoWidths$Land;)Z"⟩
abbrev cX3_number : ByteArray := prog_5_method_11_code
def yX3_number : MethodName := ⟨RX3, "number", "(II)I"⟩
abbrev cX3_numberUnlike : ByteArray := prog_5_method_12_code
def yX3_numberUnlike : MethodName := ⟨RX3, "numberUnlike", "(II)I"⟩
abbrev cX3_perhaps : ByteArray := prog_5_method_13_code
def yX3_perhaps : MethodName := ⟨RX3, "perhaps", "(Ljava/lang/String;III)I"⟩
abbrev cX3_isWord : ByteArray := prog_5_method_14_code
def yX3_isWord : MethodName := ⟨RX3, "isWord", "(Ljava/lang/String;)Z"⟩
abbrev cX3_next : ByteArray := prog_5_method_15_code
def yX3_next : MethodName := ⟨RX3, "next", "()V"⟩
abbrev cX3_tokenAt : ByteArray := prog_5_method_16_code
def yX3_tokenAt : MethodName := ⟨RX3, "tokenAt", "(I)I"⟩
abbrev cX3_valueHere : ByteArray := prog_5_method_17_code
def yX3_valueHere : MethodName := ⟨RX3, "valueHere", "()I"⟩
def RX4 : String := "TwoWidths$Traffic"
def TX4 : u_T := fun k => match k with
  | 0 => ("TwoWidths$Traffic", "ways", "LTwoWidths$Ways;", true)
  | 1 => ("TwoWidths$Traffic", "left", "[I", true)
  | 2 => ("TwoWidths$Traffic", "earned", "[I", true)
  | 3 => ("TwoWidths$Traffic", "turnCost", "I", false)
  | _ => ("TwoWidths$Traffic", "turnWayless", "I", false)
def tyX4 : Nat → FieldType := fun k => match k with
  | 0 => .object "TwoWidths$Ways"
  | 1 => .array .int
  | 2 => .array .int
  | 3 => .int
  | _ => .int
abbrev wsX40 : List Cond := u_ws RX4 TX4 5
theorem nmX4 : ∀ a, a < 5 → ∀ b, b < 5 → a ≠ b → (TX4 a).2.1 ≠ (TX4 b).2.1 := by decide +kernel
theorem tyX4_ok : ∀ k, k < 5 → parseFieldDescriptor (TX4 k).2.2.1 = some (tyX4 k) := by decide +kernel
abbrev cX4_init : ByteArray := prog_6_method_1_code
def yX4_init : MethodName := ⟨RX4, "<init>", "()V"⟩
abbrev cX4_costBetween : ByteArray := prog_6_method_2_code
def yX4_costBetween : MethodName := ⟨RX4, "costBetween", "(LTwoWidths$Land;II)I"⟩
abbrev cX4_freeBy : ByteArray := prog_6_method_3_code
def yX4_freeBy : MethodName := ⟨RX4, "freeBy", "(LTwoWidths$Land;I)I"⟩
abbrev cX4_sendInTurn : ByteArray := prog_6_method_4_code
def yX4_sendInTurn : MethodName := ⟨RX4, "sendInTurn", "(LTwoWidths$Land;)V"⟩
abbrev cX4_linesBearing : ByteArray := prog_6_method_5_code
def yX4_linesBearing : MethodName := ⟨RX4, "linesBearing", "(LTwoWidths$Land;I)I"⟩
abbrev cX4_load : ByteArray := prog_6_method_6_code
def yX4_load : MethodName := ⟨RX4, "load", "(I)V"⟩
abbrev cX4_earn : ByteArray := prog_6_method_7_code
def yX4_earn : MethodName := ⟨RX4, "earn", "(LTwoWidths$Land;[I)V"⟩
abbrev cX4_payOwners : ByteArray := prog_6_method_8_code
def yX4_payOwners : MethodName := ⟨RX4, "payOwners", "(LTwoWidths$Land;I[I)V"⟩
abbrev cX4_tonsAt : ByteArray := prog_6_method_9_code
def yX4_tonsAt : MethodName := ⟨RX4, "tonsAt", "(LTwoWidths$Land;IZ)I"⟩
abbrev cX4_changesAt : ByteArray := prog_6_method_10_code
def yX4_changesAt : MethodName := ⟨RX4, "changesAt", "(I)I"⟩
abbrev cX4_stepsTo : ByteArray := prog_6_method_11_code
def yX4_stepsTo : MethodName := ⟨RX4, "stepsTo", "(I)I"⟩
abbrev cX4_dearestLoss : ByteArray := prog_6_method_12_code
def yX4_dearestLoss : MethodName := ⟨RX4, "dearestLoss", "(LTwoWidths$Land;)I"⟩
def RX5 : String := "TwoWidths$Ways"
def TX5 : u_T := fun k => match k with
  | 0 => ("TwoWidths$Ways", "edgeA", "[I", true)
  | 1 => ("TwoWidths$Ways", "edgeB", "[I", true)
  | 2 => ("TwoWidths$Ways", "edgeCost", "[I", true)
  | 3 => ("TwoWidths$Ways", "edgeLine", "[I", true)
  | 4 => ("TwoWidths$Ways", "change", "[I", true)
  | 5 => ("TwoWidths$Ways", "away", "[I", true)
  | 6 => ("TwoWidths$Ways", "steps", "[I", true)
  | 7 => ("TwoWidths$Ways", "nodes", "[I", true)
  | 8 => ("TwoWidths$Ways", "stepCount", "I", false)
  | 9 => ("TwoWidths$Ways", "open", "[I", true)
  | 10 => ("TwoWidths$Ways", "openCount", "I", false)
  | 11 => ("TwoWidths$Ways", "seen", "J", false)
  | 12 => ("TwoWidths$Ways", "edgeCount", "I", false)
  | _ => ("TwoWidths$Ways", "aim", "I", false)
def tyX5 : Nat → FieldType := fun k => match k with
  | 0 => .array .int
  | 1 => .array .int
  | 2 => .array .int
  | 3 => .array .int
  | 4 => .array .int
  | 5 => .array .int
  | 6 => .array .int
  | 7 => .array .int
  | 8 => .int
  | 9 => .array .int
  | 10 => .int
  | 11 => .long
  | 12 => .int
  | _ => .int
abbrev wsX50 : List Cond := u_ws RX5 TX5 14
theorem nmX5 : ∀ a, a < 14 → ∀ b, b < 14 → a ≠ b → (TX5 a).2.1 ≠ (TX5 b).2.1 := by decide +kernel
theorem tyX5_ok : ∀ k, k < 14 → parseFieldDescriptor (TX5 k).2.2.1 = some (tyX5 k) := by decide +kernel
abbrev cX5_init : ByteArray := prog_7_method_1_code
def yX5_init : MethodName := ⟨RX5, "<init>", "()V"⟩
abbrev cX5_prepare : ByteArray := prog_7_method_2_code
def yX5_prepare : MethodName := ⟨RX5, "prepare", "(LTwoWidths$Land;I)V"⟩
abbrev cX5_aimAt : ByteArray := prog_7_method_3_code
def yX5_aimAt : MethodName := ⟨RX5, "aimAt", "(I)V"⟩
abbrev cX5_nearByLines : ByteArray := prog_7_method_4_code
def yX5_nearByLines : MethodName := ⟨RX5, "nearByLines", "()Z"⟩
abbrev cX5_nearByChanges : ByteArray := prog_7_method_5_code
def yX5_nearByChanges : MethodName := ⟨RX5, "nearByChanges", "()V"⟩
abbrev cX5_costFrom : ByteArray := prog_7_method_6_code
def yX5_costFrom : MethodName := ⟨RX5, "costFrom", "(I)I"⟩
abbrev cX5_trace : ByteArray := prog_7_method_7_code
def yX5_trace : MethodName := ⟨RX5, "trace", "(II)Z"⟩
abbrev cX5_note : ByteArray := prog_7_method_8_code
def yX5_note : MethodName := ⟨RX5, "note", "(II)V"⟩
abbrev cX5_stepOn : ByteArray := prog_7_method_9_code
def yX5_stepOn : MethodName := ⟨RX5, "stepOn", "(IJ)I"⟩
abbrev cX5_otherEnd : ByteArray := prog_7_method_10_code
def yX5_otherEnd : MethodName := ⟨RX5, "otherEnd", "(II)I"⟩
abbrev cX5_leads : ByteArray := prog_7_method_11_code
def yX5_leads : MethodName := ⟨RX5, "leads", "(IIIJ)Z"⟩
abbrev cX5_arrives : ByteArray := prog_7_method_12_code
def yX5_arrives : MethodName := ⟨RX5, "arrives", "(IJ)Z"⟩
abbrev cX5_openIfCheapest : ByteArray := prog_7_method_13_code
def yX5_openIfCheapest : MethodName := ⟨RX5, "openIfCheapest", "(III)V"⟩
abbrev cX5_isChange : ByteArray := prog_7_method_14_code
def yX5_isChange : MethodName := ⟨RX5, "isChange", "(I)Z"⟩
abbrev cX5_lineOn : ByteArray := prog_7_method_15_code
def yX5_lineOn : MethodName := ⟨RX5, "lineOn", "(I)I"⟩
abbrev cX5_placeAfter : ByteArray := prog_7_method_16_code
def yX5_placeAfter : MethodName := ⟨RX5, "placeAfter", "(I)I"⟩
abbrev cX5_widthAfter : ByteArray := prog_7_method_17_code
def yX5_widthAfter : MethodName := ⟨RX5, "widthAfter", "(I)I"⟩
abbrev cX5_changesOnWay : ByteArray := prog_7_method_18_code
def yX5_changesOnWay : MethodName := ⟨RX5, "changesOnWay", "()I"⟩
abbrev cX5_linesOnWay : ByteArray := prog_7_method_19_code
def yX5_linesOnWay : MethodName := ⟨RX5, "linesOnWay", "()I"⟩
abbrev cX5_lineAt : ByteArray := prog_7_method_20_code
def yX5_lineAt : MethodName := ⟨RX5, "lineAt", "(I)I"⟩
def RX6 : String := "TwoWidths"
def TX6 : u_T := fun k => match k with
  | 0 => ("TwoWidths", "state", "LTwoWidths$Land;", true)
  | 1 => ("TwoWidths", "kept", "LTwoWidths$Land;", true)
  | 2 => ("TwoWidths", "tape", "LTwoWidths$Tape;", true)
  | 3 => ("TwoWidths", "shelves", "LTwoWidths$Shelves;", true)
  | 4 => ("TwoWidths", "choice", "LTwoWidths$Choice;", true)
  | 5 => ("TwoWidths", "traffic", "LTwoWidths$Traffic;", true)
  | 6 => ("TwoWidths", "refused", "[I", true)
  | 7 => ("TwoWidths", "isKept", "Z", false)
  | 8 => ("TwoWidths", "gone", "I", false)
  | _ => ("TwoWidths", "spent", "I", false)
def tyX6 : Nat → FieldType := fun k => match k with
  | 0 => .object "TwoWidths$Land"
  | 1 => .object "TwoWidths$Land"
  | 2 => .object "TwoWidths$Tape"
  | 3 => .object "TwoWidths$Shelves"
  | 4 => .object "TwoWidths$Choice"
  | 5 => .object "TwoWidths$Traffic"
  | 6 => .array .int
  | 7 => .boolean
  | 8 => .int
  | _ => .int
abbrev wsX60 : List Cond := u_ws RX6 TX6 10
theorem nmX6 : ∀ a, a < 10 → ∀ b, b < 10 → a ≠ b → (TX6 a).2.1 ≠ (TX6 b).2.1 := by decide +kernel
theorem tyX6_ok : ∀ k, k < 10 → parseFieldDescriptor (TX6 k).2.2.1 = some (tyX6 k) := by decide +kernel
abbrev cX6_init : ByteArray := prog_1_method_1_code
def yX6_init : MethodName := ⟨RX6, "<init>", "()V"⟩
abbrev cX6_row : ByteArray := prog_1_method_2_code
def yX6_row : MethodName := ⟨RX6, "row", "(III)I"⟩
abbrev cX6_set : ByteArray := prog_1_method_3_code
def yX6_set : MethodName := ⟨RX6, "set", "(IIJ)I"⟩
abbrev cX6_copy : ByteArray := prog_1_method_4_code
def yX6_copy : MethodName := ⟨RX6, "copy", "(IIIII)I"⟩
abbrev cX6_element : ByteArray := prog_1_method_5_code
def yX6_element : MethodName := ⟨RX6, "element", "(II)J"⟩
abbrev cX6_holds : ByteArray := prog_1_method_6_code
def yX6_holds : MethodName := ⟨RX6, "holds", "(I)I"⟩
abbrev cX6_show : ByteArray := prog_1_method_7_code
def yX6_show : MethodName := ⟨RX6, "show", "(II)I"⟩
abbrev cX6_says : ByteArray := prog_1_method_8_code
def yX6_says : MethodName := ⟨RX6, "says", "(II)I"⟩
abbrev cX6_line : ByteArray := prog_1_method_9_code
def yX6_line : MethodName := ⟨RX6, "line", "(IIIIII)I"⟩
abbrev cX6_goods : ByteArray := prog_1_method_10_code
def yX6_goods : MethodName := ⟨RX6, "goods", "(III)I"⟩
abbrev cX6_work : ByteArray := prog_1_method_11_code
def yX6_work : MethodName := ⟨RX6, "work", "(IIII)I"⟩
abbrev cX6_change : ByteArray := prog_1_method_12_code
def yX6_change : MethodName := ⟨RX6, "change", "(II)I"⟩
abbrev cX6_coin : ByteArray := prog_1_method_13_code
def yX6_coin : MethodName := ⟨RX6, "coin", "(II)I"⟩
abbrev cX6_years : ByteArray := prog_1_method_14_code
def yX6_years : MethodName := ⟨RX6, "years", "(I)I"⟩
abbrev cX6_washed : ByteArray := prog_1_method_15_code
def yX6_washed : MethodName := ⟨RX6, "washed", "(IZ)I"⟩
abbrev cX6_feed : ByteArray := prog_1_method_16_code
def yX6_feed : MethodName := ⟨RX6, "feed", "(II)I"⟩
abbrev cX6_wipe : ByteArray := prog_1_method_17_code
def yX6_wipe : MethodName := ⟨RX6, "wipe", "()I"⟩
abbrev cX6_land : ByteArray := prog_1_method_18_code
def yX6_land : MethodName := ⟨RX6, "land", "()I"⟩
abbrev cX6_lineOf : ByteArray := prog_1_method_19_code
def yX6_lineOf : MethodName := ⟨RX6, "lineOf", "(II)I"⟩
abbrev cX6_goodsOf : ByteArray := prog_1_method_20_code
def yX6_goodsOf : MethodName := ⟨RX6, "goodsOf", "(II)I"⟩
abbrev cX6_workOf : ByteArray := prog_1_method_21_code
def yX6_workOf : MethodName := ⟨RX6, "workOf", "(II)I"⟩
abbrev cX6_cheapest : ByteArray := prog_1_method_22_code
def yX6_cheapest : MethodName := ⟨RX6, "cheapest", "(II)I"⟩
abbrev cX6_way : ByteArray := prog_1_method_23_code
def yX6_way : MethodName := ⟨RX6, "way", "(II)I"⟩
abbrev cX6_free : ByteArray := prog_1_method_24_code
def yX6_free : MethodName := ⟨RX6, "free", "()I"⟩
abbrev cX6_turn : ByteArray := prog_1_method_25_code
def yX6_turn : MethodName := ⟨RX6, "turn", "(I)I"⟩
abbrev cX6_total : ByteArray := prog_1_method_26_code
def yX6_total : MethodName := ⟨RX6, "total", "(I)I"⟩
abbrev cX6_best : ByteArray := prog_1_method_27_code
def yX6_best : MethodName := ⟨RX6, "best", "()I"⟩
abbrev cX6_worth : ByteArray := prog_1_method_28_code
def yX6_worth : MethodName := ⟨RX6, "worth", "(I)I"⟩
abbrev cX6_first : ByteArray := prog_1_method_29_code
def yX6_first : MethodName := ⟨RX6, "first", "()I"⟩
abbrev cX6_greedy : ByteArray := prog_1_method_30_code
def yX6_greedy : MethodName := ⟨RX6, "greedy", "()I"⟩
abbrev cX6_gap : ByteArray := prog_1_method_31_code
def yX6_gap : MethodName := ⟨RX6, "gap", "()I"⟩
abbrev cX6_edge : ByteArray := prog_1_method_32_code
def yX6_edge : MethodName := ⟨RX6, "edge", "(I)I"⟩
abbrev cX6_never : ByteArray := prog_1_method_33_code
def yX6_never : MethodName := ⟨RX6, "never", "()I"⟩
abbrev cX6_one : ByteArray := prog_1_method_34_code
def yX6_one : MethodName := ⟨RX6, "one", "(II)I"⟩
abbrev cX6_which : ByteArray := prog_1_method_35_code
def yX6_which : MethodName := ⟨RX6, "which", "(I)I"⟩
abbrev cX6_earns : ByteArray := prog_1_method_36_code
def yX6_earns : MethodName := ⟨RX6, "earns", "(I)I"⟩
abbrev cX6_gains : ByteArray := prog_1_method_37_code
def yX6_gains : MethodName := ⟨RX6, "gains", "(II)I"⟩
abbrev cX6_losers : ByteArray := prog_1_method_38_code
def yX6_losers : MethodName := ⟨RX6, "losers", "(I)I"⟩
abbrev cX6_port : ByteArray := prog_1_method_39_code
def yX6_port : MethodName := ⟨RX6, "port", "(IZ)I"⟩
abbrev cX6_hangs : ByteArray := prog_1_method_40_code
def yX6_hangs : MethodName := ⟨RX6, "hangs", "()I"⟩
abbrev cX6_plan : ByteArray := prog_1_method_41_code
def yX6_plan : MethodName := ⟨RX6, "plan", "(II)I"⟩
abbrev cX6_judge : ByteArray := prog_1_method_42_code
def yX6_judge : MethodName := ⟨RX6, "judge", "(II)I"⟩
abbrev cX6_year : ByteArray := prog_1_method_43_code
def yX6_year : MethodName := ⟨RX6, "year", "(I)I"⟩
abbrev cX6_run : ByteArray := prog_1_method_44_code
def yX6_run : MethodName := ⟨RX6, "run", "(I)I"⟩
abbrev cX6_image : ByteArray := prog_1_method_45_code
def yX6_image : MethodName := ⟨RX6, "image", "()I"⟩
abbrev cX6_back : ByteArray := prog_1_method_46_code
def yX6_back : MethodName := ⟨RX6, "back", "()I"⟩
abbrev cX6_status : ByteArray := prog_1_method_47_code
def yX6_status : MethodName := ⟨RX6, "status", "(I)I"⟩
abbrev cX6_refuse : ByteArray := prog_1_method_48_code
def yX6_refuse : MethodName := ⟨RX6, "refuse", "(I)I"⟩
abbrev cX6_noRow : ByteArray := prog_1_method_49_code
def yX6_noRow : MethodName := ⟨RX6, "noRow", "(I)I"⟩
abbrev cX6_noPlan : ByteArray := prog_1_method_50_code
def yX6_noPlan : MethodName := ⟨RX6, "noPlan", "(II)I"⟩
abbrev cX6_noChoice : ByteArray := prog_1_method_51_code
def yX6_noChoice : MethodName := ⟨RX6, "noChoice", "(I)I"⟩
abbrev cX6_passYear : ByteArray := prog_1_method_52_code
def yX6_passYear : MethodName := ⟨RX6, "passYear", "(I)I"⟩
abbrev cX6_within : ByteArray := prog_1_method_53_code
def yX6_within : MethodName := ⟨RX6, "within", "(III)Z"⟩
abbrev cX6_isPlace : ByteArray := prog_1_method_54_code
def yX6_isPlace : MethodName := ⟨RX6, "isPlace", "(I)Z"⟩
abbrev cX6_isUnder : ByteArray := prog_1_method_55_code
def yX6_isUnder : MethodName := ⟨RX6, "isUnder", "(II)Z"⟩
def RX7 : String := "TwoWidthsModel"
def TX7 : u_T := fun k => match k with
  | 0 => ("TwoWidthsModel", "shelf", "[I", true)
  | 1 => ("TwoWidthsModel", "rowSort", "[I", true)
  | 2 => ("TwoWidthsModel", "rowSize", "[I", true)
  | 3 => ("TwoWidthsModel", "rows", "[[J", true)
  | 4 => ("TwoWidthsModel", "moved", "[J", true)
  | 5 => ("TwoWidthsModel", "shown", "[I", true)
  | 6 => ("TwoWidthsModel", "tape", "[I", true)
  | 7 => ("TwoWidthsModel", "tapeSize", "I", false)
  | 8 => ("TwoWidthsModel", "refused", "[I", true)
  | 9 => ("TwoWidthsModel", "lines", "I", false)
  | 10 => ("TwoWidthsModel", "line", "[[I", true)
  | 11 => ("TwoWidthsModel", "changes", "[I", true)
  | 12 => ("TwoWidthsModel", "coins", "[I", true)
  | 13 => ("TwoWidthsModel", "goods", "I", false)
  | 14 => ("TwoWidthsModel", "good", "[[I", true)
  | 15 => ("TwoWidthsModel", "works", "I", false)
  | 16 => ("TwoWidthsModel", "work", "[[I", true)
  | 17 => ("TwoWidthsModel", "years", "I", false)
  | 18 => ("TwoWidthsModel", "gone", "I", false)
  | 19 => ("TwoWidthsModel", "spent", "I", false)
  | 20 => ("TwoWidthsModel", "kept", "LTwoWidthsModel;", false)
  | 21 => ("TwoWidthsModel", "tried", "LTwoWidthsModel;", false)
  | 22 => ("TwoWidthsModel", "chosen", "LTwoWidthsModel;", false)
  | 23 => ("TwoWidthsModel", "at", "I", false)
  | 24 => ("TwoWidthsModel", "token", "I", false)
  | 25 => ("TwoWidthsModel", "from", "I", false)
  | 26 => ("TwoWidthsModel", "figures", "J", false)
  | 27 => ("TwoWidthsModel", "fault", "I", false)
  | 28 => ("TwoWidthsModel", "numbers", "[I", true)
  | 29 => ("TwoWidthsModel", "statements", "I", false)
  | 30 => ("TwoWidthsModel", "left", "[I", true)
  | 31 => ("TwoWidthsModel", "far", "[I", true)
  | 32 => ("TwoWidthsModel", "tons", "I", false)
  | 33 => ("TwoWidthsModel", "way", "[I", true)
  | 34 => ("TwoWidthsModel", "steps", "I", false)
  | 35 => ("TwoWidthsModel", "met", "J", false)
  | 36 => ("TwoWidthsModel", "queue", "[I", true)
  | _ => ("TwoWidthsModel", "totals", "[I", true)
def tyX7 : Nat → FieldType := fun k => match k with
  | 0 => .array .int
  | 1 => .array .int
  | 2 => .array .int
  | 3 => .array (.array .long)
  | 4 => .array .long
  | 5 => .array .int
  | 6 => .array .int
  | 7 => .int
  | 8 => .array .int
  | 9 => .int
  | 10 => .array (.array .int)
  | 11 => .array .int
  | 12 => .array .int
  | 13 => .int
  | 14 => .array (.array .int)
  | 15 => .int
  | 16 => .array (.array .int)
  | 17 => .int
  | 18 => .int
  | 19 => .int
  | 20 => .object "TwoWidthsModel"
  | 21 => .object "TwoWidthsModel"
  | 22 => .object "TwoWidthsModel"
  | 23 => .int
  | 24 => .int
  | 25 => .int
  | 26 => .long
  | 27 => .int
  | 28 => .array .int
  | 29 => .int
  | 30 => .array .int
  | 31 => .array .int
  | 32 => .int
  | 33 => .array .int
  | 34 => .int
  | 35 => .long
  | 36 => .array .int
  | _ => .array .int
abbrev wsX70 : List Cond := u_ws RX7 TX7 38
theorem nmX7 : ∀ a, a < 38 → ∀ b, b < 38 → a ≠ b → (TX7 a).2.1 ≠ (TX7 b).2.1 := by decide +kernel
theorem tyX7_ok : ∀ k, k < 38 → parseFieldDescriptor (TX7 k).2.2.1 = some (tyX7 k) := by decide +kernel
abbrev cX7_init : ByteArray := prog_9_method_1_code
def yX7_init : MethodName := ⟨RX7, "<init>", "()V"⟩
abbrev cX7_refuse : ByteArray := prog_9_method_2_code
def yX7_refuse : MethodName := ⟨RX7, "refuse", "(I)I"⟩
abbrev cX7_in : ByteArray := prog_9_method_3_code
def yX7_in : MethodName := ⟨RX7, "in", "(JJJ)Z"⟩
abbrev cX7_isPlace : ByteArray := prog_9_method_4_code
def yX7_isPlace : MethodName := ⟨RX7, "isPlace", "(I)Z"⟩
abbrev cX7_isLine : ByteArray := prog_9_method_5_code
def yX7_isLine : MethodName := ⟨RX7, "isLine", "(I)Z"⟩
abbrev cX7_isWork : ByteArray := prog_9_method_6_code
def yX7_isWork : MethodName := ⟨RX7, "isWork", "(I)Z"⟩
abbrev cX7_row : ByteArray := prog_9_method_7_code
def yX7_row : MethodName := ⟨RX7, "row", "(III)I"⟩
abbrev cX7_fit : ByteArray := prog_9_method_8_code
def yX7_fit : MethodName := ⟨RX7, "fit", "(IJ)J"⟩
abbrev cX7_set : ByteArray := prog_9_method_9_code
def yX7_set : MethodName := ⟨RX7, "set", "(IIJ)I"⟩
abbrev cX7_copy : ByteArray := prog_9_method_10_code
def yX7_copy : MethodName := ⟨RX7, "copy", "(IIIII)I"⟩
abbrev cX7_element : ByteArray := prog_9_method_11_code
def yX7_element : MethodName := ⟨RX7, "element", "(II)J"⟩
abbrev cX7_holds : ByteArray := prog_9_method_12_code
def yX7_holds : MethodName := ⟨RX7, "holds", "(I)I"⟩
abbrev cX7_show : ByteArray := prog_9_method_13_code
def yX7_show : MethodName := ⟨RX7, "show", "(II)I"⟩
abbrev cX7_isUnder : ByteArray := prog_9_method_14_code
def yX7_isUnder : MethodName := ⟨RX7, "isUnder", "(II)Z"⟩
abbrev cX7_says : ByteArray := prog_9_method_15_code
def yX7_says : MethodName := ⟨RX7, "says", "(II)I"⟩
abbrev cX7_newLine : ByteArray := prog_9_method_16_code
def yX7_newLine : MethodName := ⟨RX7, "newLine", "(II)V"⟩
abbrev cX7_line : ByteArray := prog_9_method_17_code
def yX7_line : MethodName := ⟨RX7, "line", "(IIIIII)I"⟩
abbrev cX7_goods : ByteArray := prog_9_method_18_code
def yX7_goods : MethodName := ⟨RX7, "goods", "(III)I"⟩
abbrev cX7_mayBeFirst : ByteArray := prog_9_method_19_code
def yX7_mayBeFirst : MethodName := ⟨RX7, "mayBeFirst", "(II)Z"⟩
abbrev cX7_mayBeSecond : ByteArray := prog_9_method_20_code
def yX7_mayBeSecond : MethodName := ⟨RX7, "mayBeSecond", "(III)Z"⟩
abbrev cX7_work : ByteArray := prog_9_method_21_code
def yX7_work : MethodName := ⟨RX7, "work", "(IIII)I"⟩
abbrev cX7_change : ByteArray := prog_9_method_22_code
def yX7_change : MethodName := ⟨RX7, "change", "(II)I"⟩
abbrev cX7_coin : ByteArray := prog_9_method_23_code
def yX7_coin : MethodName := ⟨RX7, "coin", "(II)I"⟩
abbrev cX7_years : ByteArray := prog_9_method_24_code
def yX7_years : MethodName := ⟨RX7, "years", "(I)I"⟩
abbrev cX7_washed : ByteArray := prog_9_method_25_code
def yX7_washed : MethodName := ⟨RX7, "washed", "(IZ)I"⟩
abbrev cX7_feed : ByteArray := prog_9_method_26_code
def yX7_feed : MethodName := ⟨RX7, "feed", "(II)I"⟩
abbrev cX7_wipe : ByteArray := prog_9_method_27_code
def yX7_wipe : MethodName := ⟨RX7, "wipe", "()I"⟩
abbrev cX7_isLetter : ByteArray := prog_9_method_28_code
def yX7_isLetter : MethodName := ⟨RX7, "isLetter", "(I)Z"⟩
abbrev cX7_isDigit : ByteArray := prog_9_method_29_code
def yX7_isDigit : MethodName := ⟨RX7, "isDigit", "(I)Z"⟩
abbrev cX7_look : ByteArray := prog_9_method_30_code
def yX7_look : MethodName := ⟨RX7, "look", "()V"⟩
abbrev cX7_wrong : ByteArray := prog_9_method_31_code
def yX7_wrong : MethodName := ⟨RX7, "wrong", "()Z"⟩
abbrev cX7_isWord : ByteArray := prog_9_method_32_code
def yX7_isWord : MethodName := ⟨RX7, "isWord", "(Ljava/lang/String;)Z"⟩
abbrev cX7_number : ByteArray := prog_9_method_33_code
def yX7_number : MethodName := ⟨RX7, "number", "([IIII)Z"⟩
abbrev cX7_told : ByteArray := prog_9_method_34_code
def yX7_told : MethodName := ⟨RX7, "told", "(Ljava/lang/String;[IIII)Z"⟩
abbrev cX7_perhaps : ByteArray := prog_9_method_35_code
def yX7_perhaps : MethodName := ⟨RX7, "perhaps", "(Ljava/lang/String;[IIII)Z"⟩
abbrev cX7_two : ByteArray := prog_9_method_36_code
def yX7_two : MethodName := ⟨RX7, "two", "([I)Z"⟩
abbrev cX7_statement : ByteArray := prog_9_method_37_code
def yX7_statement : MethodName := ⟨RX7, "statement", "()Z"⟩
abbrev cX7_workTold : ByteArray := prog_9_method_38_code
def yX7_workTold : MethodName := ⟨RX7, "workTold", "([I)Z"⟩
abbrev cX7_read : ByteArray := prog_9_method_39_code
def yX7_read : MethodName := ⟨RX7, "read", "()Z"⟩
abbrev cX7_land : ByteArray := prog_9_method_40_code
def yX7_land : MethodName := ⟨RX7, "land", "()I"⟩
abbrev cX7_lineOf : ByteArray := prog_9_method_41_code
def yX7_lineOf : MethodName := ⟨RX7, "lineOf", "(II)I"⟩
abbrev cX7_goodsOf : ByteArray := prog_9_method_42_code
def yX7_goodsOf : MethodName := ⟨RX7, "goodsOf", "(II)I"⟩
abbrev cX7_workOf : ByteArray := prog_9_method_43_code
def yX7_workOf : MethodName := ⟨RX7, "workOf", "(II)I"⟩
abbrev cX7_bears : ByteArray := prog_9_method_44_code
def yX7_bears : MethodName := ⟨RX7, "bears", "(II)Z"⟩
abbrev cX7_refill : ByteArray := prog_9_method_45_code
def yX7_refill : MethodName := ⟨RX7, "refill", "()V"⟩
abbrev cX7_findFar : ByteArray := prog_9_method_46_code
def yX7_findFar : MethodName := ⟨RX7, "findFar", "(II)V"⟩
abbrev cX7_least : ByteArray := prog_9_method_47_code
def yX7_least : MethodName := ⟨RX7, "least", "(I)I"⟩
abbrev cX7_stepTo : ByteArray := prog_9_method_48_code
def yX7_stepTo : MethodName := ⟨RX7, "stepTo", "(II)I"⟩
abbrev cX7_canEnd : ByteArray := prog_9_method_49_code
def yX7_canEnd : MethodName := ⟨RX7, "canEnd", "(II)Z"⟩
abbrev cX7_findWay : ByteArray := prog_9_method_50_code
def yX7_findWay : MethodName := ⟨RX7, "findWay", "(III)Z"⟩
abbrev cX7_cheapest : ByteArray := prog_9_method_51_code
def yX7_cheapest : MethodName := ⟨RX7, "cheapest", "(II)I"⟩
abbrev cX7_findGoods : ByteArray := prog_9_method_52_code
def yX7_findGoods : MethodName := ⟨RX7, "findGoods", "(I)Z"⟩
abbrev cX7_way : ByteArray := prog_9_method_53_code
def yX7_way : MethodName := ⟨RX7, "way", "(II)I"⟩
abbrev cX7_free : ByteArray := prog_9_method_54_code
def yX7_free : MethodName := ⟨RX7, "free", "()I"⟩
abbrev cX7_turn : ByteArray := prog_9_method_55_code
def yX7_turn : MethodName := ⟨RX7, "turn", "(I)I"⟩
abbrev cX7_earned : ByteArray := prog_9_method_56_code
def yX7_earned : MethodName := ⟨RX7, "earned", "(I)I"⟩
abbrev cX7_earns : ByteArray := prog_9_method_57_code
def yX7_earns : MethodName := ⟨RX7, "earns", "(I)I"⟩
abbrev cX7_port : ByteArray := prog_9_method_58_code
def yX7_port : MethodName := ⟨RX7, "port", "(IZ)I"⟩
abbrev cX7_hangs : ByteArray := prog_9_method_59_code
def yX7_hangs : MethodName := ⟨RX7, "hangs", "()I"⟩
abbrev cX7_fresh : ByteArray := prog_9_method_60_code
def yX7_fresh : MethodName := ⟨RX7, "fresh", "()LTwoWidthsModel;"⟩
abbrev cX7_does : ByteArray := prog_9_method_61_code
def yX7_does : MethodName := ⟨RX7, "does", "(I)V"⟩
abbrev cX7_totalOf : ByteArray := prog_9_method_62_code
def yX7_totalOf : MethodName := ⟨RX7, "totalOf", "(I)I"⟩
abbrev cX7_total : ByteArray := prog_9_method_63_code
def yX7_total : MethodName := ⟨RX7, "total", "(I)I"⟩
abbrev cX7_best : ByteArray := prog_9_method_64_code
def yX7_best : MethodName := ⟨RX7, "best", "()I"⟩
abbrev cX7_saves : ByteArray := prog_9_method_65_code
def yX7_saves : MethodName := ⟨RX7, "saves", "(I)I"⟩
abbrev cX7_worthOf : ByteArray := prog_9_method_66_code
def yX7_worthOf : MethodName := ⟨RX7, "worthOf", "(I)I"⟩
abbrev cX7_worth : ByteArray := prog_9_method_67_code
def yX7_worth : MethodName := ⟨RX7, "worth", "(I)I"⟩
abbrev cX7_first : ByteArray := prog_9_method_68_code
def yX7_first : MethodName := ⟨RX7, "first", "()I"⟩
abbrev cX7_greedy : ByteArray := prog_9_method_69_code
def yX7_greedy : MethodName := ⟨RX7, "greedy", "()I"⟩
abbrev cX7_gap : ByteArray := prog_9_method_70_code
def yX7_gap : MethodName := ⟨RX7, "gap", "()I"⟩
abbrev cX7_edge : ByteArray := prog_9_method_71_code
def yX7_edge : MethodName := ⟨RX7, "edge", "(I)I"⟩
abbrev cX7_never : ByteArray := prog_9_method_72_code
def yX7_never : MethodName := ⟨RX7, "never", "()I"⟩
abbrev cX7_oneWidth : ByteArray := prog_9_method_73_code
def yX7_oneWidth : MethodName := ⟨RX7, "oneWidth", "(II)I"⟩
abbrev cX7_one : ByteArray := prog_9_method_74_code
def yX7_one : MethodName := ⟨RX7, "one", "(II)I"⟩
abbrev cX7_which : ByteArray := prog_9_method_75_code
def yX7_which : MethodName := ⟨RX7, "which", "(I)I"⟩
abbrev cX7_gainOf : ByteArray := prog_9_method_76_code
def yX7_gainOf : MethodName := ⟨RX7, "gainOf", "(II)I"⟩
abbrev cX7_gains : ByteArray := prog_9_method_77_code
def yX7_gains : MethodName := ⟨RX7, "gains", "(II)I"⟩
abbrev cX7_losers : ByteArray := prog_9_method_78_code
def yX7_losers : MethodName := ⟨RX7, "losers", "(I)I"⟩
abbrev cX7_noRow : ByteArray := prog_9_method_79_code
def yX7_noRow : MethodName := ⟨RX7, "noRow", "(II)I"⟩
abbrev cX7_wrongAt : ByteArray := prog_9_method_80_code
def yX7_wrongAt : MethodName := ⟨RX7, "wrongAt", "(II)I"⟩
abbrev cX7_plan : ByteArray := prog_9_method_81_code
def yX7_plan : MethodName := ⟨RX7, "plan", "(II)I"⟩
abbrev cX7_judge : ByteArray := prog_9_method_82_code
def yX7_judge : MethodName := ⟨RX7, "judge", "(II)I"⟩
abbrev cX7_goes : ByteArray := prog_9_method_83_code
def yX7_goes : MethodName := ⟨RX7, "goes", "(I)I"⟩
abbrev cX7_year : ByteArray := prog_9_method_84_code
def yX7_year : MethodName := ⟨RX7, "year", "(I)I"⟩
abbrev cX7_run : ByteArray := prog_9_method_85_code
def yX7_run : MethodName := ⟨RX7, "run", "(I)I"⟩
abbrev cX7_over : ByteArray := prog_9_method_86_code
def yX7_over : MethodName := ⟨RX7, "over", "([I[I)V"⟩
abbrev cX7_overAll : ByteArray := prog_9_method_87_code
def yX7_overAll : MethodName := ⟨RX7, "overAll", "([[I[[I)V"⟩
abbrev cX7_takeFrom : ByteArray := prog_9_method_88_code
def yX7_takeFrom : MethodName := ⟨RX7, "takeFrom", "(LTwoWidthsModel;)V"⟩
abbrev cX7_image : ByteArray := prog_9_method_89_code
def yX7_image : MethodName := ⟨RX7, "image", "()I"⟩
abbrev cX7_back : ByteArray := prog_9_method_90_code
def yX7_back : MethodName := ⟨RX7, "back", "()I"⟩
abbrev cX7_status : ByteArray := prog_9_method_91_code
def yX7_status : MethodName := ⟨RX7, "status", "(I)I"⟩
def RJx145de : String := "java/io/Serializable"
def TJx145de : u_T := fun k => match k with
  | _ => ("", "", "", false)
def tyJx145de : Nat → FieldType := fun k => match k with
  | _ => .int
abbrev wsJx145de0 : List Cond := u_ws RJx145de TJx145de 0
theorem nmJx145de : ∀ a, a < 0 → ∀ b, b < 0 → a ≠ b → (TJx145de a).2.1 ≠ (TJx145de b).2.1 := by decide +kernel
theorem tyJx145de_ok : ∀ k, k < 0 → parseFieldDescriptor (TJx145de k).2.2.1 = some (tyJx145de k) := by decide +kernel
def RJx9f9b0 : String := "java/lang/CharSequence"
def TJx9f9b0 : u_T := fun k => match k with
  | _ => ("", "", "", false)
def tyJx9f9b0 : Nat → FieldType := fun k => match k with
  | _ => .int
abbrev wsJx9f9b00 : List Cond := u_ws RJx9f9b0 TJx9f9b0 0
theorem nmJx9f9b0 : ∀ a, a < 0 → ∀ b, b < 0 → a ≠ b → (TJx9f9b0 a).2.1 ≠ (TJx9f9b0 b).2.1 := by decide +kernel
theorem tyJx9f9b0_ok : ∀ k, k < 0 → parseFieldDescriptor (TJx9f9b0 k).2.2.1 = some (tyJx9f9b0 k) := by decide +kernel
def RJxb160c : String := "java/lang/Comparable"
def TJxb160c : u_T := fun k => match k with
  | _ => ("", "", "", false)
def tyJxb160c : Nat → FieldType := fun k => match k with
  | _ => .int
abbrev wsJxb160c0 : List Cond := u_ws RJxb160c TJxb160c 0
theorem nmJxb160c : ∀ a, a < 0 → ∀ b, b < 0 → a ≠ b → (TJxb160c a).2.1 ≠ (TJxb160c b).2.1 := by decide +kernel
theorem tyJxb160c_ok : ∀ k, k < 0 → parseFieldDescriptor (TJxb160c k).2.2.1 = some (tyJxb160c k) := by decide +kernel
def RJ6 : String := "java/lang/Integer"
def TJ6 : u_T := fun k => match k with
  | _ => ("", "", "", false)
def tyJ6 : Nat → FieldType := fun k => match k with
  | _ => .int
abbrev wsJ60 : List Cond := u_ws RJ6 TJ6 0
theorem nmJ6 : ∀ a, a < 0 → ∀ b, b < 0 → a ≠ b → (TJ6 a).2.1 ≠ (TJ6 b).2.1 := by decide +kernel
theorem tyJ6_ok : ∀ k, k < 0 → parseFieldDescriptor (TJ6 k).2.2.1 = some (tyJ6 k) := by decide +kernel
abbrev cJ6_bitCount_0f7a4 : ByteArray := prog_10_method_49_code
def yJ6_bitCount_0f7a4 : MethodName := ⟨RJ6, "bitCount", "(I)I"⟩
def RJ9 : String := "java/lang/Math"
def TJ9 : u_T := fun k => match k with
  | _ => ("", "", "", false)
def tyJ9 : Nat → FieldType := fun k => match k with
  | _ => .int
abbrev wsJ90 : List Cond := u_ws RJ9 TJ9 0
theorem nmJ9 : ∀ a, a < 0 → ∀ b, b < 0 → a ≠ b → (TJ9 a).2.1 ≠ (TJ9 b).2.1 := by decide +kernel
theorem tyJ9_ok : ∀ k, k < 0 → parseFieldDescriptor (TJ9 k).2.2.1 = some (tyJ9 k) := by decide +kernel
abbrev cJ9_max_7cf53 : ByteArray := prog_11_method_65_code
def yJ9_max_7cf53 : MethodName := ⟨RJ9, "max", "(II)I"⟩
abbrev cJ9_min_7cf53 : ByteArray := prog_11_method_69_code
def yJ9_min_7cf53 : MethodName := ⟨RJ9, "min", "(II)I"⟩
def RJ0 : String := "java/lang/String"
def TJ0 : u_T := fun k => match k with
  | _ => ("", "", "", false)
def tyJ0 : Nat → FieldType := fun k => match k with
  | _ => .int
abbrev wsJ00 : List Cond := u_ws RJ0 TJ0 0
theorem nmJ0 : ∀ a, a < 0 → ∀ b, b < 0 → a ≠ b → (TJ0 a).2.1 ≠ (TJ0 b).2.1 := by decide +kernel
theorem tyJ0_ok : ∀ k, k < 0 → parseFieldDescriptor (TJ0 k).2.2.1 = some (tyJ0 k) := by decide +kernel
abbrev cJ0_length_8abf5 : ByteArray := prog_12_method_54_code
def yJ0_length_8abf5 : MethodName := ⟨RJ0, "length", "()I"⟩
abbrev cJ0_charAt_5068e : ByteArray := prog_12_method_56_code
def yJ0_charAt_5068e : MethodName := ⟨RJ0, "charAt", "(I)C"⟩
abbrev cJ0_coder_7d493 : ByteArray := prog_12_method_152_code
def yJ0_coder_7d493 : MethodName := ⟨RJ0, "coder", "()B"⟩
abbrev cJ0_isLatin1_aae02 : ByteArray := prog_12_method_154_code
def yJ0_isLatin1_aae02 : MethodName := ⟨RJ0, "isLatin1", "()Z"⟩
abbrev cJ0_checkIndex_df160 : ByteArray := prog_12_method_155_code
def yJ0_checkIndex_df160 : MethodName := ⟨RJ0, "checkIndex", "(II)V"⟩
def RJ1 : String := "java/lang/StringLatin1"
def TJ1 : u_T := fun k => match k with
  | _ => ("", "", "", false)
def tyJ1 : Nat → FieldType := fun k => match k with
  | _ => .int
abbrev wsJ10 : List Cond := u_ws RJ1 TJ1 0
theorem nmJ1 : ∀ a, a < 0 → ∀ b, b < 0 → a ≠ b → (TJ1 a).2.1 ≠ (TJ1 b).2.1 := by decide +kernel
theorem tyJ1_ok : ∀ k, k < 0 → parseFieldDescriptor (TJ1 k).2.2.1 = some (tyJ1 k) := by decide +kernel
abbrev cJ1_charAt_3b067 : ByteArray := prog_13_method_2_code
def yJ1_charAt_3b067 : MethodName := ⟨RJ1, "charAt", "([BI)C"⟩
def RJ2 : String := "java/lang/StringUTF16"
def TJ2 : u_T := fun k => match k with
  | _ => ("", "", "", false)
def tyJ2 : Nat → FieldType := fun k => match k with
  | _ => .int
abbrev wsJ20 : List Cond := u_ws RJ2 TJ2 0
theorem nmJ2 : ∀ a, a < 0 → ∀ b, b < 0 → a ≠ b → (TJ2 a).2.1 ≠ (TJ2 b).2.1 := by decide +kernel
theorem tyJ2_ok : ∀ k, k < 0 → parseFieldDescriptor (TJ2 k).2.2.1 = some (tyJ2 k) := by decide +kernel
abbrev cJ2_getChar_3b067 : ByteArray := prog_14_method_5_code
def yJ2_getChar_3b067 : MethodName := ⟨RJ2, "getChar", "([BI)C"⟩
abbrev cJ2_length_9d52b : ByteArray := prog_14_method_6_code
def yJ2_length_9d52b : MethodName := ⟨RJ2, "length", "([B)I"⟩
abbrev cJ2_charAt_3b067 : ByteArray := prog_14_method_83_code
def yJ2_charAt_3b067 : MethodName := ⟨RJ2, "charAt", "([BI)C"⟩
abbrev cJ2_checkIndex_2214a : ByteArray := prog_14_method_91_code
def yJ2_checkIndex_2214a : MethodName := ⟨RJ2, "checkIndex", "(I[B)V"⟩
def RJ10 : String := "java/lang/System"
def TJ10 : u_T := fun k => match k with
  | _ => ("", "", "", false)
def tyJ10 : Nat → FieldType := fun k => match k with
  | _ => .int
abbrev wsJ100 : List Cond := u_ws RJ10 TJ10 0
theorem nmJ10 : ∀ a, a < 0 → ∀ b, b < 0 → a ≠ b → (TJ10 a).2.1 ≠ (TJ10 b).2.1 := by decide +kernel
theorem tyJ10_ok : ∀ k, k < 0 → parseFieldDescriptor (TJ10 k).2.2.1 = some (tyJ10 k) := by decide +kernel
def RJxfd54e : String := "java/lang/constant/Constable"
def TJxfd54e : u_T := fun k => match k with
  | _ => ("", "", "", false)
def tyJxfd54e : Nat → FieldType := fun k => match k with
  | _ => .int
abbrev wsJxfd54e0 : List Cond := u_ws RJxfd54e TJxfd54e 0
theorem nmJxfd54e : ∀ a, a < 0 → ∀ b, b < 0 → a ≠ b → (TJxfd54e a).2.1 ≠ (TJxfd54e b).2.1 := by decide +kernel
theorem tyJxfd54e_ok : ∀ k, k < 0 → parseFieldDescriptor (TJxfd54e k).2.2.1 = some (tyJxfd54e k) := by decide +kernel
def RJx3cf43 : String := "java/lang/constant/ConstantDesc"
def TJx3cf43 : u_T := fun k => match k with
  | _ => ("", "", "", false)
def tyJx3cf43 : Nat → FieldType := fun k => match k with
  | _ => .int
abbrev wsJx3cf430 : List Cond := u_ws RJx3cf43 TJx3cf43 0
theorem nmJx3cf43 : ∀ a, a < 0 → ∀ b, b < 0 → a ≠ b → (TJx3cf43 a).2.1 ≠ (TJx3cf43 b).2.1 := by decide +kernel
theorem tyJx3cf43_ok : ∀ k, k < 0 → parseFieldDescriptor (TJx3cf43 k).2.2.1 = some (tyJx3cf43 k) := by decide +kernel
def RJ7 : String := "java/util/Arrays"
def TJ7 : u_T := fun k => match k with
  | _ => ("", "", "", false)
def tyJ7 : Nat → FieldType := fun k => match k with
  | _ => .int
abbrev wsJ70 : List Cond := u_ws RJ7 TJ7 0
theorem nmJ7 : ∀ a, a < 0 → ∀ b, b < 0 → a ≠ b → (TJ7 a).2.1 ≠ (TJ7 b).2.1 := by decide +kernel
theorem tyJ7_ok : ∀ k, k < 0 → parseFieldDescriptor (TJ7 k).2.2.1 = some (tyJ7 k) := by decide +kernel
abbrev cJ7_fill_d0a16 : ByteArray := prog_16_method_101_code
def yJ7_fill_d0a16 : MethodName := ⟨RJ7, "fill", "([JJ)V"⟩
abbrev cJ7_fill_53178 : ByteArray := prog_16_method_103_code
def yJ7_fill_53178 : MethodName := ⟨RJ7, "fill", "([II)V"⟩
def RJ3 : String := "jdk/internal/util/Preconditions"
def TJ3 : u_T := fun k => match k with
  | _ => ("", "", "", false)
def tyJ3 : Nat → FieldType := fun k => match k with
  | _ => .int
abbrev wsJ30 : List Cond := u_ws RJ3 TJ3 0
theorem nmJ3 : ∀ a, a < 0 → ∀ b, b < 0 → a ≠ b → (TJ3 a).2.1 ≠ (TJ3 b).2.1 := by decide +kernel
theorem tyJ3_ok : ∀ k, k < 0 → parseFieldDescriptor (TJ3 k).2.2.1 = some (tyJ3 k) := by decide +kernel
abbrev cJ3_checkIndex_8e157 : ByteArray := prog_17_method_11_code
def yJ3_checkIndex_8e157 : MethodName := ⟨RJ3, "checkIndex", "(IILjava/util/function/BiFunction;)I"⟩
def RL : String := "TwoWidthsLaw"
abbrev cL_law : ByteArray := code
def yL_law : MethodName := ⟨RL, "law", "([I)Z"⟩
abbrev vwCl : List vw_C := [(RX0, TX0, 4), (RX1, TX1, 11), (RX2, TX2, 3), (RX3, TX3, 6), (RX4, TX4, 5), (RX5, TX5, 14), (RX6, TX6, 10), (RX7, TX7, 38)]
end
