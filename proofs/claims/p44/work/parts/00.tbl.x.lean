section
-- ===== PART A: goes FIRST, ahead of the names: the tables' words, and 'selects' of the private methods out of them =====
/-- a private method of a class that the tables say can be made, by its rows of tables_1 -/
def lw_okq (q : MethodName × Nat) : Prop := (q.1.cls ≠ "java/lang/invoke/MethodHandle" ∧ q.1.cls ≠ "java/lang/invoke/VarHandle") ∧ Cond.instantiable q.1.cls q.2 ∈ tables_1 ∧ Cond.privateMethod q.1 ∈ tables_1 ∧ Cond.instanceMethod q.1 ∈ tables_1
theorem lw_p0 : lw_okq (⟨"TwoWidths", "refuse", "(I)I"⟩, 10) := ⟨⟨by decide +kernel, by decide +kernel⟩, List.mem_of_getElem? (i := 18) (by decide +kernel), List.mem_of_getElem? (i := 282) (by decide +kernel), List.mem_of_getElem? (i := 283) (by decide +kernel)⟩
theorem lw_p1 : lw_okq (⟨"TwoWidths", "noRow", "(I)I"⟩, 10) := ⟨⟨by decide +kernel, by decide +kernel⟩, List.mem_of_getElem? (i := 18) (by decide +kernel), List.mem_of_getElem? (i := 297) (by decide +kernel), List.mem_of_getElem? (i := 298) (by decide +kernel)⟩
theorem lw_p2 : lw_okq (⟨"TwoWidths$Tape", "next", "()V"⟩, 6) := ⟨⟨by decide +kernel, by decide +kernel⟩, List.mem_of_getElem? (i := 88) (by decide +kernel), List.mem_of_getElem? (i := 463) (by decide +kernel), List.mem_of_getElem? (i := 464) (by decide +kernel)⟩
theorem lw_p3 : lw_okq (⟨"TwoWidths$Tape", "tokenAt", "(I)I"⟩, 6) := ⟨⟨by decide +kernel, by decide +kernel⟩, List.mem_of_getElem? (i := 88) (by decide +kernel), List.mem_of_getElem? (i := 467) (by decide +kernel), List.mem_of_getElem? (i := 468) (by decide +kernel)⟩
theorem lw_p4 : lw_okq (⟨"TwoWidths$Tape", "valueHere", "()I"⟩, 6) := ⟨⟨by decide +kernel, by decide +kernel⟩, List.mem_of_getElem? (i := 88) (by decide +kernel), List.mem_of_getElem? (i := 471) (by decide +kernel), List.mem_of_getElem? (i := 472) (by decide +kernel)⟩
theorem lw_p5 : lw_okq (⟨"TwoWidths$Tape", "readStatement", "(LTwoWidths$Land;)Z"⟩, 6) := ⟨⟨by decide +kernel, by decide +kernel⟩, List.mem_of_getElem? (i := 88) (by decide +kernel), List.mem_of_getElem? (i := 475) (by decide +kernel), List.mem_of_getElem? (i := 476) (by decide +kernel)⟩
theorem lw_p6 : lw_okq (⟨"TwoWidths$Tape", "isWord", "(Ljava/lang/String;)Z"⟩, 6) := ⟨⟨by decide +kernel, by decide +kernel⟩, List.mem_of_getElem? (i := 88) (by decide +kernel), List.mem_of_getElem? (i := 480) (by decide +kernel), List.mem_of_getElem? (i := 481) (by decide +kernel)⟩
theorem lw_p7 : lw_okq (⟨"TwoWidths$Tape", "readLine", "(LTwoWidths$Land;)Z"⟩, 6) := ⟨⟨by decide +kernel, by decide +kernel⟩, List.mem_of_getElem? (i := 88) (by decide +kernel), List.mem_of_getElem? (i := 532) (by decide +kernel), List.mem_of_getElem? (i := 533) (by decide +kernel)⟩
theorem lw_p8 : lw_okq (⟨"TwoWidths$Tape", "number", "(II)I"⟩, 6) := ⟨⟨by decide +kernel, by decide +kernel⟩, List.mem_of_getElem? (i := 88) (by decide +kernel), List.mem_of_getElem? (i := 536) (by decide +kernel), List.mem_of_getElem? (i := 537) (by decide +kernel)⟩
theorem lw_p9 : lw_okq (⟨"TwoWidths$Tape", "numberUnlike", "(II)I"⟩, 6) := ⟨⟨by decide +kernel, by decide +kernel⟩, List.mem_of_getElem? (i := 88) (by decide +kernel), List.mem_of_getElem? (i := 541) (by decide +kernel), List.mem_of_getElem? (i := 542) (by decide +kernel)⟩
theorem lw_p10 : lw_okq (⟨"TwoWidths$Tape", "perhaps", "(Ljava/lang/String;III)I"⟩, 6) := ⟨⟨by decide +kernel, by decide +kernel⟩, List.mem_of_getElem? (i := 88) (by decide +kernel), List.mem_of_getElem? (i := 548) (by decide +kernel), List.mem_of_getElem? (i := 549) (by decide +kernel)⟩
theorem lw_p11 : lw_okq (⟨"TwoWidths$Tape", "readGoods", "(LTwoWidths$Land;)Z"⟩, 6) := ⟨⟨by decide +kernel, by decide +kernel⟩, List.mem_of_getElem? (i := 88) (by decide +kernel), List.mem_of_getElem? (i := 555) (by decide +kernel), List.mem_of_getElem? (i := 556) (by decide +kernel)⟩
theorem lw_p12 : lw_okq (⟨"TwoWidths$Tape", "readWork", "(LTwoWidths$Land;)Z"⟩, 6) := ⟨⟨by decide +kernel, by decide +kernel⟩, List.mem_of_getElem? (i := 88) (by decide +kernel), List.mem_of_getElem? (i := 561) (by decide +kernel), List.mem_of_getElem? (i := 562) (by decide +kernel)⟩
theorem lw_p13 : lw_okq (⟨"TwoWidths$Tape", "readChange", "(LTwoWidths$Land;)Z"⟩, 6) := ⟨⟨by decide +kernel, by decide +kernel⟩, List.mem_of_getElem? (i := 88) (by decide +kernel), List.mem_of_getElem? (i := 570) (by decide +kernel), List.mem_of_getElem? (i := 571) (by decide +kernel)⟩
theorem lw_p14 : lw_okq (⟨"TwoWidths$Tape", "readCoin", "(LTwoWidths$Land;)Z"⟩, 6) := ⟨⟨by decide +kernel, by decide +kernel⟩, List.mem_of_getElem? (i := 88) (by decide +kernel), List.mem_of_getElem? (i := 576) (by decide +kernel), List.mem_of_getElem? (i := 577) (by decide +kernel)⟩
theorem lw_p15 : lw_okq (⟨"TwoWidths$Tape", "readYears", "(LTwoWidths$Land;)Z"⟩, 6) := ⟨⟨by decide +kernel, by decide +kernel⟩, List.mem_of_getElem? (i := 88) (by decide +kernel), List.mem_of_getElem? (i := 582) (by decide +kernel), List.mem_of_getElem? (i := 583) (by decide +kernel)⟩
def lw_privs_1 : List (MethodName × Nat) := [(⟨"TwoWidths", "refuse", "(I)I"⟩, 10), (⟨"TwoWidths", "noRow", "(I)I"⟩, 10), (⟨"TwoWidths$Tape", "next", "()V"⟩, 6), (⟨"TwoWidths$Tape", "tokenAt", "(I)I"⟩, 6), (⟨"TwoWidths$Tape", "valueHere", "()I"⟩, 6), (⟨"TwoWidths$Tape", "readStatement", "(LTwoWidths$Land;)Z"⟩, 6), (⟨"TwoWidths$Tape", "isWord", "(Ljava/lang/String;)Z"⟩, 6), (⟨"TwoWidths$Tape", "readLine", "(LTwoWidths$Land;)Z"⟩, 6), (⟨"TwoWidths$Tape", "number", "(II)I"⟩, 6), (⟨"TwoWidths$Tape", "numberUnlike", "(II)I"⟩, 6), (⟨"TwoWidths$Tape", "perhaps", "(Ljava/lang/String;III)I"⟩, 6), (⟨"TwoWidths$Tape", "readGoods", "(LTwoWidths$Land;)Z"⟩, 6), (⟨"TwoWidths$Tape", "readWork", "(LTwoWidths$Land;)Z"⟩, 6), (⟨"TwoWidths$Tape", "readChange", "(LTwoWidths$Land;)Z"⟩, 6), (⟨"TwoWidths$Tape", "readCoin", "(LTwoWidths$Land;)Z"⟩, 6), (⟨"TwoWidths$Tape", "readYears", "(LTwoWidths$Land;)Z"⟩, 6)]
theorem lw_r1 : ∀ q ∈ lw_privs_1, lw_okq q := List.forall_mem_cons.mpr ⟨lw_p0, List.forall_mem_cons.mpr ⟨lw_p1, List.forall_mem_cons.mpr ⟨lw_p2, List.forall_mem_cons.mpr ⟨lw_p3, List.forall_mem_cons.mpr ⟨lw_p4, List.forall_mem_cons.mpr ⟨lw_p5, List.forall_mem_cons.mpr ⟨lw_p6, List.forall_mem_cons.mpr ⟨lw_p7, List.forall_mem_cons.mpr ⟨lw_p8, List.forall_mem_cons.mpr ⟨lw_p9, List.forall_mem_cons.mpr ⟨lw_p10, List.forall_mem_cons.mpr ⟨lw_p11, List.forall_mem_cons.mpr ⟨lw_p12, List.forall_mem_cons.mpr ⟨lw_p13, List.forall_mem_cons.mpr ⟨lw_p14, List.forall_mem_cons.mpr ⟨lw_p15, fun _ h => absurd h List.not_mem_nil⟩⟩⟩⟩⟩⟩⟩⟩⟩⟩⟩⟩⟩⟩⟩⟩
theorem lw_p16 : lw_okq (⟨"TwoWidths$Ways", "nearByLines", "()Z"⟩, 14) := ⟨⟨by decide +kernel, by decide +kernel⟩, List.mem_of_getElem? (i := 149) (by decide +kernel), List.mem_of_getElem? (i := 632) (by decide +kernel), List.mem_of_getElem? (i := 633) (by decide +kernel)⟩
theorem lw_p17 : lw_okq (⟨"TwoWidths$Ways", "nearByChanges", "()V"⟩, 14) := ⟨⟨by decide +kernel, by decide +kernel⟩, List.mem_of_getElem? (i := 149) (by decide +kernel), List.mem_of_getElem? (i := 636) (by decide +kernel), List.mem_of_getElem? (i := 637) (by decide +kernel)⟩
theorem lw_p18 : lw_okq (⟨"TwoWidths$Ways", "note", "(II)V"⟩, 14) := ⟨⟨by decide +kernel, by decide +kernel⟩, List.mem_of_getElem? (i := 149) (by decide +kernel), List.mem_of_getElem? (i := 656) (by decide +kernel), List.mem_of_getElem? (i := 657) (by decide +kernel)⟩
theorem lw_p19 : lw_okq (⟨"TwoWidths$Ways", "stepOn", "(IJ)I"⟩, 14) := ⟨⟨by decide +kernel, by decide +kernel⟩, List.mem_of_getElem? (i := 149) (by decide +kernel), List.mem_of_getElem? (i := 660) (by decide +kernel), List.mem_of_getElem? (i := 661) (by decide +kernel)⟩
theorem lw_p20 : lw_okq (⟨"TwoWidths$Ways", "leads", "(IIIJ)Z"⟩, 14) := ⟨⟨by decide +kernel, by decide +kernel⟩, List.mem_of_getElem? (i := 149) (by decide +kernel), List.mem_of_getElem? (i := 664) (by decide +kernel), List.mem_of_getElem? (i := 665) (by decide +kernel)⟩
theorem lw_p21 : lw_okq (⟨"TwoWidths$Ways", "arrives", "(IJ)Z"⟩, 14) := ⟨⟨by decide +kernel, by decide +kernel⟩, List.mem_of_getElem? (i := 149) (by decide +kernel), List.mem_of_getElem? (i := 668) (by decide +kernel), List.mem_of_getElem? (i := 669) (by decide +kernel)⟩
theorem lw_p22 : lw_okq (⟨"TwoWidths$Ways", "openIfCheapest", "(III)V"⟩, 14) := ⟨⟨by decide +kernel, by decide +kernel⟩, List.mem_of_getElem? (i := 149) (by decide +kernel), List.mem_of_getElem? (i := 672) (by decide +kernel), List.mem_of_getElem? (i := 673) (by decide +kernel)⟩
theorem lw_p23 : lw_okq (⟨"TwoWidths$Ways", "otherEnd", "(II)I"⟩, 14) := ⟨⟨by decide +kernel, by decide +kernel⟩, List.mem_of_getElem? (i := 149) (by decide +kernel), List.mem_of_getElem? (i := 676) (by decide +kernel), List.mem_of_getElem? (i := 677) (by decide +kernel)⟩
theorem lw_p24 : lw_okq (⟨"TwoWidths$Traffic", "linesBearing", "(LTwoWidths$Land;I)I"⟩, 5) := ⟨⟨by decide +kernel, by decide +kernel⟩, List.mem_of_getElem? (i := 143) (by decide +kernel), List.mem_of_getElem? (i := 762) (by decide +kernel), List.mem_of_getElem? (i := 763) (by decide +kernel)⟩
theorem lw_p25 : lw_okq (⟨"TwoWidths$Traffic", "load", "(I)V"⟩, 5) := ⟨⟨by decide +kernel, by decide +kernel⟩, List.mem_of_getElem? (i := 143) (by decide +kernel), List.mem_of_getElem? (i := 767) (by decide +kernel), List.mem_of_getElem? (i := 768) (by decide +kernel)⟩
theorem lw_p26 : lw_okq (⟨"TwoWidths", "noChoice", "(I)I"⟩, 10) := ⟨⟨by decide +kernel, by decide +kernel⟩, List.mem_of_getElem? (i := 18) (by decide +kernel), List.mem_of_getElem? (i := 797) (by decide +kernel), List.mem_of_getElem? (i := 798) (by decide +kernel)⟩
theorem lw_p27 : lw_okq (⟨"TwoWidths$Choice", "alwaysCostsMore", "(LTwoWidths$Land;I)Z"⟩, 4) := ⟨⟨by decide +kernel, by decide +kernel⟩, List.mem_of_getElem? (i := 137) (by decide +kernel), List.mem_of_getElem? (i := 846) (by decide +kernel), List.mem_of_getElem? (i := 847) (by decide +kernel)⟩
theorem lw_p28 : lw_okq (⟨"TwoWidths$Traffic", "payOwners", "(LTwoWidths$Land;I[I)V"⟩, 5) := ⟨⟨by decide +kernel, by decide +kernel⟩, List.mem_of_getElem? (i := 143) (by decide +kernel), List.mem_of_getElem? (i := 873) (by decide +kernel), List.mem_of_getElem? (i := 874) (by decide +kernel)⟩
theorem lw_p29 : lw_okq (⟨"TwoWidths$Traffic", "changesAt", "(I)I"⟩, 5) := ⟨⟨by decide +kernel, by decide +kernel⟩, List.mem_of_getElem? (i := 143) (by decide +kernel), List.mem_of_getElem? (i := 899) (by decide +kernel), List.mem_of_getElem? (i := 900) (by decide +kernel)⟩
theorem lw_p30 : lw_okq (⟨"TwoWidths$Traffic", "stepsTo", "(I)I"⟩, 5) := ⟨⟨by decide +kernel, by decide +kernel⟩, List.mem_of_getElem? (i := 143) (by decide +kernel), List.mem_of_getElem? (i := 908) (by decide +kernel), List.mem_of_getElem? (i := 909) (by decide +kernel)⟩
theorem lw_p31 : lw_okq (⟨"TwoWidths", "noPlan", "(II)I"⟩, 10) := ⟨⟨by decide +kernel, by decide +kernel⟩, List.mem_of_getElem? (i := 18) (by decide +kernel), List.mem_of_getElem? (i := 928) (by decide +kernel), List.mem_of_getElem? (i := 929) (by decide +kernel)⟩
def lw_privs_2 : List (MethodName × Nat) := [(⟨"TwoWidths$Ways", "nearByLines", "()Z"⟩, 14), (⟨"TwoWidths$Ways", "nearByChanges", "()V"⟩, 14), (⟨"TwoWidths$Ways", "note", "(II)V"⟩, 14), (⟨"TwoWidths$Ways", "stepOn", "(IJ)I"⟩, 14), (⟨"TwoWidths$Ways", "leads", "(IIIJ)Z"⟩, 14), (⟨"TwoWidths$Ways", "arrives", "(IJ)Z"⟩, 14), (⟨"TwoWidths$Ways", "openIfCheapest", "(III)V"⟩, 14), (⟨"TwoWidths$Ways", "otherEnd", "(II)I"⟩, 14), (⟨"TwoWidths$Traffic", "linesBearing", "(LTwoWidths$Land;I)I"⟩, 5), (⟨"TwoWidths$Traffic", "load", "(I)V"⟩, 5), (⟨"TwoWidths", "noChoice", "(I)I"⟩, 10), (⟨"TwoWidths$Choice", "alwaysCostsMore", "(LTwoWidths$Land;I)Z"⟩, 4), (⟨"TwoWidths$Traffic", "payOwners", "(LTwoWidths$Land;I[I)V"⟩, 5), (⟨"TwoWidths$Traffic", "changesAt", "(I)I"⟩, 5), (⟨"TwoWidths$Traffic", "stepsTo", "(I)I"⟩, 5), (⟨"TwoWidths", "noPlan", "(II)I"⟩, 10)]
theorem lw_r2 : ∀ q ∈ lw_privs_2, lw_okq q := List.forall_mem_cons.mpr ⟨lw_p16, List.forall_mem_cons.mpr ⟨lw_p17, List.forall_mem_cons.mpr ⟨lw_p18, List.forall_mem_cons.mpr ⟨lw_p19, List.forall_mem_cons.mpr ⟨lw_p20, List.forall_mem_cons.mpr ⟨lw_p21, List.forall_mem_cons.mpr ⟨lw_p22, List.forall_mem_cons.mpr ⟨lw_p23, List.forall_mem_cons.mpr ⟨lw_p24, List.forall_mem_cons.mpr ⟨lw_p25, List.forall_mem_cons.mpr ⟨lw_p26, List.forall_mem_cons.mpr ⟨lw_p27, List.forall_mem_cons.mpr ⟨lw_p28, List.forall_mem_cons.mpr ⟨lw_p29, List.forall_mem_cons.mpr ⟨lw_p30, List.forall_mem_cons.mpr ⟨lw_p31, fun _ h => absurd h List.not_mem_nil⟩⟩⟩⟩⟩⟩⟩⟩⟩⟩⟩⟩⟩⟩⟩⟩
theorem lw_p32 : lw_okq (⟨"TwoWidths", "passYear", "(I)I"⟩, 10) := ⟨⟨by decide +kernel, by decide +kernel⟩, List.mem_of_getElem? (i := 18) (by decide +kernel), List.mem_of_getElem? (i := 956) (by decide +kernel), List.mem_of_getElem? (i := 957) (by decide +kernel)⟩
theorem lw_p33 : lw_okq (⟨"TwoWidthsModel", "refuse", "(I)I"⟩, 38) := ⟨⟨by decide +kernel, by decide +kernel⟩, List.mem_of_getElem? (i := 993) (by decide +kernel), List.mem_of_getElem? (i := 1127) (by decide +kernel), List.mem_of_getElem? (i := 1128) (by decide +kernel)⟩
theorem lw_p34 : lw_okq (⟨"TwoWidthsModel", "isWork", "(I)Z"⟩, 38) := ⟨⟨by decide +kernel, by decide +kernel⟩, List.mem_of_getElem? (i := 993) (by decide +kernel), List.mem_of_getElem? (i := 1154) (by decide +kernel), List.mem_of_getElem? (i := 1155) (by decide +kernel)⟩
theorem lw_p35 : lw_okq (⟨"TwoWidthsModel", "newLine", "(II)V"⟩, 38) := ⟨⟨by decide +kernel, by decide +kernel⟩, List.mem_of_getElem? (i := 993) (by decide +kernel), List.mem_of_getElem? (i := 1176) (by decide +kernel), List.mem_of_getElem? (i := 1177) (by decide +kernel)⟩
theorem lw_p36 : lw_okq (⟨"TwoWidthsModel", "mayBeFirst", "(II)Z"⟩, 38) := ⟨⟨by decide +kernel, by decide +kernel⟩, List.mem_of_getElem? (i := 993) (by decide +kernel), List.mem_of_getElem? (i := 1189) (by decide +kernel), List.mem_of_getElem? (i := 1190) (by decide +kernel)⟩
theorem lw_p37 : lw_okq (⟨"TwoWidthsModel", "isLine", "(I)Z"⟩, 38) := ⟨⟨by decide +kernel, by decide +kernel⟩, List.mem_of_getElem? (i := 993) (by decide +kernel), List.mem_of_getElem? (i := 1193) (by decide +kernel), List.mem_of_getElem? (i := 1194) (by decide +kernel)⟩
theorem lw_p38 : lw_okq (⟨"TwoWidthsModel", "mayBeSecond", "(III)Z"⟩, 38) := ⟨⟨by decide +kernel, by decide +kernel⟩, List.mem_of_getElem? (i := 993) (by decide +kernel), List.mem_of_getElem? (i := 1197) (by decide +kernel), List.mem_of_getElem? (i := 1198) (by decide +kernel)⟩
theorem lw_p39 : lw_okq (⟨"TwoWidthsModel", "fresh", "()LTwoWidthsModel;"⟩, 38) := ⟨⟨by decide +kernel, by decide +kernel⟩, List.mem_of_getElem? (i := 993) (by decide +kernel), List.mem_of_getElem? (i := 1233) (by decide +kernel), List.mem_of_getElem? (i := 1234) (by decide +kernel)⟩
theorem lw_p40 : lw_okq (⟨"TwoWidthsModel", "takeFrom", "(LTwoWidthsModel;)V"⟩, 38) := ⟨⟨by decide +kernel, by decide +kernel⟩, List.mem_of_getElem? (i := 993) (by decide +kernel), List.mem_of_getElem? (i := 1239) (by decide +kernel), List.mem_of_getElem? (i := 1240) (by decide +kernel)⟩
theorem lw_p41 : lw_okq (⟨"TwoWidthsModel", "read", "()Z"⟩, 38) := ⟨⟨by decide +kernel, by decide +kernel⟩, List.mem_of_getElem? (i := 993) (by decide +kernel), List.mem_of_getElem? (i := 1249) (by decide +kernel), List.mem_of_getElem? (i := 1250) (by decide +kernel)⟩
theorem lw_p42 : lw_okq (⟨"TwoWidthsModel", "look", "()V"⟩, 38) := ⟨⟨by decide +kernel, by decide +kernel⟩, List.mem_of_getElem? (i := 993) (by decide +kernel), List.mem_of_getElem? (i := 1253) (by decide +kernel), List.mem_of_getElem? (i := 1254) (by decide +kernel)⟩
theorem lw_p43 : lw_okq (⟨"TwoWidthsModel", "statement", "()Z"⟩, 38) := ⟨⟨by decide +kernel, by decide +kernel⟩, List.mem_of_getElem? (i := 993) (by decide +kernel), List.mem_of_getElem? (i := 1266) (by decide +kernel), List.mem_of_getElem? (i := 1267) (by decide +kernel)⟩
theorem lw_p44 : lw_okq (⟨"TwoWidthsModel", "isWord", "(Ljava/lang/String;)Z"⟩, 38) := ⟨⟨by decide +kernel, by decide +kernel⟩, List.mem_of_getElem? (i := 993) (by decide +kernel), List.mem_of_getElem? (i := 1271) (by decide +kernel), List.mem_of_getElem? (i := 1272) (by decide +kernel)⟩
theorem lw_p45 : lw_okq (⟨"TwoWidthsModel", "two", "([I)Z"⟩, 38) := ⟨⟨by decide +kernel, by decide +kernel⟩, List.mem_of_getElem? (i := 993) (by decide +kernel), List.mem_of_getElem? (i := 1277) (by decide +kernel), List.mem_of_getElem? (i := 1278) (by decide +kernel)⟩
theorem lw_p46 : lw_okq (⟨"TwoWidthsModel", "number", "([IIII)Z"⟩, 38) := ⟨⟨by decide +kernel, by decide +kernel⟩, List.mem_of_getElem? (i := 993) (by decide +kernel), List.mem_of_getElem? (i := 1281) (by decide +kernel), List.mem_of_getElem? (i := 1282) (by decide +kernel)⟩
theorem lw_p47 : lw_okq (⟨"TwoWidthsModel", "wrong", "()Z"⟩, 38) := ⟨⟨by decide +kernel, by decide +kernel⟩, List.mem_of_getElem? (i := 993) (by decide +kernel), List.mem_of_getElem? (i := 1285) (by decide +kernel), List.mem_of_getElem? (i := 1286) (by decide +kernel)⟩
def lw_privs_3 : List (MethodName × Nat) := [(⟨"TwoWidths", "passYear", "(I)I"⟩, 10), (⟨"TwoWidthsModel", "refuse", "(I)I"⟩, 38), (⟨"TwoWidthsModel", "isWork", "(I)Z"⟩, 38), (⟨"TwoWidthsModel", "newLine", "(II)V"⟩, 38), (⟨"TwoWidthsModel", "mayBeFirst", "(II)Z"⟩, 38), (⟨"TwoWidthsModel", "isLine", "(I)Z"⟩, 38), (⟨"TwoWidthsModel", "mayBeSecond", "(III)Z"⟩, 38), (⟨"TwoWidthsModel", "fresh", "()LTwoWidthsModel;"⟩, 38), (⟨"TwoWidthsModel", "takeFrom", "(LTwoWidthsModel;)V"⟩, 38), (⟨"TwoWidthsModel", "read", "()Z"⟩, 38), (⟨"TwoWidthsModel", "look", "()V"⟩, 38), (⟨"TwoWidthsModel", "statement", "()Z"⟩, 38), (⟨"TwoWidthsModel", "isWord", "(Ljava/lang/String;)Z"⟩, 38), (⟨"TwoWidthsModel", "two", "([I)Z"⟩, 38), (⟨"TwoWidthsModel", "number", "([IIII)Z"⟩, 38), (⟨"TwoWidthsModel", "wrong", "()Z"⟩, 38)]
theorem lw_r3 : ∀ q ∈ lw_privs_3, lw_okq q := List.forall_mem_cons.mpr ⟨lw_p32, List.forall_mem_cons.mpr ⟨lw_p33, List.forall_mem_cons.mpr ⟨lw_p34, List.forall_mem_cons.mpr ⟨lw_p35, List.forall_mem_cons.mpr ⟨lw_p36, List.forall_mem_cons.mpr ⟨lw_p37, List.forall_mem_cons.mpr ⟨lw_p38, List.forall_mem_cons.mpr ⟨lw_p39, List.forall_mem_cons.mpr ⟨lw_p40, List.forall_mem_cons.mpr ⟨lw_p41, List.forall_mem_cons.mpr ⟨lw_p42, List.forall_mem_cons.mpr ⟨lw_p43, List.forall_mem_cons.mpr ⟨lw_p44, List.forall_mem_cons.mpr ⟨lw_p45, List.forall_mem_cons.mpr ⟨lw_p46, List.forall_mem_cons.mpr ⟨lw_p47, fun _ h => absurd h List.not_mem_nil⟩⟩⟩⟩⟩⟩⟩⟩⟩⟩⟩⟩⟩⟩⟩⟩
theorem lw_p48 : lw_okq (⟨"TwoWidthsModel", "told", "(Ljava/lang/String;[IIII)Z"⟩, 38) := ⟨⟨by decide +kernel, by decide +kernel⟩, List.mem_of_getElem? (i := 993) (by decide +kernel), List.mem_of_getElem? (i := 1290) (by decide +kernel), List.mem_of_getElem? (i := 1291) (by decide +kernel)⟩
theorem lw_p49 : lw_okq (⟨"TwoWidthsModel", "perhaps", "(Ljava/lang/String;[IIII)Z"⟩, 38) := ⟨⟨by decide +kernel, by decide +kernel⟩, List.mem_of_getElem? (i := 993) (by decide +kernel), List.mem_of_getElem? (i := 1296) (by decide +kernel), List.mem_of_getElem? (i := 1297) (by decide +kernel)⟩
theorem lw_p50 : lw_okq (⟨"TwoWidthsModel", "workTold", "([I)Z"⟩, 38) := ⟨⟨by decide +kernel, by decide +kernel⟩, List.mem_of_getElem? (i := 993) (by decide +kernel), List.mem_of_getElem? (i := 1303) (by decide +kernel), List.mem_of_getElem? (i := 1304) (by decide +kernel)⟩
theorem lw_p51 : lw_okq (⟨"TwoWidthsModel", "refill", "()V"⟩, 38) := ⟨⟨by decide +kernel, by decide +kernel⟩, List.mem_of_getElem? (i := 993) (by decide +kernel), List.mem_of_getElem? (i := 1327) (by decide +kernel), List.mem_of_getElem? (i := 1328) (by decide +kernel)⟩
theorem lw_p52 : lw_okq (⟨"TwoWidthsModel", "findFar", "(II)V"⟩, 38) := ⟨⟨by decide +kernel, by decide +kernel⟩, List.mem_of_getElem? (i := 993) (by decide +kernel), List.mem_of_getElem? (i := 1331) (by decide +kernel), List.mem_of_getElem? (i := 1332) (by decide +kernel)⟩
theorem lw_p53 : lw_okq (⟨"TwoWidthsModel", "bears", "(II)Z"⟩, 38) := ⟨⟨by decide +kernel, by decide +kernel⟩, List.mem_of_getElem? (i := 993) (by decide +kernel), List.mem_of_getElem? (i := 1336) (by decide +kernel), List.mem_of_getElem? (i := 1337) (by decide +kernel)⟩
theorem lw_p54 : lw_okq (⟨"TwoWidthsModel", "least", "(I)I"⟩, 38) := ⟨⟨by decide +kernel, by decide +kernel⟩, List.mem_of_getElem? (i := 993) (by decide +kernel), List.mem_of_getElem? (i := 1340) (by decide +kernel), List.mem_of_getElem? (i := 1341) (by decide +kernel)⟩
theorem lw_p55 : lw_okq (⟨"TwoWidthsModel", "findGoods", "(I)Z"⟩, 38) := ⟨⟨by decide +kernel, by decide +kernel⟩, List.mem_of_getElem? (i := 993) (by decide +kernel), List.mem_of_getElem? (i := 1348) (by decide +kernel), List.mem_of_getElem? (i := 1349) (by decide +kernel)⟩
theorem lw_p56 : lw_okq (⟨"TwoWidthsModel", "findWay", "(III)Z"⟩, 38) := ⟨⟨by decide +kernel, by decide +kernel⟩, List.mem_of_getElem? (i := 993) (by decide +kernel), List.mem_of_getElem? (i := 1352) (by decide +kernel), List.mem_of_getElem? (i := 1353) (by decide +kernel)⟩
theorem lw_p57 : lw_okq (⟨"TwoWidthsModel", "canEnd", "(II)Z"⟩, 38) := ⟨⟨by decide +kernel, by decide +kernel⟩, List.mem_of_getElem? (i := 993) (by decide +kernel), List.mem_of_getElem? (i := 1356) (by decide +kernel), List.mem_of_getElem? (i := 1357) (by decide +kernel)⟩
theorem lw_p58 : lw_okq (⟨"TwoWidthsModel", "stepTo", "(II)I"⟩, 38) := ⟨⟨by decide +kernel, by decide +kernel⟩, List.mem_of_getElem? (i := 993) (by decide +kernel), List.mem_of_getElem? (i := 1360) (by decide +kernel), List.mem_of_getElem? (i := 1361) (by decide +kernel)⟩
theorem lw_p59 : lw_okq (⟨"TwoWidthsModel", "earned", "(I)I"⟩, 38) := ⟨⟨by decide +kernel, by decide +kernel⟩, List.mem_of_getElem? (i := 993) (by decide +kernel), List.mem_of_getElem? (i := 1376) (by decide +kernel), List.mem_of_getElem? (i := 1377) (by decide +kernel)⟩
theorem lw_p60 : lw_okq (⟨"TwoWidthsModel", "totalOf", "(I)I"⟩, 38) := ⟨⟨by decide +kernel, by decide +kernel⟩, List.mem_of_getElem? (i := 993) (by decide +kernel), List.mem_of_getElem? (i := 1393) (by decide +kernel), List.mem_of_getElem? (i := 1394) (by decide +kernel)⟩
theorem lw_p61 : lw_okq (⟨"TwoWidthsModel", "does", "(I)V"⟩, 38) := ⟨⟨by decide +kernel, by decide +kernel⟩, List.mem_of_getElem? (i := 993) (by decide +kernel), List.mem_of_getElem? (i := 1397) (by decide +kernel), List.mem_of_getElem? (i := 1398) (by decide +kernel)⟩
theorem lw_p62 : lw_okq (⟨"TwoWidthsModel", "worthOf", "(I)I"⟩, 38) := ⟨⟨by decide +kernel, by decide +kernel⟩, List.mem_of_getElem? (i := 993) (by decide +kernel), List.mem_of_getElem? (i := 1410) (by decide +kernel), List.mem_of_getElem? (i := 1411) (by decide +kernel)⟩
theorem lw_p63 : lw_okq (⟨"TwoWidthsModel", "saves", "(I)I"⟩, 38) := ⟨⟨by decide +kernel, by decide +kernel⟩, List.mem_of_getElem? (i := 993) (by decide +kernel), List.mem_of_getElem? (i := 1414) (by decide +kernel), List.mem_of_getElem? (i := 1415) (by decide +kernel)⟩
def lw_privs_4 : List (MethodName × Nat) := [(⟨"TwoWidthsModel", "told", "(Ljava/lang/String;[IIII)Z"⟩, 38), (⟨"TwoWidthsModel", "perhaps", "(Ljava/lang/String;[IIII)Z"⟩, 38), (⟨"TwoWidthsModel", "workTold", "([I)Z"⟩, 38), (⟨"TwoWidthsModel", "refill", "()V"⟩, 38), (⟨"TwoWidthsModel", "findFar", "(II)V"⟩, 38), (⟨"TwoWidthsModel", "bears", "(II)Z"⟩, 38), (⟨"TwoWidthsModel", "least", "(I)I"⟩, 38), (⟨"TwoWidthsModel", "findGoods", "(I)Z"⟩, 38), (⟨"TwoWidthsModel", "findWay", "(III)Z"⟩, 38), (⟨"TwoWidthsModel", "canEnd", "(II)Z"⟩, 38), (⟨"TwoWidthsModel", "stepTo", "(II)I"⟩, 38), (⟨"TwoWidthsModel", "earned", "(I)I"⟩, 38), (⟨"TwoWidthsModel", "totalOf", "(I)I"⟩, 38), (⟨"TwoWidthsModel", "does", "(I)V"⟩, 38), (⟨"TwoWidthsModel", "worthOf", "(I)I"⟩, 38), (⟨"TwoWidthsModel", "saves", "(I)I"⟩, 38)]
theorem lw_r4 : ∀ q ∈ lw_privs_4, lw_okq q := List.forall_mem_cons.mpr ⟨lw_p48, List.forall_mem_cons.mpr ⟨lw_p49, List.forall_mem_cons.mpr ⟨lw_p50, List.forall_mem_cons.mpr ⟨lw_p51, List.forall_mem_cons.mpr ⟨lw_p52, List.forall_mem_cons.mpr ⟨lw_p53, List.forall_mem_cons.mpr ⟨lw_p54, List.forall_mem_cons.mpr ⟨lw_p55, List.forall_mem_cons.mpr ⟨lw_p56, List.forall_mem_cons.mpr ⟨lw_p57, List.forall_mem_cons.mpr ⟨lw_p58, List.forall_mem_cons.mpr ⟨lw_p59, List.forall_mem_cons.mpr ⟨lw_p60, List.forall_mem_cons.mpr ⟨lw_p61, List.forall_mem_cons.mpr ⟨lw_p62, List.forall_mem_cons.mpr ⟨lw_p63, fun _ h => absurd h List.not_mem_nil⟩⟩⟩⟩⟩⟩⟩⟩⟩⟩⟩⟩⟩⟩⟩⟩
theorem lw_p64 : lw_okq (⟨"TwoWidthsModel", "oneWidth", "(II)I"⟩, 38) := ⟨⟨by decide +kernel, by decide +kernel⟩, List.mem_of_getElem? (i := 993) (by decide +kernel), List.mem_of_getElem? (i := 1445) (by decide +kernel), List.mem_of_getElem? (i := 1446) (by decide +kernel)⟩
theorem lw_p65 : lw_okq (⟨"TwoWidthsModel", "gainOf", "(II)I"⟩, 38) := ⟨⟨by decide +kernel, by decide +kernel⟩, List.mem_of_getElem? (i := 993) (by decide +kernel), List.mem_of_getElem? (i := 1457) (by decide +kernel), List.mem_of_getElem? (i := 1458) (by decide +kernel)⟩
theorem lw_p66 : lw_okq (⟨"TwoWidthsModel", "noRow", "(II)I"⟩, 38) := ⟨⟨by decide +kernel, by decide +kernel⟩, List.mem_of_getElem? (i := 993) (by decide +kernel), List.mem_of_getElem? (i := 1469) (by decide +kernel), List.mem_of_getElem? (i := 1470) (by decide +kernel)⟩
theorem lw_p67 : lw_okq (⟨"TwoWidthsModel", "wrongAt", "(II)I"⟩, 38) := ⟨⟨by decide +kernel, by decide +kernel⟩, List.mem_of_getElem? (i := 993) (by decide +kernel), List.mem_of_getElem? (i := 1473) (by decide +kernel), List.mem_of_getElem? (i := 1474) (by decide +kernel)⟩
theorem lw_p68 : lw_okq (⟨"TwoWidthsModel", "goes", "(I)I"⟩, 38) := ⟨⟨by decide +kernel, by decide +kernel⟩, List.mem_of_getElem? (i := 993) (by decide +kernel), List.mem_of_getElem? (i := 1485) (by decide +kernel), List.mem_of_getElem? (i := 1486) (by decide +kernel)⟩
def lw_privs_5 : List (MethodName × Nat) := [(⟨"TwoWidthsModel", "oneWidth", "(II)I"⟩, 38), (⟨"TwoWidthsModel", "gainOf", "(II)I"⟩, 38), (⟨"TwoWidthsModel", "noRow", "(II)I"⟩, 38), (⟨"TwoWidthsModel", "wrongAt", "(II)I"⟩, 38), (⟨"TwoWidthsModel", "goes", "(I)I"⟩, 38)]
theorem lw_r5 : ∀ q ∈ lw_privs_5, lw_okq q := List.forall_mem_cons.mpr ⟨lw_p64, List.forall_mem_cons.mpr ⟨lw_p65, List.forall_mem_cons.mpr ⟨lw_p66, List.forall_mem_cons.mpr ⟨lw_p67, List.forall_mem_cons.mpr ⟨lw_p68, fun _ h => absurd h List.not_mem_nil⟩⟩⟩⟩⟩
def lw_privs : List (MethodName × Nat) := lw_privs_1 ++ (lw_privs_2 ++ (lw_privs_3 ++ (lw_privs_4 ++ (lw_privs_5))))
def lw_tbl : List Cond := k2_sels lw_privs ++ tables_1
theorem lw_privs_ok : ∀ q ∈ lw_privs, lw_okq q := by
  show ∀ q ∈ lw_privs_1 ++ (lw_privs_2 ++ (lw_privs_3 ++ (lw_privs_4 ++ (lw_privs_5)))), lw_okq q
  exact List.forall_mem_append.mpr ⟨lw_r1, List.forall_mem_append.mpr ⟨lw_r2, List.forall_mem_append.mpr ⟨lw_r3, List.forall_mem_append.mpr ⟨lw_r4, lw_r5⟩⟩⟩⟩
end
section
/-- an array class over arrays of ty (the printed rows name it, the kit has it for objects alone) -/
def va_AOA (ty : FieldType) (U : State) : Prop := (Cond.arrayOver (.array ty)).before #[] U = true
theorem va_AOA.of {ty : FieldType} {A : Array Value} {U : State} (h : (Cond.arrayOver (.array ty)).before A U = true) : va_AOA ty U := h
theorem va_AOA.use {ty : FieldType} {A : Array Value} {U : State} (h : va_AOA ty U) : (Cond.arrayOver (.array ty)).before A U = true := h
theorem va_AOA.moved {ty : FieldType} {u U : State} (hvm : u.vm.Alike U.vm) (h : va_AOA ty u) : va_AOA ty U := by
  have key : ∃ comp c k, u.vm.findClass (FieldType.array ty).toString = some comp ∧ (u.vm.classes.findIdx? fun x => match x.kind with | .array component _ => component == comp | _ => false) = some c ∧ u.vm.classes[c]? = some k ∧ k.kind = .array comp (.array ty) ∧ u.vm.findClass ("[" ++ (FieldType.array ty).toString) = some c := by
    have h0 := h
    unfold va_AOA Cond.before at h0
    simp only [Cond.holds, Cond.value, beq_iff_eq] at h0
    cases hc : u.vm.findClass (FieldType.array ty).toString with
    | none => simp [hc] at h0
    | some comp =>
      simp only [hc, Option.bind_some, Option.bind_eq_some_iff, Option.map_eq_some_iff] at h0
      obtain ⟨c, hi, k, hk, hb⟩ := h0
      obtain ⟨hlt, hp, -⟩ := Array.findIdx?_eq_some_iff_getElem.mp hi
      have hkk : u.vm.classes[c] = k := (Array.getElem?_eq_some_iff.mp hk).2
      rw [hkk] at hp
      cases hkind : k.kind with
      | array component ty2 =>
        rw [hkind] at hb hp
        simp at hb hp
        subst hp
        exact ⟨component, c, k, rfl, hi, hk, by rw [hkind, hb.1], hb.2⟩
      | _ => rw [hkind] at hb; simp at hb
  obtain ⟨comp, c, k, h1, h2, h3, h4, h5⟩ := key
  obtain ⟨k', hk', he⟩ := hvm.2.2 _ _ h3
  have hi : (U.vm.classes.findIdx? fun (x : Class) => match x.kind with | .array component _ => component == comp | _ => false) = some c := by
    have e0 : u.vm.bare = U.vm.bare := by first | exact hvm.bare_eq | exact hvm.bare_eq.symm
    exact (va_idx_bare U.vm comp).symm.trans ((congrArg (fun z : Vm => z.classes.findIdx? fun (x : Class) => match x.kind with | .array component _ => component == comp | _ => false) e0.symm).trans ((va_idx_bare u.vm comp).trans h2))
  have hkind : k'.kind = .array comp (.array ty) := by rw [he]; exact h4
  have f1 : U.vm.findClass (FieldType.array ty).toString = some comp := by rw [hvm.findClass]; exact h1
  have f2 : U.vm.findClass ("[" ++ (FieldType.array ty).toString) = some c := by rw [hvm.findClass]; exact h5
  unfold va_AOA Cond.before Cond.holds
  simp only [Cond.value]
  rw [f1, Option.bind_some]
  refine (congrArg (fun o : Option Nat => (o.bind (fun c => (U.vm.classes[c]?).map fun (k : Class) => match k.kind with | .array _ ty' => decide (ty' = FieldType.array ty) && decide (U.vm.findClass ("[" ++ (FieldType.array ty).toString) = some c) | _ => false) == some true)) hi).trans ?_
  simp [hk', hkind, f2]
/-! ===== BEGIN words of one list among another's, by their places ===== -/
theorem goodIn_r {big : List Cond} (ws : List Cond) (ps : List Nat) (hp : ws = ps.filterMap (fun i => big[i]?)) (h : ws.all goodWord = true) : GoodIn big ws := by
  intro w hw
  have h1 := List.all_eq_true.mp h w hw
  rw [hp] at hw
  obtain ⟨i, -, hi⟩ := List.mem_filterMap.mp hw
  have hm : w ∈ big := by first | exact List.mem_of_getElem? hi | exact List.getElem?_mem hi
  exact ⟨hm, good_of_word h1⟩
theorem goodIn_app {big a b : List Cond} (ha : GoodIn big a) (hb : GoodIn big b) : GoodIn big (a ++ b) := fun w h => (List.mem_append.mp h).elim (ha w) (hb w)
theorem goodIn_ca {big a b : List Cond} {c : Cond} (ha : GoodIn big (c :: a)) (hb : GoodIn big b) : GoodIn big (c :: (a ++ b)) := fun w h => (List.mem_cons.mp h).elim (fun e => ha w (List.mem_cons.mpr (Or.inl e))) (fun h => (List.mem_append.mp h).elim (fun h => ha w (List.mem_cons.mpr (Or.inr h))) (hb w))
theorem goodIn_sub {big ws : List Cond} (hm : ∀ w ∈ ws, w ∈ big) (h : ws.all goodWord = true) : GoodIn big ws := fun w hw => ⟨hm w hw, good_of_word (List.all_eq_true.mp h w hw)⟩
/-! ===== END ===== -/

/-! ===== BEGIN new T[n][m]: the outer array a place, the inner ones among the pooled ===== -/
/-- f, but v at every address of l -/
def vr_up {α : Type} (f : Nat → α) (l : List Nat) (v : α) : Nat → α := fun a => if a ∈ l then v else f a
theorem vr_up_in {α : Type} {f : Nat → α} {l : List Nat} {v : α} {a : Nat} (h : a ∈ l) : vr_up f l v a = v := if_pos h
theorem vr_up_ne {α : Type} {f : Nat → α} {l : List Nat} {v : α} {a : Nat} (h : a ∉ l) : vr_up f l v a = f a := if_neg h
theorem vr_rows {L l : List Nat} {f : Nat → va_E} {e : va_E} (h : ∀ a, a ∈ l → a ∉ L) : va_pl L f ++ l.map (fun a => (a, e)) = va_pl (L ++ l) (vr_up f l e) := by
  unfold va_pl
  rw [List.map_append]
  congr 1
  · apply List.map_congr_left
    intro a ha
    rw [vr_up_ne (fun q => h a q ha)]
  · apply List.map_congr_left
    intro a ha
    rw [vr_up_in ha]
theorem vr_lay {X rows : va_W} {x : Nat × va_E} {pl : va_W} {D : va_G} {cl : List vw_C} {H : Heap} (hP : va_P D cl (((X ++ pl) ++ [x]) ++ rows) H) : va_P D cl ((X ++ [x]) ++ (pl ++ rows)) H := by
  rw [List.append_assoc (X ++ pl)] at hP
  have h := va_P.swap hP
  rw [← List.append_assoc X] at h
  have h2 := va_P.swap h
  rw [List.append_assoc (X ++ [x])] at h2
  exact h2
theorem vr_layD {X rows : va_W} {x : Nat × va_E} {pl : va_W} {A : Nat → Prop} (hD : va_D A (((X ++ pl) ++ [x]) ++ rows)) : va_D A ((X ++ [x]) ++ (pl ++ rows)) := by
  rw [List.append_assoc (X ++ pl)] at hD
  have h := va_D.swap hD
  rw [← List.append_assoc X] at h
  have h2 := va_D.swap h
  rw [List.append_assoc (X ++ [x])] at h2
  exact h2
theorem vr_outer (c : ClassId) (N h0 : Nat) : ∀ i : Nat, Jvm.Free.Multi.outerC c N h0 i = arrV c N (fun j => va_rf (if j < i then some (h0 + 1 + j) else none))
  | 0 => by
    show ({ cls := c, slots := Array.replicate N .null, vm := .none } : Cell) = _
    rw [arrV_new]
    refine congrArg (arrV c N) (funext fun j => ?_)
    simp [va_rf]
  | i + 1 => by
    show (Jvm.Free.Multi.outerC c N h0 i).setSlot i (.ref (h0 + 1 + i)) = _
    rw [vr_outer c N h0 i, arrV_store]
    refine congrArg (arrV c N) (funext fun j => ?_)
    by_cases e : j = i
    · subst e
      simp [updV, va_rf]
    · by_cases h : j < i
      · simp [updV, e, h, Nat.lt_succ_of_lt h]
      · simp [updV, e, h, show ¬ j < i + 1 by omega]
section VGM
variable {p : Program} {l : Launch} {e : Env} {R : Room} {s : State} {m : MethodId} {args : Array Value} {below : List Frame} {meth : Method} {c : Code} {H : Heap} {locs : List Loc} {cells slots : Nat} {Q : State → Prop}
variable {cc : ByteArray} {pc : Nat} {ls : Array Slot} {rest : List Value} {D : va_G} {cl : List vw_C} {A : Nat → Prop} {a : Nat} {tys : List (ClassId × FieldType)} {ws : va_W} {H0 : Heap}
theorem va_mna {X : va_W} {L : List Nat} {f : Nat → va_E} {cc : ByteArray} (hexec : p.tables.exec = Jvm.exec) (hb : c.code = cc) {own : String} {index : Nat} {ty : FieldType} {cy : ClassId} (hown : s.vm.findClass own = some m.cls) (hclink : (Cond.classLink own index ("[" ++ (FieldType.array ty).toString)).before args s = true) (hover : va_AOA ty s) (harr : (Cond.arrayClass ty).before args s = true) (hcy : s.vm.findClass (FieldType.array ty).toString = some cy)
    (hK : va_K D cl tys s) (hP : va_P D cl (X ++ va_pl L f) H) (hD : va_D A (X ++ va_pl L f)) (hS : va_S A H0 H locs) (hA : ∀ q, H0.size ≤ q → A q) {n k : Int32} {N' K' : Nat} {z : vp_A} (hn : ¬ n < 0) (hk : ¬ k < 0) (hN : n.toNatClampNeg = N') (hM : k.toNatClampNeg = K')
    (hb1 : N' * 4 ≤ 536870912) (hb2 : K' * componentBytes ty ≤ 536870912) (hb3 : K' ≤ 536870912) (hdf : fits ty (defaultValue ty) = true) (hdd : (defaultValue ty).isDefault = true) (hcells : cells + (1 + N') ≤ R.cells) (hslots : slots + (N' + N' * K') ≤ R.slots) (hz : ∀ c : ClassId, Jvm.Free.Multi.innerC c K' (defaultValue ty) = vp_cell c z) (hdg : decode cc pc = .ok (.multianewarray index 2, 4))
    (kk : ∀ (q : Nat) (r : Nat → Nat) (cA : ClassId) (H1 : Heap), (∀ i j : Nat, i < N' → j < N' → r i = r j → i = j) → (∀ i : Nat, i < N' → r i ∉ L) → va_K D cl (tys ++ [(cA, .array ty)]) s →
      va_P D cl ((X ++ [(q, .inl (cA, N', .inr (.inr (.inr (.inr (fun i => if i < N' then some (r i) else none))))))]) ++ va_pl (L ++ (List.range N').map r) (vr_up f ((List.range N').map r) (.inl (cy, z)))) H1 → va_D A ((X ++ [(q, .inl (cA, N', .inr (.inr (.inr (.inr (fun i => if i < N' then some (r i) else none))))))]) ++ va_pl (L ++ (List.range N').map r) (vr_up f ((List.range N').map r) (.inl (cy, z)))) → va_S A H0 H1 locs →
      W p l e R s m args below meth c H1 locs (cells + 1 + N') (slots + N' + N' * K') Q (F0 m (pc + 4) ls (.ref q :: rest))) : W p l e R s m args below meth c H locs cells slots Q (F0 m pc ls (.int k :: .int n :: rest)) := by
  subst hN
  subst hM
  intro T hT Xs
  obtain ⟨vm₁, cA, comp, -, fA, fC, hO, -, X', step⟩ := Xs.multianewarray2F hexec hown hclink (va_AOA.use hover) harr (g := F0 m pc ls (.int k :: .int n :: rest)) rfl (by rw [hb]; exact hdg) rfl hn hk hb1 hb2 hb3 hdf hdd hcells hslots
  have ec : some cy = some comp := hcy.symm.trans fC
  cases ec
  generalize hF : Jvm.Free.Multi.fill (T.setVm vm₁) cA cy n.toNatClampNeg k.toNatClampNeg (defaultValue ty) n.toNatClampNeg = F at X' step
  have hTh : (T.setVm vm₁).heap = H := hT
  obtain ⟨f1, f2, -, -⟩ := Jvm.Free.Multi.fill_facts (T.setVm vm₁) cA cy n.toNatClampNeg k.toNatClampNeg (defaultValue ty) n.toNatClampNeg
  rw [hF, hTh] at f1 f2
  have hold : ∀ x : Nat, x < H.size → F.heap[x]? = H[x]? := fun x hx => by
    have := Jvm.Free.Multi.fill_old (T.setVm vm₁) cA cy n.toNatClampNeg k.toNatClampNeg (defaultValue ty) (a := x) (by rw [hTh]; exact hx) n.toNatClampNeg
    rw [hF, hTh] at this
    exact this
  have hrow : ∀ j : Nat, j < n.toNatClampNeg → F.heap[H.size + 1 + j]? = some (vp_cell cy z) := fun j hj => by
    have := Jvm.Free.Multi.fill_inner (T.setVm vm₁) cA cy n.toNatClampNeg k.toNatClampNeg (defaultValue ty) n.toNatClampNeg j hj
    rw [hF, hTh, hz] at this
    exact this
  have hout : Jvm.Free.Multi.outerC cA n.toNatClampNeg H.size n.toNatClampNeg = vp_cell cA (n.toNatClampNeg, .inr (.inr (.inr (.inr (fun i => if i < n.toNatClampNeg then some (H.size + 1 + i) else none))))) := by
    rw [vp_cell_q]
    exact vr_outer cA n.toNatClampNeg H.size n.toNatClampNeg
  rw [hout] at f2
  have hlt : ∀ a, a ∈ L → a < H.size := fun a ha => by
    obtain ⟨k9, hk9⟩ := va_pl_get (X := X) (f := f) ha
    exact (hP k9 _ hk9).lt
  have hnl : ∀ i : Nat, i < n.toNatClampNeg → H.size + 1 + i ∉ L := fun i _ h => by
    have := hlt _ h
    omega
  have hnm : ∀ a, a ∈ (List.range n.toNatClampNeg).map (fun i => H.size + 1 + i) → a ∉ L := fun a ha h => by
    obtain ⟨i, -, rfl⟩ := List.mem_map.mp ha
    have := hlt _ h
    omega
  have hP0 : va_P D cl (X ++ va_pl L f) F.heap := hP.kept (fun k9 x hx => hold x.1 ((hP k9 x hx).lt))
  have hP1 : va_P D cl ((X ++ va_pl L f) ++ [(H.size, .inl (cA, n.toNatClampNeg, .inr (.inr (.inr (.inr (fun i => if i < n.toNatClampNeg then some (H.size + 1 + i) else none))))))]) F.heap := hP0.app (fun k9 x hx => by
    have h0 : k9 < 1 := (List.getElem?_eq_some_iff.mp hx).1
    rw [show k9 = 0 by omega] at hx
    cases hx
    exact f2)
  have hP2 : va_P D cl (((X ++ va_pl L f) ++ [(H.size, .inl (cA, n.toNatClampNeg, .inr (.inr (.inr (.inr (fun i => if i < n.toNatClampNeg then some (H.size + 1 + i) else none))))))]) ++ ((List.range n.toNatClampNeg).map (fun i => H.size + 1 + i)).map (fun a => (a, .inl (cy, z)))) F.heap := hP1.app (fun k9 x hx => by
    obtain ⟨a, ha, rfl⟩ := List.mem_map.mp (List.mem_of_getElem? hx)
    obtain ⟨i, hi, rfl⟩ := List.mem_map.mp ha
    exact hrow i (List.mem_range.mp hi))
  have hD2 : va_D A (((X ++ va_pl L f) ++ [(H.size, .inl (cA, n.toNatClampNeg, .inr (.inr (.inr (.inr (fun i => if i < n.toNatClampNeg then some (H.size + 1 + i) else none))))))]) ++ ((List.range n.toNatClampNeg).map (fun i => H.size + 1 + i)).map (fun a => (a, .inl (cy, z)))) := by
    have hD1 := hD.push (e := .inl (cA, n.toNatClampNeg, .inr (.inr (.inr (.inr (fun i => if i < n.toNatClampNeg then some (H.size + 1 + i) else none)))))) hP rfl (hA _ hS.1)
    generalize hW1 : (X ++ va_pl L f) ++ [(H.size, .inl (cA, n.toNatClampNeg, .inr (.inr (.inr (.inr (fun i => if i < n.toNatClampNeg then some (H.size + 1 + i) else none))))))] = W1 at hD1 hP1 ⊢
    have hle : ∀ (k9 : Nat) (x : Nat × va_E), W1[k9]? = some x → x.1 ≤ H.size := fun k9 x hx => by
      rw [← hW1] at hx
      by_cases hl : k9 < (X ++ va_pl L f).length
      · rw [List.getElem?_append_left hl] at hx
        exact Nat.le_of_lt ((hP k9 x hx).lt)
      · rw [List.getElem?_append_right (by omega)] at hx
        have h0 : k9 - (X ++ va_pl L f).length < 1 := (List.getElem?_eq_some_iff.mp hx).1
        rw [show k9 - (X ++ va_pl L f).length = 0 by omega] at hx
        cases hx
        exact Nat.le_refl _
    have hr : ∀ (k9 : Nat) (x : Nat × va_E), (((List.range n.toNatClampNeg).map (fun i => H.size + 1 + i)).map (fun a => ((a, .inl (cy, z)) : Nat × va_E)))[k9]? = some x → x.1 = H.size + 1 + k9 := fun k9 x hx => by
      rw [List.getElem?_map, List.getElem?_map] at hx
      by_cases h9 : k9 < n.toNatClampNeg
      · rw [List.getElem?_range h9] at hx
        cases hx
        rfl
      · have hn0 : (List.range n.toNatClampNeg)[k9]? = none := List.getElem?_eq_none (by rw [List.length_range]; omega)
        rw [hn0] at hx
        cases hx
    refine ⟨fun i j x y hi hj hxy => ?_, fun k9 x hx => ?_⟩
    · by_cases h1 : i < W1.length <;> by_cases h2 : j < W1.length
      · rw [List.getElem?_append_left h1] at hi
        rw [List.getElem?_append_left h2] at hj
        exact hD1.1 i j x y hi hj hxy
      · rw [List.getElem?_append_left h1] at hi
        rw [List.getElem?_append_right (by omega)] at hj
        have := hle _ _ hi
        have := hr _ _ hj
        omega
      · rw [List.getElem?_append_right (by omega)] at hi
        rw [List.getElem?_append_left h2] at hj
        have := hle _ _ hj
        have := hr _ _ hi
        omega
      · rw [List.getElem?_append_right (by omega)] at hi hj
        have := hr _ _ hi
        have := hr _ _ hj
        omega
    · by_cases h1 : k9 < W1.length
      · rw [List.getElem?_append_left h1] at hx
        exact hD1.2 k9 x hx
      · rw [List.getElem?_append_right (by omega)] at hx
        have := hr _ _ hx
        exact hA _ (by have := hS.1; omega)
  have hAr : ArrOfT s cA (.array ty) := fun N9 z9 => by
    obtain ⟨-, k9, hk9, cm9, hkk9⟩ := (hO 0 0 0).1
    exact ⟨(fun q hq => by cases hq), k9, hk9, cm9, hkk9⟩
  have hK2 : va_K D cl (tys ++ [(cA, .array ty)]) s := ⟨hK.1, fun k9 x hx => by
    by_cases hl : k9 < tys.length
    · rw [List.getElem?_append_left hl] at hx
      exact hK.2 k9 x hx
    · rw [List.getElem?_append_right (by omega)] at hx
      have h0 : k9 - tys.length < 1 := (List.getElem?_eq_some_iff.mp hx).1
      rw [show k9 - tys.length = 0 by omega] at hx
      cases hx
      exact ⟨hAr, fA⟩⟩
  obtain ⟨t, a1, b1⟩ := kk H.size (fun i => H.size + 1 + i) cA F.heap (fun i j _ _ h => by have h9 : H.size + 1 + i = H.size + 1 + j := h; omega) hnl hK2 (by rw [← vr_rows hnm]; exact vr_lay hP2) (by rw [← vr_rows hnm]; exact vr_layD hD2) ⟨by rw [f1]; have := hS.1; omega, fun x h1 h2 => (hold x (Nat.lt_of_lt_of_le h1 hS.1)).trans (hS.2.1 x h1 h2), hS.2.2⟩ F rfl X'
  refine ⟨t, step t ?_, b1⟩
  have e : T.heap.size = H.size := by rw [hT]
  rw [e]
  exact a1
end VGM
/-! ===== END ===== -/

def RX0 : String := "TwoWidths$Choice"
def TX0 : u_T := fun k => match k with
  | 0 => ("TwoWidths$Choice", "traffic", "LTwoWidths$Traffic;", true)
  | 1 => ("TwoWidths$Choice", "after", "LTwoWidths$Land;", true)
  | 2 => ("TwoWidths$Choice", "gained", "[I", true)
  | _ => ("TwoWidths$Choice", "trial", "LTwoWidths$Land;", true)
def tyX0 : Nat → FieldType := fun k => match k with
  | 0 => .object "TwoWidths$Traffic"
  | 1 => .object "TwoWidths$Land"
  | 2 => .array .int
  | _ => .object "TwoWidths$Land"
abbrev wsX00 : List Cond := u_ws RX0 TX0 4
theorem nmX0 : ∀ a, a < 4 → ∀ b, b < 4 → a ≠ b → (TX0 a).2.1 ≠ (TX0 b).2.1 := by decide +kernel
theorem tyX0_ok : ∀ k, k < 4 → parseFieldDescriptor (TX0 k).2.2.1 = some (tyX0 k) := by decide +kernel
abbrev cX0_init : ByteArray := prog_2_method_1_code
def yX0_init : MethodName := ⟨RX0, "<init>", "()V"⟩
abbrev cX0_freeWith : ByteArray := prog_2_method_2_code
def yX0_freeWith : MethodName := ⟨RX0, "freeWith", "(LTwoWidths$Land;I)I"⟩
abbrev cX0_totalOf : ByteArray := prog_2_method_3_code
def yX0_totalOf : MethodName := ⟨RX0, "totalOf", "(LTwoWidths$Land;I)I"⟩
abbrev cX0_bestOf : ByteArray := prog_2_method_4_code
def yX0_bestOf : MethodName := ⟨RX0, "bestOf", "(LTwoWidths$Land;)I"⟩
abbrev cX0_worthIn : ByteArray := prog_2_method_5_code
def yX0_worthIn : MethodName := ⟨RX0, "worthIn", "(LTwoWidths$Land;II)I"⟩
abbrev cX0_firstOf : ByteArray := prog_2_method_6_code
def yX0_firstOf : MethodName := ⟨RX0, "firstOf", "(LTwoWidths$Land;)I"⟩
abbrev cX0_greedyOf : ByteArray := prog_2_method_7_code
def yX0_greedyOf : MethodName := ⟨RX0, "greedyOf", "(LTwoWidths$Land;)I"⟩
abbrev cX0_neverOf : ByteArray := prog_2_method_8_code
def yX0_neverOf : MethodName := ⟨RX0, "neverOf", "(LTwoWidths$Land;)I"⟩
abbrev cX0_alwaysCostsMore : ByteArray := prog_2_method_9_code
def yX0_alwaysCostsMore : MethodName := ⟨RX0, "alwaysCostsMore", "(LTwoWidths$Land;I)Z"⟩
abbrev cX0_costOfWidth : ByteArray := prog_2_method_10_code
def yX0_costOfWidth : MethodName := ⟨RX0, "costOfWidth", "(LTwoWidths$Land;II)I"⟩
abbrev cX0_gainBy : ByteArray := prog_2_method_11_code
def yX0_gainBy : MethodName := ⟨RX0, "gainBy", "(LTwoWidths$Land;I)V"⟩
abbrev cX0_workTold : ByteArray := prog_2_method_12_code
def yX0_workTold : MethodName := ⟨RX0, "workTold", "(LTwoWidths$Land;J)I"⟩
abbrev cX0_wrongAt : ByteArray := prog_2_method_13_code
def yX0_wrongAt : MethodName := ⟨RX0, "wrongAt", "(LTwoWidths$Land;[JI)I"⟩
abbrev cX0_costOfPlan : ByteArray := prog_2_method_14_code
def yX0_costOfPlan : MethodName := ⟨RX0, "costOfPlan", "(LTwoWidths$Land;[JI)I"⟩
abbrev cX0_costOfYear : ByteArray := prog_2_method_15_code
def yX0_costOfYear : MethodName := ⟨RX0, "costOfYear", "(LTwoWidths$Land;I)I"⟩
def RX1 : String := "TwoWidths$Land"
def TX1 : u_T := fun k => match k with
  | 0 => ("TwoWidths$Land", "lineCount", "I", false)
  | 1 => ("TwoWidths$Land", "goodsCount", "I", false)
  | 2 => ("TwoWidths$Land", "workCount", "I", false)
  | 3 => ("TwoWidths$Land", "years", "I", false)
  | 4 => ("TwoWidths$Land", "lines", "[I", true)
  | 5 => ("TwoWidths$Land", "goods", "[I", true)
  | 6 => ("TwoWidths$Land", "works", "[I", true)
  | 7 => ("TwoWidths$Land", "change", "[I", true)
  | 8 => ("TwoWidths$Land", "coin", "[I", true)
  | 9 => ("TwoWidths$Land", "knownFree", "[I", true)
  | _ => ("TwoWidths$Land", "isKnown", "Z", false)
def tyX1 : Nat → FieldType := fun k => match k with
  | 0 => .int
  | 1 => .int
  | 2 => .int
  | 3 => .int
  | 4 => .array .int
  | 5 => .array .int
  | 6 => .array .int
  | 7 => .array .int
  | 8 => .array .int
  | 9 => .array .int
  | _ => .boolean
abbrev wsX10 : List Cond := u_ws RX1 TX1 11
theorem nmX1 : ∀ a, a < 11 → ∀ b, b < 11 → a ≠ b → (TX1 a).2.1 ≠ (TX1 b).2.1 := by decide +kernel
theorem tyX1_ok : ∀ k, k < 11 → parseFieldDescriptor (TX1 k).2.2.1 = some (tyX1 k) := by decide +kernel
abbrev cX1_init : ByteArray := prog_3_method_1_code
def yX1_init : MethodName := ⟨RX1, "<init>", "()V"⟩
abbrev cX1_take : ByteArray := prog_3_method_2_code
def yX1_take : MethodName := ⟨RX1, "take", "(LTwoWidths$Land;)V"⟩
abbrev cX1_hasLine : ByteArray := prog_3_method_3_code
def yX1_hasLine : MethodName := ⟨RX1, "hasLine", "(I)Z"⟩
abbrev cX1_hasGoods : ByteArray := prog_3_method_4_code
def yX1_hasGoods : MethodName := ⟨RX1, "hasGoods", "(I)Z"⟩
abbrev cX1_hasWork : ByteArray := prog_3_method_5_code
def yX1_hasWork : MethodName := ⟨RX1, "hasWork", "(I)Z"⟩
abbrev cX1_ofLine : ByteArray := prog_3_method_6_code
def yX1_ofLine : MethodName := ⟨RX1, "ofLine", "(II)I"⟩
abbrev cX1_ofGoods : ByteArray := prog_3_method_7_code
def yX1_ofGoods : MethodName := ⟨RX1, "ofGoods", "(II)I"⟩
abbrev cX1_ofWork : ByteArray := prog_3_method_8_code
def yX1_ofWork : MethodName := ⟨RX1, "ofWork", "(II)I"⟩
abbrev cX1_isDone : ByteArray := prog_3_method_9_code
def yX1_isDone : MethodName := ⟨RX1, "isDone", "(I)Z"⟩
abbrev cX1_doneWorks : ByteArray := prog_3_method_10_code
def yX1_doneWorks : MethodName := ⟨RX1, "doneWorks", "()I"⟩
abbrev cX1_linesThere : ByteArray := prog_3_method_11_code
def yX1_linesThere : MethodName := ⟨RX1, "linesThere", "()I"⟩
abbrev cX1_addLine : ByteArray := prog_3_method_12_code
def yX1_addLine : MethodName := ⟨RX1, "addLine", "(IIIIII)V"⟩
abbrev cX1_addGoods : ByteArray := prog_3_method_13_code
def yX1_addGoods : MethodName := ⟨RX1, "addGoods", "(III)V"⟩
abbrev cX1_addWork : ByteArray := prog_3_method_14_code
def yX1_addWork : MethodName := ⟨RX1, "addWork", "(IIII)V"⟩
abbrev cX1_putChange : ByteArray := prog_3_method_15_code
def yX1_putChange : MethodName := ⟨RX1, "putChange", "(II)V"⟩
abbrev cX1_putCoin : ByteArray := prog_3_method_16_code
def yX1_putCoin : MethodName := ⟨RX1, "putCoin", "(II)V"⟩
abbrev cX1_putWashed : ByteArray := prog_3_method_17_code
def yX1_putWashed : MethodName := ⟨RX1, "putWashed", "(II)V"⟩
abbrev cX1_putWidths : ByteArray := prog_3_method_18_code
def yX1_putWidths : MethodName := ⟨RX1, "putWidths", "(II)V"⟩
abbrev cX1_greatestA : ByteArray := prog_3_method_19_code
def yX1_greatestA : MethodName := ⟨RX1, "greatestA", "(I)I"⟩
abbrev cX1_greatestB : ByteArray := prog_3_method_20_code
def yX1_greatestB : MethodName := ⟨RX1, "greatestB", "(I)I"⟩
abbrev cX1_allowsWork : ByteArray := prog_3_method_21_code
def yX1_allowsWork : MethodName := ⟨RX1, "allowsWork", "(III)Z"⟩
abbrev cX1_perform : ByteArray := prog_3_method_22_code
def yX1_perform : MethodName := ⟨RX1, "perform", "(I)V"⟩
abbrev cX1_performForGood : ByteArray := prog_3_method_23_code
def yX1_performForGood : MethodName := ⟨RX1, "performForGood", "(I)V"⟩
abbrev cX1_freeKnown : ByteArray := prog_3_method_24_code
def yX1_freeKnown : MethodName := ⟨RX1, "freeKnown", "(I)I"⟩
abbrev cX1_keepFree : ByteArray := prog_3_method_25_code
def yX1_keepFree : MethodName := ⟨RX1, "keepFree", "(II)V"⟩
def RX2 : String := "TwoWidths$Shelves"
def TX2 : u_T := fun k => match k with
  | 0 => ("TwoWidths$Shelves", "elements", "[[J", true)
  | 1 => ("TwoWidths$Shelves", "held", "[I", true)
  | _ => ("TwoWidths$Shelves", "sizes", "[I", true)
def tyX2 : Nat → FieldType := fun k => match k with
  | 0 => .array (.array .long)
  | 1 => .array .int
  | _ => .array .int
abbrev wsX20 : List Cond := u_ws RX2 TX2 3
theorem nmX2 : ∀ a, a < 3 → ∀ b, b < 3 → a ≠ b → (TX2 a).2.1 ≠ (TX2 b).2.1 := by decide +kernel
theorem tyX2_ok : ∀ k, k < 3 → parseFieldDescriptor (TX2 k).2.2.1 = some (tyX2 k) := by decide +kernel
abbrev cX2_init : ByteArray := prog_4_method_1_code
def yX2_init : MethodName := ⟨RX2, "<init>", "()V"⟩
abbrev cX2_has : ByteArray := prog_4_method_2_code
def yX2_has : MethodName := ⟨RX2, "has", "(I)Z"⟩
abbrev cX2_hasRow : ByteArray := prog_4_method_3_code
def yX2_hasRow : MethodName := ⟨RX2, "hasRow", "(I)Z"⟩
abbrev cX2_hasWork : ByteArray := prog_4_method_4_code
def yX2_hasWork : MethodName := ⟨RX2, "hasWork", "(I)Z"⟩
abbrev cX2_differ : ByteArray := prog_4_method_5_code
def yX2_differ : MethodName := ⟨RX2, "differ", "(II)Z"⟩
abbrev cX2_workIn : ByteArray := prog_4_method_6_code
def yX2_workIn : MethodName := ⟨RX2, "workIn", "(I)I"⟩
abbrev cX2_putRow : ByteArray := prog_4_method_7_code
def yX2_putRow : MethodName := ⟨RX2, "putRow", "(III)V"⟩
abbrev cX2_put : ByteArray := prog_4_method_8_code
def yX2_put : MethodName := ⟨RX2, "put", "(IIJ)V"⟩
abbrev cX2_fitted : ByteArray := prog_4_method_9_code
def yX2_fitted : MethodName := ⟨RX2, "fitted", "(IJ)J"⟩
abbrev cX2_dropWorksFrom : ByteArray := prog_4_method_10_code
def yX2_dropWorksFrom : MethodName := ⟨RX2, "dropWorksFrom", "(I)V"⟩
abbrev cX2_inUse : ByteArray := prog_4_method_11_code
def yX2_inUse : MethodName := ⟨RX2, "inUse", "()I"⟩
def RX3 : String := "TwoWidths$Tape"
def TX3 : u_T := fun k => match k with
  | 0 => ("TwoWidths$Tape", "bytes", "[I", true)
  | 1 => ("TwoWidths$Tape", "size", "I", false)
  | 2 => ("TwoWidths$Tape", "start", "I", false)
  | 3 => ("TwoWidths$Tape", "end", "I", false)
  | 4 => ("TwoWidths$Tape", "token", "I", false)
  | _ => ("TwoWidths$Tape", "value", "I", false)
def tyX3 : Nat → FieldType := fun k => match k with
  | 0 => .array .int
  | 1 => .int
  | 2 => .int
  | 3 => .int
  | 4 => .int
  | _ => .int
abbrev wsX30 : List Cond := u_ws RX3 TX3 6
theorem nmX3 : ∀ a, a < 6 → ∀ b, b < 6 → a ≠ b → (TX3 a).2.1 ≠ (TX3 b).2.1 := by decide +kernel
theorem tyX3_ok : ∀ k, k < 6 → parseFieldDescriptor (TX3 k).2.2.1 = some (tyX3 k) := by decide +kernel
abbrev cX3_init : ByteArray := prog_5_method_1_code
def yX3_init : MethodName := ⟨RX3, "<init>", "()V"⟩
abbrev cX3_put : ByteArray := prog_5_method_2_code
def yX3_put : MethodName := ⟨RX3, "put", "(I)V"⟩
abbrev cX3_readInto : ByteArray := prog_5_method_3_code
def yX3_readInto : MethodName := ⟨RX3, "readInto", "(LTwoWidths$Land;)I"⟩
abbrev cX3_readStatement : ByteArray := prog_5_method_4_code
def yX3_readStatement : MethodName := ⟨RX3, "readStatement", "(LTwoWidths$Land;)Z"⟩
abbrev cX3_readLine : ByteArray := prog_5_method_5_code
def yX3_readLine : MethodName := ⟨RX3, "readLine", "(LTwoWidths$Land;)Z"⟩
abbrev cX3_readGoods : ByteArray := prog_5_method_6_code
def yX3_readGoods : MethodName := ⟨RX3, "readGoods", "(LTwoWidths$Land;)Z"⟩
abbrev cX3_readWork : ByteArray := prog_5_method_7_code
def yX3_readWork : MethodName := ⟨RX3, "readWork", "(LTwoWidths$Land;)Z"⟩
abbrev cX3_readChange : ByteArray := prog_5_method_8_code
def yX3_readChange : MethodName := ⟨RX3, "readChange", "(LTwoWidths$Land;)Z"⟩
abbrev cX3_readCoin : ByteArray := prog_5_method_9_code
def yX3_readCoin : MethodName := ⟨RX3, "readCoin", "(LTwoWidths$Land;)Z"⟩
abbrev cX3_readYears : ByteArray := prog_5_method_10_code
def yX3_readYears : MethodName := ⟨RX3, "readYears", "(LTwoWidths$Land;)Z"⟩
abbrev cX3_number : ByteArray := prog_5_method_11_code
def yX3_number : MethodName := ⟨RX3, "number", "(II)I"⟩
abbrev cX3_numberUnlike : ByteArray := prog_5_method_12_code
def yX3_numberUnlike : MethodName := ⟨RX3, "numberUnlike", "(II)I"⟩
abbrev cX3_perhaps : ByteArray := prog_5_method_13_code
def yX3_perhaps : MethodName := ⟨RX3, "perhaps", "(Ljava/lang/String;III)I"⟩
abbrev cX3_isWord : ByteArray := prog_5_method_14_code
def yX3_isWord : MethodName := ⟨RX3, "isWord", "(Ljava/lang/String;)Z"⟩
abbrev cX3_next : ByteArray := prog_5_method_15_code
def yX3_next : MethodName := ⟨RX3, "next", "()V"⟩
abbrev cX3_tokenAt : ByteArray := prog_5_method_16_code
def yX3_tokenAt : MethodName := ⟨RX3, "tokenAt", "(I)I"⟩
abbrev cX3_valueHere : ByteArray := prog_5_method_17_code
def yX3_valueHere : MethodName := ⟨RX3, "valueHere", "()I"⟩
def RX4 : String := "TwoWidths$Traffic"
def TX4 : u_T := fun k => match k with
  | 0 => ("TwoWidths$Traffic", "ways", "LTwoWidths$Ways;", true)
  | 1 => ("TwoWidths$Traffic", "left", "[I", true)
  | 2 => ("TwoWidths$Traffic", "earned", "[I", true)
  | 3 => ("TwoWidths$Traffic", "turnCost", "I", false)
  | _ => ("TwoWidths$Traffic", "turnWayless", "I", false)
def tyX4 : Nat → FieldType := fun k => match k with
  | 0 => .object "TwoWidths$Ways"
  | 1 => .array .int
  | 2 => .array .int
  | 3 => .int
  | _ => .int
abbrev wsX40 : List Cond := u_ws RX4 TX4 5
theorem nmX4 : ∀ a, a < 5 → ∀ b, b < 5 → a ≠ b → (TX4 a).2.1 ≠ (TX4 b).2.1 := by decide +kernel
theorem tyX4_ok : ∀ k, k < 5 → parseFieldDescriptor (TX4 k).2.2.1 = some (tyX4 k) := by decide +kernel
abbrev cX4_init : ByteArray := prog_6_method_1_code
def yX4_init : MethodName := ⟨RX4, "<init>", "()V"⟩
abbrev cX4_costBetween : ByteArray := prog_6_method_2_code
def yX4_costBetween : MethodName := ⟨RX4, "costBetween", "(LTwoWidths$Land;II)I"⟩
abbrev cX4_freeBy : ByteArray := prog_6_method_3_code
def yX4_freeBy : MethodName := ⟨RX4, "freeBy", "(LTwoWidths$Land;I)I"⟩
abbrev cX4_sendInTurn : ByteArray := prog_6_method_4_code
def yX4_sendInTurn : MethodName := ⟨RX4, "sendInTurn", "(LTwoWidths$Land;)V"⟩
abbrev cX4_linesBearing : ByteArray := prog_6_method_5_code
def yX4_linesBearing : MethodName := ⟨RX4, "linesBearing", "(LTwoWidths$Land;I)I"⟩
abbrev cX4_load : ByteArray := prog_6_method_6_code
def yX4_load : MethodName := ⟨RX4, "load", "(I)V"⟩
abbrev cX4_earn : ByteArray := prog_6_method_7_code
def yX4_earn : MethodName := ⟨RX4, "earn", "(LTwoWidths$Land;[I)V"⟩
abbrev cX4_payOwners : ByteArray := prog_6_method_8_code
def yX4_payOwners : MethodName := ⟨RX4, "payOwners", "(LTwoWidths$Land;I[I)V"⟩
abbrev cX4_tonsAt : ByteArray := prog_6_method_9_code
def yX4_tonsAt : MethodName := ⟨RX4, "tonsAt", "(LTwoWidths$Land;IZ)I"⟩
abbrev cX4_changesAt : ByteArray := prog_6_method_10_code
def yX4_changesAt : MethodName := ⟨RX4, "changesAt", "(I)I"⟩
abbrev cX4_stepsTo : ByteArray := prog_6_method_11_code
def yX4_stepsTo : MethodName := ⟨RX4, "stepsTo", "(I)I"⟩
abbrev cX4_dearestLoss : ByteArray := prog_6_method_12_code
def yX4_dearestLoss : MethodName := ⟨RX4, "dearestLoss", "(LTwoWidths$Land;)I"⟩
def RX5 : String := "TwoWidths$Ways"
def TX5 : u_T := fun k => match k with
  | 0 => ("TwoWidths$Ways", "edgeA", "[I", true)
  | 1 => ("TwoWidths$Ways", "edgeB", "[I", true)
  | 2 => ("TwoWidths$Ways", "edgeCost", "[I", true)
  | 3 => ("TwoWidths$Ways", "edgeLine", "[I", true)
  | 4 => ("TwoWidths$Ways", "change", "[I", true)
  | 5 => ("TwoWidths$Ways", "away", "[I", true)
  | 6 => ("TwoWidths$Ways", "steps", "[I", true)
  | 7 => ("TwoWidths$Ways", "nodes", "[I", true)
  | 8 => ("TwoWidths$Ways", "stepCount", "I", false)
  | 9 => ("TwoWidths$Ways", "open", "[I", true)
  | 10 => ("TwoWidths$Ways", "openCount", "I", false)
  | 11 => ("TwoWidths$Ways", "seen", "J", false)
  | 12 => ("TwoWidths$Ways", "edgeCount", "I", false)
  | _ => ("TwoWidths$Ways", "aim", "I", false)
def tyX5 : Nat → FieldType := fun k => match k with
  | 0 => .array .int
  | 1 => .array .int
  | 2 => .array .int
  | 3 => .array .int
  | 4 => .array .int
  | 5 => .array .int
  | 6 => .array .int
  | 7 => .array .int
  | 8 => .int
  | 9 => .array .int
  | 10 => .int
  | 11 => .long
  | 12 => .int
  | _ => .int
abbrev wsX50 : List Cond := u_ws RX5 TX5 14
theorem nmX5 : ∀ a, a < 14 → ∀ b, b < 14 → a ≠ b → (TX5 a).2.1 ≠ (TX5 b).2.1 := by decide +kernel
theorem tyX5_ok : ∀ k, k < 14 → parseFieldDescriptor (TX5 k).2.2.1 = some (tyX5 k) := by decide +kernel
abbrev cX5_init : ByteArray := prog_7_method_1_code
def yX5_init : MethodName := ⟨RX5, "<init>", "()V"⟩
abbrev cX5_prepare : ByteArray := prog_7_method_2_code
def yX5_prepare : MethodName := ⟨RX5, "prepare", "(LTwoWidths$Land;I)V"⟩
abbrev cX5_aimAt : ByteArray := prog_7_method_3_code
def yX5_aimAt : MethodName := ⟨RX5, "aimAt", "(I)V"⟩
abbrev cX5_nearByLines : ByteArray := prog_7_method_4_code
def yX5_nearByLines : MethodName := ⟨RX5, "nearByLines", "()Z"⟩
abbrev cX5_nearByChanges : ByteArray := prog_7_method_5_code
def yX5_nearByChanges : MethodName := ⟨RX5, "nearByChanges", "()V"⟩
abbrev cX5_costFrom : ByteArray := prog_7_method_6_code
def yX5_costFrom : MethodName := ⟨RX5, "costFrom", "(I)I"⟩
abbrev cX5_trace : ByteArray := prog_7_method_7_code
def yX5_trace : MethodName := ⟨RX5, "trace", "(II)Z"⟩
abbrev cX5_note : ByteArray := prog_7_method_8_code
def yX5_note : MethodName := ⟨RX5, "note", "(II)V"⟩
abbrev cX5_stepOn : ByteArray := prog_7_method_9_code
def yX5_stepOn : MethodName := ⟨RX5, "stepOn", "(IJ)I"⟩
abbrev cX5_otherEnd : ByteArray := prog_7_method_10_code
def yX5_otherEnd : MethodName := ⟨RX5, "otherEnd", "(II)I"⟩
abbrev cX5_leads : ByteArray := prog_7_method_11_code
def yX5_leads : MethodName := ⟨RX5, "leads", "(IIIJ)Z"⟩
abbrev cX5_arrives : ByteArray := prog_7_method_12_code
def yX5_arrives : MethodName := ⟨RX5, "arrives", "(IJ)Z"⟩
abbrev cX5_openIfCheapest : ByteArray := prog_7_method_13_code
def yX5_openIfCheapest : MethodName := ⟨RX5, "openIfCheapest", "(III)V"⟩
abbrev cX5_isChange : ByteArray := prog_7_method_14_code
def yX5_isChange : MethodName := ⟨RX5, "isChange", "(I)Z"⟩
abbrev cX5_lineOn : ByteArray := prog_7_method_15_code
def yX5_lineOn : MethodName := ⟨RX5, "lineOn", "(I)I"⟩
abbrev cX5_placeAfter : ByteArray := prog_7_method_16_code
def yX5_placeAfter : MethodName := ⟨RX5, "placeAfter", "(I)I"⟩
abbrev cX5_widthAfter : ByteArray := prog_7_method_17_code
def yX5_widthAfter : MethodName := ⟨RX5, "widthAfter", "(I)I"⟩
abbrev cX5_changesOnWay : ByteArray := prog_7_method_18_code
def yX5_changesOnWay : MethodName := ⟨RX5, "changesOnWay", "()I"⟩
abbrev cX5_linesOnWay : ByteArray := prog_7_method_19_code
def yX5_linesOnWay : MethodName := ⟨RX5, "linesOnWay", "()I"⟩
abbrev cX5_lineAt : ByteArray := prog_7_method_20_code
def yX5_lineAt : MethodName := ⟨RX5, "lineAt", "(I)I"⟩
def RX6 : String := "TwoWidths"
def TX6 : u_T := fun k => match k with
  | 0 => ("TwoWidths", "state", "LTwoWidths$Land;", true)
  | 1 => ("TwoWidths", "kept", "LTwoWidths$Land;", true)
  | 2 => ("TwoWidths", "tape", "LTwoWidths$Tape;", true)
  | 3 => ("TwoWidths", "shelves", "LTwoWidths$Shelves;", true)
  | 4 => ("TwoWidths", "choice", "LTwoWidths$Choice;", true)
  | 5 => ("TwoWidths", "traffic", "LTwoWidths$Traffic;", true)
  | 6 => ("TwoWidths", "refused", "[I", true)
  | 7 => ("TwoWidths", "isKept", "Z", false)
  | 8 => ("TwoWidths", "gone", "I", false)
  | _ => ("TwoWidths", "spent", "I", false)
def tyX6 : Nat → FieldType := fun k => match k with
  | 0 => .object "TwoWidths$Land"
  | 1 => .object "TwoWidths$Land"
  | 2 => .object "TwoWidths$Tape"
  | 3 => .object "TwoWidths$Shelves"
  | 4 => .object "TwoWidths$Choice"
  | 5 => .object "TwoWidths$Traffic"
  | 6 => .array .int
  | 7 => .boolean
  | 8 => .int
  | _ => .int
abbrev wsX60 : List Cond := u_ws RX6 TX6 10
theorem nmX6 : ∀ a, a < 10 → ∀ b, b < 10 → a ≠ b → (TX6 a).2.1 ≠ (TX6 b).2.1 := by decide +kernel
theorem tyX6_ok : ∀ k, k < 10 → parseFieldDescriptor (TX6 k).2.2.1 = some (tyX6 k) := by decide +kernel
abbrev cX6_init : ByteArray := prog_1_method_1_code
def yX6_init : MethodName := ⟨RX6, "<init>", "()V"⟩
abbrev cX6_row : ByteArray := prog_1_method_2_code
def yX6_row : MethodName := ⟨RX6, "row", "(III)I"⟩
abbrev cX6_set : ByteArray := prog_1_method_3_code
def yX6_set : MethodName := ⟨RX6, "set", "(IIJ)I"⟩
abbrev cX6_copy : ByteArray := prog_1_method_4_code
def yX6_copy : MethodName := ⟨RX6, "copy", "(IIIII)I"⟩
abbrev cX6_element : ByteArray := prog_1_method_5_code
def yX6_element : MethodName := ⟨RX6, "element", "(II)J"⟩
abbrev cX6_holds : ByteArray := prog_1_method_6_code
def yX6_holds : MethodName := ⟨RX6, "holds", "(I)I"⟩
abbrev cX6_show : ByteArray := prog_1_method_7_code
def yX6_show : MethodName := ⟨RX6, "show", "(II)I"⟩
abbrev cX6_says : ByteArray := prog_1_method_8_code
def yX6_says : MethodName := ⟨RX6, "says", "(II)I"⟩
abbrev cX6_line : ByteArray := prog_1_method_9_code
def yX6_line : MethodName := ⟨RX6, "line", "(IIIIII)I"⟩
abbrev cX6_goods : ByteArray := prog_1_method_10_code
def yX6_goods : MethodName := ⟨RX6, "goods", "(III)I"⟩
abbrev cX6_work : ByteArray := prog_1_method_11_code
def yX6_work : MethodName := ⟨RX6, "work", "(IIII)I"⟩
abbrev cX6_change : ByteArray := prog_1_method_12_code
def yX6_change : MethodName := ⟨RX6, "change", "(II)I"⟩
abbrev cX6_coin : ByteArray := prog_1_method_13_code
def yX6_coin : MethodName := ⟨RX6, "coin", "(II)I"⟩
abbrev cX6_years : ByteArray := prog_1_method_14_code
def yX6_years : MethodName := ⟨RX6, "years", "(I)I"⟩
abbrev cX6_washed : ByteArray := prog_1_method_15_code
def yX6_washed : MethodName := ⟨RX6, "washed", "(IZ)I"⟩
abbrev cX6_feed : ByteArray := prog_1_method_16_code
def yX6_feed : MethodName := ⟨RX6, "feed", "(II)I"⟩
abbrev cX6_wipe : ByteArray := prog_1_method_17_code
def yX6_wipe : MethodName := ⟨RX6, "wipe", "()I"⟩
abbrev cX6_land : ByteArray := prog_1_method_18_code
def yX6_land : MethodName := ⟨RX6, "land", "()I"⟩
abbrev cX6_lineOf : ByteArray := prog_1_method_19_code
def yX6_lineOf : MethodName := ⟨RX6, "lineOf", "(II)I"⟩
abbrev cX6_goodsOf : ByteArray := prog_1_method_20_code
def yX6_goodsOf : MethodName := ⟨RX6, "goodsOf", "(II)I"⟩
abbrev cX6_workOf : ByteArray := prog_1_method_21_code
def yX6_workOf : MethodName := ⟨RX6, "workOf", "(II)I"⟩
abbrev cX6_cheapest : ByteArray := prog_1_method_22_code
def yX6_cheapest : MethodName := ⟨RX6, "cheapest", "(II)I"⟩
abbrev cX6_way : ByteArray := prog_1_method_23_code
def yX6_way : MethodName := ⟨RX6, "way", "(II)I"⟩
abbrev cX6_free : ByteArray := prog_1_method_24_code
def yX6_free : MethodName := ⟨RX6, "free", "()I"⟩
abbrev cX6_turn : ByteArray := prog_1_method_25_code
def yX6_turn : MethodName := ⟨RX6, "turn", "(I)I"⟩
abbrev cX6_total : ByteArray := prog_1_method_26_code
def yX6_total : MethodName := ⟨RX6, "total", "(I)I"⟩
abbrev cX6_best : ByteArray := prog_1_method_27_code
def yX6_best : MethodName := ⟨RX6, "best", "()I"⟩
abbrev cX6_worth : ByteArray := prog_1_method_28_code
def yX6_worth : MethodName := ⟨RX6, "worth", "(I)I"⟩
abbrev cX6_first : ByteArray := prog_1_method_29_code
def yX6_first : MethodName := ⟨RX6, "first", "()I"⟩
abbrev cX6_greedy : ByteArray := prog_1_method_30_code
def yX6_greedy : MethodName := ⟨RX6, "greedy", "()I"⟩
abbrev cX6_gap : ByteArray := prog_1_method_31_code
def yX6_gap : MethodName := ⟨RX6, "gap", "()I"⟩
abbrev cX6_edge : ByteArray := prog_1_method_32_code
def yX6_edge : MethodName := ⟨RX6, "edge", "(I)I"⟩
abbrev cX6_never : ByteArray := prog_1_method_33_code
def yX6_never : MethodName := ⟨RX6, "never", "()I"⟩
abbrev cX6_one : ByteArray := prog_1_method_34_code
def yX6_one : MethodName := ⟨RX6, "one", "(II)I"⟩
abbrev cX6_which : ByteArray := prog_1_method_35_code
def yX6_which : MethodName := ⟨RX6, "which", "(I)I"⟩
abbrev cX6_earns : ByteArray := prog_1_method_36_code
def yX6_earns : MethodName := ⟨RX6, "earns", "(I)I"⟩
abbrev cX6_gains : ByteArray := prog_1_method_37_code
def yX6_gains : MethodName := ⟨RX6, "gains", "(II)I"⟩
abbrev cX6_losers : ByteArray := prog_1_method_38_code
def yX6_losers : MethodName := ⟨RX6, "losers", "(I)I"⟩
abbrev cX6_port : ByteArray := prog_1_method_39_code
def yX6_port : MethodName := ⟨RX6, "port", "(IZ)I"⟩
abbrev cX6_hangs : ByteArray := prog_1_method_40_code
def yX6_hangs : MethodName := ⟨RX6, "hangs", "()I"⟩
abbrev cX6_plan : ByteArray := prog_1_method_41_code
def yX6_plan : MethodName := ⟨RX6, "plan", "(II)I"⟩
abbrev cX6_judge : ByteArray := prog_1_method_42_code
def yX6_judge : MethodName := ⟨RX6, "judge", "(II)I"⟩
abbrev cX6_year : ByteArray := prog_1_method_43_code
def yX6_year : MethodName := ⟨RX6, "year", "(I)I"⟩
abbrev cX6_run : ByteArray := prog_1_method_44_code
def yX6_run : MethodName := ⟨RX6, "run", "(I)I"⟩
abbrev cX6_image : ByteArray := prog_1_method_45_code
def yX6_image : MethodName := ⟨RX6, "image", "()I"⟩
abbrev cX6_back : ByteArray := prog_1_method_46_code
def yX6_back : MethodName := ⟨RX6, "back", "()I"⟩
abbrev cX6_status : ByteArray := prog_1_method_47_code
def yX6_status : MethodName := ⟨RX6, "status", "(I)I"⟩
abbrev cX6_refuse : ByteArray := prog_1_method_48_code
def yX6_refuse : MethodName := ⟨RX6, "refuse", "(I)I"⟩
abbrev cX6_noRow : ByteArray := prog_1_method_49_code
def yX6_noRow : MethodName := ⟨RX6, "noRow", "(I)I"⟩
abbrev cX6_noPlan : ByteArray := prog_1_method_50_code
def yX6_noPlan : MethodName := ⟨RX6, "noPlan", "(II)I"⟩
abbrev cX6_noChoice : ByteArray := prog_1_method_51_code
def yX6_noChoice : MethodName := ⟨RX6, "noChoice", "(I)I"⟩
abbrev cX6_passYear : ByteArray := prog_1_method_52_code
def yX6_passYear : MethodName := ⟨RX6, "passYear", "(I)I"⟩
abbrev cX6_within : ByteArray := prog_1_method_53_code
def yX6_within : MethodName := ⟨RX6, "within", "(III)Z"⟩
abbrev cX6_isPlace : ByteArray := prog_1_method_54_code
def yX6_isPlace : MethodName := ⟨RX6, "isPlace", "(I)Z"⟩
abbrev cX6_isUnder : ByteArray := prog_1_method_55_code
def yX6_isUnder : MethodName := ⟨RX6, "isUnder", "(II)Z"⟩
def RX7 : String := "TwoWidthsModel"
def TX7 : u_T := fun k => match k with
  | 0 => ("TwoWidthsModel", "shelf", "[I", true)
  | 1 => ("TwoWidthsModel", "rowSort", "[I", true)
  | 2 => ("TwoWidthsModel", "rowSize", "[I", true)
  | 3 => ("TwoWidthsModel", "rows", "[[J", true)
  | 4 => ("TwoWidthsModel", "moved", "[J", true)
  | 5 => ("TwoWidthsModel", "shown", "[I", true)
  | 6 => ("TwoWidthsModel", "tape", "[I", true)
  | 7 => ("TwoWidthsModel", "tapeSize", "I", false)
  | 8 => ("TwoWidthsModel", "refused", "[I", true)
  | 9 => ("TwoWidthsModel", "lines", "I", false)
  | 10 => ("TwoWidthsModel", "line", "[[I", true)
  | 11 => ("TwoWidthsModel", "changes", "[I", true)
  | 12 => ("TwoWidthsModel", "coins", "[I", true)
  | 13 => ("TwoWidthsModel", "goods", "I", false)
  | 14 => ("TwoWidthsModel", "good", "[[I", true)
  | 15 => ("TwoWidthsModel", "works", "I", false)
  | 16 => ("TwoWidthsModel", "work", "[[I", true)
  | 17 => ("TwoWidthsModel", "years", "I", false)
  | 18 => ("TwoWidthsModel", "gone", "I", false)
  | 19 => ("TwoWidthsModel", "spent", "I", false)
  | 20 => ("TwoWidthsModel", "kept", "LTwoWidthsModel;", false)
  | 21 => ("TwoWidthsModel", "tried", "LTwoWidthsModel;", false)
  | 22 => ("TwoWidthsModel", "chosen", "LTwoWidthsModel;", false)
  | 23 => ("TwoWidthsModel", "at", "I", false)
  | 24 => ("TwoWidthsModel", "token", "I", false)
  | 25 => ("TwoWidthsModel", "from", "I", false)
  | 26 => ("TwoWidthsModel", "figures", "J", false)
  | 27 => ("TwoWidthsModel", "fault", "I", false)
  | 28 => ("TwoWidthsModel", "numbers", "[I", true)
  | 29 => ("TwoWidthsModel", "statements", "I", false)
  | 30 => ("TwoWidthsModel", "left", "[I", true)
  | 31 => ("TwoWidthsModel", "far", "[I", true)
  | 32 => ("TwoWidthsModel", "tons", "I", false)
  | 33 => ("TwoWidthsModel", "way", "[I", true)
  | 34 => ("TwoWidthsModel", "steps", "I", false)
  | 35 => ("TwoWidthsModel", "met", "J", false)
  | 36 => ("TwoWidthsModel", "queue", "[I", true)
  | _ => ("TwoWidthsModel", "totals", "[I", true)
def tyX7 : Nat → FieldType := fun k => match k with
  | 0 => .array .int
  | 1 => .array .int
  | 2 => .array .int
  | 3 => .array (.array .long)
  | 4 => .array .long
  | 5 => .array .int
  | 6 => .array .int
  | 7 => .int
  | 8 => .array .int
  | 9 => .int
  | 10 => .array (.array .int)
  | 11 => .array .int
  | 12 => .array .int
  | 13 => .int
  | 14 => .array (.array .int)
  | 15 => .int
  | 16 => .array (.array .int)
  | 17 => .int
  | 18 => .int
  | 19 => .int
  | 20 => .object "TwoWidthsModel"
  | 21 => .object "TwoWidthsModel"
  | 22 => .object "TwoWidthsModel"
  | 23 => .int
  | 24 => .int
  | 25 => .int
  | 26 => .long
  | 27 => .int
  | 28 => .array .int
  | 29 => .int
  | 30 => .array .int
  | 31 => .array .int
  | 32 => .int
  | 33 => .array .int
  | 34 => .int
  | 35 => .long
  | 36 => .array .int
  | _ => .array .int
abbrev wsX70 : List Cond := u_ws RX7 TX7 38
theorem nmX7 : ∀ a, a < 38 → ∀ b, b < 38 → a ≠ b → (TX7 a).2.1 ≠ (TX7 b).2.1 := by decide +kernel
theorem tyX7_ok : ∀ k, k < 38 → parseFieldDescriptor (TX7 k).2.2.1 = some (tyX7 k) := by decide +kernel
abbrev cX7_init : ByteArray := prog_9_method_1_code
def yX7_init : MethodName := ⟨RX7, "<init>", "()V"⟩
abbrev cX7_refuse : ByteArray := prog_9_method_2_code
def yX7_refuse : MethodName := ⟨RX7, "refuse", "(I)I"⟩
abbrev cX7_in : ByteArray := prog_9_method_3_code
def yX7_in : MethodName := ⟨RX7, "in", "(JJJ)Z"⟩
abbrev cX7_isPlace : ByteArray := prog_9_method_4_code
def yX7_isPlace : MethodName := ⟨RX7, "isPlace", "(I)Z"⟩
abbrev cX7_isLine : ByteArray := prog_9_method_5_code
def yX7_isLine : MethodName := ⟨RX7, "isLine", "(I)Z"⟩
abbrev cX7_isWork : ByteArray := prog_9_method_6_code
def yX7_isWork : MethodName := ⟨RX7, "isWork", "(I)Z"⟩
abbrev cX7_row : ByteArray := prog_9_method_7_code
def yX7_row : MethodName := ⟨RX7, "row", "(III)I"⟩
abbrev cX7_fit : ByteArray := prog_9_method_8_code
def yX7_fit : MethodName := ⟨RX7, "fit", "(IJ)J"⟩
abbrev cX7_set : ByteArray := prog_9_method_9_code
def yX7_set : MethodName := ⟨RX7, "set", "(IIJ)I"⟩
abbrev cX7_copy : ByteArray := prog_9_method_10_code
def yX7_copy : MethodName := ⟨RX7, "copy", "(IIIII)I"⟩
abbrev cX7_element : ByteArray := prog_9_method_11_code
def yX7_element : MethodName := ⟨RX7, "element", "(II)J"⟩
abbrev cX7_holds : ByteArray := prog_9_method_12_code
def yX7_holds : MethodName := ⟨RX7, "holds", "(I)I"⟩
abbrev cX7_show : ByteArray := prog_9_method_13_code
def yX7_show : MethodName := ⟨RX7, "show", "(II)I"⟩
abbrev cX7_isUnder : ByteArray := prog_9_method_14_code
def yX7_isUnder : MethodName := ⟨RX7, "isUnder", "(II)Z"⟩
abbrev cX7_says : ByteArray := prog_9_method_15_code
def yX7_says : MethodName := ⟨RX7, "says", "(II)I"⟩
abbrev cX7_newLine : ByteArray := prog_9_method_16_code
def yX7_newLine : MethodName := ⟨RX7, "newLine", "(II)V"⟩
abbrev cX7_line : ByteArray := prog_9_method_17_code
def yX7_line : MethodName := ⟨RX7, "line", "(IIIIII)I"⟩
abbrev cX7_goods : ByteArray := prog_9_method_18_code
def yX7_goods : MethodName := ⟨RX7, "goods", "(III)I"⟩
abbrev cX7_mayBeFirst : ByteArray := prog_9_method_19_code
def yX7_mayBeFirst : MethodName := ⟨RX7, "mayBeFirst", "(II)Z"⟩
abbrev cX7_mayBeSecond : ByteArray := prog_9_method_20_code
def yX7_mayBeSecond : MethodName := ⟨RX7, "mayBeSecond", "(III)Z"⟩
abbrev cX7_work : ByteArray := prog_9_method_21_code
def yX7_work : MethodName := ⟨RX7, "work", "(IIII)I"⟩
abbrev cX7_change : ByteArray := prog_9_method_22_code
def yX7_change : MethodName := ⟨RX7, "change", "(II)I"⟩
abbrev cX7_coin : ByteArray := prog_9_method_23_code
def yX7_coin : MethodName := ⟨RX7, "coin", "(II)I"⟩
abbrev cX7_years : ByteArray := prog_9_method_24_code
def yX7_years : MethodName := ⟨RX7, "years", "(I)I"⟩
abbrev cX7_washed : ByteArray := prog_9_method_25_code
def yX7_washed : MethodName := ⟨RX7, "washed", "(IZ)I"⟩
abbrev cX7_feed : ByteArray := prog_9_method_26_code
def yX7_feed : MethodName := ⟨RX7, "feed", "(II)I"⟩
abbrev cX7_wipe : ByteArray := prog_9_method_27_code
def yX7_wipe : MethodName := ⟨RX7, "wipe", "()I"⟩
abbrev cX7_isLetter : ByteArray := prog_9_method_28_code
def yX7_isLetter : MethodName := ⟨RX7, "isLetter", "(I)Z"⟩
abbrev cX7_isDigit : ByteArray := prog_9_method_29_code
def yX7_isDigit : MethodName := ⟨RX7, "isDigit", "(I)Z"⟩
abbrev cX7_look : ByteArray := prog_9_method_30_code
def yX7_look : MethodName := ⟨RX7, "look", "()V"⟩
abbrev cX7_wrong : ByteArray := prog_9_method_31_code
def yX7_wrong : MethodName := ⟨RX7, "wrong", "()Z"⟩
abbrev cX7_isWord : ByteArray := prog_9_method_32_code
def yX7_isWord : MethodName := ⟨RX7, "isWord", "(Ljava/lang/String;)Z"⟩
abbrev cX7_number : ByteArray := prog_9_method_33_code
def yX7_number : MethodName := ⟨RX7, "number", "([IIII)Z"⟩
abbrev cX7_told : ByteArray := prog_9_method_34_code
def yX7_told : MethodName := ⟨RX7, "told", "(Ljava/lang/String;[IIII)Z"⟩
abbrev cX7_perhaps : ByteArray := prog_9_method_35_code
def yX7_perhaps : MethodName := ⟨RX7, "perhaps", "(Ljava/lang/String;[IIII)Z"⟩
abbrev cX7_two : ByteArray := prog_9_method_36_code
def yX7_two : MethodName := ⟨RX7, "two", "([I)Z"⟩
abbrev cX7_statement : ByteArray := prog_9_method_37_code
def yX7_statement : MethodName := ⟨RX7, "statement", "()Z"⟩
abbrev cX7_workTold : ByteArray := prog_9_method_38_code
def yX7_workTold : MethodName := ⟨RX7, "workTold", "([I)Z"⟩
abbrev cX7_read : ByteArray := prog_9_method_39_code
def yX7_read : MethodName := ⟨RX7, "read", "()Z"⟩
abbrev cX7_land : ByteArray := prog_9_method_40_code
def yX7_land : MethodName := ⟨RX7, "land", "()I"⟩
abbrev cX7_lineOf : ByteArray := prog_9_method_41_code
def yX7_lineOf : MethodName := ⟨RX7, "lineOf", "(II)I"⟩
abbrev cX7_goodsOf : ByteArray := prog_9_method_42_code
def yX7_goodsOf : MethodName := ⟨RX7, "goodsOf", "(II)I"⟩
abbrev cX7_workOf : ByteArray := prog_9_method_43_code
def yX7_workOf : MethodName := ⟨RX7, "workOf", "(II)I"⟩
abbrev cX7_bears : ByteArray := prog_9_method_44_code
def yX7_bears : MethodName := ⟨RX7, "bears", "(II)Z"⟩
abbrev cX7_refill : ByteArray := prog_9_method_45_code
def yX7_refill : MethodName := ⟨RX7, "refill", "()V"⟩
abbrev cX7_findFar : ByteArray := prog_9_method_46_code
def yX7_findFar : MethodName := ⟨RX7, "findFar", "(II)V"⟩
abbrev cX7_least : ByteArray := prog_9_method_47_code
def yX7_least : MethodName := ⟨RX7, "least", "(I)I"⟩
abbrev cX7_stepTo : ByteArray := prog_9_method_48_code
def yX7_stepTo : MethodName := ⟨RX7, "stepTo", "(II)I"⟩
abbrev cX7_canEnd : ByteArray := prog_9_method_49_code
def yX7_canEnd : MethodName := ⟨RX7, "canEnd", "(II)Z"⟩
abbrev cX7_findWay : ByteArray := prog_9_method_50_code
def yX7_findWay : MethodName := ⟨RX7, "findWay", "(III)Z"⟩
abbrev cX7_cheapest : ByteArray := prog_9_method_51_code
def yX7_cheapest : MethodName := ⟨RX7, "cheapest", "(II)I"⟩
abbrev cX7_findGoods : ByteArray := prog_9_method_52_code
def yX7_findGoods : MethodName := ⟨RX7, "findGoods", "(I)Z"⟩
abbrev cX7_way : ByteArray := prog_9_method_53_code
def yX7_way : MethodName := ⟨RX7, "way", "(II)I"⟩
abbrev cX7_free : ByteArray := prog_9_method_54_code
def yX7_free : MethodName := ⟨RX7, "free", "()I"⟩
abbrev cX7_turn : ByteArray := prog_9_method_55_code
def yX7_turn : MethodName := ⟨RX7, "turn", "(I)I"⟩
abbrev cX7_earned : ByteArray := prog_9_method_56_code
def yX7_earned : MethodName := ⟨RX7, "earned", "(I)I"⟩
abbrev cX7_earns : ByteArray := prog_9_method_57_code
def yX7_earns : MethodName := ⟨RX7, "earns", "(I)I"⟩
abbrev cX7_port : ByteArray := prog_9_method_58_code
def yX7_port : MethodName := ⟨RX7, "port", "(IZ)I"⟩
abbrev cX7_hangs : ByteArray := prog_9_method_59_code
def yX7_hangs : MethodName := ⟨RX7, "hangs", "()I"⟩
abbrev cX7_fresh : ByteArray := prog_9_method_60_code
def yX7_fresh : MethodName := ⟨RX7, "fresh", "()LTwoWidthsModel;"⟩
abbrev cX7_does : ByteArray := prog_9_method_61_code
def yX7_does : MethodName := ⟨RX7, "does", "(I)V"⟩
abbrev cX7_totalOf : ByteArray := prog_9_method_62_code
def yX7_totalOf : MethodName := ⟨RX7, "totalOf", "(I)I"⟩
abbrev cX7_total : ByteArray := prog_9_method_63_code
def yX7_total : MethodName := ⟨RX7, "total", "(I)I"⟩
abbrev cX7_best : ByteArray := prog_9_method_64_code
def yX7_best : MethodName := ⟨RX7, "best", "()I"⟩
abbrev cX7_saves : ByteArray := prog_9_method_65_code
def yX7_saves : MethodName := ⟨RX7, "saves", "(I)I"⟩
abbrev cX7_worthOf : ByteArray := prog_9_method_66_code
def yX7_worthOf : MethodName := ⟨RX7, "worthOf", "(I)I"⟩
abbrev cX7_worth : ByteArray := prog_9_method_67_code
def yX7_worth : MethodName := ⟨RX7, "worth", "(I)I"⟩
abbrev cX7_first : ByteArray := prog_9_method_68_code
def yX7_first : MethodName := ⟨RX7, "first", "()I"⟩
abbrev cX7_greedy : ByteArray := prog_9_method_69_code
def yX7_greedy : MethodName := ⟨RX7, "greedy", "()I"⟩
abbrev cX7_gap : ByteArray := prog_9_method_70_code
def yX7_gap : MethodName := ⟨RX7, "gap", "()I"⟩
abbrev cX7_edge : ByteArray := prog_9_method_71_code
def yX7_edge : MethodName := ⟨RX7, "edge", "(I)I"⟩
abbrev cX7_never : ByteArray := prog_9_method_72_code
def yX7_never : MethodName := ⟨RX7, "never", "()I"⟩
abbrev cX7_oneWidth : ByteArray := prog_9_method_73_code
def yX7_oneWidth : MethodName := ⟨RX7, "oneWidth", "(II)I"⟩
abbrev cX7_one : ByteArray := prog_9_method_74_code
def yX7_one : MethodName := ⟨RX7, "one", "(II)I"⟩
abbrev cX7_which : ByteArray := prog_9_method_75_code
def yX7_which : MethodName := ⟨RX7, "which", "(I)I"⟩
abbrev cX7_gainOf : ByteArray := prog_9_method_76_code
def yX7_gainOf : MethodName := ⟨RX7, "gainOf", "(II)I"⟩
abbrev cX7_gains : ByteArray := prog_9_method_77_code
def yX7_gains : MethodName := ⟨RX7, "gains", "(II)I"⟩
abbrev cX7_losers : ByteArray := prog_9_method_78_code
def yX7_losers : MethodName := ⟨RX7, "losers", "(I)I"⟩
abbrev cX7_noRow : ByteArray := prog_9_method_79_code
def yX7_noRow : MethodName := ⟨RX7, "noRow", "(II)I"⟩
abbrev cX7_wrongAt : ByteArray := prog_9_method_80_code
def yX7_wrongAt : MethodName := ⟨RX7, "wrongAt", "(II)I"⟩
abbrev cX7_plan : ByteArray := prog_9_method_81_code
def yX7_plan : MethodName := ⟨RX7, "plan", "(II)I"⟩
abbrev cX7_judge : ByteArray := prog_9_method_82_code
def yX7_judge : MethodName := ⟨RX7, "judge", "(II)I"⟩
abbrev cX7_goes : ByteArray := prog_9_method_83_code
def yX7_goes : MethodName := ⟨RX7, "goes", "(I)I"⟩
abbrev cX7_year : ByteArray := prog_9_method_84_code
def yX7_year : MethodName := ⟨RX7, "year", "(I)I"⟩
abbrev cX7_run : ByteArray := prog_9_method_85_code
def yX7_run : MethodName := ⟨RX7, "run", "(I)I"⟩
abbrev cX7_over : ByteArray := prog_9_method_86_code
def yX7_over : MethodName := ⟨RX7, "over", "([I[I)V"⟩
abbrev cX7_overAll : ByteArray := prog_9_method_87_code
def yX7_overAll : MethodName := ⟨RX7, "overAll", "([[I[[I)V"⟩
abbrev cX7_takeFrom : ByteArray := prog_9_method_88_code
def yX7_takeFrom : MethodName := ⟨RX7, "takeFrom", "(LTwoWidthsModel;)V"⟩
abbrev cX7_image : ByteArray := prog_9_method_89_code
def yX7_image : MethodName := ⟨RX7, "image", "()I"⟩
abbrev cX7_back : ByteArray := prog_9_method_90_code
def yX7_back : MethodName := ⟨RX7, "back", "()I"⟩
abbrev cX7_status : ByteArray := prog_9_method_91_code
def yX7_status : MethodName := ⟨RX7, "status", "(I)I"⟩
def RJx145de : String := "java/io/Serializable"
def TJx145de : u_T := fun k => match k with
  | _ => ("", "", "", false)
def tyJx145de : Nat → FieldType := fun k => match k with
  | _ => .int
abbrev wsJx145de0 : List Cond := u_ws RJx145de TJx145de 0
theorem nmJx145de : ∀ a, a < 0 → ∀ b, b < 0 → a ≠ b → (TJx145de a).2.1 ≠ (TJx145de b).2.1 := by decide +kernel
theorem tyJx145de_ok : ∀ k, k < 0 → parseFieldDescriptor (TJx145de k).2.2.1 = some (tyJx145de k) := by decide +kernel
def RJx9f9b0 : String := "java/lang/CharSequence"
def TJx9f9b0 : u_T := fun k => match k with
  | _ => ("", "", "", false)
def tyJx9f9b0 : Nat → FieldType := fun k => match k with
  | _ => .int
abbrev wsJx9f9b00 : List Cond := u_ws RJx9f9b0 TJx9f9b0 0
theorem nmJx9f9b0 : ∀ a, a < 0 → ∀ b, b < 0 → a ≠ b → (TJx9f9b0 a).2.1 ≠ (TJx9f9b0 b).2.1 := by decide +kernel
theorem tyJx9f9b0_ok : ∀ k, k < 0 → parseFieldDescriptor (TJx9f9b0 k).2.2.1 = some (tyJx9f9b0 k) := by decide +kernel
def RJxb160c : String := "java/lang/Comparable"
def TJxb160c : u_T := fun k => match k with
  | _ => ("", "", "", false)
def tyJxb160c : Nat → FieldType := fun k => match k with
  | _ => .int
abbrev wsJxb160c0 : List Cond := u_ws RJxb160c TJxb160c 0
theorem nmJxb160c : ∀ a, a < 0 → ∀ b, b < 0 → a ≠ b → (TJxb160c a).2.1 ≠ (TJxb160c b).2.1 := by decide +kernel
theorem tyJxb160c_ok : ∀ k, k < 0 → parseFieldDescriptor (TJxb160c k).2.2.1 = some (tyJxb160c k) := by decide +kernel
def RJ6 : String := "java/lang/Integer"
def TJ6 : u_T := fun k => match k with
  | _ => ("", "", "", false)
def tyJ6 : Nat → FieldType := fun k => match k with
  | _ => .int
abbrev wsJ60 : List Cond := u_ws RJ6 TJ6 0
theorem nmJ6 : ∀ a, a < 0 → ∀ b, b < 0 → a ≠ b → (TJ6 a).2.1 ≠ (TJ6 b).2.1 := by decide +kernel
theorem tyJ6_ok : ∀ k, k < 0 → parseFieldDescriptor (TJ6 k).2.2.1 = some (tyJ6 k) := by decide +kernel
abbrev cJ6_bitCount_0f7a4 : ByteArray := prog_10_method_49_code
def yJ6_bitCount_0f7a4 : MethodName := ⟨RJ6, "bitCount", "(I)I"⟩
def RJ9 : String := "java/lang/Math"
def TJ9 : u_T := fun k => match k with
  | _ => ("", "", "", false)
def tyJ9 : Nat → FieldType := fun k => match k with
  | _ => .int
abbrev wsJ90 : List Cond := u_ws RJ9 TJ9 0
theorem nmJ9 : ∀ a, a < 0 → ∀ b, b < 0 → a ≠ b → (TJ9 a).2.1 ≠ (TJ9 b).2.1 := by decide +kernel
theorem tyJ9_ok : ∀ k, k < 0 → parseFieldDescriptor (TJ9 k).2.2.1 = some (tyJ9 k) := by decide +kernel
abbrev cJ9_max_7cf53 : ByteArray := prog_11_method_65_code
def yJ9_max_7cf53 : MethodName := ⟨RJ9, "max", "(II)I"⟩
abbrev cJ9_min_7cf53 : ByteArray := prog_11_method_69_code
def yJ9_min_7cf53 : MethodName := ⟨RJ9, "min", "(II)I"⟩
def RJ0 : String := "java/lang/String"
def TJ0 : u_T := fun k => match k with
  | _ => ("", "", "", false)
def tyJ0 : Nat → FieldType := fun k => match k with
  | _ => .int
abbrev wsJ00 : List Cond := u_ws RJ0 TJ0 0
theorem nmJ0 : ∀ a, a < 0 → ∀ b, b < 0 → a ≠ b → (TJ0 a).2.1 ≠ (TJ0 b).2.1 := by decide +kernel
theorem tyJ0_ok : ∀ k, k < 0 → parseFieldDescriptor (TJ0 k).2.2.1 = some (tyJ0 k) := by decide +kernel
abbrev cJ0_length_8abf5 : ByteArray := prog_12_method_54_code
def yJ0_length_8abf5 : MethodName := ⟨RJ0, "length", "()I"⟩
abbrev cJ0_charAt_5068e : ByteArray := prog_12_method_56_code
def yJ0_charAt_5068e : MethodName := ⟨RJ0, "charAt", "(I)C"⟩
abbrev cJ0_coder_7d493 : ByteArray := prog_12_method_152_code
def yJ0_coder_7d493 : MethodName := ⟨RJ0, "coder", "()B"⟩
abbrev cJ0_isLatin1_aae02 : ByteArray := prog_12_method_154_code
def yJ0_isLatin1_aae02 : MethodName := ⟨RJ0, "isLatin1", "()Z"⟩
abbrev cJ0_checkIndex_df160 : ByteArray := prog_12_method_155_code
def yJ0_checkIndex_df160 : MethodName := ⟨RJ0, "checkIndex", "(II)V"⟩
def RJ1 : String := "java/lang/StringLatin1"
def TJ1 : u_T := fun k => match k with
  | _ => ("", "", "", false)
def tyJ1 : Nat → FieldType := fun k => match k with
  | _ => .int
abbrev wsJ10 : List Cond := u_ws RJ1 TJ1 0
theorem nmJ1 : ∀ a, a < 0 → ∀ b, b < 0 → a ≠ b → (TJ1 a).2.1 ≠ (TJ1 b).2.1 := by decide +kernel
theorem tyJ1_ok : ∀ k, k < 0 → parseFieldDescriptor (TJ1 k).2.2.1 = some (tyJ1 k) := by decide +kernel
abbrev cJ1_charAt_3b067 : ByteArray := prog_13_method_2_code
def yJ1_charAt_3b067 : MethodName := ⟨RJ1, "charAt", "([BI)C"⟩
def RJ2 : String := "java/lang/StringUTF16"
def TJ2 : u_T := fun k => match k with
  | _ => ("", "", "", false)
def tyJ2 : Nat → FieldType := fun k => match k with
  | _ => .int
abbrev wsJ20 : List Cond := u_ws RJ2 TJ2 0
theorem nmJ2 : ∀ a, a < 0 → ∀ b, b < 0 → a ≠ b → (TJ2 a).2.1 ≠ (TJ2 b).2.1 := by decide +kernel
theorem tyJ2_ok : ∀ k, k < 0 → parseFieldDescriptor (TJ2 k).2.2.1 = some (tyJ2 k) := by decide +kernel
abbrev cJ2_getChar_3b067 : ByteArray := prog_14_method_5_code
def yJ2_getChar_3b067 : MethodName := ⟨RJ2, "getChar", "([BI)C"⟩
abbrev cJ2_length_9d52b : ByteArray := prog_14_method_6_code
def yJ2_length_9d52b : MethodName := ⟨RJ2, "length", "([B)I"⟩
abbrev cJ2_charAt_3b067 : ByteArray := prog_14_method_83_code
def yJ2_charAt_3b067 : MethodName := ⟨RJ2, "charAt", "([BI)C"⟩
abbrev cJ2_checkIndex_2214a : ByteArray := prog_14_method_91_code
def yJ2_checkIndex_2214a : MethodName := ⟨RJ2, "checkIndex", "(I[B)V"⟩
def RJ10 : String := "java/lang/System"
def TJ10 : u_T := fun k => match k with
  | _ => ("", "", "", false)
def tyJ10 : Nat → FieldType := fun k => match k with
  | _ => .int
abbrev wsJ100 : List Cond := u_ws RJ10 TJ10 0
theorem nmJ10 : ∀ a, a < 0 → ∀ b, b < 0 → a ≠ b → (TJ10 a).2.1 ≠ (TJ10 b).2.1 := by decide +kernel
theorem tyJ10_ok : ∀ k, k < 0 → parseFieldDescriptor (TJ10 k).2.2.1 = some (tyJ10 k) := by decide +kernel
def RJxfd54e : String := "java/lang/constant/Constable"
def TJxfd54e : u_T := fun k => match k with
  | _ => ("", "", "", false)
def tyJxfd54e : Nat → FieldType := fun k => match k with
  | _ => .int
abbrev wsJxfd54e0 : List Cond := u_ws RJxfd54e TJxfd54e 0
theorem nmJxfd54e : ∀ a, a < 0 → ∀ b, b < 0 → a ≠ b → (TJxfd54e a).2.1 ≠ (TJxfd54e b).2.1 := by decide +kernel
theorem tyJxfd54e_ok : ∀ k, k < 0 → parseFieldDescriptor (TJxfd54e k).2.2.1 = some (tyJxfd54e k) := by decide +kernel
def RJx3cf43 : String := "java/lang/constant/ConstantDesc"
def TJx3cf43 : u_T := fun k => match k with
  | _ => ("", "", "", false)
def tyJx3cf43 : Nat → FieldType := fun k => match k with
  | _ => .int
abbrev wsJx3cf430 : List Cond := u_ws RJx3cf43 TJx3cf43 0
theorem nmJx3cf43 : ∀ a, a < 0 → ∀ b, b < 0 → a ≠ b → (TJx3cf43 a).2.1 ≠ (TJx3cf43 b).2.1 := by decide +kernel
theorem tyJx3cf43_ok : ∀ k, k < 0 → parseFieldDescriptor (TJx3cf43 k).2.2.1 = some (tyJx3cf43 k) := by decide +kernel
def RJ7 : String := "java/util/Arrays"
def TJ7 : u_T := fun k => match k with
  | _ => ("", "", "", false)
def tyJ7 : Nat → FieldType := fun k => match k with
  | _ => .int
abbrev wsJ70 : List Cond := u_ws RJ7 TJ7 0
theorem nmJ7 : ∀ a, a < 0 → ∀ b, b < 0 → a ≠ b → (TJ7 a).2.1 ≠ (TJ7 b).2.1 := by decide +kernel
theorem tyJ7_ok : ∀ k, k < 0 → parseFieldDescriptor (TJ7 k).2.2.1 = some (tyJ7 k) := by decide +kernel
abbrev cJ7_fill_d0a16 : ByteArray := prog_16_method_101_code
def yJ7_fill_d0a16 : MethodName := ⟨RJ7, "fill", "([JJ)V"⟩
abbrev cJ7_fill_53178 : ByteArray := prog_16_method_103_code
def yJ7_fill_53178 : MethodName := ⟨RJ7, "fill", "([II)V"⟩
def RJ3 : String := "jdk/internal/util/Preconditions"
def TJ3 : u_T := fun k => match k with
  | _ => ("", "", "", false)
def tyJ3 : Nat → FieldType := fun k => match k with
  | _ => .int
abbrev wsJ30 : List Cond := u_ws RJ3 TJ3 0
theorem nmJ3 : ∀ a, a < 0 → ∀ b, b < 0 → a ≠ b → (TJ3 a).2.1 ≠ (TJ3 b).2.1 := by decide +kernel
theorem tyJ3_ok : ∀ k, k < 0 → parseFieldDescriptor (TJ3 k).2.2.1 = some (tyJ3 k) := by decide +kernel
abbrev cJ3_checkIndex_8e157 : ByteArray := prog_17_method_11_code
def yJ3_checkIndex_8e157 : MethodName := ⟨RJ3, "checkIndex", "(IILjava/util/function/BiFunction;)I"⟩
def RL : String := "TwoWidthsLaw"
abbrev cL_law : ByteArray := code
def yL_law : MethodName := ⟨RL, "law", "([I)Z"⟩
abbrev vwCl : List vw_C := [(RX0, TX0, 4), (RX1, TX1, 11), (RX2, TX2, 3), (RX3, TX3, 6), (RX4, TX4, 5), (RX5, TX5, 14), (RX6, TX6, 10), (RX7, TX7, 38)]
end
section
/-! decode rows by one walk over a method's bytes -/
def dcR (c : ByteArray) (p : Nat) (i : Instr) (k : Nat) : Decidable (decode c p = .ok (i, k)) := inferInstance
theorem gbY {c : ByteArray} {p : Nat} {b : UInt8} {t : List UInt8} (h : c.data.toList.drop p = b :: t) : ∃ h' : p < c.size, c[p]'h' = b := by
  have hl : p < c.data.toList.length := by
    refine Nat.lt_of_not_le fun hle => ?_
    rw [List.drop_eq_nil_of_le hle] at h
    cases h
  rw [List.drop_eq_getElem_cons hl] at h
  injection h with h1 h2
  exact ⟨hl, h1⟩
theorem nxY {l : List UInt8} {p : Nat} {b : UInt8} {t : List UInt8} (h : l.drop p = b :: t) : l.drop (p + 1) = t := by
  have q := congrArg List.tail h
  rw [List.tail_drop] at q
  exact q
theorem bY {α β : Type} {r : Jvm.ClassFile.Decoder α} {f : α → Jvm.ClassFile.Decoder β} {c : ByteArray} {p q : Nat} {a : α} {x : Except Jvm.ClassFile.DecodeError (β × Nat)} (u : r c p = .ok (a, q)) (hx : f a c q = x) : (r >>= f) c p = x := by
  have e : (r >>= f) c p = Except.bind (r c p) (fun z => f z.1 c z.2) := rfl
  rw [e, u]
  exact hx
theorem mY {α β : Type} {r : Jvm.ClassFile.Decoder α} {f : α → β} {c : ByteArray} {p q : Nat} {a : α} (u : r c p = .ok (a, q)) : (f <$> r) c p = .ok (f a, q) := by
  have e : (f <$> r) c p = Except.bind (r c p) (fun z => .ok (f z.1, z.2)) := rfl
  rw [e, u]
  rfl
theorem u1Y {c : ByteArray} {p : Nat} {b : UInt8} {t : List UInt8} (h : c.data.toList.drop p = b :: t) : (Jvm.ClassFile.Reader.u1 : Jvm.ClassFile.Decoder Nat) c p = .ok (b.toNat, p + 1) := by
  obtain ⟨h', e⟩ := gbY h
  unfold Jvm.ClassFile.Reader.u1
  refine bY (a := c) (q := p) rfl (bY (a := p) (q := p) rfl ?_)
  rw [dif_pos h', e]
  rfl
theorem u2Y {c : ByteArray} {p : Nat} {b b' : UInt8} {t : List UInt8} (h : c.data.toList.drop p = b :: b' :: t) : (Jvm.ClassFile.Reader.u2 : Jvm.ClassFile.Decoder Nat) c p = .ok (b.toNat * 256 + b'.toNat, p + 1 + 1) := by
  unfold Jvm.ClassFile.Reader.u2
  exact bY (u1Y h) (bY (u1Y (nxY h)) rfl)
theorem s1Y {c : ByteArray} {p : Nat} {b : UInt8} {t : List UInt8} (h : c.data.toList.drop p = b :: t) : (Jvm.ClassFile.Reader.s1 : Jvm.ClassFile.Decoder Int) c p = .ok (Jvm.ClassFile.Reader.signed 8 b.toNat, p + 1) := by
  unfold Jvm.ClassFile.Reader.s1
  exact mY (u1Y h)
theorem s2Y {c : ByteArray} {p : Nat} {b b' : UInt8} {t : List UInt8} (h : c.data.toList.drop p = b :: b' :: t) : (Jvm.ClassFile.Reader.s2 : Jvm.ClassFile.Decoder Int) c p = .ok (Jvm.ClassFile.Reader.signed 16 (b.toNat * 256 + b'.toNat), p + 1 + 1) := by
  unfold Jvm.ClassFile.Reader.s2
  exact mY (u2Y h)
theorem dY {c : ByteArray} {p q k : Nat} {i : Instr} (e : (Jvm.ClassFile.Decoder.instr p) c p = .ok (i, q)) (hk : q - p = k) : decode c p = .ok (i, k) := by
  have d : decode c p = Except.bind ((Jvm.ClassFile.Decoder.instr p) c p) (fun z => .ok (z.1, z.2 - p)) := rfl
  rw [d, e, ← hk]
  rfl
def o1Y (t : List UInt8) (f : Nat → Instr) : Option (Instr × Nat) := match t with
  | b :: _ => some (f b.toNat, 2)
  | _ => none
def o2Y (t : List UInt8) (f : Nat → Instr) : Option (Instr × Nat) := match t with
  | b :: b' :: _ => some (f (b.toNat * 256 + b'.toNat), 3)
  | _ => none
def oiY (t : List UInt8) (f : Nat → Nat → Instr) : Option (Instr × Nat) := match t with
  | b :: b' :: _ => some (f b.toNat b'.toNat, 3)
  | _ => none
set_option maxRecDepth 100000 in
theorem a42Y {c : ByteArray} {p k : Nat} {b : UInt8} {t : List UInt8} {i : Instr} (h : c.data.toList.drop p = b :: t) (hb : b.toNat = 42) (e : some (Jvm.ClassFile.Instr.aload_n 0, 1) = some (i, k)) : decode c p = .ok (i, k) := by
  have u := u1Y h
  rw [hb] at u
  cases e
  exact dY (show (Jvm.ClassFile.Decoder.instr p) c p = .ok (Jvm.ClassFile.Instr.aload_n 0, p + 1) by
    unfold Jvm.ClassFile.Decoder.instr
    exact bY u rfl) (by omega)
set_option maxRecDepth 100000 in
theorem a180Y {c : ByteArray} {p k : Nat} {b : UInt8} {t : List UInt8} {i : Instr} (h : c.data.toList.drop p = b :: t) (hb : b.toNat = 180) (e : o2Y t (fun x => Jvm.ClassFile.Instr.getfield x) = some (i, k)) : decode c p = .ok (i, k) := by
  have u := u1Y h
  rw [hb] at u
  cases t with
  | nil => cases e
  | cons b1 t =>
    cases t with
    | nil => cases e
    | cons b2 t =>
      cases e
      refine dY (q := p + 1 + 1 + 1) ?_ (by omega)
      unfold Jvm.ClassFile.Decoder.instr
      refine bY u ?_
      exact (show (Jvm.ClassFile.Reader.u2 >>= fun x => pure (Jvm.ClassFile.Instr.getfield x) : Jvm.ClassFile.Decoder Instr) c (p + 1) = _ from bY (u2Y (nxY h)) rfl)
set_option maxRecDepth 100000 in
theorem a182Y {c : ByteArray} {p k : Nat} {b : UInt8} {t : List UInt8} {i : Instr} (h : c.data.toList.drop p = b :: t) (hb : b.toNat = 182) (e : o2Y t (fun x => Jvm.ClassFile.Instr.invokevirtual x) = some (i, k)) : decode c p = .ok (i, k) := by
  have u := u1Y h
  rw [hb] at u
  cases t with
  | nil => cases e
  | cons b1 t =>
    cases t with
    | nil => cases e
    | cons b2 t =>
      cases e
      refine dY (q := p + 1 + 1 + 1) ?_ (by omega)
      unfold Jvm.ClassFile.Decoder.instr
      refine bY u ?_
      exact (show (Jvm.ClassFile.Reader.u2 >>= fun x => pure (Jvm.ClassFile.Instr.invokevirtual x) : Jvm.ClassFile.Decoder Instr) c (p + 1) = _ from bY (u2Y (nxY h)) rfl)
set_option maxRecDepth 100000 in
theorem a27Y {c : ByteArray} {p k : Nat} {b : UInt8} {t : List UInt8} {i : Instr} (h : c.data.toList.drop p = b :: t) (hb : b.toNat = 27) (e : some (Jvm.ClassFile.Instr.iload_n 1, 1) = some (i, k)) : decode c p = .ok (i, k) := by
  have u := u1Y h
  rw [hb] at u
  cases e
  exact dY (show (Jvm.ClassFile.Decoder.instr p) c p = .ok (Jvm.ClassFile.Instr.iload_n 1, p + 1) by
    unfold Jvm.ClassFile.Decoder.instr
    exact bY u rfl) (by omega)
set_option maxRecDepth 100000 in
theorem a172Y {c : ByteArray} {p k : Nat} {b : UInt8} {t : List UInt8} {i : Instr} (h : c.data.toList.drop p = b :: t) (hb : b.toNat = 172) (e : some (Jvm.ClassFile.Instr.ireturn, 1) = some (i, k)) : decode c p = .ok (i, k) := by
  have u := u1Y h
  rw [hb] at u
  cases e
  exact dY (show (Jvm.ClassFile.Decoder.instr p) c p = .ok (Jvm.ClassFile.Instr.ireturn, p + 1) by
    unfold Jvm.ClassFile.Decoder.instr
    exact bY u rfl) (by omega)
set_option maxRecDepth 100000 in
theorem a21Y {c : ByteArray} {p k : Nat} {b : UInt8} {t : List UInt8} {i : Instr} (h : c.data.toList.drop p = b :: t) (hb : b.toNat = 21) (e : o1Y t (fun x => Jvm.ClassFile.Instr.iload x) = some (i, k)) : decode c p = .ok (i, k) := by
  have u := u1Y h
  rw [hb] at u
  cases t with
  | nil => cases e
  | cons b1 t =>
    cases e
    refine dY (q := p + 1 + 1) ?_ (by omega)
    unfold Jvm.ClassFile.Decoder.instr
    refine bY u ?_
    exact (show (Jvm.ClassFile.Reader.u1 >>= fun x => pure (Jvm.ClassFile.Instr.iload x) : Jvm.ClassFile.Decoder Instr) c (p + 1) = _ from bY (u1Y (nxY h)) rfl)
set_option maxRecDepth 100000 in
theorem a3Y {c : ByteArray} {p k : Nat} {b : UInt8} {t : List UInt8} {i : Instr} (h : c.data.toList.drop p = b :: t) (hb : b.toNat = 3) (e : some (Jvm.ClassFile.Instr.iconst 0, 1) = some (i, k)) : decode c p = .ok (i, k) := by
  have u := u1Y h
  rw [hb] at u
  cases e
  exact dY (show (Jvm.ClassFile.Decoder.instr p) c p = .ok (Jvm.ClassFile.Instr.iconst 0, p + 1) by
    unfold Jvm.ClassFile.Decoder.instr
    exact bY u rfl) (by omega)
set_option maxRecDepth 100000 in
theorem a46Y {c : ByteArray} {p k : Nat} {b : UInt8} {t : List UInt8} {i : Instr} (h : c.data.toList.drop p = b :: t) (hb : b.toNat = 46) (e : some (Jvm.ClassFile.Instr.iaload, 1) = some (i, k)) : decode c p = .ok (i, k) := by
  have u := u1Y h
  rw [hb] at u
  cases e
  exact dY (show (Jvm.ClassFile.Decoder.instr p) c p = .ok (Jvm.ClassFile.Instr.iaload, p + 1) by
    unfold Jvm.ClassFile.Decoder.instr
    exact bY u rfl) (by omega)
set_option maxRecDepth 100000 in
theorem a29Y {c : ByteArray} {p k : Nat} {b : UInt8} {t : List UInt8} {i : Instr} (h : c.data.toList.drop p = b :: t) (hb : b.toNat = 29) (e : some (Jvm.ClassFile.Instr.iload_n 3, 1) = some (i, k)) : decode c p = .ok (i, k) := by
  have u := u1Y h
  rw [hb] at u
  cases e
  exact dY (show (Jvm.ClassFile.Decoder.instr p) c p = .ok (Jvm.ClassFile.Instr.iload_n 3, p + 1) by
    unfold Jvm.ClassFile.Decoder.instr
    exact bY u rfl) (by omega)
set_option maxRecDepth 100000 in
theorem a28Y {c : ByteArray} {p k : Nat} {b : UInt8} {t : List UInt8} {i : Instr} (h : c.data.toList.drop p = b :: t) (hb : b.toNat = 28) (e : some (Jvm.ClassFile.Instr.iload_n 2, 1) = some (i, k)) : decode c p = .ok (i, k) := by
  have u := u1Y h
  rw [hb] at u
  cases e
  exact dY (show (Jvm.ClassFile.Decoder.instr p) c p = .ok (Jvm.ClassFile.Instr.iload_n 2, p + 1) by
    unfold Jvm.ClassFile.Decoder.instr
    exact bY u rfl) (by omega)
set_option maxRecDepth 100000 in
theorem a4Y {c : ByteArray} {p k : Nat} {b : UInt8} {t : List UInt8} {i : Instr} (h : c.data.toList.drop p = b :: t) (hb : b.toNat = 4) (e : some (Jvm.ClassFile.Instr.iconst 1, 1) = some (i, k)) : decode c p = .ok (i, k) := by
  have u := u1Y h
  rw [hb] at u
  cases e
  exact dY (show (Jvm.ClassFile.Decoder.instr p) c p = .ok (Jvm.ClassFile.Instr.iconst 1, p + 1) by
    unfold Jvm.ClassFile.Decoder.instr
    exact bY u rfl) (by omega)
set_option maxRecDepth 100000 in
theorem a16Y {c : ByteArray} {p k : Nat} {b : UInt8} {t : List UInt8} {i : Instr} (h : c.data.toList.drop p = b :: t) (hb : b.toNat = 16) (e : o1Y t (fun x => Jvm.ClassFile.Instr.bipush (Jvm.ClassFile.Reader.signed 8 x)) = some (i, k)) : decode c p = .ok (i, k) := by
  have u := u1Y h
  rw [hb] at u
  cases t with
  | nil => cases e
  | cons b1 t =>
    cases e
    refine dY (q := p + 1 + 1) ?_ (by omega)
    unfold Jvm.ClassFile.Decoder.instr
    refine bY u ?_
    exact (show (Jvm.ClassFile.Reader.s1 >>= fun x => pure (Jvm.ClassFile.Instr.bipush x) : Jvm.ClassFile.Decoder Instr) c (p + 1) = _ from bY (s1Y (nxY h)) rfl)
set_option maxRecDepth 100000 in
theorem a167Y {c : ByteArray} {p k : Nat} {b : UInt8} {t : List UInt8} {i : Instr} (h : c.data.toList.drop p = b :: t) (hb : b.toNat = 167) (e : o2Y t (fun x => Jvm.ClassFile.Instr.goto (Jvm.ClassFile.Reader.signed 16 x)) = some (i, k)) : decode c p = .ok (i, k) := by
  have u := u1Y h
  rw [hb] at u
  cases t with
  | nil => cases e
  | cons b1 t =>
    cases t with
    | nil => cases e
    | cons b2 t =>
      cases e
      refine dY (q := p + 1 + 1 + 1) ?_ (by omega)
      unfold Jvm.ClassFile.Decoder.instr
      refine bY u ?_
      exact (show (Jvm.ClassFile.Reader.s2 >>= fun x => pure (Jvm.ClassFile.Instr.goto x) : Jvm.ClassFile.Decoder Instr) c (p + 1) = _ from bY (s2Y (nxY h)) rfl)
set_option maxRecDepth 100000 in
theorem a96Y {c : ByteArray} {p k : Nat} {b : UInt8} {t : List UInt8} {i : Instr} (h : c.data.toList.drop p = b :: t) (hb : b.toNat = 96) (e : some (Jvm.ClassFile.Instr.iadd, 1) = some (i, k)) : decode c p = .ok (i, k) := by
  have u := u1Y h
  rw [hb] at u
  cases e
  exact dY (show (Jvm.ClassFile.Decoder.instr p) c p = .ok (Jvm.ClassFile.Instr.iadd, p + 1) by
    unfold Jvm.ClassFile.Decoder.instr
    exact bY u rfl) (by omega)
set_option maxRecDepth 100000 in
theorem a43Y {c : ByteArray} {p k : Nat} {b : UInt8} {t : List UInt8} {i : Instr} (h : c.data.toList.drop p = b :: t) (hb : b.toNat = 43) (e : some (Jvm.ClassFile.Instr.aload_n 1, 1) = some (i, k)) : decode c p = .ok (i, k) := by
  have u := u1Y h
  rw [hb] at u
  cases e
  exact dY (show (Jvm.ClassFile.Decoder.instr p) c p = .ok (Jvm.ClassFile.Instr.aload_n 1, p + 1) by
    unfold Jvm.ClassFile.Decoder.instr
    exact bY u rfl) (by omega)
set_option maxRecDepth 100000 in
theorem a153Y {c : ByteArray} {p k : Nat} {b : UInt8} {t : List UInt8} {i : Instr} (h : c.data.toList.drop p = b :: t) (hb : b.toNat = 153) (e : o2Y t (fun x => Jvm.ClassFile.Instr.ifCond .eq (Jvm.ClassFile.Reader.signed 16 x)) = some (i, k)) : decode c p = .ok (i, k) := by
  have u := u1Y h
  rw [hb] at u
  cases t with
  | nil => cases e
  | cons b1 t =>
    cases t with
    | nil => cases e
    | cons b2 t =>
      cases e
      refine dY (q := p + 1 + 1 + 1) ?_ (by omega)
      unfold Jvm.ClassFile.Decoder.instr
      refine bY u ?_
      exact (show (Jvm.ClassFile.Reader.s2 >>= fun x => pure (Jvm.ClassFile.Instr.ifCond .eq x) : Jvm.ClassFile.Decoder Instr) c (p + 1) = _ from bY (s2Y (nxY h)) rfl)
set_option maxRecDepth 100000 in
theorem a184Y {c : ByteArray} {p k : Nat} {b : UInt8} {t : List UInt8} {i : Instr} (h : c.data.toList.drop p = b :: t) (hb : b.toNat = 184) (e : o2Y t (fun x => Jvm.ClassFile.Instr.invokestatic x) = some (i, k)) : decode c p = .ok (i, k) := by
  have u := u1Y h
  rw [hb] at u
  cases t with
  | nil => cases e
  | cons b1 t =>
    cases t with
    | nil => cases e
    | cons b2 t =>
      cases e
      refine dY (q := p + 1 + 1 + 1) ?_ (by omega)
      unfold Jvm.ClassFile.Decoder.instr
      refine bY u ?_
      exact (show (Jvm.ClassFile.Reader.u2 >>= fun x => pure (Jvm.ClassFile.Instr.invokestatic x) : Jvm.ClassFile.Decoder Instr) c (p + 1) = _ from bY (u2Y (nxY h)) rfl)
set_option maxRecDepth 100000 in
theorem a181Y {c : ByteArray} {p k : Nat} {b : UInt8} {t : List UInt8} {i : Instr} (h : c.data.toList.drop p = b :: t) (hb : b.toNat = 181) (e : o2Y t (fun x => Jvm.ClassFile.Instr.putfield x) = some (i, k)) : decode c p = .ok (i, k) := by
  have u := u1Y h
  rw [hb] at u
  cases t with
  | nil => cases e
  | cons b1 t =>
    cases t with
    | nil => cases e
    | cons b2 t =>
      cases e
      refine dY (q := p + 1 + 1 + 1) ?_ (by omega)
      unfold Jvm.ClassFile.Decoder.instr
      refine bY u ?_
      exact (show (Jvm.ClassFile.Reader.u2 >>= fun x => pure (Jvm.ClassFile.Instr.putfield x) : Jvm.ClassFile.Decoder Instr) c (p + 1) = _ from bY (u2Y (nxY h)) rfl)
set_option maxRecDepth 100000 in
theorem a162Y {c : ByteArray} {p k : Nat} {b : UInt8} {t : List UInt8} {i : Instr} (h : c.data.toList.drop p = b :: t) (hb : b.toNat = 162) (e : o2Y t (fun x => Jvm.ClassFile.Instr.if_icmp .ge (Jvm.ClassFile.Reader.signed 16 x)) = some (i, k)) : decode c p = .ok (i, k) := by
  have u := u1Y h
  rw [hb] at u
  cases t with
  | nil => cases e
  | cons b1 t =>
    cases t with
    | nil => cases e
    | cons b2 t =>
      cases e
      refine dY (q := p + 1 + 1 + 1) ?_ (by omega)
      unfold Jvm.ClassFile.Decoder.instr
      refine bY u ?_
      exact (show (Jvm.ClassFile.Reader.s2 >>= fun x => pure (Jvm.ClassFile.Instr.if_icmp .ge x) : Jvm.ClassFile.Decoder Instr) c (p + 1) = _ from bY (s2Y (nxY h)) rfl)
set_option maxRecDepth 100000 in
theorem a54Y {c : ByteArray} {p k : Nat} {b : UInt8} {t : List UInt8} {i : Instr} (h : c.data.toList.drop p = b :: t) (hb : b.toNat = 54) (e : o1Y t (fun x => Jvm.ClassFile.Instr.istore x) = some (i, k)) : decode c p = .ok (i, k) := by
  have u := u1Y h
  rw [hb] at u
  cases t with
  | nil => cases e
  | cons b1 t =>
    cases e
    refine dY (q := p + 1 + 1) ?_ (by omega)
    unfold Jvm.ClassFile.Decoder.instr
    refine bY u ?_
    exact (show (Jvm.ClassFile.Reader.u1 >>= fun x => pure (Jvm.ClassFile.Instr.istore x) : Jvm.ClassFile.Decoder Instr) c (p + 1) = _ from bY (u1Y (nxY h)) rfl)
set_option maxRecDepth 100000 in
theorem a154Y {c : ByteArray} {p k : Nat} {b : UInt8} {t : List UInt8} {i : Instr} (h : c.data.toList.drop p = b :: t) (hb : b.toNat = 154) (e : o2Y t (fun x => Jvm.ClassFile.Instr.ifCond .ne (Jvm.ClassFile.Reader.signed 16 x)) = some (i, k)) : decode c p = .ok (i, k) := by
  have u := u1Y h
  rw [hb] at u
  cases t with
  | nil => cases e
  | cons b1 t =>
    cases t with
    | nil => cases e
    | cons b2 t =>
      cases e
      refine dY (q := p + 1 + 1 + 1) ?_ (by omega)
      unfold Jvm.ClassFile.Decoder.instr
      refine bY u ?_
      exact (show (Jvm.ClassFile.Reader.s2 >>= fun x => pure (Jvm.ClassFile.Instr.ifCond .ne x) : Jvm.ClassFile.Decoder Instr) c (p + 1) = _ from bY (s2Y (nxY h)) rfl)
set_option maxRecDepth 100000 in
theorem a6Y {c : ByteArray} {p k : Nat} {b : UInt8} {t : List UInt8} {i : Instr} (h : c.data.toList.drop p = b :: t) (hb : b.toNat = 6) (e : some (Jvm.ClassFile.Instr.iconst 3, 1) = some (i, k)) : decode c p = .ok (i, k) := by
  have u := u1Y h
  rw [hb] at u
  cases e
  exact dY (show (Jvm.ClassFile.Decoder.instr p) c p = .ok (Jvm.ClassFile.Instr.iconst 3, p + 1) by
    unfold Jvm.ClassFile.Decoder.instr
    exact bY u rfl) (by omega)
set_option maxRecDepth 100000 in
theorem a132Y {c : ByteArray} {p k : Nat} {b : UInt8} {t : List UInt8} {i : Instr} (h : c.data.toList.drop p = b :: t) (hb : b.toNat = 132) (e : oiY t (fun x y => Jvm.ClassFile.Instr.iinc x (Jvm.ClassFile.Reader.signed 8 y)) = some (i, k)) : decode c p = .ok (i, k) := by
  have u := u1Y h
  rw [hb] at u
  cases t with
  | nil => cases e
  | cons b1 t =>
    cases t with
    | nil => cases e
    | cons b2 t =>
      cases e
      refine dY (q := p + 1 + 1 + 1) ?_ (by omega)
      unfold Jvm.ClassFile.Decoder.instr
      refine bY u ?_
      exact (show (Jvm.ClassFile.Reader.u1 >>= fun x => Jvm.ClassFile.Reader.s1 >>= fun y => pure (Jvm.ClassFile.Instr.iinc x y) : Jvm.ClassFile.Decoder Instr) c (p + 1) = _ from bY (u1Y (nxY h)) (bY (s1Y (nxY (nxY h))) rfl))
set_option maxRecDepth 100000 in
theorem a5Y {c : ByteArray} {p k : Nat} {b : UInt8} {t : List UInt8} {i : Instr} (h : c.data.toList.drop p = b :: t) (hb : b.toNat = 5) (e : some (Jvm.ClassFile.Instr.iconst 2, 1) = some (i, k)) : decode c p = .ok (i, k) := by
  have u := u1Y h
  rw [hb] at u
  cases e
  exact dY (show (Jvm.ClassFile.Decoder.instr p) c p = .ok (Jvm.ClassFile.Instr.iconst 2, p + 1) by
    unfold Jvm.ClassFile.Decoder.instr
    exact bY u rfl) (by omega)
set_option maxRecDepth 100000 in
theorem a2Y {c : ByteArray} {p k : Nat} {b : UInt8} {t : List UInt8} {i : Instr} (h : c.data.toList.drop p = b :: t) (hb : b.toNat = 2) (e : some (Jvm.ClassFile.Instr.iconst (-1), 1) = some (i, k)) : decode c p = .ok (i, k) := by
  have u := u1Y h
  rw [hb] at u
  cases e
  exact dY (show (Jvm.ClassFile.Decoder.instr p) c p = .ok (Jvm.ClassFile.Instr.iconst (-1), p + 1) by
    unfold Jvm.ClassFile.Decoder.instr
    exact bY u rfl) (by omega)
set_option maxRecDepth 100000 in
theorem a79Y {c : ByteArray} {p k : Nat} {b : UInt8} {t : List UInt8} {i : Instr} (h : c.data.toList.drop p = b :: t) (hb : b.toNat = 79) (e : some (Jvm.ClassFile.Instr.iastore, 1) = some (i, k)) : decode c p = .ok (i, k) := by
  have u := u1Y h
  rw [hb] at u
  cases e
  exact dY (show (Jvm.ClassFile.Decoder.instr p) c p = .ok (Jvm.ClassFile.Instr.iastore, p + 1) by
    unfold Jvm.ClassFile.Decoder.instr
    exact bY u rfl) (by omega)
set_option maxRecDepth 100000 in
theorem a160Y {c : ByteArray} {p k : Nat} {b : UInt8} {t : List UInt8} {i : Instr} (h : c.data.toList.drop p = b :: t) (hb : b.toNat = 160) (e : o2Y t (fun x => Jvm.ClassFile.Instr.if_icmp .ne (Jvm.ClassFile.Reader.signed 16 x)) = some (i, k)) : decode c p = .ok (i, k) := by
  have u := u1Y h
  rw [hb] at u
  cases t with
  | nil => cases e
  | cons b1 t =>
    cases t with
    | nil => cases e
    | cons b2 t =>
      cases e
      refine dY (q := p + 1 + 1 + 1) ?_ (by omega)
      unfold Jvm.ClassFile.Decoder.instr
      refine bY u ?_
      exact (show (Jvm.ClassFile.Reader.s2 >>= fun x => pure (Jvm.ClassFile.Instr.if_icmp .ne x) : Jvm.ClassFile.Decoder Instr) c (p + 1) = _ from bY (s2Y (nxY h)) rfl)
set_option maxRecDepth 100000 in
theorem a50Y {c : ByteArray} {p k : Nat} {b : UInt8} {t : List UInt8} {i : Instr} (h : c.data.toList.drop p = b :: t) (hb : b.toNat = 50) (e : some (Jvm.ClassFile.Instr.aaload, 1) = some (i, k)) : decode c p = .ok (i, k) := by
  have u := u1Y h
  rw [hb] at u
  cases e
  exact dY (show (Jvm.ClassFile.Decoder.instr p) c p = .ok (Jvm.ClassFile.Instr.aaload, p + 1) by
    unfold Jvm.ClassFile.Decoder.instr
    exact bY u rfl) (by omega)
set_option maxRecDepth 100000 in
theorem a62Y {c : ByteArray} {p k : Nat} {b : UInt8} {t : List UInt8} {i : Instr} (h : c.data.toList.drop p = b :: t) (hb : b.toNat = 62) (e : some (Jvm.ClassFile.Instr.istore_n 3, 1) = some (i, k)) : decode c p = .ok (i, k) := by
  have u := u1Y h
  rw [hb] at u
  cases e
  exact dY (show (Jvm.ClassFile.Decoder.instr p) c p = .ok (Jvm.ClassFile.Instr.istore_n 3, p + 1) by
    unfold Jvm.ClassFile.Decoder.instr
    exact bY u rfl) (by omega)
set_option maxRecDepth 100000 in
theorem a87Y {c : ByteArray} {p k : Nat} {b : UInt8} {t : List UInt8} {i : Instr} (h : c.data.toList.drop p = b :: t) (hb : b.toNat = 87) (e : some (Jvm.ClassFile.Instr.pop, 1) = some (i, k)) : decode c p = .ok (i, k) := by
  have u := u1Y h
  rw [hb] at u
  cases e
  exact dY (show (Jvm.ClassFile.Decoder.instr p) c p = .ok (Jvm.ClassFile.Instr.pop, p + 1) by
    unfold Jvm.ClassFile.Decoder.instr
    exact bY u rfl) (by omega)
set_option maxRecDepth 100000 in
theorem a61Y {c : ByteArray} {p k : Nat} {b : UInt8} {t : List UInt8} {i : Instr} (h : c.data.toList.drop p = b :: t) (hb : b.toNat = 61) (e : some (Jvm.ClassFile.Instr.istore_n 2, 1) = some (i, k)) : decode c p = .ok (i, k) := by
  have u := u1Y h
  rw [hb] at u
  cases e
  exact dY (show (Jvm.ClassFile.Decoder.instr p) c p = .ok (Jvm.ClassFile.Instr.istore_n 2, p + 1) by
    unfold Jvm.ClassFile.Decoder.instr
    exact bY u rfl) (by omega)
set_option maxRecDepth 100000 in
theorem a100Y {c : ByteArray} {p k : Nat} {b : UInt8} {t : List UInt8} {i : Instr} (h : c.data.toList.drop p = b :: t) (hb : b.toNat = 100) (e : some (Jvm.ClassFile.Instr.isub, 1) = some (i, k)) : decode c p = .ok (i, k) := by
  have u := u1Y h
  rw [hb] at u
  cases e
  exact dY (show (Jvm.ClassFile.Decoder.instr p) c p = .ok (Jvm.ClassFile.Instr.isub, p + 1) by
    unfold Jvm.ClassFile.Decoder.instr
    exact bY u rfl) (by omega)
set_option maxRecDepth 100000 in
theorem a44Y {c : ByteArray} {p k : Nat} {b : UInt8} {t : List UInt8} {i : Instr} (h : c.data.toList.drop p = b :: t) (hb : b.toNat = 44) (e : some (Jvm.ClassFile.Instr.aload_n 2, 1) = some (i, k)) : decode c p = .ok (i, k) := by
  have u := u1Y h
  rw [hb] at u
  cases e
  exact dY (show (Jvm.ClassFile.Decoder.instr p) c p = .ok (Jvm.ClassFile.Instr.aload_n 2, p + 1) by
    unfold Jvm.ClassFile.Decoder.instr
    exact bY u rfl) (by omega)
set_option maxRecDepth 100000 in
theorem a133Y {c : ByteArray} {p k : Nat} {b : UInt8} {t : List UInt8} {i : Instr} (h : c.data.toList.drop p = b :: t) (hb : b.toNat = 133) (e : some (Jvm.ClassFile.Instr.i2l, 1) = some (i, k)) : decode c p = .ok (i, k) := by
  have u := u1Y h
  rw [hb] at u
  cases e
  exact dY (show (Jvm.ClassFile.Decoder.instr p) c p = .ok (Jvm.ClassFile.Instr.i2l, p + 1) by
    unfold Jvm.ClassFile.Decoder.instr
    exact bY u rfl) (by omega)
set_option maxRecDepth 100000 in
theorem a104Y {c : ByteArray} {p k : Nat} {b : UInt8} {t : List UInt8} {i : Instr} (h : c.data.toList.drop p = b :: t) (hb : b.toNat = 104) (e : some (Jvm.ClassFile.Instr.imul, 1) = some (i, k)) : decode c p = .ok (i, k) := by
  have u := u1Y h
  rw [hb] at u
  cases e
  exact dY (show (Jvm.ClassFile.Decoder.instr p) c p = .ok (Jvm.ClassFile.Instr.imul, p + 1) by
    unfold Jvm.ClassFile.Decoder.instr
    exact bY u rfl) (by omega)
set_option maxRecDepth 100000 in
theorem a159Y {c : ByteArray} {p k : Nat} {b : UInt8} {t : List UInt8} {i : Instr} (h : c.data.toList.drop p = b :: t) (hb : b.toNat = 159) (e : o2Y t (fun x => Jvm.ClassFile.Instr.if_icmp .eq (Jvm.ClassFile.Reader.signed 16 x)) = some (i, k)) : decode c p = .ok (i, k) := by
  have u := u1Y h
  rw [hb] at u
  cases t with
  | nil => cases e
  | cons b1 t =>
    cases t with
    | nil => cases e
    | cons b2 t =>
      cases e
      refine dY (q := p + 1 + 1 + 1) ?_ (by omega)
      unfold Jvm.ClassFile.Decoder.instr
      refine bY u ?_
      exact (show (Jvm.ClassFile.Reader.s2 >>= fun x => pure (Jvm.ClassFile.Instr.if_icmp .eq x) : Jvm.ClassFile.Decoder Instr) c (p + 1) = _ from bY (s2Y (nxY h)) rfl)
set_option maxRecDepth 100000 in
theorem a9Y {c : ByteArray} {p k : Nat} {b : UInt8} {t : List UInt8} {i : Instr} (h : c.data.toList.drop p = b :: t) (hb : b.toNat = 9) (e : some (Jvm.ClassFile.Instr.lconst 0, 1) = some (i, k)) : decode c p = .ok (i, k) := by
  have u := u1Y h
  rw [hb] at u
  cases e
  exact dY (show (Jvm.ClassFile.Decoder.instr p) c p = .ok (Jvm.ClassFile.Instr.lconst 0, p + 1) by
    unfold Jvm.ClassFile.Decoder.instr
    exact bY u rfl) (by omega)
set_option maxRecDepth 100000 in
theorem a89Y {c : ByteArray} {p k : Nat} {b : UInt8} {t : List UInt8} {i : Instr} (h : c.data.toList.drop p = b :: t) (hb : b.toNat = 89) (e : some (Jvm.ClassFile.Instr.dup, 1) = some (i, k)) : decode c p = .ok (i, k) := by
  have u := u1Y h
  rw [hb] at u
  cases e
  exact dY (show (Jvm.ClassFile.Decoder.instr p) c p = .ok (Jvm.ClassFile.Instr.dup, p + 1) by
    unfold Jvm.ClassFile.Decoder.instr
    exact bY u rfl) (by omega)
set_option maxRecDepth 100000 in
theorem a177Y {c : ByteArray} {p k : Nat} {b : UInt8} {t : List UInt8} {i : Instr} (h : c.data.toList.drop p = b :: t) (hb : b.toNat = 177) (e : some (Jvm.ClassFile.Instr.return_, 1) = some (i, k)) : decode c p = .ok (i, k) := by
  have u := u1Y h
  rw [hb] at u
  cases e
  exact dY (show (Jvm.ClassFile.Decoder.instr p) c p = .ok (Jvm.ClassFile.Instr.return_, p + 1) by
    unfold Jvm.ClassFile.Decoder.instr
    exact bY u rfl) (by omega)
set_option maxRecDepth 100000 in
theorem a20Y {c : ByteArray} {p k : Nat} {b : UInt8} {t : List UInt8} {i : Instr} (h : c.data.toList.drop p = b :: t) (hb : b.toNat = 20) (e : o2Y t (fun x => Jvm.ClassFile.Instr.ldc2_w x) = some (i, k)) : decode c p = .ok (i, k) := by
  have u := u1Y h
  rw [hb] at u
  cases t with
  | nil => cases e
  | cons b1 t =>
    cases t with
    | nil => cases e
    | cons b2 t =>
      cases e
      refine dY (q := p + 1 + 1 + 1) ?_ (by omega)
      unfold Jvm.ClassFile.Decoder.instr
      refine bY u ?_
      exact (show (Jvm.ClassFile.Reader.u2 >>= fun x => pure (Jvm.ClassFile.Instr.ldc2_w x) : Jvm.ClassFile.Decoder Instr) c (p + 1) = _ from bY (u2Y (nxY h)) rfl)
set_option maxRecDepth 100000 in
theorem a7Y {c : ByteArray} {p k : Nat} {b : UInt8} {t : List UInt8} {i : Instr} (h : c.data.toList.drop p = b :: t) (hb : b.toNat = 7) (e : some (Jvm.ClassFile.Instr.iconst 4, 1) = some (i, k)) : decode c p = .ok (i, k) := by
  have u := u1Y h
  rw [hb] at u
  cases e
  exact dY (show (Jvm.ClassFile.Decoder.instr p) c p = .ok (Jvm.ClassFile.Instr.iconst 4, p + 1) by
    unfold Jvm.ClassFile.Decoder.instr
    exact bY u rfl) (by omega)
set_option maxRecDepth 100000 in
theorem a26Y {c : ByteArray} {p k : Nat} {b : UInt8} {t : List UInt8} {i : Instr} (h : c.data.toList.drop p = b :: t) (hb : b.toNat = 26) (e : some (Jvm.ClassFile.Instr.iload_n 0, 1) = some (i, k)) : decode c p = .ok (i, k) := by
  have u := u1Y h
  rw [hb] at u
  cases e
  exact dY (show (Jvm.ClassFile.Decoder.instr p) c p = .ok (Jvm.ClassFile.Instr.iload_n 0, p + 1) by
    unfold Jvm.ClassFile.Decoder.instr
    exact bY u rfl) (by omega)
set_option maxRecDepth 100000 in
theorem a120Y {c : ByteArray} {p k : Nat} {b : UInt8} {t : List UInt8} {i : Instr} (h : c.data.toList.drop p = b :: t) (hb : b.toNat = 120) (e : some (Jvm.ClassFile.Instr.ishl, 1) = some (i, k)) : decode c p = .ok (i, k) := by
  have u := u1Y h
  rw [hb] at u
  cases e
  exact dY (show (Jvm.ClassFile.Decoder.instr p) c p = .ok (Jvm.ClassFile.Instr.ishl, p + 1) by
    unfold Jvm.ClassFile.Decoder.instr
    exact bY u rfl) (by omega)
set_option maxRecDepth 100000 in
theorem a18Y {c : ByteArray} {p k : Nat} {b : UInt8} {t : List UInt8} {i : Instr} (h : c.data.toList.drop p = b :: t) (hb : b.toNat = 18) (e : o1Y t (fun x => Jvm.ClassFile.Instr.ldc x) = some (i, k)) : decode c p = .ok (i, k) := by
  have u := u1Y h
  rw [hb] at u
  cases t with
  | nil => cases e
  | cons b1 t =>
    cases e
    refine dY (q := p + 1 + 1) ?_ (by omega)
    unfold Jvm.ClassFile.Decoder.instr
    refine bY u ?_
    exact (show (Jvm.ClassFile.Reader.u1 >>= fun x => pure (Jvm.ClassFile.Instr.ldc x) : Jvm.ClassFile.Decoder Instr) c (p + 1) = _ from bY (u1Y (nxY h)) rfl)
set_option maxRecDepth 100000 in
theorem a60Y {c : ByteArray} {p k : Nat} {b : UInt8} {t : List UInt8} {i : Instr} (h : c.data.toList.drop p = b :: t) (hb : b.toNat = 60) (e : some (Jvm.ClassFile.Instr.istore_n 1, 1) = some (i, k)) : decode c p = .ok (i, k) := by
  have u := u1Y h
  rw [hb] at u
  cases e
  exact dY (show (Jvm.ClassFile.Decoder.instr p) c p = .ok (Jvm.ClassFile.Instr.istore_n 1, p + 1) by
    unfold Jvm.ClassFile.Decoder.instr
    exact bY u rfl) (by omega)
set_option maxRecDepth 100000 in
theorem a126Y {c : ByteArray} {p k : Nat} {b : UInt8} {t : List UInt8} {i : Instr} (h : c.data.toList.drop p = b :: t) (hb : b.toNat = 126) (e : some (Jvm.ClassFile.Instr.iand, 1) = some (i, k)) : decode c p = .ok (i, k) := by
  have u := u1Y h
  rw [hb] at u
  cases e
  exact dY (show (Jvm.ClassFile.Decoder.instr p) c p = .ok (Jvm.ClassFile.Instr.iand, p + 1) by
    unfold Jvm.ClassFile.Decoder.instr
    exact bY u rfl) (by omega)
set_option maxRecDepth 100000 in
theorem a17Y {c : ByteArray} {p k : Nat} {b : UInt8} {t : List UInt8} {i : Instr} (h : c.data.toList.drop p = b :: t) (hb : b.toNat = 17) (e : o2Y t (fun x => Jvm.ClassFile.Instr.sipush (Jvm.ClassFile.Reader.signed 16 x)) = some (i, k)) : decode c p = .ok (i, k) := by
  have u := u1Y h
  rw [hb] at u
  cases t with
  | nil => cases e
  | cons b1 t =>
    cases t with
    | nil => cases e
    | cons b2 t =>
      cases e
      refine dY (q := p + 1 + 1 + 1) ?_ (by omega)
      unfold Jvm.ClassFile.Decoder.instr
      refine bY u ?_
      exact (show (Jvm.ClassFile.Reader.s2 >>= fun x => pure (Jvm.ClassFile.Instr.sipush x) : Jvm.ClassFile.Decoder Instr) c (p + 1) = _ from bY (s2Y (nxY h)) rfl)
set_option maxRecDepth 100000 in
theorem a161Y {c : ByteArray} {p k : Nat} {b : UInt8} {t : List UInt8} {i : Instr} (h : c.data.toList.drop p = b :: t) (hb : b.toNat = 161) (e : o2Y t (fun x => Jvm.ClassFile.Instr.if_icmp .lt (Jvm.ClassFile.Reader.signed 16 x)) = some (i, k)) : decode c p = .ok (i, k) := by
  have u := u1Y h
  rw [hb] at u
  cases t with
  | nil => cases e
  | cons b1 t =>
    cases t with
    | nil => cases e
    | cons b2 t =>
      cases e
      refine dY (q := p + 1 + 1 + 1) ?_ (by omega)
      unfold Jvm.ClassFile.Decoder.instr
      refine bY u ?_
      exact (show (Jvm.ClassFile.Reader.s2 >>= fun x => pure (Jvm.ClassFile.Instr.if_icmp .lt x) : Jvm.ClassFile.Decoder Instr) c (p + 1) = _ from bY (s2Y (nxY h)) rfl)
set_option maxRecDepth 100000 in
theorem a8Y {c : ByteArray} {p k : Nat} {b : UInt8} {t : List UInt8} {i : Instr} (h : c.data.toList.drop p = b :: t) (hb : b.toNat = 8) (e : some (Jvm.ClassFile.Instr.iconst 5, 1) = some (i, k)) : decode c p = .ok (i, k) := by
  have u := u1Y h
  rw [hb] at u
  cases e
  exact dY (show (Jvm.ClassFile.Decoder.instr p) c p = .ok (Jvm.ClassFile.Instr.iconst 5, p + 1) by
    unfold Jvm.ClassFile.Decoder.instr
    exact bY u rfl) (by omega)
set_option maxRecDepth 100000 in
theorem a25Y {c : ByteArray} {p k : Nat} {b : UInt8} {t : List UInt8} {i : Instr} (h : c.data.toList.drop p = b :: t) (hb : b.toNat = 25) (e : o1Y t (fun x => Jvm.ClassFile.Instr.aload x) = some (i, k)) : decode c p = .ok (i, k) := by
  have u := u1Y h
  rw [hb] at u
  cases t with
  | nil => cases e
  | cons b1 t =>
    cases e
    refine dY (q := p + 1 + 1) ?_ (by omega)
    unfold Jvm.ClassFile.Decoder.instr
    refine bY u ?_
    exact (show (Jvm.ClassFile.Reader.u1 >>= fun x => pure (Jvm.ClassFile.Instr.aload x) : Jvm.ClassFile.Decoder Instr) c (p + 1) = _ from bY (u1Y (nxY h)) rfl)
set_option maxRecDepth 100000 in
theorem a183Y {c : ByteArray} {p k : Nat} {b : UInt8} {t : List UInt8} {i : Instr} (h : c.data.toList.drop p = b :: t) (hb : b.toNat = 183) (e : o2Y t (fun x => Jvm.ClassFile.Instr.invokespecial x) = some (i, k)) : decode c p = .ok (i, k) := by
  have u := u1Y h
  rw [hb] at u
  cases t with
  | nil => cases e
  | cons b1 t =>
    cases t with
    | nil => cases e
    | cons b2 t =>
      cases e
      refine dY (q := p + 1 + 1 + 1) ?_ (by omega)
      unfold Jvm.ClassFile.Decoder.instr
      refine bY u ?_
      exact (show (Jvm.ClassFile.Reader.u2 >>= fun x => pure (Jvm.ClassFile.Instr.invokespecial x) : Jvm.ClassFile.Decoder Instr) c (p + 1) = _ from bY (u2Y (nxY h)) rfl)
set_option maxRecDepth 100000 in
theorem a10Y {c : ByteArray} {p k : Nat} {b : UInt8} {t : List UInt8} {i : Instr} (h : c.data.toList.drop p = b :: t) (hb : b.toNat = 10) (e : some (Jvm.ClassFile.Instr.lconst 1, 1) = some (i, k)) : decode c p = .ok (i, k) := by
  have u := u1Y h
  rw [hb] at u
  cases e
  exact dY (show (Jvm.ClassFile.Decoder.instr p) c p = .ok (Jvm.ClassFile.Instr.lconst 1, p + 1) by
    unfold Jvm.ClassFile.Decoder.instr
    exact bY u rfl) (by omega)
set_option maxRecDepth 100000 in
theorem a45Y {c : ByteArray} {p k : Nat} {b : UInt8} {t : List UInt8} {i : Instr} (h : c.data.toList.drop p = b :: t) (hb : b.toNat = 45) (e : some (Jvm.ClassFile.Instr.aload_n 3, 1) = some (i, k)) : decode c p = .ok (i, k) := by
  have u := u1Y h
  rw [hb] at u
  cases e
  exact dY (show (Jvm.ClassFile.Decoder.instr p) c p = .ok (Jvm.ClassFile.Instr.aload_n 3, p + 1) by
    unfold Jvm.ClassFile.Decoder.instr
    exact bY u rfl) (by omega)
set_option maxRecDepth 100000 in
theorem a128Y {c : ByteArray} {p k : Nat} {b : UInt8} {t : List UInt8} {i : Instr} (h : c.data.toList.drop p = b :: t) (hb : b.toNat = 128) (e : some (Jvm.ClassFile.Instr.ior, 1) = some (i, k)) : decode c p = .ok (i, k) := by
  have u := u1Y h
  rw [hb] at u
  cases e
  exact dY (show (Jvm.ClassFile.Decoder.instr p) c p = .ok (Jvm.ClassFile.Instr.ior, p + 1) by
    unfold Jvm.ClassFile.Decoder.instr
    exact bY u rfl) (by omega)
set_option maxRecDepth 100000 in
theorem a155Y {c : ByteArray} {p k : Nat} {b : UInt8} {t : List UInt8} {i : Instr} (h : c.data.toList.drop p = b :: t) (hb : b.toNat = 155) (e : o2Y t (fun x => Jvm.ClassFile.Instr.ifCond .lt (Jvm.ClassFile.Reader.signed 16 x)) = some (i, k)) : decode c p = .ok (i, k) := by
  have u := u1Y h
  rw [hb] at u
  cases t with
  | nil => cases e
  | cons b1 t =>
    cases t with
    | nil => cases e
    | cons b2 t =>
      cases e
      refine dY (q := p + 1 + 1 + 1) ?_ (by omega)
      unfold Jvm.ClassFile.Decoder.instr
      refine bY u ?_
      exact (show (Jvm.ClassFile.Reader.s2 >>= fun x => pure (Jvm.ClassFile.Instr.ifCond .lt x) : Jvm.ClassFile.Decoder Instr) c (p + 1) = _ from bY (s2Y (nxY h)) rfl)
set_option maxRecDepth 100000 in
theorem a108Y {c : ByteArray} {p k : Nat} {b : UInt8} {t : List UInt8} {i : Instr} (h : c.data.toList.drop p = b :: t) (hb : b.toNat = 108) (e : some (Jvm.ClassFile.Instr.idiv, 1) = some (i, k)) : decode c p = .ok (i, k) := by
  have u := u1Y h
  rw [hb] at u
  cases e
  exact dY (show (Jvm.ClassFile.Decoder.instr p) c p = .ok (Jvm.ClassFile.Instr.idiv, p + 1) by
    unfold Jvm.ClassFile.Decoder.instr
    exact bY u rfl) (by omega)
set_option maxRecDepth 100000 in
theorem a187Y {c : ByteArray} {p k : Nat} {b : UInt8} {t : List UInt8} {i : Instr} (h : c.data.toList.drop p = b :: t) (hb : b.toNat = 187) (e : o2Y t (fun x => Jvm.ClassFile.Instr.new x) = some (i, k)) : decode c p = .ok (i, k) := by
  have u := u1Y h
  rw [hb] at u
  cases t with
  | nil => cases e
  | cons b1 t =>
    cases t with
    | nil => cases e
    | cons b2 t =>
      cases e
      refine dY (q := p + 1 + 1 + 1) ?_ (by omega)
      unfold Jvm.ClassFile.Decoder.instr
      refine bY u ?_
      exact (show (Jvm.ClassFile.Reader.u2 >>= fun x => pure (Jvm.ClassFile.Instr.new x) : Jvm.ClassFile.Decoder Instr) c (p + 1) = _ from bY (u2Y (nxY h)) rfl)
set_option maxRecDepth 100000 in
theorem a122Y {c : ByteArray} {p k : Nat} {b : UInt8} {t : List UInt8} {i : Instr} (h : c.data.toList.drop p = b :: t) (hb : b.toNat = 122) (e : some (Jvm.ClassFile.Instr.ishr, 1) = some (i, k)) : decode c p = .ok (i, k) := by
  have u := u1Y h
  rw [hb] at u
  cases e
  exact dY (show (Jvm.ClassFile.Decoder.instr p) c p = .ok (Jvm.ClassFile.Instr.ishr, p + 1) by
    unfold Jvm.ClassFile.Decoder.instr
    exact bY u rfl) (by omega)
set_option maxRecDepth 100000 in
theorem a31Y {c : ByteArray} {p k : Nat} {b : UInt8} {t : List UInt8} {i : Instr} (h : c.data.toList.drop p = b :: t) (hb : b.toNat = 31) (e : some (Jvm.ClassFile.Instr.lload_n 1, 1) = some (i, k)) : decode c p = .ok (i, k) := by
  have u := u1Y h
  rw [hb] at u
  cases e
  exact dY (show (Jvm.ClassFile.Decoder.instr p) c p = .ok (Jvm.ClassFile.Instr.lload_n 1, p + 1) by
    unfold Jvm.ClassFile.Decoder.instr
    exact bY u rfl) (by omega)
set_option maxRecDepth 100000 in
theorem a163Y {c : ByteArray} {p k : Nat} {b : UInt8} {t : List UInt8} {i : Instr} (h : c.data.toList.drop p = b :: t) (hb : b.toNat = 163) (e : o2Y t (fun x => Jvm.ClassFile.Instr.if_icmp .gt (Jvm.ClassFile.Reader.signed 16 x)) = some (i, k)) : decode c p = .ok (i, k) := by
  have u := u1Y h
  rw [hb] at u
  cases t with
  | nil => cases e
  | cons b1 t =>
    cases t with
    | nil => cases e
    | cons b2 t =>
      cases e
      refine dY (q := p + 1 + 1 + 1) ?_ (by omega)
      unfold Jvm.ClassFile.Decoder.instr
      refine bY u ?_
      exact (show (Jvm.ClassFile.Reader.s2 >>= fun x => pure (Jvm.ClassFile.Instr.if_icmp .gt x) : Jvm.ClassFile.Decoder Instr) c (p + 1) = _ from bY (s2Y (nxY h)) rfl)
set_option maxRecDepth 100000 in
theorem a136Y {c : ByteArray} {p k : Nat} {b : UInt8} {t : List UInt8} {i : Instr} (h : c.data.toList.drop p = b :: t) (hb : b.toNat = 136) (e : some (Jvm.ClassFile.Instr.l2i, 1) = some (i, k)) : decode c p = .ok (i, k) := by
  have u := u1Y h
  rw [hb] at u
  cases e
  exact dY (show (Jvm.ClassFile.Decoder.instr p) c p = .ok (Jvm.ClassFile.Instr.l2i, p + 1) by
    unfold Jvm.ClassFile.Decoder.instr
    exact bY u rfl) (by omega)
set_option maxRecDepth 100000 in
theorem a47Y {c : ByteArray} {p k : Nat} {b : UInt8} {t : List UInt8} {i : Instr} (h : c.data.toList.drop p = b :: t) (hb : b.toNat = 47) (e : some (Jvm.ClassFile.Instr.laload, 1) = some (i, k)) : decode c p = .ok (i, k) := by
  have u := u1Y h
  rw [hb] at u
  cases e
  exact dY (show (Jvm.ClassFile.Decoder.instr p) c p = .ok (Jvm.ClassFile.Instr.laload, p + 1) by
    unfold Jvm.ClassFile.Decoder.instr
    exact bY u rfl) (by omega)
set_option maxRecDepth 100000 in
theorem a173Y {c : ByteArray} {p k : Nat} {b : UInt8} {t : List UInt8} {i : Instr} (h : c.data.toList.drop p = b :: t) (hb : b.toNat = 173) (e : some (Jvm.ClassFile.Instr.lreturn, 1) = some (i, k)) : decode c p = .ok (i, k) := by
  have u := u1Y h
  rw [hb] at u
  cases e
  exact dY (show (Jvm.ClassFile.Decoder.instr p) c p = .ok (Jvm.ClassFile.Instr.lreturn, p + 1) by
    unfold Jvm.ClassFile.Decoder.instr
    exact bY u rfl) (by omega)
set_option maxRecDepth 100000 in
theorem a164Y {c : ByteArray} {p k : Nat} {b : UInt8} {t : List UInt8} {i : Instr} (h : c.data.toList.drop p = b :: t) (hb : b.toNat = 164) (e : o2Y t (fun x => Jvm.ClassFile.Instr.if_icmp .le (Jvm.ClassFile.Reader.signed 16 x)) = some (i, k)) : decode c p = .ok (i, k) := by
  have u := u1Y h
  rw [hb] at u
  cases t with
  | nil => cases e
  | cons b1 t =>
    cases t with
    | nil => cases e
    | cons b2 t =>
      cases e
      refine dY (q := p + 1 + 1 + 1) ?_ (by omega)
      unfold Jvm.ClassFile.Decoder.instr
      refine bY u ?_
      exact (show (Jvm.ClassFile.Reader.s2 >>= fun x => pure (Jvm.ClassFile.Instr.if_icmp .le x) : Jvm.ClassFile.Decoder Instr) c (p + 1) = _ from bY (s2Y (nxY h)) rfl)
set_option maxRecDepth 100000 in
theorem a148Y {c : ByteArray} {p k : Nat} {b : UInt8} {t : List UInt8} {i : Instr} (h : c.data.toList.drop p = b :: t) (hb : b.toNat = 148) (e : some (Jvm.ClassFile.Instr.lcmp, 1) = some (i, k)) : decode c p = .ok (i, k) := by
  have u := u1Y h
  rw [hb] at u
  cases e
  exact dY (show (Jvm.ClassFile.Decoder.instr p) c p = .ok (Jvm.ClassFile.Instr.lcmp, p + 1) by
    unfold Jvm.ClassFile.Decoder.instr
    exact bY u rfl) (by omega)
set_option maxRecDepth 100000 in
theorem a190Y {c : ByteArray} {p k : Nat} {b : UInt8} {t : List UInt8} {i : Instr} (h : c.data.toList.drop p = b :: t) (hb : b.toNat = 190) (e : some (Jvm.ClassFile.Instr.arraylength, 1) = some (i, k)) : decode c p = .ok (i, k) := by
  have u := u1Y h
  rw [hb] at u
  cases e
  exact dY (show (Jvm.ClassFile.Decoder.instr p) c p = .ok (Jvm.ClassFile.Instr.arraylength, p + 1) by
    unfold Jvm.ClassFile.Decoder.instr
    exact bY u rfl) (by omega)
set_option maxRecDepth 100000 in
theorem a121Y {c : ByteArray} {p k : Nat} {b : UInt8} {t : List UInt8} {i : Instr} (h : c.data.toList.drop p = b :: t) (hb : b.toNat = 121) (e : some (Jvm.ClassFile.Instr.lshl, 1) = some (i, k)) : decode c p = .ok (i, k) := by
  have u := u1Y h
  rw [hb] at u
  cases e
  exact dY (show (Jvm.ClassFile.Decoder.instr p) c p = .ok (Jvm.ClassFile.Instr.lshl, p + 1) by
    unfold Jvm.ClassFile.Decoder.instr
    exact bY u rfl) (by omega)
set_option maxRecDepth 100000 in
theorem a19Y {c : ByteArray} {p k : Nat} {b : UInt8} {t : List UInt8} {i : Instr} (h : c.data.toList.drop p = b :: t) (hb : b.toNat = 19) (e : o2Y t (fun x => Jvm.ClassFile.Instr.ldc_w x) = some (i, k)) : decode c p = .ok (i, k) := by
  have u := u1Y h
  rw [hb] at u
  cases t with
  | nil => cases e
  | cons b1 t =>
    cases t with
    | nil => cases e
    | cons b2 t =>
      cases e
      refine dY (q := p + 1 + 1 + 1) ?_ (by omega)
      unfold Jvm.ClassFile.Decoder.instr
      refine bY u ?_
      exact (show (Jvm.ClassFile.Reader.u2 >>= fun x => pure (Jvm.ClassFile.Instr.ldc_w x) : Jvm.ClassFile.Decoder Instr) c (p + 1) = _ from bY (u2Y (nxY h)) rfl)
set_option maxRecDepth 100000 in
theorem a129Y {c : ByteArray} {p k : Nat} {b : UInt8} {t : List UInt8} {i : Instr} (h : c.data.toList.drop p = b :: t) (hb : b.toNat = 129) (e : some (Jvm.ClassFile.Instr.lor, 1) = some (i, k)) : decode c p = .ok (i, k) := by
  have u := u1Y h
  rw [hb] at u
  cases e
  exact dY (show (Jvm.ClassFile.Decoder.instr p) c p = .ok (Jvm.ClassFile.Instr.lor, p + 1) by
    unfold Jvm.ClassFile.Decoder.instr
    exact bY u rfl) (by omega)
set_option maxRecDepth 100000 in
theorem a178Y {c : ByteArray} {p k : Nat} {b : UInt8} {t : List UInt8} {i : Instr} (h : c.data.toList.drop p = b :: t) (hb : b.toNat = 178) (e : o2Y t (fun x => Jvm.ClassFile.Instr.getstatic x) = some (i, k)) : decode c p = .ok (i, k) := by
  have u := u1Y h
  rw [hb] at u
  cases t with
  | nil => cases e
  | cons b1 t =>
    cases t with
    | nil => cases e
    | cons b2 t =>
      cases e
      refine dY (q := p + 1 + 1 + 1) ?_ (by omega)
      unfold Jvm.ClassFile.Decoder.instr
      refine bY u ?_
      exact (show (Jvm.ClassFile.Reader.u2 >>= fun x => pure (Jvm.ClassFile.Instr.getstatic x) : Jvm.ClassFile.Decoder Instr) c (p + 1) = _ from bY (u2Y (nxY h)) rfl)
set_option maxRecDepth 100000 in
theorem a58Y {c : ByteArray} {p k : Nat} {b : UInt8} {t : List UInt8} {i : Instr} (h : c.data.toList.drop p = b :: t) (hb : b.toNat = 58) (e : o1Y t (fun x => Jvm.ClassFile.Instr.astore x) = some (i, k)) : decode c p = .ok (i, k) := by
  have u := u1Y h
  rw [hb] at u
  cases t with
  | nil => cases e
  | cons b1 t =>
    cases e
    refine dY (q := p + 1 + 1) ?_ (by omega)
    unfold Jvm.ClassFile.Decoder.instr
    refine bY u ?_
    exact (show (Jvm.ClassFile.Reader.u1 >>= fun x => pure (Jvm.ClassFile.Instr.astore x) : Jvm.ClassFile.Decoder Instr) c (p + 1) = _ from bY (u1Y (nxY h)) rfl)
set_option maxRecDepth 100000 in
theorem a80Y {c : ByteArray} {p k : Nat} {b : UInt8} {t : List UInt8} {i : Instr} (h : c.data.toList.drop p = b :: t) (hb : b.toNat = 80) (e : some (Jvm.ClassFile.Instr.lastore, 1) = some (i, k)) : decode c p = .ok (i, k) := by
  have u := u1Y h
  rw [hb] at u
  cases e
  exact dY (show (Jvm.ClassFile.Decoder.instr p) c p = .ok (Jvm.ClassFile.Instr.lastore, p + 1) by
    unfold Jvm.ClassFile.Decoder.instr
    exact bY u rfl) (by omega)
set_option maxRecDepth 100000 in
theorem a127Y {c : ByteArray} {p k : Nat} {b : UInt8} {t : List UInt8} {i : Instr} (h : c.data.toList.drop p = b :: t) (hb : b.toNat = 127) (e : some (Jvm.ClassFile.Instr.land, 1) = some (i, k)) : decode c p = .ok (i, k) := by
  have u := u1Y h
  rw [hb] at u
  cases e
  exact dY (show (Jvm.ClassFile.Decoder.instr p) c p = .ok (Jvm.ClassFile.Instr.land, p + 1) by
    unfold Jvm.ClassFile.Decoder.instr
    exact bY u rfl) (by omega)
set_option maxRecDepth 100000 in
theorem a90Y {c : ByteArray} {p k : Nat} {b : UInt8} {t : List UInt8} {i : Instr} (h : c.data.toList.drop p = b :: t) (hb : b.toNat = 90) (e : some (Jvm.ClassFile.Instr.dup_x1, 1) = some (i, k)) : decode c p = .ok (i, k) := by
  have u := u1Y h
  rw [hb] at u
  cases e
  exact dY (show (Jvm.ClassFile.Decoder.instr p) c p = .ok (Jvm.ClassFile.Instr.dup_x1, p + 1) by
    unfold Jvm.ClassFile.Decoder.instr
    exact bY u rfl) (by omega)
set_option maxRecDepth 100000 in
theorem a92Y {c : ByteArray} {p k : Nat} {b : UInt8} {t : List UInt8} {i : Instr} (h : c.data.toList.drop p = b :: t) (hb : b.toNat = 92) (e : some (Jvm.ClassFile.Instr.dup2, 1) = some (i, k)) : decode c p = .ok (i, k) := by
  have u := u1Y h
  rw [hb] at u
  cases e
  exact dY (show (Jvm.ClassFile.Decoder.instr p) c p = .ok (Jvm.ClassFile.Instr.dup2, p + 1) by
    unfold Jvm.ClassFile.Decoder.instr
    exact bY u rfl) (by omega)
set_option maxRecDepth 100000 in
theorem a33Y {c : ByteArray} {p k : Nat} {b : UInt8} {t : List UInt8} {i : Instr} (h : c.data.toList.drop p = b :: t) (hb : b.toNat = 33) (e : some (Jvm.ClassFile.Instr.lload_n 3, 1) = some (i, k)) : decode c p = .ok (i, k) := by
  have u := u1Y h
  rw [hb] at u
  cases e
  exact dY (show (Jvm.ClassFile.Decoder.instr p) c p = .ok (Jvm.ClassFile.Instr.lload_n 3, p + 1) by
    unfold Jvm.ClassFile.Decoder.instr
    exact bY u rfl) (by omega)
set_option maxRecDepth 100000 in
theorem a22Y {c : ByteArray} {p k : Nat} {b : UInt8} {t : List UInt8} {i : Instr} (h : c.data.toList.drop p = b :: t) (hb : b.toNat = 22) (e : o1Y t (fun x => Jvm.ClassFile.Instr.lload x) = some (i, k)) : decode c p = .ok (i, k) := by
  have u := u1Y h
  rw [hb] at u
  cases t with
  | nil => cases e
  | cons b1 t =>
    cases e
    refine dY (q := p + 1 + 1) ?_ (by omega)
    unfold Jvm.ClassFile.Decoder.instr
    refine bY u ?_
    exact (show (Jvm.ClassFile.Reader.u1 >>= fun x => pure (Jvm.ClassFile.Instr.lload x) : Jvm.ClassFile.Decoder Instr) c (p + 1) = _ from bY (u1Y (nxY h)) rfl)
set_option maxRecDepth 100000 in
theorem a76Y {c : ByteArray} {p k : Nat} {b : UInt8} {t : List UInt8} {i : Instr} (h : c.data.toList.drop p = b :: t) (hb : b.toNat = 76) (e : some (Jvm.ClassFile.Instr.astore_n 1, 1) = some (i, k)) : decode c p = .ok (i, k) := by
  have u := u1Y h
  rw [hb] at u
  cases e
  exact dY (show (Jvm.ClassFile.Decoder.instr p) c p = .ok (Jvm.ClassFile.Instr.astore_n 1, p + 1) by
    unfold Jvm.ClassFile.Decoder.instr
    exact bY u rfl) (by omega)
set_option maxRecDepth 100000 in
theorem a124Y {c : ByteArray} {p k : Nat} {b : UInt8} {t : List UInt8} {i : Instr} (h : c.data.toList.drop p = b :: t) (hb : b.toNat = 124) (e : some (Jvm.ClassFile.Instr.iushr, 1) = some (i, k)) : decode c p = .ok (i, k) := by
  have u := u1Y h
  rw [hb] at u
  cases e
  exact dY (show (Jvm.ClassFile.Decoder.instr p) c p = .ok (Jvm.ClassFile.Instr.iushr, p + 1) by
    unfold Jvm.ClassFile.Decoder.instr
    exact bY u rfl) (by omega)
set_option maxRecDepth 100000 in
theorem a59Y {c : ByteArray} {p k : Nat} {b : UInt8} {t : List UInt8} {i : Instr} (h : c.data.toList.drop p = b :: t) (hb : b.toNat = 59) (e : some (Jvm.ClassFile.Instr.istore_n 0, 1) = some (i, k)) : decode c p = .ok (i, k) := by
  have u := u1Y h
  rw [hb] at u
  cases e
  exact dY (show (Jvm.ClassFile.Decoder.instr p) c p = .ok (Jvm.ClassFile.Instr.istore_n 0, p + 1) by
    unfold Jvm.ClassFile.Decoder.instr
    exact bY u rfl) (by omega)
set_option maxRecDepth 100000 in
theorem a156Y {c : ByteArray} {p k : Nat} {b : UInt8} {t : List UInt8} {i : Instr} (h : c.data.toList.drop p = b :: t) (hb : b.toNat = 156) (e : o2Y t (fun x => Jvm.ClassFile.Instr.ifCond .ge (Jvm.ClassFile.Reader.signed 16 x)) = some (i, k)) : decode c p = .ok (i, k) := by
  have u := u1Y h
  rw [hb] at u
  cases t with
  | nil => cases e
  | cons b1 t =>
    cases t with
    | nil => cases e
    | cons b2 t =>
      cases e
      refine dY (q := p + 1 + 1 + 1) ?_ (by omega)
      unfold Jvm.ClassFile.Decoder.instr
      refine bY u ?_
      exact (show (Jvm.ClassFile.Reader.s2 >>= fun x => pure (Jvm.ClassFile.Instr.ifCond .ge x) : Jvm.ClassFile.Decoder Instr) c (p + 1) = _ from bY (s2Y (nxY h)) rfl)
set_option maxRecDepth 100000 in
theorem a32Y {c : ByteArray} {p k : Nat} {b : UInt8} {t : List UInt8} {i : Instr} (h : c.data.toList.drop p = b :: t) (hb : b.toNat = 32) (e : some (Jvm.ClassFile.Instr.lload_n 2, 1) = some (i, k)) : decode c p = .ok (i, k) := by
  have u := u1Y h
  rw [hb] at u
  cases e
  exact dY (show (Jvm.ClassFile.Decoder.instr p) c p = .ok (Jvm.ClassFile.Instr.lload_n 2, p + 1) by
    unfold Jvm.ClassFile.Decoder.instr
    exact bY u rfl) (by omega)
set_option maxRecDepth 100000 in
theorem a123Y {c : ByteArray} {p k : Nat} {b : UInt8} {t : List UInt8} {i : Instr} (h : c.data.toList.drop p = b :: t) (hb : b.toNat = 123) (e : some (Jvm.ClassFile.Instr.lshr, 1) = some (i, k)) : decode c p = .ok (i, k) := by
  have u := u1Y h
  rw [hb] at u
  cases e
  exact dY (show (Jvm.ClassFile.Decoder.instr p) c p = .ok (Jvm.ClassFile.Instr.lshr, p + 1) by
    unfold Jvm.ClassFile.Decoder.instr
    exact bY u rfl) (by omega)
set_option maxRecDepth 100000 in
theorem a78Y {c : ByteArray} {p k : Nat} {b : UInt8} {t : List UInt8} {i : Instr} (h : c.data.toList.drop p = b :: t) (hb : b.toNat = 78) (e : some (Jvm.ClassFile.Instr.astore_n 3, 1) = some (i, k)) : decode c p = .ok (i, k) := by
  have u := u1Y h
  rw [hb] at u
  cases e
  exact dY (show (Jvm.ClassFile.Decoder.instr p) c p = .ok (Jvm.ClassFile.Instr.astore_n 3, p + 1) by
    unfold Jvm.ClassFile.Decoder.instr
    exact bY u rfl) (by omega)
set_option maxRecDepth 100000 in
theorem a199Y {c : ByteArray} {p k : Nat} {b : UInt8} {t : List UInt8} {i : Instr} (h : c.data.toList.drop p = b :: t) (hb : b.toNat = 199) (e : o2Y t (fun x => Jvm.ClassFile.Instr.ifnonnull (Jvm.ClassFile.Reader.signed 16 x)) = some (i, k)) : decode c p = .ok (i, k) := by
  have u := u1Y h
  rw [hb] at u
  cases t with
  | nil => cases e
  | cons b1 t =>
    cases t with
    | nil => cases e
    | cons b2 t =>
      cases e
      refine dY (q := p + 1 + 1 + 1) ?_ (by omega)
      unfold Jvm.ClassFile.Decoder.instr
      refine bY u ?_
      exact (show (Jvm.ClassFile.Reader.s2 >>= fun x => pure (Jvm.ClassFile.Instr.ifnonnull x) : Jvm.ClassFile.Decoder Instr) c (p + 1) = _ from bY (s2Y (nxY h)) rfl)
set_option maxRecDepth 100000 in
theorem a77Y {c : ByteArray} {p k : Nat} {b : UInt8} {t : List UInt8} {i : Instr} (h : c.data.toList.drop p = b :: t) (hb : b.toNat = 77) (e : some (Jvm.ClassFile.Instr.astore_n 2, 1) = some (i, k)) : decode c p = .ok (i, k) := by
  have u := u1Y h
  rw [hb] at u
  cases e
  exact dY (show (Jvm.ClassFile.Decoder.instr p) c p = .ok (Jvm.ClassFile.Instr.astore_n 2, p + 1) by
    unfold Jvm.ClassFile.Decoder.instr
    exact bY u rfl) (by omega)
set_option maxRecDepth 100000 in
theorem a130Y {c : ByteArray} {p k : Nat} {b : UInt8} {t : List UInt8} {i : Instr} (h : c.data.toList.drop p = b :: t) (hb : b.toNat = 130) (e : some (Jvm.ClassFile.Instr.ixor, 1) = some (i, k)) : decode c p = .ok (i, k) := by
  have u := u1Y h
  rw [hb] at u
  cases e
  exact dY (show (Jvm.ClassFile.Decoder.instr p) c p = .ok (Jvm.ClassFile.Instr.ixor, p + 1) by
    unfold Jvm.ClassFile.Decoder.instr
    exact bY u rfl) (by omega)
set_option maxRecDepth 100000 in
theorem a112Y {c : ByteArray} {p k : Nat} {b : UInt8} {t : List UInt8} {i : Instr} (h : c.data.toList.drop p = b :: t) (hb : b.toNat = 112) (e : some (Jvm.ClassFile.Instr.irem, 1) = some (i, k)) : decode c p = .ok (i, k) := by
  have u := u1Y h
  rw [hb] at u
  cases e
  exact dY (show (Jvm.ClassFile.Decoder.instr p) c p = .ok (Jvm.ClassFile.Instr.irem, p + 1) by
    unfold Jvm.ClassFile.Decoder.instr
    exact bY u rfl) (by omega)
set_option maxRecDepth 100000 in
theorem a51Y {c : ByteArray} {p k : Nat} {b : UInt8} {t : List UInt8} {i : Instr} (h : c.data.toList.drop p = b :: t) (hb : b.toNat = 51) (e : some (Jvm.ClassFile.Instr.baload, 1) = some (i, k)) : decode c p = .ok (i, k) := by
  have u := u1Y h
  rw [hb] at u
  cases e
  exact dY (show (Jvm.ClassFile.Decoder.instr p) c p = .ok (Jvm.ClassFile.Instr.baload, p + 1) by
    unfold Jvm.ClassFile.Decoder.instr
    exact bY u rfl) (by omega)
set_option maxRecDepth 100000 in
theorem a145Y {c : ByteArray} {p k : Nat} {b : UInt8} {t : List UInt8} {i : Instr} (h : c.data.toList.drop p = b :: t) (hb : b.toNat = 145) (e : some (Jvm.ClassFile.Instr.i2b, 1) = some (i, k)) : decode c p = .ok (i, k) := by
  have u := u1Y h
  rw [hb] at u
  cases e
  exact dY (show (Jvm.ClassFile.Decoder.instr p) c p = .ok (Jvm.ClassFile.Instr.i2b, p + 1) by
    unfold Jvm.ClassFile.Decoder.instr
    exact bY u rfl) (by omega)
set_option maxRecDepth 100000 in
theorem a147Y {c : ByteArray} {p k : Nat} {b : UInt8} {t : List UInt8} {i : Instr} (h : c.data.toList.drop p = b :: t) (hb : b.toNat = 147) (e : some (Jvm.ClassFile.Instr.i2s, 1) = some (i, k)) : decode c p = .ok (i, k) := by
  have u := u1Y h
  rw [hb] at u
  cases e
  exact dY (show (Jvm.ClassFile.Decoder.instr p) c p = .ok (Jvm.ClassFile.Instr.i2s, p + 1) by
    unfold Jvm.ClassFile.Decoder.instr
    exact bY u rfl) (by omega)
set_option maxRecDepth 100000 in
theorem a55Y {c : ByteArray} {p k : Nat} {b : UInt8} {t : List UInt8} {i : Instr} (h : c.data.toList.drop p = b :: t) (hb : b.toNat = 55) (e : o1Y t (fun x => Jvm.ClassFile.Instr.lstore x) = some (i, k)) : decode c p = .ok (i, k) := by
  have u := u1Y h
  rw [hb] at u
  cases t with
  | nil => cases e
  | cons b1 t =>
    cases e
    refine dY (q := p + 1 + 1) ?_ (by omega)
    unfold Jvm.ClassFile.Decoder.instr
    refine bY u ?_
    exact (show (Jvm.ClassFile.Reader.u1 >>= fun x => pure (Jvm.ClassFile.Instr.lstore x) : Jvm.ClassFile.Decoder Instr) c (p + 1) = _ from bY (u1Y (nxY h)) rfl)
set_option maxRecDepth 100000 in
theorem a157Y {c : ByteArray} {p k : Nat} {b : UInt8} {t : List UInt8} {i : Instr} (h : c.data.toList.drop p = b :: t) (hb : b.toNat = 157) (e : o2Y t (fun x => Jvm.ClassFile.Instr.ifCond .gt (Jvm.ClassFile.Reader.signed 16 x)) = some (i, k)) : decode c p = .ok (i, k) := by
  have u := u1Y h
  rw [hb] at u
  cases t with
  | nil => cases e
  | cons b1 t =>
    cases t with
    | nil => cases e
    | cons b2 t =>
      cases e
      refine dY (q := p + 1 + 1 + 1) ?_ (by omega)
      unfold Jvm.ClassFile.Decoder.instr
      refine bY u ?_
      exact (show (Jvm.ClassFile.Reader.s2 >>= fun x => pure (Jvm.ClassFile.Instr.ifCond .gt x) : Jvm.ClassFile.Decoder Instr) c (p + 1) = _ from bY (s2Y (nxY h)) rfl)
set_option maxRecDepth 100000 in
theorem a158Y {c : ByteArray} {p k : Nat} {b : UInt8} {t : List UInt8} {i : Instr} (h : c.data.toList.drop p = b :: t) (hb : b.toNat = 158) (e : o2Y t (fun x => Jvm.ClassFile.Instr.ifCond .le (Jvm.ClassFile.Reader.signed 16 x)) = some (i, k)) : decode c p = .ok (i, k) := by
  have u := u1Y h
  rw [hb] at u
  cases t with
  | nil => cases e
  | cons b1 t =>
    cases t with
    | nil => cases e
    | cons b2 t =>
      cases e
      refine dY (q := p + 1 + 1 + 1) ?_ (by omega)
      unfold Jvm.ClassFile.Decoder.instr
      refine bY u ?_
      exact (show (Jvm.ClassFile.Reader.s2 >>= fun x => pure (Jvm.ClassFile.Instr.ifCond .le x) : Jvm.ClassFile.Decoder Instr) c (p + 1) = _ from bY (s2Y (nxY h)) rfl)
set_option maxRecDepth 100000 in
theorem a30Y {c : ByteArray} {p k : Nat} {b : UInt8} {t : List UInt8} {i : Instr} (h : c.data.toList.drop p = b :: t) (hb : b.toNat = 30) (e : some (Jvm.ClassFile.Instr.lload_n 0, 1) = some (i, k)) : decode c p = .ok (i, k) := by
  have u := u1Y h
  rw [hb] at u
  cases e
  exact dY (show (Jvm.ClassFile.Decoder.instr p) c p = .ok (Jvm.ClassFile.Instr.lload_n 0, p + 1) by
    unfold Jvm.ClassFile.Decoder.instr
    exact bY u rfl) (by omega)
set_option maxRecDepth 100000 in
theorem a66Y {c : ByteArray} {p k : Nat} {b : UInt8} {t : List UInt8} {i : Instr} (h : c.data.toList.drop p = b :: t) (hb : b.toNat = 66) (e : some (Jvm.ClassFile.Instr.lstore_n 3, 1) = some (i, k)) : decode c p = .ok (i, k) := by
  have u := u1Y h
  rw [hb] at u
  cases e
  exact dY (show (Jvm.ClassFile.Decoder.instr p) c p = .ok (Jvm.ClassFile.Instr.lstore_n 3, p + 1) by
    unfold Jvm.ClassFile.Decoder.instr
    exact bY u rfl) (by omega)
set_option maxRecDepth 100000 in
theorem a146Y {c : ByteArray} {p k : Nat} {b : UInt8} {t : List UInt8} {i : Instr} (h : c.data.toList.drop p = b :: t) (hb : b.toNat = 146) (e : some (Jvm.ClassFile.Instr.i2c, 1) = some (i, k)) : decode c p = .ok (i, k) := by
  have u := u1Y h
  rw [hb] at u
  cases e
  exact dY (show (Jvm.ClassFile.Decoder.instr p) c p = .ok (Jvm.ClassFile.Instr.i2c, p + 1) by
    unfold Jvm.ClassFile.Decoder.instr
    exact bY u rfl) (by omega)
set_option maxRecDepth 100000 in
theorem a191Y {c : ByteArray} {p k : Nat} {b : UInt8} {t : List UInt8} {i : Instr} (h : c.data.toList.drop p = b :: t) (hb : b.toNat = 191) (e : some (Jvm.ClassFile.Instr.athrow, 1) = some (i, k)) : decode c p = .ok (i, k) := by
  have u := u1Y h
  rw [hb] at u
  cases e
  exact dY (show (Jvm.ClassFile.Decoder.instr p) c p = .ok (Jvm.ClassFile.Instr.athrow, p + 1) by
    unfold Jvm.ClassFile.Decoder.instr
    exact bY u rfl) (by omega)
set_option maxRecDepth 100000 in
theorem a88Y {c : ByteArray} {p k : Nat} {b : UInt8} {t : List UInt8} {i : Instr} (h : c.data.toList.drop p = b :: t) (hb : b.toNat = 88) (e : some (Jvm.ClassFile.Instr.pop2, 1) = some (i, k)) : decode c p = .ok (i, k) := by
  have u := u1Y h
  rw [hb] at u
  cases e
  exact dY (show (Jvm.ClassFile.Decoder.instr p) c p = .ok (Jvm.ClassFile.Instr.pop2, p + 1) by
    unfold Jvm.ClassFile.Decoder.instr
    exact bY u rfl) (by omega)
set_option maxRecDepth 100000 in
theorem a116Y {c : ByteArray} {p k : Nat} {b : UInt8} {t : List UInt8} {i : Instr} (h : c.data.toList.drop p = b :: t) (hb : b.toNat = 116) (e : some (Jvm.ClassFile.Instr.ineg, 1) = some (i, k)) : decode c p = .ok (i, k) := by
  have u := u1Y h
  rw [hb] at u
  cases e
  exact dY (show (Jvm.ClassFile.Decoder.instr p) c p = .ok (Jvm.ClassFile.Instr.ineg, p + 1) by
    unfold Jvm.ClassFile.Decoder.instr
    exact bY u rfl) (by omega)
set_option maxRecDepth 100000 in
theorem a105Y {c : ByteArray} {p k : Nat} {b : UInt8} {t : List UInt8} {i : Instr} (h : c.data.toList.drop p = b :: t) (hb : b.toNat = 105) (e : some (Jvm.ClassFile.Instr.lmul, 1) = some (i, k)) : decode c p = .ok (i, k) := by
  have u := u1Y h
  rw [hb] at u
  cases e
  exact dY (show (Jvm.ClassFile.Decoder.instr p) c p = .ok (Jvm.ClassFile.Instr.lmul, p + 1) by
    unfold Jvm.ClassFile.Decoder.instr
    exact bY u rfl) (by omega)
set_option maxRecDepth 100000 in
theorem a97Y {c : ByteArray} {p k : Nat} {b : UInt8} {t : List UInt8} {i : Instr} (h : c.data.toList.drop p = b :: t) (hb : b.toNat = 97) (e : some (Jvm.ClassFile.Instr.ladd, 1) = some (i, k)) : decode c p = .ok (i, k) := by
  have u := u1Y h
  rw [hb] at u
  cases e
  exact dY (show (Jvm.ClassFile.Decoder.instr p) c p = .ok (Jvm.ClassFile.Instr.ladd, p + 1) by
    unfold Jvm.ClassFile.Decoder.instr
    exact bY u rfl) (by omega)
set_option maxRecDepth 100000 in
theorem a101Y {c : ByteArray} {p k : Nat} {b : UInt8} {t : List UInt8} {i : Instr} (h : c.data.toList.drop p = b :: t) (hb : b.toNat = 101) (e : some (Jvm.ClassFile.Instr.lsub, 1) = some (i, k)) : decode c p = .ok (i, k) := by
  have u := u1Y h
  rw [hb] at u
  cases e
  exact dY (show (Jvm.ClassFile.Decoder.instr p) c p = .ok (Jvm.ClassFile.Instr.lsub, p + 1) by
    unfold Jvm.ClassFile.Decoder.instr
    exact bY u rfl) (by omega)
set_option maxRecDepth 100000 in
theorem a176Y {c : ByteArray} {p k : Nat} {b : UInt8} {t : List UInt8} {i : Instr} (h : c.data.toList.drop p = b :: t) (hb : b.toNat = 176) (e : some (Jvm.ClassFile.Instr.areturn, 1) = some (i, k)) : decode c p = .ok (i, k) := by
  have u := u1Y h
  rw [hb] at u
  cases e
  exact dY (show (Jvm.ClassFile.Decoder.instr p) c p = .ok (Jvm.ClassFile.Instr.areturn, p + 1) by
    unfold Jvm.ClassFile.Decoder.instr
    exact bY u rfl) (by omega)
def fdY (b : UInt8) (t : List UInt8) : Option (Instr × Nat) := if b.toNat = 42 then some (Jvm.ClassFile.Instr.aload_n 0, 1) else if b.toNat = 180 then o2Y t (fun x => Jvm.ClassFile.Instr.getfield x) else if b.toNat = 182 then o2Y t (fun x => Jvm.ClassFile.Instr.invokevirtual x) else if b.toNat = 27 then some (Jvm.ClassFile.Instr.iload_n 1, 1) else if b.toNat = 172 then some (Jvm.ClassFile.Instr.ireturn, 1) else if b.toNat = 21 then o1Y t (fun x => Jvm.ClassFile.Instr.iload x) else if b.toNat = 3 then some (Jvm.ClassFile.Instr.iconst 0, 1) else if b.toNat = 46 then some (Jvm.ClassFile.Instr.iaload, 1) else if b.toNat = 29 then some (Jvm.ClassFile.Instr.iload_n 3, 1) else if b.toNat = 28 then some (Jvm.ClassFile.Instr.iload_n 2, 1) else if b.toNat = 4 then some (Jvm.ClassFile.Instr.iconst 1, 1) else if b.toNat = 16 then o1Y t (fun x => Jvm.ClassFile.Instr.bipush (Jvm.ClassFile.Reader.signed 8 x)) else if b.toNat = 167 then o2Y t (fun x => Jvm.ClassFile.Instr.goto (Jvm.ClassFile.Reader.signed 16 x)) else if b.toNat = 96 then some (Jvm.ClassFile.Instr.iadd, 1) else if b.toNat = 43 then some (Jvm.ClassFile.Instr.aload_n 1, 1) else if b.toNat = 153 then o2Y t (fun x => Jvm.ClassFile.Instr.ifCond .eq (Jvm.ClassFile.Reader.signed 16 x)) else if b.toNat = 184 then o2Y t (fun x => Jvm.ClassFile.Instr.invokestatic x) else if b.toNat = 181 then o2Y t (fun x => Jvm.ClassFile.Instr.putfield x) else if b.toNat = 162 then o2Y t (fun x => Jvm.ClassFile.Instr.if_icmp .ge (Jvm.ClassFile.Reader.signed 16 x)) else if b.toNat = 54 then o1Y t (fun x => Jvm.ClassFile.Instr.istore x) else if b.toNat = 154 then o2Y t (fun x => Jvm.ClassFile.Instr.ifCond .ne (Jvm.ClassFile.Reader.signed 16 x)) else if b.toNat = 6 then some (Jvm.ClassFile.Instr.iconst 3, 1) else if b.toNat = 132 then oiY t (fun x y => Jvm.ClassFile.Instr.iinc x (Jvm.ClassFile.Reader.signed 8 y)) else if b.toNat = 5 then some (Jvm.ClassFile.Instr.iconst 2, 1) else if b.toNat = 2 then some (Jvm.ClassFile.Instr.iconst (-1), 1) else if b.toNat = 79 then some (Jvm.ClassFile.Instr.iastore, 1) else if b.toNat = 160 then o2Y t (fun x => Jvm.ClassFile.Instr.if_icmp .ne (Jvm.ClassFile.Reader.signed 16 x)) else if b.toNat = 50 then some (Jvm.ClassFile.Instr.aaload, 1) else if b.toNat = 62 then some (Jvm.ClassFile.Instr.istore_n 3, 1) else if b.toNat = 87 then some (Jvm.ClassFile.Instr.pop, 1) else if b.toNat = 61 then some (Jvm.ClassFile.Instr.istore_n 2, 1) else if b.toNat = 100 then some (Jvm.ClassFile.Instr.isub, 1) else if b.toNat = 44 then some (Jvm.ClassFile.Instr.aload_n 2, 1) else if b.toNat = 133 then some (Jvm.ClassFile.Instr.i2l, 1) else if b.toNat = 104 then some (Jvm.ClassFile.Instr.imul, 1) else if b.toNat = 159 then o2Y t (fun x => Jvm.ClassFile.Instr.if_icmp .eq (Jvm.ClassFile.Reader.signed 16 x)) else if b.toNat = 9 then some (Jvm.ClassFile.Instr.lconst 0, 1) else if b.toNat = 89 then some (Jvm.ClassFile.Instr.dup, 1) else if b.toNat = 177 then some (Jvm.ClassFile.Instr.return_, 1) else if b.toNat = 20 then o2Y t (fun x => Jvm.ClassFile.Instr.ldc2_w x) else if b.toNat = 7 then some (Jvm.ClassFile.Instr.iconst 4, 1) else if b.toNat = 26 then some (Jvm.ClassFile.Instr.iload_n 0, 1) else if b.toNat = 120 then some (Jvm.ClassFile.Instr.ishl, 1) else if b.toNat = 18 then o1Y t (fun x => Jvm.ClassFile.Instr.ldc x) else if b.toNat = 60 then some (Jvm.ClassFile.Instr.istore_n 1, 1) else if b.toNat = 126 then some (Jvm.ClassFile.Instr.iand, 1) else if b.toNat = 17 then o2Y t (fun x => Jvm.ClassFile.Instr.sipush (Jvm.ClassFile.Reader.signed 16 x)) else if b.toNat = 161 then o2Y t (fun x => Jvm.ClassFile.Instr.if_icmp .lt (Jvm.ClassFile.Reader.signed 16 x)) else if b.toNat = 8 then some (Jvm.ClassFile.Instr.iconst 5, 1) else if b.toNat = 25 then o1Y t (fun x => Jvm.ClassFile.Instr.aload x) else if b.toNat = 183 then o2Y t (fun x => Jvm.ClassFile.Instr.invokespecial x) else if b.toNat = 10 then some (Jvm.ClassFile.Instr.lconst 1, 1) else if b.toNat = 45 then some (Jvm.ClassFile.Instr.aload_n 3, 1) else if b.toNat = 128 then some (Jvm.ClassFile.Instr.ior, 1) else if b.toNat = 155 then o2Y t (fun x => Jvm.ClassFile.Instr.ifCond .lt (Jvm.ClassFile.Reader.signed 16 x)) else if b.toNat = 108 then some (Jvm.ClassFile.Instr.idiv, 1) else if b.toNat = 187 then o2Y t (fun x => Jvm.ClassFile.Instr.new x) else if b.toNat = 122 then some (Jvm.ClassFile.Instr.ishr, 1) else if b.toNat = 31 then some (Jvm.ClassFile.Instr.lload_n 1, 1) else if b.toNat = 163 then o2Y t (fun x => Jvm.ClassFile.Instr.if_icmp .gt (Jvm.ClassFile.Reader.signed 16 x)) else if b.toNat = 136 then some (Jvm.ClassFile.Instr.l2i, 1) else if b.toNat = 47 then some (Jvm.ClassFile.Instr.laload, 1) else if b.toNat = 173 then some (Jvm.ClassFile.Instr.lreturn, 1) else if b.toNat = 164 then o2Y t (fun x => Jvm.ClassFile.Instr.if_icmp .le (Jvm.ClassFile.Reader.signed 16 x)) else if b.toNat = 148 then some (Jvm.ClassFile.Instr.lcmp, 1) else if b.toNat = 190 then some (Jvm.ClassFile.Instr.arraylength, 1) else if b.toNat = 121 then some (Jvm.ClassFile.Instr.lshl, 1) else if b.toNat = 19 then o2Y t (fun x => Jvm.ClassFile.Instr.ldc_w x) else if b.toNat = 129 then some (Jvm.ClassFile.Instr.lor, 1) else if b.toNat = 178 then o2Y t (fun x => Jvm.ClassFile.Instr.getstatic x) else if b.toNat = 58 then o1Y t (fun x => Jvm.ClassFile.Instr.astore x) else if b.toNat = 80 then some (Jvm.ClassFile.Instr.lastore, 1) else if b.toNat = 127 then some (Jvm.ClassFile.Instr.land, 1) else if b.toNat = 90 then some (Jvm.ClassFile.Instr.dup_x1, 1) else if b.toNat = 92 then some (Jvm.ClassFile.Instr.dup2, 1) else if b.toNat = 33 then some (Jvm.ClassFile.Instr.lload_n 3, 1) else if b.toNat = 22 then o1Y t (fun x => Jvm.ClassFile.Instr.lload x) else if b.toNat = 76 then some (Jvm.ClassFile.Instr.astore_n 1, 1) else if b.toNat = 124 then some (Jvm.ClassFile.Instr.iushr, 1) else if b.toNat = 59 then some (Jvm.ClassFile.Instr.istore_n 0, 1) else if b.toNat = 156 then o2Y t (fun x => Jvm.ClassFile.Instr.ifCond .ge (Jvm.ClassFile.Reader.signed 16 x)) else if b.toNat = 32 then some (Jvm.ClassFile.Instr.lload_n 2, 1) else if b.toNat = 123 then some (Jvm.ClassFile.Instr.lshr, 1) else if b.toNat = 78 then some (Jvm.ClassFile.Instr.astore_n 3, 1) else if b.toNat = 199 then o2Y t (fun x => Jvm.ClassFile.Instr.ifnonnull (Jvm.ClassFile.Reader.signed 16 x)) else if b.toNat = 77 then some (Jvm.ClassFile.Instr.astore_n 2, 1) else if b.toNat = 130 then some (Jvm.ClassFile.Instr.ixor, 1) else if b.toNat = 112 then some (Jvm.ClassFile.Instr.irem, 1) else if b.toNat = 51 then some (Jvm.ClassFile.Instr.baload, 1) else if b.toNat = 145 then some (Jvm.ClassFile.Instr.i2b, 1) else if b.toNat = 147 then some (Jvm.ClassFile.Instr.i2s, 1) else if b.toNat = 55 then o1Y t (fun x => Jvm.ClassFile.Instr.lstore x) else if b.toNat = 157 then o2Y t (fun x => Jvm.ClassFile.Instr.ifCond .gt (Jvm.ClassFile.Reader.signed 16 x)) else if b.toNat = 158 then o2Y t (fun x => Jvm.ClassFile.Instr.ifCond .le (Jvm.ClassFile.Reader.signed 16 x)) else if b.toNat = 30 then some (Jvm.ClassFile.Instr.lload_n 0, 1) else if b.toNat = 66 then some (Jvm.ClassFile.Instr.lstore_n 3, 1) else if b.toNat = 146 then some (Jvm.ClassFile.Instr.i2c, 1) else if b.toNat = 191 then some (Jvm.ClassFile.Instr.athrow, 1) else if b.toNat = 88 then some (Jvm.ClassFile.Instr.pop2, 1) else if b.toNat = 116 then some (Jvm.ClassFile.Instr.ineg, 1) else if b.toNat = 105 then some (Jvm.ClassFile.Instr.lmul, 1) else if b.toNat = 97 then some (Jvm.ClassFile.Instr.ladd, 1) else if b.toNat = 101 then some (Jvm.ClassFile.Instr.lsub, 1) else if b.toNat = 176 then some (Jvm.ClassFile.Instr.areturn, 1) else none
set_option maxRecDepth 100000 in
theorem fdY_ok {c : ByteArray} {p k : Nat} {b : UInt8} {t : List UInt8} {i : Instr} (h : c.data.toList.drop p = b :: t) (e : fdY b t = some (i, k)) : decode c p = .ok (i, k) := by
    unfold fdY at e
    by_cases h42 : b.toNat = 42
    · rw [if_pos h42] at e
      exact a42Y h h42 e
    rw [if_neg h42] at e
    by_cases h180 : b.toNat = 180
    · rw [if_pos h180] at e
      exact a180Y h h180 e
    rw [if_neg h180] at e
    by_cases h182 : b.toNat = 182
    · rw [if_pos h182] at e
      exact a182Y h h182 e
    rw [if_neg h182] at e
    by_cases h27 : b.toNat = 27
    · rw [if_pos h27] at e
      exact a27Y h h27 e
    rw [if_neg h27] at e
    by_cases h172 : b.toNat = 172
    · rw [if_pos h172] at e
      exact a172Y h h172 e
    rw [if_neg h172] at e
    by_cases h21 : b.toNat = 21
    · rw [if_pos h21] at e
      exact a21Y h h21 e
    rw [if_neg h21] at e
    by_cases h3 : b.toNat = 3
    · rw [if_pos h3] at e
      exact a3Y h h3 e
    rw [if_neg h3] at e
    by_cases h46 : b.toNat = 46
    · rw [if_pos h46] at e
      exact a46Y h h46 e
    rw [if_neg h46] at e
    by_cases h29 : b.toNat = 29
    · rw [if_pos h29] at e
      exact a29Y h h29 e
    rw [if_neg h29] at e
    by_cases h28 : b.toNat = 28
    · rw [if_pos h28] at e
      exact a28Y h h28 e
    rw [if_neg h28] at e
    by_cases h4 : b.toNat = 4
    · rw [if_pos h4] at e
      exact a4Y h h4 e
    rw [if_neg h4] at e
    by_cases h16 : b.toNat = 16
    · rw [if_pos h16] at e
      exact a16Y h h16 e
    rw [if_neg h16] at e
    by_cases h167 : b.toNat = 167
    · rw [if_pos h167] at e
      exact a167Y h h167 e
    rw [if_neg h167] at e
    by_cases h96 : b.toNat = 96
    · rw [if_pos h96] at e
      exact a96Y h h96 e
    rw [if_neg h96] at e
    by_cases h43 : b.toNat = 43
    · rw [if_pos h43] at e
      exact a43Y h h43 e
    rw [if_neg h43] at e
    by_cases h153 : b.toNat = 153
    · rw [if_pos h153] at e
      exact a153Y h h153 e
    rw [if_neg h153] at e
    by_cases h184 : b.toNat = 184
    · rw [if_pos h184] at e
      exact a184Y h h184 e
    rw [if_neg h184] at e
    by_cases h181 : b.toNat = 181
    · rw [if_pos h181] at e
      exact a181Y h h181 e
    rw [if_neg h181] at e
    by_cases h162 : b.toNat = 162
    · rw [if_pos h162] at e
      exact a162Y h h162 e
    rw [if_neg h162] at e
    by_cases h54 : b.toNat = 54
    · rw [if_pos h54] at e
      exact a54Y h h54 e
    rw [if_neg h54] at e
    by_cases h154 : b.toNat = 154
    · rw [if_pos h154] at e
      exact a154Y h h154 e
    rw [if_neg h154] at e
    by_cases h6 : b.toNat = 6
    · rw [if_pos h6] at e
      exact a6Y h h6 e
    rw [if_neg h6] at e
    by_cases h132 : b.toNat = 132
    · rw [if_pos h132] at e
      exact a132Y h h132 e
    rw [if_neg h132] at e
    by_cases h5 : b.toNat = 5
    · rw [if_pos h5] at e
      exact a5Y h h5 e
    rw [if_neg h5] at e
    by_cases h2 : b.toNat = 2
    · rw [if_pos h2] at e
      exact a2Y h h2 e
    rw [if_neg h2] at e
    by_cases h79 : b.toNat = 79
    · rw [if_pos h79] at e
      exact a79Y h h79 e
    rw [if_neg h79] at e
    by_cases h160 : b.toNat = 160
    · rw [if_pos h160] at e
      exact a160Y h h160 e
    rw [if_neg h160] at e
    by_cases h50 : b.toNat = 50
    · rw [if_pos h50] at e
      exact a50Y h h50 e
    rw [if_neg h50] at e
    by_cases h62 : b.toNat = 62
    · rw [if_pos h62] at e
      exact a62Y h h62 e
    rw [if_neg h62] at e
    by_cases h87 : b.toNat = 87
    · rw [if_pos h87] at e
      exact a87Y h h87 e
    rw [if_neg h87] at e
    by_cases h61 : b.toNat = 61
    · rw [if_pos h61] at e
      exact a61Y h h61 e
    rw [if_neg h61] at e
    by_cases h100 : b.toNat = 100
    · rw [if_pos h100] at e
      exact a100Y h h100 e
    rw [if_neg h100] at e
    by_cases h44 : b.toNat = 44
    · rw [if_pos h44] at e
      exact a44Y h h44 e
    rw [if_neg h44] at e
    by_cases h133 : b.toNat = 133
    · rw [if_pos h133] at e
      exact a133Y h h133 e
    rw [if_neg h133] at e
    by_cases h104 : b.toNat = 104
    · rw [if_pos h104] at e
      exact a104Y h h104 e
    rw [if_neg h104] at e
    by_cases h159 : b.toNat = 159
    · rw [if_pos h159] at e
      exact a159Y h h159 e
    rw [if_neg h159] at e
    by_cases h9 : b.toNat = 9
    · rw [if_pos h9] at e
      exact a9Y h h9 e
    rw [if_neg h9] at e
    by_cases h89 : b.toNat = 89
    · rw [if_pos h89] at e
      exact a89Y h h89 e
    rw [if_neg h89] at e
    by_cases h177 : b.toNat = 177
    · rw [if_pos h177] at e
      exact a177Y h h177 e
    rw [if_neg h177] at e
    by_cases h20 : b.toNat = 20
    · rw [if_pos h20] at e
      exact a20Y h h20 e
    rw [if_neg h20] at e
    by_cases h7 : b.toNat = 7
    · rw [if_pos h7] at e
      exact a7Y h h7 e
    rw [if_neg h7] at e
    by_cases h26 : b.toNat = 26
    · rw [if_pos h26] at e
      exact a26Y h h26 e
    rw [if_neg h26] at e
    by_cases h120 : b.toNat = 120
    · rw [if_pos h120] at e
      exact a120Y h h120 e
    rw [if_neg h120] at e
    by_cases h18 : b.toNat = 18
    · rw [if_pos h18] at e
      exact a18Y h h18 e
    rw [if_neg h18] at e
    by_cases h60 : b.toNat = 60
    · rw [if_pos h60] at e
      exact a60Y h h60 e
    rw [if_neg h60] at e
    by_cases h126 : b.toNat = 126
    · rw [if_pos h126] at e
      exact a126Y h h126 e
    rw [if_neg h126] at e
    by_cases h17 : b.toNat = 17
    · rw [if_pos h17] at e
      exact a17Y h h17 e
    rw [if_neg h17] at e
    by_cases h161 : b.toNat = 161
    · rw [if_pos h161] at e
      exact a161Y h h161 e
    rw [if_neg h161] at e
    by_cases h8 : b.toNat = 8
    · rw [if_pos h8] at e
      exact a8Y h h8 e
    rw [if_neg h8] at e
    by_cases h25 : b.toNat = 25
    · rw [if_pos h25] at e
      exact a25Y h h25 e
    rw [if_neg h25] at e
    by_cases h183 : b.toNat = 183
    · rw [if_pos h183] at e
      exact a183Y h h183 e
    rw [if_neg h183] at e
    by_cases h10 : b.toNat = 10
    · rw [if_pos h10] at e
      exact a10Y h h10 e
    rw [if_neg h10] at e
    by_cases h45 : b.toNat = 45
    · rw [if_pos h45] at e
      exact a45Y h h45 e
    rw [if_neg h45] at e
    by_cases h128 : b.toNat = 128
    · rw [if_pos h128] at e
      exact a128Y h h128 e
    rw [if_neg h128] at e
    by_cases h155 : b.toNat = 155
    · rw [if_pos h155] at e
      exact a155Y h h155 e
    rw [if_neg h155] at e
    by_cases h108 : b.toNat = 108
    · rw [if_pos h108] at e
      exact a108Y h h108 e
    rw [if_neg h108] at e
    by_cases h187 : b.toNat = 187
    · rw [if_pos h187] at e
      exact a187Y h h187 e
    rw [if_neg h187] at e
    by_cases h122 : b.toNat = 122
    · rw [if_pos h122] at e
      exact a122Y h h122 e
    rw [if_neg h122] at e
    by_cases h31 : b.toNat = 31
    · rw [if_pos h31] at e
      exact a31Y h h31 e
    rw [if_neg h31] at e
    by_cases h163 : b.toNat = 163
    · rw [if_pos h163] at e
      exact a163Y h h163 e
    rw [if_neg h163] at e
    by_cases h136 : b.toNat = 136
    · rw [if_pos h136] at e
      exact a136Y h h136 e
    rw [if_neg h136] at e
    by_cases h47 : b.toNat = 47
    · rw [if_pos h47] at e
      exact a47Y h h47 e
    rw [if_neg h47] at e
    by_cases h173 : b.toNat = 173
    · rw [if_pos h173] at e
      exact a173Y h h173 e
    rw [if_neg h173] at e
    by_cases h164 : b.toNat = 164
    · rw [if_pos h164] at e
      exact a164Y h h164 e
    rw [if_neg h164] at e
    by_cases h148 : b.toNat = 148
    · rw [if_pos h148] at e
      exact a148Y h h148 e
    rw [if_neg h148] at e
    by_cases h190 : b.toNat = 190
    · rw [if_pos h190] at e
      exact a190Y h h190 e
    rw [if_neg h190] at e
    by_cases h121 : b.toNat = 121
    · rw [if_pos h121] at e
      exact a121Y h h121 e
    rw [if_neg h121] at e
    by_cases h19 : b.toNat = 19
    · rw [if_pos h19] at e
      exact a19Y h h19 e
    rw [if_neg h19] at e
    by_cases h129 : b.toNat = 129
    · rw [if_pos h129] at e
      exact a129Y h h129 e
    rw [if_neg h129] at e
    by_cases h178 : b.toNat = 178
    · rw [if_pos h178] at e
      exact a178Y h h178 e
    rw [if_neg h178] at e
    by_cases h58 : b.toNat = 58
    · rw [if_pos h58] at e
      exact a58Y h h58 e
    rw [if_neg h58] at e
    by_cases h80 : b.toNat = 80
    · rw [if_pos h80] at e
      exact a80Y h h80 e
    rw [if_neg h80] at e
    by_cases h127 : b.toNat = 127
    · rw [if_pos h127] at e
      exact a127Y h h127 e
    rw [if_neg h127] at e
    by_cases h90 : b.toNat = 90
    · rw [if_pos h90] at e
      exact a90Y h h90 e
    rw [if_neg h90] at e
    by_cases h92 : b.toNat = 92
    · rw [if_pos h92] at e
      exact a92Y h h92 e
    rw [if_neg h92] at e
    by_cases h33 : b.toNat = 33
    · rw [if_pos h33] at e
      exact a33Y h h33 e
    rw [if_neg h33] at e
    by_cases h22 : b.toNat = 22
    · rw [if_pos h22] at e
      exact a22Y h h22 e
    rw [if_neg h22] at e
    by_cases h76 : b.toNat = 76
    · rw [if_pos h76] at e
      exact a76Y h h76 e
    rw [if_neg h76] at e
    by_cases h124 : b.toNat = 124
    · rw [if_pos h124] at e
      exact a124Y h h124 e
    rw [if_neg h124] at e
    by_cases h59 : b.toNat = 59
    · rw [if_pos h59] at e
      exact a59Y h h59 e
    rw [if_neg h59] at e
    by_cases h156 : b.toNat = 156
    · rw [if_pos h156] at e
      exact a156Y h h156 e
    rw [if_neg h156] at e
    by_cases h32 : b.toNat = 32
    · rw [if_pos h32] at e
      exact a32Y h h32 e
    rw [if_neg h32] at e
    by_cases h123 : b.toNat = 123
    · rw [if_pos h123] at e
      exact a123Y h h123 e
    rw [if_neg h123] at e
    by_cases h78 : b.toNat = 78
    · rw [if_pos h78] at e
      exact a78Y h h78 e
    rw [if_neg h78] at e
    by_cases h199 : b.toNat = 199
    · rw [if_pos h199] at e
      exact a199Y h h199 e
    rw [if_neg h199] at e
    by_cases h77 : b.toNat = 77
    · rw [if_pos h77] at e
      exact a77Y h h77 e
    rw [if_neg h77] at e
    by_cases h130 : b.toNat = 130
    · rw [if_pos h130] at e
      exact a130Y h h130 e
    rw [if_neg h130] at e
    by_cases h112 : b.toNat = 112
    · rw [if_pos h112] at e
      exact a112Y h h112 e
    rw [if_neg h112] at e
    by_cases h51 : b.toNat = 51
    · rw [if_pos h51] at e
      exact a51Y h h51 e
    rw [if_neg h51] at e
    by_cases h145 : b.toNat = 145
    · rw [if_pos h145] at e
      exact a145Y h h145 e
    rw [if_neg h145] at e
    by_cases h147 : b.toNat = 147
    · rw [if_pos h147] at e
      exact a147Y h h147 e
    rw [if_neg h147] at e
    by_cases h55 : b.toNat = 55
    · rw [if_pos h55] at e
      exact a55Y h h55 e
    rw [if_neg h55] at e
    by_cases h157 : b.toNat = 157
    · rw [if_pos h157] at e
      exact a157Y h h157 e
    rw [if_neg h157] at e
    by_cases h158 : b.toNat = 158
    · rw [if_pos h158] at e
      exact a158Y h h158 e
    rw [if_neg h158] at e
    by_cases h30 : b.toNat = 30
    · rw [if_pos h30] at e
      exact a30Y h h30 e
    rw [if_neg h30] at e
    by_cases h66 : b.toNat = 66
    · rw [if_pos h66] at e
      exact a66Y h h66 e
    rw [if_neg h66] at e
    by_cases h146 : b.toNat = 146
    · rw [if_pos h146] at e
      exact a146Y h h146 e
    rw [if_neg h146] at e
    by_cases h191 : b.toNat = 191
    · rw [if_pos h191] at e
      exact a191Y h h191 e
    rw [if_neg h191] at e
    by_cases h88 : b.toNat = 88
    · rw [if_pos h88] at e
      exact a88Y h h88 e
    rw [if_neg h88] at e
    by_cases h116 : b.toNat = 116
    · rw [if_pos h116] at e
      exact a116Y h h116 e
    rw [if_neg h116] at e
    by_cases h105 : b.toNat = 105
    · rw [if_pos h105] at e
      exact a105Y h h105 e
    rw [if_neg h105] at e
    by_cases h97 : b.toNat = 97
    · rw [if_pos h97] at e
      exact a97Y h h97 e
    rw [if_neg h97] at e
    by_cases h101 : b.toNat = 101
    · rw [if_pos h101] at e
      exact a101Y h h101 e
    rw [if_neg h101] at e
    by_cases h176 : b.toNat = 176
    · rw [if_pos h176] at e
      exact a176Y h h176 e
    rw [if_neg h176] at e
    cases e
def chkY : List (Instr × Nat) → List UInt8 → Bool
  | [], _ => true
  | _ :: _, [] => false
  | x :: r, b :: t => decide (fdY b t = some x) && chkY r (t.drop (x.2 - 1))
def RwY (c : ByteArray) : Nat → List (Instr × Nat) → Prop
  | _, [] => True
  | p, x :: r => decode c p = .ok x ∧ RwY c (p + x.2) r
theorem chkY_ok {c : ByteArray} : ∀ (r : List (Instr × Nat)) (p : Nat) (l : List UInt8), c.data.toList.drop p = l → chkY r l = true → (∀ x ∈ r, 0 < x.2) → RwY c p r
  | [], _, _, _, _, _ => trivial
  | x :: r, p, [], _, h, _ => by cases h
  | x :: r, p, b :: t, hl, h, hp => by
    have h : (decide (fdY b t = some x) && chkY r (t.drop (x.2 - 1))) = true := h
    rw [Bool.and_eq_true, decide_eq_true_eq] at h
    have x0 := hp x (List.mem_cons_self ..)
    refine ⟨fdY_ok (i := x.1) (k := x.2) hl h.1, chkY_ok r (p + x.2) _ ?_ h.2 (fun y hy => hp y (List.mem_cons_of_mem _ hy))⟩
    have q := nxY hl
    rw [← q, List.drop_drop]
    congr 1
    omega
def posY (r : List (Instr × Nat)) : Bool := r.all (fun x => decide (0 < x.2))
theorem rwY {c : ByteArray} (p : Nat) (r : List (Instr × Nat)) (h : (chkY r (c.data.toList.drop p) && posY r) = true) : RwY c p r := by
  rw [Bool.and_eq_true] at h
  refine chkY_ok r p _ rfl h.1 (fun x hx => ?_)
  have q := List.all_eq_true.mp h.2 x hx
  exact of_decide_eq_true q
end
