section
-- ===== PART A: goes FIRST, ahead of the names: the tables' words, and 'selects' of the private methods out of them =====
/-- a private method of a class that the tables say can be made, by its rows of tables_1 -/
def lw_okq (q : MethodName × Nat) : Prop := (q.1.cls ≠ "java/lang/invoke/MethodHandle" ∧ q.1.cls ≠ "java/lang/invoke/VarHandle") ∧ Cond.instantiable q.1.cls q.2 ∈ tables_1 ∧ Cond.privateMethod q.1 ∈ tables_1 ∧ Cond.instanceMethod q.1 ∈ tables_1
theorem lw_p0 : lw_okq (⟨"SpokenDesk$Nearest", "compare", "(LSpokenDesk$Grammar;LSpokenDesk$Measure;I)V"⟩, 5) := ⟨⟨by decide +kernel, by decide +kernel⟩, List.mem_of_getElem? (i := 181) (by decide +kernel), List.mem_of_getElem? (i := 417) (by decide +kernel), List.mem_of_getElem? (i := 418) (by decide +kernel)⟩
theorem lw_p1 : lw_okq (⟨"SpokenDesk$Costs", "goBy", "(II)V"⟩, 4) := ⟨⟨by decide +kernel, by decide +kernel⟩, List.mem_of_getElem? (i := 32) (by decide +kernel), List.mem_of_getElem? (i := 436) (by decide +kernel), List.mem_of_getElem? (i := 437) (by decide +kernel)⟩
theorem lw_p2 : lw_okq (⟨"SpokenDesk$Measure", "fillLine", "([III)V"⟩, 8) := ⟨⟨by decide +kernel, by decide +kernel⟩, List.mem_of_getElem? (i := 55) (by decide +kernel), List.mem_of_getElem? (i := 449) (by decide +kernel), List.mem_of_getElem? (i := 450) (by decide +kernel)⟩
theorem lw_p3 : lw_okq (⟨"SpokenDesk$Hearing", "weigh", "(II)V"⟩, 6) := ⟨⟨by decide +kernel, by decide +kernel⟩, List.mem_of_getElem? (i := 203) (by decide +kernel), List.mem_of_getElem? (i := 476) (by decide +kernel), List.mem_of_getElem? (i := 477) (by decide +kernel)⟩
theorem lw_p4 : lw_okq (⟨"SpokenDesk$Hearing", "askAgain", "(LSpokenDesk$Grammar;)V"⟩, 6) := ⟨⟨by decide +kernel, by decide +kernel⟩, List.mem_of_getElem? (i := 203) (by decide +kernel), List.mem_of_getElem? (i := 480) (by decide +kernel), List.mem_of_getElem? (i := 481) (by decide +kernel)⟩
theorem lw_p5 : lw_okq (⟨"SpokenDesk$Slots", "isReady", "()Z"⟩, 9) := ⟨⟨by decide +kernel, by decide +kernel⟩, List.mem_of_getElem? (i := 228) (by decide +kernel), List.mem_of_getElem? (i := 514) (by decide +kernel), List.mem_of_getElem? (i := 515) (by decide +kernel)⟩
theorem lw_p6 : lw_okq (⟨"SpokenDesk$Slots", "measureAll", "(LSpokenDesk$Measure;)V"⟩, 9) := ⟨⟨by decide +kernel, by decide +kernel⟩, List.mem_of_getElem? (i := 228) (by decide +kernel), List.mem_of_getElem? (i := 518) (by decide +kernel), List.mem_of_getElem? (i := 519) (by decide +kernel)⟩
theorem lw_p7 : lw_okq (⟨"SpokenDesk$Slots", "measureWord", "(IILSpokenDesk$Measure;)V"⟩, 9) := ⟨⟨by decide +kernel, by decide +kernel⟩, List.mem_of_getElem? (i := 228) (by decide +kernel), List.mem_of_getElem? (i := 522) (by decide +kernel), List.mem_of_getElem? (i := 523) (by decide +kernel)⟩
theorem lw_p8 : lw_okq (⟨"SpokenDesk$Slots", "tryFrom", "(II)V"⟩, 9) := ⟨⟨by decide +kernel, by decide +kernel⟩, List.mem_of_getElem? (i := 228) (by decide +kernel), List.mem_of_getElem? (i := 529) (by decide +kernel), List.mem_of_getElem? (i := 530) (by decide +kernel)⟩
theorem lw_p9 : lw_okq (⟨"SpokenDesk$Slots", "leastWith", "(III)I"⟩, 9) := ⟨⟨by decide +kernel, by decide +kernel⟩, List.mem_of_getElem? (i := 228) (by decide +kernel), List.mem_of_getElem? (i := 534) (by decide +kernel), List.mem_of_getElem? (i := 535) (by decide +kernel)⟩
theorem lw_p10 : lw_okq (⟨"java/lang/Throwable", "fillInStackTrace", "(I)Ljava/lang/Throwable;"⟩, 6) := ⟨⟨by decide +kernel, by decide +kernel⟩, List.mem_of_getElem? (i := 605) (by decide +kernel), List.mem_of_getElem? (i := 603) (by decide +kernel), List.mem_of_getElem? (i := 604) (by decide +kernel)⟩
theorem lw_p11 : lw_okq (⟨"SpokenDesk", "needBytes", "(I)V"⟩, 14) := ⟨⟨by decide +kernel, by decide +kernel⟩, List.mem_of_getElem? (i := 24) (by decide +kernel), List.mem_of_getElem? (i := 672) (by decide +kernel), List.mem_of_getElem? (i := 673) (by decide +kernel)⟩
theorem lw_p12 : lw_okq (⟨"SpokenDesk", "tell", "(LSpokenDesk$Lexicon;II)I"⟩, 14) := ⟨⟨by decide +kernel, by decide +kernel⟩, List.mem_of_getElem? (i := 24) (by decide +kernel), List.mem_of_getElem? (i := 677) (by decide +kernel), List.mem_of_getElem? (i := 678) (by decide +kernel)⟩
theorem lw_p13 : lw_okq (⟨"SpokenDesk", "readTape", "(I)I"⟩, 14) := ⟨⟨by decide +kernel, by decide +kernel⟩, List.mem_of_getElem? (i := 24) (by decide +kernel), List.mem_of_getElem? (i := 751) (by decide +kernel), List.mem_of_getElem? (i := 752) (by decide +kernel)⟩
theorem lw_p14 : lw_okq (⟨"SpokenDesk$Reader", "tryRules", "([III)I"⟩, 3) := ⟨⟨by decide +kernel, by decide +kernel⟩, List.mem_of_getElem? (i := 144) (by decide +kernel), List.mem_of_getElem? (i := 761) (by decide +kernel), List.mem_of_getElem? (i := 762) (by decide +kernel)⟩
theorem lw_p15 : lw_okq (⟨"SpokenDesk$Reader", "longest", "([III)I"⟩, 3) := ⟨⟨by decide +kernel, by decide +kernel⟩, List.mem_of_getElem? (i := 144) (by decide +kernel), List.mem_of_getElem? (i := 766) (by decide +kernel), List.mem_of_getElem? (i := 767) (by decide +kernel)⟩
def lw_privs_1 : List (MethodName × Nat) := [(⟨"SpokenDesk$Nearest", "compare", "(LSpokenDesk$Grammar;LSpokenDesk$Measure;I)V"⟩, 5), (⟨"SpokenDesk$Costs", "goBy", "(II)V"⟩, 4), (⟨"SpokenDesk$Measure", "fillLine", "([III)V"⟩, 8), (⟨"SpokenDesk$Hearing", "weigh", "(II)V"⟩, 6), (⟨"SpokenDesk$Hearing", "askAgain", "(LSpokenDesk$Grammar;)V"⟩, 6), (⟨"SpokenDesk$Slots", "isReady", "()Z"⟩, 9), (⟨"SpokenDesk$Slots", "measureAll", "(LSpokenDesk$Measure;)V"⟩, 9), (⟨"SpokenDesk$Slots", "measureWord", "(IILSpokenDesk$Measure;)V"⟩, 9), (⟨"SpokenDesk$Slots", "tryFrom", "(II)V"⟩, 9), (⟨"SpokenDesk$Slots", "leastWith", "(III)I"⟩, 9), (⟨"java/lang/Throwable", "fillInStackTrace", "(I)Ljava/lang/Throwable;"⟩, 6), (⟨"SpokenDesk", "needBytes", "(I)V"⟩, 14), (⟨"SpokenDesk", "tell", "(LSpokenDesk$Lexicon;II)I"⟩, 14), (⟨"SpokenDesk", "readTape", "(I)I"⟩, 14), (⟨"SpokenDesk$Reader", "tryRules", "([III)I"⟩, 3), (⟨"SpokenDesk$Reader", "longest", "([III)I"⟩, 3)]
theorem lw_r1 : ∀ q ∈ lw_privs_1, lw_okq q := List.forall_mem_cons.mpr ⟨lw_p0, List.forall_mem_cons.mpr ⟨lw_p1, List.forall_mem_cons.mpr ⟨lw_p2, List.forall_mem_cons.mpr ⟨lw_p3, List.forall_mem_cons.mpr ⟨lw_p4, List.forall_mem_cons.mpr ⟨lw_p5, List.forall_mem_cons.mpr ⟨lw_p6, List.forall_mem_cons.mpr ⟨lw_p7, List.forall_mem_cons.mpr ⟨lw_p8, List.forall_mem_cons.mpr ⟨lw_p9, List.forall_mem_cons.mpr ⟨lw_p10, List.forall_mem_cons.mpr ⟨lw_p11, List.forall_mem_cons.mpr ⟨lw_p12, List.forall_mem_cons.mpr ⟨lw_p13, List.forall_mem_cons.mpr ⟨lw_p14, List.forall_mem_cons.mpr ⟨lw_p15, fun _ h => absurd h List.not_mem_nil⟩⟩⟩⟩⟩⟩⟩⟩⟩⟩⟩⟩⟩⟩⟩⟩
theorem lw_p16 : lw_okq (⟨"SpokenDesk$Parser", "takeSpelling", "([IILSpokenDesk$Grammar;)I"⟩, 4) := ⟨⟨by decide +kernel, by decide +kernel⟩, List.mem_of_getElem? (i := 162) (by decide +kernel), List.mem_of_getElem? (i := 809) (by decide +kernel), List.mem_of_getElem? (i := 810) (by decide +kernel)⟩
theorem lw_p17 : lw_okq (⟨"SpokenDesk$Grammar", "latestPart", "(I)I"⟩, 13) := ⟨⟨by decide +kernel, by decide +kernel⟩, List.mem_of_getElem? (i := 264) (by decide +kernel), List.mem_of_getElem? (i := 820) (by decide +kernel), List.mem_of_getElem? (i := 821) (by decide +kernel)⟩
theorem lw_p18 : lw_okq (⟨"SpokenDesk$Grammar", "hasPoint", "(I)Z"⟩, 13) := ⟨⟨by decide +kernel, by decide +kernel⟩, List.mem_of_getElem? (i := 264) (by decide +kernel), List.mem_of_getElem? (i := 824) (by decide +kernel), List.mem_of_getElem? (i := 825) (by decide +kernel)⟩
theorem lw_p19 : lw_okq (⟨"SpokenDesk$Parser", "takeSign", "(ILSpokenDesk$Grammar;)I"⟩, 4) := ⟨⟨by decide +kernel, by decide +kernel⟩, List.mem_of_getElem? (i := 162) (by decide +kernel), List.mem_of_getElem? (i := 828) (by decide +kernel), List.mem_of_getElem? (i := 829) (by decide +kernel)⟩
theorem lw_p20 : lw_okq (⟨"SpokenDesk$Parser", "takeOpening", "(ZLSpokenDesk$Grammar;)I"⟩, 4) := ⟨⟨by decide +kernel, by decide +kernel⟩, List.mem_of_getElem? (i := 162) (by decide +kernel), List.mem_of_getElem? (i := 832) (by decide +kernel), List.mem_of_getElem? (i := 833) (by decide +kernel)⟩
theorem lw_p21 : lw_okq (⟨"SpokenDesk$Parser", "takeBar", "(LSpokenDesk$Grammar;)I"⟩, 4) := ⟨⟨by decide +kernel, by decide +kernel⟩, List.mem_of_getElem? (i := 162) (by decide +kernel), List.mem_of_getElem? (i := 840) (by decide +kernel), List.mem_of_getElem? (i := 841) (by decide +kernel)⟩
theorem lw_p22 : lw_okq (⟨"SpokenDesk$Parser", "takeClosing", "(ZLSpokenDesk$Grammar;)I"⟩, 4) := ⟨⟨by decide +kernel, by decide +kernel⟩, List.mem_of_getElem? (i := 162) (by decide +kernel), List.mem_of_getElem? (i := 848) (by decide +kernel), List.mem_of_getElem? (i := 849) (by decide +kernel)⟩
theorem lw_p23 : lw_okq (⟨"SpokenDesk$Grammar", "settleFrom", "(I)V"⟩, 13) := ⟨⟨by decide +kernel, by decide +kernel⟩, List.mem_of_getElem? (i := 264) (by decide +kernel), List.mem_of_getElem? (i := 865) (by decide +kernel), List.mem_of_getElem? (i := 866) (by decide +kernel)⟩
theorem lw_p24 : lw_okq (⟨"SpokenDesk$Grammar", "comesBy", "(II)Z"⟩, 13) := ⟨⟨by decide +kernel, by decide +kernel⟩, List.mem_of_getElem? (i := 264) (by decide +kernel), List.mem_of_getElem? (i := 869) (by decide +kernel), List.mem_of_getElem? (i := 870) (by decide +kernel)⟩
theorem lw_p25 : lw_okq (⟨"SpokenDesk$Grammar", "joinWords", "(I)Z"⟩, 13) := ⟨⟨by decide +kernel, by decide +kernel⟩, List.mem_of_getElem? (i := 264) (by decide +kernel), List.mem_of_getElem? (i := 874) (by decide +kernel), List.mem_of_getElem? (i := 875) (by decide +kernel)⟩
theorem lw_p26 : lw_okq (⟨"SpokenDesk$Grammar", "step", "()Z"⟩, 13) := ⟨⟨by decide +kernel, by decide +kernel⟩, List.mem_of_getElem? (i := 264) (by decide +kernel), List.mem_of_getElem? (i := 881) (by decide +kernel), List.mem_of_getElem? (i := 882) (by decide +kernel)⟩
theorem lw_p27 : lw_okq (⟨"SpokenDesk", "needCommand", "(I)V"⟩, 14) := ⟨⟨by decide +kernel, by decide +kernel⟩, List.mem_of_getElem? (i := 24) (by decide +kernel), List.mem_of_getElem? (i := 902) (by decide +kernel), List.mem_of_getElem? (i := 903) (by decide +kernel)⟩
theorem lw_p28 : lw_okq (⟨"SpokenDesk", "needSlot", "(I)V"⟩, 14) := ⟨⟨by decide +kernel, by decide +kernel⟩, List.mem_of_getElem? (i := 24) (by decide +kernel), List.mem_of_getElem? (i := 1001) (by decide +kernel), List.mem_of_getElem? (i := 1002) (by decide +kernel)⟩
theorem lw_p29 : lw_okq (⟨"SpokenDeskModel", "bad", "(ZI)Z"⟩, 56) := ⟨⟨by decide +kernel, by decide +kernel⟩, List.mem_of_getElem? (i := 1027) (by decide +kernel), List.mem_of_getElem? (i := 1213) (by decide +kernel), List.mem_of_getElem? (i := 1214) (by decide +kernel)⟩
theorem lw_p30 : lw_okq (⟨"SpokenDeskModel", "nearAll", "()V"⟩, 56) := ⟨⟨by decide +kernel, by decide +kernel⟩, List.mem_of_getElem? (i := 1027) (by decide +kernel), List.mem_of_getElem? (i := 1221) (by decide +kernel), List.mem_of_getElem? (i := 1222) (by decide +kernel)⟩
theorem lw_p31 : lw_okq (⟨"SpokenDeskModel", "takes", "(I)Z"⟩, 56) := ⟨⟨by decide +kernel, by decide +kernel⟩, List.mem_of_getElem? (i := 1027) (by decide +kernel), List.mem_of_getElem? (i := 1245) (by decide +kernel), List.mem_of_getElem? (i := 1246) (by decide +kernel)⟩
def lw_privs_2 : List (MethodName × Nat) := [(⟨"SpokenDesk$Parser", "takeSpelling", "([IILSpokenDesk$Grammar;)I"⟩, 4), (⟨"SpokenDesk$Grammar", "latestPart", "(I)I"⟩, 13), (⟨"SpokenDesk$Grammar", "hasPoint", "(I)Z"⟩, 13), (⟨"SpokenDesk$Parser", "takeSign", "(ILSpokenDesk$Grammar;)I"⟩, 4), (⟨"SpokenDesk$Parser", "takeOpening", "(ZLSpokenDesk$Grammar;)I"⟩, 4), (⟨"SpokenDesk$Parser", "takeBar", "(LSpokenDesk$Grammar;)I"⟩, 4), (⟨"SpokenDesk$Parser", "takeClosing", "(ZLSpokenDesk$Grammar;)I"⟩, 4), (⟨"SpokenDesk$Grammar", "settleFrom", "(I)V"⟩, 13), (⟨"SpokenDesk$Grammar", "comesBy", "(II)Z"⟩, 13), (⟨"SpokenDesk$Grammar", "joinWords", "(I)Z"⟩, 13), (⟨"SpokenDesk$Grammar", "step", "()Z"⟩, 13), (⟨"SpokenDesk", "needCommand", "(I)V"⟩, 14), (⟨"SpokenDesk", "needSlot", "(I)V"⟩, 14), (⟨"SpokenDeskModel", "bad", "(ZI)Z"⟩, 56), (⟨"SpokenDeskModel", "nearAll", "()V"⟩, 56), (⟨"SpokenDeskModel", "takes", "(I)Z"⟩, 56)]
theorem lw_r2 : ∀ q ∈ lw_privs_2, lw_okq q := List.forall_mem_cons.mpr ⟨lw_p16, List.forall_mem_cons.mpr ⟨lw_p17, List.forall_mem_cons.mpr ⟨lw_p18, List.forall_mem_cons.mpr ⟨lw_p19, List.forall_mem_cons.mpr ⟨lw_p20, List.forall_mem_cons.mpr ⟨lw_p21, List.forall_mem_cons.mpr ⟨lw_p22, List.forall_mem_cons.mpr ⟨lw_p23, List.forall_mem_cons.mpr ⟨lw_p24, List.forall_mem_cons.mpr ⟨lw_p25, List.forall_mem_cons.mpr ⟨lw_p26, List.forall_mem_cons.mpr ⟨lw_p27, List.forall_mem_cons.mpr ⟨lw_p28, List.forall_mem_cons.mpr ⟨lw_p29, List.forall_mem_cons.mpr ⟨lw_p30, List.forall_mem_cons.mpr ⟨lw_p31, fun _ h => absurd h List.not_mem_nil⟩⟩⟩⟩⟩⟩⟩⟩⟩⟩⟩⟩⟩⟩⟩⟩
theorem lw_p32 : lw_okq (⟨"SpokenDeskModel", "isSpelling", "(I)Z"⟩, 56) := ⟨⟨by decide +kernel, by decide +kernel⟩, List.mem_of_getElem? (i := 1027) (by decide +kernel), List.mem_of_getElem? (i := 1249) (by decide +kernel), List.mem_of_getElem? (i := 1250) (by decide +kernel)⟩
theorem lw_p33 : lw_okq (⟨"SpokenDeskModel", "byteAt", "(I)I"⟩, 56) := ⟨⟨by decide +kernel, by decide +kernel⟩, List.mem_of_getElem? (i := 1027) (by decide +kernel), List.mem_of_getElem? (i := 1253) (by decide +kernel), List.mem_of_getElem? (i := 1254) (by decide +kernel)⟩
theorem lw_p34 : lw_okq (⟨"SpokenDeskModel", "reads", "(II)I"⟩, 56) := ⟨⟨by decide +kernel, by decide +kernel⟩, List.mem_of_getElem? (i := 1027) (by decide +kernel), List.mem_of_getElem? (i := 1271) (by decide +kernel), List.mem_of_getElem? (i := 1272) (by decide +kernel)⟩
theorem lw_p35 : lw_okq (⟨"SpokenDeskModel", "row", "(II)V"⟩, 56) := ⟨⟨by decide +kernel, by decide +kernel⟩, List.mem_of_getElem? (i := 1027) (by decide +kernel), List.mem_of_getElem? (i := 1279) (by decide +kernel), List.mem_of_getElem? (i := 1280) (by decide +kernel)⟩
theorem lw_p36 : lw_okq (⟨"SpokenDeskModel", "blanks", "()V"⟩, 56) := ⟨⟨by decide +kernel, by decide +kernel⟩, List.mem_of_getElem? (i := 1027) (by decide +kernel), List.mem_of_getElem? (i := 1283) (by decide +kernel), List.mem_of_getElem? (i := 1284) (by decide +kernel)⟩
theorem lw_p37 : lw_okq (⟨"SpokenDeskModel", "spelling", "(II)V"⟩, 56) := ⟨⟨by decide +kernel, by decide +kernel⟩, List.mem_of_getElem? (i := 1027) (by decide +kernel), List.mem_of_getElem? (i := 1287) (by decide +kernel), List.mem_of_getElem? (i := 1288) (by decide +kernel)⟩
theorem lw_p38 : lw_okq (⟨"SpokenDeskModel", "wrong", "(II)V"⟩, 56) := ⟨⟨by decide +kernel, by decide +kernel⟩, List.mem_of_getElem? (i := 1027) (by decide +kernel), List.mem_of_getElem? (i := 1291) (by decide +kernel), List.mem_of_getElem? (i := 1292) (by decide +kernel)⟩
theorem lw_p39 : lw_okq (⟨"SpokenDeskModel", "choice", "(III)V"⟩, 56) := ⟨⟨by decide +kernel, by decide +kernel⟩, List.mem_of_getElem? (i := 1027) (by decide +kernel), List.mem_of_getElem? (i := 1295) (by decide +kernel), List.mem_of_getElem? (i := 1296) (by decide +kernel)⟩
theorem lw_p40 : lw_okq (⟨"SpokenDeskModel", "lists", "()I"⟩, 56) := ⟨⟨by decide +kernel, by decide +kernel⟩, List.mem_of_getElem? (i := 1027) (by decide +kernel), List.mem_of_getElem? (i := 1299) (by decide +kernel), List.mem_of_getElem? (i := 1300) (by decide +kernel)⟩
theorem lw_p41 : lw_okq (⟨"SpokenDeskModel", "isCome", "(II)Z"⟩, 56) := ⟨⟨by decide +kernel, by decide +kernel⟩, List.mem_of_getElem? (i := 1027) (by decide +kernel), List.mem_of_getElem? (i := 1303) (by decide +kernel), List.mem_of_getElem? (i := 1304) (by decide +kernel)⟩
theorem lw_p42 : lw_okq (⟨"SpokenDeskModel", "most", "(I)I"⟩, 56) := ⟨⟨by decide +kernel, by decide +kernel⟩, List.mem_of_getElem? (i := 1027) (by decide +kernel), List.mem_of_getElem? (i := 1307) (by decide +kernel), List.mem_of_getElem? (i := 1308) (by decide +kernel)⟩
theorem lw_p43 : lw_okq (⟨"SpokenDeskModel", "says", "(II)I"⟩, 56) := ⟨⟨by decide +kernel, by decide +kernel⟩, List.mem_of_getElem? (i := 1027) (by decide +kernel), List.mem_of_getElem? (i := 1311) (by decide +kernel), List.mem_of_getElem? (i := 1312) (by decide +kernel)⟩
theorem lw_p44 : lw_okq (⟨"SpokenDeskModel", "isCommand", "(I)Z"⟩, 56) := ⟨⟨by decide +kernel, by decide +kernel⟩, List.mem_of_getElem? (i := 1027) (by decide +kernel), List.mem_of_getElem? (i := 1323) (by decide +kernel), List.mem_of_getElem? (i := 1324) (by decide +kernel)⟩
theorem lw_p45 : lw_okq (⟨"SpokenDeskModel", "between", "(II)I"⟩, 56) := ⟨⟨by decide +kernel, by decide +kernel⟩, List.mem_of_getElem? (i := 1027) (by decide +kernel), List.mem_of_getElem? (i := 1335) (by decide +kernel), List.mem_of_getElem? (i := 1336) (by decide +kernel)⟩
theorem lw_p46 : lw_okq (⟨"SpokenDeskModel", "distanceOf", "([III[III)I"⟩, 56) := ⟨⟨by decide +kernel, by decide +kernel⟩, List.mem_of_getElem? (i := 1027) (by decide +kernel), List.mem_of_getElem? (i := 1339) (by decide +kernel), List.mem_of_getElem? (i := 1340) (by decide +kernel)⟩
theorem lw_p47 : lw_okq (⟨"SpokenDeskModel", "pairs", "()V"⟩, 56) := ⟨⟨by decide +kernel, by decide +kernel⟩, List.mem_of_getElem? (i := 1027) (by decide +kernel), List.mem_of_getElem? (i := 1348) (by decide +kernel), List.mem_of_getElem? (i := 1349) (by decide +kernel)⟩
def lw_privs_3 : List (MethodName × Nat) := [(⟨"SpokenDeskModel", "isSpelling", "(I)Z"⟩, 56), (⟨"SpokenDeskModel", "byteAt", "(I)I"⟩, 56), (⟨"SpokenDeskModel", "reads", "(II)I"⟩, 56), (⟨"SpokenDeskModel", "row", "(II)V"⟩, 56), (⟨"SpokenDeskModel", "blanks", "()V"⟩, 56), (⟨"SpokenDeskModel", "spelling", "(II)V"⟩, 56), (⟨"SpokenDeskModel", "wrong", "(II)V"⟩, 56), (⟨"SpokenDeskModel", "choice", "(III)V"⟩, 56), (⟨"SpokenDeskModel", "lists", "()I"⟩, 56), (⟨"SpokenDeskModel", "isCome", "(II)Z"⟩, 56), (⟨"SpokenDeskModel", "most", "(I)I"⟩, 56), (⟨"SpokenDeskModel", "says", "(II)I"⟩, 56), (⟨"SpokenDeskModel", "isCommand", "(I)Z"⟩, 56), (⟨"SpokenDeskModel", "between", "(II)I"⟩, 56), (⟨"SpokenDeskModel", "distanceOf", "([III[III)I"⟩, 56), (⟨"SpokenDeskModel", "pairs", "()V"⟩, 56)]
theorem lw_r3 : ∀ q ∈ lw_privs_3, lw_okq q := List.forall_mem_cons.mpr ⟨lw_p32, List.forall_mem_cons.mpr ⟨lw_p33, List.forall_mem_cons.mpr ⟨lw_p34, List.forall_mem_cons.mpr ⟨lw_p35, List.forall_mem_cons.mpr ⟨lw_p36, List.forall_mem_cons.mpr ⟨lw_p37, List.forall_mem_cons.mpr ⟨lw_p38, List.forall_mem_cons.mpr ⟨lw_p39, List.forall_mem_cons.mpr ⟨lw_p40, List.forall_mem_cons.mpr ⟨lw_p41, List.forall_mem_cons.mpr ⟨lw_p42, List.forall_mem_cons.mpr ⟨lw_p43, List.forall_mem_cons.mpr ⟨lw_p44, List.forall_mem_cons.mpr ⟨lw_p45, List.forall_mem_cons.mpr ⟨lw_p46, List.forall_mem_cons.mpr ⟨lw_p47, fun _ h => absurd h List.not_mem_nil⟩⟩⟩⟩⟩⟩⟩⟩⟩⟩⟩⟩⟩⟩⟩⟩
theorem lw_p48 : lw_okq (⟨"SpokenDeskModel", "asked", "(I)I"⟩, 56) := ⟨⟨by decide +kernel, by decide +kernel⟩, List.mem_of_getElem? (i := 1027) (by decide +kernel), List.mem_of_getElem? (i := 1364) (by decide +kernel), List.mem_of_getElem? (i := 1365) (by decide +kernel)⟩
theorem lw_p49 : lw_okq (⟨"SpokenDeskModel", "isSlot", "(I)Z"⟩, 56) := ⟨⟨by decide +kernel, by decide +kernel⟩, List.mem_of_getElem? (i := 1027) (by decide +kernel), List.mem_of_getElem? (i := 1380) (by decide +kernel), List.mem_of_getElem? (i := 1381) (by decide +kernel)⟩
theorem lw_p50 : lw_okq (⟨"SpokenDeskModel", "chooses", "()I"⟩, 56) := ⟨⟨by decide +kernel, by decide +kernel⟩, List.mem_of_getElem? (i := 1027) (by decide +kernel), List.mem_of_getElem? (i := 1388) (by decide +kernel), List.mem_of_getElem? (i := 1389) (by decide +kernel)⟩
def lw_privs_4 : List (MethodName × Nat) := [(⟨"SpokenDeskModel", "asked", "(I)I"⟩, 56), (⟨"SpokenDeskModel", "isSlot", "(I)Z"⟩, 56), (⟨"SpokenDeskModel", "chooses", "()I"⟩, 56)]
theorem lw_r4 : ∀ q ∈ lw_privs_4, lw_okq q := List.forall_mem_cons.mpr ⟨lw_p48, List.forall_mem_cons.mpr ⟨lw_p49, List.forall_mem_cons.mpr ⟨lw_p50, fun _ h => absurd h List.not_mem_nil⟩⟩⟩
def lw_privs : List (MethodName × Nat) := lw_privs_1 ++ (lw_privs_2 ++ (lw_privs_3 ++ (lw_privs_4)))
def lw_tbl : List Cond := k2_sels lw_privs ++ tables_1
theorem lw_privs_ok : ∀ q ∈ lw_privs, lw_okq q := by
  show ∀ q ∈ lw_privs_1 ++ (lw_privs_2 ++ (lw_privs_3 ++ (lw_privs_4))), lw_okq q
  exact List.forall_mem_append.mpr ⟨lw_r1, List.forall_mem_append.mpr ⟨lw_r2, List.forall_mem_append.mpr ⟨lw_r3, lw_r4⟩⟩⟩
-- ===== end of PART A; then your names; then what follows =====
/-! ===== BEGIN words of one list among another's, by their places ===== -/
theorem goodIn_r {big : List Cond} (ws : List Cond) (ps : List Nat) (hp : ws = ps.filterMap (fun i => big[i]?)) (h : ws.all goodWord = true) : GoodIn big ws := by
  intro w hw
  have h1 := List.all_eq_true.mp h w hw
  rw [hp] at hw
  obtain ⟨i, -, hi⟩ := List.mem_filterMap.mp hw
  have hm : w ∈ big := by first | exact List.mem_of_getElem? hi | exact List.getElem?_mem hi
  exact ⟨hm, good_of_word h1⟩
theorem goodIn_app {big a b : List Cond} (ha : GoodIn big a) (hb : GoodIn big b) : GoodIn big (a ++ b) := fun w h => (List.mem_append.mp h).elim (ha w) (hb w)
theorem goodIn_ca {big a b : List Cond} {c : Cond} (ha : GoodIn big (c :: a)) (hb : GoodIn big b) : GoodIn big (c :: (a ++ b)) := fun w h => (List.mem_cons.mp h).elim (fun e => ha w (List.mem_cons.mpr (Or.inl e))) (fun h => (List.mem_append.mp h).elim (fun h => ha w (List.mem_cons.mpr (Or.inr h))) (hb w))
theorem goodIn_sub {big ws : List Cond} (hm : ∀ w ∈ ws, w ∈ big) (h : ws.all goodWord = true) : GoodIn big ws := fun w hw => ⟨hm w hw, good_of_word (List.all_eq_true.mp h w hw)⟩
/-! ===== END ===== -/

/-! ===== BEGIN exceptions that leave a method, and their catching by the caller (launches without stack traces) ===== -/
section VXA
/-! The laws vx_back, vx_callV, vx_callS, vx_callSW, vx_throw0, vx_throwS follow proofs of the library, with one case more: JvmDerived/Free/Laws.lean (Back.of_free), Shelf42/LK1.lean (callV, callS), Shelf/KitTraced.lean (throwNew0V, throwNewS). -/
/-- where a method has thrown q: the class by its name, the cell, what was written, the world -/
def vx_T (XC : String → State → State → Prop) (st : State) (q : Addr) (t : State) (mc ms : Nat) (free : Addr → Prop) : Prop :=
  ∃ (E : String) (ce : Cell) (L : List Loc), XC E st t ∧ t.heap[q]? = some ce ∧ ce.vm = .none ∧ st.vm.findClass E = some ce.cls ∧ st.WarmedH t.vm ∧ st.sameButNew ({ t with vm := st.vm } : State) L mc ms ∧ ∀ z ∈ L, free z.base
def vx_Q (Qc : Array Value → State → Outcome → State → Prop) (XC : String → State → State → Prop) (mc ms : Nat) (free : Addr → Prop) : Array Value → State → Outcome → State → Prop := fun a st o t =>
  (Qc a st o t ∧ ∃ L, FrameEnd st o t L mc ms ∧ ∀ q ∈ L, free q.base) ∨ ∃ q, o = .threw q ∧ vx_T XC st q t mc ms free
/-- a callee that returns or throws -/
def vx_Met (l : Launch) (y : MethodName) (ws : List Cond) (rm : Room) (Pc : Array Value → State → Prop) (Qc : Array Value → State → Outcome → State → Prop) (XC : String → State → State → Prop) (mc ms : Nat) (free : Addr → Prop) : Prop :=
  MetFree l y (headSpec ws rm) Pc (fun _ _ _ _ _ => True) (vx_Q Qc XC mc ms free)
def vx_Post (XC : String → State → State → Prop) (mc ms : Nat) (free : Addr → Prop) : Pt → Array Value → Addr → Pt → Prop := fun A a q B =>
  ∃ (g : JFrame) (mk : MethodId) (t : State) (L : List Loc) (E : String) (ce : Cell), B.U.heap = t.heap ∧ B.U.vm = t.vm ∧ XC E (A.U.calling g mk a) t ∧ t.heap[q]? = some ce ∧ ce.vm = .none ∧ A.U.vm.findClass E = some ce.cls ∧ B.locs = A.locs ++ L ∧ (∀ z ∈ L, free z.base) ∧ B.cells = A.cells + mc ∧ B.slots = A.slots + ms
def vx_Back (l : Launch) (R : Room) (p : Program) (e : Env) (below : List Frame) (s : State) (sargs : Array Value) (y : MethodName) (len W9 : Nat)
    (Pre : Pt → Array Value → Prop) (Post : Pt → Array Value → Option Value → Pt → Prop) (PostX : Pt → Array Value → Addr → Pt → Prop) : Prop :=
  ∀ (m : MethodId) (meth : Method) (c : Code) (A : Pt) (g : JFrame) (ig : Instr) (mk : MethodId) (a : Array Value),
    Stand p l e R s m sargs below meth c A.U A.locs A.cells A.slots → g.method = m → g.locals.size = c.maxLocals → decode c.code g.pc = .ok (ig, len) →
    2 * g.monitorRoom + (g.stack.map fun v => v.category).sum ≤ W9 → A.U.methodNamed? y = some mk → Pre A a →
    (∃ (v : Option Value) (B : Pt), Stand p l e R s m sargs below meth c B.U B.locs B.cells B.slots ∧ Post A a v B ∧
      Steps p.tables e below (doInvoke e (A.U.setTop g) [] mk a).1 (B.U.setTop { g with pc := g.pc + len, stack := v.toList ++ g.stack })) ∨
    (∃ (q : Addr) (B : Pt), Stand p l e R s m sargs below meth c B.U B.locs B.cells B.slots ∧ PostX A a q B ∧
      Steps p.tables e below (doInvoke e (A.U.setTop g) [] mk a).1 ((B.U.setTop g).pushFrame (.throwing q)))
section Payer
variable {l : Launch} {R : Room} {p : Program} {e : Env} {below : List Frame} {s : State} {sargs : Array Value} {y : MethodName} {len W9 : Nat}
theorem vx_back {ws : List Cond} {rm : Room} {Pc : Array Value → State → Prop} {Qc : Array Value → State → Outcome → State → Prop} {XC : String → State → State → Prop} {mc ms : Nat} {free : Addr → Prop} {bytes : ByteArray} {maxL : Nat} {ret : Option FieldType}
    (hM : vx_Met l y ws rm Pc Qc XC mc ms free) (hblind : FrameBlind Pc) (hrc : rm.cells = mc) (hrs : rm.slots = ms)
    (hframes : rm.frames + 1 ≤ R.frames) (hlocals : W9 + (maxL + 11) + rm.locals ≤ R.locals)
    (hws : ∀ w ∈ ws, ∀ a' U, s.WarmedH U.vm → w.before a' U = true) (hcode : Cond.code y bytes maxL ret ∈ ws) (hinit : ∀ a' U, s.WarmedH U.vm → (Cond.initialized y.cls).before a' U = true) :
    vx_Back l R p e below s sargs y len W9 (PreOf R mc ms Pc) (PostOf Qc mc ms free) (vx_Post XC mc ms free) := by
  intro m meth c A g ig mk a X hg hsize hdg hW hn hp
  have h1 : (headSpec ws rm).pre.before a A.U = true := atoms_intro fun w hw => hws w hw _ _ X.warmed
  have h2 : (Cond.code y bytes maxL ret).before a A.U = true := hws _ hcode _ _ X.warmed
  have h3 : (Cond.initialized y.cls).before a A.U = true := hinit _ _ X.warmed
  have h4 : A.cells + (headSpec ws rm).room.cells ≤ R.cells := by rw [show (headSpec ws rm).room.cells = mc from hrc]; exact hp.1
  have h5 : A.slots + (headSpec ws rm).room.slots ≤ R.slots := by rw [show (headSpec ws rm).room.slots = ms from hrs]; exact hp.2.1
  have hPc : Pc a (A.U.calling g mk a) := hblind _ _ _ _ hp.2.2
  obtain ⟨U, Ls, c0, s0⟩ := A
  dsimp only [Pt.U, Pt.locs, Pt.cells, Pt.slots] at h1 h2 h3 h4 h5 X hn hPc ⊢
  obtain ⟨methY, cY, hmY, hcY, -, hlY, -, -, -, -⟩ := Cond.code_spec hn h2
  obtain ⟨kY, hkY, -⟩ := className_of_methodNamed hn
  have hinitY : kY.init = .initialized := Cond.initialized_spec (findClass_of_methodNamed hn) hkY h3
  have h : At U g.method c below := by rw [hg]; exact X.here
  have hlocals9 : W9 + (maxL + 11) + (headSpec ws rm).room.locals ≤ R.locals := hlocals
  have happ : (headSpec ws rm).appliesLoose y e.platform (U.calling g mk a) = true :=
    Spec.appliesLoose_calling (g := g) h hdg hn hkY hinitY
      (X.room_calling (g := g) (R' := (headSpec ws rm).room) hsize hmY hcY hframes (by rw [hlY]; omega) h4 h5) h1
  obtain ⟨mid, hmid⟩ := h.above
  have hfr : (U.setTop g).frames = (.java g :: mid) ++ below := by rw [State.frames_setTop' g h.top, hmid]; rfl
  obtain ⟨o, s₂, hsteps, -, hend, hq⟩ := Steps.callFree hM p X.admits X.cas X.clock (acts := []) hfr happ hPc trivial
  have hq' : vx_Q Qc XC mc ms free a (U.calling g mk a) o s₂ := hq
  rw [State.frames_setTop' g h.top] at hend
  obtain ⟨g₀, hg0⟩ := Option.isSome_iff_exists.mp h.top
  obtain ⟨r, hr⟩ := State.topJava?_eq_some.mp hg0
  have hr' : (({ U with heap := s₂.heap, slotsUsed := s₂.slotsUsed } : State).setVm s₂.vm).frames = .java g₀ :: r := hr
  rcases hq' with ⟨hqc, L, hfe, hL⟩ | ⟨q, rfl, E, ce, L, hx, hce, hcv, hcl, hW₂, hsm, hL⟩
  · obtain ⟨⟨v, rfl⟩, hW₂, e2, q2, q3, q4, q5, q6⟩ := id hfe
    have e3 : s₂ = ({ (U.calling g mk a).setFrames s₂.frames with heap := s₂.heap, slotsUsed := s₂.slotsUsed } : State).setVm s₂.vm := by
      have : s₂ = ({ s₂ with vm := (U.calling g mk a).vm } : State).setVm s₂.vm := rfl
      rw [e2] at this
      exact this
    obtain ⟨c₂, i₂, len₂, hc₂, hd₂, hf₂⟩ := hend
    have hW' : U.WarmedH s₂.vm := hW₂
    have hcc : c₂ = c := by
      have h1 : s₂.code? g.method = U.code? g.method := by
        rw [State.code?_eq, State.code?_eq, hW'.alike.method?]
      exact Option.some.inj (hc₂.symm.trans (h1.trans h.code))
    subst hcc
    have hlen : len₂ = len := by rw [hdg] at hd₂; cases hd₂; rfl
    subst hlen
    have hs₂ : s₂ = (({ U with heap := s₂.heap, slotsUsed := s₂.slotsUsed } : State).setVm s₂.vm).setTop { g with pc := g.pc + len₂, stack := v.toList ++ g.stack } := by
      refine e3.trans ?_
      rw [hf₂, State.calling_eq h.top, State.setFrames_setFrames, State.setTop_of_frames _ hr', hr]
      rfl
    have hsame : U.sameButNew ({ U with heap := s₂.heap, slotsUsed := s₂.slotsUsed } : State) L mc ms := by
      refine ⟨?_, q2, q3, q4, q5, q6⟩
      obtain ⟨t, ht, -⟩ := State.frames_cons hr
      show ({ U with heap := s₂.heap, slotsUsed := s₂.slotsUsed } : State) = { U.setFrames U.frames with heap := s₂.heap, slotsUsed := s₂.slotsUsed }
      rw [State.setFrames_self ht]
    subst hg
    refine Or.inl ⟨v, ⟨(({ U with heap := s₂.heap, slotsUsed := s₂.slotsUsed } : State).setVm s₂.vm), Ls ++ L, c0 + mc, s0 + ms⟩,
      ⟨X.admits, X.cas, X.clock, X.frames, X.room, X.hears, X.method, X.code, (X.here.setHeapUsed s₂.heap s₂.slotsUsed).setVm hW'.alike, X.tail, State.WarmedH.trans X.warmed hW', X.limits, X.bytes, X.same.trans (hsame.setVm s.vm)⟩,
      ⟨g, mk, s₂, L, rfl, rfl, hqc, rfl, hL, rfl, rfl⟩, ?_⟩
    show Steps p.tables e below _ ((({ U with heap := s₂.heap, slotsUsed := s₂.slotsUsed } : State).setVm s₂.vm).setTop { g with pc := g.pc + len₂, stack := v.toList ++ g.stack })
    rw [← hs₂]
    exact hsteps
  · obtain ⟨e2, q2, q3, q4, q5, q6⟩ := id hsm
    have e3 : s₂ = ({ (U.calling g mk a).setFrames s₂.frames with heap := s₂.heap, slotsUsed := s₂.slotsUsed } : State).setVm s₂.vm := by
      have : s₂ = ({ s₂ with vm := (U.calling g mk a).vm } : State).setVm s₂.vm := rfl
      rw [e2] at this
      exact this
    have hf₂ : s₂.frames = .throwing q :: .java g :: U.frames.tail := hend
    have hW' : U.WarmedH s₂.vm := hW₂
    have hs₂ : s₂ = ((({ U with heap := s₂.heap, slotsUsed := s₂.slotsUsed } : State).setVm s₂.vm).setTop g).pushFrame (.throwing q) := by
      refine e3.trans ?_
      rw [hf₂, State.calling_eq h.top, State.setFrames_setFrames, State.pushFrame, State.frames_setTop _ hr', State.setTop_of_frames _ hr', State.setFrames_setFrames, hr]
      rfl
    have hsame : U.sameButNew ({ U with heap := s₂.heap, slotsUsed := s₂.slotsUsed } : State) L mc ms := by
      refine ⟨?_, q2, q3, q4, q5, q6⟩
      obtain ⟨t, ht, -⟩ := State.frames_cons hr
      show ({ U with heap := s₂.heap, slotsUsed := s₂.slotsUsed } : State) = { U.setFrames U.frames with heap := s₂.heap, slotsUsed := s₂.slotsUsed }
      rw [State.setFrames_self ht]
    subst hg
    refine Or.inr ⟨q, ⟨(({ U with heap := s₂.heap, slotsUsed := s₂.slotsUsed } : State).setVm s₂.vm), Ls ++ L, c0 + mc, s0 + ms⟩,
      ⟨X.admits, X.cas, X.clock, X.frames, X.room, X.hears, X.method, X.code, (X.here.setHeapUsed s₂.heap s₂.slotsUsed).setVm hW'.alike, X.tail, State.WarmedH.trans X.warmed hW', X.limits, X.bytes, X.same.trans (hsame.setVm s.vm)⟩,
      ⟨g, mk, s₂, L, E, ce, rfl, rfl, hx, hce, hcv, hcl, rfl, hL, rfl, rfl⟩, ?_⟩
    show Steps p.tables e below _ (((({ U with heap := s₂.heap, slotsUsed := s₂.slotsUsed } : State).setVm s₂.vm).setTop g).pushFrame (.throwing q))
    rw [← hs₂]
    exact hsteps
end Payer
section Calls
variable {p : Program} {l : Launch} {e : Env} {R : Room} {s : State} {m : MethodId} {args : Array Value} {below : List Frame} {meth : Method} {c : Code} {T : State} {locs : List Loc} {cells slots : Nat}
theorem vx_callV (X : Stand p l e R s m args below meth c T locs cells slots) (hexec : p.tables.exec = Jvm.exec) {own C : String} {index : Nat} {y : MethodName} {bytes : ByteArray} {maxL : Nat} {ret : Option FieldType}
    (hown : s.vm.findClass own = some m.cls) (hlink : (Cond.methodLink own index y).before args s = true) (hinst : (Cond.instanceMethod y).before args s = true) (hsel : (Cond.selects C y y).before args s = true)
    (hcode : (Cond.code y bytes maxL ret).before args s = true) (hy : y.cls ≠ "java/lang/invoke/MethodHandle" ∧ y.cls ≠ "java/lang/invoke/VarHandle")
    {W9 : Nat} {Pre : Pt → Array Value → Prop} {Post : Pt → Array Value → Option Value → Pt → Prop} {PostX : Pt → Array Value → Addr → Pt → Prop} (hK : vx_Back l R p e below s args y 3 W9 Pre Post PostX)
    {b : Addr} {cellB : Cell} (hcell : T.heap[b]? = some cellB) (hobj : cellB.vm.isStatics = false) (hcls : s.vm.findClass C = some cellB.cls)
    {g : JFrame} (hg : g.method = m) (hsize : g.locals.size = c.maxLocals) {argsL rest : List Value} (hlen : ∀ sig, parseMethodDescriptor y.desc = some sig → argsL.length = sig.parameters.length)
    (hstack : g.stack = argsL.reverse ++ .ref b :: rest) (hW : 2 * g.monitorRoom + (rest.map fun v => v.category).sum ≤ W9) (hdg : decode c.code g.pc = .ok (.invokevirtual index, 3))
    (hpre : ∀ vm₁, s.WarmedH vm₁ → Pre ⟨T.setVm vm₁, locs, cells, slots⟩ (Value.ref b :: argsL).toArray) :
    (∃ (v : Option Value) (vm₁ : Vm) (B : Pt), s.WarmedH vm₁ ∧ Stand p l e R s m args below meth c B.U B.locs B.cells B.slots ∧ Post ⟨T.setVm vm₁, locs, cells, slots⟩ (Value.ref b :: argsL).toArray v B ∧
      ∀ target, Steps p.tables e below (B.U.setTop { g with pc := g.pc + 3, stack := v.toList ++ rest }) target → Steps p.tables e below (T.setTop g) target) ∨
    (∃ (q : Addr) (vm₁ : Vm) (B : Pt), s.WarmedH vm₁ ∧ Stand p l e R s m args below meth c B.U B.locs B.cells B.slots ∧ PostX ⟨T.setVm vm₁, locs, cells, slots⟩ (Value.ref b :: argsL).toArray q B ∧
      Steps p.tables e below (T.setTop g) ((B.U.setTop { g with stack := rest }).pushFrame (.throwing q))) := by
  obtain ⟨mk, methM, hnamed, hmethM, hstM, habM⟩ := Cond.instanceMethod_spec hinst
  obtain ⟨methM', cM, hmethM', -, -, -, -, -, -, hsigM⟩ := Cond.code_spec hnamed hcode
  cases hmethM.symm.trans hmethM'
  obtain ⟨c2, r2, m2, q1, q2, q3, q4, kP, hkP, hkPi⟩ := Cond.selects_spec hsel
  cases hcls.symm.trans q1
  cases (State.methodFound?_of_named hnamed hy).symm.trans q2
  cases hnamed.symm.trans q3
  have hselP : selectMethod e.platform s.vm cellB.cls mk = .method mk := by rw [Launch.admits_selectMethod X.admits]; exact q4
  obtain ⟨vm₁, X₁, hstep₁⟩ := X.invokevirtual hexec hown hlink hnamed hmethM hstM hkP hkPi hy (a := b) (cell := cellB) hcell
    (fun z h => by rw [h] at hobj; cases hobj) hselP hmethM habM hkP hkPi (g := g) hg (argsL := argsL) (rest := rest) (hlen _ hsigM) hstack hdg
  rcases hK m meth c ⟨T.setVm vm₁, locs, cells, slots⟩ { g with stack := rest } (.invokevirtual index) mk (Value.ref b :: argsL).toArray X₁ hg hsize hdg hW (X₁.named hnamed) (hpre vm₁ X₁.warmed) with ⟨v, B, X', hpost, hsteps⟩ | ⟨q, B, X', hpost, hsteps⟩
  · exact Or.inl ⟨v, vm₁, B, X₁.warmed, X', hpost, fun target h => hstep₁ _ fun acts => by rw [doInvoke_state]; exact hsteps.trans h⟩
  · exact Or.inr ⟨q, vm₁, B, X₁.warmed, X', hpost, hstep₁ _ fun acts => by rw [doInvoke_state]; exact hsteps⟩
theorem vx_callS (X : Stand p l e R s m args below meth c T locs cells slots) (hexec : p.tables.exec = Jvm.exec) {own : String} {index : Nat} {y : MethodName} {bytes : ByteArray} {maxL : Nat} {ret : Option FieldType}
    (hown : s.vm.findClass own = some m.cls) (hlink : (Cond.methodLink own index y).before args s = true) (hstat : (Cond.static y).before args s = true) (hinit : (Cond.initialized y.cls).before args s = true)
    (hcode : (Cond.code y bytes maxL ret).before args s = true) (hy : y.cls ≠ "java/lang/invoke/MethodHandle" ∧ y.cls ≠ "java/lang/invoke/VarHandle")
    {W9 : Nat} {Pre : Pt → Array Value → Prop} {Post : Pt → Array Value → Option Value → Pt → Prop} {PostX : Pt → Array Value → Addr → Pt → Prop} (hK : vx_Back l R p e below s args y 3 W9 Pre Post PostX)
    {g : JFrame} (hg : g.method = m) (hsize : g.locals.size = c.maxLocals) {argsL rest : List Value} (hlen : ∀ sig, parseMethodDescriptor y.desc = some sig → argsL.length = sig.parameters.length)
    (hstack : g.stack = argsL.reverse ++ rest) (hW : 2 * g.monitorRoom + (rest.map fun v => v.category).sum ≤ W9) (hdg : decode c.code g.pc = .ok (.invokestatic index, 3))
    (hpre : ∀ vm₁, s.WarmedH vm₁ → Pre ⟨T.setVm vm₁, locs, cells, slots⟩ argsL.toArray) :
    (∃ (v : Option Value) (vm₁ : Vm) (B : Pt), s.WarmedH vm₁ ∧ Stand p l e R s m args below meth c B.U B.locs B.cells B.slots ∧ Post ⟨T.setVm vm₁, locs, cells, slots⟩ argsL.toArray v B ∧
      ∀ target, Steps p.tables e below (B.U.setTop { g with pc := g.pc + 3, stack := v.toList ++ rest }) target → Steps p.tables e below (T.setTop g) target) ∨
    (∃ (q : Addr) (vm₁ : Vm) (B : Pt), s.WarmedH vm₁ ∧ Stand p l e R s m args below meth c B.U B.locs B.cells B.slots ∧ PostX ⟨T.setVm vm₁, locs, cells, slots⟩ argsL.toArray q B ∧
      Steps p.tables e below (T.setTop g) ((B.U.setTop { g with stack := rest }).pushFrame (.throwing q))) := by
  obtain ⟨mk, hnamed⟩ := Cond.code_named hcode
  obtain ⟨methM, cM, hmethM, -, -, -, -, -, -, hsigM⟩ := Cond.code_spec hnamed hcode
  have hstatic : methM.isStatic = true := Cond.static_spec hnamed hmethM hstat
  obtain ⟨kP, hkP, -⟩ := className_of_methodNamed hnamed
  have hinitP : kP.init = .initialized := Cond.initialized_spec (findClass_of_methodNamed hnamed) hkP hinit
  obtain ⟨vm₁, X₁, hstep₁⟩ := X.invokestatic hexec hown hlink hnamed hmethM hstatic hkP hinitP hy (g := g) hg (argsL := argsL) (rest := rest) (hlen _ hsigM) hstack hdg
  rcases hK m meth c ⟨T.setVm vm₁, locs, cells, slots⟩ { g with stack := rest } (.invokestatic index) mk argsL.toArray X₁ hg hsize hdg hW (X₁.named hnamed) (hpre vm₁ X₁.warmed) with ⟨v, B, X', hpost, hsteps⟩ | ⟨q, B, X', hpost, hsteps⟩
  · exact Or.inl ⟨v, vm₁, B, X₁.warmed, X', hpost, fun target h => hstep₁ _ fun acts => by rw [doInvoke_state]; exact hsteps.trans h⟩
  · exact Or.inr ⟨q, vm₁, B, X₁.warmed, X', hpost, hstep₁ _ fun acts => by rw [doInvoke_state]; exact hsteps⟩
end Calls
theorem vx_cls {s : State} {T : State} {vm₁ : Vm} {E : String} {k : ClassId} (hW : s.WarmedH vm₁) (h : (T.setVm vm₁).vm.findClass E = some k) : s.vm.findClass E = some k := by
  have h1 : vm₁.findClass E = some k := h
  rw [hW.alike.findClass] at h1
  exact h1
/-- the method's frame g, with q thrown over it -/
def vx_W (p : Program) (l : Launch) (e : Env) (R : Room) (s : State) (m : MethodId) (args : Array Value) (below : List Frame) (meth : Method) (c : Code) (H : Heap) (locs : List Loc) (cells slots : Nat) (Q : State → Prop) (g : JFrame) (q : Addr) : Prop :=
  ∀ T : State, T.heap = H → Stand p l e R s m args below meth c T locs cells slots → ∃ t, Steps p.tables e below ((T.setTop g).pushFrame (.throwing q)) t ∧ Q t
def vx_Run (p : Program) (l : Launch) (e : Env) (R : Room) (s : State) (m : MethodId) (args : Array Value) (below : List Frame) (meth : Method) (c : Code) (H : Heap) (locs : List Loc) (cells slots mc ms : Nat) (g : JFrame) (rest : List Value) (Qa : State → Outcome → State → Prop) (XC : String → State → State → Prop) (free : Addr → Prop) : Prop :=
  ∀ T : State, T.heap = H → Stand p l e R s m args below meth c T locs cells slots →
    (∃ (v : Option Value) (st₀ t T' : State) (L : List Loc), st₀.heap = H ∧ Stand p l e R s m args below meth c T' (locs ++ L) (cells + mc) (slots + ms) ∧ (∀ q ∈ L, free q.base) ∧ T'.heap = t.heap ∧ T'.vm = t.vm ∧ Qa st₀ (.returned v) t ∧
      Goes p e below T g T' { g with pc := g.pc + 3, stack := v.toList ++ rest }) ∨
    (∃ (q : Addr) (st₀ t T' : State) (L : List Loc) (E : String) (ce : Cell), st₀.heap = H ∧ Stand p l e R s m args below meth c T' (locs ++ L) (cells + mc) (slots + ms) ∧ (∀ z ∈ L, free z.base) ∧ T'.heap = t.heap ∧ T'.vm = t.vm ∧ XC E st₀ t ∧ t.heap[q]? = some ce ∧ ce.vm = .none ∧ s.vm.findClass E = some ce.cls ∧
      Steps p.tables e below (T.setTop g) ((T'.setTop { g with stack := rest }).pushFrame (.throwing q)))
def vx_X {S : Type} (px : S → Prop) (B : String → S → State → Prop) (A : Nat → Prop) : String → State → State → Prop := fun E st t => ∃ u : S, px u ∧ B E u t ∧ va_F A st t
section Runs
variable {p : Program} {l : Launch} {e : Env} {R : Room} {s : State} {m : MethodId} {args : Array Value} {below : List Frame} {meth : Method} {c : Code} {H : Heap} {locs : List Loc} {cells slots : Nat}
variable {y : MethodName} {bytes cc : ByteArray} {maxL nL mc ms n index : Nat} {ret : Option FieldType} {ws : List Cond} {rm : Room} {Pc : Array Value → State → Prop} {Qc : Array Value → State → Outcome → State → Prop} {XC : String → State → State → Prop} {free : Addr → Prop} {Ts : List Cond} {own C : String} {b : Addr} {As rest : List Value} {g : JFrame}
theorem vx_callBack (cb : CallB R s args own index y bytes maxL ret ws rm mc ms n) (hM : vx_Met l y ws rm Pc Qc XC mc ms free) (hbl : FrameBlind Pc) : vx_Back l R p e below s args y 3 8 (PreOf R mc ms Pc) (PostOf Qc mc ms free) (vx_Post XC mc ms free) := by
  obtain ⟨hrc, hrs, hfr, hlo, hws, hcw, -, hini, -⟩ := cb
  exact vx_back (bytes := bytes) (maxL := maxL) (ret := ret) hM hbl hrc hrs hfr hlo hws hcw (fun a' U hW => word_at hW (Or.inl (by first | rfl | simp [Cond.onTables, Cond.keeps, Cond.steady])) hini)
theorem vx_runV (S : CallFix p m c cc nL s args Ts own) (hM : vx_Met l y ws rm Pc Qc XC mc ms free) (cw : CallW R s args own C index y bytes maxL ret ws rm mc ms n) (hp : PreV s H C b Pc As)
    (hg : g.method = m) (hn : As.length = n) (hsize : g.locals.size = nL) (hstack : g.stack = As.reverse ++ .ref b :: rest) (hW : 2 * g.monitorRoom + (rest.map fun v => v.category).sum ≤ 8) (hdg : decode cc g.pc = .ok (.invokevirtual index, 3)) (hf : cells + mc ≤ R.cells ∧ slots + ms ≤ R.slots) :
    vx_Run p l e R s m args below meth c H locs cells slots mc ms g rest (Qc (Value.ref b :: As).toArray) XC free := by
  have hK : vx_Back l R p e below s args y 3 8 (PreOf R mc ms Pc) (PostOf Qc mc ms free) (vx_Post XC mc ms free) := vx_callBack cw.1 hM hp.1
  obtain ⟨⟨-, -, -, -, -, -, hcode, -, hy, hlen, hl⟩, hin, hse⟩ := cw
  obtain ⟨hx, hb, hml, ho, -⟩ := S
  obtain ⟨-, ⟨cellB, hcB, hoB, hclB⟩, hPc⟩ := hp
  intro T hT X
  rcases vx_callV X hx (C := C) (bytes := bytes) (maxL := maxL) (ret := ret) ho hl hin hse hcode hy hK (by rw [hT]; exact hcB) hoB hclB hg (hsize.trans hml.symm) (argsL := As) (rest := rest) (fun sig h => hn.trans (hlen sig h)) hstack hW (by rw [hb]; exact hdg)
    (fun vm₁ hW₁ => ⟨hf.1, hf.2, hPc (T.setVm vm₁) hT hW₁⟩) with ⟨v, vm₁, ⟨U', l2, c2, s2⟩, hW₁, X', ⟨g', mk, t, L, e1, e2, hq, h1, hL, h2, h3⟩, st⟩ | ⟨q, vm₁, ⟨U', l2, c2, s2⟩, hW₁, X', ⟨g', mk, t, L, E, ce, e1, e2, hq, hce, hcv, hcl, h1, hL, h2, h3⟩, st⟩
  · dsimp only [Pt.U, Pt.locs, Pt.cells, Pt.slots] at X' e1 e2 h1 h2 h3 st
    subst h1; subst h2; subst h3
    exact Or.inl ⟨v, (T.setVm vm₁).calling g' mk (Value.ref b :: As).toArray, t, U', L, hT, X', hL, e1, e2, hq, st⟩
  · dsimp only [Pt.U, Pt.locs, Pt.cells, Pt.slots] at X' e1 e2 h1 h2 h3 st hcl
    subst h1; subst h2; subst h3
    exact Or.inr ⟨q, (T.setVm vm₁).calling g' mk (Value.ref b :: As).toArray, t, U', L, E, ce, hT, X', hL, e1, e2, hq, hce, hcv, vx_cls hW₁ hcl, st⟩
theorem vx_runS (S : CallFix p m c cc nL s args Ts own) (hM : vx_Met l y ws rm Pc Qc XC mc ms free) (cw : CallB R s args own index y bytes maxL ret ws rm mc ms n ∧ (Cond.static y).before args s = true) (hp : PreS s H Pc As)
    (hg : g.method = m) (hn : As.length = n) (hsize : g.locals.size = nL) (hstack : g.stack = As.reverse ++ rest) (hW : 2 * g.monitorRoom + (rest.map fun v => v.category).sum ≤ 8) (hdg : decode cc g.pc = .ok (.invokestatic index, 3)) (hf : cells + mc ≤ R.cells ∧ slots + ms ≤ R.slots) :
    vx_Run p l e R s m args below meth c H locs cells slots mc ms g rest (Qc As.toArray) XC free := by
  have hK : vx_Back l R p e below s args y 3 8 (PreOf R mc ms Pc) (PostOf Qc mc ms free) (vx_Post XC mc ms free) := vx_callBack cw.1 hM hp.1
  obtain ⟨⟨-, -, -, -, -, -, hcode, hini, hy, hlen, hl⟩, hstt⟩ := cw
  obtain ⟨hx, hb, hml, ho, -⟩ := S
  intro T hT X
  rcases vx_callS X hx (bytes := bytes) (maxL := maxL) (ret := ret) ho hl hstt hini hcode hy hK hg (hsize.trans hml.symm) (argsL := As) (rest := rest) (fun sig h => hn.trans (hlen sig h)) hstack hW (by rw [hb]; exact hdg)
    (fun vm₁ hW₁ => ⟨hf.1, hf.2, hp.2 (T.setVm vm₁) hT hW₁⟩) with ⟨v, vm₁, ⟨U', l2, c2, s2⟩, hW₁, X', ⟨g', mk, t, L, e1, e2, hq, h1, hL, h2, h3⟩, st⟩ | ⟨q, vm₁, ⟨U', l2, c2, s2⟩, hW₁, X', ⟨g', mk, t, L, E, ce, e1, e2, hq, hce, hcv, hcl, h1, hL, h2, h3⟩, st⟩
  · dsimp only [Pt.U, Pt.locs, Pt.cells, Pt.slots] at X' e1 e2 h1 h2 h3 st
    subst h1; subst h2; subst h3
    exact Or.inl ⟨v, (T.setVm vm₁).calling g' mk As.toArray, t, U', L, hT, X', hL, e1, e2, hq, st⟩
  · dsimp only [Pt.U, Pt.locs, Pt.cells, Pt.slots] at X' e1 e2 h1 h2 h3 st hcl
    subst h1; subst h2; subst h3
    exact Or.inr ⟨q, (T.setVm vm₁).calling g' mk As.toArray, t, U', L, E, ce, hT, X', hL, e1, e2, hq, hce, hcv, vx_cls hW₁ hcl, st⟩
end Runs
section Rows
variable {p : Program} {l : Launch} {e : Env} {R : Room} {s : State} {m : MethodId} {args : Array Value} {below : List Frame} {meth : Method} {c : Code} {H : Heap} {locs : List Loc} {cells slots : Nat} {Q : State → Prop}
variable {mc ms : Nat} {free : Addr → Prop} {A0 A1 : Nat → Prop} {H0 : Heap} {a : Array Value} {pc : Nat} {ls : Array Slot} {st0 rest : List Value}
theorem vx_keep {st₀ t T' : State} {L : List Loc} (h0 : st₀.heap = H) (e1 : T'.heap = t.heap) (hS : va_S A0 H0 H locs) (hA : ∀ q, q < H.size → A1 q → A0 q) (hf : ∀ q, free q → A0 q) (hL : ∀ q ∈ L, free q.base) (hF : va_F A1 st₀ t) :
    H.size ≤ T'.heap.size ∧ (∀ q : Nat, q < H.size → ¬ A1 q → T'.heap[q]? = H[q]?) ∧ va_S A0 H0 T'.heap (locs ++ L) := by
  obtain ⟨hz, hk⟩ := hF
  rw [h0] at hz hk
  exact ⟨by rw [e1]; exact hz, fun q h1 h2 => by rw [e1]; exact hk q h1 h2,
    ⟨Nat.le_trans hS.1 (by rw [e1]; exact hz), fun q h1 h2 => by rw [e1, hk q (Nat.lt_of_lt_of_le h1 hS.1) (fun z => h2 (hA q (Nat.lt_of_lt_of_le h1 hS.1) z))]; exact hS.2.1 q h1 h2, fun q hq => by
      rcases List.mem_append.mp hq with h | h
      · exact hS.2.2 q h
      · exact hf _ (hL q h)⟩⟩
theorem vx_calli {S SX : Type} {post : Int32 → S → Prop} {px : SX → Prop} {B : S → State → Prop} {BX : String → SX → State → Prop} {AX : Nat → Prop} (hr : vx_Run p l e R s m args below meth c H locs cells slots mc ms (F0 m pc ls st0) rest (va_Qi post B A1 a) (vx_X px BX AX) free) (hS : va_S A0 H0 H locs) (hA : ∀ q, q < H.size → A1 q → A0 q) (hf : ∀ q, free q → A0 q) (hAX : ∀ q, q < H.size → AX q → A0 q)
    (kx : ∀ (E : String) (ce : Cell) (q9 : Addr) (u : SX) (t : State) (H1 : Heap) (locs1 : List Loc), t.heap = H1 → s.vm.Alike t.vm → px u → BX E u t → H.size ≤ H1.size → (∀ q : Nat, q < H.size → ¬ AX q → H1[q]? = H[q]?) → va_S A0 H0 H1 locs1 → H1[q9]? = some ce → ce.vm = .none → s.vm.findClass E = some ce.cls → vx_W p l e R s m args below meth c H1 locs1 (cells + mc) (slots + ms) Q (F0 m pc ls rest) q9)
    (kk : ∀ (r : Int32) (u : S) (t : State) (H1 : Heap) (locs1 : List Loc), t.heap = H1 → s.vm.Alike t.vm → post r u → B u t → H.size ≤ H1.size → (∀ q : Nat, q < H.size → ¬ A1 q → H1[q]? = H[q]?) → va_S A0 H0 H1 locs1 → W p l e R s m args below meth c H1 locs1 (cells + mc) (slots + ms) Q (F0 m (pc + 3) ls (.int r :: rest))) : W p l e R s m args below meth c H locs cells slots Q (F0 m pc ls st0) := by
  intro T hT X
  rcases hr T hT X with ⟨v, st₀, t, T', L, h0, X', hL, e1, e2, ⟨⟨r, u, hv, hp, hb⟩, hF⟩, st⟩ | ⟨q, st₀, t, T', L, E, ce, h0, X', hL, e1, e2, ⟨u, hp, hb, hF⟩, hce, hcv, hcl, st⟩
  · cases hv
    obtain ⟨k1, k2, k3⟩ := vx_keep h0 e1 hS hA hf hL hF
    obtain ⟨t2, a1, b1⟩ := kk r u t T'.heap (locs ++ L) e1.symm (by rw [← e2]; exact X'.warmed.alike) hp hb k1 k2 k3 T' rfl X'
    exact ⟨t2, st t2 a1, b1⟩
  · obtain ⟨k1, k2, k3⟩ := vx_keep h0 e1 hS hAX hf hL hF
    obtain ⟨t2, a1, b1⟩ := kx E ce q u t T'.heap (locs ++ L) e1.symm (by rw [← e2]; exact X'.warmed.alike) hp hb k1 k2 k3 (by rw [e1]; exact hce) hcv hcl T' rfl X'
    exact ⟨t2, st.trans a1, b1⟩
theorem vx_calll {S SX : Type} {post : Int64 → S → Prop} {px : SX → Prop} {B : S → State → Prop} {BX : String → SX → State → Prop} {AX : Nat → Prop} (hr : vx_Run p l e R s m args below meth c H locs cells slots mc ms (F0 m pc ls st0) rest (va_Ql post B A1 a) (vx_X px BX AX) free) (hS : va_S A0 H0 H locs) (hA : ∀ q, q < H.size → A1 q → A0 q) (hf : ∀ q, free q → A0 q) (hAX : ∀ q, q < H.size → AX q → A0 q)
    (kx : ∀ (E : String) (ce : Cell) (q9 : Addr) (u : SX) (t : State) (H1 : Heap) (locs1 : List Loc), t.heap = H1 → s.vm.Alike t.vm → px u → BX E u t → H.size ≤ H1.size → (∀ q : Nat, q < H.size → ¬ AX q → H1[q]? = H[q]?) → va_S A0 H0 H1 locs1 → H1[q9]? = some ce → ce.vm = .none → s.vm.findClass E = some ce.cls → vx_W p l e R s m args below meth c H1 locs1 (cells + mc) (slots + ms) Q (F0 m pc ls rest) q9)
    (kk : ∀ (r : Int64) (u : S) (t : State) (H1 : Heap) (locs1 : List Loc), t.heap = H1 → s.vm.Alike t.vm → post r u → B u t → H.size ≤ H1.size → (∀ q : Nat, q < H.size → ¬ A1 q → H1[q]? = H[q]?) → va_S A0 H0 H1 locs1 → W p l e R s m args below meth c H1 locs1 (cells + mc) (slots + ms) Q (F0 m (pc + 3) ls (.long r :: rest))) : W p l e R s m args below meth c H locs cells slots Q (F0 m pc ls st0) := by
  intro T hT X
  rcases hr T hT X with ⟨v, st₀, t, T', L, h0, X', hL, e1, e2, ⟨⟨r, u, hv, hp, hb⟩, hF⟩, st⟩ | ⟨q, st₀, t, T', L, E, ce, h0, X', hL, e1, e2, ⟨u, hp, hb, hF⟩, hce, hcv, hcl, st⟩
  · cases hv
    obtain ⟨k1, k2, k3⟩ := vx_keep h0 e1 hS hA hf hL hF
    obtain ⟨t2, a1, b1⟩ := kk r u t T'.heap (locs ++ L) e1.symm (by rw [← e2]; exact X'.warmed.alike) hp hb k1 k2 k3 T' rfl X'
    exact ⟨t2, st t2 a1, b1⟩
  · obtain ⟨k1, k2, k3⟩ := vx_keep h0 e1 hS hAX hf hL hF
    obtain ⟨t2, a1, b1⟩ := kx E ce q u t T'.heap (locs ++ L) e1.symm (by rw [← e2]; exact X'.warmed.alike) hp hb k1 k2 k3 (by rw [e1]; exact hce) hcv hcl T' rfl X'
    exact ⟨t2, st.trans a1, b1⟩
theorem vx_callf {S SX : Type} {post : UInt32 → S → Prop} {px : SX → Prop} {B : S → State → Prop} {BX : String → SX → State → Prop} {AX : Nat → Prop} (hr : vx_Run p l e R s m args below meth c H locs cells slots mc ms (F0 m pc ls st0) rest (va_Qf post B A1 a) (vx_X px BX AX) free) (hS : va_S A0 H0 H locs) (hA : ∀ q, q < H.size → A1 q → A0 q) (hf : ∀ q, free q → A0 q) (hAX : ∀ q, q < H.size → AX q → A0 q)
    (kx : ∀ (E : String) (ce : Cell) (q9 : Addr) (u : SX) (t : State) (H1 : Heap) (locs1 : List Loc), t.heap = H1 → s.vm.Alike t.vm → px u → BX E u t → H.size ≤ H1.size → (∀ q : Nat, q < H.size → ¬ AX q → H1[q]? = H[q]?) → va_S A0 H0 H1 locs1 → H1[q9]? = some ce → ce.vm = .none → s.vm.findClass E = some ce.cls → vx_W p l e R s m args below meth c H1 locs1 (cells + mc) (slots + ms) Q (F0 m pc ls rest) q9)
    (kk : ∀ (r : UInt32) (u : S) (t : State) (H1 : Heap) (locs1 : List Loc), t.heap = H1 → s.vm.Alike t.vm → post r u → B u t → H.size ≤ H1.size → (∀ q : Nat, q < H.size → ¬ A1 q → H1[q]? = H[q]?) → va_S A0 H0 H1 locs1 → W p l e R s m args below meth c H1 locs1 (cells + mc) (slots + ms) Q (F0 m (pc + 3) ls (.float r :: rest))) : W p l e R s m args below meth c H locs cells slots Q (F0 m pc ls st0) := by
  intro T hT X
  rcases hr T hT X with ⟨v, st₀, t, T', L, h0, X', hL, e1, e2, ⟨⟨r, u, hv, hp, hb⟩, hF⟩, st⟩ | ⟨q, st₀, t, T', L, E, ce, h0, X', hL, e1, e2, ⟨u, hp, hb, hF⟩, hce, hcv, hcl, st⟩
  · cases hv
    obtain ⟨k1, k2, k3⟩ := vx_keep h0 e1 hS hA hf hL hF
    obtain ⟨t2, a1, b1⟩ := kk r u t T'.heap (locs ++ L) e1.symm (by rw [← e2]; exact X'.warmed.alike) hp hb k1 k2 k3 T' rfl X'
    exact ⟨t2, st t2 a1, b1⟩
  · obtain ⟨k1, k2, k3⟩ := vx_keep h0 e1 hS hAX hf hL hF
    obtain ⟨t2, a1, b1⟩ := kx E ce q u t T'.heap (locs ++ L) e1.symm (by rw [← e2]; exact X'.warmed.alike) hp hb k1 k2 k3 (by rw [e1]; exact hce) hcv hcl T' rfl X'
    exact ⟨t2, st.trans a1, b1⟩
theorem vx_calld {S SX : Type} {post : UInt64 → S → Prop} {px : SX → Prop} {B : S → State → Prop} {BX : String → SX → State → Prop} {AX : Nat → Prop} (hr : vx_Run p l e R s m args below meth c H locs cells slots mc ms (F0 m pc ls st0) rest (va_Qd post B A1 a) (vx_X px BX AX) free) (hS : va_S A0 H0 H locs) (hA : ∀ q, q < H.size → A1 q → A0 q) (hf : ∀ q, free q → A0 q) (hAX : ∀ q, q < H.size → AX q → A0 q)
    (kx : ∀ (E : String) (ce : Cell) (q9 : Addr) (u : SX) (t : State) (H1 : Heap) (locs1 : List Loc), t.heap = H1 → s.vm.Alike t.vm → px u → BX E u t → H.size ≤ H1.size → (∀ q : Nat, q < H.size → ¬ AX q → H1[q]? = H[q]?) → va_S A0 H0 H1 locs1 → H1[q9]? = some ce → ce.vm = .none → s.vm.findClass E = some ce.cls → vx_W p l e R s m args below meth c H1 locs1 (cells + mc) (slots + ms) Q (F0 m pc ls rest) q9)
    (kk : ∀ (r : UInt64) (u : S) (t : State) (H1 : Heap) (locs1 : List Loc), t.heap = H1 → s.vm.Alike t.vm → post r u → B u t → H.size ≤ H1.size → (∀ q : Nat, q < H.size → ¬ A1 q → H1[q]? = H[q]?) → va_S A0 H0 H1 locs1 → W p l e R s m args below meth c H1 locs1 (cells + mc) (slots + ms) Q (F0 m (pc + 3) ls (.double r :: rest))) : W p l e R s m args below meth c H locs cells slots Q (F0 m pc ls st0) := by
  intro T hT X
  rcases hr T hT X with ⟨v, st₀, t, T', L, h0, X', hL, e1, e2, ⟨⟨r, u, hv, hp, hb⟩, hF⟩, st⟩ | ⟨q, st₀, t, T', L, E, ce, h0, X', hL, e1, e2, ⟨u, hp, hb, hF⟩, hce, hcv, hcl, st⟩
  · cases hv
    obtain ⟨k1, k2, k3⟩ := vx_keep h0 e1 hS hA hf hL hF
    obtain ⟨t2, a1, b1⟩ := kk r u t T'.heap (locs ++ L) e1.symm (by rw [← e2]; exact X'.warmed.alike) hp hb k1 k2 k3 T' rfl X'
    exact ⟨t2, st t2 a1, b1⟩
  · obtain ⟨k1, k2, k3⟩ := vx_keep h0 e1 hS hAX hf hL hF
    obtain ⟨t2, a1, b1⟩ := kx E ce q u t T'.heap (locs ++ L) e1.symm (by rw [← e2]; exact X'.warmed.alike) hp hb k1 k2 k3 (by rw [e1]; exact hce) hcv hcl T' rfl X'
    exact ⟨t2, st.trans a1, b1⟩
theorem vx_callv {S SX : Type} {post : S → Prop} {px : SX → Prop} {B : S → State → Prop} {BX : String → SX → State → Prop} {AX : Nat → Prop} (hr : vx_Run p l e R s m args below meth c H locs cells slots mc ms (F0 m pc ls st0) rest (va_Qv post B A1 a) (vx_X px BX AX) free) (hS : va_S A0 H0 H locs) (hA : ∀ q, q < H.size → A1 q → A0 q) (hf : ∀ q, free q → A0 q) (hAX : ∀ q, q < H.size → AX q → A0 q)
    (kx : ∀ (E : String) (ce : Cell) (q9 : Addr) (u : SX) (t : State) (H1 : Heap) (locs1 : List Loc), t.heap = H1 → s.vm.Alike t.vm → px u → BX E u t → H.size ≤ H1.size → (∀ q : Nat, q < H.size → ¬ AX q → H1[q]? = H[q]?) → va_S A0 H0 H1 locs1 → H1[q9]? = some ce → ce.vm = .none → s.vm.findClass E = some ce.cls → vx_W p l e R s m args below meth c H1 locs1 (cells + mc) (slots + ms) Q (F0 m pc ls rest) q9)
    (kk : ∀ (u : S) (t : State) (H1 : Heap) (locs1 : List Loc), t.heap = H1 → s.vm.Alike t.vm → post u → B u t → H.size ≤ H1.size → (∀ q : Nat, q < H.size → ¬ A1 q → H1[q]? = H[q]?) → va_S A0 H0 H1 locs1 → W p l e R s m args below meth c H1 locs1 (cells + mc) (slots + ms) Q (F0 m (pc + 3) ls (rest))) : W p l e R s m args below meth c H locs cells slots Q (F0 m pc ls st0) := by
  intro T hT X
  rcases hr T hT X with ⟨v, st₀, t, T', L, h0, X', hL, e1, e2, ⟨⟨u, hv, hp, hb⟩, hF⟩, st⟩ | ⟨q, st₀, t, T', L, E, ce, h0, X', hL, e1, e2, ⟨u, hp, hb, hF⟩, hce, hcv, hcl, st⟩
  · cases hv
    obtain ⟨k1, k2, k3⟩ := vx_keep h0 e1 hS hA hf hL hF
    obtain ⟨t2, a1, b1⟩ := kk u t T'.heap (locs ++ L) e1.symm (by rw [← e2]; exact X'.warmed.alike) hp hb k1 k2 k3 T' rfl X'
    exact ⟨t2, st t2 a1, b1⟩
  · obtain ⟨k1, k2, k3⟩ := vx_keep h0 e1 hS hAX hf hL hF
    obtain ⟨t2, a1, b1⟩ := kx E ce q u t T'.heap (locs ++ L) e1.symm (by rw [← e2]; exact X'.warmed.alike) hp hb k1 k2 k3 (by rw [e1]; exact hce) hcv hcl T' rfl X'
    exact ⟨t2, st.trans a1, b1⟩
end Rows
section Ends
variable {p : Program} {l : Launch} {e : Env} {R : Room} {s : State} {m : MethodId} {args : Array Value} {below : List Frame} {meth : Method} {c : Code} {H : Heap} {locs : List Loc} {cells slots : Nat} {Q : State → Prop}
variable {mc ms : Nat} {free : Addr → Prop} {A0 A1 : Nat → Prop} {H0 : Heap} {a : Array Value} {ls : Array Slot} {st0 rest : List Value}
variable {Qc : Array Value → State → Outcome → State → Prop} {XC : String → State → State → Prop}
/-- what a body that may throw owes at its end -/
def vx_MQ (below : List Frame) (Qc : Array Value → State → Outcome → State → Prop) (XC : String → State → State → Prop) (a : Array Value) (s : State) (mc ms : Nat) (free : Addr → Prop) : State → Prop := fun t =>
  ∃ o, t.status = .running ∧ Ended t below o ∧ vx_Q Qc XC mc ms free a s o t
theorem vx_ret {g : JFrame} {mc ms : Nat} (k : W p l e R s m args below meth c H locs cells slots (MQ below Qc args s mc ms free) g) : W p l e R s m args below meth c H locs cells slots (vx_MQ below Qc XC args s mc ms free) g := by
  intro T hT X
  obtain ⟨t, a1, o, b1, b2, b3, b4⟩ := k T hT X
  exact ⟨t, a1, o, b1, b2, Or.inl ⟨b3, b4⟩⟩
/-- not caught here: it goes on to the caller -/
theorem vx_widen {g : JFrame} {q : Addr} {k n : Nat} (h1 : cells ≤ k) (h2 : slots ≤ n) (kk : vx_W p l e R s m args below meth c H locs k n Q g q) : vx_W p l e R s m args below meth c H locs cells slots Q g q := fun T hT X => kk T hT (stand_widen X h1 h2)
theorem vx_out {pc : Nat} {E : String} {ce : Cell} {q : Addr} {mc ms : Nat} (hout : ∀ x ∈ c.exceptionTable.toList, covers x pc = false) (hlocks : meth.locks = false) (hcell : H[q]? = some ce) (hv : ce.vm = .none) (hcl : s.vm.findClass E = some ce.cls)
    (hx : ∀ t : State, t.heap = H → s.vm.Alike t.vm → XC E s t) (hf : ∀ z ∈ locs, free z.base) (hc : cells ≤ mc) (hs : slots ≤ ms) :
    vx_W p l e R s m args below meth c H locs cells slots (vx_MQ below Qc XC args s mc ms free) (F0 m pc ls rest) q := by
  intro T hT X
  obtain ⟨st1, hrun, hend, hW, hsm⟩ := X.leaveThrown q (g := F0 m pc ls rest) rfl rfl rfl hout hlocks
  have hcell9 : (T.setFrames (.throwing q :: below)).heap[q]? = some ce := by
    show T.heap[q]? = some ce
    rw [hT]; exact hcell
  exact ⟨_, st1, .threw q, hrun, hend, Or.inr ⟨q, rfl, E, ce, locs, hx _ hT hW.alike, hcell9, hv, hcl, hW, hsm.mono hc hs, hf⟩⟩
theorem vx_frame {U : State} {k n : Nat} (h : s.sameButNew ({ U with vm := s.vm } : State) locs k n) : s.heap.size ≤ U.heap.size ∧ ∀ q : Nat, q < s.heap.size → (∀ z ∈ locs, z.base ≠ q) → U.heap[q]? = s.heap[q]? := by
  obtain ⟨-, h2, -, -, -, h6⟩ := h
  refine ⟨h2, fun q hq hz => ?_⟩
  obtain ⟨c9, e1, e2, e3, e4⟩ := h6 q _ (Array.getElem?_eq_getElem hq)
  have hs : c9.slots = (s.heap[q]).slots := Array.ext_getElem? fun i => e4 i fun hm => hz _ hm rfl
  have h9 : c9 = s.heap[q] := by
    rw [hs] at e2
    exact e2
  have e5 : U.heap[q]? = some c9 := e1
  rw [e5, h9, Array.getElem?_eq_getElem hq]
/-- the words of a throw but the four that speak of the heap -/
def vx_no (w : Cond) : Bool := decide (w ≠ .isRef (.static Bundle.tN "UNASSIGNED_STACK" Bundle.steD)) && decide (w ≠ .isRef (.static Bundle.tN "SUPPRESSED_SENTINEL" Bundle.listD)) && decide (w ≠ .laysStatic Bundle.tN "UNASSIGNED_STACK" Bundle.steD) && decide (w ≠ .laysStatic Bundle.tN "SUPPRESSED_SENTINEL" Bundle.listD)
def vx_at0 (own : String) (ic : Nat) (X : String) (names : List String) : List Cond := (Bundle.ownAtoms0 own ic X names).filter vx_no
def vx_atS (own : String) (ic : Nat) (X : String) (names : List String) : List Cond := (Bundle.ownAtoms own ic X names).filter vx_no
/-- a word that the tables alone decide, or a good one -/
def vx_ot (w : Cond) : Bool := w.onTables || goodWord w
theorem vx_ot_at {args a' : Array Value} {s U : State} {w : Cond} (hW : s.WarmedH U.vm) (hvm : s.vm = U.vm) (hg : vx_ot w = true) (h : w.before args s = true) : w.before a' U = true := by
  simp only [vx_ot, Bool.or_eq_true] at hg
  rcases hg with hg | hg
  · exact va_tabs hg hvm h
  · exact word_at hW (good_of_word hg) h
/-- a list's words: the good ones out of the method's own list, the others by premises of their own -/
theorem vx_hat {args : Array Value} {s : State} {L B : List Cond} (h1 : ∀ w ∈ L.filter goodWord, w.before args s = true) (h2 : ∀ w ∈ L.filter (fun w => !goodWord w), w ∈ B) (h3 : ∀ w ∈ B, w.before args s = true) : ∀ w ∈ L, w.before args s = true := by
  intro w hw
  by_cases g : goodWord w = true
  · exact h1 w (List.mem_filter.mpr ⟨hw, g⟩)
  · refine h3 w (h2 w (List.mem_filter.mpr ⟨hw, ?_⟩))
    show (!goodWord w) = true
    cases hgw : goodWord w
    · rfl
    · exact absurd hgw g
theorem vx_c {args : Array Value} {s : State} {w : Cond} {B : List Cond} (h : w.before args s = true) (t : ∀ w ∈ B, w.before args s = true) : ∀ w' ∈ w :: B, w'.before args s = true := fun w' h' => (List.mem_cons.mp h').elim (fun e => by rw [e]; exact h) (t w')
theorem vx_n {args : Array Value} {s : State} : ∀ w ∈ ([] : List Cond), w.before args s = true := fun _ h => nomatch h
theorem vx_own {args : Array Value} {s : State} {L : List Cond} (h1 : ∀ w ∈ L.filter vx_no, w.before args s = true)
    (hU : (Cond.isRef (.static Bundle.tN "UNASSIGNED_STACK" Bundle.steD)).before args s = true) (hN : (Cond.isRef (.static Bundle.tN "SUPPRESSED_SENTINEL" Bundle.listD)).before args s = true)
    (lU : (Cond.laysStatic Bundle.tN "UNASSIGNED_STACK" Bundle.steD).before args s = true) (lN : (Cond.laysStatic Bundle.tN "SUPPRESSED_SENTINEL" Bundle.listD).before args s = true) : ∀ w ∈ L, w.before args s = true := by
  intro w hw
  by_cases e1 : w = .isRef (.static Bundle.tN "UNASSIGNED_STACK" Bundle.steD)
  · rw [e1]; exact hU
  · by_cases e2 : w = .isRef (.static Bundle.tN "SUPPRESSED_SENTINEL" Bundle.listD)
    · rw [e2]; exact hN
    · by_cases e3 : w = .laysStatic Bundle.tN "UNASSIGNED_STACK" Bundle.steD
      · rw [e3]; exact lU
      · by_cases e4 : w = .laysStatic Bundle.tN "SUPPRESSED_SENTINEL" Bundle.listD
        · rw [e4]; exact lN
        · exact h1 w (List.mem_filter.mpr ⟨hw, by unfold vx_no; rw [decide_eq_true e1, decide_eq_true e2, decide_eq_true e3, decide_eq_true e4]; rfl⟩)
/-- where a static field lies, its class's statics cell in H -/
def vx_L (C n d : String) (A : Nat → Prop) (U : State) (H : Heap) : Prop := ∃ (c : ClassId) (k : Class) (i : Nat) (f : Field) (a : Nat) (cell : Cell), U.vm.findClass C = some c ∧ U.fieldFound? C n d = some (c, k, i, f) ∧ f.isStatic = true ∧ k.statics = some a ∧ H[a]? = some cell ∧ cell.vm.isStatics = true ∧ cell.cls = c ∧ f.slot < cell.slots.size ∧ k.staticTypes[f.slot]? = some f.type ∧ ¬ A a
theorem vx_L.moved {C n d : String} {A : Nat → Prop} {u U : State} {H : Heap} (hvm : u.vm.Alike U.vm) (h : vx_L C n d A u H) : vx_L C n d A U H := by
  obtain ⟨c, k, i, f, a, cell, h1, h2, h3, h4, h5, h6, h7, h8, h9, h10⟩ := h
  obtain ⟨k', hi', he⟩ := State.fieldFound?_setVm hvm h2
  exact ⟨c, k', i, f, a, cell, by rw [hvm.findClass]; exact h1, hi', h3, by rw [he]; exact h4, h5, h6, h7, h8, by rw [he]; exact h9, h10⟩
theorem vx_L.kept {C n d : String} {A : Nat → Prop} {U : State} {H H1 : Heap} (h : vx_L C n d A U H) (hq : ∀ a : Nat, a < H.size → ¬ A a → H1[a]? = H[a]?) : vx_L C n d A U H1 := by
  obtain ⟨c, k, i, f, a, cell, h1, h2, h3, h4, h5, h6, h7, h8, h9, h10⟩ := h
  exact ⟨c, k, i, f, a, cell, h1, h2, h3, h4, by rw [hq a (Array.getElem?_eq_some_iff.mp h5).1 h10]; exact h5, h6, h7, h8, h9, h10⟩
theorem vx_L.narrow {C n d : String} {A B : Nat → Prop} {U : State} {H : Heap} (h : vx_L C n d A U H) (hAB : ∀ q, B q → A q) : vx_L C n d B U H := by
  obtain ⟨c, k, i, f, a, cell, h1, h2, h3, h4, h5, h6, h7, h8, h9, h10⟩ := h
  exact ⟨c, k, i, f, a, cell, h1, h2, h3, h4, h5, h6, h7, h8, h9, fun z => h10 (hAB _ z)⟩
theorem vx_L.word {C n d : String} {A : Nat → Prop} {s : State} {args : Array Value} (h : vx_L C n d A s s.heap) : (Cond.laysStatic C n d).before args s = true := by
  obtain ⟨c, k, i, f, a, cell, h1, h2, h3, h4, h5, h6, h7, h8, h9, -⟩ := h
  show (Cond.laysStatic C n d).holds args s none s [] = true
  exact Cond.laysStatic_of h1 h2 h3 h4 h5 h6 h7 h8 h9
/-- .. and what it holds: null or some reference -/
def vx_Zq (C n d : String) (A : Nat → Prop) (U : State) (H : Heap) : Prop := va_Zq C n d A U H ∧ vx_L C n d A U H
theorem vx_Zq.moved {C n d : String} {A : Nat → Prop} {u U : State} {H : Heap} (hvm : u.vm.Alike U.vm) (h : vx_Zq C n d A u H) : vx_Zq C n d A U H := ⟨va_Zq.moved hvm h.1, vx_L.moved hvm h.2⟩
theorem vx_Zq.kept {C n d : String} {A : Nat → Prop} {U : State} {H H1 : Heap} (h : vx_Zq C n d A U H) (hq : ∀ a : Nat, a < H.size → ¬ A a → H1[a]? = H[a]?) : vx_Zq C n d A U H1 := ⟨va_Zq.kept h.1 hq, vx_L.kept h.2 hq⟩
theorem vx_Zq.narrow {C n d : String} {A B : Nat → Prop} {U : State} {H : Heap} (h : vx_Zq C n d A U H) (hAB : ∀ q, B q → A q) : vx_Zq C n d B U H := ⟨va_Zq.narrow h.1 hAB, vx_L.narrow h.2 hAB⟩
theorem vx_Zqof {args : Array Value} {s : State} {C n d : String} {A : Nat → Prop} (hl : (Cond.laysStatic C n d).before args s = true) (hini : (Cond.initialized C).before args s = true) (h : (Cond.isRef (.static C n d)).before args s = true) (hA : ∀ a : Nat, a < s.heap.size → ¬ A a) : vx_Zq C n d A s s.heap := by
  refine ⟨va_Zqof hl hini h hA, ?_⟩
  obtain ⟨c, k, i, f, a, cell, h1, h2, h3, h4, h5, h6, h7, h8, h9⟩ := Cond.laysStatic_spec hl
  exact ⟨c, k, i, f, a, cell, h1, h2, h3, h4, h5, h6, h7, h8, h9, hA a (Array.getElem?_eq_some_iff.mp h5).1⟩
theorem vx_isRef {C n d : String} {v : Value} {A : Nat → Prop} {s : State} {args : Array Value} (h : va_Z C n d v A s s.heap) (hv : v.isRef = true) : (Cond.isRef (.static C n d)).before args s = true := by
  obtain ⟨cf, kf, fi, f, a, cell, h1, h2, h3, h4, h5, h6, h7, -⟩ := h
  have he : (Term.static C n d).eval args s none [] s = some v := by
    simp [Term.eval, State.fieldNamed?, h1, h2, h4, h5, h6, h7]
  simp only [Cond.before, Cond.holds, Cond.value, he]
  cases v <;> simp_all [Value.isRef]
theorem vx_isRefq {C n d : String} {A : Nat → Prop} {s : State} {args : Array Value} (h : va_Zq C n d A s s.heap) : (Cond.isRef (.static C n d)).before args s = true := by
  rcases h with h | ⟨t, h⟩
  · exact vx_isRef h rfl
  · exact vx_isRef h rfl
/-- the same frame, seen from here: as if the method were called anew in this heap -/
theorem vx_rebase {T : State} (X : Stand p l e R s m args below meth c T locs cells slots) {R' : Room} (hf : R'.frames ≤ R.frames) (hl : R'.locals ≤ R.locals) (hc : cells + R'.cells ≤ R.cells) (hs : slots + R'.slots ≤ R.slots) :
    Stand p l e R' ((T.setVm s.vm).setFrames (.invoking m args :: below)) m args below meth c T [] 0 0 := by
  have htop : (T.setVm s.vm).topJava?.isSome := X.here.top
  have hF : ((T.setVm s.vm).setFrames (.invoking m args :: below)).frames = .invoking m args :: below := State.frames_setFrames _ (State.cur_lt_of_top htop)
  obtain ⟨g₀, hg0⟩ := Option.isSome_iff_exists.mp htop
  obtain ⟨r, hr⟩ := State.topJava?_eq_some.mp hg0
  have hl9 : e.platform.stackLimits (T.setVm s.vm).me = e.platform.stackLimits s.me := X.limits
  have hb9 : (T.setVm s.vm).me.stackBytes = s.me.stackBytes := X.bytes
  refine ⟨X.admits, X.cas, X.clock, hF, ?_, X.hears, X.method, X.code, X.here, X.tail, X.warmed, ?_, ?_, ?_⟩
  · have h := X.room
    have hU : ((T.setVm s.vm).setFrames (.invoking m args :: below)).localsInUse = s.localsInUse := by
      rw [State.localsInUse_invoking hF (meth := meth) (c := c) X.method X.code, State.localsInUse_invoking X.frames X.method X.code]
    simp only [State.hasRoom, Bool.and_eq_true, decide_eq_true_eq] at h ⊢
    obtain ⟨⟨⟨⟨h1, h2, h3, h4, h5, h6⟩, h7⟩, h8⟩, h9⟩ := h
    rw [X.frames, List.length_cons] at h2 h3
    have q1 := X.heapSize
    have q2 := X.used
    simp only [hF, hU, List.length_cons, State.stackLimits_setFrames, State.stackBytes_setFrames, hl9, hb9]
    refine ⟨⟨⟨⟨by omega, by omega, by omega, by omega, by omega, h6⟩, ?_⟩, ?_⟩, X.book⟩
    · show T.heap.size + R'.cells ≤ e.platform.maxCells
      omega
    · show T.slotsUsed + R'.slots ≤ e.platform.maxSlots
      omega
  · rw [State.stackLimits_setFrames]; rfl
  · rw [State.stackBytes_setFrames]; rfl
  · refine ⟨?_, Nat.le_refl _, Nat.le_refl _, ?_, ?_, fun a c9 h9 => ⟨c9, h9, rfl, rfl, fun _ _ => rfl⟩⟩
    · obtain ⟨t, ht, -⟩ := State.frames_cons hr
      show T.setVm s.vm = { ((T.setVm s.vm).setFrames (.invoking m args :: below)).setFrames (T.setVm s.vm).frames with heap := T.heap, slotsUsed := T.slotsUsed }
      rw [State.setFrames_setFrames, State.setFrames_self ht]
      rfl
    · show T.slotsUsed = T.slotsUsed + ((T.heap.toList.drop T.heap.size).map (·.slots.size)).sum
      rw [List.drop_eq_nil_of_le (Nat.le_of_eq Array.length_toList)]
      rfl
    · show ((T.heap.toList.drop T.heap.size).map (·.slots.size)).sum ≤ 0
      rw [List.drop_eq_nil_of_le (Nat.le_of_eq Array.length_toList)]
      exact Nat.le_refl _
/-- 'throw new E()': new; dup; invokespecial; athrow -/
theorem vx_throw0 {cc : ByteArray} {pc : Nat} (hexec : p.tables.exec = Jvm.exec) (hb : c.code = cc) (hl : l.stackTraces = false) {own cls : String} {names : List String} {ik ic mc ms : Nat} {A : Nat → Prop}
    (hown : s.vm.findClass own = some m.cls) (hcls : Bundle.fit cls = true) (hnames : ∀ n ∈ names, Bundle.fit n = true)
    (hk : (Cond.classLink own ik cls).before args s = true) (hini : (Cond.initialized cls).before args s = true) (hat : ∀ w ∈ vx_at0 own ic cls names, w.before args s = true)
    (hgood : ∀ w ∈ Cond.classLink own ik cls :: Cond.initialized cls :: vx_at0 own ic cls names, vx_ot w = true)
    (hU : vx_Zq Bundle.tN "UNASSIGNED_STACK" Bundle.steD A s s.heap) (hN : vx_Zq Bundle.tN "SUPPRESSED_SENTINEL" Bundle.listD A s s.heap) (hS : va_S A s.heap H locs) (hsize : ls.size = c.maxLocals)
    (d0 : decode cc pc = .ok (.new ik, 3)) (d3 : decode cc (pc + 3) = .ok (.dup, 1)) (d4 : decode cc (pc + 4) = .ok (.invokespecial ic, 3)) (d7 : decode cc (pc + 7) = .ok (.athrow, 1))
    (hout : ∀ x ∈ c.exceptionTable.toList, covers x (pc + 7) = false)
    (hRframes : names.length + 3 < R.frames) (hRlocals : (rest.map fun v => v.category).sum + (13 * (names.length + 1) + 42) ≤ R.locals) (hRcells : cells + 1 ≤ R.cells) (hRslots : slots + 6 ≤ R.slots) (hlocks : meth.locks = false)
    (hx : ∀ t : State, s.vm.Alike t.vm → H.size ≤ t.heap.size → (∀ q : Nat, q < H.size → t.heap[q]? = H[q]?) → XC cls s t)
    (hf : ∀ z ∈ locs, free z.base) (hc : cells + 1 ≤ mc) (hs : slots + 6 ≤ ms) :
    W p l e R s m args below meth c H locs cells slots (vx_MQ below Qc XC args s mc ms free) (F0 m pc ls rest) := by
  intro T hT X
  have htr : e.platform.stackTraces = false := (show e.platform.stackTraces = l.stackTraces by rw [X.admits.platform]).trans hl
  have Y := vx_rebase X (R' := { frames := R.frames, locals := R.locals, cells := 1, slots := 6 }) (Nat.le_refl _) (Nat.le_refl _) hRcells hRslots
  obtain ⟨s', hA⟩ : ∃ z, z = (T.setVm s.vm).setFrames (.invoking m args :: below) := ⟨_, rfl⟩
  rw [← hA] at Y
  have hvm : s'.vm = s.vm := by rw [hA]; rfl
  have hhp : s'.heap = H := by rw [hA]; exact hT
  have hW0 : s.WarmedH s'.vm := by rw [hvm]; exact State.WarmedH.refl s
  have hat' : ∀ w ∈ vx_at0 own ic cls names, w.before args s' = true := fun w hw => vx_ot_at hW0 hvm.symm (hgood w (List.mem_cons_of_mem _ (List.mem_cons_of_mem _ hw))) (hat w hw)
  have hk' : (Cond.classLink own ik cls).before args s' = true := vx_ot_at hW0 hvm.symm (hgood _ List.mem_cons_self) hk
  have hini' : (Cond.initialized cls).before args s' = true := vx_ot_at hW0 hvm.symm (hgood _ (List.mem_cons_of_mem _ List.mem_cons_self)) hini
  have hU' : vx_Zq Bundle.tN "UNASSIGNED_STACK" Bundle.steD A s' s'.heap := by rw [hhp]; exact vx_Zq.moved hW0.alike (hU.kept hS.2.1)
  have hN' : vx_Zq Bundle.tN "SUPPRESSED_SENTINEL" Bundle.listD A s' s'.heap := by rw [hhp]; exact vx_Zq.moved hW0.alike (hN.kept hS.2.1)
  have h : ∀ w ∈ Bundle.ownAtoms0 own ic cls names, w.before args s' = true := vx_own hat' (vx_isRefq hU'.1) (vx_isRefq hN'.1) hU'.2.word hN'.2.word
  have hown' : s'.vm.findClass own = some m.cls := by rw [hvm]; exact hown
  have hins : (Cond.instantiable cls 6).before args s' = true := h _ (by simp [Bundle.ownAtoms0])
  obtain ⟨vm₁, cX, kX, hfX, hkX, -, -, X₁, st1⟩ := Y.newCold hexec (own := own) (C := cls) (index := ik) (n := 6) hown' hk' hins hini'
    (g := F0 m pc ls rest) rfl (by rw [hb]; exact d0) (Nat.le_refl _) (Nat.le_refl _)
  generalize hT1 : (T.setVm vm₁).pushCell { cls := cX, slots := kX.instanceTypes.map defaultValue, vm := .none } = T1 at X₁ st1
  have hcat : (Value.ref T.heap.size).category = 1 := rfl
  have hcellA : T1.heap[T.heap.size]? = some (freshCell cX kX) := by rw [← hT1]; exact State.heap_pushCell_size _ _
  have d3' : decode c.code (pc + 3) = .ok (.dup, 1) := by rw [hb]; exact d3
  obtain ⟨U, hsteps, hrun, hend, hW, hsame, ce, hce, hO⟩ := X₁.ctorThrow0 hexec htr (own := own) (cls := cls) (names := names) (ic := ic) hown' hcls hnames h (fun x hx => nomatch hx) hfX hkX hcellA (by rw [hhp, hT]; exact Nat.le_refl _)
    (g := { method := m, pc := pc + 4, locals := ls, stack := .ref T.heap.size :: .ref T.heap.size :: rest, locked := none }) rfl hsize rfl rfl (rest := rest) rfl
    (by rw [hb]; exact d4) (by rw [hb]; exact d7) hout hRframes (by simp only [List.map_cons, List.sum_cons, hcat]; omega) hlocks
  obtain ⟨f1, f2⟩ := vx_frame hsame
  rw [hhp] at f1 f2
  have hWs : s.WarmedH U.vm := State.WarmedH.trans hW0 hW
  have hcl : s.vm.findClass cls = some ce.cls := by
    have h9 := hO.cls
    rw [hvm] at h9
    exact h9
  have hall : s.sameButNew ({ U with vm := s.vm } : State) locs mc ms := by
    subst hA
    obtain ⟨e1, e2⟩ := hsame
    rw [State.setFrames_setFrames] at e1
    have h2 : (T.setVm s.vm).sameButNew ({ U with vm := s.vm } : State) [] (0 + 1) (0 + 6) := ⟨e1, e2⟩
    have h3 := X.same.trans h2
    rw [List.append_nil] at h3
    exact h3.mono hc hs
  refine ⟨U, ?_, .threw T.heap.size, hrun, hend, Or.inr ⟨T.heap.size, rfl, cls, ce, locs, hx U hWs.alike f1 (fun q hq => f2 q hq (fun z hz => nomatch hz)), hce, hO.vm, hcl, hWs, hall, hf⟩⟩
  refine st1 _ ?_
  show Steps p.tables e below (T1.setTop { method := m, pc := pc + 3, locals := ls, stack := .ref T.heap.size :: rest, locked := none }) _
  jvm_step X₁.here [X₁.here.top, hexec, d3', Value.category]
  exact hsteps
/-- 'throw new E("text")': new; dup; ldc; invokespecial; athrow -/
theorem vx_throwS {cc : ByteArray} {pc : Nat} (hexec : p.tables.exec = Jvm.exec) (hb : c.code = cc) (hl : l.stackTraces = false) {own cls text : String} {names : List String} {ik is ic mc ms sa : Nat} {A : Nat → Prop}
    (hown : s.vm.findClass own = some m.cls) (hcls : Bundle.fit cls = true) (hnames : ∀ n ∈ names, Bundle.fit n = true)
    (hk : (Cond.classLink own ik cls).before args s = true) (hini : (Cond.initialized cls).before args s = true) (hstr : vk_R own is text sa s) (hat : ∀ w ∈ vx_atS own ic cls names, w.before args s = true)
    (hgood : ∀ w ∈ Cond.classLink own ik cls :: Cond.initialized cls :: vx_atS own ic cls names, vx_ot w = true)
    (hU : vx_Zq Bundle.tN "UNASSIGNED_STACK" Bundle.steD A s s.heap) (hN : vx_Zq Bundle.tN "SUPPRESSED_SENTINEL" Bundle.listD A s s.heap) (hS : va_S A s.heap H locs) (hsize : ls.size = c.maxLocals)
    (d0 : decode cc pc = .ok (.new ik, 3)) (d3 : decode cc (pc + 3) = .ok (.dup, 1)) (d4 : decode cc (pc + 4) = .ok (.ldc is, 2)) (d6 : decode cc (pc + 6) = .ok (.invokespecial ic, 3)) (d9 : decode cc (pc + 9) = .ok (.athrow, 1))
    (hout : ∀ x ∈ c.exceptionTable.toList, covers x (pc + 9) = false)
    (hRframes : names.length + 3 < R.frames) (hRlocals : (rest.map fun v => v.category).sum + (13 * (names.length + 1) + 43) ≤ R.locals) (hRcells : cells + 1 ≤ R.cells) (hRslots : slots + 6 ≤ R.slots) (hlocks : meth.locks = false)
    (hx : ∀ t : State, s.vm.Alike t.vm → H.size ≤ t.heap.size → (∀ q : Nat, q < H.size → t.heap[q]? = H[q]?) → XC cls s t)
    (hf : ∀ z ∈ locs, free z.base) (hc : cells + 1 ≤ mc) (hs : slots + 6 ≤ ms) :
    W p l e R s m args below meth c H locs cells slots (vx_MQ below Qc XC args s mc ms free) (F0 m pc ls rest) := by
  intro T hT X
  have htr : e.platform.stackTraces = false := (show e.platform.stackTraces = l.stackTraces by rw [X.admits.platform]).trans hl
  have Y := vx_rebase X (R' := { frames := R.frames, locals := R.locals, cells := 1, slots := 6 }) (Nat.le_refl _) (Nat.le_refl _) hRcells hRslots
  obtain ⟨s', hA⟩ : ∃ z, z = (T.setVm s.vm).setFrames (.invoking m args :: below) := ⟨_, rfl⟩
  rw [← hA] at Y
  have hvm : s'.vm = s.vm := by rw [hA]; rfl
  have hhp : s'.heap = H := by rw [hA]; exact hT
  have hW0 : s.WarmedH s'.vm := by rw [hvm]; exact State.WarmedH.refl s
  have hat' : ∀ w ∈ vx_atS own ic cls names, w.before args s' = true := fun w hw => vx_ot_at hW0 hvm.symm (hgood w (List.mem_cons_of_mem _ (List.mem_cons_of_mem _ hw))) (hat w hw)
  have hk' : (Cond.classLink own ik cls).before args s' = true := vx_ot_at hW0 hvm.symm (hgood _ List.mem_cons_self) hk
  have hini' : (Cond.initialized cls).before args s' = true := vx_ot_at hW0 hvm.symm (hgood _ (List.mem_cons_of_mem _ List.mem_cons_self)) hini
  have hU' : vx_Zq Bundle.tN "UNASSIGNED_STACK" Bundle.steD A s' s'.heap := by rw [hhp]; exact vx_Zq.moved hW0.alike (hU.kept hS.2.1)
  have hN' : vx_Zq Bundle.tN "SUPPRESSED_SENTINEL" Bundle.listD A s' s'.heap := by rw [hhp]; exact vx_Zq.moved hW0.alike (hN.kept hS.2.1)
  have h : ∀ w ∈ Bundle.ownAtoms own ic cls names, w.before args s' = true := vx_own hat' (vx_isRefq hU'.1) (vx_isRefq hN'.1) hU'.2.word hN'.2.word
  have hown' : s'.vm.findClass own = some m.cls := by rw [hvm]; exact hown
  have hins : (Cond.instantiable cls 6).before args s' = true := h _ (by simp [Bundle.ownAtoms])
  obtain ⟨vm₁, cX, kX, hfX, hkX, -, -, X₁, st1⟩ := Y.newCold hexec (own := own) (C := cls) (index := ik) (n := 6) hown' hk' hins hini'
    (g := F0 m pc ls rest) rfl (by rw [hb]; exact d0) (Nat.le_refl _) (Nat.le_refl _)
  generalize hT1 : (T.setVm vm₁).pushCell { cls := cX, slots := kX.instanceTypes.map defaultValue, vm := .none } = T1 at X₁ st1
  have hcat : (Value.ref T.heap.size).category = 1 := rfl
  have hcellA : T1.heap[T.heap.size]? = some (freshCell cX kX) := by rw [← hT1]; exact State.heap_pushCell_size _ _
  have d3' : decode c.code (pc + 3) = .ok (.dup, 1) := by rw [hb]; exact d3
  have d4' : decode c.code (pc + 4) = .ok (.ldc is, 2) := by rw [hb]; exact d4
  have hstr' : vk_R own is text sa s' := vk_R.warm hW0 hstr
  obtain ⟨U, hsteps, hrun, hend, hW, hsame, ce, hce, hO⟩ := X₁.ctorThrowS hexec htr (own := own) (cls := cls) (names := names) (ic := ic) hown' hcls hnames h (fun x hx => nomatch hx) hfX hkX hcellA (by rw [hhp, hT]; exact Nat.le_refl _) (msg := .ref sa) rfl
    (g := { method := m, pc := pc + 6, locals := ls, stack := .ref sa :: .ref T.heap.size :: .ref T.heap.size :: rest, locked := none }) rfl hsize rfl rfl (rest := rest) rfl
    (by rw [hb]; exact d6) (by rw [hb]; exact d9) hout hRframes (by simp only [List.map_cons, List.sum_cons, hcat]; omega) hlocks
  obtain ⟨f1, f2⟩ := vx_frame hsame
  rw [hhp] at f1 f2
  have hWs : s.WarmedH U.vm := State.WarmedH.trans hW0 hW
  have hcl : s.vm.findClass cls = some ce.cls := by
    have h9 := hO.cls
    rw [hvm] at h9
    exact h9
  have hall : s.sameButNew ({ U with vm := s.vm } : State) locs mc ms := by
    subst hA
    obtain ⟨e1, e2⟩ := hsame
    rw [State.setFrames_setFrames] at e1
    have h2 : (T.setVm s.vm).sameButNew ({ U with vm := s.vm } : State) [] (0 + 1) (0 + 6) := ⟨e1, e2⟩
    have h3 := X.same.trans h2
    rw [List.append_nil] at h3
    exact h3.mono hc hs
  refine ⟨U, ?_, .threw T.heap.size, hrun, hend, Or.inr ⟨T.heap.size, rfl, cls, ce, locs, hx U hWs.alike f1 (fun q hq => f2 q hq (fun z hz => nomatch hz)), hce, hO.vm, hcl, hWs, hall, hf⟩⟩
  refine st1 _ ?_
  show Steps p.tables e below (T1.setTop { method := m, pc := pc + 3, locals := ls, stack := .ref T.heap.size :: rest, locked := none }) _
  jvm_step X₁.here [X₁.here.top, hexec, d3', Value.category]
  exact X₁.ldcString hexec (own := own) (text := text) (index := is) (a := sa) hown' hstr'.1 hstr'.2
    (g := { method := m, pc := pc + 4, locals := ls, stack := .ref T.heap.size :: .ref T.heap.size :: rest, locked := none }) rfl d4' _ hsteps
/-- 'throw new E("text")', the text by a wide index -/
theorem vx_throwSW {cc : ByteArray} {pc : Nat} (hexec : p.tables.exec = Jvm.exec) (hb : c.code = cc) (hl : l.stackTraces = false) {own cls text : String} {names : List String} {ik is ic mc ms sa : Nat} {A : Nat → Prop}
    (hown : s.vm.findClass own = some m.cls) (hcls : Bundle.fit cls = true) (hnames : ∀ n ∈ names, Bundle.fit n = true)
    (hk : (Cond.classLink own ik cls).before args s = true) (hini : (Cond.initialized cls).before args s = true) (hstr : vk_R own is text sa s) (hat : ∀ w ∈ vx_atS own ic cls names, w.before args s = true)
    (hgood : ∀ w ∈ Cond.classLink own ik cls :: Cond.initialized cls :: vx_atS own ic cls names, vx_ot w = true)
    (hU : vx_Zq Bundle.tN "UNASSIGNED_STACK" Bundle.steD A s s.heap) (hN : vx_Zq Bundle.tN "SUPPRESSED_SENTINEL" Bundle.listD A s s.heap) (hS : va_S A s.heap H locs) (hsize : ls.size = c.maxLocals)
    (d0 : decode cc pc = .ok (.new ik, 3)) (d3 : decode cc (pc + 3) = .ok (.dup, 1)) (d4 : decode cc (pc + 4) = .ok (.ldc_w is, 3)) (d7 : decode cc (pc + 7) = .ok (.invokespecial ic, 3)) (d10 : decode cc (pc + 10) = .ok (.athrow, 1))
    (hout : ∀ x ∈ c.exceptionTable.toList, covers x (pc + 10) = false)
    (hRframes : names.length + 3 < R.frames) (hRlocals : (rest.map fun v => v.category).sum + (13 * (names.length + 1) + 43) ≤ R.locals) (hRcells : cells + 1 ≤ R.cells) (hRslots : slots + 6 ≤ R.slots) (hlocks : meth.locks = false)
    (hx : ∀ t : State, s.vm.Alike t.vm → H.size ≤ t.heap.size → (∀ q : Nat, q < H.size → t.heap[q]? = H[q]?) → XC cls s t)
    (hf : ∀ z ∈ locs, free z.base) (hc : cells + 1 ≤ mc) (hs : slots + 6 ≤ ms) :
    W p l e R s m args below meth c H locs cells slots (vx_MQ below Qc XC args s mc ms free) (F0 m pc ls rest) := by
  intro T hT X
  have htr : e.platform.stackTraces = false := (show e.platform.stackTraces = l.stackTraces by rw [X.admits.platform]).trans hl
  have Y := vx_rebase X (R' := { frames := R.frames, locals := R.locals, cells := 1, slots := 6 }) (Nat.le_refl _) (Nat.le_refl _) hRcells hRslots
  obtain ⟨s', hA⟩ : ∃ z, z = (T.setVm s.vm).setFrames (.invoking m args :: below) := ⟨_, rfl⟩
  rw [← hA] at Y
  have hvm : s'.vm = s.vm := by rw [hA]; rfl
  have hhp : s'.heap = H := by rw [hA]; exact hT
  have hW0 : s.WarmedH s'.vm := by rw [hvm]; exact State.WarmedH.refl s
  have hat' : ∀ w ∈ vx_atS own ic cls names, w.before args s' = true := fun w hw => vx_ot_at hW0 hvm.symm (hgood w (List.mem_cons_of_mem _ (List.mem_cons_of_mem _ hw))) (hat w hw)
  have hk' : (Cond.classLink own ik cls).before args s' = true := vx_ot_at hW0 hvm.symm (hgood _ List.mem_cons_self) hk
  have hini' : (Cond.initialized cls).before args s' = true := vx_ot_at hW0 hvm.symm (hgood _ (List.mem_cons_of_mem _ List.mem_cons_self)) hini
  have hU' : vx_Zq Bundle.tN "UNASSIGNED_STACK" Bundle.steD A s' s'.heap := by rw [hhp]; exact vx_Zq.moved hW0.alike (hU.kept hS.2.1)
  have hN' : vx_Zq Bundle.tN "SUPPRESSED_SENTINEL" Bundle.listD A s' s'.heap := by rw [hhp]; exact vx_Zq.moved hW0.alike (hN.kept hS.2.1)
  have h : ∀ w ∈ Bundle.ownAtoms own ic cls names, w.before args s' = true := vx_own hat' (vx_isRefq hU'.1) (vx_isRefq hN'.1) hU'.2.word hN'.2.word
  have hown' : s'.vm.findClass own = some m.cls := by rw [hvm]; exact hown
  have hins : (Cond.instantiable cls 6).before args s' = true := h _ (by simp [Bundle.ownAtoms])
  obtain ⟨vm₁, cX, kX, hfX, hkX, -, -, X₁, st1⟩ := Y.newCold hexec (own := own) (C := cls) (index := ik) (n := 6) hown' hk' hins hini'
    (g := F0 m pc ls rest) rfl (by rw [hb]; exact d0) (Nat.le_refl _) (Nat.le_refl _)
  generalize hT1 : (T.setVm vm₁).pushCell { cls := cX, slots := kX.instanceTypes.map defaultValue, vm := .none } = T1 at X₁ st1
  have hcat : (Value.ref T.heap.size).category = 1 := rfl
  have hcellA : T1.heap[T.heap.size]? = some (freshCell cX kX) := by rw [← hT1]; exact State.heap_pushCell_size _ _
  have d3' : decode c.code (pc + 3) = .ok (.dup, 1) := by rw [hb]; exact d3
  have d4' : decode c.code (pc + 4) = .ok (.ldc_w is, 3) := by rw [hb]; exact d4
  have hstr' : vk_R own is text sa s' := vk_R.warm hW0 hstr
  obtain ⟨U, hsteps, hrun, hend, hW, hsame, ce, hce, hO⟩ := X₁.ctorThrowS hexec htr (own := own) (cls := cls) (names := names) (ic := ic) hown' hcls hnames h (fun x hx => nomatch hx) hfX hkX hcellA (by rw [hhp, hT]; exact Nat.le_refl _) (msg := .ref sa) rfl
    (g := { method := m, pc := pc + 7, locals := ls, stack := .ref sa :: .ref T.heap.size :: .ref T.heap.size :: rest, locked := none }) rfl hsize rfl rfl (rest := rest) rfl
    (by rw [hb]; exact d7) (by rw [hb]; exact d10) hout hRframes (by simp only [List.map_cons, List.sum_cons, hcat]; omega) hlocks
  obtain ⟨f1, f2⟩ := vx_frame hsame
  rw [hhp] at f1 f2
  have hWs : s.WarmedH U.vm := State.WarmedH.trans hW0 hW
  have hcl : s.vm.findClass cls = some ce.cls := by
    have h9 := hO.cls
    rw [hvm] at h9
    exact h9
  have hall : s.sameButNew ({ U with vm := s.vm } : State) locs mc ms := by
    subst hA
    obtain ⟨e1, e2⟩ := hsame
    rw [State.setFrames_setFrames] at e1
    have h2 : (T.setVm s.vm).sameButNew ({ U with vm := s.vm } : State) [] (0 + 1) (0 + 6) := ⟨e1, e2⟩
    have h3 := X.same.trans h2
    rw [List.append_nil] at h3
    exact h3.mono hc hs
  refine ⟨U, ?_, .threw T.heap.size, hrun, hend, Or.inr ⟨T.heap.size, rfl, cls, ce, locs, hx U hWs.alike f1 (fun q hq => f2 q hq (fun z hz => nomatch hz)), hce, hO.vm, hcl, hWs, hall, hf⟩⟩
  refine st1 _ ?_
  show Steps p.tables e below (T1.setTop { method := m, pc := pc + 3, locals := ls, stack := .ref T.heap.size :: rest, locked := none }) _
  jvm_step X₁.here [X₁.here.top, hexec, d3', Value.category]
  exact X₁.ldcStringW hexec (own := own) (text := text) (index := is) (a := sa) hown' hstr'.1 hstr'.2
    (g := { method := m, pc := pc + 4, locals := ls, stack := .ref T.heap.size :: .ref T.heap.size :: rest, locked := none }) rfl d4' _ hsteps
end Ends
section Bodies
variable {l : Launch}
theorem vx_ofW {y : MethodName} {ws ws' : List Cond} {rm : Room} {Pc : Array Value → State → Prop} {Qc : Array Value → State → Outcome → State → Prop} {XC : String → State → State → Prop} {mc ms : Nat} {free : Addr → Prop} {cc : ByteArray} {maxL : Nat} {ret : Option FieldType}
    (hy : plainName y.cls = true) (hw : ws = Cond.code y cc maxL ret :: ws')
    (body : ∀ p e s m args below meth c s₁, BodyLoose p l y (headSpec ws rm) cc maxL ret e s m args below meth c s₁ → c.maxLocals = maxL → (∀ x ∈ c.exceptionTable.toList, False) → Pc args s →
      W p l e (headSpec ws rm).room s m args below meth c s.heap [] 0 0 (vx_MQ below Qc XC args s mc ms free) (entryFrame m args maxL)) : vx_Met l y ws rm Pc Qc XC mc ms free := by
  refine MetFree.of_bodyS (code := cc) (maxLocals := maxL) (ret := ret) hy ?_ ?_
  · intro args s m h hn
    obtain ⟨meth, c, h1, h2, h3, h4, h5, h6, -, -⟩ := Cond.code_spec hn (atoms_spec (ws := ws) h _ (by rw [hw]; exact List.mem_cons_self))
    exact ⟨meth, c, h1, h2, h3, h4, h5, h6⟩
  · intro p e s m args below meth c s₁ B hml hP _
    have hh0 : s₁.heap = s.heap := by rw [B.state]; rfl
    have ht : ∀ x ∈ c.exceptionTable.toList, False := by
      obtain ⟨meth9, c9, h1, h2, -, -, -, -, h7, -⟩ := Cond.code_spec B.named (atoms_spec (ws := ws) B.pre _ (by rw [hw]; exact List.mem_cons_self))
      cases Option.some.inj (h1.symm.trans B.method)
      cases Option.some.inj (h2.symm.trans (Stand.of_body B).code)
      intro x hx
      rw [Array.isEmpty_iff.mp h7] at hx
      cases hx
    obtain ⟨t, a1, o, b1, b2, b3⟩ := body p e s m args below meth c s₁ B hml ht hP s₁ hh0 (Stand.of_body B)
    exact ⟨t, o, a1, b1, b2, b3⟩
/-- the table of a body with handlers -/
theorem vx_table {p : Program} {x y : MethodName} {S : Spec} {cc bytes : ByteArray} {maxL maxL' : Nat} {ret ret' : Option FieldType} {e : Env} {s s₁ : State} {m : MethodId} {args : Array Value} {below : List Frame} {meth : Method} {c : Code} {hh : List (Nat × Nat × Nat × Nat)}
    (B : BodyLoose p l y S cc maxL ret e s m args below meth c s₁) (h : (Cond.codeWith y bytes maxL' ret' hh).before args s = true) : c.exceptionTable.toList = tableOf hh := by
  obtain ⟨m9, meth9, c9, hn9, h1, h2, -, -, h6, -⟩ := Cond.codeWith_spec h
  cases Option.some.inj (hn9.symm.trans B.named)
  cases Option.some.inj (h1.symm.trans B.method)
  cases Option.some.inj (h2.symm.trans (Stand.of_body B).code)
  rw [← h6, table_eq]
end Bodies
end VXA
/-! ===== END ===== -/
/-! ===== BEGIN a static call of a method with an exception table ===== -/
section VXS
variable {p : Program} {l : Launch} {e : Env} {R : Room} {s : State} {m : MethodId} {args : Array Value} {below : List Frame} {meth : Method} {c : Code} {T : State} {H : Heap} {locs : List Loc} {cells slots : Nat}
abbrev vx_CSW (R : Room) (s : State) (args : Array Value) (own : String) (index : Nat) (y : MethodName) (bytes : ByteArray) (maxL : Nat) (ret : Option FieldType) (hh : List (Nat × Nat × Nat × Nat)) (ws : List Cond) (rm : Room) (mc ms n : Nat) : Prop :=
  (rm.cells = mc ∧ rm.slots = ms ∧ rm.frames + 1 ≤ R.frames ∧ 8 + (maxL + 11) + rm.locals ≤ R.locals ∧ (∀ w ∈ ws, ∀ (a' : Array Value) (U : State), s.WarmedH U.vm → w.before a' U = true) ∧ Cond.codeWith y bytes maxL ret hh ∈ ws) ∧
  (Cond.codeWith y bytes maxL ret hh).before args s = true ∧ (Cond.initialized y.cls).before args s = true ∧ (y.cls ≠ "java/lang/invoke/MethodHandle" ∧ y.cls ≠ "java/lang/invoke/VarHandle") ∧
  (∀ sig, parseMethodDescriptor y.desc = some sig → n = sig.parameters.length) ∧ (Cond.methodLink own index y).before args s = true ∧ (Cond.static y).before args s = true
theorem vx_cwSW {own : String} {index maxL mc ms : Nat} {y : MethodName} {bytes : ByteArray} {ret : Option FieldType} {hh : List (Nat × Nat × Nat × Nat)} {Ts ws ws' : List Cond} {rm : Room} (n : Nat) (ht : ∀ w ∈ Ts, w.before args s = true) (hT : GoodIn Ts (va_wsS own index y ws)) (hw : ws = Cond.codeWith y bytes maxL ret hh :: ws') (hrc : rm.cells = mc) (hrs : rm.slots = ms)
    (hd : y.cls ≠ "java/lang/invoke/MethodHandle" ∧ y.cls ≠ "java/lang/invoke/VarHandle" ∧ (parseMethodDescriptor y.desc).map (fun d => d.parameters.length) = some n) (hR : rm.frames + 1 ≤ R.frames ∧ 8 + (maxL + 11) + rm.locals ≤ R.locals) :
    vx_CSW R s args own index y bytes maxL ret hh ws rm mc ms n := by
  have ok : ∀ w ∈ va_wsS own index y ws, w.before args s = true := fun w h => ht w (hT w h).1
  have hG : GoodIn Ts ws := fun w h => hT w (by unfold va_wsS; exact List.mem_append_right _ h)
  have hc : Cond.codeWith y bytes maxL ret hh ∈ ws := by rw [hw]; exact List.mem_cons_self
  refine ⟨⟨hrc, hrs, hR.1, hR.2, pay_in ht hG, hc⟩, ht _ (hG _ hc).1, ok _ (by simp [va_wsS]), ⟨hd.1, hd.2.1⟩, fun sig h => ?_, ok _ (by simp [va_wsS]), ok _ (by simp [va_wsS])⟩
  have h2 := hd.2.2
  rw [h] at h2
  exact (Option.some.inj h2).symm
theorem vx_callSW (X : Stand p l e R s m args below meth c T locs cells slots) (hexec : p.tables.exec = Jvm.exec) {own : String} {index : Nat} {y : MethodName} {bytes : ByteArray} {maxL : Nat} {ret : Option FieldType} {hh : List (Nat × Nat × Nat × Nat)}
    (hown : s.vm.findClass own = some m.cls) (hlink : (Cond.methodLink own index y).before args s = true) (hstat : (Cond.static y).before args s = true) (hinit : (Cond.initialized y.cls).before args s = true)
    (hcode : (Cond.codeWith y bytes maxL ret hh).before args s = true) (hy : y.cls ≠ "java/lang/invoke/MethodHandle" ∧ y.cls ≠ "java/lang/invoke/VarHandle")
    {W9 : Nat} {Pre : Pt → Array Value → Prop} {Post : Pt → Array Value → Option Value → Pt → Prop} (hK : Back l R p e below s args y 3 W9 Pre Post)
    {g : JFrame} (hg : g.method = m) (hsize : g.locals.size = c.maxLocals) {argsL rest : List Value} (hlen : ∀ sig, parseMethodDescriptor y.desc = some sig → argsL.length = sig.parameters.length)
    (hstack : g.stack = argsL.reverse ++ rest) (hW : 2 * g.monitorRoom + (rest.map fun v => v.category).sum ≤ W9) (hdg : decode c.code g.pc = .ok (.invokestatic index, 3))
    (hpre : ∀ vm₁, s.WarmedH vm₁ → Pre ⟨T.setVm vm₁, locs, cells, slots⟩ argsL.toArray) :
    ∃ (v : Option Value) (vm₁ : Vm) (B : Pt), s.WarmedH vm₁ ∧ Stand p l e R s m args below meth c B.U B.locs B.cells B.slots ∧ Post ⟨T.setVm vm₁, locs, cells, slots⟩ argsL.toArray v B ∧
      ∀ target, Steps p.tables e below (B.U.setTop { g with pc := g.pc + 3, stack := v.toList ++ rest }) target → Steps p.tables e below (T.setTop g) target := by
  obtain ⟨mk, methM, cM, hnamed, hmethM, -, -, -, -, -, -, hsigM⟩ := Cond.codeWith_spec hcode
  have hstatic : methM.isStatic = true := Cond.static_spec hnamed hmethM hstat
  obtain ⟨kP, hkP, -⟩ := className_of_methodNamed hnamed
  have hinitP : kP.init = .initialized := Cond.initialized_spec (findClass_of_methodNamed hnamed) hkP hinit
  obtain ⟨vm₁, X₁, hstep₁⟩ := X.invokestatic hexec hown hlink hnamed hmethM hstatic hkP hinitP hy (g := g) hg (argsL := argsL) (rest := rest) (hlen _ hsigM) hstack hdg
  obtain ⟨v, B, X', hpost, hsteps⟩ := hK m meth c ⟨T.setVm vm₁, locs, cells, slots⟩ { g with stack := rest } (.invokestatic index) mk argsL.toArray X₁ hg hsize hdg hW (X₁.named hnamed) (hpre vm₁ X₁.warmed)
  exact ⟨v, vm₁, B, X₁.warmed, X', hpost, fun target h => hstep₁ _ fun acts => by rw [doInvoke_state]; exact hsteps.trans h⟩
theorem vx_runSW {y : MethodName} {bytes cc : ByteArray} {maxL nL mc ms n index : Nat} {ret : Option FieldType} {hh : List (Nat × Nat × Nat × Nat)} {ws : List Cond} {rm : Room} {Pc : Array Value → State → Prop} {Qc : Array Value → State → Outcome → State → Prop} {free : Addr → Prop} {Ts : List Cond} {own : String} {As rest : List Value} {g : JFrame}
    (S : CallFix p m c cc nL s args Ts own) (hM : Met l y ws rm Pc Qc mc ms free) (cw : vx_CSW R s args own index y bytes maxL ret hh ws rm mc ms n) (hp : PreS s H Pc As)
    (hg : g.method = m) (hn : As.length = n) (hsize : g.locals.size = nL) (hstack : g.stack = As.reverse ++ rest) (hW : 2 * g.monitorRoom + (rest.map fun v => v.category).sum ≤ 8) (hdg : decode cc g.pc = .ok (.invokestatic index, 3)) (hf : cells + mc ≤ R.cells ∧ slots + ms ≤ R.slots) :
    va_Run p l e R s m args below meth c H locs cells slots mc ms g rest (Qc As.toArray) (free) := by
  obtain ⟨⟨hrc, hrs, hfr, hlo, hws, hcw⟩, hcode, hini, hy, hlen, hl, hstt⟩ := cw
  have hK : Back l R p e below s args y 3 8 (PreOf R mc ms Pc) (PostOf Qc mc ms free) := va_backW (hh := hh) (bytes := bytes) (maxL := maxL) (ret := ret) hM hp.1 hrc hrs hfr hlo hws hcw (fun a' U hW => word_at hW (Or.inl (by first | rfl | simp [Cond.onTables, Cond.keeps, Cond.steady])) hini)
  obtain ⟨hx, hb, hml, ho, -⟩ := S
  intro T hT X
  obtain ⟨v, vm₁, ⟨U', l2, c2, s2⟩, hW₁, X', ⟨g', mk, t, L, e1, e2, hq, h1, hL, h2, h3⟩, st⟩ := vx_callSW X hx (hh := hh) (bytes := bytes) (maxL := maxL) (ret := ret) ho hl hstt hini hcode hy hK hg (hsize.trans hml.symm) (argsL := As) (rest := rest) (fun sig h => hn.trans (hlen sig h)) hstack hW (by rw [hb]; exact hdg)
    (fun vm₁ hW₁ => ⟨hf.1, hf.2, hp.2 (T.setVm vm₁) hT hW₁⟩)
  dsimp only [Pt.U, Pt.locs, Pt.cells, Pt.slots] at X' e1 e2 h1 h2 h3 st
  subst h1; subst h2; subst h3
  exact ⟨v, (T.setVm vm₁).calling g' mk As.toArray, t, U', L, hT, X', hL, e1, e2, hq, st⟩
/-- a thing of a world lies in the heap -/
theorem vx_lt {D : va_G} {cl : List vw_C} {ws : va_W} {H1 : Heap} (h : va_P D cl ws H1) {k : Nat} {q : Nat × va_E} (hk : ws[k]? = some q) : q.1 < H1.size := (h k q hk).lt
end VXS
/-! ===== END ===== -/
/-! ===== BEGIN methods with a table of their own: called by a name, returning or throwing ===== -/
section VXH
/-! vx_backW, vx_callVX, vx_callSX, vx_callVW, vx_runVW, vx_runVX, vx_runSX, vx_ofWH follow the same proofs as their sisters above (Free/Laws.lean, Shelf42/LK1.lean); vx_outP calls Shelf42/NT130.lean (outThrough). -/
section
variable {l : Launch} {R : Room} {p : Program} {e : Env} {below : List Frame} {s : State} {sargs : Array Value} {y : MethodName} {len W9 : Nat}
theorem vx_backW {ws : List Cond} {rm : Room} {Pc : Array Value → State → Prop} {Qc : Array Value → State → Outcome → State → Prop} {XC : String → State → State → Prop} {mc ms : Nat} {free : Addr → Prop} {bytes : ByteArray} {maxL : Nat} {ret : Option FieldType} {hh : List (Nat × Nat × Nat × Nat)}
    (hM : vx_Met l y ws rm Pc Qc XC mc ms free) (hblind : FrameBlind Pc) (hrc : rm.cells = mc) (hrs : rm.slots = ms)
    (hframes : rm.frames + 1 ≤ R.frames) (hlocals : W9 + (maxL + 11) + rm.locals ≤ R.locals)
    (hws : ∀ w ∈ ws, ∀ a' U, s.WarmedH U.vm → w.before a' U = true) (hcode : Cond.codeWith y bytes maxL ret hh ∈ ws) (hinit : ∀ a' U, s.WarmedH U.vm → (Cond.initialized y.cls).before a' U = true) :
    vx_Back l R p e below s sargs y len W9 (PreOf R mc ms Pc) (PostOf Qc mc ms free) (vx_Post XC mc ms free) := by
  intro m meth c A g ig mk a X hg hsize hdg hW hn hp
  have h1 : (headSpec ws rm).pre.before a A.U = true := atoms_intro fun w hw => hws w hw _ _ X.warmed
  have h2 : (Cond.codeWith y bytes maxL ret hh).before a A.U = true := hws _ hcode _ _ X.warmed
  have h3 : (Cond.initialized y.cls).before a A.U = true := hinit _ _ X.warmed
  have h4 : A.cells + (headSpec ws rm).room.cells ≤ R.cells := by rw [show (headSpec ws rm).room.cells = mc from hrc]; exact hp.1
  have h5 : A.slots + (headSpec ws rm).room.slots ≤ R.slots := by rw [show (headSpec ws rm).room.slots = ms from hrs]; exact hp.2.1
  have hPc : Pc a (A.U.calling g mk a) := hblind _ _ _ _ hp.2.2
  obtain ⟨U, Ls, c0, s0⟩ := A
  dsimp only [Pt.U, Pt.locs, Pt.cells, Pt.slots] at h1 h2 h3 h4 h5 X hn hPc ⊢
  obtain ⟨m9, methY, cY, hn9, hmY, hcY, -, hlY, -⟩ := Cond.codeWith_spec h2
  cases Option.some.inj (hn9.symm.trans hn)
  obtain ⟨kY, hkY, -⟩ := className_of_methodNamed hn
  have hinitY : kY.init = .initialized := Cond.initialized_spec (findClass_of_methodNamed hn) hkY h3
  have h : At U g.method c below := by rw [hg]; exact X.here
  have hlocals9 : W9 + (maxL + 11) + (headSpec ws rm).room.locals ≤ R.locals := hlocals
  have happ : (headSpec ws rm).appliesLoose y e.platform (U.calling g mk a) = true :=
    Spec.appliesLoose_calling (g := g) h hdg hn hkY hinitY
      (X.room_calling (g := g) (R' := (headSpec ws rm).room) hsize hmY hcY hframes (by rw [hlY]; omega) h4 h5) h1
  obtain ⟨mid, hmid⟩ := h.above
  have hfr : (U.setTop g).frames = (.java g :: mid) ++ below := by rw [State.frames_setTop' g h.top, hmid]; rfl
  obtain ⟨o, s₂, hsteps, -, hend, hq⟩ := Steps.callFree hM p X.admits X.cas X.clock (acts := []) hfr happ hPc trivial
  have hq' : vx_Q Qc XC mc ms free a (U.calling g mk a) o s₂ := hq
  rw [State.frames_setTop' g h.top] at hend
  obtain ⟨g₀, hg0⟩ := Option.isSome_iff_exists.mp h.top
  obtain ⟨r, hr⟩ := State.topJava?_eq_some.mp hg0
  have hr' : (({ U with heap := s₂.heap, slotsUsed := s₂.slotsUsed } : State).setVm s₂.vm).frames = .java g₀ :: r := hr
  rcases hq' with ⟨hqc, L, hfe, hL⟩ | ⟨q, rfl, E, ce, L, hx, hce, hcv, hcl, hW₂, hsm, hL⟩
  · obtain ⟨⟨v, rfl⟩, hW₂, e2, q2, q3, q4, q5, q6⟩ := id hfe
    have e3 : s₂ = ({ (U.calling g mk a).setFrames s₂.frames with heap := s₂.heap, slotsUsed := s₂.slotsUsed } : State).setVm s₂.vm := by
      have : s₂ = ({ s₂ with vm := (U.calling g mk a).vm } : State).setVm s₂.vm := rfl
      rw [e2] at this
      exact this
    obtain ⟨c₂, i₂, len₂, hc₂, hd₂, hf₂⟩ := hend
    have hW' : U.WarmedH s₂.vm := hW₂
    have hcc : c₂ = c := by
      have h1 : s₂.code? g.method = U.code? g.method := by
        rw [State.code?_eq, State.code?_eq, hW'.alike.method?]
      exact Option.some.inj (hc₂.symm.trans (h1.trans h.code))
    subst hcc
    have hlen : len₂ = len := by rw [hdg] at hd₂; cases hd₂; rfl
    subst hlen
    have hs₂ : s₂ = (({ U with heap := s₂.heap, slotsUsed := s₂.slotsUsed } : State).setVm s₂.vm).setTop { g with pc := g.pc + len₂, stack := v.toList ++ g.stack } := by
      refine e3.trans ?_
      rw [hf₂, State.calling_eq h.top, State.setFrames_setFrames, State.setTop_of_frames _ hr', hr]
      rfl
    have hsame : U.sameButNew ({ U with heap := s₂.heap, slotsUsed := s₂.slotsUsed } : State) L mc ms := by
      refine ⟨?_, q2, q3, q4, q5, q6⟩
      obtain ⟨t, ht, -⟩ := State.frames_cons hr
      show ({ U with heap := s₂.heap, slotsUsed := s₂.slotsUsed } : State) = { U.setFrames U.frames with heap := s₂.heap, slotsUsed := s₂.slotsUsed }
      rw [State.setFrames_self ht]
    subst hg
    refine Or.inl ⟨v, ⟨(({ U with heap := s₂.heap, slotsUsed := s₂.slotsUsed } : State).setVm s₂.vm), Ls ++ L, c0 + mc, s0 + ms⟩,
      ⟨X.admits, X.cas, X.clock, X.frames, X.room, X.hears, X.method, X.code, (X.here.setHeapUsed s₂.heap s₂.slotsUsed).setVm hW'.alike, X.tail, State.WarmedH.trans X.warmed hW', X.limits, X.bytes, X.same.trans (hsame.setVm s.vm)⟩,
      ⟨g, mk, s₂, L, rfl, rfl, hqc, rfl, hL, rfl, rfl⟩, ?_⟩
    show Steps p.tables e below _ ((({ U with heap := s₂.heap, slotsUsed := s₂.slotsUsed } : State).setVm s₂.vm).setTop { g with pc := g.pc + len₂, stack := v.toList ++ g.stack })
    rw [← hs₂]
    exact hsteps
  · obtain ⟨e2, q2, q3, q4, q5, q6⟩ := id hsm
    have e3 : s₂ = ({ (U.calling g mk a).setFrames s₂.frames with heap := s₂.heap, slotsUsed := s₂.slotsUsed } : State).setVm s₂.vm := by
      have : s₂ = ({ s₂ with vm := (U.calling g mk a).vm } : State).setVm s₂.vm := rfl
      rw [e2] at this
      exact this
    have hf₂ : s₂.frames = .throwing q :: .java g :: U.frames.tail := hend
    have hW' : U.WarmedH s₂.vm := hW₂
    have hs₂ : s₂ = ((({ U with heap := s₂.heap, slotsUsed := s₂.slotsUsed } : State).setVm s₂.vm).setTop g).pushFrame (.throwing q) := by
      refine e3.trans ?_
      rw [hf₂, State.calling_eq h.top, State.setFrames_setFrames, State.pushFrame, State.frames_setTop _ hr', State.setTop_of_frames _ hr', State.setFrames_setFrames, hr]
      rfl
    have hsame : U.sameButNew ({ U with heap := s₂.heap, slotsUsed := s₂.slotsUsed } : State) L mc ms := by
      refine ⟨?_, q2, q3, q4, q5, q6⟩
      obtain ⟨t, ht, -⟩ := State.frames_cons hr
      show ({ U with heap := s₂.heap, slotsUsed := s₂.slotsUsed } : State) = { U.setFrames U.frames with heap := s₂.heap, slotsUsed := s₂.slotsUsed }
      rw [State.setFrames_self ht]
    subst hg
    refine Or.inr ⟨q, ⟨(({ U with heap := s₂.heap, slotsUsed := s₂.slotsUsed } : State).setVm s₂.vm), Ls ++ L, c0 + mc, s0 + ms⟩,
      ⟨X.admits, X.cas, X.clock, X.frames, X.room, X.hears, X.method, X.code, (X.here.setHeapUsed s₂.heap s₂.slotsUsed).setVm hW'.alike, X.tail, State.WarmedH.trans X.warmed hW', X.limits, X.bytes, X.same.trans (hsame.setVm s.vm)⟩,
      ⟨g, mk, s₂, L, E, ce, rfl, rfl, hx, hce, hcv, hcl, rfl, hL, rfl, rfl⟩, ?_⟩
    show Steps p.tables e below _ (((({ U with heap := s₂.heap, slotsUsed := s₂.slotsUsed } : State).setVm s₂.vm).setTop g).pushFrame (.throwing q))
    rw [← hs₂]
    exact hsteps
end
variable {p : Program} {l : Launch} {e : Env} {R : Room} {s : State} {m : MethodId} {args : Array Value} {below : List Frame} {meth : Method} {c : Code} {T : State} {H : Heap} {locs : List Loc} {cells slots : Nat}
theorem vx_callVX (X : Stand p l e R s m args below meth c T locs cells slots) (hexec : p.tables.exec = Jvm.exec) {own C : String} {index : Nat} {y : MethodName} {bytes : ByteArray} {maxL : Nat} {ret : Option FieldType} {hh : List (Nat × Nat × Nat × Nat)}
    (hown : s.vm.findClass own = some m.cls) (hlink : (Cond.methodLink own index y).before args s = true) (hinst : (Cond.instanceMethod y).before args s = true) (hsel : (Cond.selects C y y).before args s = true)
    (hcode : (Cond.codeWith y bytes maxL ret hh).before args s = true) (hy : y.cls ≠ "java/lang/invoke/MethodHandle" ∧ y.cls ≠ "java/lang/invoke/VarHandle")
    {W9 : Nat} {Pre : Pt → Array Value → Prop} {Post : Pt → Array Value → Option Value → Pt → Prop} {PostX : Pt → Array Value → Addr → Pt → Prop} (hK : vx_Back l R p e below s args y 3 W9 Pre Post PostX)
    {b : Addr} {cellB : Cell} (hcell : T.heap[b]? = some cellB) (hobj : cellB.vm.isStatics = false) (hcls : s.vm.findClass C = some cellB.cls)
    {g : JFrame} (hg : g.method = m) (hsize : g.locals.size = c.maxLocals) {argsL rest : List Value} (hlen : ∀ sig, parseMethodDescriptor y.desc = some sig → argsL.length = sig.parameters.length)
    (hstack : g.stack = argsL.reverse ++ .ref b :: rest) (hW : 2 * g.monitorRoom + (rest.map fun v => v.category).sum ≤ W9) (hdg : decode c.code g.pc = .ok (.invokevirtual index, 3))
    (hpre : ∀ vm₁, s.WarmedH vm₁ → Pre ⟨T.setVm vm₁, locs, cells, slots⟩ (Value.ref b :: argsL).toArray) :
    (∃ (v : Option Value) (vm₁ : Vm) (B : Pt), s.WarmedH vm₁ ∧ Stand p l e R s m args below meth c B.U B.locs B.cells B.slots ∧ Post ⟨T.setVm vm₁, locs, cells, slots⟩ (Value.ref b :: argsL).toArray v B ∧
      ∀ target, Steps p.tables e below (B.U.setTop { g with pc := g.pc + 3, stack := v.toList ++ rest }) target → Steps p.tables e below (T.setTop g) target) ∨
    (∃ (q : Addr) (vm₁ : Vm) (B : Pt), s.WarmedH vm₁ ∧ Stand p l e R s m args below meth c B.U B.locs B.cells B.slots ∧ PostX ⟨T.setVm vm₁, locs, cells, slots⟩ (Value.ref b :: argsL).toArray q B ∧
      Steps p.tables e below (T.setTop g) ((B.U.setTop { g with stack := rest }).pushFrame (.throwing q))) := by
  obtain ⟨mk, methM, hnamed, hmethM, hstM, habM⟩ := Cond.instanceMethod_spec hinst
  obtain ⟨m8, methM', cM, hn8, hmethM', -, -, -, -, -, -, hsigM⟩ := Cond.codeWith_spec hcode
  cases Option.some.inj (hn8.symm.trans hnamed)
  cases hmethM.symm.trans hmethM'
  obtain ⟨c2, r2, m2, q1, q2, q3, q4, kP, hkP, hkPi⟩ := Cond.selects_spec hsel
  cases hcls.symm.trans q1
  cases (State.methodFound?_of_named hnamed hy).symm.trans q2
  cases hnamed.symm.trans q3
  have hselP : selectMethod e.platform s.vm cellB.cls mk = .method mk := by rw [Launch.admits_selectMethod X.admits]; exact q4
  obtain ⟨vm₁, X₁, hstep₁⟩ := X.invokevirtual hexec hown hlink hnamed hmethM hstM hkP hkPi hy (a := b) (cell := cellB) hcell
    (fun z h => by rw [h] at hobj; cases hobj) hselP hmethM habM hkP hkPi (g := g) hg (argsL := argsL) (rest := rest) (hlen _ hsigM) hstack hdg
  rcases hK m meth c ⟨T.setVm vm₁, locs, cells, slots⟩ { g with stack := rest } (.invokevirtual index) mk (Value.ref b :: argsL).toArray X₁ hg hsize hdg hW (X₁.named hnamed) (hpre vm₁ X₁.warmed) with ⟨v, B, X', hpost, hsteps⟩ | ⟨q, B, X', hpost, hsteps⟩
  · exact Or.inl ⟨v, vm₁, B, X₁.warmed, X', hpost, fun target h => hstep₁ _ fun acts => by rw [doInvoke_state]; exact hsteps.trans h⟩
  · exact Or.inr ⟨q, vm₁, B, X₁.warmed, X', hpost, hstep₁ _ fun acts => by rw [doInvoke_state]; exact hsteps⟩
theorem vx_callSX (X : Stand p l e R s m args below meth c T locs cells slots) (hexec : p.tables.exec = Jvm.exec) {own : String} {index : Nat} {y : MethodName} {bytes : ByteArray} {maxL : Nat} {ret : Option FieldType} {hh : List (Nat × Nat × Nat × Nat)}
    (hown : s.vm.findClass own = some m.cls) (hlink : (Cond.methodLink own index y).before args s = true) (hstat : (Cond.static y).before args s = true) (hinit : (Cond.initialized y.cls).before args s = true)
    (hcode : (Cond.codeWith y bytes maxL ret hh).before args s = true) (hy : y.cls ≠ "java/lang/invoke/MethodHandle" ∧ y.cls ≠ "java/lang/invoke/VarHandle")
    {W9 : Nat} {Pre : Pt → Array Value → Prop} {Post : Pt → Array Value → Option Value → Pt → Prop} {PostX : Pt → Array Value → Addr → Pt → Prop} (hK : vx_Back l R p e below s args y 3 W9 Pre Post PostX)
    {g : JFrame} (hg : g.method = m) (hsize : g.locals.size = c.maxLocals) {argsL rest : List Value} (hlen : ∀ sig, parseMethodDescriptor y.desc = some sig → argsL.length = sig.parameters.length)
    (hstack : g.stack = argsL.reverse ++ rest) (hW : 2 * g.monitorRoom + (rest.map fun v => v.category).sum ≤ W9) (hdg : decode c.code g.pc = .ok (.invokestatic index, 3))
    (hpre : ∀ vm₁, s.WarmedH vm₁ → Pre ⟨T.setVm vm₁, locs, cells, slots⟩ argsL.toArray) :
    (∃ (v : Option Value) (vm₁ : Vm) (B : Pt), s.WarmedH vm₁ ∧ Stand p l e R s m args below meth c B.U B.locs B.cells B.slots ∧ Post ⟨T.setVm vm₁, locs, cells, slots⟩ argsL.toArray v B ∧
      ∀ target, Steps p.tables e below (B.U.setTop { g with pc := g.pc + 3, stack := v.toList ++ rest }) target → Steps p.tables e below (T.setTop g) target) ∨
    (∃ (q : Addr) (vm₁ : Vm) (B : Pt), s.WarmedH vm₁ ∧ Stand p l e R s m args below meth c B.U B.locs B.cells B.slots ∧ PostX ⟨T.setVm vm₁, locs, cells, slots⟩ argsL.toArray q B ∧
      Steps p.tables e below (T.setTop g) ((B.U.setTop { g with stack := rest }).pushFrame (.throwing q))) := by
  obtain ⟨mk, methM, cM, hnamed, hmethM, -, -, -, -, -, -, hsigM⟩ := Cond.codeWith_spec hcode
  have hstatic : methM.isStatic = true := Cond.static_spec hnamed hmethM hstat
  obtain ⟨kP, hkP, -⟩ := className_of_methodNamed hnamed
  have hinitP : kP.init = .initialized := Cond.initialized_spec (findClass_of_methodNamed hnamed) hkP hinit
  obtain ⟨vm₁, X₁, hstep₁⟩ := X.invokestatic hexec hown hlink hnamed hmethM hstatic hkP hinitP hy (g := g) hg (argsL := argsL) (rest := rest) (hlen _ hsigM) hstack hdg
  rcases hK m meth c ⟨T.setVm vm₁, locs, cells, slots⟩ { g with stack := rest } (.invokestatic index) mk argsL.toArray X₁ hg hsize hdg hW (X₁.named hnamed) (hpre vm₁ X₁.warmed) with ⟨v, B, X', hpost, hsteps⟩ | ⟨q, B, X', hpost, hsteps⟩
  · exact Or.inl ⟨v, vm₁, B, X₁.warmed, X', hpost, fun target h => hstep₁ _ fun acts => by rw [doInvoke_state]; exact hsteps.trans h⟩
  · exact Or.inr ⟨q, vm₁, B, X₁.warmed, X', hpost, hstep₁ _ fun acts => by rw [doInvoke_state]; exact hsteps⟩
theorem vx_callVW (X : Stand p l e R s m args below meth c T locs cells slots) (hexec : p.tables.exec = Jvm.exec) {own C : String} {index : Nat} {y : MethodName} {bytes : ByteArray} {maxL : Nat} {ret : Option FieldType} {hh : List (Nat × Nat × Nat × Nat)}
    (hown : s.vm.findClass own = some m.cls) (hlink : (Cond.methodLink own index y).before args s = true) (hinst : (Cond.instanceMethod y).before args s = true) (hsel : (Cond.selects C y y).before args s = true)
    (hcode : (Cond.codeWith y bytes maxL ret hh).before args s = true) (hy : y.cls ≠ "java/lang/invoke/MethodHandle" ∧ y.cls ≠ "java/lang/invoke/VarHandle")
    {W9 : Nat} {Pre : Pt → Array Value → Prop} {Post : Pt → Array Value → Option Value → Pt → Prop} (hK : Back l R p e below s args y 3 W9 Pre Post)
    {b : Addr} {cellB : Cell} (hcell : T.heap[b]? = some cellB) (hobj : cellB.vm.isStatics = false) (hcls : s.vm.findClass C = some cellB.cls)
    {g : JFrame} (hg : g.method = m) (hsize : g.locals.size = c.maxLocals) {argsL rest : List Value} (hlen : ∀ sig, parseMethodDescriptor y.desc = some sig → argsL.length = sig.parameters.length)
    (hstack : g.stack = argsL.reverse ++ .ref b :: rest) (hW : 2 * g.monitorRoom + (rest.map fun v => v.category).sum ≤ W9) (hdg : decode c.code g.pc = .ok (.invokevirtual index, 3))
    (hpre : ∀ vm₁, s.WarmedH vm₁ → Pre ⟨T.setVm vm₁, locs, cells, slots⟩ (Value.ref b :: argsL).toArray) :
    ∃ (v : Option Value) (vm₁ : Vm) (B : Pt), s.WarmedH vm₁ ∧ Stand p l e R s m args below meth c B.U B.locs B.cells B.slots ∧ Post ⟨T.setVm vm₁, locs, cells, slots⟩ (Value.ref b :: argsL).toArray v B ∧
      ∀ target, Steps p.tables e below (B.U.setTop { g with pc := g.pc + 3, stack := v.toList ++ rest }) target → Steps p.tables e below (T.setTop g) target := by
  obtain ⟨mk, methM, hnamed, hmethM, hstM, habM⟩ := Cond.instanceMethod_spec hinst
  obtain ⟨m8, methM', cM, hn8, hmethM', -, -, -, -, -, -, hsigM⟩ := Cond.codeWith_spec hcode
  cases Option.some.inj (hn8.symm.trans hnamed)
  cases hmethM.symm.trans hmethM'
  obtain ⟨c2, r2, m2, q1, q2, q3, q4, kP, hkP, hkPi⟩ := Cond.selects_spec hsel
  cases hcls.symm.trans q1
  cases (State.methodFound?_of_named hnamed hy).symm.trans q2
  cases hnamed.symm.trans q3
  have hselP : selectMethod e.platform s.vm cellB.cls mk = .method mk := by rw [Launch.admits_selectMethod X.admits]; exact q4
  obtain ⟨vm₁, X₁, hstep₁⟩ := X.invokevirtual hexec hown hlink hnamed hmethM hstM hkP hkPi hy (a := b) (cell := cellB) hcell
    (fun z h => by rw [h] at hobj; cases hobj) hselP hmethM habM hkP hkPi (g := g) hg (argsL := argsL) (rest := rest) (hlen _ hsigM) hstack hdg
  obtain ⟨v, B, X', hpost, hsteps⟩ := hK m meth c ⟨T.setVm vm₁, locs, cells, slots⟩ { g with stack := rest } (.invokevirtual index) mk (Value.ref b :: argsL).toArray X₁ hg hsize hdg hW (X₁.named hnamed) (hpre vm₁ X₁.warmed)
  exact ⟨v, vm₁, B, X₁.warmed, X', hpost, fun target h => hstep₁ _ fun acts => by rw [doInvoke_state]; exact hsteps.trans h⟩
abbrev vx_CVW (R : Room) (s : State) (args : Array Value) (own C : String) (index : Nat) (y : MethodName) (bytes : ByteArray) (maxL : Nat) (ret : Option FieldType) (hh : List (Nat × Nat × Nat × Nat)) (ws : List Cond) (rm : Room) (mc ms n : Nat) : Prop :=
  (rm.cells = mc ∧ rm.slots = ms ∧ rm.frames + 1 ≤ R.frames ∧ 8 + (maxL + 11) + rm.locals ≤ R.locals ∧ (∀ w ∈ ws, ∀ (a' : Array Value) (U : State), s.WarmedH U.vm → w.before a' U = true) ∧ Cond.codeWith y bytes maxL ret hh ∈ ws) ∧
  (Cond.codeWith y bytes maxL ret hh).before args s = true ∧ (Cond.initialized y.cls).before args s = true ∧ (y.cls ≠ "java/lang/invoke/MethodHandle" ∧ y.cls ≠ "java/lang/invoke/VarHandle") ∧
  (∀ sig, parseMethodDescriptor y.desc = some sig → n = sig.parameters.length) ∧ (Cond.methodLink own index y).before args s = true ∧ (Cond.instanceMethod y).before args s = true ∧ (Cond.selects C y y).before args s = true
theorem vx_cwVW {own C : String} {index maxL mc ms : Nat} {y : MethodName} {bytes : ByteArray} {ret : Option FieldType} {hh : List (Nat × Nat × Nat × Nat)} {Ts ws ws' : List Cond} {rm : Room} (n : Nat) (ht : ∀ w ∈ Ts, w.before args s = true) (hT : GoodIn Ts (wsV own index C y ws)) (hw : ws = Cond.codeWith y bytes maxL ret hh :: ws') (hrc : rm.cells = mc) (hrs : rm.slots = ms)
    (hd : y.cls = C ∧ y.cls ≠ "java/lang/invoke/MethodHandle" ∧ y.cls ≠ "java/lang/invoke/VarHandle" ∧ (parseMethodDescriptor y.desc).map (fun d => d.parameters.length) = some n) (hR : rm.frames + 1 ≤ R.frames ∧ 8 + (maxL + 11) + rm.locals ≤ R.locals) :
    vx_CVW R s args own C index y bytes maxL ret hh ws rm mc ms n := by
  obtain ⟨hC, hd⟩ := hd
  subst hC
  have ok : ∀ w ∈ wsV own index y.cls y ws, w.before args s = true := fun w h => ht w (hT w h).1
  have hG : GoodIn Ts ws := fun w h => hT w (by unfold wsV; exact List.mem_append_right _ h)
  have hc : Cond.codeWith y bytes maxL ret hh ∈ ws := by rw [hw]; exact List.mem_cons_self
  refine ⟨⟨hrc, hrs, hR.1, hR.2, pay_in ht hG, hc⟩, ht _ (hG _ hc).1, ok _ (by simp [wsV]), ⟨hd.1, hd.2.1⟩, fun sig h => ?_, ok _ (by simp [wsV]), ok _ (by simp [wsV]), ok _ (by simp [wsV])⟩
  have h2 := hd.2.2
  rw [h] at h2
  exact (Option.some.inj h2).symm
theorem vx_runVW {y : MethodName} {bytes cc : ByteArray} {maxL nL mc ms n index : Nat} {ret : Option FieldType} {hh : List (Nat × Nat × Nat × Nat)} {ws : List Cond} {rm : Room} {Pc : Array Value → State → Prop} {Qc : Array Value → State → Outcome → State → Prop} {free : Addr → Prop} {Ts : List Cond} {own C : String} {b : Addr} {As rest : List Value} {g : JFrame}
    (S : CallFix p m c cc nL s args Ts own) (hM : Met l y ws rm Pc Qc mc ms free) (cw : vx_CVW R s args own C index y bytes maxL ret hh ws rm mc ms n) (hp : PreV s H C b Pc As)
    (hg : g.method = m) (hn : As.length = n) (hsize : g.locals.size = nL) (hstack : g.stack = As.reverse ++ .ref b :: rest) (hW : 2 * g.monitorRoom + (rest.map fun v => v.category).sum ≤ 8) (hdg : decode cc g.pc = .ok (.invokevirtual index, 3)) (hf : cells + mc ≤ R.cells ∧ slots + ms ≤ R.slots) :
    va_Run p l e R s m args below meth c H locs cells slots mc ms g rest (Qc (Value.ref b :: As).toArray) free := by
  obtain ⟨⟨hrc, hrs, hfr, hlo, hws, hcw⟩, hcode, hini, hy, hlen, hl, hin, hse⟩ := cw
  have hK : Back l R p e below s args y 3 8 (PreOf R mc ms Pc) (PostOf Qc mc ms free) := va_backW (hh := hh) (bytes := bytes) (maxL := maxL) (ret := ret) hM hp.1 hrc hrs hfr hlo hws hcw (fun a' U hW => word_at hW (Or.inl (by first | rfl | simp [Cond.onTables, Cond.keeps, Cond.steady])) hini)
  obtain ⟨hx, hb, hml, ho, -⟩ := S
  obtain ⟨-, ⟨cellB, hcB, hoB, hclB⟩, hPc⟩ := hp
  intro T hT X
  obtain ⟨v, vm₁, ⟨U', l2, c2, s2⟩, hW₁, X', ⟨g', mk, t, L, e1, e2, hq, h1, hL, h2, h3⟩, st⟩ := vx_callVW X hx (C := C) (hh := hh) (bytes := bytes) (maxL := maxL) (ret := ret) ho hl hin hse hcode hy hK (by rw [hT]; exact hcB) hoB hclB hg (hsize.trans hml.symm) (argsL := As) (rest := rest) (fun sig h => hn.trans (hlen sig h)) hstack hW (by rw [hb]; exact hdg)
    (fun vm₁ hW₁ => ⟨hf.1, hf.2, hPc (T.setVm vm₁) hT hW₁⟩)
  dsimp only [Pt.U, Pt.locs, Pt.cells, Pt.slots] at X' e1 e2 h1 h2 h3 st
  subst h1; subst h2; subst h3
  exact ⟨v, (T.setVm vm₁).calling g' mk (Value.ref b :: As).toArray, t, U', L, hT, X', hL, e1, e2, hq, st⟩
section
variable {y : MethodName} {bytes cc : ByteArray} {maxL nL mc ms n index : Nat} {ret : Option FieldType} {ws : List Cond} {rm : Room} {Pc : Array Value → State → Prop} {Qc : Array Value → State → Outcome → State → Prop} {XC : String → State → State → Prop} {free : Addr → Prop} {Ts : List Cond} {own C : String} {b : Addr} {As rest : List Value} {g : JFrame}
theorem vx_runVX {hh : List (Nat × Nat × Nat × Nat)} (S : CallFix p m c cc nL s args Ts own) (hM : vx_Met l y ws rm Pc Qc XC mc ms free) (cw : vx_CVW R s args own C index y bytes maxL ret hh ws rm mc ms n) (hp : PreV s H C b Pc As)
    (hg : g.method = m) (hn : As.length = n) (hsize : g.locals.size = nL) (hstack : g.stack = As.reverse ++ .ref b :: rest) (hW : 2 * g.monitorRoom + (rest.map fun v => v.category).sum ≤ 8) (hdg : decode cc g.pc = .ok (.invokevirtual index, 3)) (hf : cells + mc ≤ R.cells ∧ slots + ms ≤ R.slots) :
    vx_Run p l e R s m args below meth c H locs cells slots mc ms g rest (Qc (Value.ref b :: As).toArray) XC free := by
  obtain ⟨⟨hrc, hrs, hfr, hlo, hws, hcw⟩, hcode, hini, hy, hlen, hl, hin, hse⟩ := cw
  have hK : vx_Back l R p e below s args y 3 8 (PreOf R mc ms Pc) (PostOf Qc mc ms free) (vx_Post XC mc ms free) := vx_backW (hh := hh) (bytes := bytes) (maxL := maxL) (ret := ret) hM hp.1 hrc hrs hfr hlo hws hcw (fun a' U hW => word_at hW (Or.inl (by first | rfl | simp [Cond.onTables, Cond.keeps, Cond.steady])) hini)
  obtain ⟨hx, hb, hml, ho, -⟩ := S
  obtain ⟨-, ⟨cellB, hcB, hoB, hclB⟩, hPc⟩ := hp
  intro T hT X
  rcases vx_callVX X hx (C := C) (hh := hh) (bytes := bytes) (maxL := maxL) (ret := ret) ho hl hin hse hcode hy hK (by rw [hT]; exact hcB) hoB hclB hg (hsize.trans hml.symm) (argsL := As) (rest := rest) (fun sig h => hn.trans (hlen sig h)) hstack hW (by rw [hb]; exact hdg)
    (fun vm₁ hW₁ => ⟨hf.1, hf.2, hPc (T.setVm vm₁) hT hW₁⟩) with ⟨v, vm₁, ⟨U', l2, c2, s2⟩, hW₁, X', ⟨g', mk, t, L, e1, e2, hq, h1, hL, h2, h3⟩, st⟩ | ⟨q, vm₁, ⟨U', l2, c2, s2⟩, hW₁, X', ⟨g', mk, t, L, E, ce, e1, e2, hq, hce, hcv, hcl, h1, hL, h2, h3⟩, st⟩
  · dsimp only [Pt.U, Pt.locs, Pt.cells, Pt.slots] at X' e1 e2 h1 h2 h3 st
    subst h1; subst h2; subst h3
    exact Or.inl ⟨v, (T.setVm vm₁).calling g' mk (Value.ref b :: As).toArray, t, U', L, hT, X', hL, e1, e2, hq, st⟩
  · dsimp only [Pt.U, Pt.locs, Pt.cells, Pt.slots] at X' e1 e2 h1 h2 h3 st hcl
    subst h1; subst h2; subst h3
    exact Or.inr ⟨q, (T.setVm vm₁).calling g' mk (Value.ref b :: As).toArray, t, U', L, E, ce, hT, X', hL, e1, e2, hq, hce, hcv, vx_cls hW₁ hcl, st⟩
theorem vx_runSX {hh : List (Nat × Nat × Nat × Nat)} (S : CallFix p m c cc nL s args Ts own) (hM : vx_Met l y ws rm Pc Qc XC mc ms free) (cw : vx_CSW R s args own index y bytes maxL ret hh ws rm mc ms n) (hp : PreS s H Pc As)
    (hg : g.method = m) (hn : As.length = n) (hsize : g.locals.size = nL) (hstack : g.stack = As.reverse ++ rest) (hW : 2 * g.monitorRoom + (rest.map fun v => v.category).sum ≤ 8) (hdg : decode cc g.pc = .ok (.invokestatic index, 3)) (hf : cells + mc ≤ R.cells ∧ slots + ms ≤ R.slots) :
    vx_Run p l e R s m args below meth c H locs cells slots mc ms g rest (Qc As.toArray) XC free := by
  obtain ⟨⟨hrc, hrs, hfr, hlo, hws, hcw⟩, hcode, hini, hy, hlen, hl, hstt⟩ := cw
  have hK : vx_Back l R p e below s args y 3 8 (PreOf R mc ms Pc) (PostOf Qc mc ms free) (vx_Post XC mc ms free) := vx_backW (hh := hh) (bytes := bytes) (maxL := maxL) (ret := ret) hM hp.1 hrc hrs hfr hlo hws hcw (fun a' U hW => word_at hW (Or.inl (by first | rfl | simp [Cond.onTables, Cond.keeps, Cond.steady])) hini)
  obtain ⟨hx, hb, hml, ho, -⟩ := S
  intro T hT X
  rcases vx_callSX X hx (hh := hh) (bytes := bytes) (maxL := maxL) (ret := ret) ho hl hstt hini hcode hy hK hg (hsize.trans hml.symm) (argsL := As) (rest := rest) (fun sig h => hn.trans (hlen sig h)) hstack hW (by rw [hb]; exact hdg)
    (fun vm₁ hW₁ => ⟨hf.1, hf.2, hp.2 (T.setVm vm₁) hT hW₁⟩) with ⟨v, vm₁, ⟨U', l2, c2, s2⟩, hW₁, X', ⟨g', mk, t, L, e1, e2, hq, h1, hL, h2, h3⟩, st⟩ | ⟨q, vm₁, ⟨U', l2, c2, s2⟩, hW₁, X', ⟨g', mk, t, L, E, ce, e1, e2, hq, hce, hcv, hcl, h1, hL, h2, h3⟩, st⟩
  · dsimp only [Pt.U, Pt.locs, Pt.cells, Pt.slots] at X' e1 e2 h1 h2 h3 st
    subst h1; subst h2; subst h3
    exact Or.inl ⟨v, (T.setVm vm₁).calling g' mk As.toArray, t, U', L, hT, X', hL, e1, e2, hq, st⟩
  · dsimp only [Pt.U, Pt.locs, Pt.cells, Pt.slots] at X' e1 e2 h1 h2 h3 st hcl
    subst h1; subst h2; subst h3
    exact Or.inr ⟨q, (T.setVm vm₁).calling g' mk As.toArray, t, U', L, E, ce, hT, X', hL, e1, e2, hq, hce, hcv, vx_cls hW₁ hcl, st⟩
end
end VXH
theorem vx_ofWH {l : Launch} {y : MethodName} {ws ws' : List Cond} {rm : Room} {Pc : Array Value → State → Prop} {Qc : Array Value → State → Outcome → State → Prop} {XC : String → State → State → Prop} {mc ms : Nat} {free : Addr → Prop} {cc : ByteArray} {maxL : Nat} {ret : Option FieldType} {hh : List (Nat × Nat × Nat × Nat)}
    (hy : plainName y.cls = true) (hw : ws = Cond.codeWith y cc maxL ret hh :: ws')
    (body : ∀ p e s m args below meth c s₁, BodyLoose p l y (headSpec ws rm) cc maxL ret e s m args below meth c s₁ → c.maxLocals = maxL → Pc args s →
      W p l e (headSpec ws rm).room s m args below meth c s.heap [] 0 0 (vx_MQ below Qc XC args s mc ms free) (entryFrame m args maxL)) : vx_Met l y ws rm Pc Qc XC mc ms free := by
  refine MetFree.of_bodyS (code := cc) (maxLocals := maxL) (ret := ret) hy ?_ ?_
  · intro args s m h hn
    obtain ⟨m9, meth, c, hn9, h1, h2, h3, h4, -, h5, h6, -⟩ := Cond.codeWith_spec (atoms_spec (ws := ws) h _ (by rw [hw]; exact List.mem_cons_self))
    cases hn.symm.trans hn9
    exact ⟨meth, c, h1, h2, h3, h4, h5, h6⟩
  · intro p e s m args below meth c s₁ B hml hP _
    have hh0 : s₁.heap = s.heap := by rw [B.state]; rfl
    obtain ⟨t, a1, o, b1, b2, b3⟩ := body p e s m args below meth c s₁ B hml hP s₁ hh0 (Stand.of_body B)
    exact ⟨t, o, a1, b1, b2, b3⟩
/-! ===== END ===== -/

/-! ===== BEGIN printed: names, fields, word lists, decode rows ===== -/
def RX0 : String := "SpokenDesk$Costs"
def TX0 : u_T := fun k => match k with
  | 0 => ("SpokenDesk$Costs", "costs", "[I", true)
  | 1 => ("SpokenDesk$Costs", "nears", "[I", true)
  | 2 => ("SpokenDesk$Costs", "edition", "I", false)
  | _ => ("SpokenDesk$Costs", "stale", "Z", false)
def tyX0 : Nat → FieldType := fun k => match k with
  | 0 => .array .int
  | 1 => .array .int
  | 2 => .int
  | _ => .boolean
abbrev wsX00 : List Cond := u_ws RX0 TX0 4
theorem nmX0 : ∀ a, a < 4 → ∀ b, b < 4 → a ≠ b → (TX0 a).2.1 ≠ (TX0 b).2.1 := by decide +kernel
theorem tyX0_ok : ∀ k, k < 4 → parseFieldDescriptor (TX0 k).2.2.1 = some (tyX0 k) := by decide +kernel
abbrev cX0_init : ByteArray := prog_2_method_1_code
def yX0_init : MethodName := ⟨RX0, "<init>", "()V"⟩
abbrev cX0_edition : ByteArray := prog_2_method_2_code
def yX0_edition : MethodName := ⟨RX0, "edition", "()I"⟩
abbrev cX0_change : ByteArray := prog_2_method_3_code
def yX0_change : MethodName := ⟨RX0, "change", "(III)I"⟩
abbrev cX0_least : ByteArray := prog_2_method_4_code
def yX0_least : MethodName := ⟨RX0, "least", "(II)I"⟩
abbrev cX0_refresh : ByteArray := prog_2_method_5_code
def yX0_refresh : MethodName := ⟨RX0, "refresh", "()V"⟩
abbrev cX0_goBy : ByteArray := prog_2_method_6_code
def yX0_goBy : MethodName := ⟨RX0, "goBy", "(II)V"⟩
abbrev cX0_table : ByteArray := prog_2_method_7_code
def yX0_table : MethodName := ⟨RX0, "table", "()[I"⟩
def RX1 : String := "SpokenDesk$Grammar"
def TX1 : u_T := fun k => match k with
  | 0 => ("SpokenDesk$Grammar", "words", "LSpokenDesk$Rows;", true)
  | 1 => ("SpokenDesk$Grammar", "wordPoint", "[I", true)
  | 2 => ("SpokenDesk$Grammar", "wordPart", "[I", true)
  | 3 => ("SpokenDesk$Grammar", "outerPoint", "[I", true)
  | 4 => ("SpokenDesk$Grammar", "outerPart", "[I", true)
  | 5 => ("SpokenDesk$Grammar", "parts", "[I", true)
  | 6 => ("SpokenDesk$Grammar", "optional", "[Z", true)
  | 7 => ("SpokenDesk$Grammar", "now", "[I", true)
  | 8 => ("SpokenDesk$Grammar", "picks", "[I", true)
  | 9 => ("SpokenDesk$Grammar", "commands", "LSpokenDesk$Rows;", true)
  | 10 => ("SpokenDesk$Grammar", "wordCount", "I", false)
  | 11 => ("SpokenDesk$Grammar", "pointCount", "I", false)
  | _ => ("SpokenDesk$Grammar", "size", "I", false)
def tyX1 : Nat → FieldType := fun k => match k with
  | 0 => .object "SpokenDesk$Rows"
  | 1 => .array .int
  | 2 => .array .int
  | 3 => .array .int
  | 4 => .array .int
  | 5 => .array .int
  | 6 => .array .boolean
  | 7 => .array .int
  | 8 => .array .int
  | 9 => .object "SpokenDesk$Rows"
  | 10 => .int
  | 11 => .int
  | _ => .int
abbrev wsX10 : List Cond := u_ws RX1 TX1 13
theorem nmX1 : ∀ a, a < 13 → ∀ b, b < 13 → a ≠ b → (TX1 a).2.1 ≠ (TX1 b).2.1 := by decide +kernel
theorem tyX1_ok : ∀ k, k < 13 → parseFieldDescriptor (TX1 k).2.2.1 = some (tyX1 k) := by decide +kernel
abbrev cX1_init : ByteArray := prog_3_method_1_code
def yX1_init : MethodName := ⟨RX1, "<init>", "()V"⟩
abbrev cX1_clear : ByteArray := prog_3_method_2_code
def yX1_clear : MethodName := ⟨RX1, "clear", "()V"⟩
abbrev cX1_size : ByteArray := prog_3_method_3_code
def yX1_size : MethodName := ⟨RX1, "size", "()I"⟩
abbrev cX1_points : ByteArray := prog_3_method_4_code
def yX1_points : MethodName := ⟨RX1, "points", "()I"⟩
abbrev cX1_commands : ByteArray := prog_3_method_5_code
def yX1_commands : MethodName := ⟨RX1, "commands", "()LSpokenDesk$Rows;"⟩
abbrev cX1_picked : ByteArray := prog_3_method_6_code
def yX1_picked : MethodName := ⟨RX1, "picked", "(II)I"⟩
abbrev cX1_hasPoint : ByteArray := prog_3_method_7_code
def yX1_hasPoint : MethodName := ⟨RX1, "hasPoint", "(I)Z"⟩
abbrev cX1_isOptional : ByteArray := prog_3_method_8_code
def yX1_isOptional : MethodName := ⟨RX1, "isOptional", "(I)Z"⟩
abbrev cX1_outer : ByteArray := prog_3_method_9_code
def yX1_outer : MethodName := ⟨RX1, "outer", "(I)I"⟩
abbrev cX1_latestPart : ByteArray := prog_3_method_10_code
def yX1_latestPart : MethodName := ⟨RX1, "latestPart", "(I)I"⟩
abbrev cX1_addWord : ByteArray := prog_3_method_11_code
def yX1_addWord : MethodName := ⟨RX1, "addWord", "(LSpokenDesk$Rows;I)Z"⟩
abbrev cX1_addPoint : ByteArray := prog_3_method_12_code
def yX1_addPoint : MethodName := ⟨RX1, "addPoint", "(ZI)I"⟩
abbrev cX1_addPart : ByteArray := prog_3_method_13_code
def yX1_addPart : MethodName := ⟨RX1, "addPart", "(I)V"⟩
abbrev cX1_makeCommands : ByteArray := prog_3_method_14_code
def yX1_makeCommands : MethodName := ⟨RX1, "makeCommands", "()I"⟩
abbrev cX1_comesBy : ByteArray := prog_3_method_15_code
def yX1_comesBy : MethodName := ⟨RX1, "comesBy", "(II)Z"⟩
abbrev cX1_settleFrom : ByteArray := prog_3_method_16_code
def yX1_settleFrom : MethodName := ⟨RX1, "settleFrom", "(I)V"⟩
abbrev cX1_step : ByteArray := prog_3_method_17_code
def yX1_step : MethodName := ⟨RX1, "step", "()Z"⟩
abbrev cX1_joinWords : ByteArray := prog_3_method_18_code
def yX1_joinWords : MethodName := ⟨RX1, "joinWords", "(I)Z"⟩
def RX2 : String := "SpokenDesk$Hearing"
def TX2 : u_T := fun k => match k with
  | 0 => ("SpokenDesk$Hearing", "again", "[I", true)
  | 1 => ("SpokenDesk$Hearing", "againCount", "I", false)
  | 2 => ("SpokenDesk$Hearing", "first", "I", false)
  | 3 => ("SpokenDesk$Hearing", "firstGap", "I", false)
  | 4 => ("SpokenDesk$Hearing", "second", "I", false)
  | _ => ("SpokenDesk$Hearing", "secondGap", "I", false)
def tyX2 : Nat → FieldType := fun k => match k with
  | 0 => .array .int
  | 1 => .int
  | 2 => .int
  | 3 => .int
  | 4 => .int
  | _ => .int
abbrev wsX20 : List Cond := u_ws RX2 TX2 6
theorem nmX2 : ∀ a, a < 6 → ∀ b, b < 6 → a ≠ b → (TX2 a).2.1 ≠ (TX2 b).2.1 := by decide +kernel
theorem tyX2_ok : ∀ k, k < 6 → parseFieldDescriptor (TX2 k).2.2.1 = some (tyX2 k) := by decide +kernel
abbrev cX2_init : ByteArray := prog_4_method_1_code
def yX2_init : MethodName := ⟨RX2, "<init>", "()V"⟩
abbrev cX2_forget : ByteArray := prog_4_method_2_code
def yX2_forget : MethodName := ⟨RX2, "forget", "()V"⟩
abbrev cX2_listen : ByteArray := prog_4_method_3_code
def yX2_listen : MethodName := ⟨RX2, "listen", "(LSpokenDesk$Grammar;LSpokenDesk$Rows;LSpokenDesk$Measure;)V"⟩
abbrev cX2_weigh : ByteArray := prog_4_method_4_code
def yX2_weigh : MethodName := ⟨RX2, "weigh", "(II)V"⟩
abbrev cX2_askAgain : ByteArray := prog_4_method_5_code
def yX2_askAgain : MethodName := ⟨RX2, "askAgain", "(LSpokenDesk$Grammar;)V"⟩
abbrev cX2_told : ByteArray := prog_4_method_6_code
def yX2_told : MethodName := ⟨RX2, "told", "(I)I"⟩
abbrev cX2_asked : ByteArray := prog_4_method_7_code
def yX2_asked : MethodName := ⟨RX2, "asked", "(I)I"⟩
def RX3 : String := "SpokenDesk$Lexicon"
def TX3 : u_T := fun k => match k with
  | 0 => ("SpokenDesk$Lexicon", "mostLetters", "I", true)
  | 1 => ("SpokenDesk$Lexicon", "codes", "[J", true)
  | 2 => ("SpokenDesk$Lexicon", "lengths", "[I", true)
  | 3 => ("SpokenDesk$Lexicon", "rows", "LSpokenDesk$Rows;", true)
  | _ => ("SpokenDesk$Lexicon", "size", "I", false)
def tyX3 : Nat → FieldType := fun k => match k with
  | 0 => .int
  | 1 => .array .long
  | 2 => .array .int
  | 3 => .object "SpokenDesk$Rows"
  | _ => .int
abbrev wsX30 : List Cond := u_ws RX3 TX3 5
theorem nmX3 : ∀ a, a < 5 → ∀ b, b < 5 → a ≠ b → (TX3 a).2.1 ≠ (TX3 b).2.1 := by decide +kernel
theorem tyX3_ok : ∀ k, k < 5 → parseFieldDescriptor (TX3 k).2.2.1 = some (tyX3 k) := by decide +kernel
abbrev cX3_init : ByteArray := prog_5_method_1_code
def yX3_init : MethodName := ⟨RX3, "<init>", "(III)V"⟩
abbrev cX3_size : ByteArray := prog_5_method_2_code
def yX3_size : MethodName := ⟨RX3, "size", "()I"⟩
abbrev cX3_mostLetters : ByteArray := prog_5_method_3_code
def yX3_mostLetters : MethodName := ⟨RX3, "mostLetters", "()I"⟩
abbrev cX3_mostSounds : ByteArray := prog_5_method_4_code
def yX3_mostSounds : MethodName := ⟨RX3, "mostSounds", "()I"⟩
abbrev cX3_lettersOf : ByteArray := prog_5_method_5_code
def yX3_lettersOf : MethodName := ⟨RX3, "lettersOf", "(I)I"⟩
abbrev cX3_rows : ByteArray := prog_5_method_6_code
def yX3_rows : MethodName := ⟨RX3, "rows", "()LSpokenDesk$Rows;"⟩
abbrev cX3_find : ByteArray := prog_5_method_7_code
def yX3_find : MethodName := ⟨RX3, "find", "(J)I"⟩
abbrev cX3_tell : ByteArray := prog_5_method_8_code
def yX3_tell : MethodName := ⟨RX3, "tell", "(JILSpokenDesk$Rows;)I"⟩
def RX4 : String := "SpokenDesk$Measure"
def TX4 : u_T := fun k => match k with
  | 0 => ("SpokenDesk$Measure", "across", "[I", true)
  | 1 => ("SpokenDesk$Measure", "firstLine", "[I", true)
  | 2 => ("SpokenDesk$Measure", "line", "[I", true)
  | 3 => ("SpokenDesk$Measure", "costs", "LSpokenDesk$Costs;", true)
  | 4 => ("SpokenDesk$Measure", "nears", "[I", true)
  | 5 => ("SpokenDesk$Measure", "width", "I", false)
  | 6 => ("SpokenDesk$Measure", "low", "I", false)
  | _ => ("SpokenDesk$Measure", "high", "I", false)
def tyX4 : Nat → FieldType := fun k => match k with
  | 0 => .array .int
  | 1 => .array .int
  | 2 => .array .int
  | 3 => .object "SpokenDesk$Costs"
  | 4 => .array .int
  | 5 => .int
  | 6 => .int
  | _ => .int
abbrev wsX40 : List Cond := u_ws RX4 TX4 8
theorem nmX4 : ∀ a, a < 8 → ∀ b, b < 8 → a ≠ b → (TX4 a).2.1 ≠ (TX4 b).2.1 := by decide +kernel
theorem tyX4_ok : ∀ k, k < 8 → parseFieldDescriptor (TX4 k).2.2.1 = some (tyX4 k) := by decide +kernel
abbrev cX4_init : ByteArray := prog_6_method_1_code
def yX4_init : MethodName := ⟨RX4, "<init>", "(LSpokenDesk$Costs;)V"⟩
abbrev cX4_edition : ByteArray := prog_6_method_2_code
def yX4_edition : MethodName := ⟨RX4, "edition", "()I"⟩
abbrev cX4_lay : ByteArray := prog_6_method_3_code
def yX4_lay : MethodName := ⟨RX4, "lay", "(LSpokenDesk$Rows;I)V"⟩
abbrev cX4_reach : ByteArray := prog_6_method_4_code
def yX4_reach : MethodName := ⟨RX4, "reach", "(LSpokenDesk$Rows;II)I"⟩
abbrev cX4_fillLine : ByteArray := prog_6_method_5_code
def yX4_fillLine : MethodName := ⟨RX4, "fillLine", "([III)V"⟩
def RX5 : String := "SpokenDesk$Nearest"
def TX5 : u_T := fun k => match k with
  | 0 => ("SpokenDesk$Nearest", "known", "Z", false)
  | 1 => ("SpokenDesk$Nearest", "edition", "I", false)
  | 2 => ("SpokenDesk$Nearest", "least", "I", false)
  | 3 => ("SpokenDesk$Nearest", "lower", "I", false)
  | _ => ("SpokenDesk$Nearest", "upper", "I", false)
def tyX5 : Nat → FieldType := fun k => match k with
  | 0 => .boolean
  | 1 => .int
  | 2 => .int
  | 3 => .int
  | _ => .int
abbrev wsX50 : List Cond := u_ws RX5 TX5 5
theorem nmX5 : ∀ a, a < 5 → ∀ b, b < 5 → a ≠ b → (TX5 a).2.1 ≠ (TX5 b).2.1 := by decide +kernel
theorem tyX5_ok : ∀ k, k < 5 → parseFieldDescriptor (TX5 k).2.2.1 = some (tyX5 k) := by decide +kernel
abbrev cX5_init : ByteArray := prog_7_method_1_code
def yX5_init : MethodName := ⟨RX5, "<init>", "()V"⟩
abbrev cX5_forget : ByteArray := prog_7_method_2_code
def yX5_forget : MethodName := ⟨RX5, "forget", "()V"⟩
abbrev cX5_least : ByteArray := prog_7_method_3_code
def yX5_least : MethodName := ⟨RX5, "least", "()I"⟩
abbrev cX5_lower : ByteArray := prog_7_method_4_code
def yX5_lower : MethodName := ⟨RX5, "lower", "()I"⟩
abbrev cX5_upper : ByteArray := prog_7_method_5_code
def yX5_upper : MethodName := ⟨RX5, "upper", "()I"⟩
abbrev cX5_find : ByteArray := prog_7_method_6_code
def yX5_find : MethodName := ⟨RX5, "find", "(LSpokenDesk$Grammar;LSpokenDesk$Measure;)V"⟩
abbrev cX5_compare : ByteArray := prog_7_method_7_code
def yX5_compare : MethodName := ⟨RX5, "compare", "(LSpokenDesk$Grammar;LSpokenDesk$Measure;I)V"⟩
def RX6 : String := "SpokenDesk$Parser"
def TX6 : u_T := fun k => match k with
  | 0 => ("SpokenDesk$Parser", "reader", "LSpokenDesk$Reader;", true)
  | 1 => ("SpokenDesk$Parser", "open", "I", false)
  | 2 => ("SpokenDesk$Parser", "empty", "Z", false)
  | _ => ("SpokenDesk$Parser", "reached", "I", false)
def tyX6 : Nat → FieldType := fun k => match k with
  | 0 => .object "SpokenDesk$Reader"
  | 1 => .int
  | 2 => .boolean
  | _ => .int
abbrev wsX60 : List Cond := u_ws RX6 TX6 4
theorem nmX6 : ∀ a, a < 4 → ∀ b, b < 4 → a ≠ b → (TX6 a).2.1 ≠ (TX6 b).2.1 := by decide +kernel
theorem tyX6_ok : ∀ k, k < 4 → parseFieldDescriptor (TX6 k).2.2.1 = some (tyX6 k) := by decide +kernel
abbrev cX6_init : ByteArray := prog_8_method_1_code
def yX6_init : MethodName := ⟨RX6, "<init>", "(LSpokenDesk$Reader;)V"⟩
abbrev cX6_reached : ByteArray := prog_8_method_2_code
def yX6_reached : MethodName := ⟨RX6, "reached", "()I"⟩
abbrev cX6_parse : ByteArray := prog_8_method_3_code
def yX6_parse : MethodName := ⟨RX6, "parse", "([IILSpokenDesk$Grammar;)I"⟩
abbrev cX6_behindLetters : ByteArray := prog_8_method_4_code
def yX6_behindLetters : MethodName := ⟨RX6, "behindLetters", "([III)I"⟩
abbrev cX6_takeSpelling : ByteArray := prog_8_method_5_code
def yX6_takeSpelling : MethodName := ⟨RX6, "takeSpelling", "([IILSpokenDesk$Grammar;)I"⟩
abbrev cX6_takeSign : ByteArray := prog_8_method_6_code
def yX6_takeSign : MethodName := ⟨RX6, "takeSign", "(ILSpokenDesk$Grammar;)I"⟩
abbrev cX6_takeOpening : ByteArray := prog_8_method_7_code
def yX6_takeOpening : MethodName := ⟨RX6, "takeOpening", "(ZLSpokenDesk$Grammar;)I"⟩
abbrev cX6_takeBar : ByteArray := prog_8_method_8_code
def yX6_takeBar : MethodName := ⟨RX6, "takeBar", "(LSpokenDesk$Grammar;)I"⟩
abbrev cX6_takeClosing : ByteArray := prog_8_method_9_code
def yX6_takeClosing : MethodName := ⟨RX6, "takeClosing", "(ZLSpokenDesk$Grammar;)I"⟩
def RX7 : String := "SpokenDesk$Reader"
def TX7 : u_T := fun k => match k with
  | 0 => ("SpokenDesk$Reader", "rules", "LSpokenDesk$Lexicon;", true)
  | 1 => ("SpokenDesk$Reader", "entries", "LSpokenDesk$Lexicon;", true)
  | _ => ("SpokenDesk$Reader", "result", "LSpokenDesk$Rows;", true)
def tyX7 : Nat → FieldType := fun k => match k with
  | 0 => .object "SpokenDesk$Lexicon"
  | 1 => .object "SpokenDesk$Lexicon"
  | _ => .object "SpokenDesk$Rows"
abbrev wsX70 : List Cond := u_ws RX7 TX7 3
theorem nmX7 : ∀ a, a < 3 → ∀ b, b < 3 → a ≠ b → (TX7 a).2.1 ≠ (TX7 b).2.1 := by decide +kernel
theorem tyX7_ok : ∀ k, k < 3 → parseFieldDescriptor (TX7 k).2.2.1 = some (tyX7 k) := by decide +kernel
abbrev cX7_init : ByteArray := prog_9_method_1_code
def yX7_init : MethodName := ⟨RX7, "<init>", "(LSpokenDesk$Lexicon;LSpokenDesk$Lexicon;)V"⟩
abbrev cX7_result : ByteArray := prog_9_method_2_code
def yX7_result : MethodName := ⟨RX7, "result", "()LSpokenDesk$Rows;"⟩
abbrev cX7_tryText : ByteArray := prog_9_method_3_code
def yX7_tryText : MethodName := ⟨RX7, "tryText", "([III)I"⟩
abbrev cX7_tryRules : ByteArray := prog_9_method_4_code
def yX7_tryRules : MethodName := ⟨RX7, "tryRules", "([III)I"⟩
abbrev cX7_longest : ByteArray := prog_9_method_5_code
def yX7_longest : MethodName := ⟨RX7, "longest", "([III)I"⟩
def RX8 : String := "SpokenDesk$Rows"
def TX8 : u_T := fun k => match k with
  | 0 => ("SpokenDesk$Rows", "width", "I", true)
  | 1 => ("SpokenDesk$Rows", "lengths", "[I", true)
  | _ => ("SpokenDesk$Rows", "sounds", "[I", true)
def tyX8 : Nat → FieldType := fun k => match k with
  | 0 => .int
  | 1 => .array .int
  | _ => .array .int
abbrev wsX80 : List Cond := u_ws RX8 TX8 3
theorem nmX8 : ∀ a, a < 3 → ∀ b, b < 3 → a ≠ b → (TX8 a).2.1 ≠ (TX8 b).2.1 := by decide +kernel
theorem tyX8_ok : ∀ k, k < 3 → parseFieldDescriptor (TX8 k).2.2.1 = some (tyX8 k) := by decide +kernel
abbrev cX8_init : ByteArray := prog_10_method_1_code
def yX8_init : MethodName := ⟨RX8, "<init>", "(II)V"⟩
abbrev cX8_width : ByteArray := prog_10_method_2_code
def yX8_width : MethodName := ⟨RX8, "width", "()I"⟩
abbrev cX8_length : ByteArray := prog_10_method_3_code
def yX8_length : MethodName := ⟨RX8, "length", "(I)I"⟩
abbrev cX8_at : ByteArray := prog_10_method_4_code
def yX8_at : MethodName := ⟨RX8, "at", "(II)I"⟩
abbrev cX8_clear : ByteArray := prog_10_method_5_code
def yX8_clear : MethodName := ⟨RX8, "clear", "(I)V"⟩
abbrev cX8_add : ByteArray := prog_10_method_6_code
def yX8_add : MethodName := ⟨RX8, "add", "(II)Z"⟩
abbrev cX8_join : ByteArray := prog_10_method_7_code
def yX8_join : MethodName := ⟨RX8, "join", "(ILSpokenDesk$Rows;I)V"⟩
abbrev cX8_copy : ByteArray := prog_10_method_8_code
def yX8_copy : MethodName := ⟨RX8, "copy", "(ILSpokenDesk$Rows;I)V"⟩
def RX9 : String := "SpokenDesk$Slots"
def TX9 : u_T := fun k => match k with
  | 0 => ("SpokenDesk$Slots", "words", "LSpokenDesk$Rows;", true)
  | 1 => ("SpokenDesk$Slots", "wordCounts", "[I", true)
  | 2 => ("SpokenDesk$Slots", "gaps", "[I", true)
  | 3 => ("SpokenDesk$Slots", "trial", "[I", true)
  | 4 => ("SpokenDesk$Slots", "choice", "[I", true)
  | 5 => ("SpokenDesk$Slots", "size", "I", false)
  | 6 => ("SpokenDesk$Slots", "worth", "I", false)
  | 7 => ("SpokenDesk$Slots", "known", "Z", false)
  | _ => ("SpokenDesk$Slots", "edition", "I", false)
def tyX9 : Nat → FieldType := fun k => match k with
  | 0 => .object "SpokenDesk$Rows"
  | 1 => .array .int
  | 2 => .array .int
  | 3 => .array .int
  | 4 => .array .int
  | 5 => .int
  | 6 => .int
  | 7 => .boolean
  | _ => .int
abbrev wsX90 : List Cond := u_ws RX9 TX9 9
theorem nmX9 : ∀ a, a < 9 → ∀ b, b < 9 → a ≠ b → (TX9 a).2.1 ≠ (TX9 b).2.1 := by decide +kernel
theorem tyX9_ok : ∀ k, k < 9 → parseFieldDescriptor (TX9 k).2.2.1 = some (tyX9 k) := by decide +kernel
abbrev cX9_init : ByteArray := prog_11_method_1_code
def yX9_init : MethodName := ⟨RX9, "<init>", "()V"⟩
abbrev cX9_size : ByteArray := prog_11_method_2_code
def yX9_size : MethodName := ⟨RX9, "size", "()I"⟩
abbrev cX9_open : ByteArray := prog_11_method_3_code
def yX9_open : MethodName := ⟨RX9, "open", "()I"⟩
abbrev cX9_wordsOf : ByteArray := prog_11_method_4_code
def yX9_wordsOf : MethodName := ⟨RX9, "wordsOf", "(I)I"⟩
abbrev cX9_take : ByteArray := prog_11_method_5_code
def yX9_take : MethodName := ⟨RX9, "take", "(ILSpokenDesk$Rows;)I"⟩
abbrev cX9_worth : ByteArray := prog_11_method_6_code
def yX9_worth : MethodName := ⟨RX9, "worth", "()I"⟩
abbrev cX9_choiceOf : ByteArray := prog_11_method_7_code
def yX9_choiceOf : MethodName := ⟨RX9, "choiceOf", "(I)I"⟩
abbrev cX9_choose : ByteArray := prog_11_method_8_code
def yX9_choose : MethodName := ⟨RX9, "choose", "(LSpokenDesk$Measure;)V"⟩
abbrev cX9_isReady : ByteArray := prog_11_method_9_code
def yX9_isReady : MethodName := ⟨RX9, "isReady", "()Z"⟩
abbrev cX9_measureAll : ByteArray := prog_11_method_10_code
def yX9_measureAll : MethodName := ⟨RX9, "measureAll", "(LSpokenDesk$Measure;)V"⟩
abbrev cX9_measureWord : ByteArray := prog_11_method_11_code
def yX9_measureWord : MethodName := ⟨RX9, "measureWord", "(IILSpokenDesk$Measure;)V"⟩
abbrev cX9_tryFrom : ByteArray := prog_11_method_12_code
def yX9_tryFrom : MethodName := ⟨RX9, "tryFrom", "(II)V"⟩
abbrev cX9_leastWith : ByteArray := prog_11_method_13_code
def yX9_leastWith : MethodName := ⟨RX9, "leastWith", "(III)I"⟩
def RX10 : String := "SpokenDesk$Tape"
def TX10 : u_T := fun k => match k with
  | 0 => ("SpokenDesk$Tape", "bytes", "[I", true)
  | _ => ("SpokenDesk$Tape", "size", "I", false)
def tyX10 : Nat → FieldType := fun k => match k with
  | 0 => .array .int
  | _ => .int
abbrev wsX100 : List Cond := u_ws RX10 TX10 2
theorem nmX10 : ∀ a, a < 2 → ∀ b, b < 2 → a ≠ b → (TX10 a).2.1 ≠ (TX10 b).2.1 := by decide +kernel
theorem tyX10_ok : ∀ k, k < 2 → parseFieldDescriptor (TX10 k).2.2.1 = some (tyX10 k) := by decide +kernel
abbrev cX10_init : ByteArray := prog_12_method_1_code
def yX10_init : MethodName := ⟨RX10, "<init>", "()V"⟩
abbrev cX10_hasRoom : ByteArray := prog_12_method_2_code
def yX10_hasRoom : MethodName := ⟨RX10, "hasRoom", "()Z"⟩
abbrev cX10_put : ByteArray := prog_12_method_3_code
def yX10_put : MethodName := ⟨RX10, "put", "(I)V"⟩
abbrev cX10_size : ByteArray := prog_12_method_4_code
def yX10_size : MethodName := ⟨RX10, "size", "()I"⟩
abbrev cX10_clear : ByteArray := prog_12_method_5_code
def yX10_clear : MethodName := ⟨RX10, "clear", "()V"⟩
abbrev cX10_text : ByteArray := prog_12_method_6_code
def yX10_text : MethodName := ⟨RX10, "text", "()[I"⟩
abbrev cX10_isSpelling : ByteArray := prog_12_method_7_code
def yX10_isSpelling : MethodName := ⟨RX10, "isSpelling", "(II)Z"⟩
def RX11 : String := "SpokenDesk"
def TX11 : u_T := fun k => match k with
  | 0 => ("SpokenDesk", "costs", "LSpokenDesk$Costs;", true)
  | 1 => ("SpokenDesk", "measure", "LSpokenDesk$Measure;", true)
  | 2 => ("SpokenDesk", "pushed", "LSpokenDesk$Rows;", true)
  | 3 => ("SpokenDesk", "tape", "LSpokenDesk$Tape;", true)
  | 4 => ("SpokenDesk", "rules", "LSpokenDesk$Lexicon;", true)
  | 5 => ("SpokenDesk", "entries", "LSpokenDesk$Lexicon;", true)
  | 6 => ("SpokenDesk", "reader", "LSpokenDesk$Reader;", true)
  | 7 => ("SpokenDesk", "parser", "LSpokenDesk$Parser;", true)
  | 8 => ("SpokenDesk", "nearest", "LSpokenDesk$Nearest;", true)
  | 9 => ("SpokenDesk", "hearing", "LSpokenDesk$Hearing;", true)
  | 10 => ("SpokenDesk", "slots", "LSpokenDesk$Slots;", true)
  | 11 => ("SpokenDesk", "spoken", "LSpokenDesk$Grammar;", false)
  | 12 => ("SpokenDesk", "spare", "LSpokenDesk$Grammar;", false)
  | _ => ("SpokenDesk", "faultPlace", "I", false)
def tyX11 : Nat → FieldType := fun k => match k with
  | 0 => .object "SpokenDesk$Costs"
  | 1 => .object "SpokenDesk$Measure"
  | 2 => .object "SpokenDesk$Rows"
  | 3 => .object "SpokenDesk$Tape"
  | 4 => .object "SpokenDesk$Lexicon"
  | 5 => .object "SpokenDesk$Lexicon"
  | 6 => .object "SpokenDesk$Reader"
  | 7 => .object "SpokenDesk$Parser"
  | 8 => .object "SpokenDesk$Nearest"
  | 9 => .object "SpokenDesk$Hearing"
  | 10 => .object "SpokenDesk$Slots"
  | 11 => .object "SpokenDesk$Grammar"
  | 12 => .object "SpokenDesk$Grammar"
  | _ => .int
abbrev wsX110 : List Cond := u_ws RX11 TX11 14
theorem nmX11 : ∀ a, a < 14 → ∀ b, b < 14 → a ≠ b → (TX11 a).2.1 ≠ (TX11 b).2.1 := by decide +kernel
theorem tyX11_ok : ∀ k, k < 14 → parseFieldDescriptor (TX11 k).2.2.1 = some (tyX11 k) := by decide +kernel
abbrev cX11_init : ByteArray := prog_1_method_1_code
def yX11_init : MethodName := ⟨RX11, "<init>", "()V"⟩
abbrev cX11_cost : ByteArray := prog_1_method_2_code
def yX11_cost : MethodName := ⟨RX11, "cost", "(III)I"⟩
abbrev cX11_near : ByteArray := prog_1_method_3_code
def yX11_near : MethodName := ⟨RX11, "near", "(II)I"⟩
abbrev cX11_push : ByteArray := prog_1_method_4_code
def yX11_push : MethodName := ⟨RX11, "push", "(I)I"⟩
abbrev cX11_drop : ByteArray := prog_1_method_5_code
def yX11_drop : MethodName := ⟨RX11, "drop", "()I"⟩
abbrev cX11_hand : ByteArray := prog_1_method_6_code
def yX11_hand : MethodName := ⟨RX11, "hand", "(I)I"⟩
abbrev cX11_feed : ByteArray := prog_1_method_7_code
def yX11_feed : MethodName := ⟨RX11, "feed", "(IIIII)I"⟩
abbrev cX11_rule : ByteArray := prog_1_method_8_code
def yX11_rule : MethodName := ⟨RX11, "rule", "(I)I"⟩
abbrev cX11_book : ByteArray := prog_1_method_9_code
def yX11_book : MethodName := ⟨RX11, "book", "(I)I"⟩
abbrev cX11_read : ByteArray := prog_1_method_10_code
def yX11_read : MethodName := ⟨RX11, "read", "(I)I"⟩
abbrev cX11_grammar : ByteArray := prog_1_method_11_code
def yX11_grammar : MethodName := ⟨RX11, "grammar", "(I)I"⟩
abbrev cX11_place : ByteArray := prog_1_method_12_code
def yX11_place : MethodName := ⟨RX11, "place", "()I"⟩
abbrev cX11_sound : ByteArray := prog_1_method_13_code
def yX11_sound : MethodName := ⟨RX11, "sound", "(II)I"⟩
abbrev cX11_pick : ByteArray := prog_1_method_14_code
def yX11_pick : MethodName := ⟨RX11, "pick", "(II)I"⟩
abbrev cX11_distance : ByteArray := prog_1_method_15_code
def yX11_distance : MethodName := ⟨RX11, "distance", "(II)I"⟩
abbrev cX11_apart : ByteArray := prog_1_method_16_code
def yX11_apart : MethodName := ⟨RX11, "apart", "()I"⟩
abbrev cX11_pair : ByteArray := prog_1_method_17_code
def yX11_pair : MethodName := ⟨RX11, "pair", "(I)I"⟩
abbrev cX11_hear : ByteArray := prog_1_method_18_code
def yX11_hear : MethodName := ⟨RX11, "hear", "()I"⟩
abbrev cX11_heard : ByteArray := prog_1_method_19_code
def yX11_heard : MethodName := ⟨RX11, "heard", "(I)I"⟩
abbrev cX11_again : ByteArray := prog_1_method_20_code
def yX11_again : MethodName := ⟨RX11, "again", "(I)I"⟩
abbrev cX11_slot : ByteArray := prog_1_method_21_code
def yX11_slot : MethodName := ⟨RX11, "slot", "()I"⟩
abbrev cX11_word : ByteArray := prog_1_method_22_code
def yX11_word : MethodName := ⟨RX11, "word", "(II)I"⟩
abbrev cX11_best : ByteArray := prog_1_method_23_code
def yX11_best : MethodName := ⟨RX11, "best", "()I"⟩
abbrev cX11_chosen : ByteArray := prog_1_method_24_code
def yX11_chosen : MethodName := ⟨RX11, "chosen", "(I)I"⟩
abbrev cX11_count : ByteArray := prog_1_method_25_code
def yX11_count : MethodName := ⟨RX11, "count", "(I)I"⟩
abbrev cX11_needSoundOrNothing : ByteArray := prog_1_method_26_code
def yX11_needSoundOrNothing : MethodName := ⟨RX11, "needSoundOrNothing", "(I)V"⟩
abbrev cX11_needBytes : ByteArray := prog_1_method_27_code
def yX11_needBytes : MethodName := ⟨RX11, "needBytes", "(I)V"⟩
abbrev cX11_needCommand : ByteArray := prog_1_method_28_code
def yX11_needCommand : MethodName := ⟨RX11, "needCommand", "(I)V"⟩
abbrev cX11_needSlot : ByteArray := prog_1_method_29_code
def yX11_needSlot : MethodName := ⟨RX11, "needSlot", "(I)V"⟩
abbrev cX11_tell : ByteArray := prog_1_method_30_code
def yX11_tell : MethodName := ⟨RX11, "tell", "(LSpokenDesk$Lexicon;II)I"⟩
abbrev cX11_readTape : ByteArray := prog_1_method_31_code
def yX11_readTape : MethodName := ⟨RX11, "readTape", "(I)I"⟩
abbrev cX11_isLetter : ByteArray := prog_1_method_32_code
def yX11_isLetter : MethodName := ⟨RX11, "isLetter", "(I)Z"⟩
abbrev cX11_codeOf : ByteArray := prog_1_method_33_code
def yX11_codeOf : MethodName := ⟨RX11, "codeOf", "([III)J"⟩
abbrev cX11_longer : ByteArray := prog_1_method_34_code
def yX11_longer : MethodName := ⟨RX11, "longer", "(JI)J"⟩
def RX12 : String := "SpokenDeskModel"
def TX12 : u_T := fun k => match k with
  | 0 => ("SpokenDeskModel", "thrown", "I", false)
  | 1 => ("SpokenDeskModel", "cost", "[I", true)
  | 2 => ("SpokenDeskModel", "nears", "[I", true)
  | 3 => ("SpokenDeskModel", "isNear", "Z", false)
  | 4 => ("SpokenDeskModel", "table", "[I", true)
  | 5 => ("SpokenDeskModel", "hand", "[I", true)
  | 6 => ("SpokenDeskModel", "handMany", "I", false)
  | 7 => ("SpokenDeskModel", "tape", "[B", true)
  | 8 => ("SpokenDeskModel", "taped", "I", false)
  | 9 => ("SpokenDeskModel", "size", "I", false)
  | 10 => ("SpokenDeskModel", "ruleLetters", "[I", true)
  | 11 => ("SpokenDeskModel", "ruleLength", "[I", true)
  | 12 => ("SpokenDeskModel", "ruleSounds", "[I", true)
  | 13 => ("SpokenDeskModel", "ruleMany", "[I", true)
  | 14 => ("SpokenDeskModel", "rules", "I", false)
  | 15 => ("SpokenDeskModel", "bookLetters", "[I", true)
  | 16 => ("SpokenDeskModel", "bookLength", "[I", true)
  | 17 => ("SpokenDeskModel", "bookSounds", "[I", true)
  | 18 => ("SpokenDeskModel", "bookMany", "[I", true)
  | 19 => ("SpokenDeskModel", "books", "I", false)
  | 20 => ("SpokenDeskModel", "said", "[I", true)
  | 21 => ("SpokenDeskModel", "saidMany", "I", false)
  | 22 => ("SpokenDeskModel", "spellSounds", "[I", true)
  | 23 => ("SpokenDeskModel", "spellMany", "[I", true)
  | 24 => ("SpokenDeskModel", "spellPoint", "[I", true)
  | 25 => ("SpokenDeskModel", "spellAlt", "[I", true)
  | 26 => ("SpokenDeskModel", "pointPoint", "[I", true)
  | 27 => ("SpokenDeskModel", "pointAlt", "[I", true)
  | 28 => ("SpokenDeskModel", "pointAlts", "[I", true)
  | 29 => ("SpokenDeskModel", "isMay", "[Z", true)
  | 30 => ("SpokenDeskModel", "spells", "I", false)
  | 31 => ("SpokenDeskModel", "points", "I", false)
  | 32 => ("SpokenDeskModel", "at", "I", false)
  | 33 => ("SpokenDeskModel", "fault", "I", false)
  | 34 => ("SpokenDeskModel", "place", "I", false)
  | 35 => ("SpokenDeskModel", "commands", "I", false)
  | 36 => ("SpokenDeskModel", "pointsThere", "I", false)
  | 37 => ("SpokenDeskModel", "picks", "[I", true)
  | 38 => ("SpokenDeskModel", "sounds", "[I", true)
  | 39 => ("SpokenDeskModel", "soundMany", "[I", true)
  | 40 => ("SpokenDeskModel", "newPicks", "[I", true)
  | 41 => ("SpokenDeskModel", "pick", "[I", true)
  | 42 => ("SpokenDeskModel", "pairOne", "I", false)
  | 43 => ("SpokenDeskModel", "pairOther", "I", false)
  | 44 => ("SpokenDeskModel", "pairFar", "I", false)
  | 45 => ("SpokenDeskModel", "heardFirst", "I", false)
  | 46 => ("SpokenDeskModel", "heardFar", "I", false)
  | 47 => ("SpokenDeskModel", "heardSecond", "I", false)
  | 48 => ("SpokenDeskModel", "heardNext", "I", false)
  | 49 => ("SpokenDeskModel", "wordSounds", "[I", true)
  | 50 => ("SpokenDeskModel", "wordMany", "[I", true)
  | 51 => ("SpokenDeskModel", "slotWords", "[I", true)
  | 52 => ("SpokenDeskModel", "slots", "I", false)
  | 53 => ("SpokenDeskModel", "far", "[I", true)
  | 54 => ("SpokenDeskModel", "choice", "[I", true)
  | _ => ("SpokenDeskModel", "best", "[I", true)
def tyX12 : Nat → FieldType := fun k => match k with
  | 0 => .int
  | 1 => .array .int
  | 2 => .array .int
  | 3 => .boolean
  | 4 => .array .int
  | 5 => .array .int
  | 6 => .int
  | 7 => .array .byte
  | 8 => .int
  | 9 => .int
  | 10 => .array .int
  | 11 => .array .int
  | 12 => .array .int
  | 13 => .array .int
  | 14 => .int
  | 15 => .array .int
  | 16 => .array .int
  | 17 => .array .int
  | 18 => .array .int
  | 19 => .int
  | 20 => .array .int
  | 21 => .int
  | 22 => .array .int
  | 23 => .array .int
  | 24 => .array .int
  | 25 => .array .int
  | 26 => .array .int
  | 27 => .array .int
  | 28 => .array .int
  | 29 => .array .boolean
  | 30 => .int
  | 31 => .int
  | 32 => .int
  | 33 => .int
  | 34 => .int
  | 35 => .int
  | 36 => .int
  | 37 => .array .int
  | 38 => .array .int
  | 39 => .array .int
  | 40 => .array .int
  | 41 => .array .int
  | 42 => .int
  | 43 => .int
  | 44 => .int
  | 45 => .int
  | 46 => .int
  | 47 => .int
  | 48 => .int
  | 49 => .array .int
  | 50 => .array .int
  | 51 => .array .int
  | 52 => .int
  | 53 => .array .int
  | 54 => .array .int
  | _ => .array .int
abbrev wsX120 : List Cond := u_ws RX12 TX12 56
theorem nmX12 : ∀ a, a < 56 → ∀ b, b < 56 → a ≠ b → (TX12 a).2.1 ≠ (TX12 b).2.1 := by decide +kernel
theorem tyX12_ok : ∀ k, k < 56 → parseFieldDescriptor (TX12 k).2.2.1 = some (tyX12 k) := by decide +kernel
abbrev cX12_init : ByteArray := prog_14_method_1_code
def yX12_init : MethodName := ⟨RX12, "<init>", "()V"⟩
abbrev cX12_thrown : ByteArray := prog_14_method_2_code
def yX12_thrown : MethodName := ⟨RX12, "thrown", "()I"⟩
abbrev cX12_bad : ByteArray := prog_14_method_3_code
def yX12_bad : MethodName := ⟨RX12, "bad", "(ZI)Z"⟩
abbrev cX12_isAny : ByteArray := prog_14_method_4_code
def yX12_isAny : MethodName := ⟨RX12, "isAny", "(I)Z"⟩
abbrev cX12_cost : ByteArray := prog_14_method_5_code
def yX12_cost : MethodName := ⟨RX12, "cost", "(III)I"⟩
abbrev cX12_nearAll : ByteArray := prog_14_method_6_code
def yX12_nearAll : MethodName := ⟨RX12, "nearAll", "()V"⟩
abbrev cX12_near : ByteArray := prog_14_method_7_code
def yX12_near : MethodName := ⟨RX12, "near", "(II)I"⟩
abbrev cX12_distanceOf : ByteArray := prog_14_method_8_code
def yX12_distanceOf : MethodName := ⟨RX12, "distanceOf", "([III[III)I"⟩
abbrev cX12_push : ByteArray := prog_14_method_9_code
def yX12_push : MethodName := ⟨RX12, "push", "(I)I"⟩
abbrev cX12_drop : ByteArray := prog_14_method_10_code
def yX12_drop : MethodName := ⟨RX12, "drop", "()I"⟩
abbrev cX12_hand : ByteArray := prog_14_method_11_code
def yX12_hand : MethodName := ⟨RX12, "hand", "(I)I"⟩
abbrev cX12_feed : ByteArray := prog_14_method_12_code
def yX12_feed : MethodName := ⟨RX12, "feed", "(IIIII)I"⟩
abbrev cX12_takes : ByteArray := prog_14_method_13_code
def yX12_takes : MethodName := ⟨RX12, "takes", "(I)Z"⟩
abbrev cX12_isLetter : ByteArray := prog_14_method_14_code
def yX12_isLetter : MethodName := ⟨RX12, "isLetter", "(I)Z"⟩
abbrev cX12_byteAt : ByteArray := prog_14_method_15_code
def yX12_byteAt : MethodName := ⟨RX12, "byteAt", "(I)I"⟩
abbrev cX12_isSpelling : ByteArray := prog_14_method_16_code
def yX12_isSpelling : MethodName := ⟨RX12, "isSpelling", "(I)Z"⟩
abbrev cX12_find : ByteArray := prog_14_method_17_code
def yX12_find : MethodName := ⟨RX12, "find", "([II[II[BII)I"⟩
abbrev cX12_rule : ByteArray := prog_14_method_18_code
def yX12_rule : MethodName := ⟨RX12, "rule", "(I)I"⟩
abbrev cX12_book : ByteArray := prog_14_method_19_code
def yX12_book : MethodName := ⟨RX12, "book", "(I)I"⟩
abbrev cX12_reads : ByteArray := prog_14_method_20_code
def yX12_reads : MethodName := ⟨RX12, "reads", "(II)I"⟩
abbrev cX12_read : ByteArray := prog_14_method_21_code
def yX12_read : MethodName := ⟨RX12, "read", "(I)I"⟩
abbrev cX12_wrong : ByteArray := prog_14_method_22_code
def yX12_wrong : MethodName := ⟨RX12, "wrong", "(II)V"⟩
abbrev cX12_blanks : ByteArray := prog_14_method_23_code
def yX12_blanks : MethodName := ⟨RX12, "blanks", "()V"⟩
abbrev cX12_row : ByteArray := prog_14_method_24_code
def yX12_row : MethodName := ⟨RX12, "row", "(II)V"⟩
abbrev cX12_spelling : ByteArray := prog_14_method_25_code
def yX12_spelling : MethodName := ⟨RX12, "spelling", "(II)V"⟩
abbrev cX12_choice : ByteArray := prog_14_method_26_code
def yX12_choice : MethodName := ⟨RX12, "choice", "(III)V"⟩
abbrev cX12_isCome : ByteArray := prog_14_method_27_code
def yX12_isCome : MethodName := ⟨RX12, "isCome", "(II)Z"⟩
abbrev cX12_most : ByteArray := prog_14_method_28_code
def yX12_most : MethodName := ⟨RX12, "most", "(I)I"⟩
abbrev cX12_lists : ByteArray := prog_14_method_29_code
def yX12_lists : MethodName := ⟨RX12, "lists", "()I"⟩
abbrev cX12_says : ByteArray := prog_14_method_30_code
def yX12_says : MethodName := ⟨RX12, "says", "(II)I"⟩
abbrev cX12_grammar : ByteArray := prog_14_method_31_code
def yX12_grammar : MethodName := ⟨RX12, "grammar", "(I)I"⟩
abbrev cX12_place : ByteArray := prog_14_method_32_code
def yX12_place : MethodName := ⟨RX12, "place", "()I"⟩
abbrev cX12_isCommand : ByteArray := prog_14_method_33_code
def yX12_isCommand : MethodName := ⟨RX12, "isCommand", "(I)Z"⟩
abbrev cX12_sound : ByteArray := prog_14_method_34_code
def yX12_sound : MethodName := ⟨RX12, "sound", "(II)I"⟩
abbrev cX12_pick : ByteArray := prog_14_method_35_code
def yX12_pick : MethodName := ⟨RX12, "pick", "(II)I"⟩
abbrev cX12_between : ByteArray := prog_14_method_36_code
def yX12_between : MethodName := ⟨RX12, "between", "(II)I"⟩
abbrev cX12_distance : ByteArray := prog_14_method_37_code
def yX12_distance : MethodName := ⟨RX12, "distance", "(II)I"⟩
abbrev cX12_pairs : ByteArray := prog_14_method_38_code
def yX12_pairs : MethodName := ⟨RX12, "pairs", "()V"⟩
abbrev cX12_apart : ByteArray := prog_14_method_39_code
def yX12_apart : MethodName := ⟨RX12, "apart", "()I"⟩
abbrev cX12_pair : ByteArray := prog_14_method_40_code
def yX12_pair : MethodName := ⟨RX12, "pair", "(I)I"⟩
abbrev cX12_hear : ByteArray := prog_14_method_41_code
def yX12_hear : MethodName := ⟨RX12, "hear", "()I"⟩
abbrev cX12_asked : ByteArray := prog_14_method_42_code
def yX12_asked : MethodName := ⟨RX12, "asked", "(I)I"⟩
abbrev cX12_heard : ByteArray := prog_14_method_43_code
def yX12_heard : MethodName := ⟨RX12, "heard", "(I)I"⟩
abbrev cX12_again : ByteArray := prog_14_method_44_code
def yX12_again : MethodName := ⟨RX12, "again", "(I)I"⟩
abbrev cX12_slot : ByteArray := prog_14_method_45_code
def yX12_slot : MethodName := ⟨RX12, "slot", "()I"⟩
abbrev cX12_isSlot : ByteArray := prog_14_method_46_code
def yX12_isSlot : MethodName := ⟨RX12, "isSlot", "(I)Z"⟩
abbrev cX12_word : ByteArray := prog_14_method_47_code
def yX12_word : MethodName := ⟨RX12, "word", "(II)I"⟩
abbrev cX12_chooses : ByteArray := prog_14_method_48_code
def yX12_chooses : MethodName := ⟨RX12, "chooses", "()I"⟩
abbrev cX12_best : ByteArray := prog_14_method_49_code
def yX12_best : MethodName := ⟨RX12, "best", "()I"⟩
abbrev cX12_chosen : ByteArray := prog_14_method_50_code
def yX12_chosen : MethodName := ⟨RX12, "chosen", "(I)I"⟩
abbrev cX12_count : ByteArray := prog_14_method_51_code
def yX12_count : MethodName := ⟨RX12, "count", "(I)I"⟩
def RJ9 : String := "java/lang/Math"
def TJ9 : u_T := fun k => match k with
  | _ => ("", "", "", false)
def tyJ9 : Nat → FieldType := fun k => match k with
  | _ => .int
abbrev wsJ90 : List Cond := u_ws RJ9 TJ9 0
theorem nmJ9 : ∀ a, a < 0 → ∀ b, b < 0 → a ≠ b → (TJ9 a).2.1 ≠ (TJ9 b).2.1 := by decide +kernel
theorem tyJ9_ok : ∀ k, k < 0 → parseFieldDescriptor (TJ9 k).2.2.1 = some (tyJ9 k) := by decide +kernel
abbrev cJ9_max_7cf53 : ByteArray := prog_19_method_65_code
def yJ9_max_7cf53 : MethodName := ⟨RJ9, "max", "(II)I"⟩
abbrev cJ9_min_7cf53 : ByteArray := prog_19_method_69_code
def yJ9_min_7cf53 : MethodName := ⟨RJ9, "min", "(II)I"⟩
def RJ0 : String := "java/lang/String"
def TJ0 : u_T := fun k => match k with
  | _ => ("", "", "", false)
def tyJ0 : Nat → FieldType := fun k => match k with
  | _ => .int
abbrev wsJ00 : List Cond := u_ws RJ0 TJ0 0
theorem nmJ0 : ∀ a, a < 0 → ∀ b, b < 0 → a ≠ b → (TJ0 a).2.1 ≠ (TJ0 b).2.1 := by decide +kernel
theorem tyJ0_ok : ∀ k, k < 0 → parseFieldDescriptor (TJ0 k).2.2.1 = some (tyJ0 k) := by decide +kernel
def RJ10 : String := "java/lang/System"
def TJ10 : u_T := fun k => match k with
  | _ => ("", "", "", false)
def tyJ10 : Nat → FieldType := fun k => match k with
  | _ => .int
abbrev wsJ100 : List Cond := u_ws RJ10 TJ10 0
theorem nmJ10 : ∀ a, a < 0 → ∀ b, b < 0 → a ≠ b → (TJ10 a).2.1 ≠ (TJ10 b).2.1 := by decide +kernel
theorem tyJ10_ok : ∀ k, k < 0 → parseFieldDescriptor (TJ10 k).2.2.1 = some (tyJ10 k) := by decide +kernel
def RJ7 : String := "java/util/Arrays"
def TJ7 : u_T := fun k => match k with
  | _ => ("", "", "", false)
def tyJ7 : Nat → FieldType := fun k => match k with
  | _ => .int
abbrev wsJ70 : List Cond := u_ws RJ7 TJ7 0
theorem nmJ7 : ∀ a, a < 0 → ∀ b, b < 0 → a ≠ b → (TJ7 a).2.1 ≠ (TJ7 b).2.1 := by decide +kernel
theorem tyJ7_ok : ∀ k, k < 0 → parseFieldDescriptor (TJ7 k).2.2.1 = some (tyJ7 k) := by decide +kernel
abbrev cJ7_fill_53178 : ByteArray := prog_24_method_103_code
def yJ7_fill_53178 : MethodName := ⟨RJ7, "fill", "([II)V"⟩
def RL : String := "SpokenDeskLaw"
abbrev cL_cost : ByteArray := method_3_code
def yL_cost : MethodName := ⟨RL, "cost", "(LSpokenDesk;III[J)I"⟩
abbrev cL_near : ByteArray := method_4_code
def yL_near : MethodName := ⟨RL, "near", "(LSpokenDesk;II[J)I"⟩
abbrev cL_push : ByteArray := method_5_code
def yL_push : MethodName := ⟨RL, "push", "(LSpokenDesk;I[J)I"⟩
abbrev cL_rule : ByteArray := method_6_code
def yL_rule : MethodName := ⟨RL, "rule", "(LSpokenDesk;I[J)I"⟩
abbrev cL_book : ByteArray := method_7_code
def yL_book : MethodName := ⟨RL, "book", "(LSpokenDesk;I[J)I"⟩
abbrev cL_read : ByteArray := method_8_code
def yL_read : MethodName := ⟨RL, "read", "(LSpokenDesk;I[J)I"⟩
abbrev cL_grammar : ByteArray := method_9_code
def yL_grammar : MethodName := ⟨RL, "grammar", "(LSpokenDesk;I[J)I"⟩
abbrev cL_sound : ByteArray := method_10_code
def yL_sound : MethodName := ⟨RL, "sound", "(LSpokenDesk;II[J)I"⟩
abbrev cL_pick : ByteArray := method_11_code
def yL_pick : MethodName := ⟨RL, "pick", "(LSpokenDesk;II[J)I"⟩
abbrev cL_distance : ByteArray := method_12_code
def yL_distance : MethodName := ⟨RL, "distance", "(LSpokenDesk;II[J)I"⟩
abbrev cL_pair : ByteArray := method_13_code
def yL_pair : MethodName := ⟨RL, "pair", "(LSpokenDesk;I[J)I"⟩
abbrev cL_heard : ByteArray := method_14_code
def yL_heard : MethodName := ⟨RL, "heard", "(LSpokenDesk;I[J)I"⟩
abbrev cL_slot : ByteArray := method_15_code
def yL_slot : MethodName := ⟨RL, "slot", "(LSpokenDesk;[J)I"⟩
abbrev cL_word : ByteArray := method_16_code
def yL_word : MethodName := ⟨RL, "word", "(LSpokenDesk;II[J)I"⟩
abbrev cL_chosen : ByteArray := method_17_code
def yL_chosen : MethodName := ⟨RL, "chosen", "(LSpokenDesk;I[J)I"⟩
abbrev cL_law : ByteArray := code
def yL_law : MethodName := ⟨RL, "law", "([I)Z"⟩
end
section
/-! A PURE MACHINE over whole numbers: values, cells, heap, code; what it means of the JVM's states -/
abbrev PV : Type := Int ⊕ (Int ⊕ Option Nat)
abbrev vI (z : Int) : PV := Sum.inl z
abbrev vL (z : Int) : PV := Sum.inr (Sum.inl z)
abbrev vR (a : Nat) : PV := Sum.inr (Sum.inr (some a))
abbrev vN : PV := Sum.inr (Sum.inr none)
/-- a cell: an array (kind 0 int, 1 byte, 2 boolean, 3 long, 4 the script), its length, what it holds; or an object: its number among the kinds of object, its fields -/
abbrev PC : Type := (Nat × Nat × (Nat → Int)) ⊕ (Nat × List PV)
abbrev PH : Type := Nat × (Nat → Option PC)
abbrev PI : Type := Nat × Int × Nat × Nat × List Nat
abbrev PM : Type := Nat × MethodName × ByteArray × Nat × Option FieldType × List (Nat × Nat × Nat × Nat) × List (Nat × PI × Nat)
abbrev PO : Type := Option PV ⊕ String
abbrev pm_o (m : PM) : Nat := m.1
abbrev pm_y (m : PM) : MethodName := m.2.1
abbrev pm_b (m : PM) : ByteArray := m.2.2.1
abbrev pm_n (m : PM) : Nat := m.2.2.2.1
abbrev pm_r (m : PM) : Option FieldType := m.2.2.2.2.1
abbrev pm_h (m : PM) : List (Nat × Nat × Nat × Nat) := m.2.2.2.2.2.1
abbrev pm_c (m : PM) : List (Nat × PI × Nat) := m.2.2.2.2.2.2
abbrev Cx : Type := Launch × Nat × Nat × Heap × (Nat → ClassId) × (Nat → Nat → Nat) × (Nat → ClassId) × (Nat → Nat) × Nat × (Nat → Int32)
abbrev cx_l (X : Cx) : Launch := X.1
abbrev cx_z (X : Cx) : Nat := X.2.1
abbrev cx_b (X : Cx) : Nat := X.2.2.1
abbrev cx_H (X : Cx) : Heap := X.2.2.2.1
abbrev cx_C (X : Cx) : Nat → ClassId := X.2.2.2.2.1
abbrev cx_I (X : Cx) : Nat → Nat → Nat := X.2.2.2.2.2.1
abbrev cx_A (X : Cx) : Nat → ClassId := X.2.2.2.2.2.2.1
abbrev cx_S (X : Cx) : Nat → Nat := X.2.2.2.2.2.2.2.1
abbrev cx_L (X : Cx) : Nat := X.2.2.2.2.2.2.2.2.1
abbrev cx_x (X : Cx) : Nat → Int32 := X.2.2.2.2.2.2.2.2.2
abbrev iR (z : Int) : Prop := -2147483648 ≤ z ∧ z ≤ 2147483647
abbrev lR (z : Int) : Prop := -9223372036854775808 ≤ z ∧ z ≤ 9223372036854775807
def k_wfV : PV → Prop
  | .inl z => iR z
  | .inr (.inl z) => lR z
  | .inr (.inr _) => True
def k_rg (kd : Nat) (z : Int) : Prop := match kd with
  | 1 => -128 ≤ z ∧ z ≤ 127
  | 2 => z = 0 ∨ z = 1
  | 3 => lR z
  | _ => iR z
def k_wfC : PC → Prop
  | .inl a => a.2.1 < 2147483648 ∧ ∀ j : Nat, j < a.2.1 → k_rg a.1 (a.2.2 j)
  | .inr o => ∀ v ∈ o.2, k_wfV v
def k_ad (X : Cx) : Nat → Nat
  | 0 => cx_b X
  | a + 1 => cx_z X + a
def k_v (X : Cx) : PV → Value
  | .inl z => .int (Int32.ofInt z)
  | .inr (.inl z) => .long (Int64.ofInt z)
  | .inr (.inr none) => .null
  | .inr (.inr (some a)) => .ref (k_ad X a)
def k_cl : List vw_C := [(RX0, TX0, 4), (RX1, TX1, 13), (RX2, TX2, 6), (RX3, TX3, 5), (RX4, TX4, 8), (RX5, TX5, 5), (RX6, TX6, 4), (RX7, TX7, 3), (RX8, TX8, 3), (RX9, TX9, 9), (RX10, TX10, 2), (RX11, TX11, 14), (RX12, TX12, 56)]
def k_R : Nat → String
  | 0 => RX0 | 1 => RX1 | 2 => RX2 | 3 => RX3 | 4 => RX4 | 5 => RX5 | 6 => RX6 | 7 => RX7 | 8 => RX8 | 9 => RX9 | 10 => RX10 | 11 => RX11 | 12 => RX12 | 13 => RL | _ => RJ7
/-- the element's type by the array's kind -/
def k_et : Nat → FieldType
  | 1 => .byte
  | 2 => .boolean
  | 3 => .long
  | _ => .int
def k_ev (kd : Nat) (z : Int) : Value := match kd with
  | 3 => .long (Int64.ofInt z)
  | _ => .int (Int32.ofInt z)
def k_at (X : Cx) (a : Nat) (c : PC) (H : Heap) : Prop := match c with
  | .inl (4, n, f) => a = 0 ∧ n = cx_L X ∧ f = fun j => (cx_x X j).toInt
  | .inl (kd, n, f) => 0 < a ∧ kd < 4 ∧ H[k_ad X a]? = some (arrV (cx_A X kd) n (fun j => k_ev kd (f j)))
  | .inr (ci, fs) => 0 < a ∧ ∃ r : vw_C, k_cl[ci]? = some r ∧ fs.length = r.2.2 ∧ t_OB (k_ad X a) (cx_C X ci) r.2.2 (cx_I X ci) H (vp_V (fs.map (k_v X)))
/-- the JVM's heap H holds the pure heap h; x: nothing else was made -/
def k_Rp (X : Cx) (x : Bool) (h : PH) (H : Heap) : Prop :=
  (∀ q : Nat, q < cx_z X → H[q]? = (cx_H X)[q]?) ∧ 0 < h.1 ∧ cx_z X + h.1 ≤ H.size + 1 ∧ (x = true → H.size + 1 = cx_z X + h.1) ∧
  ∀ (a : Nat) (c : PC), h.2 a = some c → a < h.1 ∧ k_wfC c ∧ k_at X a c H
abbrev k_tys (X : Cx) : List (ClassId × FieldType) := [(cx_A X 0, .int), (cx_A X 1, .byte), (cx_A X 2, .boolean), (cx_A X 3, .long)]
def k_strs : List (Nat × String × Nat) := [(112, "the two are the same", 0), (117, "the cost is not 1 to 100", 1), (127, "no such sound", 2), (199, "no such point", 3), (219, "neither the lower nor the other one", 4), (234, "nothing of this kind was heard", 5), (242, "there are 8 slots", 6), (254, "the slot has 4 words", 7), (271, "neither a sound nor nothing", 8), (273, "the tape has not so many bytes", 9), (277, "no such command", 10), (280, "no such slot", 11)]
def k_nest : List (Nat × Nat × MethodName) := [(11, 36, yX10_init), (11, 73, yX5_init), (11, 80, yX2_init), (11, 87, yX9_init), (11, 94, yX1_init), (6, 56, yX11_isLetter), (7, 27, yX11_codeOf), (7, 75, yX11_longer), (10, 19, yX11_isLetter)]
def k_E : Nat → String
  | 0 => "java/lang/IllegalArgumentException"
  | 1 => "java/lang/IllegalStateException"
  | _ => "java/lang/IndexOutOfBoundsException"
def k_ncs : List (Nat × Nat) := [(0, 1), (0, 2), (1, 0), (1, 2), (2, 0), (2, 1)]
/-- the tables' words that every call keeps -/
def k_tb : List Cond := lw_tbl.filter goodWord
theorem k_in {w : Cond} (i : Nat) (h : lw_tbl[i]? = some w) (hg : goodWord w = true) : w ∈ k_tb := List.mem_filter.mpr ⟨List.mem_of_getElem? h, hg⟩
theorem k_goodin {ws : List Cond} (h : ∀ w ∈ ws, w ∈ k_tb) : GoodIn k_tb ws := fun w hw => ⟨h w hw, good_of_word (List.mem_filter.mp (h w hw)).2⟩
/-- words that move by laws of their own -/
def k_isdc : Cond → Bool
  | .declares _ => true
  | .castable _ _ => true
  | _ => false
def k_dcw : List Cond := lw_tbl.filter k_isdc
/-- what the tables and the heap ahead of the law say, the same for every method -/
def k_Kn (X : Cx) (U : State) : Prop :=
  va_K (cx_C X, cx_I X) k_cl (k_tys X) U ∧ (cx_l X).stackTraces = false ∧
  vx_Zq Bundle.tN "UNASSIGNED_STACK" Bundle.steD (fun q => cx_z X ≤ q) U (cx_H X) ∧ vx_Zq Bundle.tN "SUPPRESSED_SENTINEL" Bundle.listD (fun q => cx_z X ≤ q) U (cx_H X) ∧
  (∀ q ∈ k_strs, vk_R RX11 q.1 q.2.1 (cx_S X q.2.2) U) ∧ (∀ q ∈ k_nest, va_Nw (.methodLinkNest (k_R q.1) q.2.1 q.2.2 RX11) U) ∧
  va_X (cx_b X) (cx_L X) (cx_x X) U (cx_H X) ∧ cx_b X < cx_z X ∧ cx_z X = (cx_H X).size ∧ cx_L X ≤ 3072 ∧
  (∀ q ∈ k_ncs, va_Nc (k_E q.1) (k_E q.2) U) ∧ (∀ w ∈ k_dcw, va_Nw w U)
theorem k_Kn.warm {X : Cx} {s U : State} (hW : s.WarmedH U.vm) (h : k_Kn X s) : k_Kn X U := by
  obtain ⟨h1, h2, h3, h4, h5, h6, h7, h8, h9, h10, h11, h12⟩ := h
  exact ⟨va_K.moved hW.alike h1, h2, vx_Zq.moved hW.alike h3, vx_Zq.moved hW.alike h4, fun q hq => vk_R.warm hW (h5 q hq), fun q hq => va_Nw.warmM hW (h6 q hq), va_X.moved hW.alike h7, h8, h9, h10, fun q hq => va_Nc.moved hW.alike (h11 q hq), fun w hw => by
    have h13 := h12 w hw
    have h14 := (List.mem_filter.mp hw).2
    cases w <;> first | exact va_Nw.warmD hW h13 | exact va_Nw.warmC hW h13 | (simp [k_isdc] at h14)⟩
/-! locals -/
def k_get : List (Option PV) → Nat → Option PV
  | [], _ => none
  | a :: _, 0 => a
  | _ :: t, j + 1 => k_get t j
def k_unl : Option PV → Option PV
  | some (.inr (.inl _)) => none
  | a => a
def k_put : List (Option PV) → Nat → PV → List (Option PV)
  | [], _, _ => []
  | _ :: t, 0, v => some v :: t
  | a :: t, j + 1, v => (if j = 0 then k_unl a else a) :: k_put t j v
def k_clr : List (Option PV) → Nat → List (Option PV)
  | [], _ => []
  | _ :: t, 0 => none :: t
  | a :: t, j + 1 => a :: k_clr t j
def k_lv (X : Cx) : Nat → List (Option PV) → List (Nat × Value)
  | _, [] => []
  | i, none :: t => k_lv X (i + 1) t
  | i, some v :: t => (i, k_v X v) :: k_lv X (i + 1) t
theorem k_lv_mem {X : Cx} : ∀ (ls : List (Option PV)) (i : Nat) (q : Nat × Value), q ∈ k_lv X i ls ↔ ∃ j v, k_get ls j = some v ∧ q = (i + j, k_v X v)
  | [], i, q => by simp [k_lv, k_get]
  | none :: t, i, q => by
    rw [k_lv, k_lv_mem t (i + 1) q]
    constructor
    · rintro ⟨j, v, h1, h2⟩
      exact ⟨j + 1, v, h1, by rw [h2]; congr 1; omega⟩
    · rintro ⟨j, v, h1, h2⟩
      cases j with
      | zero => simp [k_get] at h1
      | succ j => exact ⟨j, v, h1, by rw [h2]; congr 1; omega⟩
  | some w :: t, i, q => by
    rw [k_lv, List.mem_cons, k_lv_mem t (i + 1) q]
    constructor
    · rintro (h | ⟨j, v, h1, h2⟩)
      · exact ⟨0, w, rfl, h⟩
      · exact ⟨j + 1, v, h1, by rw [h2]; congr 1; omega⟩
    · rintro ⟨j, v, h1, h2⟩
      cases j with
      | zero => left; simp [k_get] at h1; subst h1; exact h2
      | succ j => right; exact ⟨j, v, h1, by rw [h2]; congr 1; omega⟩
theorem k_get_mem : ∀ (ls : List (Option PV)) (j : Nat) (v : PV), k_get ls j = some v → some v ∈ ls
  | [], _, _, h => by simp [k_get] at h
  | a :: t, 0, v, h => by simp [k_get] at h; simp [h]
  | a :: t, j + 1, v, h => List.mem_cons_of_mem _ (k_get_mem t j v h)
theorem k_get_put : ∀ (ls : List (Option PV)) (j : Nat) (v : PV) (i : Nat) (w : PV), k_get (k_put ls j v) i = some w → (i = j ∧ w = v) ∨ (i ≠ j ∧ k_get ls i = some w ∧ ¬ (i + 1 = j ∧ ∃ z, w = vL z))
  | [], j, v, i, w, h => by simp [k_put, k_get] at h
  | a :: t, 0, v, 0, w, h => by simp [k_put, k_get] at h; exact Or.inl ⟨rfl, h.symm⟩
  | a :: t, 0, v, i + 1, w, h => Or.inr ⟨by omega, h, by omega⟩
  | a :: t, j + 1, v, 0, w, h => by
    right
    refine ⟨by omega, ?_, ?_⟩
    · by_cases hj : j = 0
      · subst hj
        simp [k_put, k_get] at h ⊢
        unfold k_unl at h
        split at h
        · cases h
        · exact h
      · simpa [k_put, k_get, hj] using h
    · rintro ⟨h1, z, rfl⟩
      have hj : j = 0 := by omega
      subst hj
      simp [k_put, k_get] at h
      unfold k_unl at h
      split at h
      · cases h
      · rename_i h2
        exact h2 z h
  | a :: t, j + 1, v, i + 1, w, h => by
    rcases k_get_put t j v i w h with ⟨h1, h2⟩ | ⟨h1, h2, h3⟩
    · exact Or.inl ⟨by omega, h2⟩
    · exact Or.inr ⟨by omega, h2, fun q => h3 ⟨by omega, q.2⟩⟩
theorem k_get_clr : ∀ (ls : List (Option PV)) (j i : Nat) (w : PV), k_get (k_clr ls j) i = some w → i ≠ j ∧ k_get ls i = some w
  | [], j, i, w, h => by simp [k_clr, k_get] at h
  | a :: t, 0, 0, w, h => by simp [k_clr, k_get] at h
  | a :: t, 0, i + 1, w, h => ⟨by omega, h⟩
  | a :: t, j + 1, 0, w, h => ⟨by omega, h⟩
  | a :: t, j + 1, i + 1, w, h => by
    obtain ⟨h1, h2⟩ := k_get_clr t j i w h
    exact ⟨by omega, h2⟩
theorem k_mem_get : ∀ (ls : List (Option PV)) (v : PV), some v ∈ ls → ∃ j, k_get ls j = some v
  | a :: t, v, h => by
    rcases List.mem_cons.mp h with h | h
    · exact ⟨0, h.symm⟩
    · obtain ⟨j, hj⟩ := k_mem_get t v h
      exact ⟨j + 1, hj⟩
theorem k_v_cat (X : Cx) (v : PV) : (k_v X v).category = 2 ↔ ∃ z, v = vL z := by
  rcases v with z | z | z | z <;> simp [k_v, Value.category]
/-- fewer locals are known -/
def k_le (a b : List (Option PV)) : Prop := ∀ j v, k_get a j = some v → k_get b j = some v
theorem k_lv_le {X : Cx} {lj : Array Slot} {nL : Nat} {a b : List (Option PV)} (h : lv_has lj nL (k_lv X 0 b)) (hab : k_le a b) : lv_has lj nL (k_lv X 0 a) := by
  refine ⟨h.1, h.2.1, fun q hq => ?_⟩
  obtain ⟨j, v, h1, h2⟩ := (k_lv_mem a 0 q).mp hq
  exact h.2.2 q ((k_lv_mem b 0 q).mpr ⟨j, v, hab j v h1, h2⟩)
theorem k_lv_put1 {X : Cx} {lj : Array Slot} {nL j : Nat} {ls : List (Option PV)} {v : PV} (h : lv_has lj nL ((j, k_v X v) :: (k_lv X 0 ls).filter (fun q => !(q.1 == j) && !(q.1 + 1 == j && q.2.category == 2)))) : lv_has lj nL (k_lv X 0 (k_put ls j v)) := by
  refine ⟨h.1, h.2.1, fun q hq => h.2.2 q ?_⟩
  obtain ⟨i, w, h1, rfl⟩ := (k_lv_mem _ 0 q).mp hq
  rcases k_get_put ls j v i w h1 with ⟨rfl, rfl⟩ | ⟨h2, h3, h4⟩
  · simp
  · refine List.mem_cons_of_mem _ (List.mem_filter.mpr ⟨(k_lv_mem ls 0 _).mpr ⟨i, w, h3, rfl⟩, ?_⟩)
    simp only [Nat.zero_add, Bool.and_eq_true, Bool.not_eq_true', beq_eq_false_iff_ne, Bool.and_eq_false_iff]
    refine ⟨h2, ?_⟩
    by_cases h5 : i + 1 = j
    · right
      intro h6
      exact h4 ⟨h5, (k_v_cat X w).mp h6⟩
    · left; exact h5
theorem k_lv_put2 {X : Cx} {lj : Array Slot} {nL j : Nat} {ls : List (Option PV)} {v : PV} (h : lv_has lj nL ((j, k_v X v) :: (k_lv X 0 ls).filter (fun q => !(q.1 == j) && (!(q.1 == j + 1) && !(q.1 + 1 == j && q.2.category == 2))))) : lv_has lj nL (k_lv X 0 (k_clr (k_put ls j v) (j + 1))) := by
  refine ⟨h.1, h.2.1, fun q hq => h.2.2 q ?_⟩
  obtain ⟨i, w, h1, rfl⟩ := (k_lv_mem _ 0 q).mp hq
  obtain ⟨h0, h1⟩ := k_get_clr _ _ _ _ h1
  rcases k_get_put ls j v i w h1 with ⟨rfl, rfl⟩ | ⟨h2, h3, h4⟩
  · simp
  · refine List.mem_cons_of_mem _ (List.mem_filter.mpr ⟨(k_lv_mem ls 0 _).mpr ⟨i, w, h3, rfl⟩, ?_⟩)
    simp only [Nat.zero_add, Bool.and_eq_true, Bool.not_eq_true', beq_eq_false_iff_ne, Bool.and_eq_false_iff]
    refine ⟨h2, h0, ?_⟩
    by_cases h5 : i + 1 = j
    · right
      intro h6
      exact h4 ⟨h5, (k_v_cat X w).mp h6⟩
    · left; exact h5
end
section
/-! the words of the tables by their places (written by wip/whole/gen03.py) -/
def k_pl0 : List Nat := [95, 97, 99, 101]
theorem k_plok0 : (List.range 4).all (fun k => decide (lw_tbl[k_pl0.getD k 0]? = some (u_lay RX0 TX0 k)) && goodWord (u_lay RX0 TX0 k)) = true := by decide +kernel
theorem k_inw0 : ∀ w ∈ u_ws RX0 TX0 4, w ∈ k_tb := by
  intro w hw
  obtain ⟨k, hk, rfl⟩ := List.mem_map.mp hw
  have h := List.all_eq_true.mp k_plok0 k hk
  simp only [Bool.and_eq_true, decide_eq_true_eq] at h
  exact k_in _ h.1 h.2
def k_pl1 : List Nat := [335, 337, 339, 341, 343, 345, 347, 349, 351, 353, 355, 357, 359]
theorem k_plok1 : (List.range 13).all (fun k => decide (lw_tbl[k_pl1.getD k 0]? = some (u_lay RX1 TX1 k)) && goodWord (u_lay RX1 TX1 k)) = true := by decide +kernel
theorem k_inw1 : ∀ w ∈ u_ws RX1 TX1 13, w ∈ k_tb := by
  intro w hw
  obtain ⟨k, hk, rfl⟩ := List.mem_map.mp hw
  have h := List.all_eq_true.mp k_plok1 k hk
  simp only [Bool.and_eq_true, decide_eq_true_eq] at h
  exact k_in _ h.1 h.2
def k_pl2 : List Nat := [265, 267, 269, 271, 273, 275]
theorem k_plok2 : (List.range 6).all (fun k => decide (lw_tbl[k_pl2.getD k 0]? = some (u_lay RX2 TX2 k)) && goodWord (u_lay RX2 TX2 k)) = true := by decide +kernel
theorem k_inw2 : ∀ w ∈ u_ws RX2 TX2 6, w ∈ k_tb := by
  intro w hw
  obtain ⟨k, hk, rfl⟩ := List.mem_map.mp hw
  have h := List.all_eq_true.mp k_plok2 k hk
  simp only [Bool.and_eq_true, decide_eq_true_eq] at h
  exact k_in _ h.1 h.2
def k_pl3 : List Nat := [182, 184, 186, 188, 190]
theorem k_plok3 : (List.range 5).all (fun k => decide (lw_tbl[k_pl3.getD k 0]? = some (u_lay RX3 TX3 k)) && goodWord (u_lay RX3 TX3 k)) = true := by decide +kernel
theorem k_inw3 : ∀ w ∈ u_ws RX3 TX3 5, w ∈ k_tb := by
  intro w hw
  obtain ⟨k, hk, rfl⟩ := List.mem_map.mp hw
  have h := List.all_eq_true.mp k_plok3 k hk
  simp only [Bool.and_eq_true, decide_eq_true_eq] at h
  exact k_in _ h.1 h.2
def k_pl4 : List Nat := [123, 125, 127, 129, 131, 133, 135, 137]
theorem k_plok4 : (List.range 8).all (fun k => decide (lw_tbl[k_pl4.getD k 0]? = some (u_lay RX4 TX4 k)) && goodWord (u_lay RX4 TX4 k)) = true := by decide +kernel
theorem k_inw4 : ∀ w ∈ u_ws RX4 TX4 8, w ∈ k_tb := by
  intro w hw
  obtain ⟨k, hk, rfl⟩ := List.mem_map.mp hw
  have h := List.all_eq_true.mp k_plok4 k hk
  simp only [Bool.and_eq_true, decide_eq_true_eq] at h
  exact k_in _ h.1 h.2
def k_pl5 : List Nat := [242, 244, 246, 248, 250]
theorem k_plok5 : (List.range 5).all (fun k => decide (lw_tbl[k_pl5.getD k 0]? = some (u_lay RX5 TX5 k)) && goodWord (u_lay RX5 TX5 k)) = true := by decide +kernel
theorem k_inw5 : ∀ w ∈ u_ws RX5 TX5 5, w ∈ k_tb := by
  intro w hw
  obtain ⟨k, hk, rfl⟩ := List.mem_map.mp hw
  have h := List.all_eq_true.mp k_plok5 k hk
  simp only [Bool.and_eq_true, decide_eq_true_eq] at h
  exact k_in _ h.1 h.2
def k_pl6 : List Nat := [222, 224, 226, 228]
theorem k_plok6 : (List.range 4).all (fun k => decide (lw_tbl[k_pl6.getD k 0]? = some (u_lay RX6 TX6 k)) && goodWord (u_lay RX6 TX6 k)) = true := by decide +kernel
theorem k_inw6 : ∀ w ∈ u_ws RX6 TX6 4, w ∈ k_tb := by
  intro w hw
  obtain ⟨k, hk, rfl⟩ := List.mem_map.mp hw
  have h := List.all_eq_true.mp k_plok6 k hk
  simp only [Bool.and_eq_true, decide_eq_true_eq] at h
  exact k_in _ h.1 h.2
def k_pl7 : List Nat := [205, 207, 209]
theorem k_plok7 : (List.range 3).all (fun k => decide (lw_tbl[k_pl7.getD k 0]? = some (u_lay RX7 TX7 k)) && goodWord (u_lay RX7 TX7 k)) = true := by decide +kernel
theorem k_inw7 : ∀ w ∈ u_ws RX7 TX7 3, w ∈ k_tb := by
  intro w hw
  obtain ⟨k, hk, rfl⟩ := List.mem_map.mp hw
  have h := List.all_eq_true.mp k_plok7 k hk
  simp only [Bool.and_eq_true, decide_eq_true_eq] at h
  exact k_in _ h.1 h.2
def k_pl8 : List Nat := [149, 151, 153]
theorem k_plok8 : (List.range 3).all (fun k => decide (lw_tbl[k_pl8.getD k 0]? = some (u_lay RX8 TX8 k)) && goodWord (u_lay RX8 TX8 k)) = true := by decide +kernel
theorem k_inw8 : ∀ w ∈ u_ws RX8 TX8 3, w ∈ k_tb := by
  intro w hw
  obtain ⟨k, hk, rfl⟩ := List.mem_map.mp hw
  have h := List.all_eq_true.mp k_plok8 k hk
  simp only [Bool.and_eq_true, decide_eq_true_eq] at h
  exact k_in _ h.1 h.2
def k_pl9 : List Nat := [295, 297, 299, 301, 303, 305, 307, 309, 311]
theorem k_plok9 : (List.range 9).all (fun k => decide (lw_tbl[k_pl9.getD k 0]? = some (u_lay RX9 TX9 k)) && goodWord (u_lay RX9 TX9 k)) = true := by decide +kernel
theorem k_inw9 : ∀ w ∈ u_ws RX9 TX9 9, w ∈ k_tb := by
  intro w hw
  obtain ⟨k, hk, rfl⟩ := List.mem_map.mp hw
  have h := List.all_eq_true.mp k_plok9 k hk
  simp only [Bool.and_eq_true, decide_eq_true_eq] at h
  exact k_in _ h.1 h.2
def k_pl10 : List Nat := [164, 166]
theorem k_plok10 : (List.range 2).all (fun k => decide (lw_tbl[k_pl10.getD k 0]? = some (u_lay RX10 TX10 k)) && goodWord (u_lay RX10 TX10 k)) = true := by decide +kernel
theorem k_inw10 : ∀ w ∈ u_ws RX10 TX10 2, w ∈ k_tb := by
  intro w hw
  obtain ⟨k, hk, rfl⟩ := List.mem_map.mp hw
  have h := List.all_eq_true.mp k_plok10 k hk
  simp only [Bool.and_eq_true, decide_eq_true_eq] at h
  exact k_in _ h.1 h.2
def k_pl11 : List Nat := [377, 379, 381, 383, 385, 387, 389, 391, 393, 395, 397, 399, 401, 403]
theorem k_plok11 : (List.range 14).all (fun k => decide (lw_tbl[k_pl11.getD k 0]? = some (u_lay RX11 TX11 k)) && goodWord (u_lay RX11 TX11 k)) = true := by decide +kernel
theorem k_inw11 : ∀ w ∈ u_ws RX11 TX11 14, w ∈ k_tb := by
  intro w hw
  obtain ⟨k, hk, rfl⟩ := List.mem_map.mp hw
  have h := List.all_eq_true.mp k_plok11 k hk
  simp only [Bool.and_eq_true, decide_eq_true_eq] at h
  exact k_in _ h.1 h.2
def k_pl12 : List Nat := [1139, 1141, 1143, 1145, 1147, 1149, 1151, 1153, 1155, 1157, 1159, 1161, 1163, 1165, 1167, 1169, 1171, 1173, 1175, 1177, 1179, 1181, 1183, 1185, 1187, 1189, 1191, 1193, 1195, 1197, 1199, 1201, 1203, 1205, 1207, 1209, 1211, 1213, 1215, 1217, 1219, 1221, 1223, 1225, 1227, 1229, 1231, 1233, 1235, 1237, 1239, 1241, 1243, 1245, 1247, 1249]
theorem k_plok12 : (List.range 56).all (fun k => decide (lw_tbl[k_pl12.getD k 0]? = some (u_lay RX12 TX12 k)) && goodWord (u_lay RX12 TX12 k)) = true := by decide +kernel
theorem k_inw12 : ∀ w ∈ u_ws RX12 TX12 56, w ∈ k_tb := by
  intro w hw
  obtain ⟨k, hk, rfl⟩ := List.mem_map.mp hw
  have h := List.all_eq_true.mp k_plok12 k hk
  simp only [Bool.and_eq_true, decide_eq_true_eq] at h
  exact k_in _ h.1 h.2
def k_ty : Nat → Nat → FieldType
  | 0 => tyX0
  | 1 => tyX1
  | 2 => tyX2
  | 3 => tyX3
  | 4 => tyX4
  | 5 => tyX5
  | 6 => tyX6
  | 7 => tyX7
  | 8 => tyX8
  | 9 => tyX9
  | 10 => tyX10
  | 11 => tyX11
  | 12 => tyX12
  | _ => tyX0
theorem k_cls {ci : Nat} {r : vw_C} (h : k_cl[ci]? = some r) : (∀ w ∈ u_ws r.1 r.2.1 r.2.2, w ∈ k_tb) ∧ (∀ k, k < r.2.2 → parseFieldDescriptor (r.2.1 k).2.2.1 = some (k_ty ci k)) ∧ (∀ a, a < r.2.2 → ∀ b, b < r.2.2 → a ≠ b → (r.2.1 a).2.1 ≠ (r.2.1 b).2.1) ∧ r.1 = k_R ci := by
  match ci, h with
  | 0, h => cases h; exact ⟨k_inw0, tyX0_ok, nmX0, rfl⟩
  | 1, h => cases h; exact ⟨k_inw1, tyX1_ok, nmX1, rfl⟩
  | 2, h => cases h; exact ⟨k_inw2, tyX2_ok, nmX2, rfl⟩
  | 3, h => cases h; exact ⟨k_inw3, tyX3_ok, nmX3, rfl⟩
  | 4, h => cases h; exact ⟨k_inw4, tyX4_ok, nmX4, rfl⟩
  | 5, h => cases h; exact ⟨k_inw5, tyX5_ok, nmX5, rfl⟩
  | 6, h => cases h; exact ⟨k_inw6, tyX6_ok, nmX6, rfl⟩
  | 7, h => cases h; exact ⟨k_inw7, tyX7_ok, nmX7, rfl⟩
  | 8, h => cases h; exact ⟨k_inw8, tyX8_ok, nmX8, rfl⟩
  | 9, h => cases h; exact ⟨k_inw9, tyX9_ok, nmX9, rfl⟩
  | 10, h => cases h; exact ⟨k_inw10, tyX10_ok, nmX10, rfl⟩
  | 11, h => cases h; exact ⟨k_inw11, tyX11_ok, nmX11, rfl⟩
  | 12, h => cases h; exact ⟨k_inw12, tyX12_ok, nmX12, rfl⟩
  | ci + 13, h => simp [k_cl] at h
def k_fl : List (Nat × Nat × Nat × Nat × Nat) := [(0, 11, 0, 0, 91), (0, 15, 0, 1, 92), (0, 24, 0, 3, 94), (0, 28, 0, 2, 93), (1, 14, 1, 0, 322), (1, 20, 1, 1, 323), (1, 24, 1, 2, 324), (1, 27, 1, 3, 325), (1, 30, 1, 4, 326), (1, 33, 1, 5, 327), (1, 36, 1, 6, 328), (1, 40, 1, 7, 329), (1, 43, 1, 8, 330), (1, 46, 1, 9, 331), (1, 49, 1, 10, 332), (1, 53, 1, 11, 333), (1, 56, 1, 12, 334), (2, 9, 2, 0, 259), (2, 15, 2, 2, 261), (2, 19, 2, 3, 262), (2, 22, 2, 4, 263), (2, 25, 2, 5, 264), (2, 28, 2, 1, 260), (3, 9, 3, 0, 177), (3, 15, 3, 1, 178), (3, 19, 3, 2, 179), (3, 28, 3, 3, 180), (3, 32, 3, 4, 181), (4, 9, 4, 0, 115), (4, 15, 4, 1, 116), (4, 18, 4, 2, 117), (4, 21, 4, 3, 118), (4, 31, 4, 4, 119), (4, 53, 4, 5, 120), (4, 60, 4, 6, 121), (4, 63, 4, 7, 122), (5, 9, 5, 2, 239), (5, 15, 5, 3, 240), (5, 18, 5, 4, 241), (5, 21, 5, 0, 237), (5, 25, 5, 1, 238), (6, 9, 6, 0, 218), (6, 15, 6, 3, 221), (6, 24, 6, 1, 219), (6, 27, 6, 2, 220), (7, 14, 7, 2, 204), (7, 20, 7, 0, 202), (7, 24, 7, 1, 203), (8, 9, 8, 0, 146), (8, 15, 8, 1, 147), (8, 19, 8, 2, 148), (9, 16, 9, 0, 286), (9, 20, 9, 1, 287), (9, 24, 9, 2, 288), (9, 27, 9, 3, 289), (9, 30, 9, 4, 290), (9, 33, 9, 6, 292), (9, 37, 9, 5, 291), (9, 40, 9, 7, 293), (9, 48, 9, 8, 294), (10, 9, 10, 0, 162), (10, 15, 10, 1, 163), (11, 10, 11, 0, 363), (11, 21, 11, 1, 364), (11, 30, 11, 2, 365), (11, 37, 11, 3, 366), (11, 46, 11, 4, 367), (11, 50, 11, 5, 368), (11, 58, 11, 6, 369), (11, 67, 11, 7, 370), (11, 74, 11, 8, 371), (11, 81, 11, 9, 372), (11, 88, 11, 10, 373), (11, 95, 11, 11, 374), (11, 99, 11, 12, 375), (11, 102, 11, 13, 376), (12, 7, 12, 1, 1084), (12, 13, 12, 2, 1085), (12, 16, 12, 4, 1087), (12, 19, 12, 5, 1088), (12, 22, 12, 7, 1090), (12, 26, 12, 10, 1093), (12, 29, 12, 11, 1094), (12, 32, 12, 12, 1095), (12, 35, 12, 13, 1096), (12, 38, 12, 15, 1098), (12, 41, 12, 16, 1099), (12, 44, 12, 17, 1100), (12, 47, 12, 18, 1101), (12, 50, 12, 20, 1103), (12, 53, 12, 22, 1105), (12, 56, 12, 23, 1106), (12, 59, 12, 24, 1107), (12, 62, 12, 25, 1108), (12, 65, 12, 26, 1109), (12, 68, 12, 27, 1110), (12, 71, 12, 28, 1111), (12, 74, 12, 29, 1112), (12, 78, 12, 34, 1117), (12, 82, 12, 37, 1120), (12, 85, 12, 38, 1121), (12, 88, 12, 39, 1122), (12, 91, 12, 40, 1123), (12, 94, 12, 41, 1124), (12, 97, 12, 45, 1128), (12, 100, 12, 49, 1132), (12, 103, 12, 50, 1133), (12, 106, 12, 51, 1134), (12, 109, 12, 53, 1136), (12, 112, 12, 54, 1137), (12, 115, 12, 55, 1138), (12, 118, 12, 0, 1083), (12, 129, 12, 3, 1086), (12, 137, 12, 6, 1089), (12, 140, 12, 8, 1091), (12, 143, 12, 9, 1092), (12, 159, 12, 14, 1097), (12, 166, 12, 19, 1102), (12, 169, 12, 21, 1104), (12, 176, 12, 33, 1116), (12, 179, 12, 32, 1115), (12, 195, 12, 30, 1113), (12, 198, 12, 31, 1114), (12, 218, 12, 35, 1118), (12, 221, 12, 36, 1119), (12, 234, 12, 42, 1125), (12, 237, 12, 43, 1126), (12, 240, 12, 44, 1127), (12, 246, 12, 46, 1129), (12, 249, 12, 47, 1130), (12, 252, 12, 48, 1131), (12, 258, 12, 52, 1135)]
theorem k_flok : k_fl.all (fun q => match k_cl[q.2.2.1]? with | some r => decide (q.2.2.2.1 < r.2.2) && decide (lw_tbl[q.2.2.2.2]? = some (.fieldLink (k_R q.1) q.2.1 (r.2.1 q.2.2.2.1).1 (r.2.1 q.2.2.2.1).2.1 (r.2.1 q.2.2.2.1).2.2.1)) | none => false) = true := by decide +kernel
def k_isfl (oi idx ci k : Nat) : Bool := k_fl.any (fun q => q.1 == oi && q.2.1 == idx && q.2.2.1 == ci && q.2.2.2.1 == k)
theorem k_isfl_ok {oi idx ci k : Nat} (h : k_isfl oi idx ci k = true) : ∃ r : vw_C, k_cl[ci]? = some r ∧ k < r.2.2 ∧ Cond.fieldLink (k_R oi) idx (r.2.1 k).1 (r.2.1 k).2.1 (r.2.1 k).2.2.1 ∈ k_tb := by
  obtain ⟨q, hq, h⟩ := List.any_eq_true.mp h
  simp only [Bool.and_eq_true, beq_iff_eq] at h
  obtain ⟨⟨⟨rfl, rfl⟩, rfl⟩, rfl⟩ := h
  have h2 := List.all_eq_true.mp k_flok q hq
  split at h2
  · rename_i r hr
    simp only [Bool.and_eq_true, decide_eq_true_eq] at h2
    exact ⟨r, hr, h2.1, k_in _ h2.2 rfl⟩
  · cases h2
def k_nw : List (Nat × Nat × Nat × Nat × Nat × Nat) := [(1, 9, 8, 320, 141, 56), (3, 23, 8, 175, 141, 56), (7, 9, 8, 200, 141, 56), (9, 9, 8, 284, 141, 56), (11, 7, 0, 82, 83, 53), (11, 16, 4, 105, 106, 55), (11, 25, 8, 140, 141, 56), (11, 34, 10, 156, 157, 57), (11, 41, 3, 169, 170, 58), (11, 53, 7, 194, 195, 59), (11, 62, 6, 212, 213, 60), (11, 71, 5, 231, 232, 61), (11, 78, 2, 253, 254, 62), (11, 85, 9, 278, 279, 63), (11, 92, 1, 314, 315, 64), (13, 8, 11, 74, 75, 52), (13, 65, 12, 1077, 1078, 65)]
theorem k_nwok : k_nw.all (fun q => match k_cl[q.2.2.1]? with | some r => decide (lw_tbl[q.2.2.2.1]? = some (.classLink (k_R q.1) q.2.1 r.1)) && decide (lw_tbl[q.2.2.2.2.1]? = some (.instantiable r.1 r.2.2)) && decide (lw_tbl[q.2.2.2.2.2]? = some (.initialized r.1)) | none => false) = true := by decide +kernel
def k_isnw (oi idx ci : Nat) : Bool := k_nw.any (fun q => q.1 == oi && q.2.1 == idx && q.2.2.1 == ci)
theorem k_isnw_ok {oi idx ci : Nat} (h : k_isnw oi idx ci = true) : ∃ r : vw_C, k_cl[ci]? = some r ∧ Cond.classLink (k_R oi) idx r.1 ∈ k_tb ∧ Cond.instantiable r.1 r.2.2 ∈ k_tb ∧ Cond.initialized r.1 ∈ k_tb := by
  obtain ⟨q, hq, h⟩ := List.any_eq_true.mp h
  simp only [Bool.and_eq_true, beq_iff_eq] at h
  obtain ⟨⟨rfl, rfl⟩, rfl⟩ := h
  have h2 := List.all_eq_true.mp k_nwok q hq
  split at h2
  · rename_i r hr
    simp only [Bool.and_eq_true, decide_eq_true_eq] at h2
    exact ⟨r, hr, k_in _ h2.1.1 rfl, k_in _ h2.1.2 rfl, k_in _ h2.2 rfl⟩
  · cases h2
theorem k_ac0 : Cond.arrayClass .int ∈ k_tb := k_in 104 (by decide +kernel) rfl
theorem k_ac1 : Cond.arrayClass .byte ∈ k_tb := k_in 684 (by decide +kernel) rfl
theorem k_ac2 : Cond.arrayClass .boolean ∈ k_tb := k_in 362 (by decide +kernel) rfl
theorem k_ac3 : Cond.arrayClass .long ∈ k_tb := k_in 193 (by decide +kernel) rfl
def k_ct : List (Nat × Nat × Int × Nat) := [(2, 50, 1000000, 524), (4, 70, 1000000, 503), (5, 33, 1000000, 462), (9, 70, 1000000, 577), (11, 208, 1000000, 990), (12, 136, 1000000, 1393)]
theorem k_ctok : k_ct.all (fun q => decide (lw_tbl[q.2.2.2]? = some (.constant (k_R q.1) q.2.1 (Int32.ofInt q.2.2.1)))) = true := by decide +kernel
def k_isct (oi idx : Nat) (z : Int) : Bool := k_ct.any (fun q => q.1 == oi && q.2.1 == idx && q.2.2.1 == z)
theorem k_isct_ok {oi idx : Nat} {z : Int} (h : k_isct oi idx z = true) : Cond.constant (k_R oi) idx (Int32.ofInt z) ∈ k_tb := by
  obtain ⟨q, hq, h⟩ := List.any_eq_true.mp h
  simp only [Bool.and_eq_true, beq_iff_eq] at h
  obtain ⟨⟨rfl, rfl⟩, rfl⟩ := h
  have h2 := List.all_eq_true.mp k_ctok q hq
  simp only [decide_eq_true_eq] at h2
  exact k_in _ h2 rfl
def k_mn : List (Nat × Nat × Nat) := [(4, 47, 491), (6, 31, 854), (7, 72, 820), (8, 22, 781), (9, 96, 588), (11, 302, 757)]
theorem k_mnok : k_mn.all (fun q => decide (lw_tbl[q.2.2]? = some (.methodLink (k_R q.1) q.2.1 Lib.Math.min.name))) = true := by decide +kernel
def k_ismn (oi idx : Nat) : Bool := k_mn.any (fun q => q.1 == oi && q.2.1 == idx)
theorem k_ismn_ok {oi idx : Nat} (h : k_ismn oi idx = true) : Cond.methodLink (k_R oi) idx Lib.Math.min.name ∈ k_tb := by
  obtain ⟨q, hq, h⟩ := List.any_eq_true.mp h
  simp only [Bool.and_eq_true, beq_iff_eq] at h
  obtain ⟨rfl, rfl⟩ := h
  have h2 := List.all_eq_true.mp k_mnok q hq
  simp only [decide_eq_true_eq] at h2
  exact k_in _ h2 rfl
def k_mx : List (Nat × Nat × Nat) := [(6, 49, 910), (7, 66, 821), (11, 307, 758)]
theorem k_mxok : k_mx.all (fun q => decide (lw_tbl[q.2.2]? = some (.methodLink (k_R q.1) q.2.1 Lib.Math.max.name))) = true := by decide +kernel
def k_ismx (oi idx : Nat) : Bool := k_mx.any (fun q => q.1 == oi && q.2.1 == idx)
theorem k_ismx_ok {oi idx : Nat} (h : k_ismx oi idx = true) : Cond.methodLink (k_R oi) idx Lib.Math.max.name ∈ k_tb := by
  obtain ⟨q, hq, h⟩ := List.any_eq_true.mp h
  simp only [Bool.and_eq_true, beq_iff_eq] at h
  obtain ⟨rfl, rfl⟩ := h
  have h2 := List.all_eq_true.mp k_mxok q hq
  simp only [decide_eq_true_eq] at h2
  exact k_in _ h2 rfl
def k_cp : List (Nat × Nat × Nat) := [(0, 35, 483), (1, 75, 923), (8, 28, 782), (9, 86, 583)]
theorem k_cpok : k_cp.all (fun q => decide (lw_tbl[q.2.2]? = some (.methodLink (k_R q.1) q.2.1 arraycopyName))) = true := by decide +kernel
def k_iscp (oi idx : Nat) : Bool := k_cp.any (fun q => q.1 == oi && q.2.1 == idx)
theorem k_iscp_ok {oi idx : Nat} (h : k_iscp oi idx = true) : Cond.methodLink (k_R oi) idx arraycopyName ∈ k_tb := by
  obtain ⟨q, hq, h⟩ := List.any_eq_true.mp h
  simp only [Bool.and_eq_true, beq_iff_eq] at h
  obtain ⟨rfl, rfl⟩ := h
  have h2 := List.all_eq_true.mp k_cpok q hq
  simp only [decide_eq_true_eq] at h2
  exact k_in _ h2 rfl
def k_oi : List (Nat × Nat × Nat) := [(0, 3, 87), (1, 3, 319), (2, 3, 258), (3, 3, 174), (4, 3, 110), (5, 3, 236), (6, 3, 217), (7, 3, 199), (8, 3, 145), (9, 3, 283), (10, 3, 161), (11, 1, 79), (12, 1, 1082)]
theorem k_oiok : k_oi.all (fun q => decide (lw_tbl[q.2.2]? = some (.methodLink (k_R q.1) q.2.1 Lib.objectInit))) = true := by decide +kernel
def k_isoi (oi idx : Nat) : Bool := k_oi.any (fun q => q.1 == oi && q.2.1 == idx)
theorem k_isoi_ok {oi idx : Nat} (h : k_isoi oi idx = true) : Cond.methodLink (k_R oi) idx Lib.objectInit ∈ k_tb := by
  obtain ⟨q, hq, h⟩ := List.any_eq_true.mp h
  simp only [Bool.and_eq_true, beq_iff_eq] at h
  obtain ⟨rfl, rfl⟩ := h
  have h2 := List.all_eq_true.mp k_oiok q hq
  simp only [decide_eq_true_eq] at h2
  exact k_in _ h2 rfl
theorem k_wmn1 : Cond.static Lib.Math.min.name ∈ k_tb := k_in 492 (by decide +kernel) (by decide +kernel)
theorem k_wmx1 : Cond.static Lib.Math.max.name ∈ k_tb := k_in 759 (by decide +kernel) (by decide +kernel)
theorem k_wm0 : Cond.initialized "java/lang/Math" ∈ k_tb := k_in 71 (by decide +kernel) (by decide +kernel)
theorem k_wmmin2 : Cond.code Lib.Math.min.name Lib.Math.min.code 2 (some .int) ∈ k_tb := k_in 493 (by decide +kernel) (by decide +kernel)
theorem k_wmmax2 : Cond.code Lib.Math.max.name Lib.Math.max.code 2 (some .int) ∈ k_tb := k_in 760 (by decide +kernel) (by decide +kernel)
theorem k_wc1 : Cond.native arraycopyName ∈ k_tb := k_in 485 (by decide +kernel) (by decide +kernel)
theorem k_wc2 : Cond.static arraycopyName ∈ k_tb := k_in 484 (by decide +kernel) (by decide +kernel)
theorem k_wc3 : Cond.initialized "java/lang/System" ∈ k_tb := k_in 70 (by decide +kernel) (by decide +kernel)
theorem k_wo1 : Cond.instanceMethod Lib.objectInit ∈ k_tb := k_in 80 (by decide +kernel) (by decide +kernel)
theorem k_wo2 : Cond.code Lib.objectInit ⟨#[0xb1]⟩ 1 none ∈ k_tb := k_in 81 (by decide +kernel) (by decide +kernel)
end
section
/-! the JVM's ints and longs as whole numbers -/
theorem n_t {z : Int} (h : iR z) : (Int32.ofInt z).toInt = z := Int32.toInt_ofInt_of_le (by have := h.1; omega) (by have := h.2; omega)
theorem n_tL {z : Int} (h : lR z) : (Int64.ofInt z).toInt = z := Int64.toInt_ofInt_of_le (by have := h.1; omega) (by have := h.2; omega)
theorem n_lt {x y : Int} (hx : iR x) (hy : iR y) : Int32.ofInt x < Int32.ofInt y ↔ x < y := by rw [Int32.lt_iff_toInt_lt, n_t hx, n_t hy]
theorem n_le {x y : Int} (hx : iR x) (hy : iR y) : Int32.ofInt x ≤ Int32.ofInt y ↔ x ≤ y := by rw [Int32.le_iff_toInt_le, n_t hx, n_t hy]
theorem n_eq {x y : Int} (hx : iR x) (hy : iR y) : Int32.ofInt x = Int32.ofInt y ↔ x = y := by rw [← Int32.toInt_inj, n_t hx, n_t hy]
theorem n_0 : Int32.ofInt 0 = 0 := by decide +kernel
theorem n_r0 : iR 0 := by decide
theorem n_lt0 {x : Int} (hx : iR x) : Int32.ofInt x < 0 ↔ x < 0 := by rw [← n_0, n_lt hx n_r0]
theorem n_le0 {x : Int} (hx : iR x) : Int32.ofInt x ≤ 0 ↔ x ≤ 0 := by rw [← n_0, n_le hx n_r0]
theorem n_ge0 {x : Int} (hx : iR x) : 0 ≤ Int32.ofInt x ↔ 0 ≤ x := by rw [← n_0, n_le n_r0 hx]
theorem n_gt0 {x : Int} (hx : iR x) : 0 < Int32.ofInt x ↔ 0 < x := by rw [← n_0, n_lt n_r0 hx]
theorem n_eq0 {x : Int} (hx : iR x) : Int32.ofInt x = 0 ↔ x = 0 := by rw [← n_0, n_eq hx n_r0]
theorem n_cl {x : Int} (hx : iR x) : (Int32.ofInt x).toNatClampNeg = x.toNat := by rw [← Int32.toNat_toInt, n_t hx]
theorem n_nI (n : Nat) : Int32.ofInt (n : Int) = nI n := Int32.ofInt_eq_ofNat
theorem n_of (x : Int32) : Int32.ofInt x.toInt = x := Int32.ofInt_toInt x
theorem n_rng (x : Int32) : iR x.toInt := ⟨by have := x.le_toInt; omega, by have := x.toInt_lt; omega⟩
theorem n_pos {x : Int} (h : 0 ≤ x) : Int32.ofInt x = nI x.toNat := by
  rw [← n_nI]; congr 1; omega
theorem n_in {x : Int} {n : Nat} (hx : iR x) (h0 : 0 ≤ x) (h1 : x < n) : ¬ (Int32.ofInt x < 0 ∨ n ≤ (Int32.ofInt x).toNatClampNeg) := by
  rw [n_lt0 hx, n_cl hx]; omega
theorem n_div {x y : Int} (hx : iR x) (hy : iR y) (h0 : 0 ≤ x) (h1 : 0 < y) : Int32.ofInt x / Int32.ofInt y = Int32.ofInt (x / y) := by
  obtain ⟨a, rfl⟩ := Int.eq_ofNat_of_zero_le h0
  obtain ⟨b, rfl⟩ := Int.eq_ofNat_of_zero_le (Int.le_of_lt h1)
  have := hx.2; have := hy.2
  rw [n_nI, n_nI, pk_div (by omega) (by omega) (by omega), ← n_nI]
  congr 1
theorem n_rem {x y : Int} (hx : iR x) (hy : iR y) (h0 : 0 ≤ x) (h1 : 0 < y) : Int32.ofInt x - Int32.ofInt x / Int32.ofInt y * Int32.ofInt y = Int32.ofInt (x % y) := by
  obtain ⟨a, rfl⟩ := Int.eq_ofNat_of_zero_le h0
  obtain ⟨b, rfl⟩ := Int.eq_ofNat_of_zero_le (Int.le_of_lt h1)
  have := hx.2; have := hy.2
  rw [n_nI, n_nI, pk_rem (by omega) (by omega) (by omega), ← n_nI]
  congr 1
theorem n_bv (x : Int) : ((Int32.ofInt x).toBitVec.toNat : Int) = x % 4294967296 := by
  rw [Int32.toBitVec_ofInt, BitVec.toNat_ofInt]
  omega
theorem n_and {x : Int} (k : Nat) {m : Int} (hm : (Int32.ofInt m).toBitVec.toNat = 2 ^ k - 1) (hk : k ≤ 31) : Int32.ofInt x &&& Int32.ofInt m = Int32.ofInt (x % 2 ^ k) := by
  rw [pk_and _ k hm, ← n_nI]
  congr 1
  have h := n_bv x
  rw [Int.natCast_emod, h]
  have h2 : ((2 ^ k : Nat) : Int) = (2 : Int) ^ k := by simp
  rw [h2]
  apply Int.emod_emod_of_dvd
  have h3 : (4294967296 : Int) = 2 ^ k * 2 ^ (32 - k) := by
    rw [← Int.pow_add]
    rw [show k + (32 - k) = 32 by omega]
    rfl
  rw [h3]
  exact Int.dvd_mul_right _ _
theorem n_and255 (x : Int) : Int32.ofInt x &&& Int32.ofInt 255 = Int32.ofInt (x % 256) := n_and 8 (by decide +kernel) (by decide)
theorem n_and31 (x : Int) : Int32.ofInt x &&& Int32.ofInt 31 = Int32.ofInt (x % 32) := n_and 5 (by decide +kernel) (by decide)
theorem n_sl : ∀ n, n < 32 → ((nI n &&& 31).toBitVec.smod 32).toNat = n := by decide +kernel
theorem n_su : ∀ n, n < 32 → (((nI n).toUInt32 &&& Int32.toUInt32 31).toBitVec % 32).toNat = n := by decide +kernel
theorem n_shr {x y : Int} (hx : iR x) (h0 : 0 ≤ y) (h1 : y < 32) : Int32.ofInt x >>> (Int32.ofInt y &&& 31) = Int32.ofInt (x / 2 ^ y.toNat) := by
  have hp : (0 : Int) < 2 ^ y.toNat := Int.pow_pos (by decide)
  have h2 : (1 : Int) ≤ 2 ^ y.toNat := hp
  have hr : iR (x / 2 ^ y.toNat) := by
    refine ⟨?_, ?_⟩
    · rw [Int.le_ediv_iff_mul_le hp]
      have h3 : (-2147483648 : Int) * 2 ^ y.toNat ≤ -2147483648 * 1 := Int.mul_le_mul_of_nonpos_left (by decide) h2
      have := hx.1; omega
    · apply Int.le_of_lt_add_one
      rw [Int.ediv_lt_iff_lt_mul hp]
      have h3 : (2147483648 : Int) * 1 ≤ 2147483648 * 2 ^ y.toNat := Int.mul_le_mul_of_nonneg_left h2 (by decide)
      have := hx.2; omega
  apply Int32.toInt_inj.mp
  rw [n_pos h0, pk_shr _ _ y.toNat (n_sl _ (by omega)), n_t hx, n_t hr, Int.shiftRight_eq_div_pow]
  simp
def k_ushr (x : Int) (y : Nat) : Int := if (x % 4294967296) / 2 ^ y ≤ 2147483647 then (x % 4294967296) / 2 ^ y else (x % 4294967296) / 2 ^ y - 4294967296
theorem n_ushr {x y : Int} (h0 : 0 ≤ y) (h1 : y < 32) : (((Int32.ofInt x).toUInt32 >>> ((Int32.ofInt y).toUInt32 &&& Int32.toUInt32 31)).toInt32) = Int32.ofInt (k_ushr x y.toNat) ∧ iR (k_ushr x y.toNat) := by
  have hp : (0 : Int) < 2 ^ y.toNat := Int.pow_pos (by decide)
  have h2 : (1 : Int) ≤ 2 ^ y.toNat := hp
  have hu0 : 0 ≤ x % 4294967296 := Int.emod_nonneg _ (by decide)
  have hu1 : x % 4294967296 < 4294967296 := Int.emod_lt_of_pos _ (by decide)
  have hd0 : 0 ≤ (x % 4294967296) / 2 ^ y.toNat := Int.ediv_nonneg hu0 (Int.le_of_lt hp)
  have hd1 : (x % 4294967296) / 2 ^ y.toNat < 4294967296 := by
    rw [Int.ediv_lt_iff_lt_mul hp]
    have h3 : (4294967296 : Int) * 1 ≤ 4294967296 * 2 ^ y.toNat := Int.mul_le_mul_of_nonneg_left h2 (by decide)
    omega
  refine ⟨?_, ?_⟩
  · apply Int32.toBitVec_inj.mp
    apply BitVec.eq_of_toNat_eq
    rw [n_pos h0, pk_ushr _ _ y.toNat (n_su _ (by omega))]
    apply Int.ofNat.inj
    show (((Int32.ofInt x).toBitVec.toNat / 2 ^ y.toNat : Nat) : Int) = (((Int32.ofInt (k_ushr x y.toNat)).toBitVec.toNat : Nat) : Int)
    rw [n_bv, Int.natCast_ediv, n_bv]
    have h5 : ((2 ^ y.toNat : Nat) : Int) = (2 : Int) ^ y.toNat := by simp
    rw [h5]
    unfold k_ushr
    split <;> omega
  · unfold k_ushr
    split <;> omega
def k_i2b (x : Int) : Int := (x + 128) % 256 - 128
theorem n_i2b {x : Int} (hx : iR x) : (Int32.ofInt x).toInt8.toInt32 = Int32.ofInt (k_i2b x) ∧ -128 ≤ k_i2b x ∧ k_i2b x ≤ 127 := by
  have hb : -128 ≤ k_i2b x ∧ k_i2b x ≤ 127 := by unfold k_i2b; omega
  refine ⟨?_, hb⟩
  apply Int32.toInt_inj.mp
  rw [n_t ⟨by omega, by omega⟩, Int8.toInt_toInt32, Int32.toInt_toInt8, n_t hx]
  unfold k_i2b
  rw [Int.bmod_def]
  split <;> omega
theorem n_i2l {x : Int} (hx : iR x) : (Int32.ofInt x).toInt64 = Int64.ofInt x := by
  apply Int64.toInt_inj.mp
  rw [Int32.toInt_toInt64, n_t hx, n_tL ⟨by have := hx.1; omega, by have := hx.2; omega⟩]
theorem n_shl5 (x : Int) : Int64.ofInt x <<< ((Int32.ofInt 5).toInt64 &&& 63) = Int64.ofInt (x * 32) := by
  have e : ((Int32.ofInt 5).toInt64 &&& 63 : Int64) = 5 := by decide +kernel
  rw [e]
  have h2 : ((5 : Int64).toBitVec.smod 64).toNat = 5 := by decide +kernel
  apply Int64.toBitVec_inj.mp
  apply BitVec.eq_of_toNat_eq
  show ((Int64.ofInt x).toBitVec <<< ((5 : Int64).toBitVec.smod 64).toNat).toNat = _
  rw [h2, BitVec.toNat_shiftLeft, Nat.shiftLeft_eq, Int64.toBitVec_ofInt, Int64.toBitVec_ofInt, BitVec.toNat_ofInt, BitVec.toNat_ofInt]
  omega
def k_lcmp (x y : Int) : Int := if y < x then 1 else if x = y then 0 else -1
theorem n_lcmp {x y : Int} (hx : lR x) (hy : lR y) : lg_cmp (Int64.ofInt x) (Int64.ofInt y) = Int32.ofInt (k_lcmp x y) ∧ iR (k_lcmp x y) := by
  unfold lg_cmp k_lcmp
  simp only [gt_iff_lt, Int64.lt_iff_toInt_lt, ← Int64.toInt_inj, n_tL hx, n_tL hy]
  split
  · exact ⟨by decide +kernel, by decide⟩
  · split
    · exact ⟨by decide +kernel, by decide⟩
    · exact ⟨by decide +kernel, by decide⟩
theorem n_min {x y : Int} (hx : iR x) (hy : iR y) : (if Int32.ofInt y < Int32.ofInt x then Int32.ofInt y else Int32.ofInt x) = Int32.ofInt (if y < x then y else x) := by
  simp only [n_lt hy hx]
  split <;> rfl
theorem n_max {x y : Int} (hx : iR x) (hy : iR y) : (if Int32.ofInt x < Int32.ofInt y then Int32.ofInt y else Int32.ofInt x) = Int32.ofInt (if x < y then y else x) := by
  simp only [n_lt hx hy]
  split <;> rfl
theorem n_nb {x : Int} (h : -128 ≤ x ∧ x ≤ 127) : narrow .byte (.int (Int32.ofInt x)) = .int (Int32.ofInt x) := by
  have h1 := (n_i2b (x := x) ⟨by omega, by omega⟩).1
  have h2 : k_i2b x = x := by unfold k_i2b; omega
  rw [h2] at h1
  have := pk_nb (Int32.ofInt x)
  rw [h1] at this
  exact this
theorem n_nz {x : Int} (h : x = 0 ∨ x = 1) : narrow .boolean (.int (Int32.ofInt x)) = .int (Int32.ofInt x) := by
  rcases h with rfl | rfl <;> decide +kernel
theorem n_fz {x : Int} (h : x = 0 ∨ x = 1) : fits .boolean (.int (Int32.ofInt x)) = true := by
  rcases h with rfl | rfl <;> decide +kernel
end
section
/-! code, checked; what a method's run means; a row an instruction -/
def k_dc (b : ByteArray) (pc : Nat) (ins : Instr) (len nx : Nat) : Bool := decide (decode b pc = .ok (ins, len)) && (nx == pc + len)
def k_ic : Nat → Option Jvm.ClassFile.Cond
  | 0 => some .eq | 1 => some .ne | 2 => some .lt | 3 => some .ge | 4 => some .gt | 5 => some .le | _ => none
def k_f4 (j : Nat) : Fin 4 := Fin.ofNat 4 j
def k_fcode : FieldType → Nat
  | .int => 0 | .boolean => 1 | .object _ => 2 | .array _ => 2 | _ => 9
def k_jmp (pc : Nat) (t : Nat) : Int := (t : Int) - pc
def k_chk (m : PM) (pc : Nat) (i : PI) (nx : Nat) : Bool :=
  let b := pm_b m
  match i with
  | (0, z, a, _, _) => decide (iR z) && (k_dc b pc (.iconst z) 1 nx || (k_dc b pc (.bipush z) 2 nx && decide ((Int8.ofInt z).toInt32 = Int32.ofInt z)) || (k_dc b pc (.sipush z) 3 nx && decide ((Int16.ofInt z).toInt32 = Int32.ofInt z)) || (k_dc b pc (.ldc a) 2 nx && k_isct (pm_o m) a z))
  | (1, _, j, _, _) => (decide (j < 4) && k_dc b pc (.iload_n (k_f4 j)) 1 nx) || k_dc b pc (.iload j) 2 nx
  | (2, _, j, _, _) => (decide (j < 4) && k_dc b pc (.lload_n (k_f4 j)) 1 nx) || k_dc b pc (.lload j) 2 nx
  | (3, _, j, _, _) => (decide (j < 4) && k_dc b pc (.aload_n (k_f4 j)) 1 nx) || k_dc b pc (.aload j) 2 nx
  | (4, _, j, _, _) => decide (j < pm_n m) && ((decide (j < 4) && k_dc b pc (.istore_n (k_f4 j)) 1 nx) || k_dc b pc (.istore j) 2 nx)
  | (5, _, j, _, _) => decide (j + 1 < pm_n m) && ((decide (j < 4) && k_dc b pc (.lstore_n (k_f4 j)) 1 nx) || k_dc b pc (.lstore j) 2 nx)
  | (6, _, j, _, _) => decide (j < pm_n m) && ((decide (j < 4) && k_dc b pc (.astore_n (k_f4 j)) 1 nx) || k_dc b pc (.astore j) 2 nx)
  | (7, z, j, _, _) => decide (j < pm_n m) && k_dc b pc (.iinc j z) 3 nx
  | (8, _, _, _, _) => k_dc b pc .iadd 1 nx
  | (9, _, _, _, _) => k_dc b pc .isub 1 nx
  | (10, _, _, _, _) => k_dc b pc .imul 1 nx
  | (11, _, _, _, _) => k_dc b pc .idiv 1 nx
  | (12, _, _, _, _) => k_dc b pc .irem 1 nx
  | (13, _, _, _, _) => k_dc b pc .iand 1 nx
  | (14, _, _, _, _) => k_dc b pc .ishr 1 nx
  | (15, _, _, _, _) => k_dc b pc .iushr 1 nx
  | (16, _, _, _, _) => k_dc b pc .i2b 1 nx
  | (17, _, _, _, _) => k_dc b pc .i2l 1 nx
  | (18, _, _, _, _) => k_dc b pc .lshl 1 nx
  | (19, _, _, _, _) => k_dc b pc .ladd 1 nx
  | (20, _, _, _, _) => k_dc b pc .lcmp 1 nx
  | (21, z, _, _, _) => decide (z = 0) && k_dc b pc (.lconst 0) 1 nx
  | (22, z, ci, k, _) => k_dc b pc (.getfield z.toNat) 3 nx && k_isfl (pm_o m) z.toNat ci k
  | (23, z, ci, k, t) => k_dc b pc (.putfield z.toNat) 3 nx && k_isfl (pm_o m) z.toNat ci k && decide (t = [k_fcode (k_ty ci k)]) && (match k_cl[ci]? with | some r => !(r.2.1 k).2.2.2 || (decide ((pm_y m).name = "<init>") && decide ((r.2.1 k).1 = k_R (pm_o m))) | none => false)
  | (24, _, _, _, _) => k_dc b pc .iaload 1 nx
  | (25, _, _, _, _) => k_dc b pc .iastore 1 nx
  | (26, _, _, _, _) => k_dc b pc .baload 1 nx
  | (27, _, _, _, _) => k_dc b pc .bastore 1 nx
  | (28, _, _, _, _) => k_dc b pc .laload 1 nx
  | (29, _, _, _, _) => k_dc b pc .lastore 1 nx
  | (30, _, _, _, _) => k_dc b pc .arraylength 1 nx
  | (31, _, c, t, _) => match k_ic c with | some c => k_dc b pc (.if_icmp c (k_jmp pc t)) 3 nx | none => false
  | (32, _, c, t, _) => match k_ic c with | some c => k_dc b pc (.ifCond c (k_jmp pc t)) 3 nx | none => false
  | (33, _, _, t, _) => k_dc b pc (.goto (k_jmp pc t)) 3 nx
  | (34, _, _, _, _) => k_dc b pc .dup 1 nx
  | (35, _, _, _, _) => k_dc b pc .dup2 1 nx
  | (36, _, _, _, _) => k_dc b pc .ireturn 1 nx
  | (37, _, _, _, _) => k_dc b pc .lreturn 1 nx
  | (38, _, _, _, _) => k_dc b pc .areturn 1 nx
  | (39, _, _, _, _) => k_dc b pc .return_ 1 nx
  | (40, z, ci, _, _) => k_dc b pc (.new z.toNat) 3 nx && k_isnw (pm_o m) z.toNat ci
  | (41, _, kd, _, _) => match kd with | 0 => k_dc b pc (.newarray .int) 2 nx | 1 => k_dc b pc (.newarray .byte) 2 nx | 2 => k_dc b pc (.newarray .boolean) 2 nx | 3 => k_dc b pc (.newarray .long) 2 nx | _ => false
  | (42, lo, dt, ln, ts) => k_dc b pc (.tableswitch (k_jmp pc dt) lo (lo + ts.length - 1) (ts.map (k_jmp pc)).toArray) ln nx
  | (44, z, _, _, _) => k_dc b pc (.invokestatic z.toNat) 3 nx && k_ismn (pm_o m) z.toNat
  | (45, z, _, _, _) => k_dc b pc (.invokestatic z.toNat) 3 nx && k_ismx (pm_o m) z.toNat
  | (46, z, _, _, _) => k_dc b pc (.invokestatic z.toNat) 3 nx && k_iscp (pm_o m) z.toNat
  | (47, z, _, _, _) => k_dc b pc (.invokespecial z.toNat) 3 nx && k_isoi (pm_o m) z.toNat
  | (48, z, kd, _, _) => match kd with | 0 => k_dc b pc (.invokevirtual z.toNat) 3 nx | 1 => k_dc b pc (.invokestatic z.toNat) 3 nx | 2 => k_dc b pc (.invokespecial z.toNat) 3 nx | _ => false
  | (49, z, is, ic, [ei, si, wd]) => decide (pm_o m = 11) && decide (decode b pc = .ok (.new z.toNat, 3)) && decide (decode b (pc + 3) = .ok (.dup, 1)) && (decide ((ei, z, ic) = (0, 110, 114)) || decide ((ei, z, ic) = (1, 240, 244)) || decide ((ei, z, ic) = (2, 275, 279))) && k_strs.any (fun q => q.1 == is && q.2.2 == si) &&
    (match wd with
     | 0 => decide (decode b (pc + 4) = .ok (.ldc is, 2)) && decide (decode b (pc + 6) = .ok (.invokespecial ic, 3)) && decide (decode b (pc + 9) = .ok (.athrow, 1))
     | _ => decide (decode b (pc + 4) = .ok (.ldc_w is, 3)) && decide (decode b (pc + 7) = .ok (.invokespecial ic, 3)) && decide (decode b (pc + 10) = .ok (.athrow, 1)))
  | (43, z, dt, ln, [t0, t1, t2, t3, t4, t5]) => decide (z = 0) && k_dc b pc (.lookupswitch (k_jmp pc dt) #[(32, k_jmp pc t0), (40, k_jmp pc t1), (41, k_jmp pc t2), (91, k_jmp pc t3), (93, k_jmp pc t4), (124, k_jmp pc t5)]) ln nx
  | _ => false
theorem k_dc_ok {b : ByteArray} {pc : Nat} {ins : Instr} {len nx : Nat} (h : k_dc b pc ins len nx = true) : decode b pc = .ok (ins, len) ∧ nx = pc + len := by
  simp only [k_dc, Bool.and_eq_true, decide_eq_true_eq, beq_iff_eq] at h
  exact h
def k_lk : List (Nat × PI × Nat) → Nat → Option (PI × Nat)
  | [], _ => none
  | q :: t, pc => if q.1 == pc then some q.2 else k_lk t pc
theorem k_lk_mem : ∀ (l : List (Nat × PI × Nat)) (pc : Nat) (i : PI) (nx : Nat), k_lk l pc = some (i, nx) → (pc, i, nx) ∈ l
  | [], pc, i, nx, h => by simp [k_lk] at h
  | (q1, q2) :: t, pc, i, nx, h => by
    unfold k_lk at h
    split at h
    · rename_i h1
      simp only [beq_iff_eq] at h1
      have h2 : q2 = (i, nx) := Option.some.inj h
      subst h1
      rw [h2]
      exact List.mem_cons_self
    · exact List.mem_cons_of_mem _ (k_lk_mem t pc i nx h)
/-- the method's own word -/
def k_cw (m : PM) : Cond := match pm_h m with
  | [] => .code (pm_y m) (pm_b m) (pm_n m) (pm_r m)
  | hh => .codeWith (pm_y m) (pm_b m) (pm_n m) (pm_r m) hh
def k_ws (m : PM) : List Cond := k_cw m :: k_tb
def k_ca (m : PM) : Bool := (pm_c m).all (fun q => k_chk m q.1 q.2.1 q.2.2)
/-- the method's text is the machine's -/
def k_good (m : PM) : Prop := k_ca m = true ∧ k_cw m ∈ k_tb ∧ plainName (pm_y m).cls = true ∧ (pm_y m).cls = k_R (pm_o m)
theorem k_at_chk {m : PM} {pc : Nat} {i : PI} {nx : Nat} (hg : k_good m) (h : k_lk (pm_c m) pc = some (i, nx)) : k_chk m pc i nx = true :=
  List.all_eq_true.mp hg.1 _ (k_lk_mem _ _ _ _ h)
def k_rm (d K N : Nat) : Room := { frames := d, cells := K, slots := N, locals := 64 * d }
def k_Q (X : Cx) (x : Bool) (P : PO → PH → Prop) : Array Value → State → Outcome → State → Prop := fun _ st oc t =>
  ∃ (r : Option PV) (h : PH), oc = .returned (r.map (k_v X)) ∧ P (.inl r) h ∧ (∀ v, r = some v → k_wfV v) ∧ k_Rp X x h t.heap ∧ st.heap.size ≤ t.heap.size
def k_XQ (X : Cx) (P : PO → PH → Prop) : String → State → State → Prop := fun E st t =>
  ∃ h : PH, P (.inr E) h ∧ k_Rp X false h t.heap ∧ st.heap.size ≤ t.heap.size
/-- the setting of a method's run -/
def k_Set (X : Cx) (m : PM) (p : Program) (s : State) (mi : MethodId) (args : Array Value) (meth : Method) (c : Code) : Prop :=
  p.tables.exec = Jvm.exec ∧ c.code = pm_b m ∧ meth.sig.returnType = pm_r m ∧ c.maxLocals = pm_n m ∧ s.vm.findClass (k_R (pm_o m)) = some mi.cls ∧
  (∀ w ∈ k_tb, w.before args s = true) ∧ meth.locks = false ∧ c.exceptionTable.toList = tableOf (pm_h m) ∧ meth.name = (pm_y m).name ∧ k_Kn X s ∧
  cx_z X ≤ s.heap.size ∧ ∀ q : Nat, q < cx_z X → s.heap[q]? = (cx_H X)[q]?
/-- from here on the method ends as P says -/
def k_Wp (x : Bool) (d K N : Nat) (m : PM) (P : PO → PH → Prop) (k n pc : Nat) (ls : List (Option PV)) (st : List PV) (h : PH) : Prop :=
  k_good m → ∀ (X : Cx) (p : Program) (e : Env) (s : State) (mi : MethodId) (args : Array Value) (below : List Frame) (meth : Method) (c : Code) (H : Heap) (locs : List Loc) (lj : Array Slot),
    k_Set X m p s mi args meth c → k_Rp X x h H → s.heap.size ≤ H.size → (∀ q ∈ locs, cx_z X ≤ q.base) → lv_has lj (pm_n m) (k_lv X 0 ls) → (∀ v ∈ st, k_wfV v) → (∀ j v, k_get ls j = some v → k_wfV v) →
    W p (cx_l X) e (k_rm d K N) s mi args below meth c H locs k n (vx_MQ below (k_Q X x P) (k_XQ X P) args s K N (fun q => cx_z X ≤ q)) (F0 mi pc lj (st.map (k_v X)))
section Steps1
variable {x : Bool} {d K N : Nat} {m : PM} {P : PO → PH → Prop} {k n pc nx : Nat} {ls : List (Option PV)} {st : List PV} {h : PH}
theorem p_push {z : Int} {a b : Nat} {t : List Nat} (hc : k_lk (pm_c m) pc = some ((0, z, a, b, t), nx)) (kk : k_Wp x d K N m P k n nx ls (vI z :: st) h) : k_Wp x d K N m P k n pc ls st h := by
  intro hg X p e s mi args below meth c H locs lj S hR hz hL hl hs hw
  have h0 := k_at_chk hg hc
  simp only [k_chk, Bool.and_eq_true, Bool.or_eq_true, decide_eq_true_eq] at h0
  obtain ⟨hr, h0⟩ := h0
  have hk := kk hg X p e s mi args below meth c H locs lj S hR hz hL hl (by
    intro v hv
    rcases List.mem_cons.mp hv with rfl | hv
    · exact hr
    · exact hs v hv) hw
  rcases h0 with ((h0 | ⟨h0, h1⟩) | ⟨h0, h1⟩) | ⟨h0, h1⟩
  · obtain ⟨hd, rfl⟩ := k_dc_ok h0
    exact lv_iconst S.1 S.2.1 hd rfl hk
  · obtain ⟨hd, rfl⟩ := k_dc_ok h0
    exact lv_bipush S.1 S.2.1 hd h1 hk
  · obtain ⟨hd, rfl⟩ := k_dc_ok h0
    exact lv_sipush S.1 S.2.1 hd h1 hk
  · obtain ⟨hd, rfl⟩ := k_dc_ok h0
    exact W.ldc S.1 S.2.1 S.2.2.2.2.1 (S.2.2.2.2.2.1 _ (k_isct_ok h1)) rfl hd hk
theorem k_f4v {j : Nat} (h : j < 4) : ((k_f4 j : Fin 4) : Nat) = j := by
  show j % 4 = j
  omega
theorem k_lvat {X : Cx} {lj : Array Slot} {nL j : Nat} {v : PV} (hl : lv_has lj nL (k_lv X 0 ls)) (h : k_get ls j = some v) : lj[j]? = some (.val (k_v X v)) := by
  have := hl.2.2 (0 + j, k_v X v) ((k_lv_mem ls 0 _).mpr ⟨j, v, h, rfl⟩)
  simpa using this
theorem k_wcons {v : PV} {st : List PV} (h1 : k_wfV v) (h2 : ∀ v ∈ st, k_wfV v) : ∀ w ∈ v :: st, k_wfV w := fun w hw => (List.mem_cons.mp hw).elim (fun e => e ▸ h1) (h2 w)
theorem p_iload {z : Int} {j b : Nat} {y : Int} {t : List Nat} (hc : k_lk (pm_c m) pc = some ((1, y, j, b, t), nx)) (hj : k_get ls j = some (vI z)) (kk : k_Wp x d K N m P k n nx ls (vI z :: st) h) : k_Wp x d K N m P k n pc ls st h := by
  intro hg X p e s mi args below meth c H locs lj S hR hz hL hl hs hw
  have h0 := k_at_chk hg hc
  simp only [k_chk, Bool.and_eq_true, Bool.or_eq_true, decide_eq_true_eq] at h0
  have hk := kk hg X p e s mi args below meth c H locs lj S hR hz hL hl (k_wcons (hw j _ hj) hs) hw
  rcases h0 with ⟨h1, h0⟩ | h0
  · obtain ⟨hd, rfl⟩ := k_dc_ok h0
    exact lv_iload_n S.1 S.2.1 hd (k_f4v h1) (k_lvat hl hj) hk
  · obtain ⟨hd, rfl⟩ := k_dc_ok h0
    exact lv_iload S.1 S.2.1 hd (k_lvat hl hj) hk
theorem p_lload {z : Int} {j b : Nat} {y : Int} {t : List Nat} (hc : k_lk (pm_c m) pc = some ((2, y, j, b, t), nx)) (hj : k_get ls j = some (vL z)) (kk : k_Wp x d K N m P k n nx ls (vL z :: st) h) : k_Wp x d K N m P k n pc ls st h := by
  intro hg X p e s mi args below meth c H locs lj S hR hz hL hl hs hw
  have h0 := k_at_chk hg hc
  simp only [k_chk, Bool.and_eq_true, Bool.or_eq_true, decide_eq_true_eq] at h0
  have hk := kk hg X p e s mi args below meth c H locs lj S hR hz hL hl (k_wcons (hw j _ hj) hs) hw
  rcases h0 with ⟨h1, h0⟩ | h0
  · obtain ⟨hd, rfl⟩ := k_dc_ok h0
    exact lv_lload_n S.1 S.2.1 hd (k_f4v h1) (k_lvat hl hj) hk
  · obtain ⟨hd, rfl⟩ := k_dc_ok h0
    exact lv_lload S.1 S.2.1 hd (k_lvat hl hj) hk
theorem p_aload {z : Nat} {j b : Nat} {y : Int} {t : List Nat} (hc : k_lk (pm_c m) pc = some ((3, y, j, b, t), nx)) (hj : k_get ls j = some (vR z)) (kk : k_Wp x d K N m P k n nx ls (vR z :: st) h) : k_Wp x d K N m P k n pc ls st h := by
  intro hg X p e s mi args below meth c H locs lj S hR hz hL hl hs hw
  have h0 := k_at_chk hg hc
  simp only [k_chk, Bool.and_eq_true, Bool.or_eq_true, decide_eq_true_eq] at h0
  have hk := kk hg X p e s mi args below meth c H locs lj S hR hz hL hl (k_wcons (hw j _ hj) hs) hw
  rcases h0 with ⟨h1, h0⟩ | h0
  · obtain ⟨hd, rfl⟩ := k_dc_ok h0
    exact lv_aload_n S.1 S.2.1 hd (k_f4v h1) (k_lvat hl hj) hk
  · obtain ⟨hd, rfl⟩ := k_dc_ok h0
    exact lv_aload S.1 S.2.1 hd (k_lvat hl hj) hk
theorem k_wput {j : Nat} {v : PV} (h1 : k_wfV v) (h2 : ∀ i w, k_get ls i = some w → k_wfV w) : ∀ i w, k_get (k_put ls j v) i = some w → k_wfV w := fun i w hw => by
  rcases k_get_put ls j v i w hw with ⟨-, rfl⟩ | ⟨-, h3, -⟩
  · exact h1
  · exact h2 i w h3
theorem p_istore {z : Int} {j b : Nat} {y : Int} {t : List Nat} (hc : k_lk (pm_c m) pc = some ((4, y, j, b, t), nx)) (kk : k_Wp x d K N m P k n nx (k_put ls j (vI z)) st h) : k_Wp x d K N m P k n pc ls (vI z :: st) h := by
  intro hg X p e s mi args below meth c H locs lj S hR hz hL hl hs hw
  have h0 := k_at_chk hg hc
  simp only [k_chk, Bool.and_eq_true, Bool.or_eq_true, decide_eq_true_eq] at h0
  have hk := fun lj2 h2 => kk hg X p e s mi args below meth c H locs lj2 S hR hz hL (k_lv_put1 h2) (fun v hv => hs v (List.mem_cons_of_mem _ hv)) (k_wput (hs _ List.mem_cons_self) hw)
  obtain ⟨h2, h0⟩ := h0
  rcases h0 with ⟨h1, h0⟩ | h0
  · obtain ⟨hd, rfl⟩ := k_dc_ok h0
    exact lv_istore_n S.1 S.2.1 hd (k_f4v h1) hl h2 rfl hk
  · obtain ⟨hd, rfl⟩ := k_dc_ok h0
    exact lv_istore S.1 S.2.1 hd hl h2 rfl hk
theorem p_lstore {z : Int} {j b : Nat} {y : Int} {t : List Nat} (hc : k_lk (pm_c m) pc = some ((5, y, j, b, t), nx)) (kk : k_Wp x d K N m P k n nx (k_clr (k_put ls j (vL z)) (j + 1)) st h) : k_Wp x d K N m P k n pc ls (vL z :: st) h := by
  intro hg X p e s mi args below meth c H locs lj S hR hz hL hl hs hw
  have h0 := k_at_chk hg hc
  simp only [k_chk, Bool.and_eq_true, Bool.or_eq_true, decide_eq_true_eq] at h0
  have hk := fun lj2 h2 => kk hg X p e s mi args below meth c H locs lj2 S hR hz hL (k_lv_put2 h2) (fun v hv => hs v (List.mem_cons_of_mem _ hv)) (fun i w hi => k_wput (hs _ List.mem_cons_self) hw i w (k_get_clr _ _ _ _ hi).2)
  obtain ⟨h2, h0⟩ := h0
  rcases h0 with ⟨h1, h0⟩ | h0
  · obtain ⟨hd, rfl⟩ := k_dc_ok h0
    exact lv_lstore_n S.1 S.2.1 hd (k_f4v h1) hl h2 rfl hk
  · obtain ⟨hd, rfl⟩ := k_dc_ok h0
    exact lv_lstore S.1 S.2.1 hd hl h2 rfl hk
theorem p_astore {z : Nat} {j b : Nat} {y : Int} {t : List Nat} (hc : k_lk (pm_c m) pc = some ((6, y, j, b, t), nx)) (kk : k_Wp x d K N m P k n nx (k_put ls j (vR z)) st h) : k_Wp x d K N m P k n pc ls (vR z :: st) h := by
  intro hg X p e s mi args below meth c H locs lj S hR hz hL hl hs hw
  have h0 := k_at_chk hg hc
  simp only [k_chk, Bool.and_eq_true, Bool.or_eq_true, decide_eq_true_eq] at h0
  have hk := fun lj2 h2 => kk hg X p e s mi args below meth c H locs lj2 S hR hz hL (k_lv_put1 h2) (fun v hv => hs v (List.mem_cons_of_mem _ hv)) (k_wput (hs _ List.mem_cons_self) hw)
  obtain ⟨h2, h0⟩ := h0
  rcases h0 with ⟨h1, h0⟩ | h0
  · obtain ⟨hd, rfl⟩ := k_dc_ok h0
    exact lv_astore_n S.1 S.2.1 hd (k_f4v h1) hl h2 rfl hk
  · obtain ⟨hd, rfl⟩ := k_dc_ok h0
    exact lv_astore S.1 S.2.1 hd hl h2 rfl hk
theorem p_iinc {z y : Int} {j b : Nat} {t : List Nat} (hc : k_lk (pm_c m) pc = some ((7, z, j, b, t), nx)) (hj : k_get ls j = some (vI y)) (hr : iR (y + z)) (kk : k_Wp x d K N m P k n nx (k_put ls j (vI (y + z))) st h) : k_Wp x d K N m P k n pc ls st h := by
  intro hg X p e s mi args below meth c H locs lj S hR hz hL hl hs hw
  have h0 := k_at_chk hg hc
  simp only [k_chk, Bool.and_eq_true, decide_eq_true_eq] at h0
  have hk := fun lj2 h2 => kk hg X p e s mi args below meth c H locs lj2 S hR hz hL (k_lv_put1 h2) hs (k_wput hr hw)
  obtain ⟨h2, h0⟩ := h0
  obtain ⟨hd, rfl⟩ := k_dc_ok h0
  obtain ⟨q, hq⟩ := List.getElem?_of_mem ((k_lv_mem (X := X) ls 0 (0 + j, k_v X (vI y))).mpr ⟨j, vI y, hj, rfl⟩)
  rw [Nat.zero_add] at hq
  exact lv_iinc (v := Int32.ofInt (y + z)) S.1 S.2.1 hd hl hq (Int32.ofInt_add y z).symm h2 rfl hk
theorem p_iadd {u v a : Int} {b1 b2 : Nat} {t : List Nat} (hc : k_lk (pm_c m) pc = some ((8, a, b1, b2, t), nx)) (hr : iR (u + v)) (kk : k_Wp x d K N m P k n nx ls (vI (u + v) :: st) h) : k_Wp x d K N m P k n pc ls (vI v :: vI u :: st) h := by
  intro hg X p e s mi args below meth c H locs lj S hR hz hL hl hs hw
  obtain ⟨hd, rfl⟩ := k_dc_ok (k_at_chk hg hc)
  have hk := kk hg X p e s mi args below meth c H locs lj S hR hz hL hl (k_wcons hr (fun w hw => hs w (by simp [hw]))) hw
  refine lv_iadd S.1 S.2.1 hd ?_
  rw [← Int32.ofInt_add]
  exact hk
theorem p_isub {u v a : Int} {b1 b2 : Nat} {t : List Nat} (hc : k_lk (pm_c m) pc = some ((9, a, b1, b2, t), nx)) (hr : iR (u - v)) (kk : k_Wp x d K N m P k n nx ls (vI (u - v) :: st) h) : k_Wp x d K N m P k n pc ls (vI v :: vI u :: st) h := by
  intro hg X p e s mi args below meth c H locs lj S hR hz hL hl hs hw
  obtain ⟨hd, rfl⟩ := k_dc_ok (k_at_chk hg hc)
  have hk := kk hg X p e s mi args below meth c H locs lj S hR hz hL hl (k_wcons hr (fun w hw => hs w (by simp [hw]))) hw
  refine lv_isub S.1 S.2.1 hd ?_
  rw [← Int32.ofInt_sub]
  exact hk
theorem p_imul {u v a : Int} {b1 b2 : Nat} {t : List Nat} (hc : k_lk (pm_c m) pc = some ((10, a, b1, b2, t), nx)) (hr : iR (u * v)) (kk : k_Wp x d K N m P k n nx ls (vI (u * v) :: st) h) : k_Wp x d K N m P k n pc ls (vI v :: vI u :: st) h := by
  intro hg X p e s mi args below meth c H locs lj S hR hz hL hl hs hw
  obtain ⟨hd, rfl⟩ := k_dc_ok (k_at_chk hg hc)
  have hk := kk hg X p e s mi args below meth c H locs lj S hR hz hL hl (k_wcons hr (fun w hw => hs w (by simp [hw]))) hw
  refine lv_imul S.1 S.2.1 hd ?_
  rw [← Int32.ofInt_mul]
  exact hk
theorem k_rdiv {u v : Int} (hu : iR u) (h0 : 0 ≤ u) (h1 : 0 < v) : iR (u / v) := by
  have a := Int.ediv_nonneg h0 (Int.le_of_lt h1)
  have b := Int.ediv_le_self v h0
  exact ⟨by omega, by have := hu.2; omega⟩
theorem k_rmod {u v : Int} (hv : iR v) (h1 : 0 < v) : iR (u % v) := by
  have a := Int.emod_nonneg u (Int.ne_of_gt h1)
  have b := Int.emod_lt_of_pos u h1
  exact ⟨by omega, by have := hv.2; omega⟩
theorem p_idiv {u v a : Int} {b1 b2 : Nat} {t : List Nat} (hc : k_lk (pm_c m) pc = some ((11, a, b1, b2, t), nx)) (h0 : 0 ≤ u) (h1 : 0 < v) (kk : k_Wp x d K N m P k n nx ls (vI (u / v) :: st) h) : k_Wp x d K N m P k n pc ls (vI v :: vI u :: st) h := by
  intro hg X p e s mi args below meth c H locs lj S hR hz hL hl hs hw
  obtain ⟨hd, rfl⟩ := k_dc_ok (k_at_chk hg hc)
  have hv : iR v := hs _ List.mem_cons_self
  have hu : iR u := hs (vI u) (by simp)
  have hk := kk hg X p e s mi args below meth c H locs lj S hR hz hL hl (k_wcons (k_rdiv hu h0 h1) (fun w hw => hs w (by simp [hw]))) hw
  refine lv_idiv S.1 S.2.1 hd (by rw [n_eq0 hv]; omega) ?_
  rw [n_div hu hv h0 h1]
  exact hk
theorem p_irem {u v a : Int} {b1 b2 : Nat} {t : List Nat} (hc : k_lk (pm_c m) pc = some ((12, a, b1, b2, t), nx)) (h0 : 0 ≤ u) (h1 : 0 < v) (kk : k_Wp x d K N m P k n nx ls (vI (u % v) :: st) h) : k_Wp x d K N m P k n pc ls (vI v :: vI u :: st) h := by
  intro hg X p e s mi args below meth c H locs lj S hR hz hL hl hs hw
  obtain ⟨hd, rfl⟩ := k_dc_ok (k_at_chk hg hc)
  have hv : iR v := hs _ List.mem_cons_self
  have hu : iR u := hs (vI u) (by simp)
  have hk := kk hg X p e s mi args below meth c H locs lj S hR hz hL hl (k_wcons (k_rmod hv h1) (fun w hw => hs w (by simp [hw]))) hw
  refine lv_irem S.1 S.2.1 hd (by rw [n_eq0 hv]; omega) ?_
  rw [n_rem hu hv h0 h1]
  exact hk
theorem p_iand {u v a : Int} {b1 b2 : Nat} {t : List Nat} (hc : k_lk (pm_c m) pc = some ((13, a, b1, b2, t), nx)) (hm : v = 255 ∨ v = 31) (kk : k_Wp x d K N m P k n nx ls (vI (u % (v + 1)) :: st) h) : k_Wp x d K N m P k n pc ls (vI v :: vI u :: st) h := by
  intro hg X p e s mi args below meth c H locs lj S hR hz hL hl hs hw
  obtain ⟨hd, rfl⟩ := k_dc_ok (k_at_chk hg hc)
  have hk := kk hg X p e s mi args below meth c H locs lj S hR hz hL hl (k_wcons (show iR _ by rcases hm with rfl | rfl <;> constructor <;> omega) (fun w hw => hs w (by simp [hw]))) hw
  refine lv_iand S.1 S.2.1 hd ?_
  rcases hm with rfl | rfl
  · rw [n_and255]; exact hk
  · rw [n_and31]; exact hk
theorem p_ishr {u v a : Int} {b1 b2 : Nat} {t : List Nat} (hc : k_lk (pm_c m) pc = some ((14, a, b1, b2, t), nx)) (h0 : 0 ≤ v) (h1 : v < 32) (kk : k_Wp x d K N m P k n nx ls (vI (u / 2 ^ v.toNat) :: st) h) : k_Wp x d K N m P k n pc ls (vI v :: vI u :: st) h := by
  intro hg X p e s mi args below meth c H locs lj S hR hz hL hl hs hw
  obtain ⟨hd, rfl⟩ := k_dc_ok (k_at_chk hg hc)
  have hu : iR u := hs (vI u) (by simp)
  have hr : iR (u / 2 ^ v.toNat) := by
    have := n_t (z := u) hu
    have e := n_shr hu h0 h1
    have e2 := congrArg Int32.toInt e
    have hp : (0 : Int) < 2 ^ v.toNat := Int.pow_pos (by decide)
    have h2 : (1 : Int) ≤ 2 ^ v.toNat := hp
    refine ⟨?_, ?_⟩
    · rw [Int.le_ediv_iff_mul_le hp]
      have h3 : (-2147483648 : Int) * 2 ^ v.toNat ≤ -2147483648 * 1 := Int.mul_le_mul_of_nonpos_left (by decide) h2
      have := hu.1; omega
    · apply Int.le_of_lt_add_one
      rw [Int.ediv_lt_iff_lt_mul hp]
      have h3 : (2147483648 : Int) * 1 ≤ 2147483648 * 2 ^ v.toNat := Int.mul_le_mul_of_nonneg_left h2 (by decide)
      have := hu.2; omega
  have hk := kk hg X p e s mi args below meth c H locs lj S hR hz hL hl (k_wcons hr (fun w hw => hs w (by simp [hw]))) hw
  refine lv_ishr S.1 S.2.1 hd ?_
  rw [n_shr hu h0 h1]
  exact hk
theorem p_iushr {u v a : Int} {b1 b2 : Nat} {t : List Nat} (hc : k_lk (pm_c m) pc = some ((15, a, b1, b2, t), nx)) (h0 : 0 ≤ v) (h1 : v < 32) (kk : k_Wp x d K N m P k n nx ls (vI (k_ushr u v.toNat) :: st) h) : k_Wp x d K N m P k n pc ls (vI v :: vI u :: st) h := by
  intro hg X p e s mi args below meth c H locs lj S hR hz hL hl hs hw
  obtain ⟨hd, rfl⟩ := k_dc_ok (k_at_chk hg hc)
  obtain ⟨e1, hr⟩ := n_ushr (x := u) h0 h1
  have hk := kk hg X p e s mi args below meth c H locs lj S hR hz hL hl (k_wcons hr (fun w hw => hs w (by simp [hw]))) hw
  exact lv_iushr S.1 S.2.1 hd e1 hk
theorem p_i2b {u a : Int} {b1 b2 : Nat} {t : List Nat} (hc : k_lk (pm_c m) pc = some ((16, a, b1, b2, t), nx)) (kk : k_Wp x d K N m P k n nx ls (vI (k_i2b u) :: st) h) : k_Wp x d K N m P k n pc ls (vI u :: st) h := by
  intro hg X p e s mi args below meth c H locs lj S hR hz hL hl hs hw
  obtain ⟨hd, rfl⟩ := k_dc_ok (k_at_chk hg hc)
  obtain ⟨e1, h1, h2⟩ := n_i2b (x := u) (hs _ List.mem_cons_self)
  have hk := kk hg X p e s mi args below meth c H locs lj S hR hz hL hl (k_wcons (show iR _ from ⟨by omega, by omega⟩) (fun w hw => hs w (by simp [hw]))) hw
  exact lv_i2b S.1 S.2.1 hd e1 hk
theorem p_i2l {u a : Int} {b1 b2 : Nat} {t : List Nat} (hc : k_lk (pm_c m) pc = some ((17, a, b1, b2, t), nx)) (kk : k_Wp x d K N m P k n nx ls (vL u :: st) h) : k_Wp x d K N m P k n pc ls (vI u :: st) h := by
  intro hg X p e s mi args below meth c H locs lj S hR hz hL hl hs hw
  obtain ⟨hd, rfl⟩ := k_dc_ok (k_at_chk hg hc)
  have hu : iR u := hs _ List.mem_cons_self
  have hk := kk hg X p e s mi args below meth c H locs lj S hR hz hL hl (k_wcons (show lR u from ⟨by have := hu.1; omega, by have := hu.2; omega⟩) (fun w hw => hs w (by simp [hw]))) hw
  exact lv_i2l S.1 S.2.1 hd (n_i2l hu) hk
theorem p_lshl {u v a : Int} {b1 b2 : Nat} {t : List Nat} (hc : k_lk (pm_c m) pc = some ((18, a, b1, b2, t), nx)) (h0 : v = 5) (hr : lR (u * 32)) (kk : k_Wp x d K N m P k n nx ls (vL (u * 32) :: st) h) : k_Wp x d K N m P k n pc ls (vI v :: vL u :: st) h := by
  intro hg X p e s mi args below meth c H locs lj S hR hz hL hl hs hw
  obtain ⟨hd, rfl⟩ := k_dc_ok (k_at_chk hg hc)
  subst h0
  have hk := kk hg X p e s mi args below meth c H locs lj S hR hz hL hl (k_wcons hr (fun w hw => hs w (by simp [hw]))) hw
  exact lv_lshl S.1 S.2.1 hd (n_shl5 u) hk
theorem p_ladd {u v a : Int} {b1 b2 : Nat} {t : List Nat} (hc : k_lk (pm_c m) pc = some ((19, a, b1, b2, t), nx)) (hr : lR (u + v)) (kk : k_Wp x d K N m P k n nx ls (vL (u + v) :: st) h) : k_Wp x d K N m P k n pc ls (vL v :: vL u :: st) h := by
  intro hg X p e s mi args below meth c H locs lj S hR hz hL hl hs hw
  obtain ⟨hd, rfl⟩ := k_dc_ok (k_at_chk hg hc)
  have hk := kk hg X p e s mi args below meth c H locs lj S hR hz hL hl (k_wcons hr (fun w hw => hs w (by simp [hw]))) hw
  refine lv_ladd S.1 S.2.1 hd ?_
  rw [← Int64.ofInt_add]
  exact hk
theorem p_lcmp {u v a : Int} {b1 b2 : Nat} {t : List Nat} (hc : k_lk (pm_c m) pc = some ((20, a, b1, b2, t), nx)) (kk : k_Wp x d K N m P k n nx ls (vI (k_lcmp u v) :: st) h) : k_Wp x d K N m P k n pc ls (vL v :: vL u :: st) h := by
  intro hg X p e s mi args below meth c H locs lj S hR hz hL hl hs hw
  obtain ⟨hd, rfl⟩ := k_dc_ok (k_at_chk hg hc)
  obtain ⟨e1, hr⟩ := n_lcmp (x := u) (y := v) (hs (vL u) (by simp)) (hs (vL v) (by simp))
  have hk := kk hg X p e s mi args below meth c H locs lj S hR hz hL hl (k_wcons hr (fun w hw => hs w (by simp [hw]))) hw
  refine W.lcmp S.1 S.2.1 hd ?_
  rw [e1]
  exact hk
theorem p_lconst {z : Int} {b1 b2 : Nat} {t : List Nat} (hc : k_lk (pm_c m) pc = some ((21, z, b1, b2, t), nx)) (kk : k_Wp x d K N m P k n nx ls (vL z :: st) h) : k_Wp x d K N m P k n pc ls st h := by
  intro hg X p e s mi args below meth c H locs lj S hR hz hL hl hs hw
  have h0 := k_at_chk hg hc
  simp only [k_chk, Bool.and_eq_true, decide_eq_true_eq] at h0
  obtain ⟨rfl, h0⟩ := h0
  obtain ⟨hd, rfl⟩ := k_dc_ok h0
  have hk := kk hg X p e s mi args below meth c H locs lj S hR hz hL hl (k_wcons (show lR 0 by decide) hs) hw
  exact lv_lconst S.1 S.2.1 hd (v := Int64.ofInt 0) (by decide +kernel) hk
theorem p_goto {z : Int} {b1 tg : Nat} {t : List Nat} (hc : k_lk (pm_c m) pc = some ((33, z, b1, tg, t), nx)) (kk : k_Wp x d K N m P k n tg ls st h) : k_Wp x d K N m P k n pc ls st h := by
  intro hg X p e s mi args below meth c H locs lj S hR hz hL hl hs hw
  obtain ⟨hd, -⟩ := k_dc_ok (k_at_chk hg hc)
  exact lv_goto S.1 S.2.1 hd (by unfold k_jmp; omega) (kk hg X p e s mi args below meth c H locs lj S hR hz hL hl hs hw)
theorem k_cat1 (X : Cx) {v : PV} (h : ∀ z, v ≠ vL z) : (k_v X v).category = 1 := by
  rcases v with z | z | z | z
  · rfl
  · exact absurd rfl (h z)
  · rfl
  · rfl
theorem p_dup {v : PV} {z : Int} {b1 b2 : Nat} {t : List Nat} (hc : k_lk (pm_c m) pc = some ((34, z, b1, b2, t), nx)) (hv : ∀ z, v ≠ vL z) (kk : k_Wp x d K N m P k n nx ls (v :: v :: st) h) : k_Wp x d K N m P k n pc ls (v :: st) h := by
  intro hg X p e s mi args below meth c H locs lj S hR hz hL hl hs hw
  obtain ⟨hd, rfl⟩ := k_dc_ok (k_at_chk hg hc)
  exact lv_dup S.1 S.2.1 hd (k_cat1 X hv) (kk hg X p e s mi args below meth c H locs lj S hR hz hL hl (k_wcons (hs _ List.mem_cons_self) hs) hw)
theorem p_dup2 {v w : PV} {z : Int} {b1 b2 : Nat} {t : List Nat} (hc : k_lk (pm_c m) pc = some ((35, z, b1, b2, t), nx)) (hv : ∀ z, v ≠ vL z) (hw2 : ∀ z, w ≠ vL z) (kk : k_Wp x d K N m P k n nx ls (v :: w :: v :: w :: st) h) : k_Wp x d K N m P k n pc ls (v :: w :: st) h := by
  intro hg X p e s mi args below meth c H locs lj S hR hz hL hl hs hw
  obtain ⟨hd, rfl⟩ := k_dc_ok (k_at_chk hg hc)
  exact lv_dup2_11 S.1 S.2.1 hd (k_cat1 X hv) (k_cat1 X hw2) (kk hg X p e s mi args below meth c H locs lj S hR hz hL hl (k_wcons (hs _ List.mem_cons_self) (k_wcons (hs w (by simp)) hs)) hw)
def k_cnd (c : Nat) (u v : Int) : Prop := match c with
  | 0 => u = v | 1 => ¬ u = v | 2 => u < v | 3 => v ≤ u | 4 => v < u | _ => u ≤ v
theorem p_icmp {u v a : Int} {cd tg : Nat} {t : List Nat} (hc : k_lk (pm_c m) pc = some ((31, a, cd, tg, t), nx)) (kt : k_cnd cd u v → k_Wp x d K N m P k n tg ls st h) (kf : ¬ k_cnd cd u v → k_Wp x d K N m P k n nx ls st h) : k_Wp x d K N m P k n pc ls (vI v :: vI u :: st) h := by
  intro hg X p e s mi args below meth c H locs lj S hR hz hL hl hs hw
  have h0 := k_at_chk hg hc
  have hv : iR v := hs _ List.mem_cons_self
  have hu : iR u := hs (vI u) (by simp)
  have kt' := fun q => kt q hg X p e s mi args below meth c H locs lj S hR hz hL hl (fun w hw => hs w (by simp [hw])) hw
  have kf' := fun q => kf q hg X p e s mi args below meth c H locs lj S hR hz hL hl (fun w hw => hs w (by simp [hw])) hw
  have ht : (pc : Int) + k_jmp pc tg = (tg : Int) := by unfold k_jmp; omega
  match cd, h0, kt', kf' with
  | 0, h0, kt', kf' => obtain ⟨hd, rfl⟩ := k_dc_ok h0; exact lv_icmp_eq S.1 S.2.1 hd ht (fun q => kt' ((n_eq hu hv).mp q)) (fun q => kf' (fun z => q ((n_eq hu hv).mpr z)))
  | 1, h0, kt', kf' => obtain ⟨hd, rfl⟩ := k_dc_ok h0; exact lv_icmp_ne S.1 S.2.1 hd ht (fun q => kt' (fun z => q ((n_eq hu hv).mpr z))) (fun q => kf' (fun z => z ((n_eq hu hv).mp q)))
  | 2, h0, kt', kf' => obtain ⟨hd, rfl⟩ := k_dc_ok h0; exact lv_icmp_lt S.1 S.2.1 hd ht (fun q => kt' ((n_lt hu hv).mp q)) (fun q => kf' (fun z => q ((n_lt hu hv).mpr z)))
  | 3, h0, kt', kf' => obtain ⟨hd, rfl⟩ := k_dc_ok h0; exact lv_icmp_ge S.1 S.2.1 hd ht (fun q => kt' ((n_le hv hu).mp q)) (fun q => kf' (fun z => q ((n_le hv hu).mpr z)))
  | 4, h0, kt', kf' => obtain ⟨hd, rfl⟩ := k_dc_ok h0; exact lv_icmp_gt S.1 S.2.1 hd ht (fun q => kt' ((n_lt hv hu).mp q)) (fun q => kf' (fun z => q ((n_lt hv hu).mpr z)))
  | 5, h0, kt', kf' => obtain ⟨hd, rfl⟩ := k_dc_ok h0; exact lv_icmp_le S.1 S.2.1 hd ht (fun q => kt' ((n_le hu hv).mp q)) (fun q => kf' (fun z => q ((n_le hu hv).mpr z)))
  | _ + 6, h0, kt', kf' => simp [k_chk, k_ic] at h0
theorem p_if {u a : Int} {cd tg : Nat} {t : List Nat} (hc : k_lk (pm_c m) pc = some ((32, a, cd, tg, t), nx)) (kt : k_cnd cd u 0 → k_Wp x d K N m P k n tg ls st h) (kf : ¬ k_cnd cd u 0 → k_Wp x d K N m P k n nx ls st h) : k_Wp x d K N m P k n pc ls (vI u :: st) h := by
  intro hg X p e s mi args below meth c H locs lj S hR hz hL hl hs hw
  have h0 := k_at_chk hg hc
  have hu : iR u := hs _ List.mem_cons_self
  have kt' := fun q => kt q hg X p e s mi args below meth c H locs lj S hR hz hL hl (fun w hw => hs w (by simp [hw])) hw
  have kf' := fun q => kf q hg X p e s mi args below meth c H locs lj S hR hz hL hl (fun w hw => hs w (by simp [hw])) hw
  have ht : (pc : Int) + k_jmp pc tg = (tg : Int) := by unfold k_jmp; omega
  match cd, h0, kt', kf' with
  | 0, h0, kt', kf' => obtain ⟨hd, rfl⟩ := k_dc_ok h0; exact lv_if_eq S.1 S.2.1 hd ht (fun q => kt' ((n_eq0 hu).mp q)) (fun q => kf' (fun z => q ((n_eq0 hu).mpr z)))
  | 1, h0, kt', kf' => obtain ⟨hd, rfl⟩ := k_dc_ok h0; exact lv_if_ne S.1 S.2.1 hd ht (fun q => kt' (fun z => q ((n_eq0 hu).mpr z))) (fun q => kf' (fun z => z ((n_eq0 hu).mp q)))
  | 2, h0, kt', kf' => obtain ⟨hd, rfl⟩ := k_dc_ok h0; exact lv_if_lt S.1 S.2.1 hd ht (fun q => kt' ((n_lt0 hu).mp q)) (fun q => kf' (fun z => q ((n_lt0 hu).mpr z)))
  | 3, h0, kt', kf' => obtain ⟨hd, rfl⟩ := k_dc_ok h0; exact lv_if_ge S.1 S.2.1 hd ht (fun q => kt' ((n_ge0 hu).mp q)) (fun q => kf' (fun z => q ((n_ge0 hu).mpr z)))
  | 4, h0, kt', kf' => obtain ⟨hd, rfl⟩ := k_dc_ok h0; exact lv_if_gt S.1 S.2.1 hd ht (fun q => kt' ((n_gt0 hu).mp q)) (fun q => kf' (fun z => q ((n_gt0 hu).mpr z)))
  | 5, h0, kt', kf' => obtain ⟨hd, rfl⟩ := k_dc_ok h0; exact lv_if_le S.1 S.2.1 hd ht (fun q => kt' ((n_le0 hu).mp q)) (fun q => kf' (fun z => q ((n_le0 hu).mpr z)))
  | _ + 6, h0, kt', kf' => simp [k_chk, k_ic] at h0
/-- fewer locals may be known -/
theorem p_sub {ls' : List (Option PV)} (hl : k_le ls' ls) (kk : k_Wp x d K N m P k n pc ls' st h) : k_Wp x d K N m P k n pc ls st h := by
  intro hg X p e s mi args below meth c H locs lj S hR hz hL hl2 hs hw
  exact kk hg X p e s mi args below meth c H locs lj S hR hz hL (k_lv_le hl2 hl) hs (fun j v hj => hw j v (hl j v hj))
end Steps1
end
section
/-! rows of the heap: fields, arrays, makings, returns -/
def hS (h : PH) (a : Nat) (c : PC) : PH := (h.1, fun b => if b = a then some c else h.2 b)
def fS (f : Nat → Int) (i : Nat) (z : Int) : Nat → Int := fun j => if j = i then z else f j
theorem hS_1 (h : PH) (a : Nat) (c : PC) : (hS h a c).1 = h.1 := rfl
theorem hS_2 (h : PH) (a : Nat) (c : PC) (b : Nat) : (hS h a c).2 b = if b = a then some c else h.2 b := rfl
theorem hS_s (h : PH) (a : Nat) (c : PC) : (hS h a c).2 a = some c := by simp [hS]
theorem hS_n {h : PH} {a b : Nat} {c : PC} (hn : b ≠ a) : (hS h a c).2 b = h.2 b := by simp [hS, hn]
theorem k_ad_inj {X : Cx} (hb : cx_b X < cx_z X) {a b : Nat} (h : k_ad X a = k_ad X b) : a = b := by
  cases a <;> cases b <;> simp only [k_ad] at h <;> omega
theorem k_at_kept {X : Cx} {a : Nat} {c : PC} {H H1 : Heap} (h : k_at X a c H) (hq : H1[k_ad X a]? = H[k_ad X a]?) : k_at X a c H1 := by
  unfold k_at at h ⊢
  split at h
  · exact h
  · exact ⟨h.1, h.2.1, hq.trans h.2.2⟩
  · obtain ⟨h0, r, h1, h2, h3⟩ := h
    exact ⟨h0, r, h1, h2, h3.kept hq⟩
theorem k_Rp_set {X : Cx} {x : Bool} {h : PH} {H H1 : Heap} {a : Nat} {c0 c : PC} (hb : cx_b X < cx_z X) (hR : k_Rp X x h H) (ha : h.2 a = some c0) (h0 : 0 < a) (hw : k_wfC c) (hc : k_at X a c H1) (hz : H1.size = H.size) (ho : ∀ q, q ≠ k_ad X a → H1[q]? = H[q]?) : k_Rp X x (hS h a c) H1 := by
  obtain ⟨r1, r2, r3, r4, r5⟩ := hR
  have hz2 : cx_z X ≤ k_ad X a := by cases a with
    | zero => omega
    | succ a => simp [k_ad]
  refine ⟨fun q hq => ?_, r2, by rw [hz]; exact r3, fun hx => by rw [hz]; exact r4 hx, fun b cb hbb => ?_⟩
  · rw [ho q (by omega)]; exact r1 q hq
  · by_cases e : b = a
    · subst e
      rw [hS_s] at hbb
      cases hbb
      exact ⟨(r5 _ _ ha).1, hw, hc⟩
    · rw [hS_n e] at hbb
      obtain ⟨q1, q2, q3⟩ := r5 b cb hbb
      exact ⟨q1, q2, k_at_kept q3 (ho _ (fun z => e (k_ad_inj hb z)))⟩
theorem k_bz {X : Cx} {s : State} (h : k_Kn X s) : cx_b X < cx_z X := h.2.2.2.2.2.2.2.1
theorem k_arr {X : Cx} {s : State} (h : k_Kn X s) {kd : Nat} (hk : kd < 4) : ArrOfT s (cx_A X kd) (k_et kd) := by
  match kd, hk with
  | 0, _ => exact (h.1.2 0 _ rfl).1
  | 1, _ => exact (h.1.2 1 _ rfl).1
  | 2, _ => exact (h.1.2 2 _ rfl).1
  | 3, _ => exact (h.1.2 3 _ rfl).1
theorem k_cellA {X : Cx} {x : Bool} {h : PH} {H : Heap} {a kd n : Nat} {f : Nat → Int} (hR : k_Rp X x h H) (ha : h.2 a = some (.inl (kd, n, f))) (hk : kd < 4) : 0 < a ∧ H[k_ad X a]? = some (arrV (cx_A X kd) n (fun j => k_ev kd (f j))) ∧ n < 2147483648 ∧ ∀ j : Nat, j < n → k_rg kd (f j) := by
  obtain ⟨-, -, -, -, r5⟩ := hR
  obtain ⟨-, q2, q3⟩ := r5 a _ ha
  unfold k_at at q3
  split at q3
  · rename_i e; cases e; omega
  · rename_i e; cases e; exact ⟨q3.1, q3.2.2, q2.1, q2.2⟩
  · rename_i e; cases e
theorem k_cellO {X : Cx} {x : Bool} {h : PH} {H : Heap} {a ci : Nat} {fs : List PV} (hR : k_Rp X x h H) (ha : h.2 a = some (.inr (ci, fs))) : 0 < a ∧ (∃ r : vw_C, k_cl[ci]? = some r ∧ fs.length = r.2.2 ∧ t_OB (k_ad X a) (cx_C X ci) r.2.2 (cx_I X ci) H (vp_V (fs.map (k_v X)))) ∧ ∀ v ∈ fs, k_wfV v := by
  obtain ⟨-, -, -, -, r5⟩ := hR
  obtain ⟨-, q2, q3⟩ := r5 a _ ha
  exact ⟨q3.1, q3.2, q2⟩
section Steps2
variable {x : Bool} {d K N : Nat} {m : PM} {P : PO → PH → Prop} {k n pc nx : Nat} {ls : List (Option PV)} {st : List PV} {h : PH}
theorem p_get {a ci kf : Nat} {z : Int} {t : List Nat} {fs : List PV} {v : PV} (hc : k_lk (pm_c m) pc = some ((22, z, ci, kf, t), nx)) (ha : h.2 a = some (.inr (ci, fs))) (hv : fs[kf]? = some v) (kk : k_Wp x d K N m P k n nx ls (v :: st) h) : k_Wp x d K N m P k n pc ls (vR a :: st) h := by
  intro hg X p e s mi args below meth c H locs lj S hR hz hL hl hs hw
  have h0 := k_at_chk hg hc
  simp only [k_chk, Bool.and_eq_true] at h0
  obtain ⟨h0, h1⟩ := h0
  obtain ⟨hd, rfl⟩ := k_dc_ok h0
  obtain ⟨r, hr, hk, hlk⟩ := k_isfl_ok h1
  obtain ⟨-, ⟨r', hr', hlen, hob⟩, hwf⟩ := k_cellO hR ha
  have e1 : r' = r := Option.some.inj (hr'.symm.trans hr)
  subst e1
  obtain ⟨C, T, NN⟩ := r'
  have hk2 := kk hg X p e s mi args below meth c H locs lj S hR hz hL hl (k_wcons (hwf v (List.mem_of_getElem? hv)) (fun w hw => hs w (by simp [hw]))) hw
  exact va_get (D := (cx_C X, cx_I X)) (ws := [(k_ad X a, .inr (ci, fs.map (k_v X)))]) S.1 S.2.1 S.2.2.2.2.2.1 (k_cls hr).1 S.2.2.2.2.1 S.2.2.2.2.2.2.2.2.2.1.1 (fun i q hq => by
    cases i with
    | zero => cases hq; exact ⟨_, hr, hob⟩
    | succ i => simp at hq) 0 rfl hr kf hk (S.2.2.2.2.2.1 _ hlk) (fun _ h9 => h9) (by rw [List.getElem?_map, hv]; rfl) hd hk2
/-- a field's type takes a value -/
def k_fit (t : List Nat) (v : PV) : Prop := match t, v with
  | [0], .inl _ => True
  | [1], .inl z => z = 0 ∨ z = 1
  | [2], .inr (.inr _) => True
  | _, _ => False
theorem k_fit_ok {X : Cx} {ty : FieldType} {v : PV} (h : k_fit [k_fcode ty] v) : narrow ty (k_v X v) = k_v X v ∧ fits ty (k_v X v) = true := by
  cases ty <;> rcases v with z | z | z | z <;> simp only [k_fcode, k_fit] at h <;> first | exact ⟨rfl, rfl⟩ | exact ⟨n_nz h, n_fz h⟩ | exact h.elim
theorem k_setF {X : Cx} {fs : List PV} {kf : Nat} {v : PV} : (fs.map (k_v X)).set kf (k_v X v) = (fs.set kf v).map (k_v X) := by rw [List.map_set]
theorem p_put {a ci kf : Nat} {z : Int} {t : List Nat} {fs : List PV} {v : PV} (hc : k_lk (pm_c m) pc = some ((23, z, ci, kf, t), nx)) (ha : h.2 a = some (.inr (ci, fs))) (hf : k_fit t v) (kk : k_Wp x d K N m P k n nx ls st (hS h a (.inr (ci, fs.set kf v)))) : k_Wp x d K N m P k n pc ls (v :: vR a :: st) h := by
  intro hg X p e s mi args below meth c H locs lj S hR hz hL hl hs hw
  have h0 := k_at_chk hg hc
  simp only [k_chk, Bool.and_eq_true, decide_eq_true_eq] at h0
  obtain ⟨⟨⟨h0, h1⟩, rfl⟩, h2⟩ := h0
  obtain ⟨hd, rfl⟩ := k_dc_ok h0
  obtain ⟨r, hr, hk, hlk⟩ := k_isfl_ok h1
  rw [hr] at h2
  obtain ⟨ha0, ⟨r', hr', hlen, hob⟩, hwf⟩ := k_cellO hR ha
  have e1 : r' = r := Option.some.inj (hr'.symm.trans hr)
  subst e1
  obtain ⟨C, T, NN⟩ := r'
  obtain ⟨w1, w2, w3, w4⟩ := k_cls hr
  obtain ⟨f1, f2⟩ := k_fit_ok (X := X) hf
  have hKn := S.2.2.2.2.2.2.2.2.2.1
  have hv : k_wfV v := hs _ List.mem_cons_self
  have hap := va_apart (own := k_R (pm_o m)) S.2.2.2.2.2.1 w1 (k_ty ci) w2 w3 hKn.1 hr
  obtain ⟨cell, q1, q2, q3, q4⟩ := hob
  obtain ⟨hSl, hfc, kC, hkC, hkind⟩ := hKn.1.1 ci _ hr
  obtain ⟨cf, kf2, fi, f, hi, hsl⟩ := hSl kf hk
  have hst := (u_facts hfc hkC (u_lays S.2.2.2.2.2.1 w1 hk) hi).1
  have hlay := S.2.2.2.2.2.1 _ (w1 _ (u_in_lay hk))
  have fin : ∀ H' : Heap, H'[k_ad X a]? = some (cell.setSlot f.slot (k_v X v)) → H'.size = H.size → (∀ q, q ≠ k_ad X a → H'[q]? = H[q]?) →
      W p (cx_l X) e (k_rm d K N) s mi args below meth c H' (locs ++ [⟨k_ad X a, f.slot⟩]) k n (vx_MQ below (k_Q X x P) (k_XQ X P) args s K N (fun q => cx_z X ≤ q)) (F0 mi (pc + 3) lj (st.map (k_v X))) := by
    intro H' e1 e2 e3
    rw [hsl] at e1 ⊢
    refine kk hg X p e s mi args below meth c H' _ lj S (k_Rp_set (k_bz hKn) hR ha ha0 ?_ ⟨ha0, _, hr, ?_, ?_⟩ e2 e3) (by rw [e2]; exact hz) ?_ hl (fun w hw => hs w (by simp [hw])) hw
    · intro w hw
      rcases List.mem_or_eq_of_mem_set hw with h9 | h9
      · exact hwf w h9
      · rw [h9]; exact hv
    · rw [List.length_set]; exact hlen
    · rw [← k_setF]
      exact t_OB.to (V := updV (vp_V (fs.map (k_v X))) kf (k_v X v)) ⟨_, e1, q2, q3, t_set q4 hap hk _⟩ (fun j _ => vp_updV_set (by rw [List.length_map, hlen]; exact hk) _ j)
    · intro q hq
      rcases List.mem_append.mp hq with h9 | h9
      · exact hL q h9
      · rw [List.mem_singleton.mp h9]
        show cx_z X ≤ k_ad X a
        cases a with
        | zero => omega
        | succ a => simp [k_ad]
  by_cases hfin : (T kf).2.2.2 = true
  · have h5 : (pm_y m).name = "<init>" ∧ (T kf).1 = k_R (pm_o m) := by simpa [hfin] using h2
    unfold u_lay at hlay
    rw [if_pos hfin] at hlay
    have hcf : mi.cls = cf := by
      obtain ⟨_, _, c', _, _, _, -, -, hf', -, -, -, hown2, -⟩ := Cond.laysFinal_spec hlay
      have e1 : c' = cf := by have := hi.symm.trans hf'; simp at this; exact this.1.symm
      rw [h5.2] at hown2
      rw [← e1]; exact Option.some.inj (S.2.2.2.2.1.symm.trans hown2)
    have h6 := u_fits hfc hkC hkind (Or.inr hlay) hi (w2 kf hk) f1 f2
    exact W.putFinK S.1 S.2.1 S.2.2.2.2.1 (S.2.2.2.2.2.1 _ hlk) hi hst hcf (S.2.2.2.2.2.2.2.2.1.trans h5.1) (by rw [q2]; exact h6) q1 q3 (by rw [hsl]; exact k2_hasslot (q4 kf hk)) rfl rfl hd fin
  · have hfin2 : (T kf).2.2.2 = false := by simpa using hfin
    unfold u_lay at hlay
    rw [if_neg hfin] at hlay
    have h6 := u_store hfc hkC hkind hlay hi (w2 kf hk) f1 f2
    exact W.putK S.1 S.2.1 (f := f) ⟨S.2.2.2.2.1, S.2.2.2.2.2.1 _ hlk, ⟨_, _, _, hi⟩, hst⟩ (by rw [q2]; exact h6) q1 q3 (by rw [hsl]; exact k2_hasslot (q4 kf hk)) rfl rfl hd fin
theorem p_iald {a nn kd : Nat} {z i : Int} {b1 b2 : Nat} {t : List Nat} {f : Nat → Int} (hc : k_lk (pm_c m) pc = some ((24, z, b1, b2, t), nx)) (ha : h.2 a = some (.inl (kd, nn, f))) (hk : kd = 0 ∨ kd = 4) (h0 : 0 ≤ i) (h1 : i < nn) (kk : k_Wp x d K N m P k n nx ls (vI (f i.toNat) :: st) h) : k_Wp x d K N m P k n pc ls (vI i :: vR a :: st) h := by
  intro hg X p e s mi args below meth c H locs lj S hR hz hL hl hs hw
  obtain ⟨hd, rfl⟩ := k_dc_ok (k_at_chk hg hc)
  have hi : iR i := hs _ List.mem_cons_self
  have hKn := S.2.2.2.2.2.2.2.2.2.1
  have hlt : i.toNat < nn := by omega
  have hin := n_in (n := nn) hi h0 h1
  rcases hk with rfl | rfl
  · obtain ⟨-, hcell, -, hrg⟩ := k_cellA hR ha (by decide)
    have hk2 := kk hg X p e s mi args below meth c H locs lj S hR hz hL hl (k_wcons (hrg _ hlt) (fun w hw => hs w (by simp [hw]))) hw
    exact W.iald (v := .int (Int32.ofInt (f i.toNat))) S.1 S.2.1 hcell (k_arr hKn (kd := 0) (by decide) nn _) (fun q => by cases q) (by rw [arrV_size]; exact hin) (by rw [n_cl hi, arrV_read _ _ hlt]; rfl) rfl rfl hd hk2
  · have hR2 := hR.2.2.2.2 a _ ha
    obtain ⟨-, hwf, rfl, hn, hf⟩ := hR2
    subst hn
    have hX := hKn.2.2.2.2.2.2.1
    have hk2 := kk hg X p e s mi args below meth c H locs lj S hR hz hL hl (k_wcons (show iR _ by rw [hf]; exact n_rng _) (fun w hw => hs w (by simp [hw]))) hw
    have hbz := k_bz hKn
    have hsz := hKn.2.2.2.2.2.2.2.2.1
    refine va_sld (H0 := cx_H X) (A := fun q => cx_z X ≤ q) (locs := locs) S.1 S.2.1 hX (by omega) (by show ¬ cx_z X ≤ cx_b X; omega) ⟨by have := S.2.2.2.2.2.2.2.2.2.2.1; omega, fun q hq _ => hR.1 q (by omega), hL⟩ hin hd ?_
    rw [n_cl hi]
    have e1 : Int32.ofInt (f i.toNat) = cx_x X i.toNat := by rw [hf]; exact n_of _
    have e2 : ((vI (f i.toNat) :: st).map (k_v X)) = (Value.int (cx_x X i.toNat)) :: st.map (k_v X) := by
      show Value.int (Int32.ofInt (f i.toNat)) :: _ = _
      rw [e1]
    rw [e2] at hk2
    exact hk2
theorem p_bald {a nn kd : Nat} {z i : Int} {b1 b2 : Nat} {t : List Nat} {f : Nat → Int} (hc : k_lk (pm_c m) pc = some ((26, z, b1, b2, t), nx)) (ha : h.2 a = some (.inl (kd, nn, f))) (hk : kd = 1 ∨ kd = 2) (h0 : 0 ≤ i) (h1 : i < nn) (kk : k_Wp x d K N m P k n nx ls (vI (f i.toNat) :: st) h) : k_Wp x d K N m P k n pc ls (vI i :: vR a :: st) h := by
  intro hg X p e s mi args below meth c H locs lj S hR hz hL hl hs hw
  obtain ⟨hd, rfl⟩ := k_dc_ok (k_at_chk hg hc)
  have hi : iR i := hs _ List.mem_cons_self
  have hKn := S.2.2.2.2.2.2.2.2.2.1
  have hlt : i.toNat < nn := by omega
  have hin := n_in (n := nn) hi h0 h1
  rcases hk with rfl | rfl
  · obtain ⟨-, hcell, -, hrg⟩ := k_cellA hR ha (by decide)
    have hr := hrg _ hlt
    have hk2 := kk hg X p e s mi args below meth c H locs lj S hR hz hL hl (k_wcons (show iR _ from ⟨by have := hr.1; omega, by have := hr.2; omega⟩) (fun w hw => hs w (by simp [hw]))) hw
    exact W.bald (v := .int (Int32.ofInt (f i.toNat))) S.1 S.2.1 hcell (k_arr hKn (kd := 1) (by decide) nn _) (fun q => by cases q) (by rw [arrV_size]; exact hin) (by rw [n_cl hi, arrV_read _ _ hlt]; rfl) rfl rfl hd hk2
  · obtain ⟨-, hcell, -, hrg⟩ := k_cellA hR ha (by decide)
    have hr : f i.toNat = 0 ∨ f i.toNat = 1 := hrg _ hlt
    have hk2 := kk hg X p e s mi args below meth c H locs lj S hR hz hL hl (k_wcons (show iR _ from ⟨by omega, by omega⟩) (fun w hw => hs w (by simp [hw]))) hw
    exact W.zald (v := .int (Int32.ofInt (f i.toNat))) S.1 S.2.1 hcell (k_arr hKn (kd := 2) (by decide) nn _) (fun q => by cases q) (by rw [arrV_size]; exact hin) (by rw [n_cl hi, arrV_read _ _ hlt]; rfl) rfl rfl hd hk2
theorem p_lald {a nn : Nat} {z i : Int} {b1 b2 : Nat} {t : List Nat} {f : Nat → Int} (hc : k_lk (pm_c m) pc = some ((28, z, b1, b2, t), nx)) (ha : h.2 a = some (.inl (3, nn, f))) (h0 : 0 ≤ i) (h1 : i < nn) (kk : k_Wp x d K N m P k n nx ls (vL (f i.toNat) :: st) h) : k_Wp x d K N m P k n pc ls (vI i :: vR a :: st) h := by
  intro hg X p e s mi args below meth c H locs lj S hR hz hL hl hs hw
  obtain ⟨hd, rfl⟩ := k_dc_ok (k_at_chk hg hc)
  have hi : iR i := hs _ List.mem_cons_self
  have hKn := S.2.2.2.2.2.2.2.2.2.1
  have hlt : i.toNat < nn := by omega
  have hin := n_in (n := nn) hi h0 h1
  obtain ⟨-, hcell, -, hrg⟩ := k_cellA hR ha (by decide)
  have hk2 := kk hg X p e s mi args below meth c H locs lj S hR hz hL hl (k_wcons (show lR _ from hrg _ hlt) (fun w hw => hs w (by simp [hw]))) hw
  exact W.lald (v := .long (Int64.ofInt (f i.toNat))) S.1 S.2.1 hcell (k_arr hKn (kd := 3) (by decide) nn _) (fun q => by cases q) (by rw [arrV_size]; exact hin) (by rw [n_cl hi, arrV_read _ _ hlt]; rfl) rfl rfl hd hk2
theorem k_upA {X : Cx} {kd nn : Nat} {f : Nat → Int} {i : Nat} {z : Int} : (arrV (cx_A X kd) nn (fun j => k_ev kd (f j))).setSlot i (k_ev kd z) = arrV (cx_A X kd) nn (fun j => k_ev kd (fS f i z j)) := by
  rw [arrV_store]
  congr 1
  funext q
  by_cases hq : q = i
  · simp [updV, fS, hq]
  · simp [updV, fS, hq]
theorem k_wfup {kd nn : Nat} {f : Nat → Int} {i : Nat} {z : Int} (h1 : nn < 2147483648) (h2 : ∀ j : Nat, j < nn → k_rg kd (f j)) (hz : k_rg kd z) : k_wfC (.inl (kd, nn, fS f i z)) := by
  refine ⟨h1, fun j hj => ?_⟩
  show k_rg kd (fS f i z j)
  unfold fS
  split
  · exact hz
  · exact h2 j hj
theorem k_atA {X : Cx} {a kd nn : Nat} {f : Nat → Int} {H : Heap} (hk : kd < 4) (h0 : 0 < a) (hc : H[k_ad X a]? = some (arrV (cx_A X kd) nn (fun j => k_ev kd (f j)))) : k_at X a (.inl (kd, nn, f)) H := by
  unfold k_at
  split
  · rename_i e; cases e; omega
  · rename_i e; cases e; exact ⟨h0, hk, hc⟩
  · rename_i e; cases e
theorem k_locs {X : Cx} {locs : List Loc} {a i : Nat} (h0 : 0 < a) (hL : ∀ q ∈ locs, cx_z X ≤ q.base) : ∀ q ∈ locs ++ [⟨k_ad X a, i⟩], cx_z X ≤ q.base := by
  intro q hq
  rcases List.mem_append.mp hq with h9 | h9
  · exact hL q h9
  · rw [List.mem_singleton.mp h9]
    show cx_z X ≤ k_ad X a
    cases a with
    | zero => omega
    | succ a => simp [k_ad]
theorem p_iast {a nn : Nat} {z i v : Int} {b1 b2 : Nat} {t : List Nat} {f : Nat → Int} (hc : k_lk (pm_c m) pc = some ((25, z, b1, b2, t), nx)) (ha : h.2 a = some (.inl (0, nn, f))) (h0 : 0 ≤ i) (h1 : i < nn) (kk : k_Wp x d K N m P k n nx ls st (hS h a (.inl (0, nn, fS f i.toNat v)))) : k_Wp x d K N m P k n pc ls (vI v :: vI i :: vR a :: st) h := by
  intro hg X p e s mi args below meth c H locs lj S hR hz hL hl hs hw
  obtain ⟨hd, rfl⟩ := k_dc_ok (k_at_chk hg hc)
  have hv : iR v := hs _ List.mem_cons_self
  have hi : iR i := hs (vI i) (by simp)
  have hKn := S.2.2.2.2.2.2.2.2.2.1
  have hin := n_in (n := nn) hi h0 h1
  obtain ⟨ha0, hcell, hn, hrg⟩ := k_cellA hR ha (by decide)
  refine W.iast S.1 S.2.1 hcell (k_arr hKn (kd := 0) (by decide) nn _) (fun q => by cases q) (by rw [arrV_size]; exact hin) rfl rfl hd (fun H1 e1 e2 e3 => ?_)
  rw [n_cl hi] at e1 ⊢
  have e1 : H1[k_ad X a]? = some (arrV (cx_A X 0) nn (fun j => k_ev 0 (fS f i.toNat v j))) := e1.trans (congrArg some k_upA)
  exact kk hg X p e s mi args below meth c H1 _ lj S (k_Rp_set (k_bz hKn) hR ha ha0 (k_wfup hn hrg hv) (k_atA (by decide) ha0 e1) e2 e3) (by rw [e2]; exact hz) (k_locs ha0 hL) hl (fun w hw => hs w (by simp [hw])) hw
theorem p_last {a nn : Nat} {z i v : Int} {b1 b2 : Nat} {t : List Nat} {f : Nat → Int} (hc : k_lk (pm_c m) pc = some ((29, z, b1, b2, t), nx)) (ha : h.2 a = some (.inl (3, nn, f))) (h0 : 0 ≤ i) (h1 : i < nn) (kk : k_Wp x d K N m P k n nx ls st (hS h a (.inl (3, nn, fS f i.toNat v)))) : k_Wp x d K N m P k n pc ls (vL v :: vI i :: vR a :: st) h := by
  intro hg X p e s mi args below meth c H locs lj S hR hz hL hl hs hw
  obtain ⟨hd, rfl⟩ := k_dc_ok (k_at_chk hg hc)
  have hv : lR v := hs _ List.mem_cons_self
  have hi : iR i := hs (vI i) (by simp)
  have hKn := S.2.2.2.2.2.2.2.2.2.1
  have hin := n_in (n := nn) hi h0 h1
  obtain ⟨ha0, hcell, hn, hrg⟩ := k_cellA hR ha (by decide)
  refine W.last S.1 S.2.1 hcell (k_arr hKn (kd := 3) (by decide) nn _) (fun q => by cases q) (by rw [arrV_size]; exact hin) rfl rfl hd (fun H1 e1 e2 e3 => ?_)
  rw [n_cl hi] at e1 ⊢
  have e1 : H1[k_ad X a]? = some (arrV (cx_A X 3) nn (fun j => k_ev 3 (fS f i.toNat v j))) := e1.trans (congrArg some k_upA)
  exact kk hg X p e s mi args below meth c H1 _ lj S (k_Rp_set (k_bz hKn) hR ha ha0 (k_wfup hn hrg hv) (k_atA (by decide) ha0 e1) e2 e3) (by rw [e2]; exact hz) (k_locs ha0 hL) hl (fun w hw => hs w (by simp [hw])) hw
theorem p_bast {a nn kd : Nat} {z i v : Int} {b1 b2 : Nat} {t : List Nat} {f : Nat → Int} (hc : k_lk (pm_c m) pc = some ((27, z, b1, b2, t), nx)) (ha : h.2 a = some (.inl (kd, nn, f))) (hk : (kd = 1 ∧ -128 ≤ v ∧ v ≤ 127) ∨ (kd = 2 ∧ (v = 0 ∨ v = 1))) (h0 : 0 ≤ i) (h1 : i < nn) (kk : k_Wp x d K N m P k n nx ls st (hS h a (.inl (kd, nn, fS f i.toNat v)))) : k_Wp x d K N m P k n pc ls (vI v :: vI i :: vR a :: st) h := by
  intro hg X p e s mi args below meth c H locs lj S hR hz hL hl hs hw
  obtain ⟨hd, rfl⟩ := k_dc_ok (k_at_chk hg hc)
  have hi : iR i := hs (vI i) (by simp)
  have hKn := S.2.2.2.2.2.2.2.2.2.1
  have hin := n_in (n := nn) hi h0 h1
  rcases hk with ⟨rfl, hv⟩ | ⟨rfl, hv⟩
  · obtain ⟨ha0, hcell, hn, hrg⟩ := k_cellA hR ha (by decide)
    refine W.bast S.1 S.2.1 hcell (k_arr hKn (kd := 1) (by decide) nn _) (fun q => by cases q) (by rw [arrV_size]; exact hin) rfl rfl hd (fun H1 e1 e2 e3 => ?_)
    rw [n_nb hv, n_cl hi] at e1
    rw [n_cl hi]
    have e1 : H1[k_ad X a]? = some (arrV (cx_A X 1) nn (fun j => k_ev 1 (fS f i.toNat v j))) := e1.trans (congrArg some k_upA)
    exact kk hg X p e s mi args below meth c H1 _ lj S (k_Rp_set (k_bz hKn) hR ha ha0 (k_wfup hn hrg hv) (k_atA (by decide) ha0 e1) e2 e3) (by rw [e2]; exact hz) (k_locs ha0 hL) hl (fun w hw => hs w (by simp [hw])) hw
  · obtain ⟨ha0, hcell, hn, hrg⟩ := k_cellA hR ha (by decide)
    refine W.zast S.1 S.2.1 hcell (k_arr hKn (kd := 2) (by decide) nn _) (fun q => by cases q) (by rw [arrV_size]; exact hin) rfl rfl hd (fun H1 e1 e2 e3 => ?_)
    rw [n_nz hv, n_cl hi] at e1
    rw [n_cl hi]
    have e1 : H1[k_ad X a]? = some (arrV (cx_A X 2) nn (fun j => k_ev 2 (fS f i.toNat v j))) := e1.trans (congrArg some k_upA)
    exact kk hg X p e s mi args below meth c H1 _ lj S (k_Rp_set (k_bz hKn) hR ha ha0 (k_wfup hn hrg hv) (k_atA (by decide) ha0 e1) e2 e3) (by rw [e2]; exact hz) (k_locs ha0 hL) hl (fun w hw => hs w (by simp [hw])) hw
theorem p_alen {a nn kd : Nat} {z : Int} {b1 b2 : Nat} {t : List Nat} {f : Nat → Int} (hc : k_lk (pm_c m) pc = some ((30, z, b1, b2, t), nx)) (ha : h.2 a = some (.inl (kd, nn, f))) (kk : k_Wp x d K N m P k n nx ls (vI nn :: st) h) : k_Wp x d K N m P k n pc ls (vR a :: st) h := by
  intro hg X p e s mi args below meth c H locs lj S hR hz hL hl hs hw
  obtain ⟨hd, rfl⟩ := k_dc_ok (k_at_chk hg hc)
  have hKn := S.2.2.2.2.2.2.2.2.2.1
  have hn := (hR.2.2.2.2 a _ ha).2.1.1
  have hn : nn < 2147483648 := hn
  have hk2 := kk hg X p e s mi args below meth c H locs lj S hR hz hL hl (k_wcons (show iR (nn : Int) from ⟨by omega, by omega⟩) (fun w hw => hs w (by simp [hw]))) hw
  have hat := (hR.2.2.2.2 a _ ha).2.2
  have e2 : ((vI (nn : Int) :: st).map (k_v X)) = (Value.int (Int32.ofNat nn)) :: st.map (k_v X) := by
    show Value.int (Int32.ofInt (nn : Int)) :: _ = _
    rw [n_nI]; rfl
  rw [e2] at hk2
  unfold k_at at hat
  split at hat
  · rename_i e1; cases e1
    obtain ⟨rfl, rfl, -⟩ := hat
    have hX := hKn.2.2.2.2.2.2.1
    have hbz := k_bz hKn
    have hsz := hKn.2.2.2.2.2.2.2.2.1
    exact va_slen (b := cx_b X) (H0 := cx_H X) (A := fun q => cx_z X ≤ q) (locs := locs) S.1 S.2.1 hX (by omega) (by show ¬ cx_z X ≤ cx_b X; omega) ⟨by have := S.2.2.2.2.2.2.2.2.2.2.1; omega, fun q hq _ => hR.1 q (by omega), hL⟩ hd hk2
  · rename_i e1; cases e1
    obtain ⟨ha0, hk, hcell⟩ := hat
    exact W.alen S.1 S.2.1 hcell (k_arr hKn hk nn _) (by rw [arrV_size]) rfl rfl hd hk2
  · rename_i e1; cases e1
end Steps2
end
section
/-! makings, returns, the library's own, switches -/
def hN (h : PH) (c : PC) : PH := (h.1 + 1, fun b => if b = h.1 then some c else h.2 b)
theorem k_Rp_new {X : Cx} {h : PH} {H H1 : Heap} {c : PC} (hb : cx_b X < cx_z X) (hR : k_Rp X true h H) (hw : k_wfC c) (hz : H1.size = H.size + 1) (ho : ∀ q, q < H.size → H1[q]? = H[q]?) (hc : k_at X h.1 c H1) : k_Rp X true (hN h c) H1 := by
  obtain ⟨r1, r2, r3, r4, r5⟩ := hR
  have r4 := r4 rfl
  refine ⟨fun q hq => ?_, by show 0 < h.1 + 1; omega, by show cx_z X + (h.1 + 1) ≤ _; omega, fun _ => by show _ = cx_z X + (h.1 + 1); omega, fun b cb hbb => ?_⟩
  · rw [ho q (by omega)]; exact r1 q hq
  · show b < h.1 + 1 ∧ _
    have hbb : (if b = h.1 then some c else h.2 b) = some cb := hbb
    by_cases e : b = h.1
    · rw [if_pos e] at hbb
      have e2 : c = cb := Option.some.inj hbb
      rw [← e2, e]
      exact ⟨by omega, hw, hc⟩
    · rw [if_neg e] at hbb
      obtain ⟨q1, q2, q3⟩ := r5 b cb hbb
      refine ⟨by omega, q2, k_at_kept q3 (ho _ ?_)⟩
      cases b with
      | zero => show cx_b X < _; omega
      | succ b => show cx_z X + b < _; omega
theorem k_sz {X : Cx} {h : PH} {H : Heap} (hR : k_Rp X true h H) : k_ad X h.1 = H.size := by
  obtain ⟨r1, r2, r3, r4, r5⟩ := hR
  have r4 := r4 rfl
  cases e : h.1 with
  | zero => omega
  | succ b => show cx_z X + b = _; omega
section Steps3
variable {x : Bool} {d K N : Nat} {m : PM} {P : PO → PH → Prop} {k n pc nx : Nat} {ls : List (Option PV)} {st : List PV} {h : PH}
def k_dv : FieldType → PV
  | .long => vL 0
  | .object _ => vN
  | .array _ => vN
  | _ => vI 0
theorem p_newa {kd : Nat} {z i : Int} {b2 : Nat} {t : List Nat} (hc : k_lk (pm_c m) pc = some ((41, z, kd, b2, t), nx)) (h0 : 0 ≤ i) (h1 : i ≤ 60000000) (hk : k + 1 ≤ K) (hn : n + i.toNat ≤ N) (kk : k_Wp true d K N m P (k + 1) (n + i.toNat) nx ls (vR h.1 :: st) (hN h (.inl (kd, i.toNat, fun _ => 0)))) : k_Wp true d K N m P k n pc ls (vI i :: st) h := by
  intro hg X p e s mi args below meth c H locs lj S hR hz hL hl hs hw
  have h9 := k_at_chk hg hc
  have hi : iR i := hs _ List.mem_cons_self
  have hKn := S.2.2.2.2.2.2.2.2.2.1
  have hsz := k_sz hR
  have fin : ∀ (kd0 : Nat) (H' : Heap), kd0 < 4 → kd0 = kd → H'[H.size]? = some (arrV (cx_A X kd0) i.toNat (fun _ => k_ev kd0 0)) → H'.size = H.size + 1 → (∀ q, q < H.size → H'[q]? = H[q]?) →
      W p (cx_l X) e (k_rm d K N) s mi args below meth c H' locs (k + 1) (n + i.toNat) (vx_MQ below (k_Q X true P) (k_XQ X P) args s K N (fun q => cx_z X ≤ q)) (F0 mi nx lj (.ref H.size :: st.map (k_v X))) := by
    intro kd0 H' hk4 ek e1 e2 e3
    subst ek
    have := kk hg X p e s mi args below meth c H' locs lj S (k_Rp_new (k_bz hKn) hR (c := .inl (kd0, i.toNat, fun _ => 0)) ⟨by show i.toNat < _; omega, fun j _ => by
      show k_rg kd0 0
      match kd0, hk4 with
      | 0, _ => exact (by decide : iR 0)
      | 1, _ => exact (by decide : -128 ≤ (0 : Int) ∧ (0 : Int) ≤ 127)
      | 2, _ => exact Or.inl rfl
      | 3, _ => exact (by decide : lR 0)⟩ e2 e3 (k_atA hk4 hR.2.1 (by rw [hsz]; exact e1))) (by omega) hL hl (k_wcons trivial (fun w hw => hs w (by simp [hw]))) hw
    have e5 : ((vR h.1 :: st).map (k_v X)) = Value.ref H.size :: st.map (k_v X) := by
      show Value.ref (k_ad X h.1) :: _ = _
      rw [hsz]
    rw [e5] at this
    exact this
  have hcl : ∀ (kd0 : Nat), kd0 < 4 → ∀ cA : ClassId, s.vm.findClass ("[" ++ (k_et kd0).toString) = some cA → cA = cx_A X kd0 := by
    intro kd0 hk4 cA hf
    match kd0, hk4 with
    | 0, _ => exact Option.some.inj (hf.symm.trans (hKn.1.2 0 _ rfl).2)
    | 1, _ => exact Option.some.inj (hf.symm.trans (hKn.1.2 1 _ rfl).2)
    | 2, _ => exact Option.some.inj (hf.symm.trans (hKn.1.2 2 _ rfl).2)
    | 3, _ => exact Option.some.inj (hf.symm.trans (hKn.1.2 3 _ rfl).2)
  have hn0 : ¬ Int32.ofInt i < 0 := by rw [n_lt0 hi]; omega
  match kd, h9, fin with
  | 0, h9, fin =>
    obtain ⟨hd, rfl⟩ := k_dc_ok h9
    exact va_newaK S.1 S.2.1 (atype := .int) (S.2.2.2.2.2.1 _ k_ac0) rfl hd rfl hn0 (n_cl hi) (by show _ * 4 ≤ _; omega) hk hn rfl (fun H' cA e1 e2 e3 e4 e5 => fin 0 H' (by decide) rfl (by rw [← hcl 0 (by decide) cA e5]; exact e1) e2 e3)
  | 1, h9, fin =>
    obtain ⟨hd, rfl⟩ := k_dc_ok h9
    exact va_newaK S.1 S.2.1 (atype := .byte) (S.2.2.2.2.2.1 _ k_ac1) rfl hd rfl hn0 (n_cl hi) (by show _ * 1 ≤ _; omega) hk hn rfl (fun H' cA e1 e2 e3 e4 e5 => fin 1 H' (by decide) rfl (by rw [← hcl 1 (by decide) cA e5]; exact e1) e2 e3)
  | 2, h9, fin =>
    obtain ⟨hd, rfl⟩ := k_dc_ok h9
    exact va_newaK S.1 S.2.1 (atype := .boolean) (S.2.2.2.2.2.1 _ k_ac2) rfl hd rfl hn0 (n_cl hi) (by show _ * 1 ≤ _; omega) hk hn rfl (fun H' cA e1 e2 e3 e4 e5 => fin 2 H' (by decide) rfl (by rw [← hcl 2 (by decide) cA e5]; exact e1) e2 e3)
  | 3, h9, fin =>
    obtain ⟨hd, rfl⟩ := k_dc_ok h9
    exact va_newaK S.1 S.2.1 (atype := .long) (S.2.2.2.2.2.1 _ k_ac3) rfl hd rfl hn0 (n_cl hi) (by show _ * 8 ≤ _; omega) hk hn rfl (fun H' cA e1 e2 e3 e4 e5 => fin 3 H' (by decide) rfl (by rw [← hcl 3 (by decide) cA e5]; exact e1) e2 e3)
  | _ + 4, h9, fin => simp [k_chk] at h9
def k_nf (ci : Nat) : Nat := match k_cl[ci]? with | some r => r.2.2 | none => 0
def k_df (ci : Nat) : List PV := (List.range (k_nf ci)).map (fun j => k_dv (k_ty ci j))
theorem k_dv_ok (X : Cx) {ty : FieldType} (h : k_fcode ty ≠ 9) : defaultValue ty = k_v X (k_dv ty) := by
  cases ty <;> first | (exact absurd rfl h) | rfl
theorem k_dv_wf (ty : FieldType) : k_wfV (k_dv ty) := by
  cases ty <;> first | exact (by decide : iR 0) | exact (by decide : lR 0) | trivial
theorem k_tyok : ∀ ci, ci < 13 → ∀ j, j < k_nf ci → k_fcode (k_ty ci j) ≠ 9 := by decide +kernel
theorem k_ci13 {ci : Nat} {r : vw_C} (h : k_cl[ci]? = some r) : ci < 13 := (List.getElem?_eq_some_iff.mp h).1
theorem p_new {ci : Nat} {z : Int} {b2 : Nat} {t : List Nat} (hc : k_lk (pm_c m) pc = some ((40, z, ci, b2, t), nx)) (hk : k + 1 ≤ K) (hn : n + k_nf ci ≤ N) (kk : k_Wp true d K N m P (k + 1) (n + k_nf ci) nx ls (vR h.1 :: st) (hN h (.inr (ci, k_df ci)))) : k_Wp true d K N m P k n pc ls st h := by
  intro hg X p e s mi args below meth c H locs lj S hR hz hL hl hs hw
  have h0 := k_at_chk hg hc
  simp only [k_chk, Bool.and_eq_true] at h0
  obtain ⟨h0, h1⟩ := h0
  obtain ⟨hd, rfl⟩ := k_dc_ok h0
  obtain ⟨r, hr, g1, g2, g3⟩ := k_isnw_ok h1
  obtain ⟨C, T, NN⟩ := r
  have hKn := S.2.2.2.2.2.2.2.2.2.1
  have hnf : k_nf ci = NN := by unfold k_nf; rw [hr]
  rw [hnf] at hn kk
  obtain ⟨w1, w2, w3, w4⟩ := k_cls hr
  have hKc := hKn.1.1 ci _ hr
  have hsz := k_sz hR
  refine W.newcK S.1 S.2.1 S.2.2.2.2.1 (S.2.2.2.2.2.1 _ g1) (S.2.2.2.2.2.1 _ g2) (S.2.2.2.2.2.1 _ g3) rfl hd hk hn hKc.2.1 rfl (fun H1 kC hkC e1 e2 e3 => ?_)
  have e5 : ((vR h.1 :: st).map (k_v X)) = Value.ref H.size :: st.map (k_v X) := by
    show Value.ref (k_ad X h.1) :: _ = _
    rw [hsz]
  have := kk hg X p e s mi args below meth c H1 locs lj S (k_Rp_new (k_bz hKn) hR (c := .inr (ci, k_df ci)) (fun v hv => by
    obtain ⟨j, -, rfl⟩ := List.mem_map.mp hv
    exact k_dv_wf _) e2 e3 ⟨hR.2.1, _, hr, by simp [k_df, hnf], by
      rw [hsz]
      refine (u_born (k_ty ci) S.2.2.2.2.2.1 w1 hKc hkC e1 w2).to (fun j hj => ?_)
      have hj : j < NN := hj
      rw [k_dv_ok X (k_tyok ci (k_ci13 hr) j (by rw [hnf]; exact hj))]
      show _ = vp_V _ j
      unfold vp_V k_df
      rw [List.map_map, List.getD_eq_getElem?_getD, List.getElem?_map, List.getElem?_range (by rw [hnf]; exact hj)]
      rfl⟩) (by omega) hL hl (k_wcons trivial hs) hw
  rw [e5] at this
  exact this
theorem p_iret {z v : Int} {b1 b2 : Nat} {t : List Nat} (hc : k_lk (pm_c m) pc = some ((36, z, b1, b2, t), nx)) (hr : pm_r m = some .int ∨ (pm_r m = some .boolean ∧ (v = 0 ∨ v = 1))) (hk : k ≤ K) (hn : n ≤ N) (hP : P (.inl (some (vI v))) h) : k_Wp x d K N m P k n pc ls [vI v] h := by
  intro hg X p e s mi args below meth c H locs lj S hR hz hL hl hs hw
  obtain ⟨hd, rfl⟩ := k_dc_ok (k_at_chk hg hc)
  refine W.widen hk hn (vx_ret ?_)
  have hq : ∀ t : State, t.heap = H → s.WarmedH t.vm → k_Q X x P args s (.returned (some (.int (Int32.ofInt v)))) t := fun t ht _ => ⟨some (vI v), h, rfl, hP, fun w e => by cases e; exact hs _ List.mem_cons_self, by rw [ht]; exact hR, by rw [ht]; exact hz⟩
  rcases hr with hr | ⟨hr, hv⟩
  · exact W.iret S.1 S.2.1 (S.2.2.1.trans hr) hq hL hd S.2.2.2.2.2.2.1
  · exact W.zret S.1 S.2.1 (S.2.2.1.trans hr) (n_nz hv) hq hL hd S.2.2.2.2.2.2.1
theorem p_lret {z v : Int} {b1 b2 : Nat} {t : List Nat} (hc : k_lk (pm_c m) pc = some ((37, z, b1, b2, t), nx)) (hr : pm_r m = some .long) (hk : k ≤ K) (hn : n ≤ N) (hP : P (.inl (some (vL v))) h) : k_Wp x d K N m P k n pc ls [vL v] h := by
  intro hg X p e s mi args below meth c H locs lj S hR hz hL hl hs hw
  obtain ⟨hd, rfl⟩ := k_dc_ok (k_at_chk hg hc)
  refine W.widen hk hn (vx_ret ?_)
  exact W.lret S.1 S.2.1 (S.2.2.1.trans hr) (fun t ht _ => ⟨some (vL v), h, rfl, hP, fun w e => by cases e; exact hs _ List.mem_cons_self, by rw [ht]; exact hR, by rw [ht]; exact hz⟩) hL hd S.2.2.2.2.2.2.1
def k_isref : Option FieldType → Bool
  | some (.object _) => true
  | some (.array _) => true
  | _ => false
theorem p_aret {z : Int} {a b1 b2 : Nat} {t : List Nat} (hc : k_lk (pm_c m) pc = some ((38, z, b1, b2, t), nx)) (hr : k_isref (pm_r m) = true) (hk : k ≤ K) (hn : n ≤ N) (hP : P (.inl (some (vR a))) h) : k_Wp x d K N m P k n pc ls [vR a] h := by
  intro hg X p e s mi args below meth c H locs lj S hR hz hL hl hs hw
  obtain ⟨hd, rfl⟩ := k_dc_ok (k_at_chk hg hc)
  refine W.widen hk hn (vx_ret ?_)
  have hr2 : ∃ rt, pm_r m = some rt ∧ ((∃ n, rt = .object n) ∨ ∃ t, rt = .array t) := by
    unfold k_isref at hr
    split at hr
    · rename_i e1; exact ⟨_, e1, Or.inl ⟨_, rfl⟩⟩
    · rename_i e1; exact ⟨_, e1, Or.inr ⟨_, rfl⟩⟩
    · cases hr
  obtain ⟨rt, e1, e2⟩ := hr2
  exact W.aret S.1 S.2.1 (S.2.2.1.trans e1) e2 (Or.inr ⟨_, rfl⟩) (fun t ht _ => ⟨some (vR a), h, rfl, hP, fun w e => by cases e; trivial, by rw [ht]; exact hR, by rw [ht]; exact hz⟩) hL hd S.2.2.2.2.2.2.1
theorem p_vret {z : Int} {b1 b2 : Nat} {t : List Nat} (hc : k_lk (pm_c m) pc = some ((39, z, b1, b2, t), nx)) (hr : pm_r m = none) (hk : k ≤ K) (hn : n ≤ N) (hP : P (.inl none) h) : k_Wp x d K N m P k n pc ls [] h := by
  intro hg X p e s mi args below meth c H locs lj S hR hz hL hl hs hw
  obtain ⟨hd, rfl⟩ := k_dc_ok (k_at_chk hg hc)
  refine W.widen hk hn (vx_ret ?_)
  exact W.vret S.1 S.2.1 (S.2.2.1.trans hr) (fun t ht _ => ⟨none, h, rfl, hP, fun w e => by (cases e), by rw [ht]; exact hR, by rw [ht]; exact hz⟩) hL hd S.2.2.2.2.2.2.1
def k_cs (st : List PV) : Nat := (st.map (fun v => match v with | .inr (.inl _) => 2 | _ => 1)).sum
theorem k_cs_eq (X : Cx) (st : List PV) : ((st.map (k_v X)).map fun v => v.category).sum = k_cs st := by
  unfold k_cs
  rw [List.map_map]
  congr 1
  apply List.map_congr_left
  intro v _
  rcases v with z | z | z | z <;> rfl
theorem p_min {u v z : Int} {b1 b2 : Nat} {t : List Nat} (hc : k_lk (pm_c m) pc = some ((44, z, b1, b2, t), nx)) (hd1 : 1 ≤ d) (hcs : k_cs st ≤ 40) (hk : k ≤ K) (hn : n ≤ N) (kk : k_Wp x d K N m P k n nx ls (vI (if v < u then v else u) :: st) h) : k_Wp x d K N m P k n pc ls (vI v :: vI u :: st) h := by
  intro hg X p e s mi args below meth c H locs lj S hR hz hL hl hs hw
  have h0 := k_at_chk hg hc
  simp only [k_chk, Bool.and_eq_true] at h0
  obtain ⟨h0, h1⟩ := h0
  obtain ⟨hd, rfl⟩ := k_dc_ok h0
  have hv : iR v := hs _ List.mem_cons_self
  have hu : iR u := hs (vI u) (by simp)
  have hk2 := kk hg X p e s mi args below meth c H locs lj S hR hz hL hl (k_wcons (show iR _ by split <;> assumption) (fun w hw => hs w (by simp [hw]))) hw
  refine va_mmin S.1 S.2.1 (by rw [S.2.2.2.1]; exact hl.1.symm) S.2.2.2.2.1 (S.2.2.2.2.2.1 _ (k_ismn_ok h1)) (S.2.2.2.2.2.1 _ k_wmn1) (S.2.2.2.2.2.1 _ k_wm0) (S.2.2.2.2.2.1 _ k_wmmin2) hd1 (by rw [k_cs_eq]; show _ ≤ 64 * d; omega) hk hn hd ?_
  rw [n_min hu hv]
  exact hk2
theorem p_max {u v z : Int} {b1 b2 : Nat} {t : List Nat} (hc : k_lk (pm_c m) pc = some ((45, z, b1, b2, t), nx)) (hd1 : 1 ≤ d) (hcs : k_cs st ≤ 40) (hk : k ≤ K) (hn : n ≤ N) (kk : k_Wp x d K N m P k n nx ls (vI (if u < v then v else u) :: st) h) : k_Wp x d K N m P k n pc ls (vI v :: vI u :: st) h := by
  intro hg X p e s mi args below meth c H locs lj S hR hz hL hl hs hw
  have h0 := k_at_chk hg hc
  simp only [k_chk, Bool.and_eq_true] at h0
  obtain ⟨h0, h1⟩ := h0
  obtain ⟨hd, rfl⟩ := k_dc_ok h0
  have hv : iR v := hs _ List.mem_cons_self
  have hu : iR u := hs (vI u) (by simp)
  have hk2 := kk hg X p e s mi args below meth c H locs lj S hR hz hL hl (k_wcons (show iR _ by split <;> assumption) (fun w hw => hs w (by simp [hw]))) hw
  refine va_mmax S.1 S.2.1 (by rw [S.2.2.2.1]; exact hl.1.symm) S.2.2.2.2.1 (S.2.2.2.2.2.1 _ (k_ismx_ok h1)) (S.2.2.2.2.2.1 _ k_wmx1) (S.2.2.2.2.2.1 _ k_wm0) (S.2.2.2.2.2.1 _ k_wmmax2) hd1 (by rw [k_cs_eq]; show _ ≤ 64 * d; omega) hk hn hd ?_
  rw [n_max hu hv]
  exact hk2
theorem p_oinit {a : Nat} {z : Int} {b1 b2 : Nat} {t : List Nat} (hc : k_lk (pm_c m) pc = some ((47, z, b1, b2, t), nx)) (hd1 : 1 ≤ d) (hcs : k_cs st ≤ 40) (kk : k_Wp x d K N m P k n nx ls st h) : k_Wp x d K N m P k n pc ls (vR a :: st) h := by
  intro hg X p e s mi args below meth c H locs lj S hR hz hL hl hs hw
  have h0 := k_at_chk hg hc
  simp only [k_chk, Bool.and_eq_true] at h0
  obtain ⟨h0, h1⟩ := h0
  obtain ⟨hd, rfl⟩ := k_dc_ok h0
  have hk2 := kk hg X p e s mi args below meth c H locs lj S hR hz hL hl (fun w hw => hs w (by simp [hw])) hw
  exact W.objInit S.1 S.2.1 S.2.2.2.2.1 (S.2.2.2.2.2.1 _ (k_isoi_ok h1)) (S.2.2.2.2.2.1 _ k_wo1) (S.2.2.2.2.2.1 _ k_wo2) rfl (by rw [S.2.2.2.1]; exact hl.1) rfl hd hd1 (by rw [k_cs_eq]; show 2 * 0 + _ + 12 ≤ 64 * d; omega) hk2
/-- a switch over a row of numbers -/
def k_sw (z : Int) (kt : Nat → Prop) (dt : Nat) : Int → List Nat → Prop
  | _, [] => kt dt
  | lo, t :: ts => (z = lo → kt t) ∧ (¬ z = lo → k_sw z kt dt (lo + 1) ts)
theorem k_sw_in {z : Int} {kt : Nat → Prop} {dt : Nat} : ∀ (ts : List Nat) (lo : Int), k_sw z kt dt lo ts → (∀ (j : Nat) (t : Nat), ts[j]? = some t → z = lo + j → kt t) ∧ ((z < lo ∨ lo + ts.length ≤ z) → kt dt)
  | [], lo, h => ⟨fun j t hj => by simp at hj, fun _ => h⟩
  | t :: ts, lo, h => by
    by_cases hz : z = lo
    · refine ⟨fun j t' hj e => ?_, fun q => ?_⟩
      · have hj0 : j = 0 := by omega
        subst hj0
        cases hj
        exact h.1 hz
      · rw [List.length_cons] at q; omega
    · obtain ⟨i1, i2⟩ := k_sw_in ts (lo + 1) (h.2 hz)
      refine ⟨fun j t' hj e => ?_, fun q => i2 ?_⟩
      · cases j with
        | zero => omega
        | succ j => exact i1 j t' hj (by omega)
      · rw [List.length_cons] at q; omega
theorem p_tsw {z lo : Int} {dt ln : Nat} {ts : List Nat} (hc : k_lk (pm_c m) pc = some ((42, lo, dt, ln, ts), nx)) (kk : k_sw z (fun t => k_Wp x d K N m P k n t ls st h) dt lo ts) : k_Wp x d K N m P k n pc ls (vI z :: st) h := by
  intro hg X p e s mi args below meth c H locs lj S hR hz hL hl hs hw
  obtain ⟨hd, -⟩ := k_dc_ok (k_at_chk hg hc)
  have hi : iR z := hs _ List.mem_cons_self
  obtain ⟨k1, k2⟩ := k_sw_in ts lo kk
  have go := fun (t : Nat) (q : k_Wp x d K N m P k n t ls st h) => q hg X p e s mi args below meth c H locs lj S hR hz hL hl (fun w hw => hs w (by simp [hw])) hw
  by_cases hin : z < lo ∨ lo + ts.length ≤ z
  · exact lv_tableOut S.1 S.2.1 hd (by rw [n_t hi]; omega) (tgt := dt) (by unfold k_jmp; omega) (go dt (k2 hin))
  · have hj : (z - lo).toNat < ts.length := by omega
    have hjj := List.getElem?_eq_getElem hj
    refine lv_tableIn S.1 S.2.1 hd (by rw [n_t hi]; omega) (by rw [n_t hi]; omega) (off := k_jmp pc (ts[(z - lo).toNat])) (tgt := ts[(z - lo).toNat]) ?_ (by unfold k_jmp; omega) (go _ (k1 _ _ hjj (by omega)))
    rw [n_t hi, List.getElem?_toArray, List.getElem?_map, hjj]
    rfl
end Steps3
end
section
/-! a method's contract; calls; copies; throws -/
theorem k_cpyI (f g : Nat → Int) (sp dp n : Nat) : va_cpy (fun j => Int32.ofInt (f j)) (fun j => Int32.ofInt (g j)) sp dp n = fun j => Int32.ofInt (va_cpy f g sp dp n j) := by
  funext j
  unfold va_cpy
  split <;> rfl
section Steps4
variable {x : Bool} {d K N : Nat} {m : PM} {P : PO → PH → Prop} {k n pc nx : Nat} {ls : List (Option PV)} {st : List PV} {h : PH}
theorem p_copy {a b n0 n1 : Nat} {f g : Nat → Int} {sp dp nn z : Int} {b1 b2 : Nat} {t : List Nat} (hc : k_lk (pm_c m) pc = some ((46, z, b1, b2, t), nx)) (ha : h.2 a = some (.inl (0, n0, f))) (hb : h.2 b = some (.inl (0, n1, g))) (h1 : 0 ≤ sp) (h2 : 0 ≤ dp) (h3 : 0 ≤ nn) (h4 : sp + nn ≤ n0) (h5 : dp + nn ≤ n1) (hd1 : 1 ≤ d) (hcs : k_cs st ≤ 40)
    (kk : k_Wp x d K N m P k n nx ls st (hS h b (.inl (0, n1, va_cpy f g sp.toNat dp.toNat nn.toNat)))) : k_Wp x d K N m P k n pc ls (vI nn :: vI dp :: vR b :: vI sp :: vR a :: st) h := by
  intro hg X p e s mi args below meth c H locs lj S hR hz hL hl hs hw
  have h0 := k_at_chk hg hc
  simp only [k_chk, Bool.and_eq_true] at h0
  obtain ⟨h0, h6⟩ := h0
  obtain ⟨hd, rfl⟩ := k_dc_ok h0
  have hKn := S.2.2.2.2.2.2.2.2.2.1
  have r1 : iR nn := hs _ List.mem_cons_self
  have r2 : iR dp := hs (vI dp) (by simp)
  have r3 : iR sp := hs (vI sp) (by simp)
  obtain ⟨ha0, hca, hna, hra⟩ := k_cellA hR ha (by decide)
  obtain ⟨hb0, hcb, hnb, hrb⟩ := k_cellA hR hb (by decide)
  intro T hT XX
  have nn' : ∀ {v : Int}, iR v → 0 ≤ v → (Int32.ofInt v).toInt = ((Int32.ofInt v).toNatClampNeg : Int) := fun hv h => by rw [n_t hv, n_cl hv]; omega
  obtain ⟨-, k0, hk0, cm0, hkk0⟩ := k_arr hKn (kd := 0) (by decide) n0 (fun j => k_ev 0 (f j))
  obtain ⟨-, k1, hk1, cm1, hkk1⟩ := k_arr hKn (kd := 0) (by decide) n1 (fun j => k_ev 0 (g j))
  obtain ⟨vm', X', step⟩ := XX.arraycopy S.1 S.2.2.2.2.1 (S.2.2.2.2.2.1 _ (k_iscp_ok h6)) (S.2.2.2.2.2.1 _ k_wc1) (S.2.2.2.2.2.1 _ k_wc2) (S.2.2.2.2.2.1 _ k_wc3) (src := k_ad X a) (dst := k_ad X b) (cs := vp_cell (cx_A X 0) (n0, .inl (fun j => Int32.ofInt (f j)))) (cd := vp_cell (cx_A X 0) (n1, .inl (fun j => Int32.ofInt (g j)))) (srcPos := Int32.ofInt sp) (destPos := Int32.ofInt dp) (n := Int32.ofInt nn) (by rw [hT]; exact hca) (by rw [hT]; exact hcb)
    (fun _ h => by cases h) (fun _ h => by cases h) (fun h => by cases h) (fun h => by cases h) hk0 hk1 hkk0 hkk1 (by simp [k_et, refKind]) (by rw [n_lt0 r3]; omega) (by rw [n_lt0 r2]; omega) (by rw [n_lt0 r1]; omega)
    (by rw [nn' r3 h1, nn' r1 h3, n_cl r3, n_cl r1]; show ¬ _ > ((arrV (cx_A X 0) n0 (fun j => .int (Int32.ofInt (f j)))).slots.size : Int); rw [arrV_size]; omega)
    (by rw [nn' r2 h2, nn' r1 h3, n_cl r2, n_cl r1]; show ¬ _ > ((arrV (cx_A X 0) n1 (fun j => .int (Int32.ofInt (g j)))).slots.size : Int); rw [arrV_size]; omega)
    (fun vm₁ _ i hi => by
      rw [n_cl r1] at hi
      rw [n_cl r3]
      have e : (vp_cell (cx_A X 0) (n0, .inl (fun j => Int32.ofInt (f j)))).slots.getD (sp.toNat + i) .null = .int (Int32.ofInt (f (sp.toNat + i))) := by
        show (arrV (cx_A X 0) n0 (fun j => .int (Int32.ofInt (f j)))).slots.getD _ _ = _
        rw [Array.getD_eq_getD_getElem?, arrV_read _ _ (by omega)]
        rfl
      refine ⟨?_, ?_⟩
      · rw [e]; rfl
      · rw [e]; exact trivial)
    (g := F0 mi pc lj (.int (Int32.ofInt nn) :: .int (Int32.ofInt dp) :: .ref (k_ad X b) :: .int (Int32.ofInt sp) :: .ref (k_ad X a) :: st.map (k_v X))) rfl (by rw [S.2.2.2.1]; exact hl.1) (rest := st.map (k_v X)) rfl (by rw [S.2.1]; exact hd) hd1 (by rw [k_cs_eq]; show 2 * 0 + _ + (7 + 11) ≤ 64 * d; omega)
  have e1 : copied (vp_cell (cx_A X 0) (n0, .inl (fun j => Int32.ofInt (f j)))) (vp_cell (cx_A X 0) (n1, .inl (fun j => Int32.ofInt (g j)))) (Int32.ofInt sp) (Int32.ofInt dp) (Int32.ofInt nn) = arrV (cx_A X 0) n1 (fun j => k_ev 0 (va_cpy f g sp.toNat dp.toNat nn.toNat j)) := by
    have e0 : copied (vp_cell (cx_A X 0) (n0, .inl (fun j => Int32.ofInt (f j)))) (vp_cell (cx_A X 0) (n1, .inl (fun j => Int32.ofInt (g j)))) (Int32.ofInt sp) (Int32.ofInt dp) (Int32.ofInt nn) = vp_cell (cx_A X 0) (n1, .inl (va_cpy (fun j => Int32.ofInt (f j)) (fun j => Int32.ofInt (g j)) (Int32.ofInt sp).toNatClampNeg (Int32.ofInt dp).toNatClampNeg (Int32.ofInt nn).toNatClampNeg)) := va_copied (fun z => .int z) (cx_A X 0) (cx_A X 0) (fun j => Int32.ofInt (f j)) (fun j => Int32.ofInt (g j)) (by rw [n_cl r3, n_cl r1]; omega)
    rw [e0, n_cl r3, n_cl r2, n_cl r1, k_cpyI]
    rfl
  rw [e1] at X' step
  have hlt : k_ad X b < H.size := (Array.getElem?_eq_some_iff.mp hcb).1
  have hheap : ((T.setVm vm').setCell (k_ad X b) (arrV (cx_A X 0) n1 (fun j => k_ev 0 (va_cpy f g sp.toNat dp.toNat nn.toNat j)))).heap = H.setIfInBounds (k_ad X b) (arrV (cx_A X 0) n1 (fun j => k_ev 0 (va_cpy f g sp.toNat dp.toNat nn.toNat j))) := by rw [← hT]; rfl
  have hcell : (H.setIfInBounds (k_ad X b) (arrV (cx_A X 0) n1 (fun j => k_ev 0 (va_cpy f g sp.toNat dp.toNat nn.toNat j))))[k_ad X b]? = some (arrV (cx_A X 0) n1 (fun j => k_ev 0 (va_cpy f g sp.toNat dp.toNat nn.toNat j))) := by simp [Array.getElem?_setIfInBounds, hlt]
  have oq : ∀ q : Nat, q ≠ k_ad X b → (H.setIfInBounds (k_ad X b) (arrV (cx_A X 0) n1 (fun j => k_ev 0 (va_cpy f g sp.toNat dp.toNat nn.toNat j))))[q]? = H[q]? := fun q hq => by simp [Array.getElem?_setIfInBounds, Ne.symm hq]
  have hwf : k_wfC (.inl (0, n1, va_cpy f g sp.toNat dp.toNat nn.toNat)) := by
    refine ⟨hnb, fun j hj => ?_⟩
    show k_rg 0 (va_cpy f g sp.toNat dp.toNat nn.toNat j)
    unfold va_cpy
    split
    · exact hra _ (by omega)
    · exact hrb j hj
  obtain ⟨t9, a1, b1⟩ := kk hg X p e s mi args below meth c _ _ lj S (k_Rp_set (k_bz hKn) hR hb hb0 hwf (k_atA (by decide) hb0 hcell) (by simp) oq) (by simp; exact hz) (fun q hq => by
      rcases List.mem_append.mp hq with h9 | h9
      · exact hL q h9
      · obtain ⟨z9, -, hz9⟩ := List.mem_map.mp h9
        rw [← hz9]
        show cx_z X ≤ k_ad X b
        cases b with
        | zero => omega
        | succ b => simp [k_ad]) hl (fun w hw => hs w (by simp [hw])) hw _ hheap X'
  exact ⟨t9, step t9 a1, b1⟩
/-- a method's contract: from these arguments and this heap it ends as P says; it makes at most K cells of N slots; at most d calls stand open over it -/
def k_Ev (x : Bool) (d K N : Nat) (m : PM) (as : List PV) (h : PH) (P : PO → PH → Prop) : Prop :=
  k_good m → ∀ X : Cx, (∀ v ∈ as, k_wfV v) → vx_Met (cx_l X) (pm_y m) (k_ws m) (k_rm d K N) (fun v U => v = (as.map (k_v X)).toArray ∧ k_Rp X x h U.heap ∧ k_Kn X U) (k_Q X x P) (k_XQ X P) K N (fun q => cx_z X ≤ q)
def k_en : List PV → List (Option PV)
  | [] => []
  | .inr (.inl z) :: t => some (vL z) :: none :: k_en t
  | v :: t => some v :: k_en t
theorem k_en_lv (X : Cx) : ∀ (as : List PV) (i : Nat), k_lv X i (k_en as) = lv_args i (as.map (k_v X)) ∧ (lg_sl (as.map (k_v X))).length = (k_en as).length
  | [], i => ⟨rfl, rfl⟩
  | v :: t, i => by
    rcases v with z | z | z | z
    · have := k_en_lv X t (i + 1)
      refine ⟨?_, ?_⟩
      · simp only [k_en, k_lv, List.map_cons, lv_args]
        rw [this.1]; rfl
      · simp only [k_en, List.map_cons, lg_sl, List.flatMap_cons, List.length_append, List.length_cons]
        rw [← this.2]; simp [k_v, Value.category, lg_sl]; omega
    · have := k_en_lv X t (i + 2)
      refine ⟨?_, ?_⟩
      · simp only [k_en, k_lv, List.map_cons, lv_args]
        rw [this.1]; rfl
      · simp only [k_en, List.map_cons, lg_sl, List.flatMap_cons, List.length_append, List.length_cons]
        rw [← this.2]; simp [k_v, Value.category, lg_sl]; omega
    · have := k_en_lv X t (i + 1)
      refine ⟨?_, ?_⟩
      · simp only [k_en, k_lv, List.map_cons, lv_args]
        rw [this.1]; rfl
      · simp only [k_en, List.map_cons, lg_sl, List.flatMap_cons, List.length_append, List.length_cons]
        rw [← this.2]; simp [k_v, Value.category, lg_sl]; omega
    · have := k_en_lv X t (i + 1)
      refine ⟨?_, ?_⟩
      · simp only [k_en, k_lv, List.map_cons, lv_args]
        rw [this.1]; rfl
      · simp only [k_en, List.map_cons, lg_sl, List.flatMap_cons, List.length_append, List.length_cons]
        rw [← this.2]; simp [k_v, Value.category, lg_sl]; omega
theorem k_en_mem : ∀ (as : List PV) (j : Nat) (v : PV), k_get (k_en as) j = some v → v ∈ as
  | [], j, v, h => by simp [k_en, k_get] at h
  | w :: t, j, v, h => by
    rcases w with z | z | z | z <;> rcases j with _ | j <;> simp only [k_en, k_get] at h
    · cases h; simp
    · exact List.mem_cons_of_mem _ (k_en_mem t j v h)
    · cases h; simp
    · rcases j with _ | j <;> simp only [k_get] at h
      · cases h
      · exact List.mem_cons_of_mem _ (k_en_mem t j v h)
    · cases h; simp
    · exact List.mem_cons_of_mem _ (k_en_mem t j v h)
    · cases h; simp
    · exact List.mem_cons_of_mem _ (k_en_mem t j v h)
theorem k_ent {as : List PV} (hlen : (k_en as).length ≤ pm_n m) (kk : k_Wp x d K N m P 0 0 0 (k_en as) [] h) : k_Ev x d K N m as h P := by
  intro hg X hwf
  have main : ∀ (p : Program) (e : Env) (s : State) (mi : MethodId) (args : Array Value) (below : List Frame) (meth : Method) (c : Code) (s₁ : State), BodyLoose p (cx_l X) (pm_y m) (headSpec (k_ws m) (k_rm d K N)) (pm_b m) (pm_n m) (pm_r m) e s mi args below meth c s₁ → c.maxLocals = pm_n m → c.exceptionTable.toList = tableOf (pm_h m) → (args = (as.map (k_v X)).toArray ∧ k_Rp X x h s.heap ∧ k_Kn X s) →
      W p (cx_l X) e (headSpec (k_ws m) (k_rm d K N)).room s mi args below meth c s.heap [] 0 0 (vx_MQ below (k_Q X x P) (k_XQ X P) args s K N (fun q => cx_z X ≤ q)) (entryFrame mi args (pm_n m)) := by
    intro p e s mi args below meth c s₁ B hml hex hpre
    obtain ⟨rfl, hR, hKn⟩ := hpre
    have hts := atoms_spec (ws := k_ws m) B.pre
    have hle := hR.2.2.1
    have hpos := hR.2.1
    rw [lg_entry_eq]
    have hl := lv_entry (as.map (k_v X)) (n := pm_n m) (by rw [(k_en_lv X as 0).2]; exact hlen)
    rw [← (k_en_lv X as 0).1] at hl
    exact kk hg X p e s mi _ below meth c s.heap [] _ ⟨B.exec, B.bytes, B.returns, hml, by rw [← hg.2.2.2]; exact findClass_of_methodNamed B.named, fun w hw => hts w (List.mem_cons_of_mem _ hw), B.notSynchronized, hex, (name_of_methodNamed B.named B.method).1, hKn, by omega, hR.1⟩ hR (Nat.le_refl _) (fun q hq => by cases hq) hl (fun v hv => by cases hv) (fun j v hj => hwf v (k_en_mem as j v hj))
  by_cases hh : pm_h m = []
  · refine vx_ofW (cc := pm_b m) (maxL := pm_n m) (ret := pm_r m) hg.2.2.1 (ws' := k_tb) (by unfold k_ws k_cw; rw [hh]) ?_
    intro p e s mi args below meth c s₁ B hml hex hpre
    exact main p e s mi args below meth c s₁ B hml (by rw [hh]; exact List.eq_nil_iff_forall_not_mem.mpr (fun q hq => hex q hq)) hpre
  · have hcw : k_cw m = Cond.codeWith (pm_y m) (pm_b m) (pm_n m) (pm_r m) (pm_h m) := by
      unfold k_cw
      split
      · rename_i e1; exact absurd e1 hh
      · rfl
    refine vx_ofWH (cc := pm_b m) (maxL := pm_n m) (ret := pm_r m) (hh := pm_h m) hg.2.2.1 (ws' := k_tb) (by unfold k_ws; rw [hcw]) ?_
    intro p e s mi args below meth c s₁ B hml hpre
    exact main p e s mi args below meth c s₁ B hml (vx_table (x := pm_y m) B (by have := atoms_spec (ws := k_ws m) B.pre _ List.mem_cons_self; rw [hcw] at this; exact this)) hpre
end Steps4
end
section
/-! calls -/
def k_yok (m' : PM) (n : Nat) : Prop := pm_h m' = [] ∧ ((pm_y m').cls ≠ "java/lang/invoke/MethodHandle" ∧ (pm_y m').cls ≠ "java/lang/invoke/VarHandle" ∧ (parseMethodDescriptor (pm_y m').desc).map (fun d => d.parameters.length) = some n) ∧ pm_n m' ≤ 45 ∧ Cond.initialized (pm_y m').cls ∈ k_tb ∧ k_good m'
/-- the method of that number of the pool is m', with so many parameters: a virtual one, a static one, a constructor; the latter two of a nest mate -/
def k_LV (oi idx : Nat) (m' : PM) (n : Nat) : Prop := Cond.methodLink (k_R oi) idx (pm_y m') ∈ k_tb ∧ Cond.instanceMethod (pm_y m') ∈ k_tb ∧ Cond.selects (pm_y m').cls (pm_y m') (pm_y m') ∈ k_tb ∧ k_yok m' n
def k_LS (oi idx : Nat) (m' : PM) (n : Nat) : Prop := Cond.methodLink (k_R oi) idx (pm_y m') ∈ k_tb ∧ Cond.static (pm_y m') ∈ k_tb ∧ k_yok m' n
def k_LI (oi idx : Nat) (m' : PM) (n : Nat) : Prop := Cond.methodLink (k_R oi) idx (pm_y m') ∈ k_tb ∧ Cond.instanceMethod (pm_y m') ∈ k_tb ∧ (pm_y m').name = "<init>" ∧ pm_r m' = none ∧ k_yok m' n
def k_LSN (oi idx : Nat) (m' : PM) (n : Nat) : Prop := (oi, idx, pm_y m') ∈ k_nest ∧ Cond.static (pm_y m') ∈ k_tb ∧ k_yok m' n
def k_LIN (oi idx : Nat) (m' : PM) (n : Nat) : Prop := (oi, idx, pm_y m') ∈ k_nest ∧ Cond.instanceMethod (pm_y m') ∈ k_tb ∧ (pm_y m').name = "<init>" ∧ pm_r m' = none ∧ k_yok m' n
theorem k_yok_ws {m' : PM} {n : Nat} (h : k_yok m' n) : k_ws m' = Cond.code (pm_y m') (pm_b m') (pm_n m') (pm_r m') :: k_tb := by
  unfold k_ws k_cw; rw [h.1]
theorem k_yok_in {m' : PM} {n : Nat} (h : k_yok m' n) : ∀ w ∈ k_ws m', w ∈ k_tb := by
  intro w hw
  rcases List.mem_cons.mp hw with rfl | hw
  · exact h.2.2.2.2.2.1
  · exact hw
/-- a contract that never throws, as the kit's own -/
theorem k_Met {x : Bool} {d K N : Nat} {m : PM} {as : List PV} {h : PH} {P : PO → PH → Prop} (hev : k_Ev x d K N m as h P) (hno : ∀ E h', ¬ P (.inr E) h') (hg : k_good m) (X : Cx) (hwf : ∀ v ∈ as, k_wfV v) :
    Met (cx_l X) (pm_y m) (k_ws m) (k_rm d K N) (fun v U => v = (as.map (k_v X)).toArray ∧ k_Rp X x h U.heap ∧ k_Kn X U) (k_Q X x P) K N (fun q => cx_z X ≤ q) := by
  intro p e h1 h2 h3 s m' args below h4 h5 h6 h7
  obtain ⟨n, o, a1, a2, a3, a4⟩ := hev hg X hwf p e h1 h2 h3 s m' args below h4 h5 h6 h7
  refine ⟨n, o, a1, a2, a3, ?_⟩
  rcases a4 with a4 | ⟨q, -, E, ce, L, ⟨h', hP, -⟩, -⟩
  · exact a4
  · exact absurd hP (hno E h')
theorem k_blind (X : Cx) (x : Bool) (h : PH) (av : List Value) : FrameBlind (fun v U => v = av.toArray ∧ k_Rp X x h U.heap ∧ k_Kn X U) := by
  intro a U g mk hp
  exact ⟨hp.1, hp.2.1, k_Kn.warm (s := U) (U := U.calling g mk a) (State.WarmedH.refl U) hp.2.2⟩
section Calls9
variable {x : Bool} {d K N : Nat} {m : PM} {P : PO → PH → Prop} {k n pc : Nat} {ls : List (Option PV)} {st : List PV} {h : PH}
variable {X : Cx} {p : Program} {e : Env} {s : State} {mi : MethodId} {args : Array Value} {below : List Frame} {meth : Method} {c : Code} {H : Heap} {locs : List Loc} {lj : Array Slot}
theorem k_retl (r : Option PV) (st : List PV) : (r.map (k_v X)).toList ++ st.map (k_v X) = (r.toList ++ st).map (k_v X) := by
  cases r <;> simp
theorem k_run {P' : PO → PH → Prop} {K' N' : Nat} {a' : Array Value} {stk : List Value} (hr : vx_Run p (cx_l X) e (k_rm d K N) s mi args below meth c H locs k n K' N' (F0 mi pc lj stk) (st.map (k_v X)) (k_Q X x P' a') (k_XQ X P') (fun q => cx_z X ≤ q))
    (hg : k_good m) (S : k_Set X m p s mi args meth c) (hz : s.heap.size ≤ H.size) (hL : ∀ q ∈ locs, cx_z X ≤ q.base) (hl : lv_has lj (pm_n m) (k_lv X 0 ls)) (hs : ∀ v ∈ st, k_wfV v) (hw : ∀ j v, k_get ls j = some v → k_wfV v) (hk : k + K' ≤ K) (hn : n + N' ≤ N)
    (kr : ∀ r h', P' (.inl r) h' → k_Wp x d K N m P (k + K') (n + N') (pc + 3) ls (r.toList ++ st) h')
    (kx : ∀ (E : String) (h' : PH), P' (.inr E) h' → pm_h m = [] ∧ P (.inr E) h') :
    W p (cx_l X) e (k_rm d K N) s mi args below meth c H locs k n (vx_MQ below (k_Q X x P) (k_XQ X P) args s K N (fun q => cx_z X ≤ q)) (F0 mi pc lj stk) := by
  intro T hT XX
  have hL2 : ∀ L : List Loc, (∀ q ∈ L, cx_z X ≤ q.base) → ∀ q ∈ locs ++ L, cx_z X ≤ q.base := fun L h9 q hq => (List.mem_append.mp hq).elim (hL q) (h9 q)
  rcases hr T hT XX with ⟨v, st₀, t, T', L, h0, X', hLL, e1, e2, hq, go⟩ | ⟨q, st₀, t, T', L, E, ce, h0, X', hLL, e1, e2, hx, hce, hcv, hcl, go⟩
  · obtain ⟨r, h', hv, hP, hwf, hR', hsz⟩ := hq
    cases hv
    obtain ⟨t2, a1, b1⟩ := kr r h' hP hg X p e s mi args below meth c T'.heap (locs ++ L) lj S (by rw [e1]; exact hR') (by rw [e1]; rw [h0] at hsz; exact Nat.le_trans hz hsz) (hL2 L hLL) hl (by
      intro w hw2
      rcases List.mem_append.mp hw2 with h9 | h9
      · exact hwf w (by cases r with | none => cases h9 | some u => rw [List.mem_singleton.mp h9])
      · exact hs w h9) hw T' rfl X'
    rw [← k_retl] at a1
    exact ⟨t2, go t2 a1, b1⟩
  · obtain ⟨h', hP, hR', hsz⟩ := hx
    obtain ⟨hh, hP2⟩ := kx E h' hP
    have hsz2 : s.heap.size ≤ t.heap.size := by rw [h0] at hsz; omega
    obtain ⟨t2, a1, b1⟩ := vx_out (Qc := k_Q X x P) (XC := k_XQ X P) (free := fun q => cx_z X ≤ q) (mc := K) (ms := N) (E := E) (ce := ce) (q := q) (H := T'.heap) (locs := locs ++ L) (cells := k + K') (slots := n + N') (pc := pc) (ls := lj) (rest := st.map (k_v X)) (by rw [S.2.2.2.2.2.2.2.1, hh]; intro z9 hz9; cases hz9) S.2.2.2.2.2.2.1 (by rw [e1]; exact hce) hcv hcl (fun t3 ht3 _ => ⟨h', hP2, by rw [ht3, e1]; exact hR', by rw [ht3, e1]; exact hsz2⟩) (hL2 L hLL) hk hn T' rfl X'
    exact ⟨t2, Steps.trans go a1, b1⟩
theorem k_runN {P' : PO → PH → Prop} {K' N' : Nat} {a' : Array Value} {stk : List Value} (hr : va_Run p (cx_l X) e (k_rm d K N) s mi args below meth c H locs k n K' N' (F0 mi pc lj stk) (st.map (k_v X)) (k_Q X x P' a') (fun q => cx_z X ≤ q))
    (hg : k_good m) (S : k_Set X m p s mi args meth c) (hz : s.heap.size ≤ H.size) (hL : ∀ q ∈ locs, cx_z X ≤ q.base) (hl : lv_has lj (pm_n m) (k_lv X 0 ls)) (hs : ∀ v ∈ st, k_wfV v) (hw : ∀ j v, k_get ls j = some v → k_wfV v)
    (kr : ∀ r h', P' (.inl r) h' → k_Wp x d K N m P (k + K') (n + N') (pc + 3) ls (r.toList ++ st) h') :
    W p (cx_l X) e (k_rm d K N) s mi args below meth c H locs k n (vx_MQ below (k_Q X x P) (k_XQ X P) args s K N (fun q => cx_z X ≤ q)) (F0 mi pc lj stk) := by
  intro T hT XX
  have hL2 : ∀ L : List Loc, (∀ q ∈ L, cx_z X ≤ q.base) → ∀ q ∈ locs ++ L, cx_z X ≤ q.base := fun L h9 q hq => (List.mem_append.mp hq).elim (hL q) (h9 q)
  obtain ⟨v, st₀, t, T', L, h0, X', hLL, e1, e2, hq, go⟩ := hr T hT XX
  obtain ⟨r, h', hv, hP, hwf, hR', hsz⟩ := hq
  cases hv
  obtain ⟨t2, a1, b1⟩ := kr r h' hP hg X p e s mi args below meth c T'.heap (locs ++ L) lj S (by rw [e1]; exact hR') (by rw [e1]; rw [h0] at hsz; exact Nat.le_trans hz hsz) (hL2 L hLL) hl (by
    intro w hw2
    rcases List.mem_append.mp hw2 with h9 | h9
    · exact hwf w (by cases r with | none => cases h9 | some u => rw [List.mem_singleton.mp h9])
    · exact hs w h9) hw T' rfl X'
  rw [← k_retl] at a1
  exact ⟨t2, go t2 a1, b1⟩
end Calls9
section Calls10
variable {x : Bool} {d K N : Nat} {m : PM} {P : PO → PH → Prop} {k n pc nx : Nat} {ls : List (Option PV)} {st : List PV} {h : PH}
theorem k_revmap (X : Cx) (as : List PV) (st : List PV) : ((as.reverse ++ st).map (k_v X)) = (as.map (k_v X)).reverse ++ st.map (k_v X) := by simp
theorem p_callV {m' : PM} {as : List PV} {a ci : Nat} {fs : List PV} {z : Int} {b2 : Nat} {t : List Nat} {d' K' N' : Nat} {P' : PO → PH → Prop} (hc : k_lk (pm_c m) pc = some ((48, z, 0, b2, t), nx)) (hl1 : k_LV (pm_o m) z.toNat m' as.length) (ha : h.2 a = some (.inr (ci, fs))) (hcl : k_R ci = (pm_y m').cls) (hev : k_Ev x d' K' N' m' (vR a :: as) h P') (hd1 : d' + 1 ≤ d) (hcs : k_cs st ≤ 8) (hk : k + K' ≤ K) (hn : n + N' ≤ N)
    (kr : ∀ r h', P' (.inl r) h' → k_Wp x d K N m P (k + K') (n + N') nx ls (r.toList ++ st) h')
    (kx : ∀ (E : String) (h' : PH), P' (.inr E) h' → pm_h m = [] ∧ P (.inr E) h') : k_Wp x d K N m P k n pc ls (as.reverse ++ vR a :: st) h := by
  intro hg X p e s mi args below meth c H locs lj S hR hz hL hl hs hw
  obtain ⟨hd, rfl⟩ := k_dc_ok (k_at_chk hg hc)
  obtain ⟨l1, l2, l3, l4⟩ := hl1
  have hKn := S.2.2.2.2.2.2.2.2.2.1
  obtain ⟨-, ⟨r, hr, hlen, cell, q1, q2, q3, -⟩, -⟩ := k_cellO hR ha
  have hcell : ∃ cellB : Cell, H[k_ad X a]? = some cellB ∧ cellB.vm.isStatics = false ∧ s.vm.findClass (pm_y m').cls = some cellB.cls := ⟨cell, q1, by rw [q3]; rfl, by rw [q2, ← hcl, ← (k_cls hr).2.2.2]; exact (hKn.1.1 ci r hr).2.1⟩
  have hwf : ∀ v ∈ vR a :: as, k_wfV v := fun v hv => (List.mem_cons.mp hv).elim (fun e1 => by rw [e1]; trivial) (fun h9 => hs v (by simp [h9]))
  have hst : ∀ v ∈ st, k_wfV v := fun v hv => hs v (by simp [hv])
  rw [k_revmap]
  refine k_run (a' := ((vR a :: as).map (k_v X)).toArray) (vx_runV (As := as.map (k_v X)) (rest := st.map (k_v X)) (b := k_ad X a) (cc := pm_b m) (nL := pm_n m) (Ts := k_tb) (own := k_R (pm_o m)) ⟨S.1, S.2.1, S.2.2.2.1, S.2.2.2.2.1, S.2.2.2.2.2.1⟩ (hev l4.2.2.2.2 X hwf) (cwV as.length S.2.2.2.2.2.1 (k_goodin (fun w hw9 => ?_)) (k_yok_ws l4) rfl rfl ⟨rfl, l4.2.1⟩ ⟨hd1, ?_⟩) ⟨k_blind X x h _, hcell, fun U hU hW => ⟨rfl, by rw [hU]; exact hR, k_Kn.warm hW hKn⟩⟩ rfl (by simp) hl.1 rfl ?_ hd ⟨hk, hn⟩) hg S hz hL hl hst hw hk hn kr kx
  · unfold wsV at hw9
    rcases List.mem_append.mp hw9 with h9 | h9
    · simp only [List.mem_cons, List.not_mem_nil, or_false] at h9
      rcases h9 with rfl | rfl | rfl | rfl
      · exact l1
      · exact l2
      · exact l3
      · exact l4.2.2.2.1
    · exact k_yok_in l4 w h9
  · show 8 + (pm_n m' + 11) + 64 * d' ≤ 64 * d
    have := l4.2.2.1; omega
  · rw [k_cs_eq]; show 2 * 0 + _ ≤ 8; omega
theorem p_callS {m' : PM} {as : List PV} {z : Int} {b2 : Nat} {t : List Nat} {d' K' N' : Nat} {P' : PO → PH → Prop} (hc : k_lk (pm_c m) pc = some ((48, z, 1, b2, t), nx)) (hl1 : k_LS (pm_o m) z.toNat m' as.length) (hev : k_Ev x d' K' N' m' as h P') (hd1 : d' + 1 ≤ d) (hcs : k_cs st ≤ 8) (hk : k + K' ≤ K) (hn : n + N' ≤ N)
    (kr : ∀ r h', P' (.inl r) h' → k_Wp x d K N m P (k + K') (n + N') nx ls (r.toList ++ st) h')
    (kx : ∀ (E : String) (h' : PH), P' (.inr E) h' → pm_h m = [] ∧ P (.inr E) h') : k_Wp x d K N m P k n pc ls (as.reverse ++ st) h := by
  intro hg X p e s mi args below meth c H locs lj S hR hz hL hl hs hw
  obtain ⟨hd, rfl⟩ := k_dc_ok (k_at_chk hg hc)
  obtain ⟨l1, l2, l4⟩ := hl1
  have hKn := S.2.2.2.2.2.2.2.2.2.1
  have hwf : ∀ v ∈ as, k_wfV v := fun v hv => hs v (by simp [hv])
  have hst : ∀ v ∈ st, k_wfV v := fun v hv => hs v (by simp [hv])
  rw [k_revmap]
  refine k_run (a' := (as.map (k_v X)).toArray) (vx_runS (As := as.map (k_v X)) (rest := st.map (k_v X)) (cc := pm_b m) (nL := pm_n m) (Ts := k_tb) (own := k_R (pm_o m)) ⟨S.1, S.2.1, S.2.2.2.1, S.2.2.2.2.1, S.2.2.2.2.2.1⟩ (hev l4.2.2.2.2 X hwf) ⟨callB_of as.length S.2.2.2.2.2.1 (k_goodin (k_yok_in l4)) (k_yok_ws l4) rfl rfl (S.2.2.2.2.2.1 _ l4.2.2.2.1) (S.2.2.2.2.2.1 _ l1) l4.2.1 ⟨hd1, ?_⟩, S.2.2.2.2.2.1 _ l2⟩ ⟨k_blind X x h _, fun U hU hW => ⟨rfl, by rw [hU]; exact hR, k_Kn.warm hW hKn⟩⟩ rfl (by simp) hl.1 rfl ?_ hd ⟨hk, hn⟩) hg S hz hL hl hst hw hk hn kr kx
  · show 8 + (pm_n m' + 11) + 64 * d' ≤ 64 * d
    have := l4.2.2.1; omega
  · rw [k_cs_eq]; show 2 * 0 + _ ≤ 8; omega
theorem p_callSN {m' : PM} {as : List PV} {z : Int} {b2 : Nat} {t : List Nat} {d' K' N' : Nat} {P' : PO → PH → Prop} (hc : k_lk (pm_c m) pc = some ((48, z, 1, b2, t), nx)) (hl1 : k_LSN (pm_o m) z.toNat m' as.length) (hev : k_Ev x d' K' N' m' as h P') (hno : ∀ E h', ¬ P' (.inr E) h') (hd1 : d' + 1 ≤ d) (hcs : k_cs st ≤ 8) (hk : k + K' ≤ K) (hn : n + N' ≤ N)
    (kr : ∀ r h', P' (.inl r) h' → k_Wp x d K N m P (k + K') (n + N') nx ls (r.toList ++ st) h') : k_Wp x d K N m P k n pc ls (as.reverse ++ st) h := by
  intro hg X p e s mi args below meth c H locs lj S hR hz hL hl hs hw
  obtain ⟨hd, rfl⟩ := k_dc_ok (k_at_chk hg hc)
  obtain ⟨l1, l2, l4⟩ := hl1
  have hKn := S.2.2.2.2.2.2.2.2.2.1
  have hwf : ∀ v ∈ as, k_wfV v := fun v hv => hs v (by simp [hv])
  have hst : ∀ v ∈ st, k_wfV v := fun v hv => hs v (by simp [hv])
  rw [k_revmap]
  refine k_runN (a' := (as.map (k_v X)).toArray) (va_runSN (As := as.map (k_v X)) (rest := st.map (k_v X)) (cc := pm_b m) (nL := pm_n m) (Ts := k_tb) (own := k_R (pm_o m)) (host := RX11) ⟨S.1, S.2.1, S.2.2.2.1, S.2.2.2.2.1, S.2.2.2.2.2.1⟩ (k_Met hev hno l4.2.2.2.2 X hwf) ⟨va_cnB as.length S.2.2.2.2.2.1 (k_goodin (k_yok_in l4)) (k_yok_ws l4) rfl rfl (hKn.2.2.2.2.2.1 _ l1) (S.2.2.2.2.2.1 _ l4.2.2.2.1) l4.2.1 ⟨hd1, ?_⟩, S.2.2.2.2.2.1 _ l2, trivial⟩ ⟨k_blind X x h _, fun U hU hW => ⟨rfl, by rw [hU]; exact hR, k_Kn.warm hW hKn⟩⟩ rfl (by simp) hl.1 rfl ?_ hd ⟨hk, hn⟩) hg S hz hL hl hst hw kr
  · show 8 + (pm_n m' + 11) + 64 * d' ≤ 64 * d
    have := l4.2.2.1; omega
  · rw [k_cs_eq]; show 2 * 0 + _ ≤ 8; omega
theorem p_callI {m' : PM} {as : List PV} {a : Nat} {z : Int} {b2 : Nat} {t : List Nat} {d' K' N' : Nat} {P' : PO → PH → Prop} (hc : k_lk (pm_c m) pc = some ((48, z, 2, b2, t), nx)) (hl1 : k_LI (pm_o m) z.toNat m' as.length) (hev : k_Ev x d' K' N' m' (vR a :: as) h P') (hno : ∀ E h', ¬ P' (.inr E) h') (hd1 : d' + 1 ≤ d) (hcs : k_cs st ≤ 8) (hk : k + K' ≤ K) (hn : n + N' ≤ N)
    (kr : ∀ r h', P' (.inl r) h' → k_Wp x d K N m P (k + K') (n + N') nx ls (r.toList ++ st) h') : k_Wp x d K N m P k n pc ls (as.reverse ++ vR a :: st) h := by
  intro hg X p e s mi args below meth c H locs lj S hR hz hL hl hs hw
  obtain ⟨hd, rfl⟩ := k_dc_ok (k_at_chk hg hc)
  obtain ⟨l1, l2, l3, l5, l4⟩ := hl1
  have hKn := S.2.2.2.2.2.2.2.2.2.1
  have hwf : ∀ v ∈ vR a :: as, k_wfV v := fun v hv => (List.mem_cons.mp hv).elim (fun e1 => by rw [e1]; trivial) (fun h9 => hs v (by simp [h9]))
  have hst : ∀ v ∈ st, k_wfV v := fun v hv => hs v (by simp [hv])
  have hws := k_yok_ws l4
  rw [l5] at hws
  rw [k_revmap]
  refine k_runN (a' := ((vR a :: as).map (k_v X)).toArray) (va_runI (As := as.map (k_v X)) (b := k_ad X a) (rest := st.map (k_v X)) (cc := pm_b m) (nL := pm_n m) (Ts := k_tb) (own := k_R (pm_o m)) ⟨S.1, S.2.1, S.2.2.2.1, S.2.2.2.2.1, S.2.2.2.2.2.1⟩ (k_Met hev hno l4.2.2.2.2 X hwf) (cwI as.length S.2.2.2.2.2.1 (k_goodin (k_yok_in l4)) hws rfl rfl (S.2.2.2.2.2.1 _ l4.2.2.2.1) (S.2.2.2.2.2.1 _ l1) (S.2.2.2.2.2.1 _ l2) l3 l4.2.1 ⟨hd1, ?_⟩) ⟨k_blind X x h _, fun U hU hW => ⟨rfl, by rw [hU]; exact hR, k_Kn.warm hW hKn⟩⟩ rfl (by simp) hl.1 rfl ?_ hd ⟨hk, hn⟩) hg S hz hL hl hst hw kr
  · show 8 + (pm_n m' + 11) + 64 * d' ≤ 64 * d
    have := l4.2.2.1; omega
  · rw [k_cs_eq]; show 2 * 0 + _ ≤ 8; omega
theorem p_callIN {m' : PM} {as : List PV} {a : Nat} {z : Int} {b2 : Nat} {t : List Nat} {d' K' N' : Nat} {P' : PO → PH → Prop} (hc : k_lk (pm_c m) pc = some ((48, z, 2, b2, t), nx)) (hl1 : k_LIN (pm_o m) z.toNat m' as.length) (hev : k_Ev x d' K' N' m' (vR a :: as) h P') (hno : ∀ E h', ¬ P' (.inr E) h') (hd1 : d' + 1 ≤ d) (hcs : k_cs st ≤ 8) (hk : k + K' ≤ K) (hn : n + N' ≤ N)
    (kr : ∀ r h', P' (.inl r) h' → k_Wp x d K N m P (k + K') (n + N') nx ls (r.toList ++ st) h') : k_Wp x d K N m P k n pc ls (as.reverse ++ vR a :: st) h := by
  intro hg X p e s mi args below meth c H locs lj S hR hz hL hl hs hw
  obtain ⟨hd, rfl⟩ := k_dc_ok (k_at_chk hg hc)
  obtain ⟨l1, l2, l3, l5, l4⟩ := hl1
  have hKn := S.2.2.2.2.2.2.2.2.2.1
  have hwf : ∀ v ∈ vR a :: as, k_wfV v := fun v hv => (List.mem_cons.mp hv).elim (fun e1 => by rw [e1]; trivial) (fun h9 => hs v (by simp [h9]))
  have hst : ∀ v ∈ st, k_wfV v := fun v hv => hs v (by simp [hv])
  have hws := k_yok_ws l4
  rw [l5] at hws
  rw [k_revmap]
  refine k_runN (a' := ((vR a :: as).map (k_v X)).toArray) (va_runIN (As := as.map (k_v X)) (b := k_ad X a) (rest := st.map (k_v X)) (cc := pm_b m) (nL := pm_n m) (Ts := k_tb) (own := k_R (pm_o m)) (host := RX11) ⟨S.1, S.2.1, S.2.2.2.1, S.2.2.2.2.1, S.2.2.2.2.2.1⟩ (k_Met hev hno l4.2.2.2.2 X hwf) ⟨va_cnB as.length S.2.2.2.2.2.1 (k_goodin (k_yok_in l4)) hws rfl rfl (hKn.2.2.2.2.2.1 _ l1) (S.2.2.2.2.2.1 _ l4.2.2.2.1) l4.2.1 ⟨hd1, ?_⟩, l3, S.2.2.2.2.2.1 _ l2⟩ ⟨k_blind X x h _, fun U hU hW => ⟨rfl, by rw [hU]; exact hR, k_Kn.warm hW hKn⟩⟩ rfl (by simp) hl.1 rfl ?_ hd ⟨hk, hn⟩) hg S hz hL hl hst hw kr
  · show 8 + (pm_n m' + 11) + 64 * d' ≤ 64 * d
    have := l4.2.2.1; omega
  · rw [k_cs_eq]; show 2 * 0 + _ ≤ 8; omega
end Calls10
end
section
/-! throws; the one switch over scattered numbers -/
def k_nms : List String := ["java/lang/RuntimeException", "java/lang/Exception"]
def k_ik : Nat → Nat × Nat
  | 0 => (110, 114)
  | 1 => (240, 244)
  | _ => (275, 279)
theorem k_thr_w : ∀ ei, ei < 3 → (vx_atS RX11 (k_ik ei).2 (k_E ei) k_nms).all (fun w => decide (w ∈ lw_tbl) && (goodWord w || k_isdc w) && vx_ot w) = true := by decide +kernel
theorem k_thr_f : ∀ ei, ei < 3 → Bundle.fit (k_E ei) = true := by decide +kernel
theorem k_thr_n : ∀ n ∈ k_nms, Bundle.fit n = true := by decide +kernel
theorem k_thr_l : ∀ ei, ei < 3 → Cond.classLink RX11 (k_ik ei).1 (k_E ei) ∈ lw_tbl ∧ Cond.initialized (k_E ei) ∈ lw_tbl := by decide +kernel
section Steps5
variable {x : Bool} {d K N : Nat} {m : PM} {P : PO → PH → Prop} {k n pc nx : Nat} {ls : List (Option PV)} {st : List PV} {h : PH}
theorem k_Rp_grow {X : Cx} {x : Bool} {h : PH} {H H1 : Heap} (hR : k_Rp X x h H) (hbz : cx_b X < cx_z X) (hz : H.size ≤ H1.size) (ho : ∀ q : Nat, q < H.size → H1[q]? = H[q]?) : k_Rp X false h H1 := by
  obtain ⟨r1, r2, r3, r4, r5⟩ := hR
  refine ⟨fun q hq => ?_, r2, by omega, fun hx => (by cases hx), fun a c ha => ?_⟩
  · rw [ho q (by omega)]; exact r1 q hq
  · obtain ⟨q1, q2, q3⟩ := r5 a c ha
    refine ⟨q1, q2, k_at_kept q3 (ho _ ?_)⟩
    cases a with
    | zero => show cx_b X < _; omega
    | succ a => show cx_z X + a < _; omega
theorem p_throw {z : Int} {is ic ei si wd : Nat} (hc : k_lk (pm_c m) pc = some ((49, z, is, ic, [ei, si, wd]), nx)) (hh : pm_h m = []) (hd1 : 6 ≤ d) (hcs : k_cs st ≤ 40) (hk : k + 1 ≤ K) (hn : n + 6 ≤ N) (hP : P (.inr (k_E ei)) h) : k_Wp x d K N m P k n pc ls st h := by
  intro hg X p e s mi args below meth c H locs lj S hR hz hL hl hs hw
  have h0 := k_at_chk hg hc
  simp only [k_chk, Bool.and_eq_true, Bool.or_eq_true, decide_eq_true_eq] at h0
  obtain ⟨⟨⟨⟨⟨ho, dd0⟩, dd3⟩, hex⟩, hst⟩, hwd⟩ := h0
  have hei : ei < 3 ∧ z.toNat = (k_ik ei).1 ∧ ic = (k_ik ei).2 := by
    rcases hex with (h9 | h9) | h9 <;> (cases h9; exact ⟨by decide, rfl, rfl⟩)
  obtain ⟨he3, hz1, rfl⟩ := hei
  rw [hz1] at dd0
  obtain ⟨q, hq, hq2⟩ := List.any_eq_true.mp hst
  simp only [Bool.and_eq_true, beq_iff_eq] at hq2
  obtain ⟨rfl, rfl⟩ := hq2
  have hKn := S.2.2.2.2.2.2.2.2.2.1
  have hstr := hKn.2.2.2.2.1 q hq
  have hown : s.vm.findClass RX11 = some mi.cls := by have := S.2.2.2.2.1; rw [ho] at this; exact this
  have tr : ∀ w, w ∈ lw_tbl → (goodWord w || k_isdc w) = true → w.before args s = true := fun w h1 h2 => by
    rcases Bool.or_eq_true _ _ |>.mp h2 with h3 | h3
    · exact S.2.2.2.2.2.1 w (List.mem_filter.mpr ⟨h1, h3⟩)
    · have h4 := hKn.2.2.2.2.2.2.2.2.2.2.2 w (List.mem_filter.mpr ⟨h1, h3⟩)
      cases w <;> first | exact va_Nw.use rfl h4 | (simp [k_isdc] at h3)
  have hw9 := fun w hw => List.all_eq_true.mp (k_thr_w ei he3) w hw
  simp only [Bool.and_eq_true, decide_eq_true_eq] at hw9
  obtain ⟨hk1, hk2⟩ := k_thr_l ei he3
  have hk1' := tr _ hk1 rfl
  have hk2' := tr _ hk2 rfl
  have hat : ∀ w ∈ vx_atS RX11 (k_ik ei).2 (k_E ei) k_nms, w.before args s = true := fun w hw => tr w (hw9 w hw).1.1 (by have := (hw9 w hw).1.2; simpa using this)
  have hgd : ∀ w ∈ Cond.classLink RX11 (k_ik ei).1 (k_E ei) :: Cond.initialized (k_E ei) :: vx_atS RX11 (k_ik ei).2 (k_E ei) k_nms, vx_ot w = true := by
    intro w hw
    rcases List.mem_cons.mp hw with rfl | hw
    · rfl
    rcases List.mem_cons.mp hw with rfl | hw
    · rfl
    · exact (hw9 w hw).2
  have hbz := k_bz hKn
  have hsz := hKn.2.2.2.2.2.2.2.2.1
  have hag : ∀ a : Nat, a < (cx_H X).size → ¬ (cx_z X ≤ a) → s.heap[a]? = (cx_H X)[a]? := fun a h1 _ => S.2.2.2.2.2.2.2.2.2.2.2 a (by omega)
  have hU := vx_Zq.kept hKn.2.2.1 hag
  have hN := vx_Zq.kept hKn.2.2.2.1 hag
  have hS : va_S (fun q => cx_z X ≤ q) s.heap H locs := ⟨hz, fun a h1 h2 => by
    have h2 : ¬ cx_z X ≤ a := h2
    rw [hR.1 a (by omega), S.2.2.2.2.2.2.2.2.2.2.2 a (by omega)], hL⟩
  have hout : ∀ y ∈ c.exceptionTable.toList, ∀ pc, covers y pc = false := by rw [S.2.2.2.2.2.2.2.1, hh]; intro z9 hz9; cases hz9
  have hx : ∀ t : State, s.vm.Alike t.vm → H.size ≤ t.heap.size → (∀ q : Nat, q < H.size → t.heap[q]? = H[q]?) → k_XQ X P (k_E ei) s t := fun t _ h1 h2 => ⟨h, hP, k_Rp_grow hR hbz h1 h2, Nat.le_trans hz h1⟩
  have hloc : ((st.map (k_v X)).map fun v => v.category).sum + (13 * (k_nms.length + 1) + 43) ≤ (k_rm d K N).locals := by
    rw [k_cs_eq]; show _ + (13 * 3 + 43) ≤ 64 * d; omega
  have hsl : lj.size = c.maxLocals := by rw [S.2.2.2.1]; exact hl.1
  cases wd with
  | zero =>
    simp only [Bool.and_eq_true, decide_eq_true_eq] at hwd
    obtain ⟨⟨d4, d6⟩, d9⟩ := hwd
    exact vx_throwS (A := fun q => cx_z X ≤ q) S.1 S.2.1 hKn.2.1 hown (k_thr_f ei he3) k_thr_n hk1' hk2' hstr hat hgd hU hN hS hsl dd0 dd3 d4 d6 d9 (fun y hy => hout y hy _) (by show 2 + 3 < d; omega) hloc hk hn S.2.2.2.2.2.2.1 hx hL hk hn
  | succ wd =>
    simp only [Bool.and_eq_true, decide_eq_true_eq] at hwd
    obtain ⟨⟨d4, d7⟩, d10⟩ := hwd
    exact vx_throwSW (A := fun q => cx_z X ≤ q) S.1 S.2.1 hKn.2.1 hown (k_thr_f ei he3) k_thr_n hk1' hk2' hstr hat hgd hU hN hS hsl dd0 dd3 d4 d7 d10 (fun y hy => hout y hy _) (by show 2 + 3 < d; omega) hloc hk hn S.2.2.2.2.2.2.1 hx hL hk hn
theorem p_lsw {u z : Int} {dt ln t0 t1 t2 t3 t4 t5 : Nat} (hc : k_lk (pm_c m) pc = some ((43, z, dt, ln, [t0, t1, t2, t3, t4, t5]), nx)) (kk : k_Wp x d K N m P k n (if u = 32 then t0 else if u = 40 then t1 else if u = 41 then t2 else if u = 91 then t3 else if u = 93 then t4 else if u = 124 then t5 else dt) ls st h) : k_Wp x d K N m P k n pc ls (vI u :: st) h := by
  intro hg X p e s mi args below meth c H locs lj S hR hz hL hl hs hw
  have h0 := k_at_chk hg hc
  simp only [k_chk, Bool.and_eq_true] at h0
  obtain ⟨hd, -⟩ := k_dc_ok h0.2
  have hi : iR u := hs _ List.mem_cons_self
  have hk2 := kk hg X p e s mi args below meth c H locs lj S hR hz hL hl (fun w hw => hs w (by simp [hw])) hw
  refine lv_lookup S.1 S.2.1 hd (by rfl) (tgt := if u = 32 then t0 else if u = 40 then t1 else if u = 41 then t2 else if u = 91 then t3 else if u = 93 then t4 else if u = 124 then t5 else dt) (off := k_jmp pc (if u = 32 then t0 else if u = 40 then t1 else if u = 41 then t2 else if u = 91 then t3 else if u = 93 then t4 else if u = 124 then t5 else dt)) ?_ (by unfold k_jmp; omega) hk2
  rw [n_t hi]
  have hne : ∀ (a b : Int), a ≠ b → (b = a) = False := fun a b hab => by simp [Ne.symm hab]
  simp only [Op.lookupswitch.offset_cons]
  by_cases e0 : u = 32
  · simp [e0]
  by_cases e1 : u = 40
  · simp [e1]
  by_cases e2 : u = 41
  · simp [e2]
  by_cases e3 : u = 91
  · simp [e3]
  by_cases e4 : u = 93
  · simp [e4]
  by_cases e5 : u = 124
  · simp [e5]
  simp [e0, e1, e2, e3, e4, e5, Ne.symm e0, Ne.symm e1, Ne.symm e2, Ne.symm e3, Ne.symm e4, Ne.symm e5, Op.lookupswitch.offset]
end Steps5
end
section
/-! many instructions at once: what is to be shown so that the machine comes through -/
def k_stp (x : Bool) (d K N : Nat) (m : PM) (P : PO → PH → Prop) (kk : Nat → List (Option PV) → List PV → PH → Prop) (i : PI) (nx k n pc : Nat) (ls : List (Option PV)) (st : List PV) (h : PH) : Prop :=
  match i with
  | (0, z, _, _, _) => kk nx ls (vI z :: st) h
  | (1, _, j, _, _) => match k_get ls j with | some (.inl z) => kk nx ls (vI z :: st) h | _ => False
  | (2, _, j, _, _) => match k_get ls j with | some (.inr (.inl z)) => kk nx ls (vL z :: st) h | _ => False
  | (3, _, j, _, _) => match k_get ls j with | some (.inr (.inr (some a))) => kk nx ls (vR a :: st) h | _ => False
  | (4, _, j, _, _) => match st with | .inl z :: st' => kk nx (k_put ls j (vI z)) st' h | _ => False
  | (5, _, j, _, _) => match st with | .inr (.inl z) :: st' => kk nx (k_clr (k_put ls j (vL z)) (j + 1)) st' h | _ => False
  | (6, _, j, _, _) => match st with | .inr (.inr (some a)) :: st' => kk nx (k_put ls j (vR a)) st' h | _ => False
  | (7, z, j, _, _) => match k_get ls j with | some (.inl y) => iR (y + z) ∧ kk nx (k_put ls j (vI (y + z))) st h | _ => False
  | (8, _, _, _, _) => match st with | .inl v :: .inl u :: st' => iR (u + v) ∧ kk nx ls (vI (u + v) :: st') h | _ => False
  | (9, _, _, _, _) => match st with | .inl v :: .inl u :: st' => iR (u - v) ∧ kk nx ls (vI (u - v) :: st') h | _ => False
  | (10, _, _, _, _) => match st with | .inl v :: .inl u :: st' => iR (u * v) ∧ kk nx ls (vI (u * v) :: st') h | _ => False
  | (11, _, _, _, _) => match st with | .inl v :: .inl u :: st' => (0 ≤ u ∧ 0 < v) ∧ kk nx ls (vI (u / v) :: st') h | _ => False
  | (12, _, _, _, _) => match st with | .inl v :: .inl u :: st' => (0 ≤ u ∧ 0 < v) ∧ kk nx ls (vI (u % v) :: st') h | _ => False
  | (13, _, _, _, _) => match st with | .inl v :: .inl u :: st' => (v = 255 ∨ v = 31) ∧ kk nx ls (vI (u % (v + 1)) :: st') h | _ => False
  | (14, _, _, _, _) => match st with | .inl v :: .inl u :: st' => (0 ≤ v ∧ v < 32) ∧ kk nx ls (vI (u / 2 ^ v.toNat) :: st') h | _ => False
  | (15, _, _, _, _) => match st with | .inl v :: .inl u :: st' => (0 ≤ v ∧ v < 32) ∧ kk nx ls (vI (k_ushr u v.toNat) :: st') h | _ => False
  | (16, _, _, _, _) => match st with | .inl u :: st' => kk nx ls (vI (k_i2b u) :: st') h | _ => False
  | (17, _, _, _, _) => match st with | .inl u :: st' => kk nx ls (vL u :: st') h | _ => False
  | (18, _, _, _, _) => match st with | .inl v :: .inr (.inl u) :: st' => (v = 5 ∧ lR (u * 32)) ∧ kk nx ls (vL (u * 32) :: st') h | _ => False
  | (19, _, _, _, _) => match st with | .inr (.inl v) :: .inr (.inl u) :: st' => lR (u + v) ∧ kk nx ls (vL (u + v) :: st') h | _ => False
  | (20, _, _, _, _) => match st with | .inr (.inl v) :: .inr (.inl u) :: st' => kk nx ls (vI (k_lcmp u v) :: st') h | _ => False
  | (21, z, _, _, _) => kk nx ls (vL z :: st) h
  | (22, _, ci, kf, _) => match st with | .inr (.inr (some a)) :: st' => ∃ fs v, h.2 a = some (.inr (ci, fs)) ∧ fs[kf]? = some v ∧ kk nx ls (v :: st') h | _ => False
  | (23, _, ci, kf, t) => match st with | v :: .inr (.inr (some a)) :: st' => k_fit t v ∧ ∃ fs, h.2 a = some (.inr (ci, fs)) ∧ kk nx ls st' (hS h a (.inr (ci, fs.set kf v))) | _ => False
  | (24, _, _, _, _) => match st with | .inl i :: .inr (.inr (some a)) :: st' => ∃ kd nn f, h.2 a = some (.inl (kd, nn, f)) ∧ (kd = 0 ∨ kd = 4) ∧ (0 ≤ i ∧ i < (nn : Int)) ∧ kk nx ls (vI (f i.toNat) :: st') h | _ => False
  | (25, _, _, _, _) => match st with | .inl v :: .inl i :: .inr (.inr (some a)) :: st' => ∃ nn f, h.2 a = some (.inl (0, nn, f)) ∧ (0 ≤ i ∧ i < (nn : Int)) ∧ kk nx ls st' (hS h a (.inl (0, nn, fS f i.toNat v))) | _ => False
  | (26, _, _, _, _) => match st with | .inl i :: .inr (.inr (some a)) :: st' => ∃ kd nn f, h.2 a = some (.inl (kd, nn, f)) ∧ (kd = 1 ∨ kd = 2) ∧ (0 ≤ i ∧ i < (nn : Int)) ∧ kk nx ls (vI (f i.toNat) :: st') h | _ => False
  | (27, _, _, _, _) => match st with | .inl v :: .inl i :: .inr (.inr (some a)) :: st' => ∃ kd nn f, h.2 a = some (.inl (kd, nn, f)) ∧ ((kd = 1 ∧ -128 ≤ v ∧ v ≤ 127) ∨ (kd = 2 ∧ (v = 0 ∨ v = 1))) ∧ (0 ≤ i ∧ i < (nn : Int)) ∧ kk nx ls st' (hS h a (.inl (kd, nn, fS f i.toNat v))) | _ => False
  | (28, _, _, _, _) => match st with | .inl i :: .inr (.inr (some a)) :: st' => ∃ nn f, h.2 a = some (.inl (3, nn, f)) ∧ (0 ≤ i ∧ i < (nn : Int)) ∧ kk nx ls (vL (f i.toNat) :: st') h | _ => False
  | (29, _, _, _, _) => match st with | .inr (.inl v) :: .inl i :: .inr (.inr (some a)) :: st' => ∃ nn f, h.2 a = some (.inl (3, nn, f)) ∧ (0 ≤ i ∧ i < (nn : Int)) ∧ kk nx ls st' (hS h a (.inl (3, nn, fS f i.toNat v))) | _ => False
  | (30, _, _, _, _) => match st with | .inr (.inr (some a)) :: st' => ∃ kd nn f, h.2 a = some (.inl (kd, nn, f)) ∧ kk nx ls (vI (nn : Int) :: st') h | _ => False
  | (31, _, c, t, _) => match st with | .inl v :: .inl u :: st' => (k_cnd c u v → kk t ls st' h) ∧ (¬ k_cnd c u v → kk nx ls st' h) | _ => False
  | (32, _, c, t, _) => match st with | .inl u :: st' => (k_cnd c u 0 → kk t ls st' h) ∧ (¬ k_cnd c u 0 → kk nx ls st' h) | _ => False
  | (33, _, _, t, _) => kk t ls st h
  | (34, _, _, _, _) => match st with | .inl z :: st' => kk nx ls (vI z :: vI z :: st') h | .inr (.inr (some a)) :: st' => kk nx ls (vR a :: vR a :: st') h | _ => False
  | (35, _, _, _, _) => match st with | .inl z :: .inr (.inr (some a)) :: st' => kk nx ls (vI z :: vR a :: vI z :: vR a :: st') h | _ => False
  | (36, _, _, _, _) => match st with | [.inl v] => (pm_r m = some .int ∨ (pm_r m = some .boolean ∧ (v = 0 ∨ v = 1))) ∧ (k ≤ K ∧ n ≤ N) ∧ P (.inl (some (vI v))) h | _ => False
  | (37, _, _, _, _) => match st with | [.inr (.inl v)] => pm_r m = some .long ∧ (k ≤ K ∧ n ≤ N) ∧ P (.inl (some (vL v))) h | _ => False
  | (38, _, _, _, _) => match st with | [.inr (.inr (some a))] => k_isref (pm_r m) = true ∧ (k ≤ K ∧ n ≤ N) ∧ P (.inl (some (vR a))) h | _ => False
  | (39, _, _, _, _) => match st with | [] => pm_r m = none ∧ (k ≤ K ∧ n ≤ N) ∧ P (.inl none) h | _ => False
  | (42, lo, dt, _, ts) => match st with | .inl z :: st' => k_sw z (fun t => kk t ls st' h) dt lo ts | _ => False
  | (44, _, _, _, _) => match st with | .inl v :: .inl u :: st' => (1 ≤ d ∧ k_cs st' ≤ 40 ∧ k ≤ K ∧ n ≤ N) ∧ kk nx ls (vI (if v < u then v else u) :: st') h | _ => False
  | (45, _, _, _, _) => match st with | .inl v :: .inl u :: st' => (1 ≤ d ∧ k_cs st' ≤ 40 ∧ k ≤ K ∧ n ≤ N) ∧ kk nx ls (vI (if u < v then v else u) :: st') h | _ => False
  | (47, _, _, _, _) => match st with | .inr (.inr (some _)) :: st' => (1 ≤ d ∧ k_cs st' ≤ 40) ∧ kk nx ls st' h | _ => False
  | _ => k_Wp x d K N m P k n pc ls st h
theorem k_swm {z : Int} {f g : Nat → Prop} (hfg : ∀ t, f t → g t) (dt : Nat) : ∀ (ts : List Nat) (lo : Int), k_sw z f dt lo ts → k_sw z g dt lo ts
  | [], _, h => hfg _ h
  | _ :: ts, lo, h => ⟨fun e => hfg _ (h.1 e), fun e => k_swm hfg dt ts (lo + 1) (h.2 e)⟩
theorem k_stp_ok {x : Bool} {d K N : Nat} {m : PM} {P : PO → PH → Prop} {kk : Nat → List (Option PV) → List PV → PH → Prop} {i : PI} {nx k n pc : Nat} {ls : List (Option PV)} {st : List PV} {h : PH}
    (hk : ∀ pc ls st h, kk pc ls st h → k_Wp x d K N m P k n pc ls st h) (hc : k_lk (pm_c m) pc = some (i, nx)) (hs : k_stp x d K N m P kk i nx k n pc ls st h) : k_Wp x d K N m P k n pc ls st h := by
  unfold k_stp at hs
  split at hs
  · exact p_push hc (hk _ _ _ _ hs)
  · split at hs
    · rename_i hj; exact p_iload hc hj (hk _ _ _ _ hs)
    · exact hs.elim
  · split at hs
    · rename_i hj; exact p_lload hc hj (hk _ _ _ _ hs)
    · exact hs.elim
  · split at hs
    · rename_i hj; exact p_aload hc hj (hk _ _ _ _ hs)
    · exact hs.elim
  · split at hs
    · exact p_istore hc (hk _ _ _ _ hs)
    · exact hs.elim
  · split at hs
    · exact p_lstore hc (hk _ _ _ _ hs)
    · exact hs.elim
  · split at hs
    · exact p_astore hc (hk _ _ _ _ hs)
    · exact hs.elim
  · split at hs
    · rename_i hj; exact p_iinc hc hj hs.1 (hk _ _ _ _ hs.2)
    · exact hs.elim
  · split at hs
    · exact p_iadd hc hs.1 (hk _ _ _ _ hs.2)
    · exact hs.elim
  · split at hs
    · exact p_isub hc hs.1 (hk _ _ _ _ hs.2)
    · exact hs.elim
  · split at hs
    · exact p_imul hc hs.1 (hk _ _ _ _ hs.2)
    · exact hs.elim
  · split at hs
    · exact p_idiv hc hs.1.1 hs.1.2 (hk _ _ _ _ hs.2)
    · exact hs.elim
  · split at hs
    · exact p_irem hc hs.1.1 hs.1.2 (hk _ _ _ _ hs.2)
    · exact hs.elim
  · split at hs
    · exact p_iand hc hs.1 (hk _ _ _ _ hs.2)
    · exact hs.elim
  · split at hs
    · exact p_ishr hc hs.1.1 hs.1.2 (hk _ _ _ _ hs.2)
    · exact hs.elim
  · split at hs
    · exact p_iushr hc hs.1.1 hs.1.2 (hk _ _ _ _ hs.2)
    · exact hs.elim
  · split at hs
    · exact p_i2b hc (hk _ _ _ _ hs)
    · exact hs.elim
  · split at hs
    · exact p_i2l hc (hk _ _ _ _ hs)
    · exact hs.elim
  · split at hs
    · exact p_lshl hc hs.1.1 hs.1.2 (hk _ _ _ _ hs.2)
    · exact hs.elim
  · split at hs
    · exact p_ladd hc hs.1 (hk _ _ _ _ hs.2)
    · exact hs.elim
  · split at hs
    · exact p_lcmp hc (hk _ _ _ _ hs)
    · exact hs.elim
  · exact p_lconst hc (hk _ _ _ _ hs)
  · split at hs
    · obtain ⟨fs, v, h1, h2, h3⟩ := hs; exact p_get hc h1 h2 (hk _ _ _ _ h3)
    · exact hs.elim
  · split at hs
    · obtain ⟨h0, fs, h1, h2⟩ := hs; exact p_put hc h1 h0 (hk _ _ _ _ h2)
    · exact hs.elim
  · split at hs
    · obtain ⟨kd, nn, f, h1, h2, h3, h4⟩ := hs; exact p_iald hc h1 h2 h3.1 h3.2 (hk _ _ _ _ h4)
    · exact hs.elim
  · split at hs
    · obtain ⟨nn, f, h1, h3, h4⟩ := hs; exact p_iast hc h1 h3.1 h3.2 (hk _ _ _ _ h4)
    · exact hs.elim
  · split at hs
    · obtain ⟨kd, nn, f, h1, h2, h3, h4⟩ := hs; exact p_bald hc h1 h2 h3.1 h3.2 (hk _ _ _ _ h4)
    · exact hs.elim
  · split at hs
    · obtain ⟨kd, nn, f, h1, h2, h3, h4⟩ := hs; exact p_bast hc h1 h2 h3.1 h3.2 (hk _ _ _ _ h4)
    · exact hs.elim
  · split at hs
    · obtain ⟨nn, f, h1, h3, h4⟩ := hs; exact p_lald hc h1 h3.1 h3.2 (hk _ _ _ _ h4)
    · exact hs.elim
  · split at hs
    · obtain ⟨nn, f, h1, h3, h4⟩ := hs; exact p_last hc h1 h3.1 h3.2 (hk _ _ _ _ h4)
    · exact hs.elim
  · split at hs
    · obtain ⟨kd, nn, f, h1, h4⟩ := hs; exact p_alen hc h1 (hk _ _ _ _ h4)
    · exact hs.elim
  · split at hs
    · exact p_icmp hc (fun q => hk _ _ _ _ (hs.1 q)) (fun q => hk _ _ _ _ (hs.2 q))
    · exact hs.elim
  · split at hs
    · exact p_if hc (fun q => hk _ _ _ _ (hs.1 q)) (fun q => hk _ _ _ _ (hs.2 q))
    · exact hs.elim
  · exact p_goto hc (hk _ _ _ _ hs)
  · split at hs
    · exact p_dup hc (fun z h9 => by cases h9) (hk _ _ _ _ hs)
    · exact p_dup hc (fun z h9 => by cases h9) (hk _ _ _ _ hs)
    · exact hs.elim
  · split at hs
    · exact p_dup2 hc (fun z h9 => by cases h9) (fun z h9 => by cases h9) (hk _ _ _ _ hs)
    · exact hs.elim
  · split at hs
    · exact p_iret hc hs.1 hs.2.1.1 hs.2.1.2 hs.2.2
    · exact hs.elim
  · split at hs
    · exact p_lret hc hs.1 hs.2.1.1 hs.2.1.2 hs.2.2
    · exact hs.elim
  · split at hs
    · exact p_aret hc hs.1 hs.2.1.1 hs.2.1.2 hs.2.2
    · exact hs.elim
  · split at hs
    · exact p_vret hc hs.1 hs.2.1.1 hs.2.1.2 hs.2.2
    · exact hs.elim
  · split at hs
    · exact p_tsw hc (k_swm (fun t ht => hk _ _ _ _ ht) _ _ _ hs)
    · exact hs.elim
  · split at hs
    · exact p_min hc hs.1.1 hs.1.2.1 hs.1.2.2.1 hs.1.2.2.2 (hk _ _ _ _ hs.2)
    · exact hs.elim
  · split at hs
    · exact p_max hc hs.1.1 hs.1.2.1 hs.1.2.2.1 hs.1.2.2.2 (hk _ _ _ _ hs.2)
    · exact hs.elim
  · split at hs
    · exact p_oinit hc hs.1.1 hs.1.2 (hk _ _ _ _ hs.2)
    · exact hs.elim
  · exact hs
/-- so many instructions, up to a cut, a call, a making, a throw or the end -/
def k_go (x : Bool) (d K N : Nat) (m : PM) (P : PO → PH → Prop) (cut : List Nat) (k n : Nat) : Nat → Nat → List (Option PV) → List PV → PH → Prop
  | 0, pc, ls, st, h => k_Wp x d K N m P k n pc ls st h
  | f + 1, pc, ls, st, h => match k_lk (pm_c m) pc with
    | none => False
    | some (i, nx) => k_stp x d K N m P (fun pc ls st h => if cut.elem pc then k_Wp x d K N m P k n pc ls st h else k_go x d K N m P cut k n f pc ls st h) i nx k n pc ls st h
theorem k_go_ok {x : Bool} {d K N : Nat} {m : PM} {P : PO → PH → Prop} {k n : Nat} (cut : List Nat) : ∀ (f pc : Nat) (ls : List (Option PV)) (st : List PV) (h : PH), k_go x d K N m P cut k n f pc ls st h → k_Wp x d K N m P k n pc ls st h
  | 0, pc, ls, st, h, hg => hg
  | f + 1, pc, ls, st, h, hg => by
    unfold k_go at hg
    split at hg
    · exact hg.elim
    · rename_i i nx hc
      refine k_stp_ok (fun pc ls st h h9 => ?_) hc hg
      split at h9
      · exact h9
      · exact k_go_ok cut f pc ls st h h9
theorem p_go {x : Bool} {d K N : Nat} {m : PM} {P : PO → PH → Prop} {k n pc : Nat} {ls : List (Option PV)} {st : List PV} {h : PH} (cut : List Nat) (f : Nat) (hg : k_go x d K N m P cut k n f pc ls st h) : k_Wp x d K N m P k n pc ls st h := k_go_ok cut f pc ls st h hg
end
