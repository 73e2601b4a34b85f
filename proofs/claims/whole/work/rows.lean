section
-- ===== PART A: goes FIRST, ahead of the names: the tables' words, and 'selects' of the private methods out of them =====
/-- a private method of a class that the tables say can be made, by its rows of tables_1 -/
def lw_okq (q : MethodName × Nat) : Prop := (q.1.cls ≠ "java/lang/invoke/MethodHandle" ∧ q.1.cls ≠ "java/lang/invoke/VarHandle") ∧ Cond.instantiable q.1.cls q.2 ∈ tables_1 ∧ Cond.privateMethod q.1 ∈ tables_1 ∧ Cond.instanceMethod q.1 ∈ tables_1
theorem lw_p0 : lw_okq (⟨"FineSlot$Plan", "decide", "(LFineSlot$World;[I[I)V"⟩, 12) := ⟨⟨by decide +kernel, by decide +kernel⟩, List.mem_of_getElem? (i := 116) (by decide +kernel), List.mem_of_getElem? (i := 476) (by decide +kernel), List.mem_of_getElem? (i := 477) (by decide +kernel)⟩
theorem lw_p1 : lw_okq (⟨"FineSlot$Plan", "bring", "([I)V"⟩, 12) := ⟨⟨by decide +kernel, by decide +kernel⟩, List.mem_of_getElem? (i := 116) (by decide +kernel), List.mem_of_getElem? (i := 484) (by decide +kernel), List.mem_of_getElem? (i := 485) (by decide +kernel)⟩
theorem lw_p2 : lw_okq (⟨"FineSlot$Plan", "addUp", "(JI)V"⟩, 12) := ⟨⟨by decide +kernel, by decide +kernel⟩, List.mem_of_getElem? (i := 116) (by decide +kernel), List.mem_of_getElem? (i := 541) (by decide +kernel), List.mem_of_getElem? (i := 542) (by decide +kernel)⟩
theorem lw_p3 : lw_okq (⟨"FineSlot", "lostAt", "(II)I"⟩, 11) := ⟨⟨by decide +kernel, by decide +kernel⟩, List.mem_of_getElem? (i := 21) (by decide +kernel), List.mem_of_getElem? (i := 565) (by decide +kernel), List.mem_of_getElem? (i := 566) (by decide +kernel)⟩
theorem lw_p4 : lw_okq (⟨"FineSlot$Tape", "hasWord", "()Z"⟩, 5) := ⟨⟨by decide +kernel, by decide +kernel⟩, List.mem_of_getElem? (i := 176) (by decide +kernel), List.mem_of_getElem? (i := 606) (by decide +kernel), List.mem_of_getElem? (i := 607) (by decide +kernel)⟩
theorem lw_p5 : lw_okq (⟨"FineSlot$Tape", "goesOn", "(I)Z"⟩, 5) := ⟨⟨by decide +kernel, by decide +kernel⟩, List.mem_of_getElem? (i := 176) (by decide +kernel), List.mem_of_getElem? (i := 620) (by decide +kernel), List.mem_of_getElem? (i := 621) (by decide +kernel)⟩
theorem lw_p6 : lw_okq (⟨"FineSlot$Parser", "keyInHand", "()I"⟩, 6) := ⟨⟨by decide +kernel, by decide +kernel⟩, List.mem_of_getElem? (i := 170) (by decide +kernel), List.mem_of_getElem? (i := 624) (by decide +kernel), List.mem_of_getElem? (i := 625) (by decide +kernel)⟩
theorem lw_p7 : lw_okq (⟨"FineSlot$Parser", "refuse", "()V"⟩, 6) := ⟨⟨by decide +kernel, by decide +kernel⟩, List.mem_of_getElem? (i := 170) (by decide +kernel), List.mem_of_getElem? (i := 683) (by decide +kernel), List.mem_of_getElem? (i := 684) (by decide +kernel)⟩
theorem lw_p8 : lw_okq (⟨"FineSlot$Parser", "readLevel", "(III)V"⟩, 6) := ⟨⟨by decide +kernel, by decide +kernel⟩, List.mem_of_getElem? (i := 170) (by decide +kernel), List.mem_of_getElem? (i := 689) (by decide +kernel), List.mem_of_getElem? (i := 690) (by decide +kernel)⟩
theorem lw_p9 : lw_okq (⟨"FineSlot$Parser", "readPiece", "(II)V"⟩, 6) := ⟨⟨by decide +kernel, by decide +kernel⟩, List.mem_of_getElem? (i := 170) (by decide +kernel), List.mem_of_getElem? (i := 693) (by decide +kernel), List.mem_of_getElem? (i := 694) (by decide +kernel)⟩
theorem lw_p10 : lw_okq (⟨"FineSlot$Parser", "names", "()Ljava/lang/String;"⟩, 6) := ⟨⟨by decide +kernel, by decide +kernel⟩, List.mem_of_getElem? (i := 170) (by decide +kernel), List.mem_of_getElem? (i := 697) (by decide +kernel), List.mem_of_getElem? (i := 698) (by decide +kernel)⟩
theorem lw_p11 : lw_okq (⟨"FineSlot$Parser", "addLeaf", "(I)V"⟩, 6) := ⟨⟨by decide +kernel, by decide +kernel⟩, List.mem_of_getElem? (i := 170) (by decide +kernel), List.mem_of_getElem? (i := 767) (by decide +kernel), List.mem_of_getElem? (i := 768) (by decide +kernel)⟩
theorem lw_p12 : lw_okq (⟨"FineSlot$Parser", "add", "(I)V"⟩, 6) := ⟨⟨by decide +kernel, by decide +kernel⟩, List.mem_of_getElem? (i := 170) (by decide +kernel), List.mem_of_getElem? (i := 771) (by decide +kernel), List.mem_of_getElem? (i := 772) (by decide +kernel)⟩
theorem lw_p13 : lw_okq (⟨"FineSlot", "sheetAt", "(I)LFineSlot$Sheet;"⟩, 11) := ⟨⟨by decide +kernel, by decide +kernel⟩, List.mem_of_getElem? (i := 21) (by decide +kernel), List.mem_of_getElem? (i := 831) (by decide +kernel), List.mem_of_getElem? (i := 832) (by decide +kernel)⟩
theorem lw_p14 : lw_okq (⟨"FineSlot", "slotAt", "(I)LFineSlot$Slot;"⟩, 11) := ⟨⟨by decide +kernel, by decide +kernel⟩, List.mem_of_getElem? (i := 21) (by decide +kernel), List.mem_of_getElem? (i := 891) (by decide +kernel), List.mem_of_getElem? (i := 892) (by decide +kernel)⟩
theorem lw_p15 : lw_okq (⟨"FineSlot", "waitsAt", "(III)Z"⟩, 11) := ⟨⟨by decide +kernel, by decide +kernel⟩, List.mem_of_getElem? (i := 21) (by decide +kernel), List.mem_of_getElem? (i := 927) (by decide +kernel), List.mem_of_getElem? (i := 928) (by decide +kernel)⟩
def lw_privs_1 : List (MethodName × Nat) := [(⟨"FineSlot$Plan", "decide", "(LFineSlot$World;[I[I)V"⟩, 12), (⟨"FineSlot$Plan", "bring", "([I)V"⟩, 12), (⟨"FineSlot$Plan", "addUp", "(JI)V"⟩, 12), (⟨"FineSlot", "lostAt", "(II)I"⟩, 11), (⟨"FineSlot$Tape", "hasWord", "()Z"⟩, 5), (⟨"FineSlot$Tape", "goesOn", "(I)Z"⟩, 5), (⟨"FineSlot$Parser", "keyInHand", "()I"⟩, 6), (⟨"FineSlot$Parser", "refuse", "()V"⟩, 6), (⟨"FineSlot$Parser", "readLevel", "(III)V"⟩, 6), (⟨"FineSlot$Parser", "readPiece", "(II)V"⟩, 6), (⟨"FineSlot$Parser", "names", "()Ljava/lang/String;"⟩, 6), (⟨"FineSlot$Parser", "addLeaf", "(I)V"⟩, 6), (⟨"FineSlot$Parser", "add", "(I)V"⟩, 6), (⟨"FineSlot", "sheetAt", "(I)LFineSlot$Sheet;"⟩, 11), (⟨"FineSlot", "slotAt", "(I)LFineSlot$Slot;"⟩, 11), (⟨"FineSlot", "waitsAt", "(III)Z"⟩, 11)]
theorem lw_r1 : ∀ q ∈ lw_privs_1, lw_okq q := List.forall_mem_cons.mpr ⟨lw_p0, List.forall_mem_cons.mpr ⟨lw_p1, List.forall_mem_cons.mpr ⟨lw_p2, List.forall_mem_cons.mpr ⟨lw_p3, List.forall_mem_cons.mpr ⟨lw_p4, List.forall_mem_cons.mpr ⟨lw_p5, List.forall_mem_cons.mpr ⟨lw_p6, List.forall_mem_cons.mpr ⟨lw_p7, List.forall_mem_cons.mpr ⟨lw_p8, List.forall_mem_cons.mpr ⟨lw_p9, List.forall_mem_cons.mpr ⟨lw_p10, List.forall_mem_cons.mpr ⟨lw_p11, List.forall_mem_cons.mpr ⟨lw_p12, List.forall_mem_cons.mpr ⟨lw_p13, List.forall_mem_cons.mpr ⟨lw_p14, List.forall_mem_cons.mpr ⟨lw_p15, fun _ h => absurd h List.not_mem_nil⟩⟩⟩⟩⟩⟩⟩⟩⟩⟩⟩⟩⟩⟩⟩⟩
theorem lw_p16 : lw_okq (⟨"FineSlotModel", "comes", "(III)I"⟩, 44) := ⟨⟨by decide +kernel, by decide +kernel⟩, List.mem_of_getElem? (i := 953) (by decide +kernel), List.mem_of_getElem? (i := 1102) (by decide +kernel), List.mem_of_getElem? (i := 1103) (by decide +kernel)⟩
theorem lw_p17 : lw_okq (⟨"FineSlotModel", "isSort", "(I)Z"⟩, 44) := ⟨⟨by decide +kernel, by decide +kernel⟩, List.mem_of_getElem? (i := 953) (by decide +kernel), List.mem_of_getElem? (i := 1110) (by decide +kernel), List.mem_of_getElem? (i := 1111) (by decide +kernel)⟩
theorem lw_p18 : lw_okq (⟨"FineSlotModel", "sortOf", "(II)I"⟩, 44) := ⟨⟨by decide +kernel, by decide +kernel⟩, List.mem_of_getElem? (i := 953) (by decide +kernel), List.mem_of_getElem? (i := 1114) (by decide +kernel), List.mem_of_getElem? (i := 1115) (by decide +kernel)⟩
theorem lw_p19 : lw_okq (⟨"FineSlotModel", "draw", "()I"⟩, 44) := ⟨⟨by decide +kernel, by decide +kernel⟩, List.mem_of_getElem? (i := 953) (by decide +kernel), List.mem_of_getElem? (i := 1129) (by decide +kernel), List.mem_of_getElem? (i := 1130) (by decide +kernel)⟩
theorem lw_p20 : lw_okq (⟨"FineSlotModel", "isRule", "(I)Z"⟩, 44) := ⟨⟨by decide +kernel, by decide +kernel⟩, List.mem_of_getElem? (i := 953) (by decide +kernel), List.mem_of_getElem? (i := 1148) (by decide +kernel), List.mem_of_getElem? (i := 1149) (by decide +kernel)⟩
theorem lw_p21 : lw_okq (⟨"FineSlotModel", "of", "(II)I"⟩, 44) := ⟨⟨by decide +kernel, by decide +kernel⟩, List.mem_of_getElem? (i := 953) (by decide +kernel), List.mem_of_getElem? (i := 1152) (by decide +kernel), List.mem_of_getElem? (i := 1153) (by decide +kernel)⟩
theorem lw_p22 : lw_okq (⟨"FineSlotModel", "worthOf", "(I)I"⟩, 44) := ⟨⟨by decide +kernel, by decide +kernel⟩, List.mem_of_getElem? (i := 953) (by decide +kernel), List.mem_of_getElem? (i := 1156) (by decide +kernel), List.mem_of_getElem? (i := 1157) (by decide +kernel)⟩
theorem lw_p23 : lw_okq (⟨"FineSlotModel", "becomes", "(III)I"⟩, 44) := ⟨⟨by decide +kernel, by decide +kernel⟩, List.mem_of_getElem? (i := 953) (by decide +kernel), List.mem_of_getElem? (i := 1172) (by decide +kernel), List.mem_of_getElem? (i := 1173) (by decide +kernel)⟩
theorem lw_p24 : lw_okq (⟨"FineSlotModel", "owedBy", "(II)I"⟩, 44) := ⟨⟨by decide +kernel, by decide +kernel⟩, List.mem_of_getElem? (i := 953) (by decide +kernel), List.mem_of_getElem? (i := 1187) (by decide +kernel), List.mem_of_getElem? (i := 1188) (by decide +kernel)⟩
theorem lw_p25 : lw_okq (⟨"FineSlotModel", "counts", "(I)I"⟩, 44) := ⟨⟨by decide +kernel, by decide +kernel⟩, List.mem_of_getElem? (i := 953) (by decide +kernel), List.mem_of_getElem? (i := 1191) (by decide +kernel), List.mem_of_getElem? (i := 1192) (by decide +kernel)⟩
theorem lw_p26 : lw_okq (⟨"FineSlotModel", "worksOut", "(I)I"⟩, 44) := ⟨⟨by decide +kernel, by decide +kernel⟩, List.mem_of_getElem? (i := 953) (by decide +kernel), List.mem_of_getElem? (i := 1195) (by decide +kernel), List.mem_of_getElem? (i := 1196) (by decide +kernel)⟩
theorem lw_p27 : lw_okq (⟨"FineSlotModel", "findReader", "(I)V"⟩, 44) := ⟨⟨by decide +kernel, by decide +kernel⟩, List.mem_of_getElem? (i := 953) (by decide +kernel), List.mem_of_getElem? (i := 1221) (by decide +kernel), List.mem_of_getElem? (i := 1222) (by decide +kernel)⟩
theorem lw_p28 : lw_okq (⟨"FineSlotModel", "findOwed", "()V"⟩, 44) := ⟨⟨by decide +kernel, by decide +kernel⟩, List.mem_of_getElem? (i := 953) (by decide +kernel), List.mem_of_getElem? (i := 1225) (by decide +kernel), List.mem_of_getElem? (i := 1226) (by decide +kernel)⟩
theorem lw_p29 : lw_okq (⟨"FineSlotModel", "findDays", "(I)V"⟩, 44) := ⟨⟨by decide +kernel, by decide +kernel⟩, List.mem_of_getElem? (i := 953) (by decide +kernel), List.mem_of_getElem? (i := 1229) (by decide +kernel), List.mem_of_getElem? (i := 1230) (by decide +kernel)⟩
theorem lw_p30 : lw_okq (⟨"FineSlotModel", "forgetsOn", "(II)I"⟩, 44) := ⟨⟨by decide +kernel, by decide +kernel⟩, List.mem_of_getElem? (i := 953) (by decide +kernel), List.mem_of_getElem? (i := 1233) (by decide +kernel), List.mem_of_getElem? (i := 1234) (by decide +kernel)⟩
theorem lw_p31 : lw_okq (⟨"FineSlotModel", "shameOf", "(II)I"⟩, 44) := ⟨⟨by decide +kernel, by decide +kernel⟩, List.mem_of_getElem? (i := 953) (by decide +kernel), List.mem_of_getElem? (i := 1237) (by decide +kernel), List.mem_of_getElem? (i := 1238) (by decide +kernel)⟩
def lw_privs_2 : List (MethodName × Nat) := [(⟨"FineSlotModel", "comes", "(III)I"⟩, 44), (⟨"FineSlotModel", "isSort", "(I)Z"⟩, 44), (⟨"FineSlotModel", "sortOf", "(II)I"⟩, 44), (⟨"FineSlotModel", "draw", "()I"⟩, 44), (⟨"FineSlotModel", "isRule", "(I)Z"⟩, 44), (⟨"FineSlotModel", "of", "(II)I"⟩, 44), (⟨"FineSlotModel", "worthOf", "(I)I"⟩, 44), (⟨"FineSlotModel", "becomes", "(III)I"⟩, 44), (⟨"FineSlotModel", "owedBy", "(II)I"⟩, 44), (⟨"FineSlotModel", "counts", "(I)I"⟩, 44), (⟨"FineSlotModel", "worksOut", "(I)I"⟩, 44), (⟨"FineSlotModel", "findReader", "(I)V"⟩, 44), (⟨"FineSlotModel", "findOwed", "()V"⟩, 44), (⟨"FineSlotModel", "findDays", "(I)V"⟩, 44), (⟨"FineSlotModel", "forgetsOn", "(II)I"⟩, 44), (⟨"FineSlotModel", "shameOf", "(II)I"⟩, 44)]
theorem lw_r2 : ∀ q ∈ lw_privs_2, lw_okq q := List.forall_mem_cons.mpr ⟨lw_p16, List.forall_mem_cons.mpr ⟨lw_p17, List.forall_mem_cons.mpr ⟨lw_p18, List.forall_mem_cons.mpr ⟨lw_p19, List.forall_mem_cons.mpr ⟨lw_p20, List.forall_mem_cons.mpr ⟨lw_p21, List.forall_mem_cons.mpr ⟨lw_p22, List.forall_mem_cons.mpr ⟨lw_p23, List.forall_mem_cons.mpr ⟨lw_p24, List.forall_mem_cons.mpr ⟨lw_p25, List.forall_mem_cons.mpr ⟨lw_p26, List.forall_mem_cons.mpr ⟨lw_p27, List.forall_mem_cons.mpr ⟨lw_p28, List.forall_mem_cons.mpr ⟨lw_p29, List.forall_mem_cons.mpr ⟨lw_p30, List.forall_mem_cons.mpr ⟨lw_p31, fun _ h => absurd h List.not_mem_nil⟩⟩⟩⟩⟩⟩⟩⟩⟩⟩⟩⟩⟩⟩⟩⟩
theorem lw_p32 : lw_okq (⟨"FineSlotModel", "drawsDay", "()I"⟩, 44) := ⟨⟨by decide +kernel, by decide +kernel⟩, List.mem_of_getElem? (i := 953) (by decide +kernel), List.mem_of_getElem? (i := 1251) (by decide +kernel), List.mem_of_getElem? (i := 1252) (by decide +kernel)⟩
theorem lw_p33 : lw_okq (⟨"FineSlotModel", "findLibrary", "()V"⟩, 44) := ⟨⟨by decide +kernel, by decide +kernel⟩, List.mem_of_getElem? (i := 953) (by decide +kernel), List.mem_of_getElem? (i := 1268) (by decide +kernel), List.mem_of_getElem? (i := 1269) (by decide +kernel)⟩
theorem lw_p34 : lw_okq (⟨"FineSlotModel", "go", "()V"⟩, 44) := ⟨⟨by decide +kernel, by decide +kernel⟩, List.mem_of_getElem? (i := 953) (by decide +kernel), List.mem_of_getElem? (i := 1302) (by decide +kernel), List.mem_of_getElem? (i := 1303) (by decide +kernel)⟩
theorem lw_p35 : lw_okq (⟨"FineSlotModel", "isLetter", "(I)Z"⟩, 44) := ⟨⟨by decide +kernel, by decide +kernel⟩, List.mem_of_getElem? (i := 953) (by decide +kernel), List.mem_of_getElem? (i := 1306) (by decide +kernel), List.mem_of_getElem? (i := 1307) (by decide +kernel)⟩
theorem lw_p36 : lw_okq (⟨"FineSlotModel", "isFigure", "(I)Z"⟩, 44) := ⟨⟨by decide +kernel, by decide +kernel⟩, List.mem_of_getElem? (i := 953) (by decide +kernel), List.mem_of_getElem? (i := 1310) (by decide +kernel), List.mem_of_getElem? (i := 1311) (by decide +kernel)⟩
theorem lw_p37 : lw_okq (⟨"FineSlotModel", "takesKey", "()Z"⟩, 44) := ⟨⟨by decide +kernel, by decide +kernel⟩, List.mem_of_getElem? (i := 953) (by decide +kernel), List.mem_of_getElem? (i := 1314) (by decide +kernel), List.mem_of_getElem? (i := 1315) (by decide +kernel)⟩
theorem lw_p38 : lw_okq (⟨"FineSlotModel", "takesE", "()Z"⟩, 44) := ⟨⟨by decide +kernel, by decide +kernel⟩, List.mem_of_getElem? (i := 953) (by decide +kernel), List.mem_of_getElem? (i := 1318) (by decide +kernel), List.mem_of_getElem? (i := 1319) (by decide +kernel)⟩
theorem lw_p39 : lw_okq (⟨"FineSlotModel", "takesPart", "()Z"⟩, 44) := ⟨⟨by decide +kernel, by decide +kernel⟩, List.mem_of_getElem? (i := 953) (by decide +kernel), List.mem_of_getElem? (i := 1322) (by decide +kernel), List.mem_of_getElem? (i := 1323) (by decide +kernel)⟩
theorem lw_p40 : lw_okq (⟨"FineSlotModel", "nameOf", "(I)I"⟩, 44) := ⟨⟨by decide +kernel, by decide +kernel⟩, List.mem_of_getElem? (i := 953) (by decide +kernel), List.mem_of_getElem? (i := 1326) (by decide +kernel), List.mem_of_getElem? (i := 1327) (by decide +kernel)⟩
theorem lw_p41 : lw_okq (⟨"FineSlotModel", "settle", "(I)V"⟩, 44) := ⟨⟨by decide +kernel, by decide +kernel⟩, List.mem_of_getElem? (i := 953) (by decide +kernel), List.mem_of_getElem? (i := 1330) (by decide +kernel), List.mem_of_getElem? (i := 1331) (by decide +kernel)⟩
theorem lw_p42 : lw_okq (⟨"FineSlotModel", "notsOpen", "()I"⟩, 44) := ⟨⟨by decide +kernel, by decide +kernel⟩, List.mem_of_getElem? (i := 953) (by decide +kernel), List.mem_of_getElem? (i := 1337) (by decide +kernel), List.mem_of_getElem? (i := 1338) (by decide +kernel)⟩
theorem lw_p43 : lw_okq (⟨"FineSlotModel", "signHere", "()I"⟩, 44) := ⟨⟨by decide +kernel, by decide +kernel⟩, List.mem_of_getElem? (i := 953) (by decide +kernel), List.mem_of_getElem? (i := 1341) (by decide +kernel), List.mem_of_getElem? (i := 1342) (by decide +kernel)⟩
theorem lw_p44 : lw_okq (⟨"FineSlotModel", "rightReaders", "(II)I"⟩, 44) := ⟨⟨by decide +kernel, by decide +kernel⟩, List.mem_of_getElem? (i := 953) (by decide +kernel), List.mem_of_getElem? (i := 1411) (by decide +kernel), List.mem_of_getElem? (i := 1412) (by decide +kernel)⟩
def lw_privs_3 : List (MethodName × Nat) := [(⟨"FineSlotModel", "drawsDay", "()I"⟩, 44), (⟨"FineSlotModel", "findLibrary", "()V"⟩, 44), (⟨"FineSlotModel", "go", "()V"⟩, 44), (⟨"FineSlotModel", "isLetter", "(I)Z"⟩, 44), (⟨"FineSlotModel", "isFigure", "(I)Z"⟩, 44), (⟨"FineSlotModel", "takesKey", "()Z"⟩, 44), (⟨"FineSlotModel", "takesE", "()Z"⟩, 44), (⟨"FineSlotModel", "takesPart", "()Z"⟩, 44), (⟨"FineSlotModel", "nameOf", "(I)I"⟩, 44), (⟨"FineSlotModel", "settle", "(I)V"⟩, 44), (⟨"FineSlotModel", "notsOpen", "()I"⟩, 44), (⟨"FineSlotModel", "signHere", "()I"⟩, 44), (⟨"FineSlotModel", "rightReaders", "(II)I"⟩, 44)]
theorem lw_r3 : ∀ q ∈ lw_privs_3, lw_okq q := List.forall_mem_cons.mpr ⟨lw_p32, List.forall_mem_cons.mpr ⟨lw_p33, List.forall_mem_cons.mpr ⟨lw_p34, List.forall_mem_cons.mpr ⟨lw_p35, List.forall_mem_cons.mpr ⟨lw_p36, List.forall_mem_cons.mpr ⟨lw_p37, List.forall_mem_cons.mpr ⟨lw_p38, List.forall_mem_cons.mpr ⟨lw_p39, List.forall_mem_cons.mpr ⟨lw_p40, List.forall_mem_cons.mpr ⟨lw_p41, List.forall_mem_cons.mpr ⟨lw_p42, List.forall_mem_cons.mpr ⟨lw_p43, List.forall_mem_cons.mpr ⟨lw_p44, fun _ h => absurd h List.not_mem_nil⟩⟩⟩⟩⟩⟩⟩⟩⟩⟩⟩⟩⟩
def lw_privs : List (MethodName × Nat) := lw_privs_1 ++ (lw_privs_2 ++ (lw_privs_3))
def lw_tbl : List Cond := k2_sels lw_privs ++ tables_1
theorem lw_privs_ok : ∀ q ∈ lw_privs, lw_okq q := by
  show ∀ q ∈ lw_privs_1 ++ (lw_privs_2 ++ (lw_privs_3)), lw_okq q
  exact List.forall_mem_append.mpr ⟨lw_r1, List.forall_mem_append.mpr ⟨lw_r2, lw_r3⟩⟩
end
section
/-! Rows of rows are made: the outer array, then the inner ones. -/
theorem mn_slots (cA : ClassId) (N h : Nat) : ∀ i, i ≤ N → ∀ j, j < N → (Jvm.Free.Multi.outerC cA N h i).slots[j]? = some (if j < i then .ref (h + 1 + j) else .null)
  | 0, _, j, hj => by
    show (Array.replicate N Value.null)[j]? = _
    rw [Array.getElem?_replicate, if_pos hj, if_neg (Nat.not_lt_zero j)]
  | i + 1, hi, j, hj => by
    have ih := mn_slots cA N h i (by omega) j hj
    show ((Jvm.Free.Multi.outerC cA N h i).slots.setIfInBounds i (Value.ref (h + 1 + i)))[j]? = _
    rw [Array.getElem?_setIfInBounds, (Jvm.Free.Multi.outerC_facts cA N h i).2.2]
    by_cases e : i = j
    · subst e; rw [if_pos rfl, if_pos (by omega), if_pos (by omega)]
    · rw [if_neg e, ih]
      by_cases e2 : j < i
      · rw [if_pos e2, if_pos (by omega)]
      · rw [if_neg e2, if_neg (by omega)]
theorem mn_eta (cA : ClassId) (N h : Nat) : ∀ i, Jvm.Free.Multi.outerC cA N h i = { cls := cA, slots := (Jvm.Free.Multi.outerC cA N h i).slots, vm := .none }
  | 0 => rfl
  | i + 1 => by
    have ih := mn_eta cA N h i
    show (Jvm.Free.Multi.outerC cA N h i).setSlot i _ = { cls := cA, slots := ((Jvm.Free.Multi.outerC cA N h i).setSlot i _).slots, vm := .none }
    generalize Jvm.Free.Multi.outerC cA N h i = X at ih ⊢
    rw [ih]
    rfl
theorem mn_outer (cA : ClassId) (N h : Nat) : Jvm.Free.Multi.outerC cA N h N = vp_cell cA (N, .inr (.inr (.inr (.inr (fun i => if i < N then some (h + 1 + i) else none))))) := by
  have a3 := (Jvm.Free.Multi.outerC_facts cA N h N).2.2
  have hs : (Jvm.Free.Multi.outerC cA N h N).slots = Array.ofFn (n := N) fun j => va_rf (if j.val < N then some (h + 1 + j.val) else none) := by
    apply Array.ext_getElem?
    intro j
    by_cases hj : j < N
    · rw [mn_slots cA N h N (Nat.le_refl N) j hj, Array.getElem?_ofFn, dif_pos hj]
      show some (if j < N then _ else _) = some (va_rf (if j < N then _ else _))
      rw [if_pos hj, if_pos hj]
      rfl
    · rw [Array.getElem?_eq_none (by rw [a3]; omega), Array.getElem?_eq_none (by rw [Array.size_ofFn]; omega)]
  rw [vp_cell_q, mn_eta, hs]
  rfl
theorem mn_inner (cy : ClassId) (M : Nat) : Jvm.Free.Multi.innerC cy M (defaultValue .int) = vp_cell cy (M, .inl (fun _ => 0)) := by
  rw [vp_cell_i]
  unfold Jvm.Free.Multi.innerC arrV
  congr 1
  apply Array.ext_getElem?
  intro j
  by_cases hj : j < M
  · rw [Array.getElem?_replicate, if_pos hj, Array.getElem?_ofFn, dif_pos hj]; rfl
  · rw [Array.getElem?_eq_none (by rw [Array.size_replicate]; omega), Array.getElem?_eq_none (by rw [Array.size_ofFn]; omega)]
theorem mn_W {p : Program} {l : Launch} {e : Env} {R : Room} {s : State} {m : MethodId} {args : Array Value} {below : List Frame} {meth : Method} {c : Code} {H : Heap} {locs : List Loc} {cells slots pc : Nat} {ls : Array Slot} {rest : List Value} {Q : State → Prop}
    {cc : ByteArray} (hexec : p.tables.exec = Jvm.exec) (hb : c.code = cc) {own : String} {index : Nat} (hown : s.vm.findClass own = some m.cls) (hclink : (Cond.classLink own index ("[" ++ (FieldType.array .int).toString)).before args s = true)
    (hover : (Cond.arrayOver (.array .int)).before args s = true) (harr : (Cond.arrayClass .int).before args s = true) {n k : Int32} {N M : Nat} (hn : ¬ n < 0) (hk : ¬ k < 0) (hN : n.toNatClampNeg = N) (hM : k.toNatClampNeg = M) (hb1 : N < 1000) (hb2 : M < 1000)
    (hcells : cells + (1 + N) ≤ R.cells) (hslots : slots + (N + N * M) ≤ R.slots) (hdg : decode cc pc = .ok (.multianewarray index 2, 4))
    (kk : ∀ (cA cI : ClassId) (H1 : Heap), s.vm.findClass ("[" ++ (FieldType.array .int).toString) = some cA → s.vm.findClass (FieldType.array .int).toString = some cI → H1.size = H.size + 1 + N → (∀ x, x < H.size → H1[x]? = H[x]?) →
      H1[H.size]? = some (vp_cell cA (N, .inr (.inr (.inr (.inr (fun i => if i < N then some (H.size + 1 + i) else none)))))) → (∀ j, j < N → H1[H.size + 1 + j]? = some (vp_cell cI (M, .inl (fun _ => 0)))) →
      W p l e R s m args below meth c H1 locs (cells + 1 + N) (slots + N + N * M) Q (F0 m (pc + 4) ls (.ref H.size :: rest))) : W p l e R s m args below meth c H locs cells slots Q (F0 m pc ls (.int k :: .int n :: rest)) := by
  subst hN
  subst hM
  intro T hT Xs
  obtain ⟨vm1, cA, comp, -, fA, fC, -, -, X', step⟩ := Xs.multianewarray2F hexec hown hclink hover harr (g := F0 m pc ls (.int k :: .int n :: rest)) rfl (by rw [hb]; exact hdg) rfl hn hk (by omega) (by show _ * 4 ≤ _; omega) (by omega) rfl rfl hcells hslots
  have hTh : (T.setVm vm1).heap = H := hT
  obtain ⟨f1, f2, -, -⟩ := Jvm.Free.Multi.fill_facts (T.setVm vm1) cA comp n.toNatClampNeg k.toNatClampNeg (defaultValue .int) n.toNatClampNeg
  have hold := fun (x : Nat) (hx : x < H.size) => Jvm.Free.Multi.fill_old (T.setVm vm1) cA comp n.toNatClampNeg k.toNatClampNeg (defaultValue .int) (a := x) (by rw [hTh]; exact hx) n.toNatClampNeg
  have hrow := Jvm.Free.Multi.fill_inner (T.setVm vm1) cA comp n.toNatClampNeg k.toNatClampNeg (defaultValue .int) n.toNatClampNeg
  generalize Jvm.Free.Multi.fill (T.setVm vm1) cA comp n.toNatClampNeg k.toNatClampNeg (defaultValue .int) n.toNatClampNeg = F at X' step f1 f2 hold hrow
  rw [hTh] at f1 f2
  rw [mn_outer] at f2
  simp only [hTh, mn_inner] at hrow hold
  obtain ⟨t, a1, b1⟩ := kk cA comp F.heap fA fC f1 hold f2 hrow F rfl X'
  refine ⟨t, step t ?_, b1⟩
  have e1 : T.heap.size = H.size := by rw [hT]
  rw [e1]
  exact a1
end
