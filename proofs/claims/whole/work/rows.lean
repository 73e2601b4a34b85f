section
-- ===== PART A: goes FIRST, ahead of the names: the tables' words, and 'selects' of the private methods out of them =====
/-- a private method of a class that the tables say can be made, by its rows of tables_1 -/
def lw_okq (q : MethodName × Nat) : Prop := (q.1.cls ≠ "java/lang/invoke/MethodHandle" ∧ q.1.cls ≠ "java/lang/invoke/VarHandle") ∧ Cond.instantiable q.1.cls q.2 ∈ tables_1 ∧ Cond.privateMethod q.1 ∈ tables_1 ∧ Cond.instanceMethod q.1 ∈ tables_1
theorem lw_p0 : lw_okq (⟨"FineSlot$Plan", "decide", "(LFineSlot$World;[I[I)V"⟩, 12) := ⟨⟨by decide +kernel, by decide +kernel⟩, List.mem_of_getElem? (i := 116) (by decide +kernel), List.mem_of_getElem? (i := 476) (by decide +kernel), List.mem_of_getElem? (i := 477) (by decide +kernel)⟩
theorem lw_p1 : lw_okq (⟨"FineSlot$Plan", "bring", "([I)V"⟩, 12) := ⟨⟨by decide +kernel, by decide +kernel⟩, List.mem_of_getElem? (i := 116) (by decide +kernel), List.mem_of_getElem? (i := 484) (by decide +kernel), List.mem_of_getElem? (i := 485) (by decide +kernel)⟩
theorem lw_p2 : lw_okq (⟨"FineSlot$Plan", "addUp", "(JI)V"⟩, 12) := ⟨⟨by decide +kernel, by decide +kernel⟩, List.mem_of_getElem? (i := 116) (by decide +kernel), List.mem_of_getElem? (i := 541) (by decide +kernel), List.mem_of_getElem? (i := 542) (by decide +kernel)⟩
theorem lw_p3 : lw_okq (⟨"FineSlot", "lostAt", "(II)I"⟩, 11) := ⟨⟨by decide +kernel, by decide +kernel⟩, List.mem_of_getElem? (i := 21) (by decide +kernel), List.mem_of_getElem? (i := 565) (by decide +kernel), List.mem_of_getElem? (i := 566) (by decide +kernel)⟩
theorem lw_p4 : lw_okq (⟨"FineSlot$Tape", "hasWord", "()Z"⟩, 5) := ⟨⟨by decide +kernel, by decide +kernel⟩, List.mem_of_getElem? (i := 176) (by decide +kernel), List.mem_of_getElem? (i := 606) (by decide +kernel), List.mem_of_getElem? (i := 607) (by decide +kernel)⟩
theorem lw_p5 : lw_okq (⟨"FineSlot$Tape", "goesOn", "(I)Z"⟩, 5) := ⟨⟨by decide +kernel, by decide +kernel⟩, List.mem_of_getElem? (i := 176) (by decide +kernel), List.mem_of_getElem? (i := 620) (by decide +kernel), List.mem_of_getElem? (i := 621) (by decide +kernel)⟩
theorem lw_p6 : lw_okq (⟨"FineSlot$Parser", "keyInHand", "()I"⟩, 6) := ⟨⟨by decide +kernel, by decide +kernel⟩, List.mem_of_getElem? (i := 170) (by decide +kernel), List.mem_of_getElem? (i := 624) (by decide +kernel), List.mem_of_getElem? (i := 625) (by decide +kernel)⟩
theorem lw_p7 : lw_okq (⟨"FineSlot$Parser", "refuse", "()V"⟩, 6) := ⟨⟨by decide +kernel, by decide +kernel⟩, List.mem_of_getElem? (i := 170) (by decide +kernel), List.mem_of_getElem? (i := 683) (by decide +kernel), List.mem_of_getElem? (i := 684) (by decide +kernel)⟩
theorem lw_p8 : lw_okq (⟨"FineSlot$Parser", "readLevel", "(III)V"⟩, 6) := ⟨⟨by decide +kernel, by decide +kernel⟩, List.mem_of_getElem? (i := 170) (by decide +kernel), List.mem_of_getElem? (i := 689) (by decide +kernel), List.mem_of_getElem? (i := 690) (by decide +kernel)⟩
theorem lw_p9 : lw_okq (⟨"FineSlot$Parser", "readPiece", "(II)V"⟩, 6) := ⟨⟨by decide +kernel, by decide +kernel⟩, List.mem_of_getElem? (i := 170) (by decide +kernel), List.mem_of_getElem? (i := 693) (by decide +kernel), List.mem_of_getElem? (i := 694) (by decide +kernel)⟩
theorem lw_p10 : lw_okq (⟨"FineSlot$Parser", "names", "()Ljava/lang/String;"⟩, 6) := ⟨⟨by decide +kernel, by decide +kernel⟩, List.mem_of_getElem? (i := 170) (by decide +kernel), List.mem_of_getElem? (i := 697) (by decide +kernel), List.mem_of_getElem? (i := 698) (by decide +kernel)⟩
theorem lw_p11 : lw_okq (⟨"FineSlot$Parser", "addLeaf", "(I)V"⟩, 6) := ⟨⟨by decide +kernel, by decide +kernel⟩, List.mem_of_getElem? (i := 170) (by decide +kernel), List.mem_of_getElem? (i := 767) (by decide +kernel), List.mem_of_getElem? (i := 768) (by decide +kernel)⟩
theorem lw_p12 : lw_okq (⟨"FineSlot$Parser", "add", "(I)V"⟩, 6) := ⟨⟨by decide +kernel, by decide +kernel⟩, List.mem_of_getElem? (i := 170) (by decide +kernel), List.mem_of_getElem? (i := 771) (by decide +kernel), List.mem_of_getElem? (i := 772) (by decide +kernel)⟩
theorem lw_p13 : lw_okq (⟨"FineSlot", "sheetAt", "(I)LFineSlot$Sheet;"⟩, 11) := ⟨⟨by decide +kernel, by decide +kernel⟩, List.mem_of_getElem? (i := 21) (by decide +kernel), List.mem_of_getElem? (i := 831) (by decide +kernel), List.mem_of_getElem? (i := 832) (by decide +kernel)⟩
theorem lw_p14 : lw_okq (⟨"FineSlot", "slotAt", "(I)LFineSlot$Slot;"⟩, 11) := ⟨⟨by decide +kernel, by decide +kernel⟩, List.mem_of_getElem? (i := 21) (by decide +kernel), List.mem_of_getElem? (i := 891) (by decide +kernel), List.mem_of_getElem? (i := 892) (by decide +kernel)⟩
theorem lw_p15 : lw_okq (⟨"FineSlot", "waitsAt", "(III)Z"⟩, 11) := ⟨⟨by decide +kernel, by decide +kernel⟩, List.mem_of_getElem? (i := 21) (by decide +kernel), List.mem_of_getElem? (i := 927) (by decide +kernel), List.mem_of_getElem? (i := 928) (by decide +kernel)⟩
def lw_privs_1 : List (MethodName × Nat) := [(⟨"FineSlot$Plan", "decide", "(LFineSlot$World;[I[I)V"⟩, 12), (⟨"FineSlot$Plan", "bring", "([I)V"⟩, 12), (⟨"FineSlot$Plan", "addUp", "(JI)V"⟩, 12), (⟨"FineSlot", "lostAt", "(II)I"⟩, 11), (⟨"FineSlot$Tape", "hasWord", "()Z"⟩, 5), (⟨"FineSlot$Tape", "goesOn", "(I)Z"⟩, 5), (⟨"FineSlot$Parser", "keyInHand", "()I"⟩, 6), (⟨"FineSlot$Parser", "refuse", "()V"⟩, 6), (⟨"FineSlot$Parser", "readLevel", "(III)V"⟩, 6), (⟨"FineSlot$Parser", "readPiece", "(II)V"⟩, 6), (⟨"FineSlot$Parser", "names", "()Ljava/lang/String;"⟩, 6), (⟨"FineSlot$Parser", "addLeaf", "(I)V"⟩, 6), (⟨"FineSlot$Parser", "add", "(I)V"⟩, 6), (⟨"FineSlot", "sheetAt", "(I)LFineSlot$Sheet;"⟩, 11), (⟨"FineSlot", "slotAt", "(I)LFineSlot$Slot;"⟩, 11), (⟨"FineSlot", "waitsAt", "(III)Z"⟩, 11)]
theorem lw_r1 : ∀ q ∈ lw_privs_1, lw_okq q := List.forall_mem_cons.mpr ⟨lw_p0, List.forall_mem_cons.mpr ⟨lw_p1, List.forall_mem_cons.mpr ⟨lw_p2, List.forall_mem_cons.mpr ⟨lw_p3, List.forall_mem_cons.mpr ⟨lw_p4, List.forall_mem_cons.mpr ⟨lw_p5, List.forall_mem_cons.mpr ⟨lw_p6, List.forall_mem_cons.mpr ⟨lw_p7, List.forall_mem_cons.mpr ⟨lw_p8, List.forall_mem_cons.mpr ⟨lw_p9, List.forall_mem_cons.mpr ⟨lw_p10, List.forall_mem_cons.mpr ⟨lw_p11, List.forall_mem_cons.mpr ⟨lw_p12, List.forall_mem_cons.mpr ⟨lw_p13, List.forall_mem_cons.mpr ⟨lw_p14, List.forall_mem_cons.mpr ⟨lw_p15, fun _ h => absurd h List.not_mem_nil⟩⟩⟩⟩⟩⟩⟩⟩⟩⟩⟩⟩⟩⟩⟩⟩
theorem lw_p16 : lw_okq (⟨"FineSlotModel", "comes", "(III)I"⟩, 44) := ⟨⟨by decide +kernel, by decide +kernel⟩, List.mem_of_getElem? (i := 953) (by decide +kernel), List.mem_of_getElem? (i := 1102) (by decide +kernel), List.mem_of_getElem? (i := 1103) (by decide +kernel)⟩
theorem lw_p17 : lw_okq (⟨"FineSlotModel", "isSort", "(I)Z"⟩, 44) := ⟨⟨by decide +kernel, by decide +kernel⟩, List.mem_of_getElem? (i := 953) (by decide +kernel), List.mem_of_getElem? (i := 1110) (by decide +kernel), List.mem_of_getElem? (i := 1111) (by decide +kernel)⟩
theorem lw_p18 : lw_okq (⟨"FineSlotModel", "sortOf", "(II)I"⟩, 44) := ⟨⟨by decide +kernel, by decide +kernel⟩, List.mem_of_getElem? (i := 953) (by decide +kernel), List.mem_of_getElem? (i := 1114) (by decide +kernel), List.mem_of_getElem? (i := 1115) (by decide +kernel)⟩
theorem lw_p19 : lw_okq (⟨"FineSlotModel", "draw", "()I"⟩, 44) := ⟨⟨by decide +kernel, by decide +kernel⟩, List.mem_of_getElem? (i := 953) (by decide +kernel), List.mem_of_getElem? (i := 1129) (by decide +kernel), List.mem_of_getElem? (i := 1130) (by decide +kernel)⟩
theorem lw_p20 : lw_okq (⟨"FineSlotModel", "isRule", "(I)Z"⟩, 44) := ⟨⟨by decide +kernel, by decide +kernel⟩, List.mem_of_getElem? (i := 953) (by decide +kernel), List.mem_of_getElem? (i := 1148) (by decide +kernel), List.mem_of_getElem? (i := 1149) (by decide +kernel)⟩
theorem lw_p21 : lw_okq (⟨"FineSlotModel", "of", "(II)I"⟩, 44) := ⟨⟨by decide +kernel, by decide +kernel⟩, List.mem_of_getElem? (i := 953) (by decide +kernel), List.mem_of_getElem? (i := 1152) (by decide +kernel), List.mem_of_getElem? (i := 1153) (by decide +kernel)⟩
theorem lw_p22 : lw_okq (⟨"FineSlotModel", "worthOf", "(I)I"⟩, 44) := ⟨⟨by decide +kernel, by decide +kernel⟩, List.mem_of_getElem? (i := 953) (by decide +kernel), List.mem_of_getElem? (i := 1156) (by decide +kernel), List.mem_of_getElem? (i := 1157) (by decide +kernel)⟩
theorem lw_p23 : lw_okq (⟨"FineSlotModel", "becomes", "(III)I"⟩, 44) := ⟨⟨by decide +kernel, by decide +kernel⟩, List.mem_of_getElem? (i := 953) (by decide +kernel), List.mem_of_getElem? (i := 1172) (by decide +kernel), List.mem_of_getElem? (i := 1173) (by decide +kernel)⟩
theorem lw_p24 : lw_okq (⟨"FineSlotModel", "owedBy", "(II)I"⟩, 44) := ⟨⟨by decide +kernel, by decide +kernel⟩, List.mem_of_getElem? (i := 953) (by decide +kernel), List.mem_of_getElem? (i := 1187) (by decide +kernel), List.mem_of_getElem? (i := 1188) (by decide +kernel)⟩
theorem lw_p25 : lw_okq (⟨"FineSlotModel", "counts", "(I)I"⟩, 44) := ⟨⟨by decide +kernel, by decide +kernel⟩, List.mem_of_getElem? (i := 953) (by decide +kernel), List.mem_of_getElem? (i := 1191) (by decide +kernel), List.mem_of_getElem? (i := 1192) (by decide +kernel)⟩
theorem lw_p26 : lw_okq (⟨"FineSlotModel", "worksOut", "(I)I"⟩, 44) := ⟨⟨by decide +kernel, by decide +kernel⟩, List.mem_of_getElem? (i := 953) (by decide +kernel), List.mem_of_getElem? (i := 1195) (by decide +kernel), List.mem_of_getElem? (i := 1196) (by decide +kernel)⟩
theorem lw_p27 : lw_okq (⟨"FineSlotModel", "findReader", "(I)V"⟩, 44) := ⟨⟨by decide +kernel, by decide +kernel⟩, List.mem_of_getElem? (i := 953) (by decide +kernel), List.mem_of_getElem? (i := 1221) (by decide +kernel), List.mem_of_getElem? (i := 1222) (by decide +kernel)⟩
theorem lw_p28 : lw_okq (⟨"FineSlotModel", "findOwed", "()V"⟩, 44) := ⟨⟨by decide +kernel, by decide +kernel⟩, List.mem_of_getElem? (i := 953) (by decide +kernel), List.mem_of_getElem? (i := 1225) (by decide +kernel), List.mem_of_getElem? (i := 1226) (by decide +kernel)⟩
theorem lw_p29 : lw_okq (⟨"FineSlotModel", "findDays", "(I)V"⟩, 44) := ⟨⟨by decide +kernel, by decide +kernel⟩, List.mem_of_getElem? (i := 953) (by decide +kernel), List.mem_of_getElem? (i := 1229) (by decide +kernel), List.mem_of_getElem? (i := 1230) (by decide +kernel)⟩
theorem lw_p30 : lw_okq (⟨"FineSlotModel", "forgetsOn", "(II)I"⟩, 44) := ⟨⟨by decide +kernel, by decide +kernel⟩, List.mem_of_getElem? (i := 953) (by decide +kernel), List.mem_of_getElem? (i := 1233) (by decide +kernel), List.mem_of_getElem? (i := 1234) (by decide +kernel)⟩
theorem lw_p31 : lw_okq (⟨"FineSlotModel", "shameOf", "(II)I"⟩, 44) := ⟨⟨by decide +kernel, by decide +kernel⟩, List.mem_of_getElem? (i := 953) (by decide +kernel), List.mem_of_getElem? (i := 1237) (by decide +kernel), List.mem_of_getElem? (i := 1238) (by decide +kernel)⟩
def lw_privs_2 : List (MethodName × Nat) := [(⟨"FineSlotModel", "comes", "(III)I"⟩, 44), (⟨"FineSlotModel", "isSort", "(I)Z"⟩, 44), (⟨"FineSlotModel", "sortOf", "(II)I"⟩, 44), (⟨"FineSlotModel", "draw", "()I"⟩, 44), (⟨"FineSlotModel", "isRule", "(I)Z"⟩, 44), (⟨"FineSlotModel", "of", "(II)I"⟩, 44), (⟨"FineSlotModel", "worthOf", "(I)I"⟩, 44), (⟨"FineSlotModel", "becomes", "(III)I"⟩, 44), (⟨"FineSlotModel", "owedBy", "(II)I"⟩, 44), (⟨"FineSlotModel", "counts", "(I)I"⟩, 44), (⟨"FineSlotModel", "worksOut", "(I)I"⟩, 44), (⟨"FineSlotModel", "findReader", "(I)V"⟩, 44), (⟨"FineSlotModel", "findOwed", "()V"⟩, 44), (⟨"FineSlotModel", "findDays", "(I)V"⟩, 44), (⟨"FineSlotModel", "forgetsOn", "(II)I"⟩, 44), (⟨"FineSlotModel", "shameOf", "(II)I"⟩, 44)]
theorem lw_r2 : ∀ q ∈ lw_privs_2, lw_okq q := List.forall_mem_cons.mpr ⟨lw_p16, List.forall_mem_cons.mpr ⟨lw_p17, List.forall_mem_cons.mpr ⟨lw_p18, List.forall_mem_cons.mpr ⟨lw_p19, List.forall_mem_cons.mpr ⟨lw_p20, List.forall_mem_cons.mpr ⟨lw_p21, List.forall_mem_cons.mpr ⟨lw_p22, List.forall_mem_cons.mpr ⟨lw_p23, List.forall_mem_cons.mpr ⟨lw_p24, List.forall_mem_cons.mpr ⟨lw_p25, List.forall_mem_cons.mpr ⟨lw_p26, List.forall_mem_cons.mpr ⟨lw_p27, List.forall_mem_cons.mpr ⟨lw_p28, List.forall_mem_cons.mpr ⟨lw_p29, List.forall_mem_cons.mpr ⟨lw_p30, List.forall_mem_cons.mpr ⟨lw_p31, fun _ h => absurd h List.not_mem_nil⟩⟩⟩⟩⟩⟩⟩⟩⟩⟩⟩⟩⟩⟩⟩⟩
theorem lw_p32 : lw_okq (⟨"FineSlotModel", "drawsDay", "()I"⟩, 44) := ⟨⟨by decide +kernel, by decide +kernel⟩, List.mem_of_getElem? (i := 953) (by decide +kernel), List.mem_of_getElem? (i := 1251) (by decide +kernel), List.mem_of_getElem? (i := 1252) (by decide +kernel)⟩
theorem lw_p33 : lw_okq (⟨"FineSlotModel", "findLibrary", "()V"⟩, 44) := ⟨⟨by decide +kernel, by decide +kernel⟩, List.mem_of_getElem? (i := 953) (by decide +kernel), List.mem_of_getElem? (i := 1268) (by decide +kernel), List.mem_of_getElem? (i := 1269) (by decide +kernel)⟩
theorem lw_p34 : lw_okq (⟨"FineSlotModel", "go", "()V"⟩, 44) := ⟨⟨by decide +kernel, by decide +kernel⟩, List.mem_of_getElem? (i := 953) (by decide +kernel), List.mem_of_getElem? (i := 1302) (by decide +kernel), List.mem_of_getElem? (i := 1303) (by decide +kernel)⟩
theorem lw_p35 : lw_okq (⟨"FineSlotModel", "isLetter", "(I)Z"⟩, 44) := ⟨⟨by decide +kernel, by decide +kernel⟩, List.mem_of_getElem? (i := 953) (by decide +kernel), List.mem_of_getElem? (i := 1306) (by decide +kernel), List.mem_of_getElem? (i := 1307) (by decide +kernel)⟩
theorem lw_p36 : lw_okq (⟨"FineSlotModel", "isFigure", "(I)Z"⟩, 44) := ⟨⟨by decide +kernel, by decide +kernel⟩, List.mem_of_getElem? (i := 953) (by decide +kernel), List.mem_of_getElem? (i := 1310) (by decide +kernel), List.mem_of_getElem? (i := 1311) (by decide +kernel)⟩
theorem lw_p37 : lw_okq (⟨"FineSlotModel", "takesKey", "()Z"⟩, 44) := ⟨⟨by decide +kernel, by decide +kernel⟩, List.mem_of_getElem? (i := 953) (by decide +kernel), List.mem_of_getElem? (i := 1314) (by decide +kernel), List.mem_of_getElem? (i := 1315) (by decide +kernel)⟩
theorem lw_p38 : lw_okq (⟨"FineSlotModel", "takesE", "()Z"⟩, 44) := ⟨⟨by decide +kernel, by decide +kernel⟩, List.mem_of_getElem? (i := 953) (by decide +kernel), List.mem_of_getElem? (i := 1318) (by decide +kernel), List.mem_of_getElem? (i := 1319) (by decide +kernel)⟩
theorem lw_p39 : lw_okq (⟨"FineSlotModel", "takesPart", "()Z"⟩, 44) := ⟨⟨by decide +kernel, by decide +kernel⟩, List.mem_of_getElem? (i := 953) (by decide +kernel), List.mem_of_getElem? (i := 1322) (by decide +kernel), List.mem_of_getElem? (i := 1323) (by decide +kernel)⟩
theorem lw_p40 : lw_okq (⟨"FineSlotModel", "nameOf", "(I)I"⟩, 44) := ⟨⟨by decide +kernel, by decide +kernel⟩, List.mem_of_getElem? (i := 953) (by decide +kernel), List.mem_of_getElem? (i := 1326) (by decide +kernel), List.mem_of_getElem? (i := 1327) (by decide +kernel)⟩
theorem lw_p41 : lw_okq (⟨"FineSlotModel", "settle", "(I)V"⟩, 44) := ⟨⟨by decide +kernel, by decide +kernel⟩, List.mem_of_getElem? (i := 953) (by decide +kernel), List.mem_of_getElem? (i := 1330) (by decide +kernel), List.mem_of_getElem? (i := 1331) (by decide +kernel)⟩
theorem lw_p42 : lw_okq (⟨"FineSlotModel", "notsOpen", "()I"⟩, 44) := ⟨⟨by decide +kernel, by decide +kernel⟩, List.mem_of_getElem? (i := 953) (by decide +kernel), List.mem_of_getElem? (i := 1337) (by decide +kernel), List.mem_of_getElem? (i := 1338) (by decide +kernel)⟩
theorem lw_p43 : lw_okq (⟨"FineSlotModel", "signHere", "()I"⟩, 44) := ⟨⟨by decide +kernel, by decide +kernel⟩, List.mem_of_getElem? (i := 953) (by decide +kernel), List.mem_of_getElem? (i := 1341) (by decide +kernel), List.mem_of_getElem? (i := 1342) (by decide +kernel)⟩
theorem lw_p44 : lw_okq (⟨"FineSlotModel", "rightReaders", "(II)I"⟩, 44) := ⟨⟨by decide +kernel, by decide +kernel⟩, List.mem_of_getElem? (i := 953) (by decide +kernel), List.mem_of_getElem? (i := 1411) (by decide +kernel), List.mem_of_getElem? (i := 1412) (by decide +kernel)⟩
def lw_privs_3 : List (MethodName × Nat) := [(⟨"FineSlotModel", "drawsDay", "()I"⟩, 44), (⟨"FineSlotModel", "findLibrary", "()V"⟩, 44), (⟨"FineSlotModel", "go", "()V"⟩, 44), (⟨"FineSlotModel", "isLetter", "(I)Z"⟩, 44), (⟨"FineSlotModel", "isFigure", "(I)Z"⟩, 44), (⟨"FineSlotModel", "takesKey", "()Z"⟩, 44), (⟨"FineSlotModel", "takesE", "()Z"⟩, 44), (⟨"FineSlotModel", "takesPart", "()Z"⟩, 44), (⟨"FineSlotModel", "nameOf", "(I)I"⟩, 44), (⟨"FineSlotModel", "settle", "(I)V"⟩, 44), (⟨"FineSlotModel", "notsOpen", "()I"⟩, 44), (⟨"FineSlotModel", "signHere", "()I"⟩, 44), (⟨"FineSlotModel", "rightReaders", "(II)I"⟩, 44)]
theorem lw_r3 : ∀ q ∈ lw_privs_3, lw_okq q := List.forall_mem_cons.mpr ⟨lw_p32, List.forall_mem_cons.mpr ⟨lw_p33, List.forall_mem_cons.mpr ⟨lw_p34, List.forall_mem_cons.mpr ⟨lw_p35, List.forall_mem_cons.mpr ⟨lw_p36, List.forall_mem_cons.mpr ⟨lw_p37, List.forall_mem_cons.mpr ⟨lw_p38, List.forall_mem_cons.mpr ⟨lw_p39, List.forall_mem_cons.mpr ⟨lw_p40, List.forall_mem_cons.mpr ⟨lw_p41, List.forall_mem_cons.mpr ⟨lw_p42, List.forall_mem_cons.mpr ⟨lw_p43, List.forall_mem_cons.mpr ⟨lw_p44, fun _ h => absurd h List.not_mem_nil⟩⟩⟩⟩⟩⟩⟩⟩⟩⟩⟩⟩⟩
def lw_privs : List (MethodName × Nat) := lw_privs_1 ++ (lw_privs_2 ++ (lw_privs_3))
def lw_tbl : List Cond := k2_sels lw_privs ++ tables_1
theorem lw_privs_ok : ∀ q ∈ lw_privs, lw_okq q := by
  show ∀ q ∈ lw_privs_1 ++ (lw_privs_2 ++ (lw_privs_3)), lw_okq q
  exact List.forall_mem_append.mpr ⟨lw_r1, List.forall_mem_append.mpr ⟨lw_r2, lw_r3⟩⟩
end
section
def gw : List Cond := lw_tbl.filter goodWord
theorem gw_in {w : Cond} (i : Nat) (h : lw_tbl[i]? = some w) (hg : goodWord w = true) : w ∈ gw := List.mem_filter.mpr ⟨List.mem_of_getElem? h, hg⟩
theorem in_tbl {ws : List Cond} (ps : List Nat) (hp : ws = ps.filterMap (fun i => lw_tbl[i]?)) (hg : ws.all goodWord = true) : ∀ w ∈ ws, w ∈ gw := by
  intro w hw
  have h1 := List.all_eq_true.mp hg w hw
  rw [hp] at hw
  obtain ⟨i, -, hi⟩ := List.mem_filterMap.mp hw
  exact gw_in i hi h1
def RX0 : String := "FineSlot$Dice"
def TX0 : u_T := fun k => match k with
  | _ => ("FineSlot$Dice", "z", "I", false)
def tyX0 : Nat → FieldType := fun k => match k with
  | _ => .int
theorem nmX0 : ∀ a, a < 1 → ∀ b, b < 1 → a ≠ b → (TX0 a).2.1 ≠ (TX0 b).2.1 := by decide +kernel
theorem tyX0_ok : ∀ k, k < 1 → parseFieldDescriptor (TX0 k).2.2.1 = some (tyX0 k) := by decide +kernel
theorem inX0 : ∀ w ∈ u_ws RX0 TX0 1, w ∈ gw := in_tbl [95] (by decide +kernel) (by decide +kernel)
def RX1 : String := "FineSlot$Parser"
def TX1 : u_T := fun k => match k with
  | 0 => ("FineSlot$Parser", "tape", "LFineSlot$Tape;", true)
  | 1 => ("FineSlot$Parser", "code", "[I", true)
  | 2 => ("FineSlot$Parser", "size", "I", false)
  | 3 => ("FineSlot$Parser", "leaves", "I", false)
  | 4 => ("FineSlot$Parser", "key", "I", false)
  | _ => ("FineSlot$Parser", "fault", "I", false)
def tyX1 : Nat → FieldType := fun k => match k with
  | 0 => .object "FineSlot$Tape"
  | 1 => .array .int
  | 2 => .int
  | 3 => .int
  | 4 => .int
  | _ => .int
theorem nmX1 : ∀ a, a < 6 → ∀ b, b < 6 → a ≠ b → (TX1 a).2.1 ≠ (TX1 b).2.1 := by decide +kernel
theorem tyX1_ok : ∀ k, k < 6 → parseFieldDescriptor (TX1 k).2.2.1 = some (tyX1 k) := by decide +kernel
theorem inX1 : ∀ w ∈ u_ws RX1 TX1 6, w ∈ gw := in_tbl [253, 255, 257, 259, 261, 263] (by decide +kernel) (by decide +kernel)
def RX2 : String := "FineSlot$Plan"
def TX2 : u_T := fun k => match k with
  | 0 => ("FineSlot$Plan", "owed", "[I", true)
  | 1 => ("FineSlot$Plan", "forgets", "[[I", true)
  | 2 => ("FineSlot$Plan", "bringing", "[I", true)
  | 3 => ("FineSlot$Plan", "keeping", "[I", true)
  | 4 => ("FineSlot$Plan", "cost", "[I", true)
  | 5 => ("FineSlot$Plan", "brings", "[Z", true)
  | 6 => ("FineSlot$Plan", "brought", "[I", true)
  | 7 => ("FineSlot$Plan", "out", "[I", true)
  | 8 => ("FineSlot$Plan", "days", "J", false)
  | 9 => ("FineSlot$Plan", "coin", "J", false)
  | 10 => ("FineSlot$Plan", "lost", "J", false)
  | _ => ("FineSlot$Plan", "cards", "J", false)
def tyX2 : Nat → FieldType := fun k => match k with
  | 0 => .array .int
  | 1 => .array (.array .int)
  | 2 => .array .int
  | 3 => .array .int
  | 4 => .array .int
  | 5 => .array .boolean
  | 6 => .array .int
  | 7 => .array .int
  | 8 => .long
  | 9 => .long
  | 10 => .long
  | _ => .long
theorem nmX2 : ∀ a, a < 12 → ∀ b, b < 12 → a ≠ b → (TX2 a).2.1 ≠ (TX2 b).2.1 := by decide +kernel
theorem tyX2_ok : ∀ k, k < 12 → parseFieldDescriptor (TX2 k).2.2.1 = some (tyX2 k) := by decide +kernel
theorem inX2 : ∀ w ∈ u_ws RX2 TX2 12, w ∈ gw := in_tbl [184, 186, 188, 190, 192, 194, 196, 198, 200, 202, 204, 206] (by decide +kernel) (by decide +kernel)
def RX3 : String := "FineSlot$Rule"
def TX3 : u_T := fun k => match k with
  | 0 => ("FineSlot$Rule", "kind", "I", false)
  | _ => ("FineSlot$Rule", "parts", "[I", true)
def tyX3 : Nat → FieldType := fun k => match k with
  | 0 => .int
  | _ => .array .int
theorem nmX3 : ∀ a, a < 2 → ∀ b, b < 2 → a ≠ b → (TX3 a).2.1 ≠ (TX3 b).2.1 := by decide +kernel
theorem tyX3_ok : ∀ k, k < 2 → parseFieldDescriptor (TX3 k).2.2.1 = some (tyX3 k) := by decide +kernel
theorem inX3 : ∀ w ∈ u_ws RX3 TX3 2, w ∈ gw := in_tbl [110, 112] (by decide +kernel) (by decide +kernel)
def RX4 : String := "FineSlot$Sheet"
def TX4 : u_T := fun k => match k with
  | 0 => ("FineSlot$Sheet", "sort", "I", false)
  | 1 => ("FineSlot$Sheet", "size", "I", false)
  | _ => ("FineSlot$Sheet", "places", "[I", true)
def tyX4 : Nat → FieldType := fun k => match k with
  | 0 => .int
  | 1 => .int
  | _ => .array .int
theorem nmX4 : ∀ a, a < 3 → ∀ b, b < 3 → a ≠ b → (TX4 a).2.1 ≠ (TX4 b).2.1 := by decide +kernel
theorem tyX4_ok : ∀ k, k < 3 → parseFieldDescriptor (TX4 k).2.2.1 = some (tyX4 k) := by decide +kernel
theorem inX4 : ∀ w ∈ u_ws RX4 TX4 3, w ∈ gw := in_tbl [282, 284, 286] (by decide +kernel) (by decide +kernel)
def RX5 : String := "FineSlot$Slot"
def TX5 : u_T := fun k => match k with
  | 0 => ("FineSlot$Slot", "thing", "I", false)
  | 1 => ("FineSlot$Slot", "rule", "LFineSlot$Rule;", true)
  | 2 => ("FineSlot$Slot", "sheet", "LFineSlot$Sheet;", true)
  | _ => ("FineSlot$Slot", "number", "I", false)
def tyX5 : Nat → FieldType := fun k => match k with
  | 0 => .int
  | 1 => .object "FineSlot$Rule"
  | 2 => .object "FineSlot$Sheet"
  | _ => .int
theorem nmX5 : ∀ a, a < 4 → ∀ b, b < 4 → a ≠ b → (TX5 a).2.1 ≠ (TX5 b).2.1 := by decide +kernel
theorem tyX5_ok : ∀ k, k < 4 → parseFieldDescriptor (TX5 k).2.2.1 = some (tyX5 k) := by decide +kernel
theorem inX5 : ∀ w ∈ u_ws RX5 TX5 4, w ∈ gw := in_tbl [306, 308, 310, 312] (by decide +kernel) (by decide +kernel)
def RX6 : String := "FineSlot$Tape"
def TX6 : u_T := fun k => match k with
  | 0 => ("FineSlot$Tape", "bytes", "[I", true)
  | 1 => ("FineSlot$Tape", "size", "I", false)
  | 2 => ("FineSlot$Tape", "hand", "I", false)
  | 3 => ("FineSlot$Tape", "start", "I", false)
  | _ => ("FineSlot$Tape", "stop", "I", false)
def tyX6 : Nat → FieldType := fun k => match k with
  | 0 => .array .int
  | 1 => .int
  | 2 => .int
  | 3 => .int
  | _ => .int
theorem nmX6 : ∀ a, a < 5 → ∀ b, b < 5 → a ≠ b → (TX6 a).2.1 ≠ (TX6 b).2.1 := by decide +kernel
theorem tyX6_ok : ∀ k, k < 5 → parseFieldDescriptor (TX6 k).2.2.1 = some (tyX6 k) := by decide +kernel
theorem inX6 : ∀ w ∈ u_ws RX6 TX6 5, w ∈ gw := in_tbl [234, 236, 238, 240, 242] (by decide +kernel) (by decide +kernel)
def RX7 : String := "FineSlot$Text"
def TX7 : u_T := fun k => match k with
  | 0 => ("FineSlot$Text", "key", "I", true)
  | 1 => ("FineSlot$Text", "leaves", "I", true)
  | _ => ("FineSlot$Text", "code", "[I", true)
def tyX7 : Nat → FieldType := fun k => match k with
  | 0 => .int
  | 1 => .int
  | _ => .array .int
theorem nmX7 : ∀ a, a < 3 → ∀ b, b < 3 → a ≠ b → (TX7 a).2.1 ≠ (TX7 b).2.1 := by decide +kernel
theorem tyX7_ok : ∀ k, k < 3 → parseFieldDescriptor (TX7 k).2.2.1 = some (tyX7 k) := by decide +kernel
theorem inX7 : ∀ w ∈ u_ws RX7 TX7 3, w ∈ gw := in_tbl [850, 852, 854] (by decide +kernel) (by decide +kernel)
def RX8 : String := "FineSlot$World"
def TX8 : u_T := fun k => match k with
  | 0 => ("FineSlot$World", "sorts", "[[I", true)
  | 1 => ("FineSlot$World", "sortCount", "I", false)
  | 2 => ("FineSlot$World", "rules", "[LFineSlot$Rule;", true)
  | 3 => ("FineSlot$World", "ruleCount", "I", false)
  | 4 => ("FineSlot$World", "inForce", "I", false)
  | 5 => ("FineSlot$World", "cardDay", "I", false)
  | 6 => ("FineSlot$World", "texts", "[LFineSlot$Text;", true)
  | 7 => ("FineSlot$World", "textCount", "I", false)
  | 8 => ("FineSlot$World", "counting", "[I", true)
  | 9 => ("FineSlot$World", "dice", "LFineSlot$Dice;", true)
  | _ => ("FineSlot$World", "stack", "[I", true)
def tyX8 : Nat → FieldType := fun k => match k with
  | 0 => .array (.array .int)
  | 1 => .int
  | 2 => .array (.object "FineSlot$Rule")
  | 3 => .int
  | 4 => .int
  | 5 => .int
  | 6 => .array (.object "FineSlot$Text")
  | 7 => .int
  | 8 => .array .int
  | 9 => .object "FineSlot$Dice"
  | _ => .array .int
theorem nmX8 : ∀ a, a < 11 → ∀ b, b < 11 → a ≠ b → (TX8 a).2.1 ≠ (TX8 b).2.1 := by decide +kernel
theorem tyX8_ok : ∀ k, k < 11 → parseFieldDescriptor (TX8 k).2.2.1 = some (tyX8 k) := by decide +kernel
theorem inX8 : ∀ w ∈ u_ws RX8 TX8 11, w ∈ gw := in_tbl [137, 139, 141, 143, 145, 147, 149, 151, 153, 155, 157] (by decide +kernel) (by decide +kernel)
def RX9 : String := "FineSlot"
def TX9 : u_T := fun k => match k with
  | 0 => ("FineSlot", "now", "LFineSlot$World;", true)
  | 1 => ("FineSlot", "image", "LFineSlot$World;", true)
  | 2 => ("FineSlot", "kept", "Z", false)
  | 3 => ("FineSlot", "plan", "LFineSlot$Plan;", true)
  | 4 => ("FineSlot", "trial", "LFineSlot$Rule;", true)
  | 5 => ("FineSlot", "imageDice", "LFineSlot$Dice;", true)
  | 6 => ("FineSlot", "parser", "LFineSlot$Parser;", true)
  | 7 => ("FineSlot", "sheets", "[LFineSlot$Sheet;", true)
  | 8 => ("FineSlot", "slots", "[LFineSlot$Slot;", true)
  | 9 => ("FineSlot", "waiting", "[I", true)
  | _ => ("FineSlot", "waits", "I", false)
def tyX9 : Nat → FieldType := fun k => match k with
  | 0 => .object "FineSlot$World"
  | 1 => .object "FineSlot$World"
  | 2 => .boolean
  | 3 => .object "FineSlot$Plan"
  | 4 => .object "FineSlot$Rule"
  | 5 => .object "FineSlot$Dice"
  | 6 => .object "FineSlot$Parser"
  | 7 => .array (.object "FineSlot$Sheet")
  | 8 => .array (.object "FineSlot$Slot")
  | 9 => .array .int
  | _ => .int
theorem nmX9 : ∀ a, a < 11 → ∀ b, b < 11 → a ≠ b → (TX9 a).2.1 ≠ (TX9 b).2.1 := by decide +kernel
theorem tyX9_ok : ∀ k, k < 11 → parseFieldDescriptor (TX9 k).2.2.1 = some (tyX9 k) := by decide +kernel
theorem inX9 : ∀ w ∈ u_ws RX9 TX9 11, w ∈ gw := in_tbl [326, 328, 330, 332, 334, 336, 338, 340, 342, 344, 346] (by decide +kernel) (by decide +kernel)
def RX10 : String := "FineSlotModel"
def TX10 : u_T := fun k => match k with
  | 0 => ("FineSlotModel", "now", "[I", true)
  | 1 => ("FineSlotModel", "image", "[I", true)
  | 2 => ("FineSlotModel", "aside", "[I", true)
  | 3 => ("FineSlotModel", "hasImage", "Z", false)
  | 4 => ("FineSlotModel", "owed", "[I", true)
  | 5 => ("FineSlotModel", "forgot", "[I", true)
  | 6 => ("FineSlotModel", "bringing", "[I", true)
  | 7 => ("FineSlotModel", "keeping", "[I", true)
  | 8 => ("FineSlotModel", "cost", "[I", true)
  | 9 => ("FineSlotModel", "brings", "[Z", true)
  | 10 => ("FineSlotModel", "brought", "[I", true)
  | 11 => ("FineSlotModel", "out", "[I", true)
  | 12 => ("FineSlotModel", "days", "J", false)
  | 13 => ("FineSlotModel", "coin", "J", false)
  | 14 => ("FineSlotModel", "lost", "J", false)
  | 15 => ("FineSlotModel", "cards", "J", false)
  | 16 => ("FineSlotModel", "tape", "[I", true)
  | 17 => ("FineSlotModel", "taped", "I", false)
  | 18 => ("FineSlotModel", "next", "I", false)
  | 19 => ("FineSlotModel", "from", "I", false)
  | 20 => ("FineSlotModel", "token", "I", false)
  | 21 => ("FineSlotModel", "value", "I", false)
  | 22 => ("FineSlotModel", "ended", "I", false)
  | 23 => ("FineSlotModel", "key", "I", false)
  | 24 => ("FineSlotModel", "keys", "[C", true)
  | 25 => ("FineSlotModel", "keyAt", "[I", true)
  | 26 => ("FineSlotModel", "code", "[I", true)
  | 27 => ("FineSlotModel", "codes", "I", false)
  | 28 => ("FineSlotModel", "atoms", "I", false)
  | 29 => ("FineSlotModel", "waits", "[I", true)
  | 30 => ("FineSlotModel", "held", "I", false)
  | 31 => ("FineSlotModel", "tested", "[Z", true)
  | 32 => ("FineSlotModel", "stack", "[I", true)
  | 33 => ("FineSlotModel", "facts", "[I", true)
  | 34 => ("FineSlotModel", "sorts", "[I", true)
  | 35 => ("FineSlotModel", "sizes", "[I", true)
  | 36 => ("FineSlotModel", "cells", "[I", true)
  | 37 => ("FineSlotModel", "holds", "[I", true)
  | 38 => ("FineSlotModel", "holdsA", "[I", true)
  | 39 => ("FineSlotModel", "holdsB", "[I", true)
  | 40 => ("FineSlotModel", "heldCells", "[I", true)
  | 41 => ("FineSlotModel", "moved", "[I", true)
  | 42 => ("FineSlotModel", "tells", "[I", true)
  | _ => ("FineSlotModel", "waiting", "I", false)
def tyX10 : Nat → FieldType := fun k => match k with
  | 0 => .array .int
  | 1 => .array .int
  | 2 => .array .int
  | 3 => .boolean
  | 4 => .array .int
  | 5 => .array .int
  | 6 => .array .int
  | 7 => .array .int
  | 8 => .array .int
  | 9 => .array .boolean
  | 10 => .array .int
  | 11 => .array .int
  | 12 => .long
  | 13 => .long
  | 14 => .long
  | 15 => .long
  | 16 => .array .int
  | 17 => .int
  | 18 => .int
  | 19 => .int
  | 20 => .int
  | 21 => .int
  | 22 => .int
  | 23 => .int
  | 24 => .array .char
  | 25 => .array .int
  | 26 => .array .int
  | 27 => .int
  | 28 => .int
  | 29 => .array .int
  | 30 => .int
  | 31 => .array .boolean
  | 32 => .array .int
  | 33 => .array .int
  | 34 => .array .int
  | 35 => .array .int
  | 36 => .array .int
  | 37 => .array .int
  | 38 => .array .int
  | 39 => .array .int
  | 40 => .array .int
  | 41 => .array .int
  | 42 => .array .int
  | _ => .int
theorem nmX10 : ∀ a, a < 44 → ∀ b, b < 44 → a ≠ b → (TX10 a).2.1 ≠ (TX10 b).2.1 := by decide +kernel
theorem tyX10_ok : ∀ k, k < 44 → parseFieldDescriptor (TX10 k).2.2.1 = some (tyX10 k) := by decide +kernel
theorem inX10 : ∀ w ∈ u_ws RX10 TX10 44, w ∈ gw := in_tbl [1047, 1049, 1051, 1053, 1055, 1057, 1059, 1061, 1063, 1065, 1067, 1069, 1071, 1073, 1075, 1077, 1079, 1081, 1083, 1085, 1087, 1089, 1091, 1093, 1095, 1097, 1099, 1101, 1103, 1105, 1107, 1109, 1111, 1113, 1115, 1117, 1119, 1121, 1123, 1125, 1127, 1129, 1131, 1133] (by decide +kernel) (by decide +kernel)
abbrev vwCl : List vw_C := [(RX0, TX0, 1), (RX1, TX1, 6), (RX2, TX2, 12), (RX3, TX3, 2), (RX4, TX4, 3), (RX5, TX5, 4), (RX6, TX6, 5), (RX7, TX7, 3), (RX8, TX8, 11), (RX9, TX9, 11), (RX10, TX10, 44)]
def RJ0 : String := "java/lang/String"
def RJ1 : String := "java/lang/StringLatin1"
def RJ10 : String := "java/lang/System"
def RJ11 : String := "java/lang/Character"
def RJ2 : String := "java/lang/StringUTF16"
def RJ3 : String := "jdk/internal/util/Preconditions"
def RJ7 : String := "java/util/Arrays"
def RJ9 : String := "java/lang/Math"
abbrev MD : Type := MethodName × ByteArray × Nat × Option FieldType
def yX0_init : MethodName := ⟨RX0, "<init>", "()V"⟩
def mX0_init : MD := (yX0_init, prog_2_method_1_code, 1, none)
def yX0_restBy : MethodName := ⟨RX0, "restBy", "(I)I"⟩
def mX0_restBy : MD := (yX0_restBy, prog_2_method_2_code, 2, (some .int))
def yX1_init : MethodName := ⟨RX1, "<init>", "()V"⟩
def mX1_init : MD := (yX1_init, prog_3_method_1_code, 1, none)
def yX1_findFault : MethodName := ⟨RX1, "findFault", "()I"⟩
def mX1_findFault : MD := (yX1_findFault, prog_3_method_2_code, 1, (some .int))
def yX1_made : MethodName := ⟨RX1, "made", "()LFineSlot$Text;"⟩
def mX1_made : MD := (yX1_made, prog_3_method_3_code, 1, (some (.object "FineSlot$Text")))
def yX1_refuse : MethodName := ⟨RX1, "refuse", "()V"⟩
def mX1_refuse : MD := (yX1_refuse, prog_3_method_4_code, 1, none)
def yX1_keyInHand : MethodName := ⟨RX1, "keyInHand", "()I"⟩
def mX1_keyInHand : MD := (yX1_keyInHand, prog_3_method_5_code, 1, (some .int))
def yX1_names : MethodName := ⟨RX1, "names", "()Ljava/lang/String;"⟩
def mX1_names : MD := (yX1_names, prog_3_method_6_code, 1, (some (.object "java/lang/String")))
def yX1_readLevel : MethodName := ⟨RX1, "readLevel", "(III)V"⟩
def mX1_readLevel : MD := (yX1_readLevel, prog_3_method_7_code, 7, none)
def yX1_levelOf : MethodName := ⟨RX1, "levelOf", "(I)I"⟩
def mX1_levelOf : MD := (yX1_levelOf, prog_3_method_8_code, 1, (some .int))
def yX1_readPiece : MethodName := ⟨RX1, "readPiece", "(II)V"⟩
def mX1_readPiece : MD := (yX1_readPiece, prog_3_method_9_code, 4, none)
def yX1_addLeaf : MethodName := ⟨RX1, "addLeaf", "(I)V"⟩
def mX1_addLeaf : MD := (yX1_addLeaf, prog_3_method_10_code, 2, none)
def yX1_add : MethodName := ⟨RX1, "add", "(I)V"⟩
def mX1_add : MD := (yX1_add, prog_3_method_11_code, 2, none)
def yX2_init : MethodName := ⟨RX2, "<init>", "()V"⟩
def mX2_init : MD := (yX2_init, prog_4_method_1_code, 1, none)
def yX2_take : MethodName := ⟨RX2, "take", "(LFineSlot$World;)V"⟩
def mX2_take : MD := (yX2_take, prog_4_method_2_code, 2, none)
def yX2_takeRule : MethodName := ⟨RX2, "takeRule", "(LFineSlot$World;LFineSlot$Rule;)V"⟩
def mX2_takeRule : MD := (yX2_takeRule, prog_4_method_3_code, 4, none)
def yX2_takeCard : MethodName := ⟨RX2, "takeCard", "(LFineSlot$World;I)V"⟩
def mX2_takeCard : MD := (yX2_takeCard, prog_4_method_4_code, 4, none)
def yX2_forgetting : MethodName := ⟨RX2, "forgetting", "(LFineSlot$World;II)V"⟩
def mX2_forgetting : MD := (yX2_forgetting, prog_4_method_5_code, 5, none)
def yX2_followOne : MethodName := ⟨RX2, "followOne", "(LFineSlot$World;I)V"⟩
def mX2_followOne : MD := (yX2_followOne, prog_4_method_6_code, 3, none)
def yX2_follow : MethodName := ⟨RX2, "follow", "(LFineSlot$World;I)V"⟩
def mX2_follow : MD := (yX2_follow, prog_4_method_7_code, 3, none)
def yX2_decide : MethodName := ⟨RX2, "decide", "(LFineSlot$World;[I[I)V"⟩
def mX2_decide : MD := (yX2_decide, prog_4_method_8_code, 8, none)
def yX2_bring : MethodName := ⟨RX2, "bring", "([I)V"⟩
def mX2_bring : MD := (yX2_bring, prog_4_method_9_code, 4, none)
def yX2_partOf : MethodName := ⟨RX2, "partOf", "(III)I"⟩
def mX2_partOf : MD := (yX2_partOf, prog_4_method_10_code, 4, (some .int))
def yX2_firstDay : MethodName := ⟨RX2, "firstDay", "(II)I"⟩
def mX2_firstDay : MD := (yX2_firstDay, prog_4_method_11_code, 5, (some .int))
def yX2_drawDay : MethodName := ⟨RX2, "drawDay", "(ILFineSlot$Dice;)I"⟩
def mX2_drawDay : MD := (yX2_drawDay, prog_4_method_12_code, 4, (some .int))
def yX2_owedOn : MethodName := ⟨RX2, "owedOn", "(I)I"⟩
def mX2_owedOn : MD := (yX2_owedOn, prog_4_method_13_code, 2, (some .int))
def yX2_differenceFrom : MethodName := ⟨RX2, "differenceFrom", "(LFineSlot$Sheet;)I"⟩
def mX2_differenceFrom : MD := (yX2_differenceFrom, prog_4_method_14_code, 4, (some .int))
def yX2_tally : MethodName := ⟨RX2, "tally", "(LFineSlot$World;I)V"⟩
def mX2_tally : MD := (yX2_tally, prog_4_method_15_code, 4, none)
def yX2_addUp : MethodName := ⟨RX2, "addUp", "(JI)V"⟩
def mX2_addUp : MD := (yX2_addUp, prog_4_method_16_code, 9, none)
def yX3_init : MethodName := ⟨RX3, "<init>", "()V"⟩
def mX3_init : MD := (yX3_init, prog_5_method_1_code, 1, none)
def yX3_become : MethodName := ⟨RX3, "become", "(LFineSlot$Rule;)V"⟩
def mX3_become : MD := (yX3_become, prog_5_method_2_code, 2, none)
def yX3_worth : MethodName := ⟨RX3, "worth", "()I"⟩
def mX3_worth : MD := (yX3_worth, prog_5_method_3_code, 1, (some .int))
def yX3_owedFrom : MethodName := ⟨RX3, "owedFrom", "(II)I"⟩
def mX3_owedFrom : MD := (yX3_owedFrom, prog_5_method_4_code, 3, (some .int))
def yX4_init : MethodName := ⟨RX4, "<init>", "()V"⟩
def mX4_init : MD := (yX4_init, prog_6_method_1_code, 1, none)
def yX4_renew : MethodName := ⟨RX4, "renew", "(II)V"⟩
def mX4_renew : MD := (yX4_renew, prog_6_method_2_code, 3, none)
def yX4_become : MethodName := ⟨RX4, "become", "(LFineSlot$Sheet;)V"⟩
def mX4_become : MD := (yX4_become, prog_6_method_3_code, 2, none)
def yX4_has : MethodName := ⟨RX4, "has", "(I)Z"⟩
def mX4_has : MD := (yX4_has, prog_6_method_4_code, 2, (some .boolean))
def yX4_hasNumber : MethodName := ⟨RX4, "hasNumber", "(I)Z"⟩
def mX4_hasNumber : MD := (yX4_hasNumber, prog_6_method_5_code, 2, (some .boolean))
def yX4_hasRow : MethodName := ⟨RX4, "hasRow", "(II)Z"⟩
def mX4_hasRow : MD := (yX4_hasRow, prog_6_method_6_code, 3, (some .boolean))
def yX5_init : MethodName := ⟨RX5, "<init>", "()V"⟩
def mX5_init : MD := (yX5_init, prog_7_method_1_code, 1, none)
def yX5_refusalUnless : MethodName := ⟨RX5, "refusalUnless", "(I)I"⟩
def mX5_refusalUnless : MD := (yX5_refusalUnless, prog_7_method_2_code, 2, (some .int))
def yX6_init : MethodName := ⟨RX6, "<init>", "()V"⟩
def mX6_init : MD := (yX6_init, prog_8_method_1_code, 1, none)
def yX6_addFour : MethodName := ⟨RX6, "addFour", "(I)V"⟩
def mX6_addFour : MD := (yX6_addFour, prog_8_method_2_code, 3, none)
def yX6_rewind : MethodName := ⟨RX6, "rewind", "()V"⟩
def mX6_rewind : MD := (yX6_rewind, prog_8_method_3_code, 1, none)
def yX6_runOut : MethodName := ⟨RX6, "runOut", "()V"⟩
def mX6_runOut : MD := (yX6_runOut, prog_8_method_4_code, 1, none)
def yX6_advance : MethodName := ⟨RX6, "advance", "()V"⟩
def mX6_advance : MD := (yX6_advance, prog_8_method_5_code, 4, none)
def yX6_hasWord : MethodName := ⟨RX6, "hasWord", "()Z"⟩
def mX6_hasWord : MD := (yX6_hasWord, prog_8_method_6_code, 1, (some .boolean))
def yX6_goesOn : MethodName := ⟨RX6, "goesOn", "(I)Z"⟩
def mX6_goesOn : MD := (yX6_goesOn, prog_8_method_7_code, 2, (some .boolean))
def yX6_isLetter : MethodName := ⟨RX6, "isLetter", "(I)Z"⟩
def mX6_isLetter : MD := (yX6_isLetter, prog_8_method_8_code, 1, (some .boolean))
def yX6_isDigit : MethodName := ⟨RX6, "isDigit", "(I)Z"⟩
def mX6_isDigit : MD := (yX6_isDigit, prog_8_method_9_code, 1, (some .boolean))
def yX6_isWord : MethodName := ⟨RX6, "isWord", "(Ljava/lang/String;)Z"⟩
def mX6_isWord : MD := (yX6_isWord, prog_8_method_10_code, 3, (some .boolean))
def yX6_number : MethodName := ⟨RX6, "number", "()I"⟩
def mX6_number : MD := (yX6_number, prog_8_method_11_code, 3, (some .int))
def yX6_placeIn : MethodName := ⟨RX6, "placeIn", "(Ljava/lang/String;)I"⟩
def mX6_placeIn : MD := (yX6_placeIn, prog_8_method_12_code, 2, (some .int))
def yX7_init : MethodName := ⟨RX7, "<init>", "(II[I)V"⟩
def mX7_init : MD := (yX7_init, prog_9_method_1_code, 4, none)
def yX7_workOut : MethodName := ⟨RX7, "workOut", "([IIII)I"⟩
def mX7_workOut : MD := (yX7_workOut, prog_9_method_2_code, 8, (some .int))
def yX7_joined : MethodName := ⟨RX7, "joined", "(III)I"⟩
def mX7_joined : MD := (yX7_joined, prog_9_method_3_code, 3, (some .int))
def yX8_init : MethodName := ⟨RX8, "<init>", "()V"⟩
def mX8_init : MD := (yX8_init, prog_10_method_1_code, 2, none)
def yX8_become : MethodName := ⟨RX8, "become", "(LFineSlot$World;)V"⟩
def mX8_become : MD := (yX8_become, prog_10_method_2_code, 3, none)
def yX8_hasSort : MethodName := ⟨RX8, "hasSort", "(I)Z"⟩
def mX8_hasSort : MD := (yX8_hasSort, prog_10_method_3_code, 2, (some .boolean))
def yX8_addSort : MethodName := ⟨RX8, "addSort", "(III)I"⟩
def mX8_addSort : MD := (yX8_addSort, prog_10_method_4_code, 5, (some .int))
def yX8_drawSort : MethodName := ⟨RX8, "drawSort", "()V"⟩
def mX8_drawSort : MD := (yX8_drawSort, prog_10_method_5_code, 5, none)
def yX8_addRule : MethodName := ⟨RX8, "addRule", "(IIII)I"⟩
def mX8_addRule : MD := (yX8_addRule, prog_10_method_6_code, 6, (some .int))
def yX8_ruleAt : MethodName := ⟨RX8, "ruleAt", "(I)LFineSlot$Rule;"⟩
def mX8_ruleAt : MD := (yX8_ruleAt, prog_10_method_7_code, 2, (some (.object "FineSlot$Rule")))
def yX8_ruleInForce : MethodName := ⟨RX8, "ruleInForce", "()LFineSlot$Rule;"⟩
def mX8_ruleInForce : MD := (yX8_ruleInForce, prog_10_method_8_code, 1, (some (.object "FineSlot$Rule")))
def yX8_addText : MethodName := ⟨RX8, "addText", "(LFineSlot$Text;)I"⟩
def mX8_addText : MD := (yX8_addText, prog_10_method_9_code, 2, (some .int))
def yX8_textAt : MethodName := ⟨RX8, "textAt", "(I)LFineSlot$Text;"⟩
def mX8_textAt : MD := (yX8_textAt, prog_10_method_10_code, 2, (some (.object "FineSlot$Text")))
def yX8_owedBy : MethodName := ⟨RX8, "owedBy", "(LFineSlot$Rule;I)I"⟩
def mX8_owedBy : MD := (yX8_owedBy, prog_10_method_11_code, 4, (some .int))
def yX8_shameOf : MethodName := ⟨RX8, "shameOf", "(II)I"⟩
def mX8_shameOf : MD := (yX8_shameOf, prog_10_method_12_code, 4, (some .int))
def yX8_forgetsOn : MethodName := ⟨RX8, "forgetsOn", "(III)I"⟩
def mX8_forgetsOn : MD := (yX8_forgetsOn, prog_10_method_13_code, 5, (some .int))
def yX9_init : MethodName := ⟨RX9, "<init>", "()V"⟩
def mX9_init : MD := (yX9_init, prog_1_method_1_code, 2, none)
def yX9_sort : MethodName := ⟨RX9, "sort", "(III)I"⟩
def mX9_sort : MD := (yX9_sort, prog_1_method_2_code, 4, (some .int))
def yX9_sortTold : MethodName := ⟨RX9, "sortTold", "(II)I"⟩
def mX9_sortTold : MD := (yX9_sortTold, prog_1_method_3_code, 3, (some .int))
def yX9_change : MethodName := ⟨RX9, "change", "(III)I"⟩
def mX9_change : MD := (yX9_change, prog_1_method_4_code, 5, (some .int))
def yX9_deal : MethodName := ⟨RX9, "deal", "(I)I"⟩
def mX9_deal : MD := (yX9_deal, prog_1_method_5_code, 4, (some .int))
def yX9_rule : MethodName := ⟨RX9, "rule", "(IIII)I"⟩
def mX9_rule : MD := (yX9_rule, prog_1_method_6_code, 5, (some .int))
def yX9_told : MethodName := ⟨RX9, "told", "(II)I"⟩
def mX9_told : MD := (yX9_told, prog_1_method_7_code, 4, (some .int))
def yX9_as : MethodName := ⟨RX9, "as", "(II)I"⟩
def mX9_as : MD := (yX9_as, prog_1_method_8_code, 4, (some .int))
def yX9_turns : MethodName := ⟨RX9, "turns", "(II)I"⟩
def mX9_turns : MD := (yX9_turns, prog_1_method_9_code, 5, (some .int))
def yX9_set : MethodName := ⟨RX9, "set", "(III)I"⟩
def mX9_set : MD := (yX9_set, prog_1_method_10_code, 6, (some .int))
def yX9_owes : MethodName := ⟨RX9, "owes", "(II)I"⟩
def mX9_owes : MD := (yX9_owes, prog_1_method_11_code, 4, (some .int))
def yX9_force : MethodName := ⟨RX9, "force", "(I)I"⟩
def mX9_force : MD := (yX9_force, prog_1_method_12_code, 3, (some .int))
def yX9_card : MethodName := ⟨RX9, "card", "(I)I"⟩
def mX9_card : MD := (yX9_card, prog_1_method_13_code, 3, (some .int))
def yX9_reader : MethodName := ⟨RX9, "reader", "(III)I"⟩
def mX9_reader : MD := (yX9_reader, prog_1_method_14_code, 4, (some .int))
def yX9_first : MethodName := ⟨RX9, "first", "(II)I"⟩
def mX9_first : MD := (yX9_first, prog_1_method_15_code, 3, (some .int))
def yX9_run : MethodName := ⟨RX9, "run", "(I)I"⟩
def mX9_run : MD := (yX9_run, prog_1_method_16_code, 2, (some .int))
def yX9_year : MethodName := ⟨RX9, "year", "()I"⟩
def mX9_year : MD := (yX9_year, prog_1_method_17_code, 5, (some .int))
def yX9_seed : MethodName := ⟨RX9, "seed", "(I)I"⟩
def mX9_seed : MD := (yX9_seed, prog_1_method_18_code, 3, (some .int))
def yX9_library : MethodName := ⟨RX9, "library", "(I)J"⟩
def mX9_library : MD := (yX9_library, prog_1_method_19_code, 2, (some .long))
def yX9_find : MethodName := ⟨RX9, "find", "()I"⟩
def mX9_find : MD := (yX9_find, prog_1_method_20_code, 6, (some .int))
def yX9_edge : MethodName := ⟨RX9, "edge", "(I)I"⟩
def mX9_edge : MD := (yX9_edge, prog_1_method_21_code, 5, (some .int))
def yX9_write : MethodName := ⟨RX9, "write", "()I"⟩
def mX9_write : MD := (yX9_write, prog_1_method_22_code, 6, (some .int))
def yX9_least : MethodName := ⟨RX9, "least", "()I"⟩
def mX9_least : MD := (yX9_least, prog_1_method_23_code, 7, (some .int))
def yX9_feed : MethodName := ⟨RX9, "feed", "(III)I"⟩
def mX9_feed : MD := (yX9_feed, prog_1_method_24_code, 4, (some .int))
def yX9_trim : MethodName := ⟨RX9, "trim", "(I)I"⟩
def mX9_trim : MD := (yX9_trim, prog_1_method_25_code, 2, (some .int))
def yX9_text : MethodName := ⟨RX9, "text", "()I"⟩
def mX9_text : MD := (yX9_text, prog_1_method_26_code, 2, (some .int))
def yX9_textTold : MethodName := ⟨RX9, "textTold", "(II)I"⟩
def mX9_textTold : MD := (yX9_textTold, prog_1_method_27_code, 4, (some .int))
def yX9_why : MethodName := ⟨RX9, "why", "(I)I"⟩
def mX9_why : MD := (yX9_why, prog_1_method_28_code, 2, (some .int))
def yX9_sheet : MethodName := ⟨RX9, "sheet", "(III)I"⟩
def mX9_sheet : MD := (yX9_sheet, prog_1_method_29_code, 5, (some .int))
def yX9_mark : MethodName := ⟨RX9, "mark", "(III)I"⟩
def mX9_mark : MD := (yX9_mark, prog_1_method_30_code, 5, (some .int))
def yX9_learn : MethodName := ⟨RX9, "learn", "(I)I"⟩
def mX9_learn : MD := (yX9_learn, prog_1_method_31_code, 7, (some .int))
def yX9_reads : MethodName := ⟨RX9, "reads", "(II)I"⟩
def mX9_reads : MD := (yX9_reads, prog_1_method_32_code, 6, (some .int))
def yX9_copy : MethodName := ⟨RX9, "copy", "(IIIII)I"⟩
def mX9_copy : MD := (yX9_copy, prog_1_method_33_code, 8, (some .int))
def yX9_lay : MethodName := ⟨RX9, "lay", "(III)I"⟩
def mX9_lay : MD := (yX9_lay, prog_1_method_34_code, 7, (some .int))
def yX9_ask : MethodName := ⟨RX9, "ask", "(II)I"⟩
def mX9_ask : MD := (yX9_ask, prog_1_method_35_code, 5, (some .int))
def yX9_item : MethodName := ⟨RX9, "item", "(II)I"⟩
def mX9_item : MD := (yX9_item, prog_1_method_36_code, 5, (some .int))
def yX9_rest : MethodName := ⟨RX9, "rest", "(II)I"⟩
def mX9_rest : MD := (yX9_rest, prog_1_method_37_code, 5, (some .int))
def yX9_tell : MethodName := ⟨RX9, "tell", "(I)I"⟩
def mX9_tell : MD := (yX9_tell, prog_1_method_38_code, 2, (some .int))
def yX9_check : MethodName := ⟨RX9, "check", "(I)I"⟩
def mX9_check : MD := (yX9_check, prog_1_method_39_code, 6, (some .int))
def yX9_keep : MethodName := ⟨RX9, "keep", "()I"⟩
def mX9_keep : MD := (yX9_keep, prog_1_method_40_code, 1, (some .int))
def yX9_back : MethodName := ⟨RX9, "back", "()I"⟩
def mX9_back : MD := (yX9_back, prog_1_method_41_code, 1, (some .int))
def yX9_count : MethodName := ⟨RX9, "count", "(I)I"⟩
def mX9_count : MD := (yX9_count, prog_1_method_42_code, 2, (some .int))
def yX9_within : MethodName := ⟨RX9, "within", "(III)Z"⟩
def mX9_within : MD := (yX9_within, prog_1_method_43_code, 3, (some .boolean))
def yX9_held : MethodName := ⟨RX9, "held", "(III)I"⟩
def mX9_held : MD := (yX9_held, prog_1_method_44_code, 3, (some .int))
def yX9_isDay : MethodName := ⟨RX9, "isDay", "(I)Z"⟩
def mX9_isDay : MD := (yX9_isDay, prog_1_method_45_code, 1, (some .boolean))
def yX9_isKind : MethodName := ⟨RX9, "isKind", "(I)Z"⟩
def mX9_isKind : MD := (yX9_isKind, prog_1_method_46_code, 1, (some .boolean))
def yX9_isUnder : MethodName := ⟨RX9, "isUnder", "(II)Z"⟩
def mX9_isUnder : MD := (yX9_isUnder, prog_1_method_47_code, 4, (some .boolean))
def yX9_fitsSort : MethodName := ⟨RX9, "fitsSort", "(II)Z"⟩
def mX9_fitsSort : MD := (yX9_fitsSort, prog_1_method_48_code, 2, (some .boolean))
def yX9_fitsRule : MethodName := ⟨RX9, "fitsRule", "(II)Z"⟩
def mX9_fitsRule : MD := (yX9_fitsRule, prog_1_method_49_code, 2, (some .boolean))
def yX9_sheetAt : MethodName := ⟨RX9, "sheetAt", "(I)LFineSlot$Sheet;"⟩
def mX9_sheetAt : MD := (yX9_sheetAt, prog_1_method_50_code, 2, (some (.object "FineSlot$Sheet")))
def yX9_slotAt : MethodName := ⟨RX9, "slotAt", "(I)LFineSlot$Slot;"⟩
def mX9_slotAt : MD := (yX9_slotAt, prog_1_method_51_code, 2, (some (.object "FineSlot$Slot")))
def yX9_waitsAt : MethodName := ⟨RX9, "waitsAt", "(III)Z"⟩
def mX9_waitsAt : MD := (yX9_waitsAt, prog_1_method_52_code, 4, (some .boolean))
def yX9_lostAt : MethodName := ⟨RX9, "lostAt", "(II)I"⟩
def mX9_lostAt : MD := (yX9_lostAt, prog_1_method_53_code, 3, (some .int))
def yX10_init : MethodName := ⟨RX10, "<init>", "()V"⟩
def mX10_init : MD := (yX10_init, prog_12_method_1_code, 1, none)
def yX10_in : MethodName := ⟨RX10, "in", "(III)Z"⟩
def mX10_in : MD := (yX10_in, prog_12_method_2_code, 3, (some .boolean))
def yX10_within : MethodName := ⟨RX10, "within", "(III)I"⟩
def mX10_within : MD := (yX10_within, prog_12_method_3_code, 3, (some .int))
def yX10_copyAll : MethodName := ⟨RX10, "copyAll", "([I[I)V"⟩
def mX10_copyAll : MD := (yX10_copyAll, prog_12_method_4_code, 3, none)
def yX10_told0 : MethodName := ⟨RX10, "told0", "(I)I"⟩
def mX10_told0 : MD := (yX10_told0, prog_12_method_5_code, 1, (some .int))
def yX10_isSort : MethodName := ⟨RX10, "isSort", "(I)Z"⟩
def mX10_isSort : MD := (yX10_isSort, prog_12_method_6_code, 2, (some .boolean))
def yX10_isRule : MethodName := ⟨RX10, "isRule", "(I)Z"⟩
def mX10_isRule : MD := (yX10_isRule, prog_12_method_7_code, 2, (some .boolean))
def yX10_isDay : MethodName := ⟨RX10, "isDay", "(I)Z"⟩
def mX10_isDay : MD := (yX10_isDay, prog_12_method_8_code, 1, (some .boolean))
def yX10_sortOf : MethodName := ⟨RX10, "sortOf", "(II)I"⟩
def mX10_sortOf : MD := (yX10_sortOf, prog_12_method_9_code, 3, (some .int))
def yX10_of : MethodName := ⟨RX10, "of", "(II)I"⟩
def mX10_of : MD := (yX10_of, prog_12_method_10_code, 3, (some .int))
def yX10_mostOf : MethodName := ⟨RX10, "mostOf", "(I)I"⟩
def mX10_mostOf : MD := (yX10_mostOf, prog_12_method_11_code, 1, (some .int))
def yX10_comes : MethodName := ⟨RX10, "comes", "(III)I"⟩
def mX10_comes : MD := (yX10_comes, prog_12_method_12_code, 5, (some .int))
def yX10_sort : MethodName := ⟨RX10, "sort", "(III)I"⟩
def mX10_sort : MD := (yX10_sort, prog_12_method_13_code, 4, (some .int))
def yX10_sortTold : MethodName := ⟨RX10, "sortTold", "(II)I"⟩
def mX10_sortTold : MD := (yX10_sortTold, prog_12_method_14_code, 3, (some .int))
def yX10_change : MethodName := ⟨RX10, "change", "(III)I"⟩
def mX10_change : MD := (yX10_change, prog_12_method_15_code, 5, (some .int))
def yX10_draw : MethodName := ⟨RX10, "draw", "()I"⟩
def mX10_draw : MD := (yX10_draw, prog_12_method_16_code, 1, (some .int))
def yX10_deal : MethodName := ⟨RX10, "deal", "(I)I"⟩
def mX10_deal : MD := (yX10_deal, prog_12_method_17_code, 6, (some .int))
def yX10_leastOf : MethodName := ⟨RX10, "leastOf", "(I)I"⟩
def mX10_leastOf : MD := (yX10_leastOf, prog_12_method_18_code, 1, (some .int))
def yX10_isPart : MethodName := ⟨RX10, "isPart", "(II)Z"⟩
def mX10_isPart : MD := (yX10_isPart, prog_12_method_19_code, 2, (some .boolean))
def yX10_rule : MethodName := ⟨RX10, "rule", "(IIII)I"⟩
def mX10_rule : MD := (yX10_rule, prog_12_method_20_code, 6, (some .int))
def yX10_worthOf : MethodName := ⟨RX10, "worthOf", "(I)I"⟩
def mX10_worthOf : MD := (yX10_worthOf, prog_12_method_21_code, 4, (some .int))
def yX10_told : MethodName := ⟨RX10, "told", "(II)I"⟩
def mX10_told : MD := (yX10_told, prog_12_method_22_code, 3, (some .int))
def yX10_isUnder : MethodName := ⟨RX10, "isUnder", "(II)Z"⟩
def mX10_isUnder : MD := (yX10_isUnder, prog_12_method_23_code, 2, (some .boolean))
def yX10_as : MethodName := ⟨RX10, "as", "(II)I"⟩
def mX10_as : MD := (yX10_as, prog_12_method_24_code, 3, (some .int))
def yX10_becomes : MethodName := ⟨RX10, "becomes", "(III)I"⟩
def mX10_becomes : MD := (yX10_becomes, prog_12_method_25_code, 5, (some .int))
def yX10_turns : MethodName := ⟨RX10, "turns", "(II)I"⟩
def mX10_turns : MD := (yX10_turns, prog_12_method_26_code, 3, (some .int))
def yX10_set : MethodName := ⟨RX10, "set", "(III)I"⟩
def mX10_set : MD := (yX10_set, prog_12_method_27_code, 4, (some .int))
def yX10_owedBy : MethodName := ⟨RX10, "owedBy", "(II)I"⟩
def mX10_owedBy : MD := (yX10_owedBy, prog_12_method_28_code, 6, (some .int))
def yX10_owes : MethodName := ⟨RX10, "owes", "(II)I"⟩
def mX10_owes : MD := (yX10_owes, prog_12_method_29_code, 3, (some .int))
def yX10_force : MethodName := ⟨RX10, "force", "(I)I"⟩
def mX10_force : MD := (yX10_force, prog_12_method_30_code, 3, (some .int))
def yX10_card : MethodName := ⟨RX10, "card", "(I)I"⟩
def mX10_card : MD := (yX10_card, prog_12_method_31_code, 3, (some .int))
def yX10_findOwed : MethodName := ⟨RX10, "findOwed", "()V"⟩
def mX10_findOwed : MD := (yX10_findOwed, prog_12_method_32_code, 2, none)
def yX10_forgetsOn : MethodName := ⟨RX10, "forgetsOn", "(II)I"⟩
def mX10_forgetsOn : MD := (yX10_forgetsOn, prog_12_method_33_code, 4, (some .int))
def yX10_shameOf : MethodName := ⟨RX10, "shameOf", "(II)I"⟩
def mX10_shameOf : MD := (yX10_shameOf, prog_12_method_34_code, 4, (some .int))
def yX10_findDays : MethodName := ⟨RX10, "findDays", "(I)V"⟩
def mX10_findDays : MD := (yX10_findDays, prog_12_method_35_code, 3, none)
def yX10_findReader : MethodName := ⟨RX10, "findReader", "(I)V"⟩
def mX10_findReader : MD := (yX10_findReader, prog_12_method_36_code, 2, none)
def yX10_reader : MethodName := ⟨RX10, "reader", "(III)I"⟩
def mX10_reader : MD := (yX10_reader, prog_12_method_37_code, 4, (some .int))
def yX10_first : MethodName := ⟨RX10, "first", "(II)I"⟩
def mX10_first : MD := (yX10_first, prog_12_method_38_code, 4, (some .int))
def yX10_drawsDay : MethodName := ⟨RX10, "drawsDay", "()I"⟩
def mX10_drawsDay : MD := (yX10_drawsDay, prog_12_method_39_code, 3, (some .int))
def yX10_run : MethodName := ⟨RX10, "run", "(I)I"⟩
def mX10_run : MD := (yX10_run, prog_12_method_40_code, 2, (some .int))
def yX10_year : MethodName := ⟨RX10, "year", "()I"⟩
def mX10_year : MD := (yX10_year, prog_12_method_41_code, 4, (some .int))
def yX10_seed : MethodName := ⟨RX10, "seed", "(I)I"⟩
def mX10_seed : MD := (yX10_seed, prog_12_method_42_code, 3, (some .int))
def yX10_findLibrary : MethodName := ⟨RX10, "findLibrary", "()V"⟩
def mX10_findLibrary : MD := (yX10_findLibrary, prog_12_method_43_code, 5, none)
def yX10_library : MethodName := ⟨RX10, "library", "(I)J"⟩
def mX10_library : MD := (yX10_library, prog_12_method_44_code, 2, (some .long))
def yX10_find : MethodName := ⟨RX10, "find", "()I"⟩
def mX10_find : MD := (yX10_find, prog_12_method_45_code, 7, (some .int))
def yX10_edge : MethodName := ⟨RX10, "edge", "(I)I"⟩
def mX10_edge : MD := (yX10_edge, prog_12_method_46_code, 7, (some .int))
def yX10_write : MethodName := ⟨RX10, "write", "()I"⟩
def mX10_write : MD := (yX10_write, prog_12_method_47_code, 6, (some .int))
def yX10_least : MethodName := ⟨RX10, "least", "()I"⟩
def mX10_least : MD := (yX10_least, prog_12_method_48_code, 8, (some .int))
def yX10_feed : MethodName := ⟨RX10, "feed", "(III)I"⟩
def mX10_feed : MD := (yX10_feed, prog_12_method_49_code, 6, (some .int))
def yX10_trim : MethodName := ⟨RX10, "trim", "(I)I"⟩
def mX10_trim : MD := (yX10_trim, prog_12_method_50_code, 2, (some .int))
def yX10_isLetter : MethodName := ⟨RX10, "isLetter", "(I)Z"⟩
def mX10_isLetter : MD := (yX10_isLetter, prog_12_method_51_code, 2, (some .boolean))
def yX10_isFigure : MethodName := ⟨RX10, "isFigure", "(I)Z"⟩
def mX10_isFigure : MD := (yX10_isFigure, prog_12_method_52_code, 2, (some .boolean))
def yX10_go : MethodName := ⟨RX10, "go", "()V"⟩
def mX10_go : MD := (yX10_go, prog_12_method_53_code, 2, none)
def yX10_takesKey : MethodName := ⟨RX10, "takesKey", "()Z"⟩
def mX10_takesKey : MD := (yX10_takesKey, prog_12_method_54_code, 5, (some .boolean))
def yX10_nameOf : MethodName := ⟨RX10, "nameOf", "(I)I"⟩
def mX10_nameOf : MD := (yX10_nameOf, prog_12_method_55_code, 2, (some .int))
def yX10_rank : MethodName := ⟨RX10, "rank", "(I)I"⟩
def mX10_rank : MD := (yX10_rank, prog_12_method_56_code, 1, (some .int))
def yX10_settle : MethodName := ⟨RX10, "settle", "(I)V"⟩
def mX10_settle : MD := (yX10_settle, prog_12_method_57_code, 2, none)
def yX10_signHere : MethodName := ⟨RX10, "signHere", "()I"⟩
def mX10_signHere : MD := (yX10_signHere, prog_12_method_58_code, 1, (some .int))
def yX10_takesPart : MethodName := ⟨RX10, "takesPart", "()Z"⟩
def mX10_takesPart : MD := (yX10_takesPart, prog_12_method_59_code, 2, (some .boolean))
def yX10_takesE : MethodName := ⟨RX10, "takesE", "()Z"⟩
def mX10_takesE : MD := (yX10_takesE, prog_12_method_60_code, 5, (some .boolean))
def yX10_notsOpen : MethodName := ⟨RX10, "notsOpen", "()I"⟩
def mX10_notsOpen : MD := (yX10_notsOpen, prog_12_method_61_code, 3, (some .int))
def yX10_text : MethodName := ⟨RX10, "text", "()I"⟩
def mX10_text : MD := (yX10_text, prog_12_method_62_code, 4, (some .int))
def yX10_textTold : MethodName := ⟨RX10, "textTold", "(II)I"⟩
def mX10_textTold : MD := (yX10_textTold, prog_12_method_63_code, 3, (some .int))
def yX10_counts : MethodName := ⟨RX10, "counts", "(I)I"⟩
def mX10_counts : MD := (yX10_counts, prog_12_method_64_code, 3, (some .int))
def yX10_why : MethodName := ⟨RX10, "why", "(I)I"⟩
def mX10_why : MD := (yX10_why, prog_12_method_65_code, 3, (some .int))
def yX10_two : MethodName := ⟨RX10, "two", "(III)I"⟩
def mX10_two : MD := (yX10_two, prog_12_method_66_code, 3, (some .int))
def yX10_worksOut : MethodName := ⟨RX10, "worksOut", "(I)I"⟩
def mX10_worksOut : MD := (yX10_worksOut, prog_12_method_67_code, 6, (some .int))
def yX10_isSheet : MethodName := ⟨RX10, "isSheet", "(I)Z"⟩
def mX10_isSheet : MD := (yX10_isSheet, prog_12_method_68_code, 1, (some .boolean))
def yX10_isSlot : MethodName := ⟨RX10, "isSlot", "(I)Z"⟩
def mX10_isSlot : MD := (yX10_isSlot, prog_12_method_69_code, 1, (some .boolean))
def yX10_sheet : MethodName := ⟨RX10, "sheet", "(III)I"⟩
def mX10_sheet : MD := (yX10_sheet, prog_12_method_70_code, 5, (some .int))
def yX10_mark : MethodName := ⟨RX10, "mark", "(III)I"⟩
def mX10_mark : MD := (yX10_mark, prog_12_method_71_code, 4, (some .int))
def yX10_learn : MethodName := ⟨RX10, "learn", "(I)I"⟩
def mX10_learn : MD := (yX10_learn, prog_12_method_72_code, 9, (some .int))
def yX10_reads : MethodName := ⟨RX10, "reads", "(II)I"⟩
def mX10_reads : MD := (yX10_reads, prog_12_method_73_code, 5, (some .int))
def yX10_copy : MethodName := ⟨RX10, "copy", "(IIIII)I"⟩
def mX10_copy : MD := (yX10_copy, prog_12_method_74_code, 7, (some .int))
def yX10_lay : MethodName := ⟨RX10, "lay", "(III)I"⟩
def mX10_lay : MD := (yX10_lay, prog_12_method_75_code, 6, (some .int))
def yX10_ask : MethodName := ⟨RX10, "ask", "(II)I"⟩
def mX10_ask : MD := (yX10_ask, prog_12_method_76_code, 3, (some .int))
def yX10_item : MethodName := ⟨RX10, "item", "(II)I"⟩
def mX10_item : MD := (yX10_item, prog_12_method_77_code, 4, (some .int))
def yX10_rest : MethodName := ⟨RX10, "rest", "(II)I"⟩
def mX10_rest : MD := (yX10_rest, prog_12_method_78_code, 3, (some .int))
def yX10_tell : MethodName := ⟨RX10, "tell", "(I)I"⟩
def mX10_tell : MD := (yX10_tell, prog_12_method_79_code, 2, (some .int))
def yX10_rightReaders : MethodName := ⟨RX10, "rightReaders", "(II)I"⟩
def mX10_rightReaders : MD := (yX10_rightReaders, prog_12_method_80_code, 6, (some .int))
def yX10_check : MethodName := ⟨RX10, "check", "(I)I"⟩
def mX10_check : MD := (yX10_check, prog_12_method_81_code, 4, (some .int))
def yX10_keep : MethodName := ⟨RX10, "keep", "()I"⟩
def mX10_keep : MD := (yX10_keep, prog_12_method_82_code, 1, (some .int))
def yX10_back : MethodName := ⟨RX10, "back", "()I"⟩
def mX10_back : MD := (yX10_back, prog_12_method_83_code, 1, (some .int))
def yX10_count : MethodName := ⟨RX10, "count", "(I)I"⟩
def mX10_count : MD := (yX10_count, prog_12_method_84_code, 2, (some .int))
def yJ11_isValidCodePoint_9a6ad : MethodName := ⟨RJ11, "isValidCodePoint", "(I)Z"⟩
def mJ11_isValidCodePoint_9a6ad : MD := (yJ11_isValidCodePoint_9a6ad, prog_13_method_11_code, 2, (some .boolean))
def yJ11_highSurrogate_5068e : MethodName := ⟨RJ11, "highSurrogate", "(I)C"⟩
def mJ11_highSurrogate_5068e : MD := (yJ11_highSurrogate_5068e, prog_13_method_28_code, 1, (some .char))
def yJ11_lowSurrogate_5068e : MethodName := ⟨RJ11, "lowSurrogate", "(I)C"⟩
def mJ11_lowSurrogate_5068e : MD := (yJ11_lowSurrogate_5068e, prog_13_method_29_code, 1, (some .char))
def yJ9_abs_0f7a4 : MethodName := ⟨RJ9, "abs", "(I)I"⟩
def mJ9_abs_0f7a4 : MD := (yJ9_abs_0f7a4, prog_15_method_59_code, 1, (some .int))
def yJ9_max_7cf53 : MethodName := ⟨RJ9, "max", "(II)I"⟩
def mJ9_max_7cf53 : MD := (yJ9_max_7cf53, prog_15_method_65_code, 2, (some .int))
def yJ9_min_7cf53 : MethodName := ⟨RJ9, "min", "(II)I"⟩
def mJ9_min_7cf53 : MD := (yJ9_min_7cf53, prog_15_method_69_code, 2, (some .int))
def yJ0_length_8abf5 : MethodName := ⟨RJ0, "length", "()I"⟩
def mJ0_length_8abf5 : MD := (yJ0_length_8abf5, prog_16_method_54_code, 1, (some .int))
def yJ0_charAt_5068e : MethodName := ⟨RJ0, "charAt", "(I)C"⟩
def mJ0_charAt_5068e : MD := (yJ0_charAt_5068e, prog_16_method_56_code, 2, (some .char))
def yJ0_indexOf_0f7a4 : MethodName := ⟨RJ0, "indexOf", "(I)I"⟩
def mJ0_indexOf_0f7a4 : MD := (yJ0_indexOf_0f7a4, prog_16_method_79_code, 2, (some .int))
def yJ0_indexOf_7cf53 : MethodName := ⟨RJ0, "indexOf", "(II)I"⟩
def mJ0_indexOf_7cf53 : MD := (yJ0_indexOf_7cf53, prog_16_method_80_code, 3, (some .int))
def yJ0_coder_7d493 : MethodName := ⟨RJ0, "coder", "()B"⟩
def mJ0_coder_7d493 : MD := (yJ0_coder_7d493, prog_16_method_152_code, 1, (some .byte))
def yJ0_isLatin1_aae02 : MethodName := ⟨RJ0, "isLatin1", "()Z"⟩
def mJ0_isLatin1_aae02 : MD := (yJ0_isLatin1_aae02, prog_16_method_154_code, 1, (some .boolean))
def yJ0_checkIndex_df160 : MethodName := ⟨RJ0, "checkIndex", "(II)V"⟩
def mJ0_checkIndex_df160 : MD := (yJ0_checkIndex_df160, prog_16_method_155_code, 2, none)
def yJ0_checkBoundsBeginEnd_23922 : MethodName := ⟨RJ0, "checkBoundsBeginEnd", "(III)V"⟩
def mJ0_checkBoundsBeginEnd_23922 : MD := (yJ0_checkBoundsBeginEnd_23922, prog_16_method_158_code, 3, none)
def yJ1_charAt_3b067 : MethodName := ⟨RJ1, "charAt", "([BI)C"⟩
def mJ1_charAt_3b067 : MD := (yJ1_charAt_3b067, prog_17_method_2_code, 2, (some .char))
def yJ1_canEncode_9a6ad : MethodName := ⟨RJ1, "canEncode", "(I)Z"⟩
def mJ1_canEncode_9a6ad : MD := (yJ1_canEncode_9a6ad, prog_17_method_4_code, 1, (some .boolean))
def yJ1_indexOf_4cfef : MethodName := ⟨RJ1, "indexOf", "([BIII)I"⟩
def mJ1_indexOf_4cfef : MD := (yJ1_indexOf_4cfef, prog_17_method_22_code, 4, (some .int))
def yJ1_indexOfChar_4cfef : MethodName := ⟨RJ1, "indexOfChar", "([BIII)I"⟩
def mJ1_indexOfChar_4cfef : MD := (yJ1_indexOfChar_4cfef, prog_17_method_23_code, 6, (some .int))
def yJ2_getChar_3b067 : MethodName := ⟨RJ2, "getChar", "([BI)C"⟩
def mJ2_getChar_3b067 : MD := (yJ2_getChar_3b067, prog_18_method_5_code, 2, (some .char))
def yJ2_length_9d52b : MethodName := ⟨RJ2, "length", "([B)I"⟩
def mJ2_length_9d52b : MD := (yJ2_length_9d52b, prog_18_method_6_code, 1, (some .int))
def yJ2_indexOf_4cfef : MethodName := ⟨RJ2, "indexOf", "([BIII)I"⟩
def mJ2_indexOf_4cfef : MD := (yJ2_indexOf_4cfef, prog_18_method_40_code, 4, (some .int))
def yJ2_indexOfChar_4cfef : MethodName := ⟨RJ2, "indexOfChar", "([BIII)I"⟩
def mJ2_indexOfChar_4cfef : MD := (yJ2_indexOfChar_4cfef, prog_18_method_47_code, 4, (some .int))
def yJ2_indexOfCharUnsafe_4cfef : MethodName := ⟨RJ2, "indexOfCharUnsafe", "([BIII)I"⟩
def mJ2_indexOfCharUnsafe_4cfef : MD := (yJ2_indexOfCharUnsafe_4cfef, prog_18_method_48_code, 5, (some .int))
def yJ2_indexOfSupplementary_4cfef : MethodName := ⟨RJ2, "indexOfSupplementary", "([BIII)I"⟩
def mJ2_indexOfSupplementary_4cfef : MD := (yJ2_indexOfSupplementary_4cfef, prog_18_method_49_code, 7, (some .int))
def yJ2_charAt_3b067 : MethodName := ⟨RJ2, "charAt", "([BI)C"⟩
def mJ2_charAt_3b067 : MD := (yJ2_charAt_3b067, prog_18_method_83_code, 2, (some .char))
def yJ2_checkIndex_2214a : MethodName := ⟨RJ2, "checkIndex", "(I[B)V"⟩
def mJ2_checkIndex_2214a : MD := (yJ2_checkIndex_2214a, prog_18_method_91_code, 2, none)
def yJ2_checkBoundsBeginEnd_d044e : MethodName := ⟨RJ2, "checkBoundsBeginEnd", "(II[B)V"⟩
def mJ2_checkBoundsBeginEnd_d044e : MD := (yJ2_checkBoundsBeginEnd_d044e, prog_18_method_93_code, 3, none)
def yJ7_fill_53178 : MethodName := ⟨RJ7, "fill", "([II)V"⟩
def mJ7_fill_53178 : MD := (yJ7_fill_53178, prog_20_method_103_code, 4, none)
def yJ7_copyOf_59c91 : MethodName := ⟨RJ7, "copyOf", "([II)[I"⟩
def mJ7_copyOf_59c91 : MD := (yJ7_copyOf_59c91, prog_20_method_123_code, 3, (some (.array .int)))
def yJ3_checkIndex_8e157 : MethodName := ⟨RJ3, "checkIndex", "(IILjava/util/function/BiFunction;)I"⟩
def mJ3_checkIndex_8e157 : MD := (yJ3_checkIndex_8e157, prog_21_method_11_code, 3, (some .int))
def yJ3_checkFromToIndex_8c36e : MethodName := ⟨RJ3, "checkFromToIndex", "(IIILjava/util/function/BiFunction;)I"⟩
def mJ3_checkFromToIndex_8c36e : MD := (yJ3_checkFromToIndex_8c36e, prog_21_method_12_code, 4, (some .int))
def mL_law : MD := (x, code, maxLocals, ret)
end
section
/-! THE LIGHT MACHINE. A value is a number, a long, a reference (kind, place), a constant reference, nothing, or unset; a heap is what numbers, longs and references lie at (place, index), how long each array is, and how many places there are. WP says: from here the real machine comes to the method's end, and Q holds there. -/
abbrev AV : Type := Int32 ⊕ (Int64 ⊕ ((Nat × Nat) ⊕ (Nat ⊕ Bool)))
abbrev vI (x : Int32) : AV := Sum.inl x
abbrev vL (x : Int64) : AV := Sum.inr (Sum.inl x)
abbrev vR (t k : Nat) : AV := Sum.inr (Sum.inr (Sum.inl (t, k)))
abbrev vS (j : Nat) : AV := Sum.inr (Sum.inr (Sum.inr (Sum.inl j)))
abbrev vN : AV := Sum.inr (Sum.inr (Sum.inr (Sum.inr false)))
abbrev vU : AV := Sum.inr (Sum.inr (Sum.inr (Sum.inr true)))
abbrev HI : Type := Nat → Nat → Int32
abbrev HL : Type := Nat → Nat → Int64
abbrev HR : Type := Nat → Nat → Option Nat
abbrev HN : Type := Nat → Nat
abbrev HQ : Type := AV → HI → HL → HR → HN → Nat → Prop
abbrev SC : Type := Nat × (Nat → Int32)
abbrev EN : Type := va_G × (Nat → ClassId) × (Nat → Nat) × Nat
def cv (ρ σ : Nat → Nat) : AV → Value
  | .inl x => .int x
  | .inr (.inl x) => .long x
  | .inr (.inr (.inl q)) => .ref (ρ q.2)
  | .inr (.inr (.inr (.inl j))) => .ref (σ j)
  | .inr (.inr (.inr (.inr _))) => .null
def acat : AV → Nat
  | .inr (.inl _) => 2
  | _ => 1
theorem cv_cat (ρ σ : Nat → Nat) (v : AV) : (cv ρ σ v).category = acat v := by
  rcases v with x | x | q | j | b <;> rfl
theorem cv_sum (ρ σ : Nat → Nat) (l : List AV) : ((l.map (cv ρ σ)).map fun v => v.category).sum = (l.map acat).sum := by
  rw [List.map_map]
  congr 1
  exact List.map_congr_left fun v _ => cv_cat ρ σ v
/-- a reference out of a row or a field -/
def rv (t : Nat) : Option Nat → AV
  | some k => vR t k
  | none => vN
theorem cv_rv (ρ σ : Nat → Nat) (t : Nat) (r : Option Nat) : cv ρ σ (rv t r) = va_rf (r.map ρ) := by cases r <;> rfl
/-- how many fields a kind of object has; what each is: 0 a number, 1 a long, 2 + t a reference to kind t -/
def nf : Nat → Nat
  | 0 => 1 | 1 => 6 | 2 => 12 | 3 => 2 | 4 => 3 | 5 => 4 | 6 => 5 | 7 => 3 | 8 => 11 | 9 => 11 | _ => 44
def fk : Nat → Nat → Nat
  | 0, 0 => 0
  | 1, 0 => 8
  | 1, 1 => 14
  | 1, 2 => 0
  | 1, 3 => 0
  | 1, 4 => 0
  | 1, 5 => 0
  | 2, 0 => 14
  | 2, 1 => 20
  | 2, 2 => 14
  | 2, 3 => 14
  | 2, 4 => 14
  | 2, 5 => 15
  | 2, 6 => 14
  | 2, 7 => 14
  | 2, 8 => 1
  | 2, 9 => 1
  | 2, 10 => 1
  | 2, 11 => 1
  | 3, 0 => 0
  | 3, 1 => 14
  | 4, 0 => 0
  | 4, 1 => 0
  | 4, 2 => 14
  | 5, 0 => 0
  | 5, 1 => 5
  | 5, 2 => 6
  | 5, 3 => 0
  | 6, 0 => 14
  | 6, 1 => 0
  | 6, 2 => 0
  | 6, 3 => 0
  | 6, 4 => 0
  | 7, 0 => 0
  | 7, 1 => 0
  | 7, 2 => 14
  | 8, 0 => 20
  | 8, 1 => 0
  | 8, 2 => 16
  | 8, 3 => 0
  | 8, 4 => 0
  | 8, 5 => 0
  | 8, 6 => 19
  | 8, 7 => 0
  | 8, 8 => 14
  | 8, 9 => 2
  | 8, 10 => 14
  | 9, 0 => 10
  | 9, 1 => 10
  | 9, 2 => 0
  | 9, 3 => 4
  | 9, 4 => 5
  | 9, 5 => 2
  | 9, 6 => 3
  | 9, 7 => 17
  | 9, 8 => 18
  | 9, 9 => 14
  | 9, 10 => 0
  | 10, 0 => 14
  | 10, 1 => 14
  | 10, 2 => 14
  | 10, 3 => 0
  | 10, 4 => 14
  | 10, 5 => 14
  | 10, 6 => 14
  | 10, 7 => 14
  | 10, 8 => 14
  | 10, 9 => 15
  | 10, 10 => 14
  | 10, 11 => 14
  | 10, 12 => 1
  | 10, 13 => 1
  | 10, 14 => 1
  | 10, 15 => 1
  | 10, 16 => 14
  | 10, 17 => 0
  | 10, 18 => 0
  | 10, 19 => 0
  | 10, 20 => 0
  | 10, 21 => 0
  | 10, 22 => 0
  | 10, 23 => 0
  | 10, 24 => 13
  | 10, 25 => 14
  | 10, 26 => 14
  | 10, 27 => 0
  | 10, 28 => 0
  | 10, 29 => 14
  | 10, 30 => 0
  | 10, 31 => 15
  | 10, 32 => 14
  | 10, 33 => 14
  | 10, 34 => 14
  | 10, 35 => 14
  | 10, 36 => 14
  | 10, 37 => 14
  | 10, 38 => 14
  | 10, 39 => 14
  | 10, 40 => 14
  | 10, 41 => 14
  | 10, 42 => 14
  | 10, 43 => 0
  | _, _ => 0
/-- what an array of references holds -/
def et : Nat → Nat
  | 14 => 3 | 15 => 4 | 16 => 5 | 17 => 7 | _ => 12
def fval (ρ : Nat → Nat) (I : HI) (L : HL) (R : HR) (k j : Nat) : Nat → Value
  | 0 => .int (I k j)
  | 1 => .long (L k j)
  | _ => va_rf ((R k j).map ρ)
def ce (cy : Nat → ClassId) (ρ : Nat → Nat) (T : HN) (I : HI) (L : HL) (R : HR) (N : HN) (k : Nat) : va_E :=
  if T k < 11 then .inr (T k, (List.range (nf (T k))).map (fun j => fval ρ I L R k j (fk (T k) j)))
  else if T k < 14 then .inl (cy (T k), N k, .inl (I k))
  else .inl (cy (T k), N k, .inr (.inr (.inr (.inr (fun i => (R k i).map ρ)))))
def wsl (cy : Nat → ClassId) (ρ : Nat → Nat) (T : HN) (I : HI) (L : HL) (R : HR) (N : HN) (n : Nat) : va_W := (List.range n).map (fun k => (ρ k, ce cy ρ T I L R N k))
def tysOf (cy : Nat → ClassId) : List (ClassId × FieldType) := [(cy 11, .char), (cy 12, .int), (cy 13, .boolean), (cy 14, .object "FineSlot$Rule"), (cy 15, .object "FineSlot$Sheet"), (cy 16, .object "FineSlot$Slot"), (cy 17, .object "FineSlot$Text"), (cy 18, .array .int)]
def WT (T : HN) (R : HR) (n : Nat) : Prop := ∀ k, k < n → ∀ (j a : Nat), R k j = some a → (T k < 11 → 2 ≤ fk (T k) j → a < n ∧ T a + 2 = fk (T k) j) ∧ (14 ≤ T k → a < n ∧ T a = et (T k))
def okv (T : HN) (n : Nat) : AV → Prop
  | .inr (.inr (.inl q)) => q.2 < n ∧ T q.2 = q.1
  | .inr (.inr (.inr (.inl j))) => j < 18
  | _ => True
def EA (e : EN) : Nat → Prop := fun q => e.2.2.2 ≤ q
/-- the constant arrays 0 .. 3, and the script, 4 -/
def svN (sc : SC) : Nat → Nat
  | 0 => 7 | 1 => 3 | 2 => 3 | 3 => 6 | _ => sc.1
def svI (sc : SC) : Nat → Nat → Int32
  | 0 => fun j => [99, 100, 99, 9, 9999, 99, 9999].getD j 0
  | 1 => fun j => [0, 0, 1].getD j 0
  | 2 => fun j => [99, 999, 30].getD j 0
  | 3 => fun j => [-1, 0, 0, 1, 2, 0].getD j 0
  | _ => sc.2
def nestL : List (String × Nat × MethodName × String) := [("FineSlot$World", 51, ⟨"FineSlot$Dice", "<init>", "()V"⟩, "FineSlot"), ("FineSlot$World", 59, ⟨"FineSlot$Rule", "<init>", "()V"⟩, "FineSlot"), ("FineSlot", 25, ⟨"FineSlot$Plan", "<init>", "()V"⟩, "FineSlot"), ("FineSlot", 32, ⟨"FineSlot$Rule", "<init>", "()V"⟩, "FineSlot"), ("FineSlot", 39, ⟨"FineSlot$Dice", "<init>", "()V"⟩, "FineSlot"), ("FineSlot", 46, ⟨"FineSlot$Parser", "<init>", "()V"⟩, "FineSlot"), ("FineSlot$Parser", 11, ⟨"FineSlot$Tape", "<init>", "()V"⟩, "FineSlot"), ("FineSlot", 71, ⟨"FineSlot$Sheet", "<init>", "()V"⟩, "FineSlot"), ("FineSlot", 72, ⟨"FineSlot$Slot", "<init>", "()V"⟩, "FineSlot"), ("FineSlot$Slot", 17, ⟨"FineSlot$Rule", "<init>", "()V"⟩, "FineSlot"), ("FineSlot$Slot", 24, ⟨"FineSlot$Sheet", "<init>", "()V"⟩, "FineSlot"), ("FineSlot$World", 73, ⟨"FineSlot", "within", "(III)Z"⟩, "FineSlot"), ("FineSlot$Text", 20, ⟨"FineSlot", "within", "(III)Z"⟩, "FineSlot"), ("FineSlot$World", 115, ⟨"FineSlot", "held", "(III)I"⟩, "FineSlot"), ("FineSlot$Plan", 108, ⟨"FineSlot", "within", "(III)Z"⟩, "FineSlot"), ("FineSlot$Plan", 112, ⟨"FineSlot", "isDay", "(I)Z"⟩, "FineSlot"), ("FineSlot$Sheet", 34, ⟨"FineSlot", "within", "(III)Z"⟩, "FineSlot")]
/-- the words that hold of every method's start -/
def va_AI (U : State) : Prop := (Cond.arrayOver (.array .int)).before #[] U = true
/-- the texts 5 .. 10, their bytes 11 .. 16 -/
def stT : List String := ["owe", "shame", "forget", "dab", "os", "df"]
def stX : List Nat := [73, 79, 81, 83, 85, 87]
def stN : List Nat := [3, 5, 6, 3, 2, 2]
def stB : List (List Int32) := [[111, 119, 101], [115, 104, 97, 109, 101], [102, 111, 114, 103, 101, 116], [100, 97, 98], [111, 115], [100, 102]]
def SF (sc : SC) (e : EN) (U : State) (H : Heap) : Prop :=
  (∀ j, j < 5 → va_T .int (e.2.2.1 j) (svN sc j) (fun i => .int (svI sc j i)) (EA e) U H) ∧
  va_Z "FineSlot" "MOST_OF_SORT" "[I" (.ref (e.2.2.1 0)) (EA e) U H ∧ va_Z "FineSlot" "LEAST_OF_RULE" "[I" (.ref (e.2.2.1 1)) (EA e) U H ∧
  va_Z "FineSlot" "MOST_OF_RULE" "[I" (.ref (e.2.2.1 2)) (EA e) U H ∧ va_Z "FineSlot" "KIND_ABOVE" "[I" (.ref (e.2.2.1 3)) (EA e) U H ∧
  va_Z "java/lang/String" "COMPACT_STRINGS" "Z" (.int 1) (EA e) U H ∧ (va_Z "jdk/internal/util/Preconditions" "SIOOBE_FORMATTER" "Ljava/util/function/BiFunction;" .null (EA e) U H ∨ va_Z "jdk/internal/util/Preconditions" "SIOOBE_FORMATTER" "Ljava/util/function/BiFunction;" (.ref (e.2.2.1 17)) (EA e) U H) ∧
  vk_S 6 stN stB (fun i => e.2.2.1 (5 + i)) (fun i => e.2.2.1 (11 + i)) (EA e) U H ∧
  (∀ i, i < 6 → vk_R RX1 (stX.getD i 0) (stT.getD i "") (e.2.2.1 (5 + i)) U) ∧
  (∀ q ∈ nestL, va_Nw (.methodLinkNest q.1 q.2.1 q.2.2.1 q.2.2.2) U) ∧ (∀ C ∈ [RX3, RX4, RX5, RX7], va_AO C U) ∧ va_AI U
def nlong (al : List AV) : Nat → Bool
  | 0 => true
  | k + 1 => match al[k]? with
    | some (.inr (.inl _)) => false
    | _ => true
def Lr (ρ σ : Nat → Nat) (al : List AV) (ls : Array Slot) : Prop := ls.size = al.length ∧ lv_wf ls ∧ ∀ (i : Nat) (v : AV), al[i]? = some v → v ≠ vU → ls[i]? = some (.val (cv ρ σ v))
def EX (n0 : Nat) (ρ0 : Nat → Nat) (T0 : HN) (n : Nat) (ρ : Nat → Nat) (T : HN) : Prop := n0 ≤ n ∧ ∀ k, k < n0 → ρ k = ρ0 k ∧ T k = T0 k
/-- the heap's world -/
def HW (e : EN) (ρ : Nat → Nat) (T : HN) (I : HI) (L : HL) (R : HR) (N : HN) (n : Nat) (U : State) (H : Heap) : Prop :=
  va_K e.1 vwCl (tysOf e.2.1) U ∧ va_P e.1 vwCl (wsl e.2.1 ρ T I L R N n) H ∧ va_D (EA e) (wsl e.2.1 ρ T I L R N n) ∧ WT T R n
def rvO (ρ σ : Nat → Nat) : AV → Option Value
  | .inr (.inr (.inr (.inr true))) => none
  | v => some (cv ρ σ v)
def QM (md : MD) (e : EN) (n0 : Nat) (ρ0 : Nat → Nat) (T0 : HN) (Q : HQ) : Array Value → State → Outcome → State → Prop := fun _ st oc t =>
  ∃ (r : AV) (I : HI) (L : HL) (R : HR) (N : HN) (n : Nat) (ρ : Nat → Nat) (T : HN), oc = .returned (rvO ρ e.2.2.1 r) ∧ (r = vU ↔ md.2.2.2 = none) ∧ okv T n r ∧ Q r I L R N n ∧ HW e ρ T I L R N n t t.heap ∧ EX n0 ρ0 T0 n ρ T ∧ va_F (EA e) st t
def CX (sc : SC) (d mc ms : Nat) (md : MD) (al st : List AV) (I : HI) (L : HL) (R : HR) (N : HN) (n : Nat) (e : EN) (ρ : Nat → Nat) (T : HN) (n0 : Nat) (ρ0 : Nat → Nat) (T0 : HN) (p : Program) (Rm : Room) (s : State) (m : MethodId) (args : Array Value) (meth : Method) (c : Code) (H : Heap) (locs : List Loc) (cells slots : Nat) (ls : Array Slot) : Prop :=
  (p.tables.exec = Jvm.exec ∧ c.code = md.2.1 ∧ meth.sig.returnType = md.2.2.2 ∧ c.maxLocals = md.2.2.1 ∧ s.vm.findClass md.1.cls = some m.cls ∧ (∀ w ∈ gw, w.before args s = true) ∧ meth.locks = false ∧ meth.name = md.1.name) ∧
  (d ≤ Rm.frames ∧ 64 * d ≤ Rm.locals ∧ cells + mc ≤ Rm.cells ∧ slots + ms ≤ Rm.slots) ∧
  (Lr ρ e.2.2.1 al ls ∧ al.length = md.2.2.1) ∧ (∀ v ∈ al, okv T n v) ∧ (∀ v ∈ st, okv T n v) ∧
  HW e ρ T I L R N n s H ∧ va_S (EA e) s.heap H locs ∧ SF sc e s s.heap ∧ e.2.2.2 ≤ s.heap.size ∧ EX n0 ρ0 T0 n ρ T
def WP (sc : SC) (d mc ms : Nat) (md : MD) (pc : Nat) (al st : List AV) (I : HI) (L : HL) (R : HR) (N : HN) (n : Nat) (Q : HQ) : Prop :=
  ∀ (e : EN) (ρ : Nat → Nat) (T : HN) (n0 : Nat) (ρ0 : Nat → Nat) (T0 : HN) (p : Program) (l : Launch) (en : Env) (Rm : Room) (s : State) (m : MethodId) (args : Array Value) (below : List Frame) (meth : Method) (c : Code) (H : Heap) (locs : List Loc) (cells slots : Nat) (ls : Array Slot),
    CX sc d mc ms md al st I L R N n e ρ T n0 ρ0 T0 p Rm s m args meth c H locs cells slots ls →
    W p l en Rm s m args below meth c H locs cells slots (MQ below (QM md e n0 ρ0 T0 Q) args s Rm.cells Rm.slots (EA e)) (F0 m pc ls (st.map (cv ρ e.2.2.1)))
section
variable {sc : SC} {d mc ms : Nat} {md : MD} {pc : Nat} {al st : List AV} {I : HI} {L : HL} {R : HR} {N : HN} {n : Nat} {Q : HQ} {e : EN} {ρ : Nat → Nat} {T : HN} {n0 : Nat} {ρ0 : Nat → Nat} {T0 : HN} {p : Program} {l : Launch} {en : Env} {Rm : Room} {s : State} {m : MethodId} {args : Array Value} {below : List Frame} {meth : Method} {c : Code} {H : Heap} {locs : List Loc} {cells slots : Nat} {ls : Array Slot}
theorem CX.stack {st' : List AV} (h : CX sc d mc ms md al st I L R N n e ρ T n0 ρ0 T0 p Rm s m args meth c H locs cells slots ls) (hv : ∀ v ∈ st', okv T n v) : CX sc d mc ms md al st' I L R N n e ρ T n0 ρ0 T0 p Rm s m args meth c H locs cells slots ls := by
  obtain ⟨h1, h2, h3, h4, h5, h6⟩ := h
  exact ⟨h1, h2, h3, h4, hv, h6⟩
theorem CX.locals {al' : List AV} {ls' : Array Slot} {st' : List AV} (h : CX sc d mc ms md al st I L R N n e ρ T n0 ρ0 T0 p Rm s m args meth c H locs cells slots ls) (hl : Lr ρ e.2.2.1 al' ls') (hn : al'.length = al.length) (ha : ∀ v ∈ al', okv T n v) (hv : ∀ v ∈ st', okv T n v) : CX sc d mc ms md al' st' I L R N n e ρ T n0 ρ0 T0 p Rm s m args meth c H locs cells slots ls' := by
  obtain ⟨h1, h2, h3, h4, h5, h6⟩ := h
  exact ⟨h1, h2, ⟨hl, hn.trans h3.2⟩, ha, hv, h6⟩
/-- one step that leaves heap and locals -/
theorem w_go {st' : List AV} {pc' : Nat} (hv : ∀ (T : HN) (n : Nat), (∀ v ∈ al, okv T n v) → (∀ v ∈ st, okv T n v) → ∀ v ∈ st', okv T n v)
    (hs : ∀ (e : EN) (ρ : Nat → Nat) (p : Program) (l : Launch) (en : Env) (Rm : Room) (s : State) (m : MethodId) (args : Array Value) (below : List Frame) (meth : Method) (c : Code) (H : Heap) (locs : List Loc) (cells slots : Nat) (ls : Array Slot) (Z : State → Prop),
      p.tables.exec = Jvm.exec → c.code = md.2.1 → s.vm.findClass md.1.cls = some m.cls → (∀ w ∈ gw, w.before args s = true) → Lr ρ e.2.2.1 al ls → SF sc e s s.heap → va_S (EA e) s.heap H locs →
      W p l en Rm s m args below meth c H locs cells slots Z (F0 m pc' ls (st'.map (cv ρ e.2.2.1))) → W p l en Rm s m args below meth c H locs cells slots Z (F0 m pc ls (st.map (cv ρ e.2.2.1))))
    (k : WP sc d mc ms md pc' al st' I L R N n Q) : WP sc d mc ms md pc al st I L R N n Q := by
  intro e ρ T n0 ρ0 T0 p l en Rm s m args below meth c H locs cells slots ls h
  have h' := h
  obtain ⟨⟨g1, g2, -, -, g5, g6, -⟩, -, ⟨h3, -⟩, h4, h5, -, h7, h8, -⟩ := h
  exact hs e ρ p l en Rm s m args below meth c H locs cells slots ls _ g1 g2 g5 g6 h3 h8 h7 (k e ρ T n0 ρ0 T0 p l en Rm s m args below meth c H locs cells slots ls (h'.stack (hv T n h4 h5)))
end
end
section
section
variable {sc : SC} {d mc ms : Nat} {md : MD} {pc : Nat} {al st : List AV} {I : HI} {L : HL} {R : HR} {N : HN} {n : Nat} {Q : HQ} {T : HN}
theorem ok_tl {a : AV} (h : ∀ v ∈ a :: st, okv T n v) : ∀ v ∈ st, okv T n v := fun v hv => h v (List.mem_cons_of_mem _ hv)
theorem ok_hd {a : AV} (h : ∀ v ∈ a :: st, okv T n v) : okv T n a := h a List.mem_cons_self
theorem ok_cons {a : AV} (ha : okv T n a) (h : ∀ v ∈ st, okv T n v) : ∀ v ∈ a :: st, okv T n v := fun v hv => (List.mem_cons.mp hv).elim (fun q => q ▸ ha) (h v)
theorem ok_nil : ∀ v ∈ ([] : List AV), okv T n v := fun _ h => absurd h List.not_mem_nil
theorem ok_i {x : Int32} (h : ∀ v ∈ st, okv T n v) : ∀ v ∈ vI x :: st, okv T n v := ok_cons trivial h
theorem ok_l {x : Int64} (h : ∀ v ∈ st, okv T n v) : ∀ v ∈ vL x :: st, okv T n v := ok_cons trivial h
theorem ok_n (h : ∀ v ∈ st, okv T n v) : ∀ v ∈ vN :: st, okv T n v := ok_cons trivial h
theorem w_iconst {z : Int} {v : Int32} (hd : decode md.2.1 pc = .ok (.iconst z, 1)) (hv : Int32.ofInt z = v) (k : WP sc d mc ms md (pc + 1) al (vI v :: st) I L R N n Q) : WP sc d mc ms md pc al (st) I L R N n Q := w_go (fun _ _ _ h => ok_i h) (fun _ _ _ _ _ _ _ _ _ _ _ _ _ _ _ _ _ _ g1 g2 g5 g6 g3 g8 g7 kk => lv_iconst g1 g2 hd hv kk) k
theorem w_bipush {z : Int} {v : Int32} (hd : decode md.2.1 pc = .ok (.bipush z, 2)) (hv : (Int8.ofInt z).toInt32 = v) (k : WP sc d mc ms md (pc + 2) al (vI v :: st) I L R N n Q) : WP sc d mc ms md pc al (st) I L R N n Q := w_go (fun _ _ _ h => ok_i h) (fun _ _ _ _ _ _ _ _ _ _ _ _ _ _ _ _ _ _ g1 g2 g5 g6 g3 g8 g7 kk => lv_bipush g1 g2 hd hv kk) k
theorem w_sipush {z : Int} {v : Int32} (hd : decode md.2.1 pc = .ok (.sipush z, 3)) (hv : (Int16.ofInt z).toInt32 = v) (k : WP sc d mc ms md (pc + 3) al (vI v :: st) I L R N n Q) : WP sc d mc ms md pc al (st) I L R N n Q := w_go (fun _ _ _ h => ok_i h) (fun _ _ _ _ _ _ _ _ _ _ _ _ _ _ _ _ _ _ g1 g2 g5 g6 g3 g8 g7 kk => lv_sipush g1 g2 hd hv kk) k
theorem w_lconst {z : Fin 2} {v : Int64} (hd : decode md.2.1 pc = .ok (.lconst z, 1)) (hv : Int64.ofNat (z : Nat) = v) (k : WP sc d mc ms md (pc + 1) al (vL v :: st) I L R N n Q) : WP sc d mc ms md pc al (st) I L R N n Q := w_go (fun _ _ _ h => ok_l h) (fun _ _ _ _ _ _ _ _ _ _ _ _ _ _ _ _ _ _ g1 g2 g5 g6 g3 g8 g7 kk => lv_lconst g1 g2 hd hv kk) k
theorem w_ldc {ix : Nat} {v : Int32} (hd : decode md.2.1 pc = .ok (.ldc ix, 2)) (hw : Cond.constant md.1.cls ix v ∈ gw) (k : WP sc d mc ms md (pc + 2) al (vI v :: st) I L R N n Q) : WP sc d mc ms md pc al (st) I L R N n Q := w_go (fun _ _ _ h => ok_i h) (fun _ _ _ _ _ _ _ _ _ _ _ _ _ _ _ _ _ _ g1 g2 g5 g6 g3 g8 g7 kk => lv_ldc g1 g2 g5 (g6 _ hw) hd kk) k
theorem w_ldcw {ix : Nat} {v : Int32} (hd : decode md.2.1 pc = .ok (.ldc_w ix, 3)) (hw : Cond.constant md.1.cls ix v ∈ gw) (k : WP sc d mc ms md (pc + 3) al (vI v :: st) I L R N n Q) : WP sc d mc ms md pc al (st) I L R N n Q := w_go (fun _ _ _ h => ok_i h) (fun _ _ _ _ _ _ _ _ _ _ _ _ _ _ _ _ _ _ g1 g2 g5 g6 g3 g8 g7 kk => lv_ldcw g1 g2 g5 (g6 _ hw) hd kk) k
theorem w_ldc2 {ix : Nat} {v : Int64} (hd : decode md.2.1 pc = .ok (.ldc2_w ix, 3)) (hw : Cond.constantLong md.1.cls ix v ∈ gw) (k : WP sc d mc ms md (pc + 3) al (vL v :: st) I L R N n Q) : WP sc d mc ms md pc al (st) I L R N n Q := w_go (fun _ _ _ h => ok_l h) (fun _ _ _ _ _ _ _ _ _ _ _ _ _ _ _ _ _ _ g1 g2 g5 g6 g3 g8 g7 kk => lv_ldc2 g1 g2 g5 (g6 _ hw) hd kk) k
theorem w_null  (hd : decode md.2.1 pc = .ok (.aconst_null, 1)) (k : WP sc d mc ms md (pc + 1) al (vN :: st) I L R N n Q) : WP sc d mc ms md pc al (st) I L R N n Q := w_go (fun _ _ _ h => ok_n h) (fun _ _ _ _ _ _ _ _ _ _ _ _ _ _ _ _ _ _ g1 g2 g5 g6 g3 g8 g7 kk => lv_null g1 g2 hd kk) k
theorem ok_ld {i : Nat} {v : AV} (hl : al[i]? = some v) (ha : ∀ v ∈ al, okv T n v) : okv T n v := ha v (List.mem_of_getElem? hl)
theorem w_iload_n {f : Fin 4} {x : Int32} (hd : decode md.2.1 pc = .ok (.iload_n f, 1)) (hl : al[(f : Nat)]? = some (vI x)) (k : WP sc d mc ms md (pc + 1) al (vI x :: st) I L R N n Q) : WP sc d mc ms md pc al (st) I L R N n Q := w_go (fun _ _ ha h => ok_cons (ok_ld hl ha) h) (fun _ _ _ _ _ _ _ _ _ _ _ _ _ _ _ _ _ _ g1 g2 g5 g6 g3 g8 g7 kk => lv_iload_n g1 g2 hd rfl (g3.2.2 _ _ hl (by simp)) kk) k
theorem w_iload {f : Nat} {x : Int32} (hd : decode md.2.1 pc = .ok (.iload f, 2)) (hl : al[f]? = some (vI x)) (k : WP sc d mc ms md (pc + 2) al (vI x :: st) I L R N n Q) : WP sc d mc ms md pc al (st) I L R N n Q := w_go (fun _ _ ha h => ok_cons (ok_ld hl ha) h) (fun _ _ _ _ _ _ _ _ _ _ _ _ _ _ _ _ _ _ g1 g2 g5 g6 g3 g8 g7 kk => lv_iload g1 g2 hd (g3.2.2 _ _ hl (by simp)) kk) k
theorem w_lload_n {f : Fin 4} {x : Int64} (hd : decode md.2.1 pc = .ok (.lload_n f, 1)) (hl : al[(f : Nat)]? = some (vL x)) (k : WP sc d mc ms md (pc + 1) al (vL x :: st) I L R N n Q) : WP sc d mc ms md pc al (st) I L R N n Q := w_go (fun _ _ ha h => ok_cons (ok_ld hl ha) h) (fun _ _ _ _ _ _ _ _ _ _ _ _ _ _ _ _ _ _ g1 g2 g5 g6 g3 g8 g7 kk => lv_lload_n g1 g2 hd rfl (g3.2.2 _ _ hl (by simp)) kk) k
theorem w_lload {f : Nat} {x : Int64} (hd : decode md.2.1 pc = .ok (.lload f, 2)) (hl : al[f]? = some (vL x)) (k : WP sc d mc ms md (pc + 2) al (vL x :: st) I L R N n Q) : WP sc d mc ms md pc al (st) I L R N n Q := w_go (fun _ _ ha h => ok_cons (ok_ld hl ha) h) (fun _ _ _ _ _ _ _ _ _ _ _ _ _ _ _ _ _ _ g1 g2 g5 g6 g3 g8 g7 kk => lv_lload g1 g2 hd (g3.2.2 _ _ hl (by simp)) kk) k
theorem w_aload_n {f : Fin 4} {t x : Nat} (hd : decode md.2.1 pc = .ok (.aload_n f, 1)) (hl : al[(f : Nat)]? = some (vR t x)) (k : WP sc d mc ms md (pc + 1) al (vR t x :: st) I L R N n Q) : WP sc d mc ms md pc al (st) I L R N n Q := w_go (fun _ _ ha h => ok_cons (ok_ld hl ha) h) (fun _ _ _ _ _ _ _ _ _ _ _ _ _ _ _ _ _ _ g1 g2 g5 g6 g3 g8 g7 kk => lv_aload_n g1 g2 hd rfl (g3.2.2 _ _ hl (by simp)) kk) k
theorem w_aload {f : Nat} {t x : Nat} (hd : decode md.2.1 pc = .ok (.aload f, 2)) (hl : al[f]? = some (vR t x)) (k : WP sc d mc ms md (pc + 2) al (vR t x :: st) I L R N n Q) : WP sc d mc ms md pc al (st) I L R N n Q := w_go (fun _ _ ha h => ok_cons (ok_ld hl ha) h) (fun _ _ _ _ _ _ _ _ _ _ _ _ _ _ _ _ _ _ g1 g2 g5 g6 g3 g8 g7 kk => lv_aload g1 g2 hd (g3.2.2 _ _ hl (by simp)) kk) k
theorem w_aload_nS {f : Fin 4} {x : Nat} (hd : decode md.2.1 pc = .ok (.aload_n f, 1)) (hl : al[(f : Nat)]? = some (vS x)) (k : WP sc d mc ms md (pc + 1) al (vS x :: st) I L R N n Q) : WP sc d mc ms md pc al (st) I L R N n Q := w_go (fun _ _ ha h => ok_cons (ok_ld hl ha) h) (fun _ _ _ _ _ _ _ _ _ _ _ _ _ _ _ _ _ _ g1 g2 g5 g6 g3 g8 g7 kk => lv_aload_n g1 g2 hd rfl (g3.2.2 _ _ hl (by simp)) kk) k
theorem w_aloadS {f : Nat} {x : Nat} (hd : decode md.2.1 pc = .ok (.aload f, 2)) (hl : al[f]? = some (vS x)) (k : WP sc d mc ms md (pc + 2) al (vS x :: st) I L R N n Q) : WP sc d mc ms md pc al (st) I L R N n Q := w_go (fun _ _ ha h => ok_cons (ok_ld hl ha) h) (fun _ _ _ _ _ _ _ _ _ _ _ _ _ _ _ _ _ _ g1 g2 g5 g6 g3 g8 g7 kk => lv_aload g1 g2 hd (g3.2.2 _ _ hl (by simp)) kk) k
theorem w_aload_nN {f : Fin 4}  (hd : decode md.2.1 pc = .ok (.aload_n f, 1)) (hl : al[(f : Nat)]? = some (vN)) (k : WP sc d mc ms md (pc + 1) al (vN :: st) I L R N n Q) : WP sc d mc ms md pc al (st) I L R N n Q := w_go (fun _ _ ha h => ok_cons (ok_ld hl ha) h) (fun _ _ _ _ _ _ _ _ _ _ _ _ _ _ _ _ _ _ g1 g2 g5 g6 g3 g8 g7 kk => lv_aload_nN g1 g2 hd rfl (g3.2.2 _ _ hl (by simp)) kk) k
theorem w_aloadN {f : Nat}  (hd : decode md.2.1 pc = .ok (.aload f, 2)) (hl : al[f]? = some (vN)) (k : WP sc d mc ms md (pc + 2) al (vN :: st) I L R N n Q) : WP sc d mc ms md pc al (st) I L R N n Q := w_go (fun _ _ ha h => ok_cons (ok_ld hl ha) h) (fun _ _ _ _ _ _ _ _ _ _ _ _ _ _ _ _ _ _ g1 g2 g5 g6 g3 g8 g7 kk => lv_aloadN g1 g2 hd (g3.2.2 _ _ hl (by simp)) kk) k
theorem w_iadd {x y : Int32} (hd : decode md.2.1 pc = .ok (.iadd, 1)) (k : WP sc d mc ms md (pc + 1) al (vI (x + y) :: st) I L R N n Q) : WP sc d mc ms md pc al (vI y :: vI x :: st) I L R N n Q := w_go (fun _ _ _ h => ok_i (ok_tl (ok_tl h))) (fun _ _ _ _ _ _ _ _ _ _ _ _ _ _ _ _ _ _ g1 g2 g5 g6 g3 g8 g7 kk => lv_iadd g1 g2 hd kk) k
theorem w_isub {x y : Int32} (hd : decode md.2.1 pc = .ok (.isub, 1)) (k : WP sc d mc ms md (pc + 1) al (vI (x - y) :: st) I L R N n Q) : WP sc d mc ms md pc al (vI y :: vI x :: st) I L R N n Q := w_go (fun _ _ _ h => ok_i (ok_tl (ok_tl h))) (fun _ _ _ _ _ _ _ _ _ _ _ _ _ _ _ _ _ _ g1 g2 g5 g6 g3 g8 g7 kk => lv_isub g1 g2 hd kk) k
theorem w_imul {x y : Int32} (hd : decode md.2.1 pc = .ok (.imul, 1)) (k : WP sc d mc ms md (pc + 1) al (vI (x * y) :: st) I L R N n Q) : WP sc d mc ms md pc al (vI y :: vI x :: st) I L R N n Q := w_go (fun _ _ _ h => ok_i (ok_tl (ok_tl h))) (fun _ _ _ _ _ _ _ _ _ _ _ _ _ _ _ _ _ _ g1 g2 g5 g6 g3 g8 g7 kk => lv_imul g1 g2 hd kk) k
theorem w_iand {x y : Int32} (hd : decode md.2.1 pc = .ok (.iand, 1)) (k : WP sc d mc ms md (pc + 1) al (vI (x &&& y) :: st) I L R N n Q) : WP sc d mc ms md pc al (vI y :: vI x :: st) I L R N n Q := w_go (fun _ _ _ h => ok_i (ok_tl (ok_tl h))) (fun _ _ _ _ _ _ _ _ _ _ _ _ _ _ _ _ _ _ g1 g2 g5 g6 g3 g8 g7 kk => lv_iand g1 g2 hd kk) k
theorem w_ishr {x y : Int32} (hd : decode md.2.1 pc = .ok (.ishr, 1)) (k : WP sc d mc ms md (pc + 1) al (vI (x >>> (y &&& 31)) :: st) I L R N n Q) : WP sc d mc ms md pc al (vI y :: vI x :: st) I L R N n Q := w_go (fun _ _ _ h => ok_i (ok_tl (ok_tl h))) (fun _ _ _ _ _ _ _ _ _ _ _ _ _ _ _ _ _ _ g1 g2 g5 g6 g3 g8 g7 kk => lv_ishr g1 g2 hd kk) k
theorem w_idiv {x y : Int32} (hd : decode md.2.1 pc = .ok (.idiv, 1)) (hne : ¬ y = 0) (k : WP sc d mc ms md (pc + 1) al (vI (x / y) :: st) I L R N n Q) : WP sc d mc ms md pc al (vI y :: vI x :: st) I L R N n Q := w_go (fun _ _ _ h => ok_i (ok_tl (ok_tl h))) (fun _ _ _ _ _ _ _ _ _ _ _ _ _ _ _ _ _ _ g1 g2 g5 g6 g3 g8 g7 kk => lv_idiv g1 g2 hd hne kk) k
theorem w_irem {x y : Int32} (hd : decode md.2.1 pc = .ok (.irem, 1)) (hne : ¬ y = 0) (k : WP sc d mc ms md (pc + 1) al (vI (x - x / y * y) :: st) I L R N n Q) : WP sc d mc ms md pc al (vI y :: vI x :: st) I L R N n Q := w_go (fun _ _ _ h => ok_i (ok_tl (ok_tl h))) (fun _ _ _ _ _ _ _ _ _ _ _ _ _ _ _ _ _ _ g1 g2 g5 g6 g3 g8 g7 kk => lv_irem g1 g2 hd hne kk) k
def ushr (x y : Int32) : Int32 := (x.toUInt32 >>> (y.toUInt32 &&& Int32.toUInt32 31)).toInt32
theorem w_iushr {x y : Int32} (hd : decode md.2.1 pc = .ok (.iushr, 1)) (k : WP sc d mc ms md (pc + 1) al (vI (ushr x y) :: st) I L R N n Q) : WP sc d mc ms md pc al (vI y :: vI x :: st) I L R N n Q := w_go (fun _ _ _ h => ok_i (ok_tl (ok_tl h))) (fun _ _ _ _ _ _ _ _ _ _ _ _ _ _ _ _ _ _ g1 g2 g5 g6 g3 g8 g7 kk => lv_iushr g1 g2 hd rfl kk) k
theorem w_ineg {x : Int32} (hd : decode md.2.1 pc = .ok (.ineg, 1)) (k : WP sc d mc ms md (pc + 1) al (vI (-x) :: st) I L R N n Q) : WP sc d mc ms md pc al (vI x :: st) I L R N n Q := w_go (fun _ _ _ h => ok_i (ok_tl h)) (fun _ _ _ _ _ _ _ _ _ _ _ _ _ _ _ _ _ _ g1 g2 g5 g6 g3 g8 g7 kk => lv_ineg g1 g2 hd kk) k
theorem w_ladd {x y : Int64} (hd : decode md.2.1 pc = .ok (.ladd, 1)) (k : WP sc d mc ms md (pc + 1) al (vL (x + y) :: st) I L R N n Q) : WP sc d mc ms md pc al (vL y :: vL x :: st) I L R N n Q := w_go (fun _ _ _ h => ok_l (ok_tl (ok_tl h))) (fun _ _ _ _ _ _ _ _ _ _ _ _ _ _ _ _ _ _ g1 g2 g5 g6 g3 g8 g7 kk => lv_ladd g1 g2 hd kk) k
theorem w_lmul {x y : Int64} (hd : decode md.2.1 pc = .ok (.lmul, 1)) (k : WP sc d mc ms md (pc + 1) al (vL (x * y) :: st) I L R N n Q) : WP sc d mc ms md pc al (vL y :: vL x :: st) I L R N n Q := w_go (fun _ _ _ h => ok_l (ok_tl (ok_tl h))) (fun _ _ _ _ _ _ _ _ _ _ _ _ _ _ _ _ _ _ g1 g2 g5 g6 g3 g8 g7 kk => lv_lmul g1 g2 hd kk) k
theorem w_lsub {x y : Int64} (hd : decode md.2.1 pc = .ok (.lsub, 1)) (k : WP sc d mc ms md (pc + 1) al (vL (x - y) :: st) I L R N n Q) : WP sc d mc ms md pc al (vL y :: vL x :: st) I L R N n Q := w_go (fun _ _ _ h => ok_l (ok_tl (ok_tl h))) (fun _ _ _ _ _ _ _ _ _ _ _ _ _ _ _ _ _ _ g1 g2 g5 g6 g3 g8 g7 kk => lv_lsub g1 g2 hd kk) k
theorem w_lcmp {x y : Int64} (hd : decode md.2.1 pc = .ok (.lcmp, 1)) (k : WP sc d mc ms md (pc + 1) al (vI (lg_cmp x y) :: st) I L R N n Q) : WP sc d mc ms md pc al (vL y :: vL x :: st) I L R N n Q := w_go (fun _ _ _ h => ok_i (ok_tl (ok_tl h))) (fun _ _ _ _ _ _ _ _ _ _ _ _ _ _ _ _ _ _ g1 g2 g5 g6 g3 g8 g7 kk => W.lcmp g1 g2 hd kk) k
theorem w_i2l {x : Int32} (hd : decode md.2.1 pc = .ok (.i2l, 1)) (k : WP sc d mc ms md (pc + 1) al (vL x.toInt64 :: st) I L R N n Q) : WP sc d mc ms md pc al (vI x :: st) I L R N n Q := w_go (fun _ _ _ h => ok_l (ok_tl h)) (fun _ _ _ _ _ _ _ _ _ _ _ _ _ _ _ _ _ _ g1 g2 g5 g6 g3 g8 g7 kk => lv_i2l g1 g2 hd rfl kk) k
theorem w_i2s {x : Int32} (hd : decode md.2.1 pc = .ok (.i2s, 1)) (k : WP sc d mc ms md (pc + 1) al (vI x.toInt16.toInt32 :: st) I L R N n Q) : WP sc d mc ms md pc al (vI x :: st) I L R N n Q := w_go (fun _ _ _ h => ok_i (ok_tl h)) (fun _ _ _ _ _ _ _ _ _ _ _ _ _ _ _ _ _ _ g1 g2 g5 g6 g3 g8 g7 kk => lv_i2s g1 g2 hd rfl kk) k
theorem w_i2c {x : Int32} (hd : decode md.2.1 pc = .ok (.i2c, 1)) (k : WP sc d mc ms md (pc + 1) al (vI (x.toUInt32 % 65536).toInt32 :: st) I L R N n Q) : WP sc d mc ms md pc al (vI x :: st) I L R N n Q := w_go (fun _ _ _ h => ok_i (ok_tl h)) (fun _ _ _ _ _ _ _ _ _ _ _ _ _ _ _ _ _ _ g1 g2 g5 g6 g3 g8 g7 kk => lv_i2c g1 g2 hd rfl kk) k
theorem w_i2b {x : Int32} (hd : decode md.2.1 pc = .ok (.i2b, 1)) (k : WP sc d mc ms md (pc + 1) al (vI x.toInt8.toInt32 :: st) I L R N n Q) : WP sc d mc ms md pc al (vI x :: st) I L R N n Q := w_go (fun _ _ _ h => ok_i (ok_tl h)) (fun _ _ _ _ _ _ _ _ _ _ _ _ _ _ _ _ _ _ g1 g2 g5 g6 g3 g8 g7 kk => lv_i2b g1 g2 hd rfl kk) k
theorem w_dup {a : AV} (hd : decode md.2.1 pc = .ok (.dup, 1)) (ha : acat a = 1) (k : WP sc d mc ms md (pc + 1) al (a :: a :: st) I L R N n Q) : WP sc d mc ms md pc al (a :: st) I L R N n Q := w_go (fun _ _ _ h => ok_cons (ok_hd h) h) (fun _ _ _ _ _ _ _ _ _ _ _ _ _ _ _ _ _ _ g1 g2 g5 g6 g3 g8 g7 kk => lv_dup g1 g2 hd ((cv_cat _ _ a).trans ha) kk) k
theorem w_pop {a : AV} (hd : decode md.2.1 pc = .ok (.pop, 1)) (ha : acat a = 1) (k : WP sc d mc ms md (pc + 1) al (st) I L R N n Q) : WP sc d mc ms md pc al (a :: st) I L R N n Q := w_go (fun _ _ _ h => ok_tl h) (fun _ _ _ _ _ _ _ _ _ _ _ _ _ _ _ _ _ _ g1 g2 g5 g6 g3 g8 g7 kk => lv_pop g1 g2 hd ((cv_cat _ _ a).trans ha) kk) k
theorem w_dup_x1 {a b : AV} (hd : decode md.2.1 pc = .ok (.dup_x1, 1)) (ha : acat a = 1) (hb : acat b = 1) (k : WP sc d mc ms md (pc + 1) al (a :: b :: a :: st) I L R N n Q) : WP sc d mc ms md pc al (a :: b :: st) I L R N n Q := w_go (fun _ _ _ h => ok_cons (ok_hd h) (ok_cons (ok_hd (ok_tl h)) (ok_cons (ok_hd h) (ok_tl (ok_tl h))))) (fun _ _ _ _ _ _ _ _ _ _ _ _ _ _ _ _ _ _ g1 g2 g5 g6 g3 g8 g7 kk => lv_dup_x1 g1 g2 hd ((cv_cat _ _ a).trans ha) ((cv_cat _ _ b).trans hb) kk) k
theorem w_dup2 {a b : AV} (hd : decode md.2.1 pc = .ok (.dup2, 1)) (ha : acat a = 1) (hb : acat b = 1) (k : WP sc d mc ms md (pc + 1) al (a :: b :: a :: b :: st) I L R N n Q) : WP sc d mc ms md pc al (a :: b :: st) I L R N n Q := w_go (fun _ _ _ h => ok_cons (ok_hd h) (ok_cons (ok_hd (ok_tl h)) h)) (fun _ _ _ _ _ _ _ _ _ _ _ _ _ _ _ _ _ _ g1 g2 g5 g6 g3 g8 g7 kk => lv_dup2_11 g1 g2 hd ((cv_cat _ _ a).trans ha) ((cv_cat _ _ b).trans hb) kk) k
theorem w_goto {off : Int} {tgt : Nat} (hd : decode md.2.1 pc = .ok (.goto off, 3)) (ht : (pc : Int) + off = (tgt : Int)) (k : WP sc d mc ms md (tgt) al (st) I L R N n Q) : WP sc d mc ms md pc al (st) I L R N n Q := w_go (fun _ _ _ h => h) (fun _ _ _ _ _ _ _ _ _ _ _ _ _ _ _ _ _ _ g1 g2 g5 g6 g3 g8 g7 kk => lv_goto g1 g2 hd ht kk) k
theorem w_ifnullR {off : Int} {t x : Nat} (hd : decode md.2.1 pc = .ok (.ifnull off, 3)) (k : WP sc d mc ms md (pc + 3) al (st) I L R N n Q) : WP sc d mc ms md pc al (vR t x :: st) I L R N n Q := w_go (fun _ _ _ h => ok_tl h) (fun _ _ _ _ _ _ _ _ _ _ _ _ _ _ _ _ _ _ g1 g2 g5 g6 g3 g8 g7 kk => lv_ifnull g1 g2 hd kk) k
theorem w_ifnullN {off : Int} {tgt : Nat} (hd : decode md.2.1 pc = .ok (.ifnull off, 3)) (ht : (pc : Int) + off = (tgt : Int)) (k : WP sc d mc ms md (tgt) al (st) I L R N n Q) : WP sc d mc ms md pc al (vN :: st) I L R N n Q := w_go (fun _ _ _ h => ok_tl h) (fun _ _ _ _ _ _ _ _ _ _ _ _ _ _ _ _ _ _ g1 g2 g5 g6 g3 g8 g7 kk => lv_ifnullN g1 g2 hd ht kk) k
theorem w_ifnonnullR {off : Int} {tgt t x : Nat} (hd : decode md.2.1 pc = .ok (.ifnonnull off, 3)) (ht : (pc : Int) + off = (tgt : Int)) (k : WP sc d mc ms md (tgt) al (st) I L R N n Q) : WP sc d mc ms md pc al (vR t x :: st) I L R N n Q := w_go (fun _ _ _ h => ok_tl h) (fun _ _ _ _ _ _ _ _ _ _ _ _ _ _ _ _ _ _ g1 g2 g5 g6 g3 g8 g7 kk => lv_ifnonnull g1 g2 hd ht kk) k
theorem w_ifnonnullN {off : Int} (hd : decode md.2.1 pc = .ok (.ifnonnull off, 3)) (k : WP sc d mc ms md (pc + 3) al (st) I L R N n Q) : WP sc d mc ms md pc al (vN :: st) I L R N n Q := w_go (fun _ _ _ h => ok_tl h) (fun _ _ _ _ _ _ _ _ _ _ _ _ _ _ _ _ _ _ g1 g2 g5 g6 g3 g8 g7 kk => lv_ifnonnullN g1 g2 hd kk) k
/-- a step with two ends -/
theorem w_go2 {st' : List AV} {pc1 pc2 : Nat} {P : Prop} (hv : ∀ (T : HN) (n : Nat), (∀ v ∈ st, okv T n v) → ∀ v ∈ st', okv T n v)
    (hs : ∀ (e : EN) (ρ : Nat → Nat) (p : Program) (l : Launch) (en : Env) (Rm : Room) (s : State) (m : MethodId) (args : Array Value) (below : List Frame) (meth : Method) (c : Code) (H : Heap) (locs : List Loc) (cells slots : Nat) (ls : Array Slot) (Z : State → Prop),
      p.tables.exec = Jvm.exec → c.code = md.2.1 → (P → W p l en Rm s m args below meth c H locs cells slots Z (F0 m pc1 ls (st'.map (cv ρ e.2.2.1)))) → (¬ P → W p l en Rm s m args below meth c H locs cells slots Z (F0 m pc2 ls (st'.map (cv ρ e.2.2.1)))) → W p l en Rm s m args below meth c H locs cells slots Z (F0 m pc ls (st.map (cv ρ e.2.2.1))))
    (k1 : P → WP sc d mc ms md pc1 al st' I L R N n Q) (k2 : ¬ P → WP sc d mc ms md pc2 al st' I L R N n Q) : WP sc d mc ms md pc al st I L R N n Q := by
  intro e ρ T n0 ρ0 T0 p l en Rm s m args below meth c H locs cells slots ls h
  have h' := h
  obtain ⟨⟨g1, g2, -⟩, -, -, h4, h5, -⟩ := h
  exact hs e ρ p l en Rm s m args below meth c H locs cells slots ls _ g1 g2 (fun hp => k1 hp e ρ T n0 ρ0 T0 p l en Rm s m args below meth c H locs cells slots ls (h'.stack (hv T n h5))) (fun hp => k2 hp e ρ T n0 ρ0 T0 p l en Rm s m args below meth c H locs cells slots ls (h'.stack (hv T n h5)))
theorem w_if_eq {x : Int32} {off : Int} {tgt : Nat} (hd : decode md.2.1 pc = .ok (.ifCond .eq off, 3)) (ht : (pc : Int) + off = (tgt : Int)) (k1 : x = 0 → WP sc d mc ms md tgt al st I L R N n Q) (k2 : ¬ (x = 0) → WP sc d mc ms md (pc + 3) al st I L R N n Q) : WP sc d mc ms md pc al (vI x :: st) I L R N n Q := w_go2 (fun _ _ h => ok_tl h) (fun _ _ _ _ _ _ _ _ _ _ _ _ _ _ _ _ _ _ g1 g2 kt kf => lv_if_eq g1 g2 hd ht kt kf) k1 k2
theorem w_icmp_eq {x y : Int32} {off : Int} {tgt : Nat} (hd : decode md.2.1 pc = .ok (.if_icmp .eq off, 3)) (ht : (pc : Int) + off = (tgt : Int)) (k1 : x = y → WP sc d mc ms md tgt al st I L R N n Q) (k2 : ¬ (x = y) → WP sc d mc ms md (pc + 3) al st I L R N n Q) : WP sc d mc ms md pc al (vI y :: vI x :: st) I L R N n Q := w_go2 (fun _ _ h => ok_tl (ok_tl h)) (fun _ _ _ _ _ _ _ _ _ _ _ _ _ _ _ _ _ _ g1 g2 kt kf => lv_icmp_eq g1 g2 hd ht kt kf) k1 k2
theorem w_if_ne {x : Int32} {off : Int} {tgt : Nat} (hd : decode md.2.1 pc = .ok (.ifCond .ne off, 3)) (ht : (pc : Int) + off = (tgt : Int)) (k1 : ¬ x = 0 → WP sc d mc ms md tgt al st I L R N n Q) (k2 : x = 0 → WP sc d mc ms md (pc + 3) al st I L R N n Q) : WP sc d mc ms md pc al (vI x :: st) I L R N n Q := w_go2 (P := x = 0) (fun _ _ h => ok_tl h) (fun _ _ _ _ _ _ _ _ _ _ _ _ _ _ _ _ _ _ g1 g2 kt kf => lv_if_ne g1 g2 hd ht kf kt) k2 k1
theorem w_icmp_ne {x y : Int32} {off : Int} {tgt : Nat} (hd : decode md.2.1 pc = .ok (.if_icmp .ne off, 3)) (ht : (pc : Int) + off = (tgt : Int)) (k1 : ¬ x = y → WP sc d mc ms md tgt al st I L R N n Q) (k2 : x = y → WP sc d mc ms md (pc + 3) al st I L R N n Q) : WP sc d mc ms md pc al (vI y :: vI x :: st) I L R N n Q := w_go2 (P := x = y) (fun _ _ h => ok_tl (ok_tl h)) (fun _ _ _ _ _ _ _ _ _ _ _ _ _ _ _ _ _ _ g1 g2 kt kf => lv_icmp_ne g1 g2 hd ht kf kt) k2 k1
theorem w_if_lt {x : Int32} {off : Int} {tgt : Nat} (hd : decode md.2.1 pc = .ok (.ifCond .lt off, 3)) (ht : (pc : Int) + off = (tgt : Int)) (k1 : x < 0 → WP sc d mc ms md tgt al st I L R N n Q) (k2 : ¬ (x < 0) → WP sc d mc ms md (pc + 3) al st I L R N n Q) : WP sc d mc ms md pc al (vI x :: st) I L R N n Q := w_go2 (fun _ _ h => ok_tl h) (fun _ _ _ _ _ _ _ _ _ _ _ _ _ _ _ _ _ _ g1 g2 kt kf => lv_if_lt g1 g2 hd ht kt kf) k1 k2
theorem w_icmp_lt {x y : Int32} {off : Int} {tgt : Nat} (hd : decode md.2.1 pc = .ok (.if_icmp .lt off, 3)) (ht : (pc : Int) + off = (tgt : Int)) (k1 : x < y → WP sc d mc ms md tgt al st I L R N n Q) (k2 : ¬ (x < y) → WP sc d mc ms md (pc + 3) al st I L R N n Q) : WP sc d mc ms md pc al (vI y :: vI x :: st) I L R N n Q := w_go2 (fun _ _ h => ok_tl (ok_tl h)) (fun _ _ _ _ _ _ _ _ _ _ _ _ _ _ _ _ _ _ g1 g2 kt kf => lv_icmp_lt g1 g2 hd ht kt kf) k1 k2
theorem w_if_ge {x : Int32} {off : Int} {tgt : Nat} (hd : decode md.2.1 pc = .ok (.ifCond .ge off, 3)) (ht : (pc : Int) + off = (tgt : Int)) (k1 : 0 ≤ x → WP sc d mc ms md tgt al st I L R N n Q) (k2 : ¬ (0 ≤ x) → WP sc d mc ms md (pc + 3) al st I L R N n Q) : WP sc d mc ms md pc al (vI x :: st) I L R N n Q := w_go2 (fun _ _ h => ok_tl h) (fun _ _ _ _ _ _ _ _ _ _ _ _ _ _ _ _ _ _ g1 g2 kt kf => lv_if_ge g1 g2 hd ht kt kf) k1 k2
theorem w_icmp_ge {x y : Int32} {off : Int} {tgt : Nat} (hd : decode md.2.1 pc = .ok (.if_icmp .ge off, 3)) (ht : (pc : Int) + off = (tgt : Int)) (k1 : y ≤ x → WP sc d mc ms md tgt al st I L R N n Q) (k2 : ¬ (y ≤ x) → WP sc d mc ms md (pc + 3) al st I L R N n Q) : WP sc d mc ms md pc al (vI y :: vI x :: st) I L R N n Q := w_go2 (fun _ _ h => ok_tl (ok_tl h)) (fun _ _ _ _ _ _ _ _ _ _ _ _ _ _ _ _ _ _ g1 g2 kt kf => lv_icmp_ge g1 g2 hd ht kt kf) k1 k2
theorem w_if_gt {x : Int32} {off : Int} {tgt : Nat} (hd : decode md.2.1 pc = .ok (.ifCond .gt off, 3)) (ht : (pc : Int) + off = (tgt : Int)) (k1 : 0 < x → WP sc d mc ms md tgt al st I L R N n Q) (k2 : ¬ (0 < x) → WP sc d mc ms md (pc + 3) al st I L R N n Q) : WP sc d mc ms md pc al (vI x :: st) I L R N n Q := w_go2 (fun _ _ h => ok_tl h) (fun _ _ _ _ _ _ _ _ _ _ _ _ _ _ _ _ _ _ g1 g2 kt kf => lv_if_gt g1 g2 hd ht kt kf) k1 k2
theorem w_icmp_gt {x y : Int32} {off : Int} {tgt : Nat} (hd : decode md.2.1 pc = .ok (.if_icmp .gt off, 3)) (ht : (pc : Int) + off = (tgt : Int)) (k1 : y < x → WP sc d mc ms md tgt al st I L R N n Q) (k2 : ¬ (y < x) → WP sc d mc ms md (pc + 3) al st I L R N n Q) : WP sc d mc ms md pc al (vI y :: vI x :: st) I L R N n Q := w_go2 (fun _ _ h => ok_tl (ok_tl h)) (fun _ _ _ _ _ _ _ _ _ _ _ _ _ _ _ _ _ _ g1 g2 kt kf => lv_icmp_gt g1 g2 hd ht kt kf) k1 k2
theorem w_if_le {x : Int32} {off : Int} {tgt : Nat} (hd : decode md.2.1 pc = .ok (.ifCond .le off, 3)) (ht : (pc : Int) + off = (tgt : Int)) (k1 : x ≤ 0 → WP sc d mc ms md tgt al st I L R N n Q) (k2 : ¬ (x ≤ 0) → WP sc d mc ms md (pc + 3) al st I L R N n Q) : WP sc d mc ms md pc al (vI x :: st) I L R N n Q := w_go2 (fun _ _ h => ok_tl h) (fun _ _ _ _ _ _ _ _ _ _ _ _ _ _ _ _ _ _ g1 g2 kt kf => lv_if_le g1 g2 hd ht kt kf) k1 k2
theorem w_icmp_le {x y : Int32} {off : Int} {tgt : Nat} (hd : decode md.2.1 pc = .ok (.if_icmp .le off, 3)) (ht : (pc : Int) + off = (tgt : Int)) (k1 : x ≤ y → WP sc d mc ms md tgt al st I L R N n Q) (k2 : ¬ (x ≤ y) → WP sc d mc ms md (pc + 3) al st I L R N n Q) : WP sc d mc ms md pc al (vI y :: vI x :: st) I L R N n Q := w_go2 (fun _ _ h => ok_tl (ok_tl h)) (fun _ _ _ _ _ _ _ _ _ _ _ _ _ _ _ _ _ _ g1 g2 kt kf => lv_icmp_le g1 g2 hd ht kt kf) k1 k2
theorem w_tblIn {dflt lo hi : Int} {offs : Array Int} {len tgt : Nat} {x : Int32} {off : Int} (hd : decode md.2.1 pc = .ok (.tableswitch dflt lo hi offs, len)) (h1 : ¬ x.toInt < lo) (h2 : ¬ hi < x.toInt) (ho : offs[(x.toInt - lo).toNat]? = some off) (ht : (pc : Int) + off = (tgt : Int)) (k : WP sc d mc ms md (tgt) al (st) I L R N n Q) : WP sc d mc ms md pc al (vI x :: st) I L R N n Q := w_go (fun _ _ _ h => ok_tl h) (fun _ _ _ _ _ _ _ _ _ _ _ _ _ _ _ _ _ _ g1 g2 g5 g6 g3 g8 g7 kk => lv_tableIn g1 g2 hd h1 h2 ho ht kk) k
theorem w_tblOut {dflt lo hi : Int} {offs : Array Int} {len tgt : Nat} {x : Int32} (hd : decode md.2.1 pc = .ok (.tableswitch dflt lo hi offs, len)) (h1 : x.toInt < lo ∨ hi < x.toInt) (ht : (pc : Int) + dflt = (tgt : Int)) (k : WP sc d mc ms md (tgt) al (st) I L R N n Q) : WP sc d mc ms md pc al (vI x :: st) I L R N n Q := w_go (fun _ _ _ h => ok_tl h) (fun _ _ _ _ _ _ _ _ _ _ _ _ _ _ _ _ _ _ g1 g2 g5 g6 g3 g8 g7 kk => lv_tableOut g1 g2 hd h1 ht kk) k
theorem w_lookup {dflt : Int} {ps : Array (Int × Int)} {len tgt : Nat} {x : Int32} {off : Int} (hd : decode md.2.1 pc = .ok (.lookupswitch dflt ps, len)) (hp : (ps.toList.zip (ps.toList.drop 1)).all (fun (a, next) => a.1 < next.1) = true) (ho : Op.lookupswitch.offset ps.toList dflt x.toInt = off) (ht : (pc : Int) + off = (tgt : Int)) (k : WP sc d mc ms md (tgt) al (st) I L R N n Q) : WP sc d mc ms md pc al (vI x :: st) I L R N n Q := w_go (fun _ _ _ h => ok_tl h) (fun _ _ _ _ _ _ _ _ _ _ _ _ _ _ _ _ _ _ g1 g2 g5 g6 g3 g8 g7 kk => lv_lookup g1 g2 hd hp ho ht kk) k
theorem w_ldcS {i : Nat} (hd : decode md.2.1 pc = .ok (.ldc (stX.getD i 0), 2)) (hm : md.1.cls = RX1) (hi : i < 6) (k : WP sc d mc ms md (pc + 2) al (vS (5 + i) :: st) I L R N n Q) : WP sc d mc ms md pc al (st) I L R N n Q := w_go (fun _ _ _ h => ok_cons (a := vS (5 + i)) (show 5 + i < 18 by omega) h) (fun _ _ _ _ _ _ _ _ _ _ _ _ _ _ _ _ _ _ g1 g2 g5 g6 g3 g8 g7 kk => va_ldcS g1 g2 (hm ▸ g5) (g8.2.2.2.2.2.2.2.2.1 i hi) hd kk) k
end
end
section
/-! Locals that are written; fields; arrays. -/
def lvL (ρ σ : Nat → Nat) (al : List AV) : List (Nat × Value) := (List.range al.length).filterMap (fun i => (al[i]?).bind (fun v => if v = vU then none else some (i, cv ρ σ v)))
theorem lvL_in {ρ σ : Nat → Nat} {al : List AV} {i : Nat} {v : AV} (h : al[i]? = some v) (hv : v ≠ vU) : (i, cv ρ σ v) ∈ lvL ρ σ al := by
  refine List.mem_filterMap.mpr ⟨i, List.mem_range.mpr (List.getElem?_eq_some_iff.mp h).1, ?_⟩
  rw [h]
  simp [hv]
theorem lvL_of {ρ σ : Nat → Nat} {al : List AV} {q : Nat × Value} (h : q ∈ lvL ρ σ al) : ∃ v, al[q.1]? = some v ∧ v ≠ vU ∧ q.2 = cv ρ σ v := by
  obtain ⟨i, -, hi⟩ := List.mem_filterMap.mp h
  cases hv : al[i]? with
  | none => rw [hv] at hi; cases hi
  | some v =>
    rw [hv] at hi
    by_cases hu : v = vU
    · simp [hu] at hi
    · simp [hu] at hi
      subst hi
      exact ⟨v, hv, hu, rfl⟩
theorem Lr.has {ρ σ : Nat → Nat} {al : List AV} {ls : Array Slot} (h : Lr ρ σ al ls) : lv_has ls al.length (lvL ρ σ al) := ⟨h.1, h.2.1, fun q hq => by
  obtain ⟨v, h1, h2, h3⟩ := lvL_of hq
  rw [h3]
  exact h.2.2 _ _ h1 h2⟩
theorem Lr.store1 {ρ σ : Nat → Nat} {al : List AV} {ls' : Array Slot} {i : Nat} {v : AV} (hi : i < al.length) (hn : nlong al i = true)
    (h' : lv_has ls' al.length ((i, cv ρ σ v) :: (lvL ρ σ al).filter (fun q => !(q.1 == i) && !(q.1 + 1 == i && q.2.category == 2)))) : Lr ρ σ (al.set i v) ls' := by
  refine ⟨by rw [List.length_set]; exact h'.1, h'.2.1, fun j w hj hw => ?_⟩
  by_cases e : j = i
  · subst e
    rw [List.getElem?_set_self hi] at hj
    cases hj
    exact h'.2.2 _ List.mem_cons_self
  · rw [List.getElem?_set_ne (Ne.symm e)] at hj
    refine h'.2.2 (j, cv ρ σ w) (List.mem_cons_of_mem _ (List.mem_filter.mpr ⟨lvL_in hj hw, ?_⟩))
    have h2 : ¬ (j + 1 = i ∧ (cv ρ σ w).category = 2) := by
      rintro ⟨a, b⟩
      subst a
      rw [cv_cat] at b
      simp only [nlong, hj] at hn
      rcases w with x | x | q | q | q <;> simp [acat] at b hn
    simp only [Bool.and_eq_true, Bool.not_eq_true', beq_eq_false_iff_ne, Bool.and_eq_false_iff]
    refine ⟨e, ?_⟩
    by_cases a : j + 1 = i
    · exact Or.inr (fun b => h2 ⟨a, b⟩)
    · exact Or.inl a
theorem Lr.store2 {ρ σ : Nat → Nat} {al : List AV} {ls' : Array Slot} {i : Nat} {v : AV} (hi : i + 1 < al.length) (hn : nlong al i = true)
    (h' : lv_has ls' al.length ((i, cv ρ σ v) :: (lvL ρ σ al).filter (fun q => !(q.1 == i) && (!(q.1 == i + 1) && !(q.1 + 1 == i && q.2.category == 2))))) : Lr ρ σ ((al.set i v).set (i + 1) vU) ls' := by
  refine ⟨by rw [List.length_set, List.length_set]; exact h'.1, h'.2.1, fun j w hj hw => ?_⟩
  by_cases e1 : j = i + 1
  · subst e1
    rw [List.getElem?_set_self (by rw [List.length_set]; exact hi)] at hj
    cases hj
    exact absurd rfl hw
  rw [List.getElem?_set_ne (Ne.symm e1)] at hj
  by_cases e : j = i
  · subst e
    rw [List.getElem?_set_self (by omega)] at hj
    cases hj
    exact h'.2.2 _ List.mem_cons_self
  · rw [List.getElem?_set_ne (Ne.symm e)] at hj
    refine h'.2.2 (j, cv ρ σ w) (List.mem_cons_of_mem _ (List.mem_filter.mpr ⟨lvL_in hj hw, ?_⟩))
    have h2 : ¬ (j + 1 = i ∧ (cv ρ σ w).category = 2) := by
      rintro ⟨a, b⟩
      subst a
      rw [cv_cat] at b
      simp only [nlong, hj] at hn
      rcases w with x | x | q | q | q <;> simp [acat] at b hn
    simp only [Bool.and_eq_true, Bool.not_eq_true', beq_eq_false_iff_ne, Bool.and_eq_false_iff]
    refine ⟨e, e1, ?_⟩
    by_cases a : j + 1 = i
    · exact Or.inr (fun b => h2 ⟨a, b⟩)
    · exact Or.inl a
theorem ok_set {T : HN} {n i : Nat} {al : List AV} {x : AV} (h : ∀ v ∈ al, okv T n v) (hx : okv T n x) : ∀ v ∈ al.set i x, okv T n v := fun v hv => (List.mem_or_eq_of_mem_set hv).elim (h v) (fun q => q ▸ hx)
section
variable {sc : SC} {d mc ms : Nat} {md : MD} {pc : Nat} {al st : List AV} {I : HI} {L : HL} {R : HR} {N : HN} {n : Nat} {Q : HQ}
/-- a step that writes a local -/
theorem w_loc {al' st' : List AV} {pc' : Nat} (hlen : al'.length = al.length) (hv : ∀ (T : HN) (n : Nat), (∀ v ∈ al, okv T n v) → (∀ v ∈ st, okv T n v) → (∀ v ∈ al', okv T n v) ∧ ∀ v ∈ st', okv T n v)
    (hs : ∀ (e : EN) (ρ : Nat → Nat) (p : Program) (l : Launch) (en : Env) (Rm : Room) (s : State) (m : MethodId) (args : Array Value) (below : List Frame) (meth : Method) (c : Code) (H : Heap) (locs : List Loc) (cells slots : Nat) (ls : Array Slot) (Z : State → Prop),
      p.tables.exec = Jvm.exec → c.code = md.2.1 → Lr ρ e.2.2.1 al ls → (∀ ls', Lr ρ e.2.2.1 al' ls' → W p l en Rm s m args below meth c H locs cells slots Z (F0 m pc' ls' (st'.map (cv ρ e.2.2.1)))) → W p l en Rm s m args below meth c H locs cells slots Z (F0 m pc ls (st.map (cv ρ e.2.2.1))))
    (k : WP sc d mc ms md pc' al' st' I L R N n Q) : WP sc d mc ms md pc al st I L R N n Q := by
  intro e ρ T n0 ρ0 T0 p l en Rm s m args below meth c H locs cells slots ls h
  have h' := h
  obtain ⟨⟨g1, g2, -⟩, -, ⟨h3, -⟩, h4, h5, -⟩ := h
  exact hs e ρ p l en Rm s m args below meth c H locs cells slots ls _ g1 g2 h3 (fun ls' hl' => k e ρ T n0 ρ0 T0 p l en Rm s m args below meth c H locs cells slots ls' (h'.locals hl' hlen (hv T n h4 h5).1 (hv T n h4 h5).2))
theorem w_istore_n {f : Fin 4} {x : Int32} {al' : List AV} (hd : decode md.2.1 pc = .ok (.istore_n f, 1)) (hi : (f : Nat) < al.length) (hn : nlong al f = true) (hs : al.set f (vI x) = al') (k : WP sc d mc ms md (pc + 1) al' st I L R N n Q) : WP sc d mc ms md pc al (vI x :: st) I L R N n Q := by
  subst hs
  exact w_loc List.length_set (fun _ _ ha h => ⟨ok_set (x := vI x) ha trivial, ok_tl h⟩) (fun _ _ _ _ _ _ _ _ _ _ _ _ _ _ _ _ _ _ g1 g2 g3 kk => lv_istore_n g1 g2 hd rfl g3.has hi rfl (fun ls' h' => kk ls' (Lr.store1 (v := vI x) hi hn h'))) k
theorem w_istore {f : Nat} {x : Int32} {al' : List AV} (hd : decode md.2.1 pc = .ok (.istore f, 2)) (hi : f < al.length) (hn : nlong al f = true) (hs : al.set f (vI x) = al') (k : WP sc d mc ms md (pc + 2) al' st I L R N n Q) : WP sc d mc ms md pc al (vI x :: st) I L R N n Q := by
  subst hs
  exact w_loc List.length_set (fun _ _ ha h => ⟨ok_set (x := vI x) ha trivial, ok_tl h⟩) (fun _ _ _ _ _ _ _ _ _ _ _ _ _ _ _ _ _ _ g1 g2 g3 kk => lv_istore g1 g2 hd g3.has hi rfl (fun ls' h' => kk ls' (Lr.store1 (v := vI x) hi hn h'))) k
theorem w_lstore_n {f : Fin 4} {x : Int64} {al' : List AV} (hd : decode md.2.1 pc = .ok (.lstore_n f, 1)) (hi : (f : Nat) + 1 < al.length) (hn : nlong al f = true) (hs : (al.set f (vL x)).set (f + 1) vU = al') (k : WP sc d mc ms md (pc + 1) al' st I L R N n Q) : WP sc d mc ms md pc al (vL x :: st) I L R N n Q := by
  subst hs
  exact w_loc (by rw [List.length_set, List.length_set]) (fun _ _ ha h => ⟨ok_set (x := vU) (ok_set (x := vL x) ha trivial) trivial, ok_tl h⟩) (fun _ _ _ _ _ _ _ _ _ _ _ _ _ _ _ _ _ _ g1 g2 g3 kk => lv_lstore_n g1 g2 hd rfl g3.has hi rfl (fun ls' h' => kk ls' (Lr.store2 (v := vL x) hi hn h'))) k
theorem w_lstore {f : Nat} {x : Int64} {al' : List AV} (hd : decode md.2.1 pc = .ok (.lstore f, 2)) (hi : f + 1 < al.length) (hn : nlong al f = true) (hs : (al.set f (vL x)).set (f + 1) vU = al') (k : WP sc d mc ms md (pc + 2) al' st I L R N n Q) : WP sc d mc ms md pc al (vL x :: st) I L R N n Q := by
  subst hs
  exact w_loc (by rw [List.length_set, List.length_set]) (fun _ _ ha h => ⟨ok_set (x := vU) (ok_set (x := vL x) ha trivial) trivial, ok_tl h⟩) (fun _ _ _ _ _ _ _ _ _ _ _ _ _ _ _ _ _ _ g1 g2 g3 kk => lv_lstore g1 g2 hd g3.has hi rfl (fun ls' h' => kk ls' (Lr.store2 (v := vL x) hi hn h'))) k
theorem w_astore_n {f : Fin 4} {t x : Nat} {al' : List AV} (hd : decode md.2.1 pc = .ok (.astore_n f, 1)) (hi : (f : Nat) < al.length) (hn : nlong al f = true) (hs : al.set f (vR t x) = al') (k : WP sc d mc ms md (pc + 1) al' st I L R N n Q) : WP sc d mc ms md pc al (vR t x :: st) I L R N n Q := by
  subst hs
  exact w_loc List.length_set (fun _ _ ha h => ⟨ok_set ha (ok_hd h), ok_tl h⟩) (fun _ _ _ _ _ _ _ _ _ _ _ _ _ _ _ _ _ _ g1 g2 g3 kk => lv_astore_n g1 g2 hd rfl g3.has hi rfl (fun ls' h' => kk ls' (Lr.store1 (v := vR t x) hi hn h'))) k
theorem w_astore {f : Nat} {t x : Nat} {al' : List AV} (hd : decode md.2.1 pc = .ok (.astore f, 2)) (hi : f < al.length) (hn : nlong al f = true) (hs : al.set f (vR t x) = al') (k : WP sc d mc ms md (pc + 2) al' st I L R N n Q) : WP sc d mc ms md pc al (vR t x :: st) I L R N n Q := by
  subst hs
  exact w_loc List.length_set (fun _ _ ha h => ⟨ok_set ha (ok_hd h), ok_tl h⟩) (fun _ _ _ _ _ _ _ _ _ _ _ _ _ _ _ _ _ _ g1 g2 g3 kk => lv_astore g1 g2 hd g3.has hi rfl (fun ls' h' => kk ls' (Lr.store1 (v := vR t x) hi hn h'))) k
theorem w_astore_nN {f : Fin 4} {al' : List AV} (hd : decode md.2.1 pc = .ok (.astore_n f, 1)) (hi : (f : Nat) < al.length) (hn : nlong al f = true) (hs : al.set f vN = al') (k : WP sc d mc ms md (pc + 1) al' st I L R N n Q) : WP sc d mc ms md pc al (vN :: st) I L R N n Q := by
  subst hs
  exact w_loc List.length_set (fun _ _ ha h => ⟨ok_set (x := vN) ha trivial, ok_tl h⟩) (fun _ _ _ _ _ _ _ _ _ _ _ _ _ _ _ _ _ _ g1 g2 g3 kk => lv_astore_nN g1 g2 hd rfl g3.has hi rfl (fun ls' h' => kk ls' (Lr.store1 (v := vN) hi hn h'))) k
theorem w_astoreN {f : Nat} {al' : List AV} (hd : decode md.2.1 pc = .ok (.astore f, 2)) (hi : f < al.length) (hn : nlong al f = true) (hs : al.set f vN = al') (k : WP sc d mc ms md (pc + 2) al' st I L R N n Q) : WP sc d mc ms md pc al (vN :: st) I L R N n Q := by
  subst hs
  exact w_loc List.length_set (fun _ _ ha h => ⟨ok_set (x := vN) ha trivial, ok_tl h⟩) (fun _ _ _ _ _ _ _ _ _ _ _ _ _ _ _ _ _ _ g1 g2 g3 kk => lv_astoreN g1 g2 hd g3.has hi rfl (fun ls' h' => kk ls' (Lr.store1 (v := vN) hi hn h'))) k
theorem w_iinc {f : Nat} {z : Int} {x v : Int32} {al' : List AV} (hd : decode md.2.1 pc = .ok (.iinc f z, 3)) (hl : al[f]? = some (vI x)) (hn : nlong al f = true) (hv : x + Int32.ofInt z = v) (hs : al.set f (vI v) = al') (k : WP sc d mc ms md (pc + 3) al' st I L R N n Q) : WP sc d mc ms md pc al st I L R N n Q := by
  subst hs
  have hi : f < al.length := (List.getElem?_eq_some_iff.mp hl).1
  refine w_loc List.length_set (fun _ _ ha h => ⟨ok_set (x := vI v) ha trivial, h⟩) (fun e ρ _ _ _ _ _ _ _ _ _ _ _ _ _ _ _ _ g1 g2 g3 kk => ?_) k
  obtain ⟨q, hq⟩ := List.getElem?_of_mem (lvL_in (ρ := ρ) (σ := e.2.2.1) hl (by simp))
  exact lv_iinc g1 g2 hd g3.has hq hv hi rfl (fun ls' h' => kk ls' (Lr.store1 (v := vI v) hi hn h'))
/-- forget a local -/
theorem w_kill {i : Nat} {al' : List AV} (hs : al.set i vU = al') (k : WP sc d mc ms md pc al' st I L R N n Q) : WP sc d mc ms md pc al st I L R N n Q := by
  subst hs
  refine w_loc List.length_set (fun _ _ ha h => ⟨ok_set (x := vU) ha trivial, h⟩) (fun e ρ _ _ _ _ _ _ _ _ _ _ _ _ _ _ ls _ g1 g2 g3 kk => kk ls ⟨by rw [List.length_set]; exact g3.1, g3.2.1, fun j w hj hw => ?_⟩) k
  by_cases ej : j = i
  · subst ej
    have hlt : j < al.length := by
      have := (List.getElem?_eq_some_iff.mp hj).1
      rwa [List.length_set] at this
    rw [List.getElem?_set_self hlt] at hj
    cases hj
    exact absurd rfl hw
  · rw [List.getElem?_set_ne (Ne.symm ej)] at hj
    exact g3.2.2 j w hj hw
end
end
section
/-! Fields and arrays. -/
def cT (t : Nat) : vw_C := vwCl.getD t (RX0, TX0, 1)
def tyF : Nat → Nat → FieldType
  | 0 => tyX0 | 1 => tyX1 | 2 => tyX2 | 3 => tyX3 | 4 => tyX4 | 5 => tyX5 | 6 => tyX6 | 7 => tyX7 | 8 => tyX8 | 9 => tyX9 | _ => tyX10
theorem cl_ok : ∀ t, t < 11 → vwCl[t]? = some (cT t) ∧ (cT t).2.2 = nf t ∧ (∀ w ∈ u_ws (cT t).1 (cT t).2.1 (cT t).2.2, w ∈ gw) ∧ (∀ k, k < (cT t).2.2 → parseFieldDescriptor ((cT t).2.1 k).2.2.1 = some (tyF t k)) ∧ (∀ a, a < (cT t).2.2 → ∀ b, b < (cT t).2.2 → a ≠ b → ((cT t).2.1 a).2.1 ≠ ((cT t).2.1 b).2.1) := by
  intro t ht
  match t, ht with
  | 0, _ => exact ⟨rfl, rfl, inX0, tyX0_ok, nmX0⟩
  | 1, _ => exact ⟨rfl, rfl, inX1, tyX1_ok, nmX1⟩
  | 2, _ => exact ⟨rfl, rfl, inX2, tyX2_ok, nmX2⟩
  | 3, _ => exact ⟨rfl, rfl, inX3, tyX3_ok, nmX3⟩
  | 4, _ => exact ⟨rfl, rfl, inX4, tyX4_ok, nmX4⟩
  | 5, _ => exact ⟨rfl, rfl, inX5, tyX5_ok, nmX5⟩
  | 6, _ => exact ⟨rfl, rfl, inX6, tyX6_ok, nmX6⟩
  | 7, _ => exact ⟨rfl, rfl, inX7, tyX7_ok, nmX7⟩
  | 8, _ => exact ⟨rfl, rfl, inX8, tyX8_ok, nmX8⟩
  | 9, _ => exact ⟨rfl, rfl, inX9, tyX9_ok, nmX9⟩
  | 10, _ => exact ⟨rfl, rfl, inX10, tyX10_ok, nmX10⟩
  | t + 11, h => exact absurd h (by omega)
theorem cl_dc : ∀ t, t < 11 → ∀ j, j < nf t → ((cT t).2.1 j).1 = (cT t).1 := by decide +kernel
def isRefTy : FieldType → Bool
  | .object _ => true
  | .array _ => true
  | _ => false
/-- what a field of a kind may hold -/
theorem ty_ok : ∀ t, t < 11 → ∀ j, j < nf t → (fk t j = 0 → tyF t j = .int ∨ tyF t j = .boolean) ∧ (fk t j = 1 → tyF t j = .long) ∧ (2 ≤ fk t j → (∃ nm, tyF t j = .object nm) ∨ ∃ u, tyF t j = .array u) := by
  intro t ht j hj
  have h : ∀ t, t < 11 → ∀ j, j < nf t → (fk t j = 0 → tyF t j = .int ∨ tyF t j = .boolean) ∧ (fk t j = 1 → tyF t j = .long) ∧ (2 ≤ fk t j → isRefTy (tyF t j) = true) := by decide +kernel
  obtain ⟨h1, h2, h3⟩ := h t ht j hj
  refine ⟨h1, h2, fun q => ?_⟩
  have := h3 q
  revert this
  cases tyF t j <;> simp [isRefTy]
def FL (own : String) (idx t j : Nat) : Prop := t < 11 ∧ j < nf t ∧ Cond.fieldLink own idx (cT t).1 ((cT t).2.1 j).2.1 ((cT t).2.1 j).2.2.1 ∈ gw
section
variable {cy : Nat → ClassId} {ρ : Nat → Nat} {T : HN} {I I' : HI} {L L' : HL} {R R' : HR} {N N' : HN} {n k t j : Nat}
theorem wsl_get (hk : k < n) : (wsl cy ρ T I L R N n)[k]? = some (ρ k, ce cy ρ T I L R N k) := by
  rw [wsl, List.getElem?_map, List.getElem?_range hk]; rfl
theorem wsl_none (hk : n ≤ k) : (wsl cy ρ T I L R N n)[k]? = none := by
  rw [wsl, List.getElem?_map, List.getElem?_eq_none (by rw [List.length_range]; exact hk)]; rfl
theorem wsl_len : (wsl cy ρ T I L R N n).length = n := by simp [wsl]
theorem ce_obj (h : T k = t) (ht : t < 11) : ce cy ρ T I L R N k = .inr (t, (List.range (nf t)).map (fun i => fval ρ I L R k i (fk t i))) := by
  subst h; exact if_pos ht
theorem ce_int (h : T k = t) (ht : 11 ≤ t) (ht2 : t < 14) : ce cy ρ T I L R N k = .inl (cy t, N k, .inl (I k)) := by
  subst h; rw [ce, if_neg (by omega), if_pos ht2]
theorem ce_ref (h : T k = t) (ht : 14 ≤ t) : ce cy ρ T I L R N k = .inl (cy t, N k, .inr (.inr (.inr (.inr (fun i => (R k i).map ρ))))) := by
  subst h; rw [ce, if_neg (by omega), if_neg (by omega)]
theorem wsl_upd {x : va_E} (hk : k < n) (hx : ce cy ρ T I' L' R' N' k = x) (ho : ∀ q, q < n → q ≠ k → ce cy ρ T I' L' R' N' q = ce cy ρ T I L R N q) : (wsl cy ρ T I L R N n).set k (ρ k, x) = wsl cy ρ T I' L' R' N' n := by
  apply List.ext_getElem?
  intro q
  by_cases hq : q < n
  · by_cases e : q = k
    · subst e
      rw [List.getElem?_set_self (by rw [wsl_len]; exact hq), wsl_get hq, hx]
    · rw [List.getElem?_set_ne (Ne.symm e), wsl_get hq, wsl_get hq, ho q hq e]
  · rw [wsl_none (by omega), List.getElem?_set]
    split
    · omega
    · exact wsl_none (by omega)
theorem map_set {α : Type} (m j : Nat) (g : Nat → α) (v : α) : ((List.range m).map g).set j v = (List.range m).map (va_up g j v) := by
  apply List.ext_getElem?
  intro q
  rw [List.getElem?_set]
  by_cases e : j = q
  · subst e
    by_cases hq : j < m
    · rw [if_pos rfl, if_pos (by simpa using hq), List.getElem?_map, List.getElem?_range hq]
      simp [va_up]
    · rw [if_pos rfl, if_neg (by simpa using hq), List.getElem?_map, List.getElem?_eq_none (by simpa using hq)]
      rfl
  · rw [if_neg e]
    rw [List.getElem?_map, List.getElem?_map]
    by_cases hq : q < m
    · rw [List.getElem?_range hq]
      simp [va_up, Ne.symm e]
    · rw [List.getElem?_eq_none (by simpa using hq)]
      rfl
end
section
variable {sc : SC} {d mc ms : Nat} {md : MD} {pc : Nat} {al st : List AV} {I I' : HI} {L L' : HL} {R R' : HR} {N N' : HN} {n : Nat} {Q : HQ} {e : EN} {ρ : Nat → Nat} {T : HN} {n0 : Nat} {ρ0 : Nat → Nat} {T0 : HN} {p : Program} {l : Launch} {en : Env} {Rm : Room} {s : State} {m : MethodId} {args : Array Value} {below : List Frame} {meth : Method} {c : Code} {H : Heap} {locs : List Loc} {cells slots : Nat} {ls : Array Slot}
theorem CX.heap {st' : List AV} {H' : Heap} {locs' : List Loc} (h : CX sc d mc ms md al st I L R N n e ρ T n0 ρ0 T0 p Rm s m args meth c H locs cells slots ls) (hw : HW e ρ T I' L' R' N' n s H') (hS : va_S (EA e) s.heap H' locs') (hv : ∀ v ∈ st', okv T n v) : CX sc d mc ms md al st' I' L' R' N' n e ρ T n0 ρ0 T0 p Rm s m args meth c H' locs' cells slots ls := by
  obtain ⟨h1, h2, h3, h4, h5, h6, h7, h8⟩ := h
  exact ⟨h1, h2, h3, h4, hv, hw, hS, h8⟩
theorem w_getA {idx t j k : Nat} {v : AV} (hd : decode md.2.1 pc = .ok (.getfield idx, 3)) (hf : FL md.1.cls idx t j) (hv : ∀ ρ σ : Nat → Nat, fval ρ I L R k j (fk t j) = cv ρ σ v) (hok : ∀ T : HN, WT T R n → k < n → T k = t → okv T n v)
    (K : WP sc d mc ms md (pc + 3) al (v :: st) I L R N n Q) : WP sc d mc ms md pc al (vR t k :: st) I L R N n Q := by
  intro e ρ T n0 ρ0 T0 p l en Rm s m args below meth c H locs cells slots ls h
  have h' := h
  obtain ⟨⟨g1, g2, -, -, g5, g6, -⟩, -, -, h4, h5, ⟨hK, hP, hD, hT⟩, -⟩ := h
  obtain ⟨hk, hTk⟩ : k < n ∧ T k = t := ok_hd h5
  obtain ⟨ht, hj, hlk⟩ := hf
  obtain ⟨c1, c2, c3, c4, c5⟩ := cl_ok t ht
  have he := wsl_get (cy := e.2.1) (ρ := ρ) (T := T) (I := I) (L := L) (R := R) (N := N) hk
  rw [ce_obj hTk ht] at he
  refine va_get (D := e.1) (ci := t) (C := (cT t).1) (T := (cT t).2.1) (N := (cT t).2.2) (v := cv ρ e.2.2.1 v) g1 g2 g6 c3 g5 hK hP k he c1 j (by rw [c2]; exact hj) (g6 _ hlk) (fun x hx => by rw [cl_dc t ht j hj] at hx; exact hx) ?_ hd ?_
  · rw [List.getElem?_map, List.getElem?_range hj]
    exact congrArg some (hv ρ e.2.2.1)
  · exact K e ρ T n0 ρ0 T0 p l en Rm s m args below meth c H locs cells slots ls (h'.stack (ok_cons (hok T hT hk hTk) (ok_tl h5)))
theorem w_getI {idx t j k : Nat} (hd : decode md.2.1 pc = .ok (.getfield idx, 3)) (hf : FL md.1.cls idx t j) (hk : fk t j = 0) (K : WP sc d mc ms md (pc + 3) al (vI (I k j) :: st) I L R N n Q) : WP sc d mc ms md pc al (vR t k :: st) I L R N n Q :=
  w_getA (v := vI (I k j)) hd hf (fun _ _ => by rw [hk]; rfl) (fun _ _ _ _ => trivial) K
theorem w_getL {idx t j k : Nat} (hd : decode md.2.1 pc = .ok (.getfield idx, 3)) (hf : FL md.1.cls idx t j) (hk : fk t j = 1) (K : WP sc d mc ms md (pc + 3) al (vL (L k j) :: st) I L R N n Q) : WP sc d mc ms md pc al (vR t k :: st) I L R N n Q :=
  w_getA (v := vL (L k j)) hd hf (fun _ _ => by rw [hk]; rfl) (fun _ _ _ _ => trivial) K
theorem w_getQ {idx t j k t2 : Nat} (hd : decode md.2.1 pc = .ok (.getfield idx, 3)) (hf : FL md.1.cls idx t j) (hk : fk t j = t2 + 2) (K : WP sc d mc ms md (pc + 3) al (rv t2 (R k j) :: st) I L R N n Q) : WP sc d mc ms md pc al (vR t k :: st) I L R N n Q := by
  refine w_getA hd hf (fun ρ σ => by rw [hk, cv_rv]; rfl) (fun T hT hkn hTk => ?_) K
  cases hr : R k j with
  | none => exact trivial
  | some a =>
    obtain ⟨h1, -⟩ := hT k hkn j a hr
    rw [hTk] at h1
    obtain ⟨h2, h3⟩ := h1 hf.1 (by omega)
    exact ⟨h2, by show T a = t2; omega⟩
theorem w_getR {idx t j k t2 a : Nat} (hd : decode md.2.1 pc = .ok (.getfield idx, 3)) (hf : FL md.1.cls idx t j) (hk : fk t j = t2 + 2) (hR : R k j = some a) (K : WP sc d mc ms md (pc + 3) al (vR t2 a :: st) I L R N n Q) : WP sc d mc ms md pc al (vR t k :: st) I L R N n Q :=
  w_getQ hd hf hk (by rw [hR]; exact K)
theorem w_putA {idx t j k : Nat} {v : AV} (hd : decode md.2.1 pc = .ok (.putfield idx, 3)) (hf : FL md.1.cls idx t j)
    (hfin : ((cT t).2.1 j).2.2.2 = false ∨ (((cT t).2.1 j).2.2.2 = true ∧ md.1.name = "<init>" ∧ (cT t).1 = md.1.cls))
    (hn : ∀ ρ σ : Nat → Nat, narrow (tyF t j) (cv ρ σ v) = cv ρ σ v) (hft : ∀ ρ σ : Nat → Nat, fits (tyF t j) (cv ρ σ v) = true)
    (hv : ∀ ρ σ : Nat → Nat, fval ρ I' L' R' k j (fk t j) = cv ρ σ v) (hs : ∀ i, i < nf t → i ≠ j → ∀ ρ : Nat → Nat, fval ρ I' L' R' k i (fk t i) = fval ρ I L R k i (fk t i))
    (ho : ∀ q, q ≠ k → I' q = I q ∧ L' q = L q ∧ R' q = R q) (hwt : ∀ T : HN, WT T R n → k < n → T k = t → okv T n v → WT T R' n)
    (K : WP sc d mc ms md (pc + 3) al st I' L' R' N n Q) : WP sc d mc ms md pc al (v :: vR t k :: st) I L R N n Q := by
  intro e ρ T n0 ρ0 T0 p l en Rm s m args below meth c H locs cells slots ls h
  have h' := h
  obtain ⟨⟨g1, g2, -, -, g5, g6, -, g9⟩, -, -, h4, h5, ⟨hK, hP, hD, hT⟩, hS, -⟩ := h
  obtain ⟨hk, hTk⟩ : k < n ∧ T k = t := ok_hd (ok_tl h5)
  obtain ⟨ht, hj, hlk⟩ := hf
  obtain ⟨c1, c2, c3, c4, c5⟩ := cl_ok t ht
  have he := wsl_get (cy := e.2.1) (ρ := ρ) (T := T) (I := I) (L := L) (R := R) (N := N) hk
  rw [ce_obj hTk ht] at he
  have hset : (wsl e.2.1 ρ T I L R N n).set k (ρ k, .inr (t, ((List.range (nf t)).map (fun i => fval ρ I L R k i (fk t i))).set j (cv ρ e.2.2.1 v))) = wsl e.2.1 ρ T I' L' R' N n := by
    refine wsl_upd hk ?_ (fun q hq hqk => ?_)
    · rw [ce_obj hTk ht, map_set]
      congr 2
      apply List.map_congr_left
      intro i hi
      by_cases eij : i = j
      · subst eij
        rw [va_up_self]; exact hv ρ _
      · rw [va_up_ne _ _ eij]; exact hs i (List.mem_range.mp hi) eij ρ
    · obtain ⟨o1, o2, o3⟩ := ho q hqk
      unfold ce fval
      rw [o1, o2, o3]
  have fin : ∀ (H1 : Heap) (locs1 : List Loc), va_P e.1 vwCl ((wsl e.2.1 ρ T I L R N n).set k (ρ k, .inr (t, ((List.range (nf t)).map (fun i => fval ρ I L R k i (fk t i))).set j (cv ρ e.2.2.1 v)))) H1 → va_D (EA e) ((wsl e.2.1 ρ T I L R N n).set k (ρ k, .inr (t, ((List.range (nf t)).map (fun i => fval ρ I L R k i (fk t i))).set j (cv ρ e.2.2.1 v)))) → va_S (EA e) s.heap H1 locs1 →
      W p l en Rm s m args below meth c H1 locs1 cells slots (MQ below (QM md e n0 ρ0 T0 Q) args s Rm.cells Rm.slots (EA e)) (F0 m (pc + 3) ls (st.map (cv ρ e.2.2.1))) := by
    intro H1 locs1 hP1 hD1 hS1
    rw [hset] at hP1 hD1
    exact K e ρ T n0 ρ0 T0 p l en Rm s m args below meth c H1 locs1 cells slots ls (h'.heap ⟨hK, hP1, hD1, hwt T hT hk hTk (ok_hd h5)⟩ hS1 (ok_tl (ok_tl h5)))
  rcases hfin with hfin | ⟨hfin, hnm, hcl⟩
  · exact va_put (D := e.1) (ci := t) (v := cv ρ e.2.2.1 v) (ty := tyF t j) (C := (cT t).1) (T := (cT t).2.1) (N := (cT t).2.2) g1 g2 g6 c3 (tyF t) c4 c5 g5 hK hP hD hS k he c1 j (by rw [c2]; exact hj) (g6 _ hlk) (fun x hx => by rw [cl_dc t ht j hj] at hx; exact hx) hfin (c4 j (by rw [c2]; exact hj)) (hn _ _) (hft _ _) (by simpa using hj) hd fin
  · exact va_putF (D := e.1) (ci := t) (v := cv ρ e.2.2.1 v) (ty := tyF t j) (C := (cT t).1) (T := (cT t).2.1) (N := (cT t).2.2) g1 g2 g6 c3 (tyF t) c4 c5 g5 hK hP hD hS k he c1 j (by rw [c2]; exact hj) (g6 _ hlk) (fun x hx => by rw [cl_dc t ht j hj] at hx; exact hx) hfin (g9.trans hnm) ((cl_dc t ht j hj).trans hcl) (c4 j (by rw [c2]; exact hj)) (hn _ _) (hft _ _) (by simpa using hj) hd fin
theorem fval_up {I : HI} {L : HL} {R : HR} {k i j c : Nat} {x : Int32} (hij : i ≠ j) (ρ : Nat → Nat) : fval ρ (va_up I k (va_up (I k) j x)) L R k i c = fval ρ I L R k i c := by
  unfold fval; rw [va_up_self, va_up_ne _ _ hij]
theorem fval_upL {I : HI} {L : HL} {R : HR} {k i j c : Nat} {x : Int64} (hij : i ≠ j) (ρ : Nat → Nat) : fval ρ I (va_up L k (va_up (L k) j x)) R k i c = fval ρ I L R k i c := by
  unfold fval; rw [va_up_self, va_up_ne _ _ hij]
theorem fval_upR {I : HI} {L : HL} {R : HR} {k i j c : Nat} {x : Option Nat} (hij : i ≠ j) (ρ : Nat → Nat) : fval ρ I L (va_up R k (va_up (R k) j x)) k i c = fval ρ I L R k i c := by
  unfold fval; rw [va_up_self, va_up_ne _ _ hij]
theorem w_putI {idx t j k : Nat} {x : Int32} (hd : decode md.2.1 pc = .ok (.putfield idx, 3)) (hf : FL md.1.cls idx t j) (hk : fk t j = 0) (hfin : ((cT t).2.1 j).2.2.2 = false) (hn : narrow (tyF t j) (.int x) = .int x) (hft : fits (tyF t j) (.int x) = true)
    (K : WP sc d mc ms md (pc + 3) al st (va_up I k (va_up (I k) j x)) L R N n Q) : WP sc d mc ms md pc al (vI x :: vR t k :: st) I L R N n Q :=
  w_putA hd hf (Or.inl hfin) (fun _ _ => hn) (fun _ _ => hft) (fun _ _ => by rw [hk]; show Value.int _ = Value.int _; rw [va_up_self, va_up_self]) (fun _ _ hij ρ => fval_up hij ρ) (fun q hq => ⟨va_up_ne _ _ hq, rfl, rfl⟩) (fun _ h _ _ _ => h) K
theorem w_putL {idx t j k : Nat} {x : Int64} (hd : decode md.2.1 pc = .ok (.putfield idx, 3)) (hf : FL md.1.cls idx t j) (hk : fk t j = 1) (hfin : ((cT t).2.1 j).2.2.2 = false)
    (K : WP sc d mc ms md (pc + 3) al st I (va_up L k (va_up (L k) j x)) R N n Q) : WP sc d mc ms md pc al (vL x :: vR t k :: st) I L R N n Q :=
  w_putA hd hf (Or.inl hfin) (fun _ _ => by rw [(ty_ok t hf.1 j hf.2.1).2.1 hk]; rfl) (fun _ _ => by rw [(ty_ok t hf.1 j hf.2.1).2.1 hk]; rfl) (fun _ _ => by rw [hk]; show Value.long _ = Value.long _; rw [va_up_self, va_up_self]) (fun _ _ hij ρ => fval_upL hij ρ) (fun q hq => ⟨rfl, va_up_ne _ _ hq, rfl⟩) (fun _ h _ _ _ => h) K
theorem wt_up {T : HN} {R : HR} {n k j t2 a : Nat} (hT : WT T R n) (hk : fk (T k) j = t2 + 2 ∨ 11 ≤ T k) (hk2 : T k < 11 ∨ et (T k) = t2) (ha : a < n ∧ T a = t2) : WT T (va_up R k (va_up (R k) j (some a))) n := by
  intro q hq i b hb
  by_cases e1 : q = k
  · subst e1
    rw [va_up_self] at hb
    by_cases e2 : i = j
    · subst e2
      rw [va_up_self] at hb
      cases hb
      refine ⟨fun h1 h2 => ⟨ha.1, ?_⟩, fun h1 => ⟨ha.1, ?_⟩⟩
      · rcases hk with h | h <;> omega
      · rcases hk2 with h | h <;> omega
    · rw [va_up_ne _ _ e2] at hb
      exact hT q hq i b hb
  · rw [va_up_ne _ _ e1] at hb
    exact hT q hq i b hb
theorem wt_upN {T : HN} {R : HR} {n k j : Nat} (hT : WT T R n) : WT T (va_up R k (va_up (R k) j none)) n := by
  intro q hq i b hb
  by_cases e1 : q = k
  · subst e1
    rw [va_up_self] at hb
    by_cases e2 : i = j
    · subst e2
      rw [va_up_self] at hb
      cases hb
    · rw [va_up_ne _ _ e2] at hb
      exact hT q hq i b hb
  · rw [va_up_ne _ _ e1] at hb
    exact hT q hq i b hb
/-- a final field of references, in its constructor -/
theorem w_putR {idx t j k t2 a : Nat} (hd : decode md.2.1 pc = .ok (.putfield idx, 3)) (hf : FL md.1.cls idx t j) (hk : fk t j = t2 + 2) (hfin : ((cT t).2.1 j).2.2.2 = true) (hnm : md.1.name = "<init>") (hcl : (cT t).1 = md.1.cls)
    (K : WP sc d mc ms md (pc + 3) al st I L (va_up R k (va_up (R k) j (some a))) N n Q) : WP sc d mc ms md pc al (vR t2 a :: vR t k :: st) I L R N n Q := by
  have hty := (ty_ok t hf.1 j hf.2.1).2.2 (by omega)
  refine w_putA hd hf (Or.inr ⟨hfin, hnm, hcl⟩) (fun _ _ => ?_) (fun _ _ => ?_) (fun _ _ => by rw [hk]; show va_rf _ = _; rw [va_up_self, va_up_self]; rfl) (fun _ _ hij ρ => fval_upR hij ρ) (fun q hq => ⟨rfl, rfl, va_up_ne _ _ hq⟩) (fun T h hkn hTk ho => wt_up h (Or.inl (by rw [hTk]; exact hk)) (Or.inl (by rw [hTk]; exact hf.1)) ho) K
  · rcases hty with ⟨q, h⟩ | ⟨q, h⟩ <;> rw [h] <;> rfl
  · rcases hty with ⟨q, h⟩ | ⟨q, h⟩ <;> rw [h] <;> rfl
/-- a final field of numbers, in its constructor -/
theorem w_putIF {idx t j k : Nat} {x : Int32} (hd : decode md.2.1 pc = .ok (.putfield idx, 3)) (hf : FL md.1.cls idx t j) (hk : fk t j = 0) (hfin : ((cT t).2.1 j).2.2.2 = true) (hnm : md.1.name = "<init>") (hcl : (cT t).1 = md.1.cls) (hn : narrow (tyF t j) (.int x) = .int x) (hft : fits (tyF t j) (.int x) = true)
    (K : WP sc d mc ms md (pc + 3) al st (va_up I k (va_up (I k) j x)) L R N n Q) : WP sc d mc ms md pc al (vI x :: vR t k :: st) I L R N n Q :=
  w_putA hd hf (Or.inr ⟨hfin, hnm, hcl⟩) (fun _ _ => hn) (fun _ _ => hft) (fun _ _ => by rw [hk]; show Value.int _ = Value.int _; rw [va_up_self, va_up_self]) (fun _ _ hij ρ => fval_up hij ρ) (fun q hq => ⟨va_up_ne _ _ hq, rfl, rfl⟩) (fun _ h _ _ _ => h) K
end
end
section
/-! Arrays. -/
theorem ty_at (cy : Nat → ClassId) : (tysOf cy)[0]? = some (cy 11, .char) ∧ (tysOf cy)[1]? = some (cy 12, .int) ∧ (tysOf cy)[2]? = some (cy 13, .boolean) ∧ (tysOf cy)[7]? = some (cy 18, .array .int) := ⟨rfl, rfl, rfl, rfl⟩
theorem ty_ref (cy : Nat → ClassId) : ∀ t, 14 ≤ t → t < 18 → (tysOf cy)[t - 11]? = some (cy t, .object (cT (et t)).1) ∧ et t < 11 := by
  intro t h1 h2
  rcases (show t = 14 ∨ t = 15 ∨ t = 16 ∨ t = 17 by omega) with rfl | rfl | rfl | rfl <;> exact ⟨rfl, by decide⟩
theorem ty_any (cy : Nat → ClassId) : ∀ t, 11 ≤ t → t < 19 → ∃ ty, (tysOf cy)[t - 11]? = some (cy t, ty) := by
  intro t h1 h2
  rcases (show t = 11 ∨ t = 12 ∨ t = 13 ∨ t = 14 ∨ t = 15 ∨ t = 16 ∨ t = 17 ∨ t = 18 by omega) with rfl | rfl | rfl | rfl | rfl | rfl | rfl | rfl <;> exact ⟨_, rfl⟩
section
variable {sc : SC} {d mc ms : Nat} {md : MD} {pc : Nat} {al st : List AV} {I I' : HI} {L L' : HL} {R R' : HR} {N N' : HN} {n : Nat} {Q : HQ} {i x : Int32} {k q z : Nat}
theorem w_iald (hd : decode md.2.1 pc = .ok (.iaload, 1)) (hi : i = nI q) (hN : N k = z) (hq : q < z) (K : WP sc d mc ms md (pc + 1) al (vI (I k q) :: st) I L R N n Q) (hz : z < 2147483648 := by decide) : WP sc d mc ms md pc al (vI i :: vR 12 k :: st) I L R N n Q := by
  intro e ρ T n0 ρ0 T0 p l en Rm s m args below meth c H locs cells slots ls h
  have h' := h
  obtain ⟨⟨g1, g2, -⟩, -, -, h4, h5, ⟨hK, hP, hD, hT⟩, -⟩ := h
  obtain ⟨hk, hTk⟩ : k < n ∧ T k = 12 := ok_hd (ok_tl h5)
  have he := wsl_get (cy := e.2.1) (ρ := ρ) (T := T) (I := I) (L := L) (R := R) (N := N) hk
  rw [ce_int hTk (by decide) (by decide), hN] at he
  subst hi
  refine va_iald g1 g2 hK hP k 1 he (ty_at _).2.1 (vp_in_nI hq hz) hd ?_
  rw [nI_clamp (by omega)]
  exact K e ρ T n0 ρ0 T0 p l en Rm s m args below meth c H locs cells slots ls (h'.stack (ok_i (ok_tl (ok_tl h5))))
theorem w_zald (hd : decode md.2.1 pc = .ok (.baload, 1)) (hi : i = nI q) (hN : N k = z) (hq : q < z) (K : WP sc d mc ms md (pc + 1) al (vI (I k q) :: st) I L R N n Q) (hz : z < 2147483648 := by decide) : WP sc d mc ms md pc al (vI i :: vR 13 k :: st) I L R N n Q := by
  intro e ρ T n0 ρ0 T0 p l en Rm s m args below meth c H locs cells slots ls h
  have h' := h
  obtain ⟨⟨g1, g2, -⟩, -, -, h4, h5, ⟨hK, hP, hD, hT⟩, -⟩ := h
  obtain ⟨hk, hTk⟩ : k < n ∧ T k = 13 := ok_hd (ok_tl h5)
  have he := wsl_get (cy := e.2.1) (ρ := ρ) (T := T) (I := I) (L := L) (R := R) (N := N) hk
  rw [ce_int hTk (by decide) (by decide), hN] at he
  subst hi
  refine va_zald g1 g2 hK hP k 2 he (ty_at _).2.2.1 (vp_in_nI hq hz) hd ?_
  rw [nI_clamp (by omega)]
  exact K e ρ T n0 ρ0 T0 p l en Rm s m args below meth c H locs cells slots ls (h'.stack (ok_i (ok_tl (ok_tl h5))))
theorem w_cald (hd : decode md.2.1 pc = .ok (.caload, 1)) (hi : i = nI q) (hN : N k = z) (hq : q < z) (K : WP sc d mc ms md (pc + 1) al (vI (I k q) :: st) I L R N n Q) (hz : z < 2147483648 := by decide) : WP sc d mc ms md pc al (vI i :: vR 11 k :: st) I L R N n Q := by
  intro e ρ T n0 ρ0 T0 p l en Rm s m args below meth c H locs cells slots ls h
  have h' := h
  obtain ⟨⟨g1, g2, -⟩, -, -, h4, h5, ⟨hK, hP, hD, hT⟩, -⟩ := h
  obtain ⟨hk, hTk⟩ : k < n ∧ T k = 11 := ok_hd (ok_tl h5)
  have he := wsl_get (cy := e.2.1) (ρ := ρ) (T := T) (I := I) (L := L) (R := R) (N := N) hk
  rw [ce_int hTk (by decide) (by decide), hN] at he
  subst hi
  refine va_cald g1 g2 hK hP k 0 he (ty_at _).1 (vp_in_nI hq hz) hd ?_
  rw [nI_clamp (by omega)]
  exact K e ρ T n0 ρ0 T0 p l en Rm s m args below meth c H locs cells slots ls (h'.stack (ok_i (ok_tl (ok_tl h5))))
/-- what a number that is put into an array of numbers leaves behind -/
theorem hw_iast {e : EN} {ρ : Nat → Nat} {T : HN} {U : State} {H1 : Heap} {t : Nat} (ht : 11 ≤ t) (ht2 : t < 14) (hk : k < n) (hTk : T k = t) (hK : va_K e.1 vwCl (tysOf e.2.1) U) (hT : WT T R n)
    (hP : va_P e.1 vwCl ((wsl e.2.1 ρ T I L R N n).set k (ρ k, .inl (e.2.1 t, N k, .inl (upd (I k) q x)))) H1) (hD : va_D (EA e) ((wsl e.2.1 ρ T I L R N n).set k (ρ k, .inl (e.2.1 t, N k, .inl (upd (I k) q x))))) : HW e ρ T (va_up I k (va_up (I k) q x)) L R N n U H1 := by
  have hset : (wsl e.2.1 ρ T I L R N n).set k (ρ k, .inl (e.2.1 t, N k, .inl (upd (I k) q x))) = wsl e.2.1 ρ T (va_up I k (va_up (I k) q x)) L R N n := by
    refine wsl_upd hk ?_ (fun w hw hwk => ?_)
    · rw [ce_int hTk ht ht2, va_up_self]; rfl
    · unfold ce fval
      rw [va_up_ne _ _ hwk]
  rw [hset] at hP hD
  exact ⟨hK, hP, hD, hT⟩
theorem w_iast (hd : decode md.2.1 pc = .ok (.iastore, 1)) (hi : i = nI q) (hN : N k = z) (hq : q < z) (K : WP sc d mc ms md (pc + 1) al st (va_up I k (va_up (I k) q x)) L R N n Q) (hz : z < 2147483648 := by decide) : WP sc d mc ms md pc al (vI x :: vI i :: vR 12 k :: st) I L R N n Q := by
  intro e ρ T n0 ρ0 T0 p l en Rm s m args below meth c H locs cells slots ls h
  have h' := h
  obtain ⟨⟨g1, g2, -⟩, -, -, h4, h5, ⟨hK, hP, hD, hT⟩, hS, -⟩ := h
  obtain ⟨hk, hTk⟩ : k < n ∧ T k = 12 := ok_hd (ok_tl (ok_tl h5))
  have he := wsl_get (cy := e.2.1) (ρ := ρ) (T := T) (I := I) (L := L) (R := R) (N := N) hk
  rw [ce_int hTk (by decide) (by decide)] at he
  subst hi
  refine va_iast (x := x) g1 g2 hK hP hD hS k 1 he (ty_at _).2.1 (by rw [hN]; exact vp_in_nI hq hz) hd (fun H1 locs1 hP1 hD1 hS1 => ?_)
  rw [nI_clamp (by omega)] at hP1 hD1
  exact K e ρ T n0 ρ0 T0 p l en Rm s m args below meth c H1 locs1 cells slots ls (h'.heap (hw_iast (by decide) (by decide) hk hTk hK hT hP1 hD1) hS1 (ok_tl (ok_tl (ok_tl h5))))
theorem w_zast (hd : decode md.2.1 pc = .ok (.bastore, 1)) (hi : i = nI q) (hN : N k = z) (hq : q < z) (hx : vp_nar .boolean x = x) (K : WP sc d mc ms md (pc + 1) al st (va_up I k (va_up (I k) q x)) L R N n Q) (hz : z < 2147483648 := by decide) : WP sc d mc ms md pc al (vI x :: vI i :: vR 13 k :: st) I L R N n Q := by
  intro e ρ T n0 ρ0 T0 p l en Rm s m args below meth c H locs cells slots ls h
  have h' := h
  obtain ⟨⟨g1, g2, -⟩, -, -, h4, h5, ⟨hK, hP, hD, hT⟩, hS, -⟩ := h
  obtain ⟨hk, hTk⟩ : k < n ∧ T k = 13 := ok_hd (ok_tl (ok_tl h5))
  have he := wsl_get (cy := e.2.1) (ρ := ρ) (T := T) (I := I) (L := L) (R := R) (N := N) hk
  rw [ce_int hTk (by decide) (by decide)] at he
  subst hi
  refine va_zast (x := x) g1 g2 hK hP hD hS k 2 he (ty_at _).2.2.1 (by rw [hN]; exact vp_in_nI hq hz) hd (fun H1 locs1 hP1 hD1 hS1 => ?_)
  rw [nI_clamp (by omega), hx] at hP1 hD1
  exact K e ρ T n0 ρ0 T0 p l en Rm s m args below meth c H1 locs1 cells slots ls (h'.heap (hw_iast (by decide) (by decide) hk hTk hK hT hP1 hD1) hS1 (ok_tl (ok_tl (ok_tl h5))))
theorem w_cast (hd : decode md.2.1 pc = .ok (.castore, 1)) (hi : i = nI q) (hN : N k = z) (hq : q < z) (hx : vp_nar .char x = x) (K : WP sc d mc ms md (pc + 1) al st (va_up I k (va_up (I k) q x)) L R N n Q) (hz : z < 2147483648 := by decide) : WP sc d mc ms md pc al (vI x :: vI i :: vR 11 k :: st) I L R N n Q := by
  intro e ρ T n0 ρ0 T0 p l en Rm s m args below meth c H locs cells slots ls h
  have h' := h
  obtain ⟨⟨g1, g2, -⟩, -, -, h4, h5, ⟨hK, hP, hD, hT⟩, hS, -⟩ := h
  obtain ⟨hk, hTk⟩ : k < n ∧ T k = 11 := ok_hd (ok_tl (ok_tl h5))
  have he := wsl_get (cy := e.2.1) (ρ := ρ) (T := T) (I := I) (L := L) (R := R) (N := N) hk
  rw [ce_int hTk (by decide) (by decide)] at he
  subst hi
  refine va_cast (x := x) g1 g2 hK hP hD hS k 0 he (ty_at _).1 (by rw [hN]; exact vp_in_nI hq hz) hd (fun H1 locs1 hP1 hD1 hS1 => ?_)
  rw [nI_clamp (by omega), hx] at hP1 hD1
  exact K e ρ T n0 ρ0 T0 p l en Rm s m args below meth c H1 locs1 cells slots ls (h'.heap (hw_iast (by decide) (by decide) hk hTk hK hT hP1 hD1) hS1 (ok_tl (ok_tl (ok_tl h5))))
theorem ok_el {T : HN} {t : Nat} (hT : WT T R n) (hk : k < n) (hTk : T k = t) (ht : 14 ≤ t) : okv T n (rv (et t) (R k q)) := by
  cases hr : R k q with
  | none => exact trivial
  | some a =>
    obtain ⟨-, h1⟩ := hT k hk q a hr
    rw [hTk] at h1
    exact h1 ht
theorem w_aaldQ {t : Nat} (hd : decode md.2.1 pc = .ok (.aaload, 1)) (ht : 14 ≤ t) (ht2 : t < 18) (hi : i = nI q) (hN : N k = z) (hq : q < z) (K : WP sc d mc ms md (pc + 1) al (rv (et t) (R k q) :: st) I L R N n Q) (hz : z < 2147483648 := by decide) : WP sc d mc ms md pc al (vI i :: vR t k :: st) I L R N n Q := by
  intro e ρ T n0 ρ0 T0 p l en Rm s m args below meth c H locs cells slots ls h
  have h' := h
  obtain ⟨⟨g1, g2, -⟩, -, -, h4, h5, ⟨hK, hP, hD, hT⟩, -⟩ := h
  obtain ⟨hk, hTk⟩ : k < n ∧ T k = t := ok_hd (ok_tl h5)
  have he := wsl_get (cy := e.2.1) (ρ := ρ) (T := T) (I := I) (L := L) (R := R) (N := N) hk
  rw [ce_ref hTk ht, hN] at he
  subst hi
  refine va_aldq g1 g2 hK hP k (t - 11) he (ty_ref _ t ht ht2).1 (vp_in_nI hq hz) hd ?_
  rw [nI_clamp (by omega), ← cv_rv ρ e.2.2.1 (et t)]
  exact K e ρ T n0 ρ0 T0 p l en Rm s m args below meth c H locs cells slots ls (h'.stack (ok_cons (ok_el hT hk hTk ht) (ok_tl (ok_tl h5))))
theorem w_aaldI {a : Nat} (hd : decode md.2.1 pc = .ok (.aaload, 1)) (hi : i = nI q) (hN : N k = z) (hq : q < z) (hR : R k q = some a) (K : WP sc d mc ms md (pc + 1) al (vR 12 a :: st) I L R N n Q) (hz : z < 2147483648 := by decide) : WP sc d mc ms md pc al (vI i :: vR 18 k :: st) I L R N n Q := by
  intro e ρ T n0 ρ0 T0 p l en Rm s m args below meth c H locs cells slots ls h
  have h' := h
  obtain ⟨⟨g1, g2, -⟩, -, -, h4, h5, ⟨hK, hP, hD, hT⟩, -⟩ := h
  obtain ⟨hk, hTk⟩ : k < n ∧ T k = 18 := ok_hd (ok_tl h5)
  have he := wsl_get (cy := e.2.1) (ρ := ρ) (T := T) (I := I) (L := L) (R := R) (N := N) hk
  rw [ce_ref hTk (by decide), hN] at he
  subst hi
  have hin : vp_in (nI q) z := vp_in_nI hq hz
  have hlt : (nI q).toNatClampNeg < z := Nat.not_le.mp fun w => hin (Or.inr w)
  refine W.aald (v := va_rf ((R k q).map ρ)) (ty := .array .int) g1 g2 (hP k _ he) ((hK.2 7 _ (ty_at _).2.2.2).1 z (fun j => va_rf ((R k j).map ρ))) rfl (fun w => by cases w) (by show ¬ (nI q < 0 ∨ (arrV _ _ _).slots.size ≤ _); rw [arrV_size]; exact hin) (by show (arrV _ _ _).slots[_]? = _; rw [arrV_read _ _ hlt, nI_clamp (by omega)]) rfl rfl hd ?_
  have ho : okv T n (vR 12 a) := by
    have := ok_el (q := q) hT hk hTk (by decide)
    rw [hR] at this
    exact this
  rw [hR]
  exact K e ρ T n0 ρ0 T0 p l en Rm s m args below meth c H locs cells slots ls (h'.stack (ok_cons ho (ok_tl (ok_tl h5))))
theorem w_aald {t a : Nat} (hd : decode md.2.1 pc = .ok (.aaload, 1)) (ht : 14 ≤ t) (ht2 : t < 18) (hi : i = nI q) (hN : N k = z) (hq : q < z) (hR : R k q = some a) (K : WP sc d mc ms md (pc + 1) al (vR (et t) a :: st) I L R N n Q) (hz : z < 2147483648 := by decide) : WP sc d mc ms md pc al (vI i :: vR t k :: st) I L R N n Q :=
  w_aaldQ hd ht ht2 hi hN hq (by rw [hR]; exact K) hz
theorem hw_aast {e : EN} {ρ : Nat → Nat} {T : HN} {U : State} {H1 : Heap} {t : Nat} {r : Option Nat} (ht : 14 ≤ t) (hk : k < n) (hTk : T k = t) (hK : va_K e.1 vwCl (tysOf e.2.1) U) (hT : WT T (va_up R k (va_up (R k) q r)) n)
    (hP : va_P e.1 vwCl ((wsl e.2.1 ρ T I L R N n).set k (ρ k, .inl (e.2.1 t, N k, .inr (.inr (.inr (.inr (va_up (fun j => (R k j).map ρ) q (r.map ρ)))))))) H1) (hD : va_D (EA e) ((wsl e.2.1 ρ T I L R N n).set k (ρ k, .inl (e.2.1 t, N k, .inr (.inr (.inr (.inr (va_up (fun j => (R k j).map ρ) q (r.map ρ))))))))) : HW e ρ T I L (va_up R k (va_up (R k) q r)) N n U H1 := by
  have hset : (wsl e.2.1 ρ T I L R N n).set k (ρ k, .inl (e.2.1 t, N k, .inr (.inr (.inr (.inr (va_up (fun j => (R k j).map ρ) q (r.map ρ))))))) = wsl e.2.1 ρ T I L (va_up R k (va_up (R k) q r)) N n := by
    refine wsl_upd hk ?_ (fun w hw hwk => ?_)
    · rw [ce_ref hTk ht, va_up_self]
      congr 7
      funext j
      by_cases hj : j = q <;> simp [va_up, hj]
    · unfold ce fval
      rw [va_up_ne _ _ hwk]
  rw [hset] at hP hD
  exact ⟨hK, hP, hD, hT⟩
theorem w_aast {t : Nat} {r : Option Nat} (hd : decode md.2.1 pc = .ok (.aastore, 1)) (ht : 14 ≤ t) (ht2 : t < 18) (hi : i = nI q) (hN : N k = z) (hq : q < z) (K : WP sc d mc ms md (pc + 1) al st I L (va_up R k (va_up (R k) q r)) N n Q) (hz : z < 2147483648 := by decide) : WP sc d mc ms md pc al (rv (et t) r :: vI i :: vR t k :: st) I L R N n Q := by
  intro e ρ T n0 ρ0 T0 p l en Rm s m args below meth c H locs cells slots ls h
  have h' := h
  obtain ⟨⟨g1, g2, -⟩, -, -, h4, h5, ⟨hK, hP, hD, hT⟩, hS, -⟩ := h
  obtain ⟨hk, hTk⟩ : k < n ∧ T k = t := ok_hd (ok_tl (ok_tl h5))
  have he := wsl_get (cy := e.2.1) (ρ := ρ) (T := T) (I := I) (L := L) (R := R) (N := N) hk
  rw [ce_ref hTk ht] at he
  subst hi
  have hin : vp_in (nI q) (N k) := by rw [hN]; exact vp_in_nI hq hz
  cases r with
  | none =>
    refine va_astqN g1 g2 hK hP hD hS k (t - 11) he (ty_ref _ t ht ht2).1 hin hd (fun H1 locs1 hP1 hD1 hS1 => ?_)
    rw [nI_clamp (by omega)] at hP1 hD1
    exact K e ρ T n0 ρ0 T0 p l en Rm s m args below meth c H1 locs1 cells slots ls (h'.heap (hw_aast (r := none) ht hk hTk hK (wt_upN hT) hP1 hD1) hS1 (ok_tl (ok_tl (ok_tl h5))))
  | some a =>
    obtain ⟨ha, hTa⟩ : a < n ∧ T a = et t := ok_hd h5
    have hea := wsl_get (cy := e.2.1) (ρ := ρ) (T := T) (I := I) (L := L) (R := R) (N := N) ha
    rw [ce_obj hTa (ty_ref e.2.1 t ht ht2).2] at hea
    obtain ⟨c1, -⟩ := cl_ok _ (ty_ref e.2.1 t ht ht2).2
    refine va_astq (v := ρ a) g1 g2 hK hP hD hS k (t - 11) a (et t) he (ty_ref _ t ht ht2).1 hea c1 hin hd (fun H1 locs1 hP1 hD1 hS1 => ?_)
    rw [nI_clamp (by omega)] at hP1 hD1
    exact K e ρ T n0 ρ0 T0 p l en Rm s m args below meth c H1 locs1 cells slots ls (h'.heap (hw_aast (r := some a) ht hk hTk hK (wt_up hT (Or.inr (by omega)) (Or.inr (by rw [hTk])) ⟨ha, hTa⟩) hP1 hD1) hS1 (ok_tl (ok_tl (ok_tl h5))))
theorem w_alen {t : Nat} (hd : decode md.2.1 pc = .ok (.arraylength, 1)) (ht : 11 ≤ t) (ht2 : t < 19) (hN : N k = z) (K : WP sc d mc ms md (pc + 1) al (vI (nI z) :: st) I L R N n Q) : WP sc d mc ms md pc al (vR t k :: st) I L R N n Q := by
  intro e ρ T n0 ρ0 T0 p l en Rm s m args below meth c H locs cells slots ls h
  have h' := h
  obtain ⟨⟨g1, g2, -⟩, -, -, h4, h5, ⟨hK, hP, hD, hT⟩, -⟩ := h
  obtain ⟨hk, hTk⟩ : k < n ∧ T k = t := ok_hd h5
  have he := wsl_get (cy := e.2.1) (ρ := ρ) (T := T) (I := I) (L := L) (R := R) (N := N) hk
  obtain ⟨ty, hty⟩ := ty_any e.2.1 t ht ht2
  have kk := K e ρ T n0 ρ0 T0 p l en Rm s m args below meth c H locs cells slots ls (h'.stack (ok_i (ok_tl h5)))
  by_cases h14 : t < 14
  · rw [ce_int hTk ht h14] at he
    exact va_alen g1 g2 hK hP k (t - 11) he hty (v := nI z) (by rw [← hN]; rfl) hd kk
  · rw [ce_ref hTk (by omega)] at he
    exact va_alen g1 g2 hK hP k (t - 11) he hty (v := nI z) (by rw [← hN]; rfl) hd kk
-- the constant arrays, the script, the texts
theorem w_sald {j : Nat} (hd : decode md.2.1 pc = .ok (.iaload, 1)) (hj : j < 5) (hi : i = nI q) (hN : svN sc j = z) (hq : q < z) (K : WP sc d mc ms md (pc + 1) al (vI (svI sc j q) :: st) I L R N n Q) (hz : z < 2147483648 := by decide) : WP sc d mc ms md pc al (vI i :: vS j :: st) I L R N n Q := by
  subst hi
  refine w_go (fun _ _ _ h => ok_i (ok_tl (ok_tl h))) (fun e _ _ _ _ _ _ _ _ _ _ _ _ _ _ _ _ _ g1 g2 _ _ _ g8 g7 kk => va_ti g1 g2 (g8.1 j hj) g7 (by rw [hN]; exact vp_in_nI hq hz) (by rw [nI_clamp (by omega)]; rfl) hd kk) K
theorem w_slen {j : Nat} (hd : decode md.2.1 pc = .ok (.arraylength, 1)) (hj : j < 5) (K : WP sc d mc ms md (pc + 1) al (vI (nI (svN sc j)) :: st) I L R N n Q) : WP sc d mc ms md pc al (vS j :: st) I L R N n Q :=
  w_go (fun _ _ _ h => ok_i (ok_tl h)) (fun e _ _ _ _ _ _ _ _ _ _ _ _ _ _ _ _ _ g1 g2 _ _ _ g8 g7 kk => va_tlen g1 g2 (g8.1 j hj) g7 rfl hd kk) K
theorem w_bald {j : Nat} (hd : decode md.2.1 pc = .ok (.baload, 1)) (hj : j < 6) (hi : i = nI q) (hN : stN.getD j 0 = z) (hq : q < z) (K : WP sc d mc ms md (pc + 1) al (vI ((stB.getD j []).getD q 0) :: st) I L R N n Q) (hz : z < 2147483648 := by decide) : WP sc d mc ms md pc al (vI i :: vS (11 + j) :: st) I L R N n Q := by
  subst hi
  refine w_go (fun _ _ _ h => ok_i (ok_tl (ok_tl h))) (fun e _ _ _ _ _ _ _ _ _ _ _ _ _ _ _ _ _ g1 g2 _ _ _ g8 g7 kk => va_tb g1 g2 (g8.2.2.2.2.2.2.2.1.1 j hj).2.2.2 g7 (by rw [hN]; exact vp_in_nI hq hz) (by rw [nI_clamp (by omega)]; rfl) hd kk) K
theorem w_blen {j : Nat} (hd : decode md.2.1 pc = .ok (.arraylength, 1)) (hj : j < 6) (hN : stN.getD j 0 = z) (K : WP sc d mc ms md (pc + 1) al (vI (nI z) :: st) I L R N n Q) : WP sc d mc ms md pc al (vS (11 + j) :: st) I L R N n Q :=
  w_go (fun _ _ _ h => ok_i (ok_tl h)) (fun e _ _ _ _ _ _ _ _ _ _ _ _ _ _ _ _ _ g1 g2 _ _ _ g8 g7 kk => va_tlen g1 g2 (g8.2.2.2.2.2.2.2.1.1 j hj).2.2.2 g7 (by rw [← hN]; rfl) hd kk) K
theorem w_sval {j idx : Nat} (hd : decode md.2.1 pc = .ok (.getfield idx, 3)) (hw : Cond.fieldLink md.1.cls idx "java/lang/String" "value" "[B" ∈ gw) (hj : j < 6) (K : WP sc d mc ms md (pc + 3) al (vS (11 + j) :: st) I L R N n Q) : WP sc d mc ms md pc al (vS (5 + j) :: st) I L R N n Q :=
  w_go (fun _ _ _ h => ok_cons (a := vS (11 + j)) (show 11 + j < 18 by omega) (ok_tl h)) (fun e _ _ _ _ _ _ _ _ _ _ _ _ _ _ _ _ _ g1 g2 g5 g6 _ g8 g7 kk => vk_getf g1 g2 (g8.2.2.2.2.2.2.2.1.1 j hj).2.2.1 g7 g5 (g6 _ hw) (fun _ h => h) hd kk) K
theorem w_scod {j idx : Nat} (hd : decode md.2.1 pc = .ok (.getfield idx, 3)) (hw : Cond.fieldLink md.1.cls idx "java/lang/String" "coder" "B" ∈ gw) (hj : j < 6) (K : WP sc d mc ms md (pc + 3) al (vI 0 :: st) I L R N n Q) : WP sc d mc ms md pc al (vS (5 + j) :: st) I L R N n Q :=
  w_go (fun _ _ _ h => ok_i (ok_tl h)) (fun e _ _ _ _ _ _ _ _ _ _ _ _ _ _ _ _ _ g1 g2 g5 g6 _ g8 g7 kk => vk_getf g1 g2 (g8.2.2.2.2.2.2.2.1.1 j hj).2.1 g7 g5 (g6 _ hw) (fun _ h => h) hd kk) K
theorem w_gets0 {idx : Nat} (hd : decode md.2.1 pc = .ok (.getstatic idx, 3)) (hw : Cond.fieldLink md.1.cls idx "FineSlot" "MOST_OF_SORT" "[I" ∈ gw) (K : WP sc d mc ms md (pc + 3) al (vS 0 :: st) I L R N n Q) : WP sc d mc ms md pc al st I L R N n Q :=
  w_go (fun _ _ _ h => ok_cons (a := vS 0) (show 0 < 18 by decide) h) (fun e _ _ _ _ _ _ _ _ _ _ _ _ _ _ _ _ _ g1 g2 g5 g6 _ g8 g7 kk => va_gets g1 g2 g8.2.1 g7 g5 (g6 _ hw) (fun _ h => h) hd kk) K
theorem w_gets1 {idx : Nat} (hd : decode md.2.1 pc = .ok (.getstatic idx, 3)) (hw : Cond.fieldLink md.1.cls idx "FineSlot" "LEAST_OF_RULE" "[I" ∈ gw) (K : WP sc d mc ms md (pc + 3) al (vS 1 :: st) I L R N n Q) : WP sc d mc ms md pc al st I L R N n Q :=
  w_go (fun _ _ _ h => ok_cons (a := vS 1) (show 1 < 18 by decide) h) (fun e _ _ _ _ _ _ _ _ _ _ _ _ _ _ _ _ _ g1 g2 g5 g6 _ g8 g7 kk => va_gets g1 g2 g8.2.2.1 g7 g5 (g6 _ hw) (fun _ h => h) hd kk) K
theorem w_gets2 {idx : Nat} (hd : decode md.2.1 pc = .ok (.getstatic idx, 3)) (hw : Cond.fieldLink md.1.cls idx "FineSlot" "MOST_OF_RULE" "[I" ∈ gw) (K : WP sc d mc ms md (pc + 3) al (vS 2 :: st) I L R N n Q) : WP sc d mc ms md pc al st I L R N n Q :=
  w_go (fun _ _ _ h => ok_cons (a := vS 2) (show 2 < 18 by decide) h) (fun e _ _ _ _ _ _ _ _ _ _ _ _ _ _ _ _ _ g1 g2 g5 g6 _ g8 g7 kk => va_gets g1 g2 g8.2.2.2.1 g7 g5 (g6 _ hw) (fun _ h => h) hd kk) K
theorem w_gets3 {idx : Nat} (hd : decode md.2.1 pc = .ok (.getstatic idx, 3)) (hw : Cond.fieldLink md.1.cls idx "FineSlot" "KIND_ABOVE" "[I" ∈ gw) (K : WP sc d mc ms md (pc + 3) al (vS 3 :: st) I L R N n Q) : WP sc d mc ms md pc al st I L R N n Q :=
  w_go (fun _ _ _ h => ok_cons (a := vS 3) (show 3 < 18 by decide) h) (fun e _ _ _ _ _ _ _ _ _ _ _ _ _ _ _ _ _ g1 g2 g5 g6 _ g8 g7 kk => va_gets g1 g2 g8.2.2.2.2.1 g7 g5 (g6 _ hw) (fun _ h => h) hd kk) K
theorem w_getsC {idx : Nat} (hd : decode md.2.1 pc = .ok (.getstatic idx, 3)) (hw : Cond.fieldLink md.1.cls idx "java/lang/String" "COMPACT_STRINGS" "Z" ∈ gw) (K : WP sc d mc ms md (pc + 3) al (vI 1 :: st) I L R N n Q) : WP sc d mc ms md pc al st I L R N n Q :=
  w_go (fun _ _ _ h => ok_i h) (fun e _ _ _ _ _ _ _ _ _ _ _ _ _ _ _ _ _ g1 g2 g5 g6 _ g8 g7 kk => va_gets g1 g2 g8.2.2.2.2.2.1 g7 g5 (g6 _ hw) (fun _ h => h) hd kk) K
theorem w_getsF {idx : Nat} (hd : decode md.2.1 pc = .ok (.getstatic idx, 3)) (hw : Cond.fieldLink md.1.cls idx "jdk/internal/util/Preconditions" "SIOOBE_FORMATTER" "Ljava/util/function/BiFunction;" ∈ gw) (K : ∀ v : AV, v = vN ∨ v = vS 17 → WP sc d mc ms md (pc + 3) al (v :: st) I L R N n Q) : WP sc d mc ms md pc al st I L R N n Q := by
  intro e ρ T n0 ρ0 T0 p l en Rm s m args below meth c H locs cells slots ls h
  have h' := h
  obtain ⟨⟨g1, g2, -, -, g5, g6, -⟩, -, -, h4, h5, -, g7, g8, -⟩ := h
  rcases g8.2.2.2.2.2.2.1 with hz | hz
  · exact va_gets g1 g2 hz g7 g5 (g6 _ hw) (fun _ h => h) hd (K vN (Or.inl rfl) e ρ T n0 ρ0 T0 p l en Rm s m args below meth c H locs cells slots ls (h'.stack (ok_n h5)))
  · exact va_gets g1 g2 hz g7 g5 (g6 _ hw) (fun _ h => h) hd (K (vS 17) (Or.inr rfl) e ρ T n0 ρ0 T0 p l en Rm s m args below meth c H locs cells slots ls (h'.stack (ok_cons (a := vS 17) (show 17 < 18 by decide) h5)))
end
end
section
/-! Ends, entries, calls. -/
section
variable {sc : SC} {d mc ms : Nat} {md : MD} {pc : Nat} {al st : List AV} {I : HI} {L : HL} {R : HR} {N : HN} {n : Nat} {Q : HQ}
theorem w_ireturn {x : Int32} {ty : FieldType} (hd : decode md.2.1 pc = .ok (.ireturn, 1)) (hr : md.2.2.2 = some ty) (hn : narrow ty (.int x) = .int x) (hq : Q (vI x) I L R N n) : WP sc d mc ms md pc al [vI x] I L R N n Q := by
  intro e ρ T n0 ρ0 T0 p l en Rm s m args below meth c H locs cells slots ls h
  obtain ⟨⟨g1, g2, g3, g4, g5, g6, g7, g9⟩, ⟨-, -, r3, r4⟩, -, h4, h5, ⟨hK, hP, hD, hT⟩, hS, -, -, hE⟩ := h
  refine W.widen (k := Rm.cells) (n := Rm.slots) (by omega) (by omega) ?_
  have hu : (vI x : AV) = vU ↔ md.2.2.2 = none := ⟨fun q => (by cases q), fun q => (by rw [hr] at q; cases q)⟩
  exact W.zret g1 g2 (g3.trans hr) hn (fun t ht hW => ⟨vI x, I, L, R, N, n, ρ, T, rfl, hu, trivial, hq, ⟨hK.moved hW.alike, by rw [ht]; exact hP, hD, hT⟩, hE, hS.F ht⟩) hS.2.2 hd
theorem w_lreturn {x : Int64} (hd : decode md.2.1 pc = .ok (.lreturn, 1)) (hr : md.2.2.2 = some .long) (hq : Q (vL x) I L R N n) : WP sc d mc ms md pc al [vL x] I L R N n Q := by
  intro e ρ T n0 ρ0 T0 p l en Rm s m args below meth c H locs cells slots ls h
  obtain ⟨⟨g1, g2, g3, g4, g5, g6, g7, g9⟩, ⟨-, -, r3, r4⟩, -, h4, h5, ⟨hK, hP, hD, hT⟩, hS, -, -, hE⟩ := h
  refine W.widen (k := Rm.cells) (n := Rm.slots) (by omega) (by omega) ?_
  have hu : (vL x : AV) = vU ↔ md.2.2.2 = none := ⟨fun q => (by cases q), fun q => (by rw [hr] at q; cases q)⟩
  exact W.lret g1 g2 (g3.trans hr) (fun t ht hW => ⟨vL x, I, L, R, N, n, ρ, T, rfl, hu, trivial, hq, ⟨hK.moved hW.alike, by rw [ht]; exact hP, hD, hT⟩, hE, hS.F ht⟩) hS.2.2 hd
theorem w_return (hd : decode md.2.1 pc = .ok (.return_, 1)) (hr : md.2.2.2 = none) (hq : Q vU I L R N n) : WP sc d mc ms md pc al [] I L R N n Q := by
  intro e ρ T n0 ρ0 T0 p l en Rm s m args below meth c H locs cells slots ls h
  obtain ⟨⟨g1, g2, g3, g4, g5, g6, g7, g9⟩, ⟨-, -, r3, r4⟩, -, h4, h5, ⟨hK, hP, hD, hT⟩, hS, -, -, hE⟩ := h
  refine W.widen (k := Rm.cells) (n := Rm.slots) (by omega) (by omega) ?_
  exact W.vret g1 g2 (g3.trans hr) (fun t ht hW => ⟨vU, I, L, R, N, n, ρ, T, rfl, ⟨fun _ => hr, fun _ => rfl⟩, trivial, hq, ⟨hK.moved hW.alike, by rw [ht]; exact hP, hD, hT⟩, hE, hS.F ht⟩) hS.2.2 hd
def isRef : AV → Bool
  | .inr (.inr (.inl _)) => true
  | .inr (.inr (.inr (.inl _))) => true
  | .inr (.inr (.inr (.inr false))) => true
  | _ => false
theorem w_areturn {v : AV} {ty : FieldType} (hd : decode md.2.1 pc = .ok (.areturn, 1)) (hr : md.2.2.2 = some ty) (hty : isRefTy ty = true) (hv : isRef v = true) (hq : Q v I L R N n) : WP sc d mc ms md pc al [v] I L R N n Q := by
  intro e ρ T n0 ρ0 T0 p l en Rm s m args below meth c H locs cells slots ls h
  obtain ⟨⟨g1, g2, g3, g4, g5, g6, g7, g9⟩, ⟨-, -, r3, r4⟩, -, h4, h5, ⟨hK, hP, hD, hT⟩, hS, -, -, hE⟩ := h
  refine W.widen (k := Rm.cells) (n := Rm.slots) (by omega) (by omega) ?_
  have hrt : (∃ q, ty = .object q) ∨ ∃ q, ty = .array q := by
    revert hty; cases ty <;> simp [isRefTy]
  have hvv : cv ρ e.2.2.1 v = .null ∨ ∃ a, cv ρ e.2.2.1 v = .ref a := by
    rcases v with x | x | q | q | b
    · cases hv
    · cases hv
    · exact Or.inr ⟨_, rfl⟩
    · exact Or.inr ⟨_, rfl⟩
    · exact Or.inl rfl
  have hu : v ≠ vU := fun q => by rw [q] at hv; cases hv
  have hO : rvO ρ e.2.2.1 v = some (cv ρ e.2.2.1 v) := by
    rcases v with x | x | q | q | b
    · rfl
    · rfl
    · rfl
    · rfl
    · cases b
      · rfl
      · exact absurd rfl hu
  exact W.aret g1 g2 (g3.trans hr) hrt hvv (fun t ht hW => ⟨v, I, L, R, N, n, ρ, T, by rw [hO], ⟨fun q => absurd q hu, fun q => (by rw [hr] at q; cases q)⟩, ok_hd h5, hq, ⟨hK.moved hW.alike, by rw [ht]; exact hP, hD, hT⟩, hE, hS.F ht⟩) hS.2.2 hd
end
def spr : List AV → List AV
  | [] => []
  | .inr (.inl x) :: l => vL x :: vU :: spr l
  | .inl x :: l => vI x :: spr l
  | .inr (.inr q) :: l => .inr (.inr q) :: spr l
def ent (as : List AV) (m : Nat) : List AV := spr as ++ List.replicate (m - (spr as).length) vU
theorem spr_at (ρ σ : Nat → Nat) : ∀ (as : List AV), (spr as).length = (lg_sl (as.map (cv ρ σ))).length ∧ ∀ (i : Nat) (v : AV), (spr as)[i]? = some v → v ≠ vU → (lg_sl (as.map (cv ρ σ)))[i]? = some (.val (cv ρ σ v))
  | [] => ⟨rfl, fun i v h => by simp [spr] at h⟩
  | .inr (.inl x) :: l => by
    obtain ⟨h1, h2⟩ := spr_at ρ σ l
    have e : lg_sl ((Sum.inr (Sum.inl x) :: l : List AV).map (cv ρ σ)) = .val (.long x) :: .second :: lg_sl (l.map (cv ρ σ)) := rfl
    rw [e]
    refine ⟨by simp [spr, h1], fun i v h hv => ?_⟩
    match i with
    | 0 => cases h; rfl
    | 1 => cases h; exact absurd rfl hv
    | i + 2 => exact h2 i v h hv
  | .inl x :: l => by
    obtain ⟨h1, h2⟩ := spr_at ρ σ l
    have e : lg_sl ((Sum.inl x :: l : List AV).map (cv ρ σ)) = .val (.int x) :: lg_sl (l.map (cv ρ σ)) := rfl
    rw [e]
    refine ⟨by simp [spr, h1], fun i v h hv => ?_⟩
    match i with
    | 0 => cases h; rfl
    | i + 1 => exact h2 i v h hv
  | .inr (.inr q) :: l => by
    obtain ⟨h1, h2⟩ := spr_at ρ σ l
    have e : lg_sl ((Sum.inr (Sum.inr q) :: l : List AV).map (cv ρ σ)) = .val (cv ρ σ (.inr (.inr q))) :: lg_sl (l.map (cv ρ σ)) := by
      rcases q with a | a | a <;> rfl
    rw [e]
    refine ⟨by simp [spr, h1], fun i v h hv => ?_⟩
    match i with
    | 0 => cases h; rfl
    | i + 1 => exact h2 i v h hv
theorem spr_ok {T : HN} {n : Nat} : ∀ (as : List AV), (∀ v ∈ as, okv T n v) → ∀ v ∈ spr as, okv T n v
  | [], _ => fun v h => absurd h List.not_mem_nil
  | .inr (.inl x) :: l, h => ok_cons (a := vL x) trivial (ok_cons (a := vU) trivial (spr_ok l (ok_tl h)))
  | .inl x :: l, h => ok_cons (a := vI x) trivial (spr_ok l (ok_tl h))
  | .inr (.inr q) :: l, h => ok_cons (ok_hd h) (spr_ok l (ok_tl h))
theorem ent_ok {T : HN} {n m : Nat} {as : List AV} (h : ∀ v ∈ as, okv T n v) : ∀ v ∈ ent as m, okv T n v := fun v hv => by
  rcases List.mem_append.mp hv with q | q
  · exact spr_ok as h v q
  · rw [(List.mem_replicate.mp q).2]; exact trivial
theorem ent_len {m : Nat} {as : List AV} (h : (spr as).length ≤ m) : (ent as m).length = m := by simp [ent]; omega
theorem ent_lr (ρ σ : Nat → Nat) {m : Nat} {as : List AV} (h : (spr as).length ≤ m) : Lr ρ σ (ent as m) ((lg_sl (as.map (cv ρ σ)) ++ List.replicate (m - (lg_sl (as.map (cv ρ σ))).length) Slot.unset).toArray) := by
  obtain ⟨h1, h2⟩ := spr_at ρ σ as
  have he := lv_entry (as.map (cv ρ σ)) (n := m) (by omega)
  refine ⟨by rw [ent_len h]; exact he.1, he.2.1, fun i v hi hv => ?_⟩
  unfold ent at hi
  by_cases hl : i < (spr as).length
  · rw [List.getElem?_append_left hl] at hi
    rw [List.getElem?_toArray, List.getElem?_append_left (by omega)]
    exact h2 i v hi hv
  · rw [List.getElem?_append_right (by omega)] at hi
    have := (List.mem_replicate.mp (List.mem_of_getElem? hi)).2
    exact absurd this hv
theorem va_AI.spec {s : State} (h : va_AI s) : ∃ comp c k, s.vm.findClass (FieldType.array .int).toString = some comp ∧ (s.vm.classes.findIdx? fun (x : Class) => match x.kind with | .array component _ => component == comp | _ => false) = some c ∧ s.vm.classes[c]? = some k ∧ k.kind = .array comp (.array .int) ∧ s.vm.findClass ("[" ++ (FieldType.array .int).toString) = some c := by
  unfold va_AI Cond.before at h
  simp only [Cond.holds, Cond.value, beq_iff_eq] at h
  cases hc : s.vm.findClass (FieldType.array .int).toString with
  | none => simp [hc] at h
  | some comp =>
    simp only [hc, Option.bind_some, Option.bind_eq_some_iff, Option.map_eq_some_iff] at h
    obtain ⟨c, hi, k, hk, hb⟩ := h
    obtain ⟨hlt, hp, -⟩ := Array.findIdx?_eq_some_iff_getElem.mp hi
    have hkk : s.vm.classes[c] = k := (Array.getElem?_eq_some_iff.mp hk).2
    rw [hkk] at hp
    cases hkind : k.kind with
    | array component ty =>
      rw [hkind] at hb hp
      simp at hb hp
      exact ⟨comp, c, k, rfl, hi, hk, by rw [hkind, hp, hb.1], hb.2⟩
    | _ => rw [hkind] at hb; simp at hb
theorem va_AI.moved {u U : State} (hvm : u.vm.Alike U.vm) (h : va_AI u) : va_AI U := by
  obtain ⟨comp, c, k, h1, h2, h3, h4, h5⟩ := h.spec
  obtain ⟨k', hk', he⟩ := hvm.2.2 _ _ h3
  have hi : (U.vm.classes.findIdx? fun (x : Class) => match x.kind with | .array component _ => component == comp | _ => false) = some c := by
    have hb : U.vm.bare = u.vm.bare := by first | exact hvm.bare_eq | exact hvm.bare_eq.symm
    have h3 := va_idx_bare u.vm comp
    have h4 := va_idx_bare U.vm comp
    rw [hb] at h4
    exact h4.symm.trans (h3.trans h2)
  have hkind : k'.kind = .array comp (.array .int) := by rw [he]; exact h4
  have f1 : U.vm.findClass (FieldType.array .int).toString = some comp := by rw [hvm.findClass]; exact h1
  have f2 : U.vm.findClass ("[" ++ (FieldType.array .int).toString) = some c := by rw [hvm.findClass]; exact h5
  unfold va_AI Cond.before Cond.holds
  simp only [Cond.value]
  rw [f1, Option.bind_some]
  refine (congrArg (fun o : Option Nat => (o.bind (fun c => (U.vm.classes[c]?).map fun (k : Class) => match k.kind with | .array _ ty => decide (ty = FieldType.array .int) && decide (U.vm.findClass ("[" ++ (FieldType.array .int).toString) = some c) | _ => false) == some true)) hi).trans ?_
  simp [hk', hkind, f2]
theorem SF.same {sc : SC} {e : EN} {u U : State} {H : Heap} (hv : U.vm = u.vm) (h : SF sc e u H) : SF sc e U H := by
  have ha : u.vm.Alike U.vm := by rw [hv]; exact Vm.Alike.refl _
  obtain ⟨h1, h2, h3, h4, h5, h6, h7, h8, h9, h10, h11, h12⟩ := h
  exact ⟨fun j hj => (h1 j hj).moved ha, h2.moved ha, h3.moved ha, h4.moved ha, h5.moved ha, h6.moved ha, h7.imp (fun q => q.moved ha) (fun q => q.moved ha), h8.moved ha, fun i hi => (h9 i hi).same hv, fun q hq => va_Nw.same rfl hv.symm (h10 q hq), fun C hC => (h11 C hC).moved ha, va_AI.moved ha h12⟩
theorem SF.warm {sc : SC} {e : EN} {s U : State} {H : Heap} (hW : s.WarmedH U.vm) (h : SF sc e s H) : SF sc e U H := by
  have ha := hW.alike
  obtain ⟨h1, h2, h3, h4, h5, h6, h7, h8, h9, h10, h11, h12⟩ := h
  exact ⟨fun j hj => (h1 j hj).moved ha, h2.moved ha, h3.moved ha, h4.moved ha, h5.moved ha, h6.moved ha, h7.imp (fun q => q.moved ha) (fun q => q.moved ha), h8.moved ha, fun i hi => (h9 i hi).warm hW, fun q hq => va_Nw.warmM hW (h10 q hq), fun C hC => (h11 C hC).moved ha, va_AI.moved ha h12⟩
theorem SF.kept {sc : SC} {e : EN} {U : State} {H H1 : Heap} (h : SF sc e U H) (hq : ∀ a : Nat, a < H.size → ¬ EA e a → H1[a]? = H[a]?) : SF sc e U H1 := by
  obtain ⟨h1, h2, h3, h4, h5, h6, h7, h8, h9, h10, h11, h12⟩ := h
  exact ⟨fun j hj => (h1 j hj).kept hq, h2.kept hq, h3.kept hq, h4.kept hq, h5.kept hq, h6.kept hq, h7.imp (fun q => q.kept hq) (fun q => q.kept hq), h8.kept hq, h9, h10, h11, h12⟩
/-- what a method's world is at its start -/
def PB (sc : SC) (e : EN) (ρ : Nat → Nat) (T : HN) (I : HI) (L : HL) (R : HR) (N : HN) (n : Nat) : State → Prop := fun U => HW e ρ T I L R N n U U.heap ∧ SF sc e U U.heap ∧ e.2.2.2 ≤ U.heap.size
abbrev rmo (d mc ms : Nat) : Room := { frames := d, cells := mc, slots := ms, locals := 64 * d }
theorem WP.met {sc : SC} {d mc ms : Nat} {md : MD} {as : List AV} {I : HI} {L : HL} {R : HR} {N : HN} {n : Nat} {Q : HQ} (h : WP sc d mc ms md 0 (ent as md.2.2.1) [] I L R N n Q) (hp : plainName md.1.cls = true) (hlen : (spr as).length ≤ md.2.2.1) (l : Launch) (e : EN) (ρ : Nat → Nat) (T : HN) (hok : ∀ v ∈ as, okv T n v) :
    Met l md.1 (Cond.code md.1 md.2.1 md.2.2.1 md.2.2.2 :: gw) (rmo d mc ms) (va_Pc (as.map (cv ρ e.2.2.1)) (PB sc e ρ T I L R N n)) (QM md e n ρ T Q) mc ms (EA e) := by
  refine Met.ofW (cc := md.2.1) (maxL := md.2.2.1) (ret := md.2.2.2) hp rfl ?_
  intro p en s m args below meth c s₁ B hml hv
  obtain ⟨rfl, hw, hsf, hB⟩ := hv
  have hts := atoms_spec (ws := Cond.code md.1 md.2.1 md.2.2.1 md.2.2.2 :: gw) B.pre
  rw [lg_entry_eq]
  exact h e ρ T n ρ T p l en (rmo d mc ms) s m _ below meth c s.heap [] 0 0 _ ⟨⟨B.exec, B.bytes, B.returns, hml, findClass_of_methodNamed B.named, fun w hw => hts w (List.mem_cons_of_mem _ hw), B.notSynchronized, (name_of_methodNamed B.named B.method).1⟩, ⟨Nat.le_refl _, Nat.le_refl _, by show 0 + mc ≤ mc; omega, by show 0 + ms ≤ ms; omega⟩, ⟨ent_lr ρ e.2.2.1 hlen, ent_len hlen⟩, ent_ok hok, ok_nil, hw, va_S.rf, hsf, hB, ⟨Nat.le_refl _, fun _ _ => ⟨rfl, rfl⟩⟩⟩
theorem PB.blind {sc : SC} {e : EN} {ρ : Nat → Nat} {T : HN} {I : HI} {L : HL} {R : HR} {N : HN} {n : Nat} {as : List Value} : FrameBlind (va_Pc as (PB sc e ρ T I L R N n)) := by
  intro a U g mk q
  obtain ⟨q0, ⟨qK, qP, qD, qT⟩, qS, qB⟩ := q
  exact ⟨q0, ⟨va_K.moved (u := U) (U := U.calling g mk a) (Vm.Alike.refl U.vm) qK, qP, qD, qT⟩, SF.same (u := U) (U := U.calling g mk a) rfl qS, qB⟩
/-- what a call needs to know of the method that it calls -/
def MO (md : MD) (na : Nat) : Prop := Cond.code md.1 md.2.1 md.2.2.1 md.2.2.2 ∈ gw ∧ Cond.initialized md.1.cls ∈ gw ∧ (md.1.cls ≠ "java/lang/invoke/MethodHandle" ∧ md.1.cls ≠ "java/lang/invoke/VarHandle" ∧ (parseMethodDescriptor md.1.desc).map (fun d => d.parameters.length) = some na) ∧ plainName md.1.cls = true ∧ md.2.2.1 ≤ 45
def MV (md : MD) : Prop := Cond.instanceMethod md.1 ∈ gw ∧ Cond.selects md.1.cls md.1 md.1 ∈ gw
/-- the link of a call, by itself or by nest mates -/
def ML (own : String) (idx : Nat) (y : MethodName) : Prop := Cond.methodLink own idx y ∈ gw ∨ ∃ host, (own, idx, y, host) ∈ nestL
theorem good_tbl {md : MD} {na : Nat} (h : MO md na) : GoodIn gw (Cond.code md.1 md.2.1 md.2.2.1 md.2.2.2 :: gw) := fun w hw => by
  have hm : w ∈ gw := (List.mem_cons.mp hw).elim (fun q => q ▸ h.1) id
  exact ⟨hm, good_of_word (List.mem_filter.mp hm).2⟩
section
variable {sc : SC} {d d' mc ms mc' ms' : Nat} {md md' : MD} {pc : Nat} {al st rest as : List AV} {I : HI} {L : HL} {R : HR} {N : HN} {n : Nat} {Q Qc : HQ} {e : EN} {ρ : Nat → Nat} {T : HN} {n0 : Nat} {ρ0 : Nat → Nat} {T0 : HN} {p : Program} {l : Launch} {en : Env} {Rm : Room} {s : State} {m : MethodId} {args : Array Value} {below : List Frame} {meth : Method} {c : Code} {H : Heap} {locs : List Loc} {cells slots : Nat} {ls : Array Slot}
theorem cv_ex {n2 : Nat} {ρ2 : Nat → Nat} {T2 : HN} {v : AV} (σ : Nat → Nat) (hE : EX n ρ T n2 ρ2 T2) (hv : okv T n v) : cv ρ2 σ v = cv ρ σ v := by
  rcases v with x | x | q | q | b
  · rfl
  · rfl
  · exact congrArg Value.ref (hE.2 q.2 hv.1).1
  · rfl
  · rfl
theorem ok_ex {n2 : Nat} {ρ2 : Nat → Nat} {T2 : HN} {v : AV} (hE : EX n ρ T n2 ρ2 T2) (hv : okv T n v) : okv T2 n2 v := by
  rcases v with x | x | q | q | b
  · trivial
  · trivial
  · exact ⟨Nat.lt_of_lt_of_le hv.1 hE.1, ((hE.2 q.2 hv.1).2).trans hv.2⟩
  · exact hv
  · trivial
/-- behind a call -/
theorem run_W {a : Array Value} {Z : State → Prop} {st0 : List Value} (hr : va_Run p l en Rm s m args below meth c H locs cells slots mc' ms' (F0 m pc ls st0) (rest.map (cv ρ e.2.2.1)) (QM md' e n ρ T Qc a) (EA e)) (hS : va_S (EA e) s.heap H locs) (hK : va_K e.1 vwCl (tysOf e.2.1) s)
    (kk : ∀ (r : AV) (I : HI) (L : HL) (R : HR) (N : HN) (n2 : Nat) (ρ2 : Nat → Nat) (T2 : HN) (H2 : Heap) (locs2 : List Loc), (r = vU ↔ md'.2.2.2 = none) → okv T2 n2 r → Qc r I L R N n2 → HW e ρ2 T2 I L R N n2 s H2 → EX n ρ T n2 ρ2 T2 → va_S (EA e) s.heap H2 locs2 → W p l en Rm s m args below meth c H2 locs2 (cells + mc') (slots + ms') Z (F0 m (pc + 3) ls ((rvO ρ2 e.2.2.1 r).toList ++ rest.map (cv ρ e.2.2.1)))) : W p l en Rm s m args below meth c H locs cells slots Z (F0 m pc ls st0) := by
  intro T9 hT9 X
  obtain ⟨v, st₀, t, T', Lc, h0, X', hL, e1, e2, ⟨r, I2, L2, R2, N2, n2, ρ2, T2, hv, hru, hok, hq, ⟨hK2, hP2, hD2, hT2⟩, hE, hz, hk⟩, stp⟩ := hr T9 hT9 X
  cases hv
  rw [h0] at hz hk
  obtain ⟨t2, a1, b1⟩ := kk r I2 L2 R2 N2 n2 ρ2 T2 T'.heap (locs ++ Lc) hru hok hq ⟨hK, by rw [e1]; exact hP2, hD2, hT2⟩ hE
    ⟨Nat.le_trans hS.1 (by rw [e1]; exact hz), fun q h1 h2 => by rw [e1, hk q (Nat.lt_of_lt_of_le h1 hS.1) h2]; exact hS.2.1 q h1 h2, fun q hq => (List.mem_append.mp hq).elim (hS.2.2 q) (hL q)⟩ T' rfl X'
  exact ⟨t2, stp t2 a1, b1⟩
theorem CX.back {r : AV} {I2 : HI} {L2 : HL} {R2 : HR} {N2 : HN} {n2 : Nat} {ρ2 : Nat → Nat} {T2 : HN} {H2 : Heap} {locs2 : List Loc} {st2 : List AV} (h : CX sc d (mc + mc') (ms + ms') md al st I L R N n e ρ T n0 ρ0 T0 p Rm s m args meth c H locs cells slots ls) (hE : EX n ρ T n2 ρ2 T2) (hw : HW e ρ2 T2 I2 L2 R2 N2 n2 s H2) (hS : va_S (EA e) s.heap H2 locs2) (hv : ∀ v ∈ st2, okv T2 n2 v) :
    CX sc d mc ms md al st2 I2 L2 R2 N2 n2 e ρ2 T2 n0 ρ0 T0 p Rm s m args meth c H2 locs2 (cells + mc') (slots + ms') ls := by
  obtain ⟨h1, ⟨r1, r2, r3, r4⟩, ⟨⟨l1, l2, l3⟩, l4⟩, h4, h5, h6, h7, h8, h9, h10⟩ := h
  refine ⟨h1, ⟨r1, r2, by omega, by omega⟩, ⟨⟨l1, l2, fun i v hi hv => ?_⟩, l4⟩, fun v hv => ok_ex hE (h4 v hv), hv, hw, hS, h8, h9, ⟨Nat.le_trans h10.1 hE.1, fun k hk => ?_⟩⟩
  · rw [cv_ex _ hE (h4 v (List.mem_of_getElem? hi))]
    exact l3 i v hi hv
  · obtain ⟨a1, a2⟩ := h10.2 k hk
    obtain ⟨b1, b2⟩ := hE.2 k (Nat.lt_of_lt_of_le hk h10.1)
    exact ⟨b1.trans a1, b2.trans a2⟩
theorem map_ex {n2 : Nat} {ρ2 : Nat → Nat} {T2 : HN} (σ : Nat → Nat) (hE : EX n ρ T n2 ρ2 T2) (hv : ∀ v ∈ rest, okv T n v) : rest.map (cv ρ σ) = rest.map (cv ρ2 σ) := List.map_congr_left fun v h => (cv_ex σ hE (hv v h)).symm
/-- the callee's world at the call -/
theorem pre_call (h : CX sc d (mc + mc') (ms + ms') md al st I L R N n e ρ T n0 ρ0 T0 p Rm s m args meth c H locs cells slots ls) (vs : List Value) : PreS s H (va_Pc vs (PB sc e ρ T I L R N n)) vs := by
  obtain ⟨h1, h2, h3, h4, h5, ⟨hK, hP, hD, hT⟩, h7, h8, h9, h10⟩ := h
  refine ⟨PB.blind, fun U hU hW => ⟨rfl, ⟨va_K.moved hW.alike hK, by rw [hU]; exact hP, hD, hT⟩, ?_, ?_⟩⟩
  · rw [hU]
    exact (h8.kept h7.2.1).warm hW
  · rw [hU]
    exact Nat.le_trans h9 h7.1
theorem w_cont {Z : State → Prop} {st0 : List Value} {a : Array Value} (hret : ∃ ty, md'.2.2.2 = some ty) (h : CX sc d (mc + mc') (ms + ms') md al st I L R N n e ρ T n0 ρ0 T0 p Rm s m args meth c H locs cells slots ls) (hrest : ∀ v ∈ rest, okv T n v)
    (hr : va_Run p l en Rm s m args below meth c H locs cells slots mc' ms' (F0 m pc ls st0) (rest.map (cv ρ e.2.2.1)) (QM md' e n ρ T (fun r I L R N n => WP sc d mc ms md (pc + 3) al (r :: rest) I L R N n Q) a) (EA e)) :
    W p l en Rm s m args below meth c H locs cells slots (MQ below (QM md e n0 ρ0 T0 Q) args s Rm.cells Rm.slots (EA e)) (F0 m pc ls st0) := by
  have h' := h
  obtain ⟨h1, h2, h3, h4, h5, ⟨hK, hP, hD, hT⟩, h7, h8, h9, h10⟩ := h
  refine run_W hr h7 hK (fun r I2 L2 R2 N2 n2 ρ2 T2 H2 locs2 hu hok hq hw hE hS => ?_)
  obtain ⟨ty, hty⟩ := hret
  have hO : rvO ρ2 e.2.2.1 r = some (cv ρ2 e.2.2.1 r) := by
    rcases r with x | x | q | q | b
    · rfl
    · rfl
    · rfl
    · rfl
    · cases b
      · rfl
      · have := hu.mp rfl
        rw [hty] at this
        cases this
  rw [hO, map_ex _ hE hrest]
  exact hq e ρ2 T2 n0 ρ0 T0 p l en Rm s m args below meth c H2 locs2 (cells + mc') (slots + ms') ls (h'.back (r := r) hE hw hS (ok_cons hok (fun v hv => ok_ex hE (hrest v hv))))
theorem w_contV {Z : State → Prop} {st0 : List Value} {a : Array Value} (hret : md'.2.2.2 = none) (h : CX sc d (mc + mc') (ms + ms') md al st I L R N n e ρ T n0 ρ0 T0 p Rm s m args meth c H locs cells slots ls) (hrest : ∀ v ∈ rest, okv T n v)
    (hr : va_Run p l en Rm s m args below meth c H locs cells slots mc' ms' (F0 m pc ls st0) (rest.map (cv ρ e.2.2.1)) (QM md' e n ρ T (fun _ I L R N n => WP sc d mc ms md (pc + 3) al rest I L R N n Q) a) (EA e)) :
    W p l en Rm s m args below meth c H locs cells slots (MQ below (QM md e n0 ρ0 T0 Q) args s Rm.cells Rm.slots (EA e)) (F0 m pc ls st0) := by
  have h' := h
  obtain ⟨h1, h2, h3, h4, h5, ⟨hK, hP, hD, hT⟩, h7, h8, h9, h10⟩ := h
  refine run_W hr h7 hK (fun r I2 L2 R2 N2 n2 ρ2 T2 H2 locs2 hu hok hq hw hE hS => ?_)
  have hO : rvO ρ2 e.2.2.1 r = none := by rw [hu.mpr hret]; rfl
  rw [hO, map_ex _ hE hrest]
  exact hq e ρ2 T2 n0 ρ0 T0 p l en Rm s m args below meth c H2 locs2 (cells + mc') (slots + ms') ls (h'.back (r := r) hE hw hS (fun v hv => ok_ex hE (hrest v hv)))
end
end
section
/-! The rows of calls. -/
section
variable {sc : SC} {d d' mc ms mc' ms' : Nat} {md md' : MD} {pc : Nat} {al rest as : List AV} {I : HI} {L : HL} {R : HR} {N : HN} {n : Nat} {Q : HQ} {idx na t k : Nat} {ty : FieldType}
/-- invokevirtual, with an answer -/
theorem w_callV {st : List AV} (hd : decode md.2.1 pc = .ok (.invokevirtual idx, 3)) (hl : Cond.methodLink md.1.cls idx md'.1 ∈ gw) (ho : MO md' na) (hv : MV md') (ht : t < 11) (hc : (cT t).1 = md'.1.cls) (hr : md'.2.2.2 = some ty) (hst : st = as.reverse ++ vR t k :: rest) (hna : as.length = na) (hlen : (spr (vR t k :: as)).length ≤ md'.2.2.1) (hroom : (rest.map acat).sum ≤ 8) (hdp : d' + 1 ≤ d)
    (K : WP sc d' mc' ms' md' 0 (ent (vR t k :: as) md'.2.2.1) [] I L R N n (fun r I L R N n => WP sc d mc ms md (pc + 3) al (r :: rest) I L R N n Q)) : WP sc d (mc + mc') (ms + ms') md pc al st I L R N n Q := by
  intro e ρ T n0 ρ0 T0 p l en Rm s m args below meth c H locs cells slots ls h
  subst hst
  have h' := h
  obtain ⟨⟨g1, g2, g3, g4, g5, g6, g7, g9⟩, ⟨r1, r2, r3, r4⟩, ⟨h3, h3b⟩, h4, h5, ⟨hK, hP, hD, hT⟩, hS, h8, h9, h10⟩ := h
  have hrest : ∀ v ∈ rest, okv T n v := fun v hv => h5 v (List.mem_append_right _ (List.mem_cons_of_mem _ hv))
  have hok : ∀ v ∈ vR t k :: as, okv T n v := fun v hv => (List.mem_cons.mp hv).elim (fun q => h5 v (List.mem_append_right _ (q ▸ List.mem_cons_self))) (fun q => h5 v (List.mem_append_left _ (List.mem_reverse.mpr q)))
  obtain ⟨hk, hTk⟩ : k < n ∧ T k = t := ok_hd hok
  have he := wsl_get (cy := e.2.1) (ρ := ρ) (T := T) (I := I) (L := L) (R := R) (N := N) hk
  rw [ce_obj hTk ht] at he
  have hM := K.met ho.2.2.2.1 hlen l e ρ T hok
  have cw : CallW Rm s args md.1.cls md'.1.cls idx md'.1 md'.2.1 md'.2.2.1 md'.2.2.2 (Cond.code md'.1 md'.2.1 md'.2.2.1 md'.2.2.2 :: gw) (rmo d' mc' ms') mc' ms' na :=
    ⟨callB_of na g6 (good_tbl ho) rfl rfl rfl (g6 _ ho.2.1) (g6 _ hl) ho.2.2.1 ⟨Nat.le_trans hdp r1, by have := ho.2.2.2.2; show 8 + (md'.2.2.1 + 11) + 64 * d' ≤ Rm.locals; omega⟩, g6 _ hv.1, g6 _ hv.2⟩
  have hpre := pre_call h' ((vR t k :: as).map (cv ρ e.2.2.1))
  refine w_cont (rest := rest) (Z := fun _ => True) (md' := md') ⟨ty, hr⟩ h' hrest (va_runV (As := as.map (cv ρ e.2.2.1)) (b := ρ k) ⟨g1, g2, g4, g5, g6⟩ hM cw ⟨hpre.1, ?_, hpre.2⟩ rfl (by rw [List.length_map]; exact hna) (h3.1.trans h3b) ?_ ?_ hd ⟨by omega, by omega⟩)
  · have := va_recv hK hP (cl_ok t ht).1 he
    rw [hc] at this
    exact this
  · show List.map (cv ρ e.2.2.1) (as.reverse ++ vR t k :: rest) = _
    rw [List.map_append, List.map_reverse]
    rfl
  · exact lv_room (by rw [cv_sum]; exact hroom)
theorem w_callVv {st : List AV} (hd : decode md.2.1 pc = .ok (.invokevirtual idx, 3)) (hl : Cond.methodLink md.1.cls idx md'.1 ∈ gw) (ho : MO md' na) (hv : MV md') (ht : t < 11) (hc : (cT t).1 = md'.1.cls) (hr : md'.2.2.2 = none) (hst : st = as.reverse ++ vR t k :: rest) (hna : as.length = na) (hlen : (spr (vR t k :: as)).length ≤ md'.2.2.1) (hroom : (rest.map acat).sum ≤ 8) (hdp : d' + 1 ≤ d)
    (K : WP sc d' mc' ms' md' 0 (ent (vR t k :: as) md'.2.2.1) [] I L R N n (fun _ I L R N n => WP sc d mc ms md (pc + 3) al rest I L R N n Q)) : WP sc d (mc + mc') (ms + ms') md pc al st I L R N n Q := by
  intro e ρ T n0 ρ0 T0 p l en Rm s m args below meth c H locs cells slots ls h
  subst hst
  have h' := h
  obtain ⟨⟨g1, g2, g3, g4, g5, g6, g7, g9⟩, ⟨r1, r2, r3, r4⟩, ⟨h3, h3b⟩, h4, h5, ⟨hK, hP, hD, hT⟩, hS, h8, h9, h10⟩ := h
  have hrest : ∀ v ∈ rest, okv T n v := fun v hv => h5 v (List.mem_append_right _ (List.mem_cons_of_mem _ hv))
  have hok : ∀ v ∈ vR t k :: as, okv T n v := fun v hv => (List.mem_cons.mp hv).elim (fun q => h5 v (List.mem_append_right _ (q ▸ List.mem_cons_self))) (fun q => h5 v (List.mem_append_left _ (List.mem_reverse.mpr q)))
  obtain ⟨hk, hTk⟩ : k < n ∧ T k = t := ok_hd hok
  have he := wsl_get (cy := e.2.1) (ρ := ρ) (T := T) (I := I) (L := L) (R := R) (N := N) hk
  rw [ce_obj hTk ht] at he
  have hM := K.met ho.2.2.2.1 hlen l e ρ T hok
  have cw : CallW Rm s args md.1.cls md'.1.cls idx md'.1 md'.2.1 md'.2.2.1 md'.2.2.2 (Cond.code md'.1 md'.2.1 md'.2.2.1 md'.2.2.2 :: gw) (rmo d' mc' ms') mc' ms' na :=
    ⟨callB_of na g6 (good_tbl ho) rfl rfl rfl (g6 _ ho.2.1) (g6 _ hl) ho.2.2.1 ⟨Nat.le_trans hdp r1, by have := ho.2.2.2.2; show 8 + (md'.2.2.1 + 11) + 64 * d' ≤ Rm.locals; omega⟩, g6 _ hv.1, g6 _ hv.2⟩
  have hpre := pre_call h' ((vR t k :: as).map (cv ρ e.2.2.1))
  refine w_contV (rest := rest) (Z := fun _ => True) (md' := md') hr h' hrest (va_runV (As := as.map (cv ρ e.2.2.1)) (b := ρ k) ⟨g1, g2, g4, g5, g6⟩ hM cw ⟨hpre.1, ?_, hpre.2⟩ rfl (by rw [List.length_map]; exact hna) (h3.1.trans h3b) ?_ ?_ hd ⟨by omega, by omega⟩)
  · have := va_recv hK hP (cl_ok t ht).1 he
    rw [hc] at this
    exact this
  · show List.map (cv ρ e.2.2.1) (as.reverse ++ vR t k :: rest) = _
    rw [List.map_append, List.map_reverse]
    rfl
  · exact lv_room (by rw [cv_sum]; exact hroom)
/-- a method of a constant text -/
theorem w_callT {st : List AV} {j : Nat} (hd : decode md.2.1 pc = .ok (.invokevirtual idx, 3)) (hl : Cond.methodLink md.1.cls idx md'.1 ∈ gw) (ho : MO md' na) (hv : MV md') (hj : j < 6) (hc : md'.1.cls = "java/lang/String") (hr : md'.2.2.2 = some ty) (hst : st = as.reverse ++ vS (5 + j) :: rest) (hna : as.length = na) (hlen : (spr (vS (5 + j) :: as)).length ≤ md'.2.2.1) (hroom : (rest.map acat).sum ≤ 8) (hdp : d' + 1 ≤ d)
    (K : WP sc d' mc' ms' md' 0 (ent (vS (5 + j) :: as) md'.2.2.1) [] I L R N n (fun r I L R N n => WP sc d mc ms md (pc + 3) al (r :: rest) I L R N n Q)) : WP sc d (mc + mc') (ms + ms') md pc al st I L R N n Q := by
  intro e ρ T n0 ρ0 T0 p l en Rm s m args below meth c H locs cells slots ls h
  subst hst
  have h' := h
  obtain ⟨⟨g1, g2, g3, g4, g5, g6, g7, g9⟩, ⟨r1, r2, r3, r4⟩, ⟨h3, h3b⟩, h4, h5, ⟨hK, hP, hD, hT⟩, hS, h8, h9, h10⟩ := h
  have hrest : ∀ v ∈ rest, okv T n v := fun v hv => h5 v (List.mem_append_right _ (List.mem_cons_of_mem _ hv))
  have hok : ∀ v ∈ vS (5 + j) :: as, okv T n v := fun v hv => (List.mem_cons.mp hv).elim (fun q => h5 v (List.mem_append_right _ (q ▸ List.mem_cons_self))) (fun q => h5 v (List.mem_append_left _ (List.mem_reverse.mpr q)))
  have hM := K.met ho.2.2.2.1 hlen l e ρ T hok
  have cw : CallW Rm s args md.1.cls md'.1.cls idx md'.1 md'.2.1 md'.2.2.1 md'.2.2.2 (Cond.code md'.1 md'.2.1 md'.2.2.1 md'.2.2.2 :: gw) (rmo d' mc' ms') mc' ms' na :=
    ⟨callB_of na g6 (good_tbl ho) rfl rfl rfl (g6 _ ho.2.1) (g6 _ hl) ho.2.2.1 ⟨Nat.le_trans hdp r1, by have := ho.2.2.2.2; show 8 + (md'.2.2.1 + 11) + 64 * d' ≤ Rm.locals; omega⟩, g6 _ hv.1, g6 _ hv.2⟩
  have hpre := pre_call h' ((vS (5 + j) :: as).map (cv ρ e.2.2.1))
  refine w_cont (rest := rest) (Z := fun _ => True) (md' := md') ⟨ty, hr⟩ h' hrest (va_runV (As := as.map (cv ρ e.2.2.1)) (b := e.2.2.1 (5 + j)) ⟨g1, g2, g4, g5, g6⟩ hM cw ⟨hpre.1, ?_, hpre.2⟩ rfl (by rw [List.length_map]; exact hna) (h3.1.trans h3b) ?_ ?_ hd ⟨by omega, by omega⟩)
  · rw [hc]
    exact vk_recv (N := 6) (len := stN) (byt := stB) (adK := fun i => e.2.2.1 (5 + i)) (adV := fun i => e.2.2.1 (11 + i)) (i := j) h8.2.2.2.2.2.2.2.1 hj hS
  · show List.map (cv ρ e.2.2.1) (as.reverse ++ vS (5 + j) :: rest) = _
    rw [List.map_append, List.map_reverse]
    rfl
  · exact lv_room (by rw [cv_sum]; exact hroom)
/-- invokestatic -/
theorem w_callS {st : List AV} (hd : decode md.2.1 pc = .ok (.invokestatic idx, 3)) (hl : ML md.1.cls idx md'.1) (ho : MO md' na) (hv : Cond.static md'.1 ∈ gw) (hr : md'.2.2.2 = some ty) (hst : st = as.reverse ++ rest) (hna : as.length = na) (hlen : (spr as).length ≤ md'.2.2.1) (hroom : (rest.map acat).sum ≤ 8) (hdp : d' + 1 ≤ d)
    (K : WP sc d' mc' ms' md' 0 (ent as md'.2.2.1) [] I L R N n (fun r I L R N n => WP sc d mc ms md (pc + 3) al (r :: rest) I L R N n Q)) : WP sc d (mc + mc') (ms + ms') md pc al st I L R N n Q := by
  intro e ρ T n0 ρ0 T0 p l en Rm s m args below meth c H locs cells slots ls h
  subst hst
  have h' := h
  obtain ⟨⟨g1, g2, g3, g4, g5, g6, g7, g9⟩, ⟨r1, r2, r3, r4⟩, ⟨h3, h3b⟩, h4, h5, ⟨hK, hP, hD, hT⟩, hS, h8, h9, h10⟩ := h
  have hrest : ∀ v ∈ rest, okv T n v := fun v hv => h5 v (List.mem_append_right _ hv)
  have hok : ∀ v ∈ as, okv T n v := fun v hv => h5 v (List.mem_append_left _ (List.mem_reverse.mpr hv))
  have hM := K.met ho.2.2.2.1 hlen l e ρ T hok
  have hpre := pre_call h' (as.map (cv ρ e.2.2.1))
  have hroom' : (rmo d' mc' ms').frames + 1 ≤ Rm.frames ∧ 8 + (md'.2.2.1 + 11) + (rmo d' mc' ms').locals ≤ Rm.locals := ⟨Nat.le_trans hdp r1, by have := ho.2.2.2.2; show 8 + (md'.2.2.1 + 11) + 64 * d' ≤ Rm.locals; omega⟩
  have hstk : List.map (cv ρ e.2.2.1) (as.reverse ++ rest) = (as.map (cv ρ e.2.2.1)).reverse ++ rest.map (cv ρ e.2.2.1) := by rw [List.map_append, List.map_reverse]
  refine w_cont (rest := rest) (Z := fun _ => True) (md' := md') (a := (as.map (cv ρ e.2.2.1)).toArray) ⟨ty, hr⟩ h' hrest ?_
  rcases hl with hl | ⟨host, hl⟩
  · exact va_runS (As := as.map (cv ρ e.2.2.1)) ⟨g1, g2, g4, g5, g6⟩ hM ⟨callB_of na g6 (good_tbl ho) rfl rfl rfl (g6 _ ho.2.1) (g6 _ hl) ho.2.2.1 hroom', g6 _ hv⟩ hpre rfl (by rw [List.length_map]; exact hna) (h3.1.trans h3b) hstk (lv_room (by rw [cv_sum]; exact hroom)) hd ⟨by omega, by omega⟩
  · exact va_runSN (As := as.map (cv ρ e.2.2.1)) ⟨g1, g2, g4, g5, g6⟩ hM ⟨va_cnB na g6 (good_tbl ho) rfl rfl rfl (h8.2.2.2.2.2.2.2.2.2.1 _ hl) (g6 _ ho.2.1) ho.2.2.1 hroom', g6 _ hv, trivial⟩ hpre rfl (by rw [List.length_map]; exact hna) (h3.1.trans h3b) hstk (lv_room (by rw [cv_sum]; exact hroom)) hd ⟨by omega, by omega⟩
theorem w_callSv {st : List AV} (hd : decode md.2.1 pc = .ok (.invokestatic idx, 3)) (hl : ML md.1.cls idx md'.1) (ho : MO md' na) (hv : Cond.static md'.1 ∈ gw) (hr : md'.2.2.2 = none) (hst : st = as.reverse ++ rest) (hna : as.length = na) (hlen : (spr as).length ≤ md'.2.2.1) (hroom : (rest.map acat).sum ≤ 8) (hdp : d' + 1 ≤ d)
    (K : WP sc d' mc' ms' md' 0 (ent as md'.2.2.1) [] I L R N n (fun _ I L R N n => WP sc d mc ms md (pc + 3) al rest I L R N n Q)) : WP sc d (mc + mc') (ms + ms') md pc al st I L R N n Q := by
  intro e ρ T n0 ρ0 T0 p l en Rm s m args below meth c H locs cells slots ls h
  subst hst
  have h' := h
  obtain ⟨⟨g1, g2, g3, g4, g5, g6, g7, g9⟩, ⟨r1, r2, r3, r4⟩, ⟨h3, h3b⟩, h4, h5, ⟨hK, hP, hD, hT⟩, hS, h8, h9, h10⟩ := h
  have hrest : ∀ v ∈ rest, okv T n v := fun v hv => h5 v (List.mem_append_right _ hv)
  have hok : ∀ v ∈ as, okv T n v := fun v hv => h5 v (List.mem_append_left _ (List.mem_reverse.mpr hv))
  have hM := K.met ho.2.2.2.1 hlen l e ρ T hok
  have hpre := pre_call h' (as.map (cv ρ e.2.2.1))
  have hroom' : (rmo d' mc' ms').frames + 1 ≤ Rm.frames ∧ 8 + (md'.2.2.1 + 11) + (rmo d' mc' ms').locals ≤ Rm.locals := ⟨Nat.le_trans hdp r1, by have := ho.2.2.2.2; show 8 + (md'.2.2.1 + 11) + 64 * d' ≤ Rm.locals; omega⟩
  have hstk : List.map (cv ρ e.2.2.1) (as.reverse ++ rest) = (as.map (cv ρ e.2.2.1)).reverse ++ rest.map (cv ρ e.2.2.1) := by rw [List.map_append, List.map_reverse]
  refine w_contV (rest := rest) (Z := fun _ => True) (md' := md') (a := (as.map (cv ρ e.2.2.1)).toArray) hr h' hrest ?_
  rcases hl with hl | ⟨host, hl⟩
  · exact va_runS (As := as.map (cv ρ e.2.2.1)) ⟨g1, g2, g4, g5, g6⟩ hM ⟨callB_of na g6 (good_tbl ho) rfl rfl rfl (g6 _ ho.2.1) (g6 _ hl) ho.2.2.1 hroom', g6 _ hv⟩ hpre rfl (by rw [List.length_map]; exact hna) (h3.1.trans h3b) hstk (lv_room (by rw [cv_sum]; exact hroom)) hd ⟨by omega, by omega⟩
  · exact va_runSN (As := as.map (cv ρ e.2.2.1)) ⟨g1, g2, g4, g5, g6⟩ hM ⟨va_cnB na g6 (good_tbl ho) rfl rfl rfl (h8.2.2.2.2.2.2.2.2.2.1 _ hl) (g6 _ ho.2.1) ho.2.2.1 hroom', g6 _ hv, trivial⟩ hpre rfl (by rw [List.length_map]; exact hna) (h3.1.trans h3b) hstk (lv_room (by rw [cv_sum]; exact hroom)) hd ⟨by omega, by omega⟩
/-- invokespecial of a constructor -/
theorem w_callI {st : List AV} (hd : decode md.2.1 pc = .ok (.invokespecial idx, 3)) (hl : ML md.1.cls idx md'.1) (ho : MO md' na) (hv : Cond.instanceMethod md'.1 ∈ gw) (hnm : md'.1.name = "<init>") (hr : md'.2.2.2 = none) (hst : st = as.reverse ++ vR t k :: rest) (hna : as.length = na) (hlen : (spr (vR t k :: as)).length ≤ md'.2.2.1) (hroom : (rest.map acat).sum ≤ 8) (hdp : d' + 1 ≤ d)
    (K : WP sc d' mc' ms' md' 0 (ent (vR t k :: as) md'.2.2.1) [] I L R N n (fun _ I L R N n => WP sc d mc ms md (pc + 3) al rest I L R N n Q)) : WP sc d (mc + mc') (ms + ms') md pc al st I L R N n Q := by
  intro e ρ T n0 ρ0 T0 p l en Rm s m args below meth c H locs cells slots ls h
  subst hst
  have h' := h
  obtain ⟨⟨g1, g2, g3, g4, g5, g6, g7, g9⟩, ⟨r1, r2, r3, r4⟩, ⟨h3, h3b⟩, h4, h5, ⟨hK, hP, hD, hT⟩, hS, h8, h9, h10⟩ := h
  have hrest : ∀ v ∈ rest, okv T n v := fun v hv => h5 v (List.mem_append_right _ (List.mem_cons_of_mem _ hv))
  have hok : ∀ v ∈ vR t k :: as, okv T n v := fun v hv => (List.mem_cons.mp hv).elim (fun q => h5 v (List.mem_append_right _ (q ▸ List.mem_cons_self))) (fun q => h5 v (List.mem_append_left _ (List.mem_reverse.mpr q)))
  have hM := K.met ho.2.2.2.1 hlen l e ρ T hok
  rw [hr] at hM
  have hpre := pre_call h' ((vR t k :: as).map (cv ρ e.2.2.1))
  have hroom' : (rmo d' mc' ms').frames + 1 ≤ Rm.frames ∧ 8 + (md'.2.2.1 + 11) + (rmo d' mc' ms').locals ≤ Rm.locals := ⟨Nat.le_trans hdp r1, by have := ho.2.2.2.2; show 8 + (md'.2.2.1 + 11) + 64 * d' ≤ Rm.locals; omega⟩
  have hstk : List.map (cv ρ e.2.2.1) (as.reverse ++ vR t k :: rest) = (as.map (cv ρ e.2.2.1)).reverse ++ .ref (ρ k) :: rest.map (cv ρ e.2.2.1) := by
    rw [List.map_append, List.map_reverse]; rfl
  have hgood := good_tbl ho
  rw [hr] at hgood
  refine w_contV (rest := rest) (Z := fun _ => True) (md' := md') (a := (Value.ref (ρ k) :: as.map (cv ρ e.2.2.1)).toArray) hr h' hrest ?_
  rcases hl with hl | ⟨host, hl⟩
  · exact va_runI (As := as.map (cv ρ e.2.2.1)) (b := ρ k) ⟨g1, g2, g4, g5, g6⟩ hM ⟨callB_of na g6 hgood rfl rfl rfl (g6 _ ho.2.1) (g6 _ hl) ho.2.2.1 hroom', hnm, g6 _ hv⟩ hpre rfl (by rw [List.length_map]; exact hna) (h3.1.trans h3b) hstk (lv_room (by rw [cv_sum]; exact hroom)) hd ⟨by omega, by omega⟩
  · exact va_runIN (As := as.map (cv ρ e.2.2.1)) (b := ρ k) ⟨g1, g2, g4, g5, g6⟩ hM ⟨va_cnB na g6 hgood rfl rfl rfl (h8.2.2.2.2.2.2.2.2.2.1 _ hl) (g6 _ ho.2.1) ho.2.2.1 hroom', hnm, g6 _ hv⟩ hpre rfl (by rw [List.length_map]; exact hna) (h3.1.trans h3b) hstk (lv_room (by rw [cv_sum]; exact hroom)) hd ⟨by omega, by omega⟩
end
end
section
/-! What is made; the library's own. -/
section
variable {cy : Nat → ClassId} {ρ ρ' : Nat → Nat} {T T' : HN} {I I' : HI} {L L' : HL} {R R' : HR} {N N' : HN} {n k t q z : Nat}
theorem map_rf {r : Option Nat} (h : ∀ a, r = some a → ρ' a = ρ a) : r.map ρ' = r.map ρ := by
  cases r with
  | none => rfl
  | some a => exact congrArg some (h a rfl)
theorem fval_2 {j c : Nat} (h : 2 ≤ c) : fval ρ I L R k j c = va_rf ((R k j).map ρ) := by
  match c, h with
  | c + 2, _ => rfl
theorem ce_ext (hW : WT T R n) (hk : k < n) (hρ : ∀ a, a < n → ρ' a = ρ a) (hT : T' k = T k) (hI : I' k = I k) (hL : L' k = L k) (hR : R' k = R k) (hN : N' k = N k) : ce cy ρ' T' I' L' R' N' k = ce cy ρ T I L R N k := by
  by_cases h1 : T k < 11
  · rw [ce_obj hT h1, ce_obj rfl h1]
    congr 2
    apply List.map_congr_left
    intro j _
    rcases (show fk (T k) j = 0 ∨ fk (T k) j = 1 ∨ 2 ≤ fk (T k) j by omega) with h0 | h0 | h0
    · rw [h0]; show Value.int _ = Value.int _; rw [hI]
    · rw [h0]; show Value.long _ = Value.long _; rw [hL]
    · rw [fval_2 h0, fval_2 h0, hR, map_rf (fun a ha => hρ a ((hW k hk j a ha).1 h1 h0).1)]
  · by_cases h2 : T k < 14
    · rw [ce_int hT (by omega) h2, ce_int rfl (by omega) h2, hI, hN]
    · rw [ce_ref hT (by omega), ce_ref rfl (by omega), hR, hN]
      congr 7
      funext i
      exact map_rf (fun a ha => hρ a ((hW k hk i a ha).2 (by omega)).1)
theorem wsl_push {x : va_E} (hW : WT T R n) (hx : ce cy (va_up ρ n q) (va_up T n t) I' L' R' N' n = x) (ho : ∀ k, k < n → I' k = I k ∧ L' k = L k ∧ R' k = R k ∧ N' k = N k) : wsl cy ρ T I L R N n ++ [(q, x)] = wsl cy (va_up ρ n q) (va_up T n t) I' L' R' N' (n + 1) := by
  unfold wsl
  rw [List.range_succ, List.map_append]
  congr 1
  · apply List.map_congr_left
    intro k hk
    have hk' := List.mem_range.mp hk
    obtain ⟨h1, h2, h3, h4⟩ := ho k hk'
    rw [va_up_ne _ _ (by omega), ce_ext hW hk' (fun a ha => va_up_ne _ _ (by omega)) (va_up_ne _ _ (by omega)) h1 h2 h3 h4]
  · rw [List.map_cons, hx, va_up_self]; rfl
theorem wt_push (hW : WT T R n) (hR : ∀ k, k < n → R' k = R k) (hn : ∀ j, R' n j = none) : WT (va_up T n t) R' (n + 1) := by
  intro k hk j a ha
  by_cases e : k = n
  · subst e
    rw [hn] at ha
    cases ha
  · have hk' : k < n := by omega
    rw [hR k hk'] at ha
    obtain ⟨h1, h2⟩ := hW k hk' j a ha
    rw [va_up_ne _ _ e]
    refine ⟨fun a1 a2 => ?_, fun a1 => ?_⟩
    · obtain ⟨b1, b2⟩ := h1 a1 a2
      exact ⟨by omega, by rw [va_up_ne _ _ (by omega)]; exact b2⟩
    · obtain ⟨b1, b2⟩ := h2 a1
      exact ⟨by omega, by rw [va_up_ne _ _ (by omega)]; exact b2⟩
end
section
variable {sc : SC} {d mc ms mc' ms' : Nat} {md : MD} {pc pc' : Nat} {al st : List AV} {I I' : HI} {L L' : HL} {R R' : HR} {N N' : HN} {n : Nat} {Q : HQ} {t z idx : Nat} {e : EN} {ρ : Nat → Nat} {T : HN} {n0 : Nat} {ρ0 : Nat → Nat} {T0 : HN} {p : Program} {l : Launch} {en : Env} {Rm : Room} {s : State} {m : MethodId} {args : Array Value} {below : List Frame} {meth : Method} {c : Code} {H : Heap} {locs : List Loc} {cells slots : Nat} {ls : Array Slot}
/-- behind an allocation -/
theorem w_born {x : va_E} {q : Nat} {H1 : Heap} {st0 : List AV} (h : CX sc d (mc + mc') (ms + ms') md al st0 I L R N n e ρ T n0 ρ0 T0 p Rm s m args meth c H locs cells slots ls) (hst : ∀ v ∈ st, okv T n v)
    (hx : ce e.2.1 (va_up ρ n q) (va_up T n t) I' L' R' N' n = x) (ho : ∀ k, k < n → I' k = I k ∧ L' k = L k ∧ R' k = R k ∧ N' k = N k) (hn : ∀ j, R' n j = none)
    (hP : va_P e.1 vwCl (wsl e.2.1 ρ T I L R N n ++ [(q, x)]) H1) (hD : va_D (EA e) (wsl e.2.1 ρ T I L R N n ++ [(q, x)])) (hS : va_S (EA e) s.heap H1 locs)
    (K : WP sc d mc ms md pc' al (vR t n :: st) I' L' R' N' (n + 1) Q) :
    W p l en Rm s m args below meth c H1 locs (cells + mc') (slots + ms') (MQ below (QM md e n0 ρ0 T0 Q) args s Rm.cells Rm.slots (EA e)) (F0 m pc' ls (.ref q :: st.map (cv ρ e.2.2.1))) := by
  have h' := h
  obtain ⟨h1, h2, h3, h4, h5, ⟨hK, hP0, hD0, hT0⟩, h7, h8, h9, h10⟩ := h
  have hE : EX n ρ T (n + 1) (va_up ρ n q) (va_up T n t) := ⟨Nat.le_succ n, fun k hk => ⟨va_up_ne _ _ (by omega), va_up_ne _ _ (by omega)⟩⟩
  rw [wsl_push hT0 hx ho] at hP hD
  rw [map_ex e.2.2.1 hE hst]
  have hq : va_up ρ n q n = q := va_up_self ρ n q
  have := K e (va_up ρ n q) (va_up T n t) n0 ρ0 T0 p l en Rm s m args below meth c H1 locs (cells + mc') (slots + ms') ls (h'.back (r := vU) hE ⟨hK, hP, hD, wt_push hT0 (fun k hk => (ho k hk).2.2.1) hn⟩ hS (ok_cons (a := vR t n) ⟨Nat.lt_succ_self n, va_up_self T n t⟩ (fun v hv => ok_ex hE (hst v hv))))
  rw [List.map_cons, show cv (va_up ρ n q) e.2.2.1 (vR t n) = .ref q from congrArg Value.ref hq] at this
  exact this
theorem fv_new {t j k : Nat} (ht : t < 11) (hj : j < nf t) (ρ : Nat → Nat) {I : HI} {L : HL} {R : HR} (hI : I k = fun _ => 0) (hL : L k = fun _ => 0) (hR : R k = fun _ => none) : defaultValue (tyF t j) = fval ρ I L R k j (fk t j) := by
  obtain ⟨h1, h2, h3⟩ := ty_ok t ht j hj
  rcases (show fk t j = 0 ∨ fk t j = 1 ∨ 2 ≤ fk t j by omega) with h0 | h0 | h0
  · rw [h0]; show _ = Value.int _; rw [hI]; rcases h1 h0 with q | q <;> rw [q] <;> rfl
  · rw [h0]; show _ = Value.long _; rw [hL, h2 h0]; rfl
  · rw [fval_2 h0, hR]; rcases h3 h0 with ⟨q, h⟩ | ⟨q, h⟩ <;> rw [h] <;> rfl
theorem w_new (hd : decode md.2.1 pc = .ok (.new idx, 3)) (ht : t < 11) (hw : Cond.classLink md.1.cls idx (cT t).1 ∈ gw) (hin : Cond.instantiable (cT t).1 (cT t).2.2 ∈ gw) (hini : Cond.initialized (cT t).1 ∈ gw)
    (K : WP sc d mc ms md (pc + 3) al (vR t n :: st) (va_up I n (fun _ => 0)) (va_up L n (fun _ => 0)) (va_up R n (fun _ => none)) N (n + 1) Q) : WP sc d (mc + 1) (ms + nf t) md pc al st I L R N n Q := by
  intro e ρ T n0 ρ0 T0 p l en Rm s m args below meth c H locs cells slots ls h
  have h' := h
  obtain ⟨⟨g1, g2, -, -, g5, g6, -⟩, ⟨-, -, r3, r4⟩, -, h4, h5, ⟨hK, hP, hD, hT⟩, hS, -, h9, -⟩ := h
  obtain ⟨c1, c2, c3, c4, c5⟩ := cl_ok t ht
  have hA : ∀ q, s.heap.size ≤ q → EA e q := fun q hq => Nat.le_trans h9 hq
  refine va_new (D := e.1) (ci := t) (fs := (List.range (nf t)).map (fun j => fval ρ (va_up I n (fun _ => 0)) (va_up L n (fun _ => 0)) (va_up R n (fun _ => none)) n j (fk t j))) (C := (cT t).1) (T := (cT t).2.1) (N := (cT t).2.2) g1 g2 g6 c3 (tyF t) c4 g5 (g6 _ hw) (g6 _ hin) (g6 _ hini) hK hP hD hS hA c1 (fun j hj => ?_) (by omega) (by rw [c2]; omega) hd (fun q H1 hP1 hD1 hS1 => ?_)
  · rw [c2] at hj
    rw [fv_new ht hj ρ (va_up_self I n _) (va_up_self L n _) (va_up_self R n _)]
    unfold vp_V
    rw [List.getD_eq_getElem?_getD, List.getElem?_map, List.getElem?_range hj]
    rfl
  · rw [c2]
    refine w_born (t := t) (mc' := 1) (ms' := nf t) h' h5 ?_ (fun k hk => ⟨va_up_ne _ _ (by omega), va_up_ne _ _ (by omega), va_up_ne _ _ (by omega), rfl⟩) (fun j => by rw [va_up_self]) hP1 hD1 hS1 K
    rw [ce_obj (va_up_self T n t) ht]
    congr 2
    apply List.map_congr_left
    intro j hj
    rw [← fv_new ht (List.mem_range.mp hj) ρ (va_up_self I n _) (va_up_self L n _) (va_up_self R n _), ← fv_new ht (List.mem_range.mp hj) (va_up ρ n q) (va_up_self I n _) (va_up_self L n _) (va_up_self R n _)]
theorem w_newarr {x : Int32} (aty : ArrayType) {ty : FieldType} (hty : newarray.typeOf aty = ty) (ht : t = 11 ∨ t = 12 ∨ t = 13) (htt : ∀ cy : Nat → ClassId, (tysOf cy)[t - 11]? = some (cy t, ty)) (hdv : defaultValue ty = .int 0) (hra : ∀ (U : State) (cA : ClassId), va_RA U cA ty → U.vm.findClass ("[" ++ ty.toString) = some cA) (hcb : componentBytes ty ≤ 4) (hd : decode md.2.1 pc = .ok (.newarray aty, 2)) (hw : Cond.arrayClass ty ∈ gw) (hx : x = nI z) (hz : z < 100000)
    (K : WP sc d mc ms md (pc + 2) al (vR t n :: st) (va_up I n (fun _ => 0)) L (va_up R n (fun _ => none)) (va_up N n z) (n + 1) Q) : WP sc d (mc + 1) (ms + z) md pc al (vI x :: st) I L R N n Q := by
  intro e ρ T n0 ρ0 T0 p l en Rm s m args below meth c H locs cells slots ls h
  have h' := h
  obtain ⟨⟨g1, g2, -, -, g5, g6, -⟩, ⟨-, -, r3, r4⟩, -, h4, h5, ⟨hK, hP, hD, hT⟩, hS, -, h9, -⟩ := h
  subst hx
  subst hty
  have hA : ∀ q, s.heap.size ≤ q → EA e q := fun q hq => Nat.le_trans h9 hq
  have hc : (nI z).toNatClampNeg = z := nI_clamp (by omega)
  refine va_newa (atype := aty) (N' := z) (a0 := (z, .inl (fun _ => 0))) g1 g2 (g6 _ hw) rfl hK hP hD hS hA (fun cA => by rw [vp_cell_i, hdv]) (nI_pos (by omega)) hc (Nat.le_trans (Nat.mul_le_mul_left z hcb) (by omega)) (by omega) (by omega) hd (fun q cA H1 hK1 hP1 hD1 hS1 => ?_)
  have e1 := hra s cA (hK1.2 8 _ rfl).2
  have e2 := hra s _ (hK.2 (t - 11) _ (htt e.2.1)).2
  have e3 : cA = e.2.1 t := Option.some.inj (e1.symm.trans e2)
  subst e3
  refine w_born (t := t) (mc' := 1) (ms' := z) h' (ok_tl h5) ?_ (fun k hk => ⟨va_up_ne _ _ (by omega), rfl, va_up_ne _ _ (by omega), va_up_ne _ _ (by omega)⟩) (fun j => by rw [va_up_self]) hP1 hD1 hS1 K
  rw [ce_int (va_up_self T n t) (by omega) (by omega), va_up_self, va_up_self]
theorem w_newI {x : Int32} (hd : decode md.2.1 pc = .ok (.newarray .int, 2)) (hw : Cond.arrayClass .int ∈ gw) (hx : x = nI z) (hz : z < 100000)
    (K : WP sc d mc ms md (pc + 2) al (vR 12 n :: st) (va_up I n (fun _ => 0)) L (va_up R n (fun _ => none)) (va_up N n z) (n + 1) Q) : WP sc d (mc + 1) (ms + z) md pc al (vI x :: st) I L R N n Q :=
  w_newarr .int rfl (Or.inr (Or.inl rfl)) (fun _ => rfl) rfl (fun _ _ h => h) (by decide) hd hw hx hz K
theorem w_newZ {x : Int32} (hd : decode md.2.1 pc = .ok (.newarray .boolean, 2)) (hw : Cond.arrayClass .boolean ∈ gw) (hx : x = nI z) (hz : z < 100000)
    (K : WP sc d mc ms md (pc + 2) al (vR 13 n :: st) (va_up I n (fun _ => 0)) L (va_up R n (fun _ => none)) (va_up N n z) (n + 1) Q) : WP sc d (mc + 1) (ms + z) md pc al (vI x :: st) I L R N n Q :=
  w_newarr .boolean rfl (Or.inr (Or.inr rfl)) (fun _ => rfl) rfl (fun _ _ h => h) (by decide) hd hw hx hz K
theorem w_newC {x : Int32} (hd : decode md.2.1 pc = .ok (.newarray .char, 2)) (hw : Cond.arrayClass .char ∈ gw) (hx : x = nI z) (hz : z < 100000)
    (K : WP sc d mc ms md (pc + 2) al (vR 11 n :: st) (va_up I n (fun _ => 0)) L (va_up R n (fun _ => none)) (va_up N n z) (n + 1) Q) : WP sc d (mc + 1) (ms + z) md pc al (vI x :: st) I L R N n Q :=
  w_newarr .char rfl (Or.inl rfl) (fun _ => rfl) rfl (fun _ _ h => h) (by decide) hd hw hx hz K
theorem w_newO {x : Int32} (ht : 14 ≤ t) (ht2 : t < 18) (hd : decode md.2.1 pc = .ok (.anewarray idx, 3)) (hw : Cond.classLink md.1.cls idx (cT (et t)).1 ∈ gw) (hao : (cT (et t)).1 ∈ [RX3, RX4, RX5, RX7]) (hx : x = nI z) (hz : z < 100000)
    (K : WP sc d mc ms md (pc + 3) al (vR t n :: st) I L (va_up R n (fun _ => none)) (va_up N n z) (n + 1) Q) : WP sc d (mc + 1) (ms + z) md pc al (vI x :: st) I L R N n Q := by
  intro e ρ T n0 ρ0 T0 p l en Rm s m args below meth c H locs cells slots ls h
  have h' := h
  obtain ⟨⟨g1, g2, -, -, g5, g6, -⟩, ⟨-, -, r3, r4⟩, -, h4, h5, ⟨hK, hP, hD, hT⟩, hS, h8, h9, -⟩ := h
  subst hx
  have hA : ∀ q, s.heap.size ≤ q → EA e q := fun q hq => Nat.le_trans h9 hq
  have hc : (nI z).toNatClampNeg = z := nI_clamp (by omega)
  refine va_newq (N' := z) g1 g2 g5 (g6 _ hw) (h8.2.2.2.2.2.2.2.2.2.2.1 _ hao) hK hP hD hS hA (nI_pos (by omega)) hc (by omega) (by omega) (by omega) hd (fun q cA H1 hK1 hP1 hD1 hS1 => ?_)
  obtain ⟨-, -, -, -, -, e1⟩ := (hK1.2 8 _ rfl).2
  obtain ⟨-, -, -, -, -, e2⟩ := (hK.2 (t - 11) _ (ty_ref e.2.1 t ht ht2).1).2
  have e3 : cA = e.2.1 t := Option.some.inj (e1.symm.trans e2)
  subst e3
  refine w_born (t := t) (mc' := 1) (ms' := z) h' (ok_tl h5) ?_ (fun k hk => ⟨rfl, rfl, va_up_ne _ _ (by omega), va_up_ne _ _ (by omega)⟩) (fun j => by rw [va_up_self]) hP1 hD1 hS1 K
  rw [ce_ref (va_up_self T n t) ht, va_up_self, va_up_self]
  rfl
/-- Object.<init> -/
theorem w_objInit {k : Nat} (hd : decode md.2.1 pc = .ok (.invokespecial idx, 3)) (hl : Cond.methodLink md.1.cls idx Lib.objectInit ∈ gw) (hi : Cond.instanceMethod Lib.objectInit ∈ gw) (hc : Cond.code Lib.objectInit ⟨#[0xb1]⟩ 1 none ∈ gw) (hdp : 1 ≤ d) (hroom : (st.map acat).sum ≤ 8)
    (K : WP sc d mc ms md (pc + 3) al st I L R N n Q) : WP sc d mc ms md pc al (vR t k :: st) I L R N n Q := by
  intro e ρ T n0 ρ0 T0 p l en Rm s m args below meth c H locs cells slots ls h
  have h' := h
  obtain ⟨⟨g1, g2, -, g4, g5, g6, -⟩, ⟨r1, r2, -, -⟩, ⟨h3, h3b⟩, h4, h5, -⟩ := h
  have hlr := lv_room (m := m) (pc := pc) (ls := ls) (rest := List.map (cv ρ e.2.2.1) (vR t k :: st)) (st := st.map (cv ρ e.2.2.1)) (by rw [cv_sum]; exact hroom)
  exact W.objInit g1 g2 g5 (g6 _ hl) (g6 _ hi) (g6 _ hc) rfl (h3.1.trans (h3b.trans g4.symm)) rfl hd (Nat.le_trans hdp r1) (by have : 64 ≤ Rm.locals := Nat.le_trans (by omega) r2; omega) (K e ρ T n0 ρ0 T0 p l en Rm s m args below meth c H locs cells slots ls (h'.stack (ok_tl h5)))
theorem w_max {x y : Int32} (hd : decode md.2.1 pc = .ok (.invokestatic idx, 3)) (hl : Cond.methodLink md.1.cls idx Lib.Math.max.name ∈ gw) (hs : Cond.static Lib.Math.max.name ∈ gw) (hi : Cond.initialized "java/lang/Math" ∈ gw) (hc : Cond.code Lib.Math.max.name Lib.Math.max.code 2 (some .int) ∈ gw) (hdp : 1 ≤ d) (hroom : (st.map acat).sum ≤ 8)
    (K : WP sc d mc ms md (pc + 3) al (vI (if x < y then y else x) :: st) I L R N n Q) : WP sc d mc ms md pc al (vI y :: vI x :: st) I L R N n Q := by
  intro e ρ T n0 ρ0 T0 p l en Rm s m args below meth c H locs cells slots ls h
  have h' := h
  obtain ⟨⟨g1, g2, -, g4, g5, g6, -⟩, ⟨r1, r2, r3, r4⟩, ⟨h3, h3b⟩, h4, h5, -⟩ := h
  exact va_mmax g1 g2 (g4.trans (h3b.symm.trans h3.1.symm)) g5 (g6 _ hl) (g6 _ hs) (g6 _ hi) (g6 _ hc) (Nat.le_trans hdp r1) (by rw [cv_sum]; have : 64 ≤ Rm.locals := Nat.le_trans (by omega) r2; omega) (by omega) (by omega) hd (K e ρ T n0 ρ0 T0 p l en Rm s m args below meth c H locs cells slots ls (h'.stack (ok_i (ok_tl (ok_tl h5)))))
theorem w_min {x y : Int32} (hd : decode md.2.1 pc = .ok (.invokestatic idx, 3)) (hl : Cond.methodLink md.1.cls idx Lib.Math.min.name ∈ gw) (hs : Cond.static Lib.Math.min.name ∈ gw) (hi : Cond.initialized "java/lang/Math" ∈ gw) (hc : Cond.code Lib.Math.min.name Lib.Math.min.code 2 (some .int) ∈ gw) (hdp : 1 ≤ d) (hroom : (st.map acat).sum ≤ 8)
    (K : WP sc d mc ms md (pc + 3) al (vI (if y < x then y else x) :: st) I L R N n Q) : WP sc d mc ms md pc al (vI y :: vI x :: st) I L R N n Q := by
  intro e ρ T n0 ρ0 T0 p l en Rm s m args below meth c H locs cells slots ls h
  have h' := h
  obtain ⟨⟨g1, g2, -, g4, g5, g6, -⟩, ⟨r1, r2, r3, r4⟩, ⟨h3, h3b⟩, h4, h5, -⟩ := h
  exact va_mmin g1 g2 (g4.trans (h3b.symm.trans h3.1.symm)) g5 (g6 _ hl) (g6 _ hs) (g6 _ hi) (g6 _ hc) (Nat.le_trans hdp r1) (by rw [cv_sum]; have : 64 ≤ Rm.locals := Nat.le_trans (by omega) r2; omega) (by omega) (by omega) hd (K e ρ T n0 ρ0 T0 p l en Rm s m args below meth c H locs cells slots ls (h'.stack (ok_i (ok_tl (ok_tl h5)))))
theorem w_abs {x : Int32} (hd : decode md.2.1 pc = .ok (.invokestatic idx, 3)) (hl : Cond.methodLink md.1.cls idx Lib.Math.abs.name ∈ gw) (hs : Cond.static Lib.Math.abs.name ∈ gw) (hi : Cond.initialized "java/lang/Math" ∈ gw) (hc : Cond.code Lib.Math.abs.name Lib.Math.abs.code 1 (some .int) ∈ gw) (hdp : 1 ≤ d) (hroom : (st.map acat).sum ≤ 8)
    (K : WP sc d mc ms md (pc + 3) al (vI (if 0 ≤ x then x else 0 - x) :: st) I L R N n Q) : WP sc d mc ms md pc al (vI x :: st) I L R N n Q := by
  intro e ρ T n0 ρ0 T0 p l en Rm s m args below meth c H locs cells slots ls h
  have h' := h
  obtain ⟨⟨g1, g2, -, g4, g5, g6, -⟩, ⟨r1, r2, r3, r4⟩, ⟨h3, h3b⟩, h4, h5, -⟩ := h
  exact va_mabs g1 g2 (g4.trans (h3b.symm.trans h3.1.symm)) g5 (g6 _ hl) (g6 _ hs) (g6 _ hi) (g6 _ hc) (Nat.le_trans hdp r1) (by rw [cv_sum]; have : 64 ≤ Rm.locals := Nat.le_trans (by omega) r2; omega) (by omega) (by omega) hd (K e ρ T n0 ρ0 T0 p l en Rm s m args below meth c H locs cells slots ls (h'.stack (ok_i (ok_tl h5))))
theorem w_acopy {xp xq xc : Int32} {a b u v w : Nat} (hd : decode md.2.1 pc = .ok (.invokestatic idx, 3)) (hl : Cond.methodLink md.1.cls idx arraycopyName ∈ gw) (hnat : Cond.native arraycopyName ∈ gw) (hs : Cond.static arraycopyName ∈ gw) (hi : Cond.initialized "java/lang/System" ∈ gw) (hdp : 1 ≤ d) (hroom : (st.map acat).sum ≤ 8)
    (hp : xp = nI u) (hq : xq = nI v) (hc : xc = nI w) (h1 : u + w ≤ N a) (h2 : v + w ≤ N b) (hNa : N a < 2147483648) (hNb : N b < 2147483648)
    (K : WP sc d mc ms md (pc + 3) al st (va_up I b (va_cpy (I a) (I b) u v w)) L R N n Q) : WP sc d mc ms md pc al (vI xc :: vI xq :: vR 12 b :: vI xp :: vR 12 a :: st) I L R N n Q := by
  intro e ρ T n0 ρ0 T0 p l en Rm s m args below meth c H locs cells slots ls h
  have h' := h
  obtain ⟨⟨g1, g2, -, g4, g5, g6, -⟩, ⟨r1, r2, r3, r4⟩, ⟨h3, h3b⟩, h4, h5, ⟨hK, hP, hD, hT⟩, hS, -⟩ := h
  obtain ⟨hb, hTb⟩ : b < n ∧ T b = 12 := ok_hd (ok_tl (ok_tl h5))
  obtain ⟨ha, hTa⟩ : a < n ∧ T a = 12 := ok_hd (ok_tl (ok_tl (ok_tl (ok_tl h5))))
  have hea := wsl_get (cy := e.2.1) (ρ := ρ) (T := T) (I := I) (L := L) (R := R) (N := N) ha
  rw [ce_int hTa (by decide) (by decide)] at hea
  have heb := wsl_get (cy := e.2.1) (ρ := ρ) (T := T) (I := I) (L := L) (R := R) (N := N) hb
  rw [ce_int hTb (by decide) (by decide)] at heb
  subst hp; subst hq; subst hc
  have cu : (nI u).toNatClampNeg = u := nI_clamp (by omega)
  have cw : (nI w).toNatClampNeg = w := nI_clamp (by omega)
  have cq : (nI v).toNatClampNeg = v := nI_clamp (by omega)
  have hz : nativeFrameWords "java/lang/System" "arraycopy" 5 + 11 ≤ 50 := by decide +kernel
  have h64 : 64 ≤ Rm.locals := Nat.le_trans (by omega) r2
  refine va_copyi (f := I a) (g := I b) (sp := nI u) (dp := nI v) (n := nI w) g1 g2 (g4.trans (h3b.symm.trans h3.1.symm)) g5 (g6 _ hl) (g6 _ hnat) (g6 _ hs) (g6 _ hi) hK hP hD hS a b 1 1 hea heb (ty_at _).2.1 (ty_at _).2.1 rfl (nI_pos (by omega)) (nI_pos (by omega)) (nI_pos (by omega)) (by rw [cu, cw]; exact h1) (by rw [cq, cw]; exact h2) (fun _ _ => rfl) (Nat.le_trans hdp r1) (by rw [cv_sum]; omega) hd (fun H1 locs1 hP1 hD1 hS1 => ?_)
  rw [cu, cw, cq] at hP1 hD1
  have hset : (wsl e.2.1 ρ T I L R N n).set b (ρ b, .inl (e.2.1 12, N b, .inl (va_cpy (I a) (I b) u v w))) = wsl e.2.1 ρ T (va_up I b (va_cpy (I a) (I b) u v w)) L R N n := by
    refine wsl_upd hb ?_ (fun w hw hwk => ?_)
    · rw [ce_int hTb (by decide) (by decide), va_up_self]
    · unfold ce fval
      rw [va_up_ne _ _ hwk]
  rw [hset] at hP1 hD1
  exact K e ρ T n0 ρ0 T0 p l en Rm s m args below meth c H1 locs1 cells slots ls (h'.heap ⟨hK, hP1, hD1, hT⟩ hS1 (ok_tl (ok_tl (ok_tl (ok_tl (ok_tl h5))))))
end
end
