theorem dX10_takesKey_100 : decode mX10_takesKey.2.1 100 = .ok (.iinc 4 1, 3) := by decide +kernel
theorem dX10_takesKey_103 : decode mX10_takesKey.2.1 103 = .ok (.goto (-48), 3) := by decide +kernel
theorem dX10_takesKey_106 : decode mX10_takesKey.2.1 106 = .ok (.iload_n 3, 1) := by decide +kernel
theorem dX10_takesKey_107 : decode mX10_takesKey.2.1 107 = .ok (.ifCond .eq 14, 3) := by decide +kernel
theorem dX10_takesKey_110 : decode mX10_takesKey.2.1 110 = .ok (.aload_n 0, 1) := by decide +kernel
theorem dX10_takesKey_111 : decode mX10_takesKey.2.1 111 = .ok (.iload_n 1, 1) := by decide +kernel
theorem dX10_takesKey_112 : decode mX10_takesKey.2.1 112 = .ok (.putfield 232, 3) := by decide +kernel
theorem dX10_takesKey_115 : decode mX10_takesKey.2.1 115 = .ok (.aload_n 0, 1) := by decide +kernel
theorem dX10_takesKey_116 : decode mX10_takesKey.2.1 116 = .ok (.invokevirtual 235, 3) := by decide +kernel
theorem dX10_takesKey_119 : decode mX10_takesKey.2.1 119 = .ok (.iconst 1, 1) := by decide +kernel
theorem dX10_takesKey_120 : decode mX10_takesKey.2.1 120 = .ok (.ireturn, 1) := by decide +kernel
theorem dX10_takesKey_121 : decode mX10_takesKey.2.1 121 = .ok (.iinc 1 1, 3) := by decide +kernel
theorem dX10_takesKey_124 : decode mX10_takesKey.2.1 124 = .ok (.goto (-112), 3) := by decide +kernel
theorem dX10_takesKey_127 : decode mX10_takesKey.2.1 127 = .ok (.iconst 0, 1) := by decide +kernel
theorem dX10_takesKey_128 : decode mX10_takesKey.2.1 128 = .ok (.ireturn, 1) := by decide +kernel
theorem dX10_nameOf_0 : decode mX10_nameOf.2.1 0 = .ok (.aload_n 0, 1) := by decide +kernel
theorem dX10_nameOf_1 : decode mX10_nameOf.2.1 1 = .ok (.getfield 232, 3) := by decide +kernel
theorem dX10_nameOf_4 : decode mX10_nameOf.2.1 4 = .ok (.lookupswitch 82 #[(0, 28), (1, 60)], 28) := by decide +kernel
theorem dX10_nameOf_32 : decode mX10_nameOf.2.1 32 = .ok (.iload_n 1, 1) := by decide +kernel
theorem dX10_nameOf_33 : decode mX10_nameOf.2.1 33 = .ok (.bipush 100, 2) := by decide +kernel
theorem dX10_nameOf_35 : decode mX10_nameOf.2.1 35 = .ok (.if_icmp .ne 7, 3) := by decide +kernel
theorem dX10_nameOf_38 : decode mX10_nameOf.2.1 38 = .ok (.iconst 0, 1) := by decide +kernel
theorem dX10_nameOf_39 : decode mX10_nameOf.2.1 39 = .ok (.goto 24, 3) := by decide +kernel
theorem dX10_nameOf_42 : decode mX10_nameOf.2.1 42 = .ok (.iload_n 1, 1) := by decide +kernel
theorem dX10_nameOf_43 : decode mX10_nameOf.2.1 43 = .ok (.bipush 97, 2) := by decide +kernel
theorem dX10_nameOf_45 : decode mX10_nameOf.2.1 45 = .ok (.if_icmp .ne 7, 3) := by decide +kernel
theorem dX10_nameOf_48 : decode mX10_nameOf.2.1 48 = .ok (.iconst 1, 1) := by decide +kernel
theorem dX10_nameOf_49 : decode mX10_nameOf.2.1 49 = .ok (.goto 14, 3) := by decide +kernel
theorem dX10_nameOf_52 : decode mX10_nameOf.2.1 52 = .ok (.iload_n 1, 1) := by decide +kernel
theorem dX10_nameOf_53 : decode mX10_nameOf.2.1 53 = .ok (.bipush 98, 2) := by decide +kernel
theorem dX10_nameOf_55 : decode mX10_nameOf.2.1 55 = .ok (.if_icmp .ne 7, 3) := by decide +kernel
theorem dX10_nameOf_58 : decode mX10_nameOf.2.1 58 = .ok (.iconst 2, 1) := by decide +kernel
theorem dX10_nameOf_59 : decode mX10_nameOf.2.1 59 = .ok (.goto 4, 3) := by decide +kernel
theorem dX10_nameOf_62 : decode mX10_nameOf.2.1 62 = .ok (.iconst (-1), 1) := by decide +kernel
theorem dX10_nameOf_63 : decode mX10_nameOf.2.1 63 = .ok (.ireturn, 1) := by decide +kernel
theorem dX10_nameOf_64 : decode mX10_nameOf.2.1 64 = .ok (.iload_n 1, 1) := by decide +kernel
theorem dX10_nameOf_65 : decode mX10_nameOf.2.1 65 = .ok (.bipush 111, 2) := by decide +kernel
theorem dX10_nameOf_67 : decode mX10_nameOf.2.1 67 = .ok (.if_icmp .ne 7, 3) := by decide +kernel
theorem dX10_nameOf_70 : decode mX10_nameOf.2.1 70 = .ok (.iconst 0, 1) := by decide +kernel
theorem dX10_nameOf_71 : decode mX10_nameOf.2.1 71 = .ok (.goto 14, 3) := by decide +kernel
theorem dX10_nameOf_74 : decode mX10_nameOf.2.1 74 = .ok (.iload_n 1, 1) := by decide +kernel
theorem dX10_nameOf_75 : decode mX10_nameOf.2.1 75 = .ok (.bipush 115, 2) := by decide +kernel
theorem dX10_nameOf_77 : decode mX10_nameOf.2.1 77 = .ok (.if_icmp .ne 7, 3) := by decide +kernel
theorem dX10_nameOf_80 : decode mX10_nameOf.2.1 80 = .ok (.iconst 1, 1) := by decide +kernel
theorem dX10_nameOf_81 : decode mX10_nameOf.2.1 81 = .ok (.goto 4, 3) := by decide +kernel
theorem dX10_nameOf_84 : decode mX10_nameOf.2.1 84 = .ok (.iconst (-1), 1) := by decide +kernel
theorem dX10_nameOf_85 : decode mX10_nameOf.2.1 85 = .ok (.ireturn, 1) := by decide +kernel
theorem dX10_nameOf_86 : decode mX10_nameOf.2.1 86 = .ok (.iload_n 1, 1) := by decide +kernel
theorem dX10_nameOf_87 : decode mX10_nameOf.2.1 87 = .ok (.bipush 100, 2) := by decide +kernel
theorem dX10_nameOf_89 : decode mX10_nameOf.2.1 89 = .ok (.if_icmp .ne 7, 3) := by decide +kernel
theorem dX10_nameOf_92 : decode mX10_nameOf.2.1 92 = .ok (.iconst 0, 1) := by decide +kernel
theorem dX10_nameOf_93 : decode mX10_nameOf.2.1 93 = .ok (.goto 14, 3) := by decide +kernel
theorem dX10_nameOf_96 : decode mX10_nameOf.2.1 96 = .ok (.iload_n 1, 1) := by decide +kernel
theorem dX10_nameOf_97 : decode mX10_nameOf.2.1 97 = .ok (.bipush 102, 2) := by decide +kernel
theorem dX10_nameOf_99 : decode mX10_nameOf.2.1 99 = .ok (.if_icmp .ne 7, 3) := by decide +kernel
theorem dX10_nameOf_102 : decode mX10_nameOf.2.1 102 = .ok (.iconst 1, 1) := by decide +kernel
theorem dX10_nameOf_103 : decode mX10_nameOf.2.1 103 = .ok (.goto 4, 3) := by decide +kernel
theorem dX10_nameOf_106 : decode mX10_nameOf.2.1 106 = .ok (.iconst (-1), 1) := by decide +kernel
theorem dX10_nameOf_107 : decode mX10_nameOf.2.1 107 = .ok (.ireturn, 1) := by decide +kernel
theorem dX10_rank_0 : decode mX10_rank.2.1 0 = .ok (.iload_n 0, 1) := by decide +kernel
theorem dX10_rank_1 : decode mX10_rank.2.1 1 = .ok (.iconst (-1), 1) := by decide +kernel
theorem dX10_rank_2 : decode mX10_rank.2.1 2 = .ok (.if_icmp .ne 7, 3) := by decide +kernel
theorem dX10_rank_5 : decode mX10_rank.2.1 5 = .ok (.iconst 1, 1) := by decide +kernel
theorem dX10_rank_6 : decode mX10_rank.2.1 6 = .ok (.goto 45, 3) := by decide +kernel
theorem dX10_rank_9 : decode mX10_rank.2.1 9 = .ok (.iload_n 0, 1) := by decide +kernel
theorem dX10_rank_10 : decode mX10_rank.2.1 10 = .ok (.bipush (-2), 2) := by decide +kernel
theorem dX10_rank_12 : decode mX10_rank.2.1 12 = .ok (.if_icmp .ne 7, 3) := by decide +kernel
theorem dX10_rank_15 : decode mX10_rank.2.1 15 = .ok (.iconst 2, 1) := by decide +kernel
theorem dX10_rank_16 : decode mX10_rank.2.1 16 = .ok (.goto 35, 3) := by decide +kernel
theorem dX10_rank_19 : decode mX10_rank.2.1 19 = .ok (.iload_n 0, 1) := by decide +kernel
theorem dX10_rank_20 : decode mX10_rank.2.1 20 = .ok (.bipush (-5), 2) := by decide +kernel
theorem dX10_rank_22 : decode mX10_rank.2.1 22 = .ok (.if_icmp .lt 7, 3) := by decide +kernel
theorem dX10_rank_25 : decode mX10_rank.2.1 25 = .ok (.iconst 3, 1) := by decide +kernel
theorem dX10_rank_26 : decode mX10_rank.2.1 26 = .ok (.goto 25, 3) := by decide +kernel
theorem dX10_rank_29 : decode mX10_rank.2.1 29 = .ok (.iload_n 0, 1) := by decide +kernel
theorem dX10_rank_30 : decode mX10_rank.2.1 30 = .ok (.bipush (-7), 2) := by decide +kernel
theorem dX10_rank_32 : decode mX10_rank.2.1 32 = .ok (.if_icmp .lt 7, 3) := by decide +kernel
theorem dX10_rank_35 : decode mX10_rank.2.1 35 = .ok (.iconst 4, 1) := by decide +kernel
theorem dX10_rank_36 : decode mX10_rank.2.1 36 = .ok (.goto 15, 3) := by decide +kernel
theorem dX10_rank_39 : decode mX10_rank.2.1 39 = .ok (.iload_n 0, 1) := by decide +kernel
theorem dX10_rank_40 : decode mX10_rank.2.1 40 = .ok (.bipush (-9), 2) := by decide +kernel
theorem dX10_rank_42 : decode mX10_rank.2.1 42 = .ok (.if_icmp .lt 7, 3) := by decide +kernel
theorem dX10_rank_45 : decode mX10_rank.2.1 45 = .ok (.iconst 5, 1) := by decide +kernel
theorem dX10_rank_46 : decode mX10_rank.2.1 46 = .ok (.goto 5, 3) := by decide +kernel
theorem dX10_rank_49 : decode mX10_rank.2.1 49 = .ok (.bipush 6, 2) := by decide +kernel
theorem dX10_rank_51 : decode mX10_rank.2.1 51 = .ok (.ireturn, 1) := by decide +kernel
theorem dX10_settle_0 : decode mX10_settle.2.1 0 = .ok (.aload_n 0, 1) := by decide +kernel
theorem dX10_settle_1 : decode mX10_settle.2.1 1 = .ok (.getfield 238, 3) := by decide +kernel
theorem dX10_settle_4 : decode mX10_settle.2.1 4 = .ok (.ifCond .le 78, 3) := by decide +kernel
theorem dX10_settle_7 : decode mX10_settle.2.1 7 = .ok (.aload_n 0, 1) := by decide +kernel
theorem dX10_settle_8 : decode mX10_settle.2.1 8 = .ok (.getfield 57, 3) := by decide +kernel
theorem dX10_settle_11 : decode mX10_settle.2.1 11 = .ok (.aload_n 0, 1) := by decide +kernel
theorem dX10_settle_12 : decode mX10_settle.2.1 12 = .ok (.getfield 238, 3) := by decide +kernel
theorem dX10_settle_15 : decode mX10_settle.2.1 15 = .ok (.iconst 1, 1) := by decide +kernel
theorem dX10_settle_16 : decode mX10_settle.2.1 16 = .ok (.isub, 1) := by decide +kernel
theorem dX10_settle_17 : decode mX10_settle.2.1 17 = .ok (.iaload, 1) := by decide +kernel
theorem dX10_settle_18 : decode mX10_settle.2.1 18 = .ok (.bipush (-11), 2) := by decide +kernel
theorem dX10_settle_20 : decode mX10_settle.2.1 20 = .ok (.if_icmp .eq 62, 3) := by decide +kernel
theorem dX10_settle_23 : decode mX10_settle.2.1 23 = .ok (.aload_n 0, 1) := by decide +kernel
theorem dX10_settle_24 : decode mX10_settle.2.1 24 = .ok (.getfield 57, 3) := by decide +kernel
theorem dX10_settle_27 : decode mX10_settle.2.1 27 = .ok (.aload_n 0, 1) := by decide +kernel
theorem dX10_settle_28 : decode mX10_settle.2.1 28 = .ok (.getfield 238, 3) := by decide +kernel
theorem dX10_settle_31 : decode mX10_settle.2.1 31 = .ok (.iconst 1, 1) := by decide +kernel
theorem dX10_settle_32 : decode mX10_settle.2.1 32 = .ok (.isub, 1) := by decide +kernel
theorem dX10_settle_33 : decode mX10_settle.2.1 33 = .ok (.iaload, 1) := by decide +kernel
theorem dX10_settle_34 : decode mX10_settle.2.1 34 = .ok (.invokestatic 241, 3) := by decide +kernel
theorem dX10_settle_37 : decode mX10_settle.2.1 37 = .ok (.iload_n 1, 1) := by decide +kernel
theorem dX10_settle_38 : decode mX10_settle.2.1 38 = .ok (.if_icmp .lt 44, 3) := by decide +kernel
theorem dX10_settle_41 : decode mX10_settle.2.1 41 = .ok (.aload_n 0, 1) := by decide +kernel
theorem dX10_settle_42 : decode mX10_settle.2.1 42 = .ok (.dup, 1) := by decide +kernel
theorem dX10_settle_43 : decode mX10_settle.2.1 43 = .ok (.getfield 238, 3) := by decide +kernel
theorem dX10_settle_46 : decode mX10_settle.2.1 46 = .ok (.iconst 1, 1) := by decide +kernel
theorem dX10_settle_47 : decode mX10_settle.2.1 47 = .ok (.isub, 1) := by decide +kernel
theorem dX10_settle_48 : decode mX10_settle.2.1 48 = .ok (.putfield 238, 3) := by decide +kernel
theorem dX10_settle_51 : decode mX10_settle.2.1 51 = .ok (.aload_n 0, 1) := by decide +kernel
theorem dX10_settle_52 : decode mX10_settle.2.1 52 = .ok (.getfield 54, 3) := by decide +kernel
theorem dX10_settle_55 : decode mX10_settle.2.1 55 = .ok (.aload_n 0, 1) := by decide +kernel
theorem dX10_settle_56 : decode mX10_settle.2.1 56 = .ok (.getfield 244, 3) := by decide +kernel
theorem dX10_settle_59 : decode mX10_settle.2.1 59 = .ok (.aload_n 0, 1) := by decide +kernel
theorem dX10_settle_60 : decode mX10_settle.2.1 60 = .ok (.getfield 57, 3) := by decide +kernel
theorem dX10_settle_63 : decode mX10_settle.2.1 63 = .ok (.aload_n 0, 1) := by decide +kernel
theorem dX10_settle_64 : decode mX10_settle.2.1 64 = .ok (.getfield 238, 3) := by decide +kernel
theorem dX10_settle_67 : decode mX10_settle.2.1 67 = .ok (.iaload, 1) := by decide +kernel
theorem dX10_settle_68 : decode mX10_settle.2.1 68 = .ok (.iastore, 1) := by decide +kernel
theorem dX10_settle_69 : decode mX10_settle.2.1 69 = .ok (.aload_n 0, 1) := by decide +kernel
theorem dX10_settle_70 : decode mX10_settle.2.1 70 = .ok (.dup, 1) := by decide +kernel
theorem dX10_settle_71 : decode mX10_settle.2.1 71 = .ok (.getfield 244, 3) := by decide +kernel
theorem dX10_settle_74 : decode mX10_settle.2.1 74 = .ok (.iconst 1, 1) := by decide +kernel
theorem dX10_settle_75 : decode mX10_settle.2.1 75 = .ok (.iadd, 1) := by decide +kernel
theorem dX10_settle_76 : decode mX10_settle.2.1 76 = .ok (.putfield 244, 3) := by decide +kernel
theorem dX10_settle_79 : decode mX10_settle.2.1 79 = .ok (.goto (-79), 3) := by decide +kernel
theorem dX10_settle_82 : decode mX10_settle.2.1 82 = .ok (.return_, 1) := by decide +kernel
theorem dX10_signHere_0 : decode mX10_signHere.2.1 0 = .ok (.aload_n 0, 1) := by decide +kernel
theorem dX10_signHere_1 : decode mX10_signHere.2.1 1 = .ok (.getfield 220, 3) := by decide +kernel
theorem dX10_signHere_4 : decode mX10_signHere.2.1 4 = .ok (.iconst 3, 1) := by decide +kernel
theorem dX10_signHere_5 : decode mX10_signHere.2.1 5 = .ok (.if_icmp .eq 5, 3) := by decide +kernel
theorem dX10_signHere_8 : decode mX10_signHere.2.1 8 = .ok (.iconst 0, 1) := by decide +kernel
theorem dX10_signHere_9 : decode mX10_signHere.2.1 9 = .ok (.ireturn, 1) := by decide +kernel
theorem dX10_signHere_10 : decode mX10_signHere.2.1 10 = .ok (.aload_n 0, 1) := by decide +kernel
theorem dX10_signHere_11 : decode mX10_signHere.2.1 11 = .ok (.getfield 226, 3) := by decide +kernel
theorem dX10_signHere_14 : decode mX10_signHere.2.1 14 = .ok (.lookupswitch 108 #[(38, 84), (42, 102), (43, 96), (45, 99), (47, 105), (60, 87), (61, 90), (62, 93), (124, 82)], 82) := by decide +kernel
theorem dX10_signHere_96 : decode mX10_signHere.2.1 96 = .ok (.iconst (-1), 1) := by decide +kernel
theorem dX10_signHere_97 : decode mX10_signHere.2.1 97 = .ok (.ireturn, 1) := by decide +kernel
theorem dX10_signHere_98 : decode mX10_signHere.2.1 98 = .ok (.bipush (-2), 2) := by decide +kernel
theorem dX10_signHere_100 : decode mX10_signHere.2.1 100 = .ok (.ireturn, 1) := by decide +kernel
theorem dX10_signHere_101 : decode mX10_signHere.2.1 101 = .ok (.bipush (-3), 2) := by decide +kernel
theorem dX10_signHere_103 : decode mX10_signHere.2.1 103 = .ok (.ireturn, 1) := by decide +kernel
theorem dX10_signHere_104 : decode mX10_signHere.2.1 104 = .ok (.bipush (-4), 2) := by decide +kernel
theorem dX10_signHere_106 : decode mX10_signHere.2.1 106 = .ok (.ireturn, 1) := by decide +kernel
theorem dX10_signHere_107 : decode mX10_signHere.2.1 107 = .ok (.bipush (-5), 2) := by decide +kernel
theorem dX10_signHere_109 : decode mX10_signHere.2.1 109 = .ok (.ireturn, 1) := by decide +kernel
theorem dX10_signHere_110 : decode mX10_signHere.2.1 110 = .ok (.bipush (-6), 2) := by decide +kernel
theorem dX10_signHere_112 : decode mX10_signHere.2.1 112 = .ok (.ireturn, 1) := by decide +kernel
theorem dX10_signHere_113 : decode mX10_signHere.2.1 113 = .ok (.bipush (-7), 2) := by decide +kernel
theorem dX10_signHere_115 : decode mX10_signHere.2.1 115 = .ok (.ireturn, 1) := by decide +kernel
theorem dX10_signHere_116 : decode mX10_signHere.2.1 116 = .ok (.bipush (-8), 2) := by decide +kernel
theorem dX10_signHere_118 : decode mX10_signHere.2.1 118 = .ok (.ireturn, 1) := by decide +kernel
theorem dX10_signHere_119 : decode mX10_signHere.2.1 119 = .ok (.bipush (-9), 2) := by decide +kernel
theorem dX10_signHere_121 : decode mX10_signHere.2.1 121 = .ok (.ireturn, 1) := by decide +kernel
theorem dX10_signHere_122 : decode mX10_signHere.2.1 122 = .ok (.iconst 0, 1) := by decide +kernel
theorem dX10_signHere_123 : decode mX10_signHere.2.1 123 = .ok (.ireturn, 1) := by decide +kernel
theorem dX10_takesPart_0 : decode mX10_takesPart.2.1 0 = .ok (.aload_n 0, 1) := by decide +kernel
theorem dX10_takesPart_1 : decode mX10_takesPart.2.1 1 = .ok (.getfield 220, 3) := by decide +kernel
theorem dX10_takesPart_4 : decode mX10_takesPart.2.1 4 = .ok (.iconst 1, 1) := by decide +kernel
theorem dX10_takesPart_5 : decode mX10_takesPart.2.1 5 = .ok (.if_icmp .ne 31, 3) := by decide +kernel
theorem dX10_takesPart_8 : decode mX10_takesPart.2.1 8 = .ok (.aload_n 0, 1) := by decide +kernel
theorem dX10_takesPart_9 : decode mX10_takesPart.2.1 9 = .ok (.getfield 211, 3) := by decide +kernel
theorem dX10_takesPart_12 : decode mX10_takesPart.2.1 12 = .ok (.aload_n 0, 1) := by decide +kernel
theorem dX10_takesPart_13 : decode mX10_takesPart.2.1 13 = .ok (.getfield 214, 3) := by decide +kernel
theorem dX10_takesPart_16 : decode mX10_takesPart.2.1 16 = .ok (.isub, 1) := by decide +kernel
theorem dX10_takesPart_17 : decode mX10_takesPart.2.1 17 = .ok (.iconst 1, 1) := by decide +kernel
theorem dX10_takesPart_18 : decode mX10_takesPart.2.1 18 = .ok (.if_icmp .ne 18, 3) := by decide +kernel
theorem dX10_takesPart_21 : decode mX10_takesPart.2.1 21 = .ok (.aload_n 0, 1) := by decide +kernel
theorem dX10_takesPart_22 : decode mX10_takesPart.2.1 22 = .ok (.aload_n 0, 1) := by decide +kernel
theorem dX10_takesPart_23 : decode mX10_takesPart.2.1 23 = .ok (.getfield 226, 3) := by decide +kernel
theorem dX10_takesPart_26 : decode mX10_takesPart.2.1 26 = .ok (.invokevirtual 247, 3) := by decide +kernel
theorem dX10_takesPart_29 : decode mX10_takesPart.2.1 29 = .ok (.ifCond .lt 7, 3) := by decide +kernel
theorem dX10_takesPart_32 : decode mX10_takesPart.2.1 32 = .ok (.iconst 1, 1) := by decide +kernel
theorem dX10_takesPart_33 : decode mX10_takesPart.2.1 33 = .ok (.goto 4, 3) := by decide +kernel
theorem dX10_takesPart_36 : decode mX10_takesPart.2.1 36 = .ok (.iconst 0, 1) := by decide +kernel
theorem dX10_takesPart_37 : decode mX10_takesPart.2.1 37 = .ok (.istore_n 1, 1) := by decide +kernel
theorem dX10_takesPart_38 : decode mX10_takesPart.2.1 38 = .ok (.aload_n 0, 1) := by decide +kernel
theorem dX10_takesPart_39 : decode mX10_takesPart.2.1 39 = .ok (.getfield 220, 3) := by decide +kernel
theorem dX10_takesPart_42 : decode mX10_takesPart.2.1 42 = .ok (.iconst 2, 1) := by decide +kernel
theorem dX10_takesPart_43 : decode mX10_takesPart.2.1 43 = .ok (.if_icmp .eq 9, 3) := by decide +kernel
theorem dX10_takesPart_46 : decode mX10_takesPart.2.1 46 = .ok (.iload_n 1, 1) := by decide +kernel
theorem dX10_takesPart_47 : decode mX10_takesPart.2.1 47 = .ok (.ifCond .ne 5, 3) := by decide +kernel
theorem dX10_takesPart_50 : decode mX10_takesPart.2.1 50 = .ok (.iconst 0, 1) := by decide +kernel
theorem dX10_takesPart_51 : decode mX10_takesPart.2.1 51 = .ok (.ireturn, 1) := by decide +kernel
theorem dX10_takesPart_52 : decode mX10_takesPart.2.1 52 = .ok (.aload_n 0, 1) := by decide +kernel
theorem dX10_takesPart_53 : decode mX10_takesPart.2.1 53 = .ok (.getfield 54, 3) := by decide +kernel
theorem dX10_takesPart_56 : decode mX10_takesPart.2.1 56 = .ok (.aload_n 0, 1) := by decide +kernel
theorem dX10_takesPart_57 : decode mX10_takesPart.2.1 57 = .ok (.getfield 244, 3) := by decide +kernel
theorem dX10_takesPart_60 : decode mX10_takesPart.2.1 60 = .ok (.aload_n 0, 1) := by decide +kernel
theorem dX10_takesPart_61 : decode mX10_takesPart.2.1 61 = .ok (.getfield 220, 3) := by decide +kernel
theorem dX10_takesPart_64 : decode mX10_takesPart.2.1 64 = .ok (.iconst 2, 1) := by decide +kernel
theorem dX10_takesPart_65 : decode mX10_takesPart.2.1 65 = .ok (.if_icmp .ne 10, 3) := by decide +kernel
theorem dX10_takesPart_68 : decode mX10_takesPart.2.1 68 = .ok (.aload_n 0, 1) := by decide +kernel
theorem dX10_takesPart_69 : decode mX10_takesPart.2.1 69 = .ok (.getfield 226, 3) := by decide +kernel
theorem dX10_takesPart_72 : decode mX10_takesPart.2.1 72 = .ok (.goto 15, 3) := by decide +kernel
theorem dX10_takesPart_75 : decode mX10_takesPart.2.1 75 = .ok (.sipush 10000, 3) := by decide +kernel
theorem dX10_takesPart_78 : decode mX10_takesPart.2.1 78 = .ok (.aload_n 0, 1) := by decide +kernel
theorem dX10_takesPart_79 : decode mX10_takesPart.2.1 79 = .ok (.aload_n 0, 1) := by decide +kernel
theorem dX10_takesPart_80 : decode mX10_takesPart.2.1 80 = .ok (.getfield 226, 3) := by decide +kernel
theorem dX10_takesPart_83 : decode mX10_takesPart.2.1 83 = .ok (.invokevirtual 247, 3) := by decide +kernel
theorem dX10_takesPart_86 : decode mX10_takesPart.2.1 86 = .ok (.iadd, 1) := by decide +kernel
theorem dX10_takesPart_87 : decode mX10_takesPart.2.1 87 = .ok (.iastore, 1) := by decide +kernel
theorem dX10_takesPart_88 : decode mX10_takesPart.2.1 88 = .ok (.aload_n 0, 1) := by decide +kernel
theorem dX10_takesPart_89 : decode mX10_takesPart.2.1 89 = .ok (.dup, 1) := by decide +kernel
theorem dX10_takesPart_90 : decode mX10_takesPart.2.1 90 = .ok (.getfield 244, 3) := by decide +kernel
theorem dX10_takesPart_93 : decode mX10_takesPart.2.1 93 = .ok (.iconst 1, 1) := by decide +kernel
theorem dX10_takesPart_94 : decode mX10_takesPart.2.1 94 = .ok (.iadd, 1) := by decide +kernel
theorem dX10_takesPart_95 : decode mX10_takesPart.2.1 95 = .ok (.putfield 244, 3) := by decide +kernel
theorem dX10_takesPart_98 : decode mX10_takesPart.2.1 98 = .ok (.aload_n 0, 1) := by decide +kernel
theorem dX10_takesPart_99 : decode mX10_takesPart.2.1 99 = .ok (.dup, 1) := by decide +kernel
theorem dX10_takesPart_100 : decode mX10_takesPart.2.1 100 = .ok (.getfield 250, 3) := by decide +kernel
theorem dX10_takesPart_103 : decode mX10_takesPart.2.1 103 = .ok (.iconst 1, 1) := by decide +kernel
theorem dX10_takesPart_104 : decode mX10_takesPart.2.1 104 = .ok (.iadd, 1) := by decide +kernel
theorem dX10_takesPart_105 : decode mX10_takesPart.2.1 105 = .ok (.putfield 250, 3) := by decide +kernel
theorem dX10_takesPart_108 : decode mX10_takesPart.2.1 108 = .ok (.aload_n 0, 1) := by decide +kernel
theorem dX10_takesPart_109 : decode mX10_takesPart.2.1 109 = .ok (.bipush 6, 2) := by decide +kernel
theorem dX10_takesPart_111 : decode mX10_takesPart.2.1 111 = .ok (.invokevirtual 253, 3) := by decide +kernel
theorem dX10_takesPart_114 : decode mX10_takesPart.2.1 114 = .ok (.aload_n 0, 1) := by decide +kernel
theorem dX10_takesPart_115 : decode mX10_takesPart.2.1 115 = .ok (.invokevirtual 235, 3) := by decide +kernel
theorem dX10_takesPart_118 : decode mX10_takesPart.2.1 118 = .ok (.iconst 1, 1) := by decide +kernel
theorem dX10_takesPart_119 : decode mX10_takesPart.2.1 119 = .ok (.ireturn, 1) := by decide +kernel
theorem dX10_takesE_0 : decode mX10_takesE.2.1 0 = .ok (.iconst 0, 1) := by decide +kernel
theorem dX10_takesE_1 : decode mX10_takesE.2.1 1 = .ok (.istore_n 1, 1) := by decide +kernel
theorem dX10_takesE_2 : decode mX10_takesE.2.1 2 = .ok (.iconst 0, 1) := by decide +kernel
theorem dX10_takesE_3 : decode mX10_takesE.2.1 3 = .ok (.istore_n 2, 1) := by decide +kernel
theorem dX10_takesE_4 : decode mX10_takesE.2.1 4 = .ok (.iconst 1, 1) := by decide +kernel
theorem dX10_takesE_5 : decode mX10_takesE.2.1 5 = .ok (.istore_n 3, 1) := by decide +kernel
theorem dX10_takesE_6 : decode mX10_takesE.2.1 6 = .ok (.aload_n 0, 1) := by decide +kernel
theorem dX10_takesE_7 : decode mX10_takesE.2.1 7 = .ok (.iconst 0, 1) := by decide +kernel
theorem dX10_takesE_8 : decode mX10_takesE.2.1 8 = .ok (.putfield 244, 3) := by decide +kernel
theorem dX10_takesE_11 : decode mX10_takesE.2.1 11 = .ok (.aload_n 0, 1) := by decide +kernel
theorem dX10_takesE_12 : decode mX10_takesE.2.1 12 = .ok (.iconst 0, 1) := by decide +kernel
theorem dX10_takesE_13 : decode mX10_takesE.2.1 13 = .ok (.putfield 250, 3) := by decide +kernel
theorem dX10_takesE_16 : decode mX10_takesE.2.1 16 = .ok (.aload_n 0, 1) := by decide +kernel
theorem dX10_takesE_17 : decode mX10_takesE.2.1 17 = .ok (.iconst 0, 1) := by decide +kernel
theorem dX10_takesE_18 : decode mX10_takesE.2.1 18 = .ok (.putfield 238, 3) := by decide +kernel
theorem dX10_takesE_21 : decode mX10_takesE.2.1 21 = .ok (.aload_n 0, 1) := by decide +kernel
theorem dX10_takesE_22 : decode mX10_takesE.2.1 22 = .ok (.getfield 60, 3) := by decide +kernel
theorem dX10_takesE_25 : decode mX10_takesE.2.1 25 = .ok (.iconst 0, 1) := by decide +kernel
theorem dX10_takesE_26 : decode mX10_takesE.2.1 26 = .ok (.iconst 0, 1) := by decide +kernel
theorem dX10_takesE_27 : decode mX10_takesE.2.1 27 = .ok (.bastore, 1) := by decide +kernel
theorem dX10_takesE_28 : decode mX10_takesE.2.1 28 = .ok (.iload_n 3, 1) := by decide +kernel
theorem dX10_takesE_29 : decode mX10_takesE.2.1 29 = .ok (.ifCond .ne 10, 3) := by decide +kernel
theorem dX10_takesE_32 : decode mX10_takesE.2.1 32 = .ok (.aload_n 0, 1) := by decide +kernel
theorem dX10_takesE_33 : decode mX10_takesE.2.1 33 = .ok (.getfield 220, 3) := by decide +kernel
theorem dX10_takesE_36 : decode mX10_takesE.2.1 36 = .ok (.ifCond .eq 309, 3) := by decide +kernel
theorem dX10_takesE_39 : decode mX10_takesE.2.1 39 = .ok (.iload_n 3, 1) := by decide +kernel
theorem dX10_takesE_40 : decode mX10_takesE.2.1 40 = .ok (.ifCond .eq 140, 3) := by decide +kernel
theorem dX10_takesE_43 : decode mX10_takesE.2.1 43 = .ok (.aload_n 0, 1) := by decide +kernel
theorem dX10_takesE_44 : decode mX10_takesE.2.1 44 = .ok (.getfield 220, 3) := by decide +kernel
theorem dX10_takesE_47 : decode mX10_takesE.2.1 47 = .ok (.iconst 3, 1) := by decide +kernel
theorem dX10_takesE_48 : decode mX10_takesE.2.1 48 = .ok (.if_icmp .ne 49, 3) := by decide +kernel
theorem dX10_takesE_51 : decode mX10_takesE.2.1 51 = .ok (.aload_n 0, 1) := by decide +kernel
theorem dX10_takesE_52 : decode mX10_takesE.2.1 52 = .ok (.getfield 226, 3) := by decide +kernel
theorem dX10_takesE_55 : decode mX10_takesE.2.1 55 = .ok (.bipush 33, 2) := by decide +kernel
theorem dX10_takesE_57 : decode mX10_takesE.2.1 57 = .ok (.if_icmp .ne 40, 3) := by decide +kernel
theorem dX10_takesE_60 : decode mX10_takesE.2.1 60 = .ok (.iload_n 2, 1) := by decide +kernel
theorem dX10_takesE_61 : decode mX10_takesE.2.1 61 = .ok (.bipush 8, 2) := by decide +kernel
theorem dX10_takesE_63 : decode mX10_takesE.2.1 63 = .ok (.if_icmp .ge 34, 3) := by decide +kernel
theorem dX10_takesE_66 : decode mX10_takesE.2.1 66 = .ok (.aload_n 0, 1) := by decide +kernel
theorem dX10_takesE_67 : decode mX10_takesE.2.1 67 = .ok (.getfield 57, 3) := by decide +kernel
theorem dX10_takesE_70 : decode mX10_takesE.2.1 70 = .ok (.aload_n 0, 1) := by decide +kernel
theorem dX10_takesE_71 : decode mX10_takesE.2.1 71 = .ok (.getfield 238, 3) := by decide +kernel
theorem dX10_takesE_74 : decode mX10_takesE.2.1 74 = .ok (.bipush (-10), 2) := by decide +kernel
theorem dX10_takesE_76 : decode mX10_takesE.2.1 76 = .ok (.iastore, 1) := by decide +kernel
theorem dX10_takesE_77 : decode mX10_takesE.2.1 77 = .ok (.aload_n 0, 1) := by decide +kernel
theorem dX10_takesE_78 : decode mX10_takesE.2.1 78 = .ok (.dup, 1) := by decide +kernel
theorem dX10_takesE_79 : decode mX10_takesE.2.1 79 = .ok (.getfield 238, 3) := by decide +kernel
theorem dX10_takesE_82 : decode mX10_takesE.2.1 82 = .ok (.iconst 1, 1) := by decide +kernel
theorem dX10_takesE_83 : decode mX10_takesE.2.1 83 = .ok (.iadd, 1) := by decide +kernel
theorem dX10_takesE_84 : decode mX10_takesE.2.1 84 = .ok (.putfield 238, 3) := by decide +kernel
theorem dX10_takesE_87 : decode mX10_takesE.2.1 87 = .ok (.iinc 2 1, 3) := by decide +kernel
theorem dX10_takesE_90 : decode mX10_takesE.2.1 90 = .ok (.aload_n 0, 1) := by decide +kernel
theorem dX10_takesE_91 : decode mX10_takesE.2.1 91 = .ok (.invokevirtual 235, 3) := by decide +kernel
theorem dX10_takesE_94 : decode mX10_takesE.2.1 94 = .ok (.goto 78, 3) := by decide +kernel
theorem dX10_takesE_97 : decode mX10_takesE.2.1 97 = .ok (.aload_n 0, 1) := by decide +kernel
theorem dX10_takesE_98 : decode mX10_takesE.2.1 98 = .ok (.getfield 220, 3) := by decide +kernel
theorem dX10_takesE_101 : decode mX10_takesE.2.1 101 = .ok (.iconst 3, 1) := by decide +kernel
theorem dX10_takesE_102 : decode mX10_takesE.2.1 102 = .ok (.if_icmp .ne 56, 3) := by decide +kernel
theorem dX10_takesE_105 : decode mX10_takesE.2.1 105 = .ok (.aload_n 0, 1) := by decide +kernel
theorem dX10_takesE_106 : decode mX10_takesE.2.1 106 = .ok (.getfield 226, 3) := by decide +kernel
theorem dX10_takesE_109 : decode mX10_takesE.2.1 109 = .ok (.bipush 40, 2) := by decide +kernel
theorem dX10_takesE_111 : decode mX10_takesE.2.1 111 = .ok (.if_icmp .ne 47, 3) := by decide +kernel
theorem dX10_takesE_114 : decode mX10_takesE.2.1 114 = .ok (.iload_n 1, 1) := by decide +kernel
theorem dX10_takesE_115 : decode mX10_takesE.2.1 115 = .ok (.bipush 8, 2) := by decide +kernel
theorem dX10_takesE_117 : decode mX10_takesE.2.1 117 = .ok (.if_icmp .ge 41, 3) := by decide +kernel
theorem dX10_takesE_120 : decode mX10_takesE.2.1 120 = .ok (.aload_n 0, 1) := by decide +kernel
theorem dX10_takesE_121 : decode mX10_takesE.2.1 121 = .ok (.getfield 57, 3) := by decide +kernel
theorem dX10_takesE_124 : decode mX10_takesE.2.1 124 = .ok (.aload_n 0, 1) := by decide +kernel
theorem dX10_takesE_125 : decode mX10_takesE.2.1 125 = .ok (.getfield 238, 3) := by decide +kernel
theorem dX10_takesE_128 : decode mX10_takesE.2.1 128 = .ok (.bipush (-11), 2) := by decide +kernel
theorem dX10_takesE_130 : decode mX10_takesE.2.1 130 = .ok (.iastore, 1) := by decide +kernel
theorem dX10_takesE_131 : decode mX10_takesE.2.1 131 = .ok (.aload_n 0, 1) := by decide +kernel
theorem dX10_takesE_132 : decode mX10_takesE.2.1 132 = .ok (.dup, 1) := by decide +kernel
theorem dX10_takesE_133 : decode mX10_takesE.2.1 133 = .ok (.getfield 238, 3) := by decide +kernel
theorem dX10_takesE_136 : decode mX10_takesE.2.1 136 = .ok (.iconst 1, 1) := by decide +kernel
theorem dX10_takesE_137 : decode mX10_takesE.2.1 137 = .ok (.iadd, 1) := by decide +kernel
theorem dX10_takesE_138 : decode mX10_takesE.2.1 138 = .ok (.putfield 238, 3) := by decide +kernel
theorem dX10_takesE_141 : decode mX10_takesE.2.1 141 = .ok (.iinc 1 1, 3) := by decide +kernel
theorem dX10_takesE_144 : decode mX10_takesE.2.1 144 = .ok (.aload_n 0, 1) := by decide +kernel
theorem dX10_takesE_145 : decode mX10_takesE.2.1 145 = .ok (.getfield 60, 3) := by decide +kernel
theorem dX10_takesE_148 : decode mX10_takesE.2.1 148 = .ok (.iload_n 1, 1) := by decide +kernel
theorem dX10_takesE_149 : decode mX10_takesE.2.1 149 = .ok (.iconst 0, 1) := by decide +kernel
theorem dX10_takesE_150 : decode mX10_takesE.2.1 150 = .ok (.bastore, 1) := by decide +kernel
theorem dX10_takesE_151 : decode mX10_takesE.2.1 151 = .ok (.aload_n 0, 1) := by decide +kernel
theorem dX10_takesE_152 : decode mX10_takesE.2.1 152 = .ok (.invokevirtual 235, 3) := by decide +kernel
theorem dX10_takesE_155 : decode mX10_takesE.2.1 155 = .ok (.goto 17, 3) := by decide +kernel
theorem dX10_takesE_158 : decode mX10_takesE.2.1 158 = .ok (.aload_n 0, 1) := by decide +kernel
theorem dX10_takesE_159 : decode mX10_takesE.2.1 159 = .ok (.invokevirtual 256, 3) := by decide +kernel
theorem dX10_takesE_162 : decode mX10_takesE.2.1 162 = .ok (.ifCond .eq 8, 3) := by decide +kernel
theorem dX10_takesE_165 : decode mX10_takesE.2.1 165 = .ok (.iconst 0, 1) := by decide +kernel
theorem dX10_takesE_166 : decode mX10_takesE.2.1 166 = .ok (.istore_n 3, 1) := by decide +kernel
theorem dX10_takesE_167 : decode mX10_takesE.2.1 167 = .ok (.goto 5, 3) := by decide +kernel
theorem dX10_takesE_170 : decode mX10_takesE.2.1 170 = .ok (.iconst 0, 1) := by decide +kernel
theorem dX10_takesE_171 : decode mX10_takesE.2.1 171 = .ok (.ireturn, 1) := by decide +kernel
theorem dX10_takesE_172 : decode mX10_takesE.2.1 172 = .ok (.aload_n 0, 1) := by decide +kernel
theorem dX10_takesE_173 : decode mX10_takesE.2.1 173 = .ok (.invokevirtual 260, 3) := by decide +kernel
theorem dX10_takesE_176 : decode mX10_takesE.2.1 176 = .ok (.istore_n 2, 1) := by decide +kernel
theorem dX10_takesE_177 : decode mX10_takesE.2.1 177 = .ok (.goto (-149), 3) := by decide +kernel
theorem dX10_takesE_180 : decode mX10_takesE.2.1 180 = .ok (.aload_n 0, 1) := by decide +kernel
theorem dX10_takesE_181 : decode mX10_takesE.2.1 181 = .ok (.getfield 220, 3) := by decide +kernel
theorem dX10_takesE_184 : decode mX10_takesE.2.1 184 = .ok (.iconst 3, 1) := by decide +kernel
theorem dX10_takesE_185 : decode mX10_takesE.2.1 185 = .ok (.if_icmp .ne 52, 3) := by decide +kernel
theorem dX10_takesE_188 : decode mX10_takesE.2.1 188 = .ok (.aload_n 0, 1) := by decide +kernel
theorem dX10_takesE_189 : decode mX10_takesE.2.1 189 = .ok (.getfield 226, 3) := by decide +kernel
theorem dX10_takesE_192 : decode mX10_takesE.2.1 192 = .ok (.bipush 41, 2) := by decide +kernel
theorem dX10_takesE_194 : decode mX10_takesE.2.1 194 = .ok (.if_icmp .ne 43, 3) := by decide +kernel
theorem dX10_takesE_197 : decode mX10_takesE.2.1 197 = .ok (.iload_n 1, 1) := by decide +kernel
theorem dX10_takesE_198 : decode mX10_takesE.2.1 198 = .ok (.ifCond .le 39, 3) := by decide +kernel
theorem dX10_takesE_201 : decode mX10_takesE.2.1 201 = .ok (.aload_n 0, 1) := by decide +kernel
theorem dX10_takesE_202 : decode mX10_takesE.2.1 202 = .ok (.iconst 0, 1) := by decide +kernel
theorem dX10_takesE_203 : decode mX10_takesE.2.1 203 = .ok (.invokevirtual 253, 3) := by decide +kernel
theorem dX10_takesE_206 : decode mX10_takesE.2.1 206 = .ok (.aload_n 0, 1) := by decide +kernel
theorem dX10_takesE_207 : decode mX10_takesE.2.1 207 = .ok (.dup, 1) := by decide +kernel
theorem dX10_takesE_208 : decode mX10_takesE.2.1 208 = .ok (.getfield 238, 3) := by decide +kernel
theorem dX10_takesE_211 : decode mX10_takesE.2.1 211 = .ok (.iconst 1, 1) := by decide +kernel
theorem dX10_takesE_212 : decode mX10_takesE.2.1 212 = .ok (.isub, 1) := by decide +kernel
theorem dX10_takesE_213 : decode mX10_takesE.2.1 213 = .ok (.putfield 238, 3) := by decide +kernel
theorem dX10_takesE_216 : decode mX10_takesE.2.1 216 = .ok (.iinc 1 (-1), 3) := by decide +kernel
theorem dX10_takesE_219 : decode mX10_takesE.2.1 219 = .ok (.aload_n 0, 1) := by decide +kernel
theorem dX10_takesE_220 : decode mX10_takesE.2.1 220 = .ok (.bipush 6, 2) := by decide +kernel
theorem dX10_takesE_222 : decode mX10_takesE.2.1 222 = .ok (.invokevirtual 253, 3) := by decide +kernel
theorem dX10_takesE_225 : decode mX10_takesE.2.1 225 = .ok (.aload_n 0, 1) := by decide +kernel
theorem dX10_takesE_226 : decode mX10_takesE.2.1 226 = .ok (.invokevirtual 260, 3) := by decide +kernel
theorem dX10_takesE_229 : decode mX10_takesE.2.1 229 = .ok (.istore_n 2, 1) := by decide +kernel
theorem dX10_takesE_230 : decode mX10_takesE.2.1 230 = .ok (.aload_n 0, 1) := by decide +kernel
theorem dX10_takesE_231 : decode mX10_takesE.2.1 231 = .ok (.invokevirtual 235, 3) := by decide +kernel
theorem dX10_takesE_234 : decode mX10_takesE.2.1 234 = .ok (.goto (-206), 3) := by decide +kernel
theorem dX10_takesE_237 : decode mX10_takesE.2.1 237 = .ok (.aload_n 0, 1) := by decide +kernel
theorem dX10_takesE_238 : decode mX10_takesE.2.1 238 = .ok (.invokevirtual 263, 3) := by decide +kernel
theorem dX10_takesE_241 : decode mX10_takesE.2.1 241 = .ok (.istore 4, 2) := by decide +kernel
theorem dX10_takesE_243 : decode mX10_takesE.2.1 243 = .ok (.iload 4, 2) := by decide +kernel
theorem dX10_takesE_245 : decode mX10_takesE.2.1 245 = .ok (.ifCond .eq 21, 3) := by decide +kernel
theorem dX10_takesE_248 : decode mX10_takesE.2.1 248 = .ok (.iload 4, 2) := by decide +kernel
theorem dX10_takesE_250 : decode mX10_takesE.2.1 250 = .ok (.invokestatic 241, 3) := by decide +kernel
theorem dX10_takesE_253 : decode mX10_takesE.2.1 253 = .ok (.iconst 3, 1) := by decide +kernel
theorem dX10_takesE_254 : decode mX10_takesE.2.1 254 = .ok (.if_icmp .ne 14, 3) := by decide +kernel
theorem dX10_takesE_257 : decode mX10_takesE.2.1 257 = .ok (.aload_n 0, 1) := by decide +kernel
theorem dX10_takesE_258 : decode mX10_takesE.2.1 258 = .ok (.getfield 60, 3) := by decide +kernel
theorem dX10_takesE_261 : decode mX10_takesE.2.1 261 = .ok (.iload_n 1, 1) := by decide +kernel
theorem dX10_takesE_262 : decode mX10_takesE.2.1 262 = .ok (.baload, 1) := by decide +kernel
theorem dX10_takesE_263 : decode mX10_takesE.2.1 263 = .ok (.ifCond .eq 5, 3) := by decide +kernel
theorem dX10_takesE_266 : decode mX10_takesE.2.1 266 = .ok (.iconst 0, 1) := by decide +kernel
theorem dX10_takesE_267 : decode mX10_takesE.2.1 267 = .ok (.ireturn, 1) := by decide +kernel
theorem dX10_takesE_268 : decode mX10_takesE.2.1 268 = .ok (.aload_n 0, 1) := by decide +kernel
theorem dX10_takesE_269 : decode mX10_takesE.2.1 269 = .ok (.getfield 60, 3) := by decide +kernel
theorem dX10_takesE_272 : decode mX10_takesE.2.1 272 = .ok (.iload_n 1, 1) := by decide +kernel
theorem dX10_takesE_273 : decode mX10_takesE.2.1 273 = .ok (.iload 4, 2) := by decide +kernel
theorem dX10_takesE_275 : decode mX10_takesE.2.1 275 = .ok (.invokestatic 241, 3) := by decide +kernel
theorem dX10_takesE_278 : decode mX10_takesE.2.1 278 = .ok (.iconst 3, 1) := by decide +kernel
theorem dX10_takesE_279 : decode mX10_takesE.2.1 279 = .ok (.if_icmp .eq 21, 3) := by decide +kernel
theorem dX10_takesE_282 : decode mX10_takesE.2.1 282 = .ok (.iload 4, 2) := by decide +kernel
theorem dX10_takesE_284 : decode mX10_takesE.2.1 284 = .ok (.invokestatic 241, 3) := by decide +kernel
theorem dX10_takesE_287 : decode mX10_takesE.2.1 287 = .ok (.iconst 3, 1) := by decide +kernel
theorem dX10_takesE_288 : decode mX10_takesE.2.1 288 = .ok (.if_icmp .le 16, 3) := by decide +kernel
theorem dX10_takesE_291 : decode mX10_takesE.2.1 291 = .ok (.aload_n 0, 1) := by decide +kernel
theorem dX10_takesE_292 : decode mX10_takesE.2.1 292 = .ok (.getfield 60, 3) := by decide +kernel
theorem dX10_takesE_295 : decode mX10_takesE.2.1 295 = .ok (.iload_n 1, 1) := by decide +kernel
theorem dX10_takesE_296 : decode mX10_takesE.2.1 296 = .ok (.baload, 1) := by decide +kernel
theorem dX10_takesE_297 : decode mX10_takesE.2.1 297 = .ok (.ifCond .eq 7, 3) := by decide +kernel
theorem dX10_takesE_300 : decode mX10_takesE.2.1 300 = .ok (.iconst 1, 1) := by decide +kernel
theorem dX10_takesE_301 : decode mX10_takesE.2.1 301 = .ok (.goto 4, 3) := by decide +kernel
theorem dX10_takesE_304 : decode mX10_takesE.2.1 304 = .ok (.iconst 0, 1) := by decide +kernel
theorem dX10_takesE_305 : decode mX10_takesE.2.1 305 = .ok (.bastore, 1) := by decide +kernel
theorem dX10_takesE_306 : decode mX10_takesE.2.1 306 = .ok (.aload_n 0, 1) := by decide +kernel
theorem dX10_takesE_307 : decode mX10_takesE.2.1 307 = .ok (.iload 4, 2) := by decide +kernel
theorem dX10_takesE_309 : decode mX10_takesE.2.1 309 = .ok (.invokestatic 241, 3) := by decide +kernel
theorem dX10_takesE_312 : decode mX10_takesE.2.1 312 = .ok (.invokevirtual 253, 3) := by decide +kernel
theorem dX10_takesE_315 : decode mX10_takesE.2.1 315 = .ok (.aload_n 0, 1) := by decide +kernel
theorem dX10_takesE_316 : decode mX10_takesE.2.1 316 = .ok (.getfield 57, 3) := by decide +kernel
theorem dX10_takesE_319 : decode mX10_takesE.2.1 319 = .ok (.aload_n 0, 1) := by decide +kernel
theorem dX10_takesE_320 : decode mX10_takesE.2.1 320 = .ok (.getfield 238, 3) := by decide +kernel
theorem dX10_takesE_323 : decode mX10_takesE.2.1 323 = .ok (.iload 4, 2) := by decide +kernel
theorem dX10_takesE_325 : decode mX10_takesE.2.1 325 = .ok (.iastore, 1) := by decide +kernel
theorem dX10_takesE_326 : decode mX10_takesE.2.1 326 = .ok (.aload_n 0, 1) := by decide +kernel
theorem dX10_takesE_327 : decode mX10_takesE.2.1 327 = .ok (.dup, 1) := by decide +kernel
theorem dX10_takesE_328 : decode mX10_takesE.2.1 328 = .ok (.getfield 238, 3) := by decide +kernel
theorem dX10_takesE_331 : decode mX10_takesE.2.1 331 = .ok (.iconst 1, 1) := by decide +kernel
theorem dX10_takesE_332 : decode mX10_takesE.2.1 332 = .ok (.iadd, 1) := by decide +kernel
theorem dX10_takesE_333 : decode mX10_takesE.2.1 333 = .ok (.putfield 238, 3) := by decide +kernel
theorem dX10_takesE_336 : decode mX10_takesE.2.1 336 = .ok (.iconst 1, 1) := by decide +kernel
theorem dX10_takesE_337 : decode mX10_takesE.2.1 337 = .ok (.istore_n 3, 1) := by decide +kernel
theorem dX10_takesE_338 : decode mX10_takesE.2.1 338 = .ok (.aload_n 0, 1) := by decide +kernel
theorem dX10_takesE_339 : decode mX10_takesE.2.1 339 = .ok (.invokevirtual 235, 3) := by decide +kernel
theorem dX10_takesE_342 : decode mX10_takesE.2.1 342 = .ok (.goto (-314), 3) := by decide +kernel
theorem dX10_takesE_345 : decode mX10_takesE.2.1 345 = .ok (.aload_n 0, 1) := by decide +kernel
theorem dX10_takesE_346 : decode mX10_takesE.2.1 346 = .ok (.iconst 0, 1) := by decide +kernel
theorem dX10_takesE_347 : decode mX10_takesE.2.1 347 = .ok (.invokevirtual 253, 3) := by decide +kernel
theorem dX10_takesE_350 : decode mX10_takesE.2.1 350 = .ok (.iload_n 1, 1) := by decide +kernel
theorem dX10_takesE_351 : decode mX10_takesE.2.1 351 = .ok (.ifCond .ne 7, 3) := by decide +kernel
theorem dX10_takesE_354 : decode mX10_takesE.2.1 354 = .ok (.iconst 1, 1) := by decide +kernel
theorem dX10_takesE_355 : decode mX10_takesE.2.1 355 = .ok (.goto 4, 3) := by decide +kernel
theorem dX10_takesE_358 : decode mX10_takesE.2.1 358 = .ok (.iconst 0, 1) := by decide +kernel
theorem dX10_takesE_359 : decode mX10_takesE.2.1 359 = .ok (.ireturn, 1) := by decide +kernel
theorem dX10_notsOpen_0 : decode mX10_notsOpen.2.1 0 = .ok (.iconst 0, 1) := by decide +kernel
theorem dX10_notsOpen_1 : decode mX10_notsOpen.2.1 1 = .ok (.istore_n 1, 1) := by decide +kernel
theorem dX10_notsOpen_2 : decode mX10_notsOpen.2.1 2 = .ok (.iconst 0, 1) := by decide +kernel
theorem dX10_notsOpen_3 : decode mX10_notsOpen.2.1 3 = .ok (.istore_n 2, 1) := by decide +kernel
theorem dX10_notsOpen_4 : decode mX10_notsOpen.2.1 4 = .ok (.iload_n 2, 1) := by decide +kernel
theorem dX10_notsOpen_5 : decode mX10_notsOpen.2.1 5 = .ok (.aload_n 0, 1) := by decide +kernel
theorem dX10_notsOpen_6 : decode mX10_notsOpen.2.1 6 = .ok (.getfield 238, 3) := by decide +kernel
theorem dX10_notsOpen_9 : decode mX10_notsOpen.2.1 9 = .ok (.if_icmp .ge 28, 3) := by decide +kernel
theorem dX10_notsOpen_12 : decode mX10_notsOpen.2.1 12 = .ok (.iload_n 1, 1) := by decide +kernel
theorem dX10_notsOpen_13 : decode mX10_notsOpen.2.1 13 = .ok (.aload_n 0, 1) := by decide +kernel
theorem dX10_notsOpen_14 : decode mX10_notsOpen.2.1 14 = .ok (.getfield 57, 3) := by decide +kernel
theorem dX10_notsOpen_17 : decode mX10_notsOpen.2.1 17 = .ok (.iload_n 2, 1) := by decide +kernel
theorem dX10_notsOpen_18 : decode mX10_notsOpen.2.1 18 = .ok (.iaload, 1) := by decide +kernel
theorem dX10_notsOpen_19 : decode mX10_notsOpen.2.1 19 = .ok (.bipush (-10), 2) := by decide +kernel
theorem dX10_notsOpen_21 : decode mX10_notsOpen.2.1 21 = .ok (.if_icmp .ne 7, 3) := by decide +kernel
theorem dX10_notsOpen_24 : decode mX10_notsOpen.2.1 24 = .ok (.iconst 1, 1) := by decide +kernel
theorem dX10_notsOpen_25 : decode mX10_notsOpen.2.1 25 = .ok (.goto 4, 3) := by decide +kernel
theorem dX10_notsOpen_28 : decode mX10_notsOpen.2.1 28 = .ok (.iconst 0, 1) := by decide +kernel
theorem dX10_notsOpen_29 : decode mX10_notsOpen.2.1 29 = .ok (.iadd, 1) := by decide +kernel
theorem dX10_notsOpen_30 : decode mX10_notsOpen.2.1 30 = .ok (.istore_n 1, 1) := by decide +kernel
theorem dX10_notsOpen_31 : decode mX10_notsOpen.2.1 31 = .ok (.iinc 2 1, 3) := by decide +kernel
theorem dX10_notsOpen_34 : decode mX10_notsOpen.2.1 34 = .ok (.goto (-30), 3) := by decide +kernel
theorem dX10_notsOpen_37 : decode mX10_notsOpen.2.1 37 = .ok (.iload_n 1, 1) := by decide +kernel
theorem dX10_notsOpen_38 : decode mX10_notsOpen.2.1 38 = .ok (.ireturn, 1) := by decide +kernel
theorem dX10_text_0 : decode mX10_text.2.1 0 = .ok (.aload_n 0, 1) := by decide +kernel
theorem dX10_text_1 : decode mX10_text.2.1 1 = .ok (.iconst 0, 1) := by decide +kernel
theorem dX10_text_2 : decode mX10_text.2.1 2 = .ok (.putfield 211, 3) := by decide +kernel
theorem dX10_text_5 : decode mX10_text.2.1 5 = .ok (.aload_n 0, 1) := by decide +kernel
theorem dX10_text_6 : decode mX10_text.2.1 6 = .ok (.iconst (-1), 1) := by decide +kernel
theorem dX10_text_7 : decode mX10_text.2.1 7 = .ok (.putfield 217, 3) := by decide +kernel
theorem dX10_text_10 : decode mX10_text.2.1 10 = .ok (.aload_n 0, 1) := by decide +kernel
theorem dX10_text_11 : decode mX10_text.2.1 11 = .ok (.invokevirtual 235, 3) := by decide +kernel
theorem dX10_text_14 : decode mX10_text.2.1 14 = .ok (.aload_n 0, 1) := by decide +kernel
theorem dX10_text_15 : decode mX10_text.2.1 15 = .ok (.invokevirtual 266, 3) := by decide +kernel
theorem dX10_text_18 : decode mX10_text.2.1 18 = .ok (.ifCond .eq 14, 3) := by decide +kernel
theorem dX10_text_21 : decode mX10_text.2.1 21 = .ok (.aload_n 0, 1) := by decide +kernel
theorem dX10_text_22 : decode mX10_text.2.1 22 = .ok (.invokevirtual 269, 3) := by decide +kernel
theorem dX10_text_25 : decode mX10_text.2.1 25 = .ok (.ifCond .eq 7, 3) := by decide +kernel
theorem dX10_text_28 : decode mX10_text.2.1 28 = .ok (.iconst 1, 1) := by decide +kernel
theorem dX10_text_29 : decode mX10_text.2.1 29 = .ok (.goto 4, 3) := by decide +kernel
theorem dX10_text_32 : decode mX10_text.2.1 32 = .ok (.iconst 0, 1) := by decide +kernel
theorem dX10_text_33 : decode mX10_text.2.1 33 = .ok (.istore_n 1, 1) := by decide +kernel
theorem dX10_text_34 : decode mX10_text.2.1 34 = .ok (.aload_n 0, 1) := by decide +kernel
theorem dX10_text_35 : decode mX10_text.2.1 35 = .ok (.iconst 0, 1) := by decide +kernel
theorem dX10_text_36 : decode mX10_text.2.1 36 = .ok (.putfield 207, 3) := by decide +kernel
theorem dX10_text_39 : decode mX10_text.2.1 39 = .ok (.iload_n 1, 1) := by decide +kernel
theorem dX10_text_40 : decode mX10_text.2.1 40 = .ok (.ifCond .ne 11, 3) := by decide +kernel
theorem dX10_text_43 : decode mX10_text.2.1 43 = .ok (.bipush (-100), 2) := by decide +kernel
theorem dX10_text_45 : decode mX10_text.2.1 45 = .ok (.aload_n 0, 1) := by decide +kernel
theorem dX10_text_46 : decode mX10_text.2.1 46 = .ok (.getfield 214, 3) := by decide +kernel
theorem dX10_text_49 : decode mX10_text.2.1 49 = .ok (.isub, 1) := by decide +kernel
theorem dX10_text_50 : decode mX10_text.2.1 50 = .ok (.ireturn, 1) := by decide +kernel
theorem dX10_text_51 : decode mX10_text.2.1 51 = .ok (.aload_n 0, 1) := by decide +kernel
theorem dX10_text_52 : decode mX10_text.2.1 52 = .ok (.getfield 9, 3) := by decide +kernel
theorem dX10_text_55 : decode mX10_text.2.1 55 = .ok (.iconst 5, 1) := by decide +kernel
theorem dX10_text_56 : decode mX10_text.2.1 56 = .ok (.iaload, 1) := by decide +kernel
theorem dX10_text_57 : decode mX10_text.2.1 57 = .ok (.bipush 14, 2) := by decide +kernel
theorem dX10_text_59 : decode mX10_text.2.1 59 = .ok (.if_icmp .ne 6, 3) := by decide +kernel
theorem dX10_text_62 : decode mX10_text.2.1 62 = .ok (.ldc 102, 2) := by decide +kernel
theorem dX10_text_64 : decode mX10_text.2.1 64 = .ok (.ireturn, 1) := by decide +kernel
theorem dX10_text_65 : decode mX10_text.2.1 65 = .ok (.aload_n 0, 1) := by decide +kernel
theorem dX10_text_66 : decode mX10_text.2.1 66 = .ok (.getfield 9, 3) := by decide +kernel
theorem dX10_text_69 : decode mX10_text.2.1 69 = .ok (.iconst 5, 1) := by decide +kernel
theorem dX10_text_70 : decode mX10_text.2.1 70 = .ok (.iaload, 1) := by decide +kernel
theorem dX10_text_71 : decode mX10_text.2.1 71 = .ok (.istore_n 2, 1) := by decide +kernel
theorem dX10_text_72 : decode mX10_text.2.1 72 = .ok (.aload_n 0, 1) := by decide +kernel
theorem dX10_text_73 : decode mX10_text.2.1 73 = .ok (.getfield 9, 3) := by decide +kernel
theorem dX10_text_76 : decode mX10_text.2.1 76 = .ok (.bipush 80, 2) := by decide +kernel
theorem dX10_text_78 : decode mX10_text.2.1 78 = .ok (.iconst 2, 1) := by decide +kernel
theorem dX10_text_79 : decode mX10_text.2.1 79 = .ok (.iload_n 2, 1) := by decide +kernel
theorem dX10_text_80 : decode mX10_text.2.1 80 = .ok (.imul, 1) := by decide +kernel
theorem dX10_text_81 : decode mX10_text.2.1 81 = .ok (.iadd, 1) := by decide +kernel
theorem dX10_text_82 : decode mX10_text.2.1 82 = .ok (.sipush 1000, 3) := by decide +kernel
theorem dX10_text_85 : decode mX10_text.2.1 85 = .ok (.aload_n 0, 1) := by decide +kernel
theorem dX10_text_86 : decode mX10_text.2.1 86 = .ok (.getfield 232, 3) := by decide +kernel
theorem dX10_text_89 : decode mX10_text.2.1 89 = .ok (.imul, 1) := by decide +kernel
theorem dX10_text_90 : decode mX10_text.2.1 90 = .ok (.aload_n 0, 1) := by decide +kernel
theorem dX10_text_91 : decode mX10_text.2.1 91 = .ok (.getfield 244, 3) := by decide +kernel
theorem dX10_text_94 : decode mX10_text.2.1 94 = .ok (.iadd, 1) := by decide +kernel
theorem dX10_text_95 : decode mX10_text.2.1 95 = .ok (.iastore, 1) := by decide +kernel
theorem dX10_text_96 : decode mX10_text.2.1 96 = .ok (.aload_n 0, 1) := by decide +kernel
theorem dX10_text_97 : decode mX10_text.2.1 97 = .ok (.getfield 9, 3) := by decide +kernel
theorem dX10_text_100 : decode mX10_text.2.1 100 = .ok (.bipush 80, 2) := by decide +kernel
theorem dX10_text_102 : decode mX10_text.2.1 102 = .ok (.iconst 2, 1) := by decide +kernel
theorem dX10_text_103 : decode mX10_text.2.1 103 = .ok (.iload_n 2, 1) := by decide +kernel
theorem dX10_text_104 : decode mX10_text.2.1 104 = .ok (.imul, 1) := by decide +kernel
theorem dX10_text_105 : decode mX10_text.2.1 105 = .ok (.iadd, 1) := by decide +kernel
theorem dX10_text_106 : decode mX10_text.2.1 106 = .ok (.iconst 1, 1) := by decide +kernel
theorem dX10_text_107 : decode mX10_text.2.1 107 = .ok (.iadd, 1) := by decide +kernel
theorem dX10_text_108 : decode mX10_text.2.1 108 = .ok (.aload_n 0, 1) := by decide +kernel
theorem dX10_text_109 : decode mX10_text.2.1 109 = .ok (.getfield 250, 3) := by decide +kernel
theorem dX10_text_112 : decode mX10_text.2.1 112 = .ok (.iastore, 1) := by decide +kernel
theorem dX10_text_113 : decode mX10_text.2.1 113 = .ok (.iconst 0, 1) := by decide +kernel
theorem dX10_text_114 : decode mX10_text.2.1 114 = .ok (.istore_n 3, 1) := by decide +kernel
theorem dX10_text_115 : decode mX10_text.2.1 115 = .ok (.iload_n 3, 1) := by decide +kernel
theorem dX10_text_116 : decode mX10_text.2.1 116 = .ok (.aload_n 0, 1) := by decide +kernel
theorem dX10_text_117 : decode mX10_text.2.1 117 = .ok (.getfield 244, 3) := by decide +kernel
theorem dX10_text_120 : decode mX10_text.2.1 120 = .ok (.if_icmp .ge 29, 3) := by decide +kernel
theorem dX10_text_123 : decode mX10_text.2.1 123 = .ok (.aload_n 0, 1) := by decide +kernel
theorem dX10_text_124 : decode mX10_text.2.1 124 = .ok (.getfield 9, 3) := by decide +kernel
theorem dX10_text_127 : decode mX10_text.2.1 127 = .ok (.bipush 108, 2) := by decide +kernel
theorem dX10_text_129 : decode mX10_text.2.1 129 = .ok (.bipush 96, 2) := by decide +kernel
theorem dX10_text_131 : decode mX10_text.2.1 131 = .ok (.iload_n 2, 1) := by decide +kernel
theorem dX10_text_132 : decode mX10_text.2.1 132 = .ok (.imul, 1) := by decide +kernel
theorem dX10_text_133 : decode mX10_text.2.1 133 = .ok (.iadd, 1) := by decide +kernel
theorem dX10_text_134 : decode mX10_text.2.1 134 = .ok (.iload_n 3, 1) := by decide +kernel
theorem dX10_text_135 : decode mX10_text.2.1 135 = .ok (.iadd, 1) := by decide +kernel
theorem dX10_text_136 : decode mX10_text.2.1 136 = .ok (.aload_n 0, 1) := by decide +kernel
theorem dX10_text_137 : decode mX10_text.2.1 137 = .ok (.getfield 54, 3) := by decide +kernel
theorem dX10_text_140 : decode mX10_text.2.1 140 = .ok (.iload_n 3, 1) := by decide +kernel
theorem dX10_text_141 : decode mX10_text.2.1 141 = .ok (.iaload, 1) := by decide +kernel
theorem dX10_text_142 : decode mX10_text.2.1 142 = .ok (.iastore, 1) := by decide +kernel
theorem dX10_text_143 : decode mX10_text.2.1 143 = .ok (.iinc 3 1, 3) := by decide +kernel
theorem dX10_text_146 : decode mX10_text.2.1 146 = .ok (.goto (-31), 3) := by decide +kernel
theorem dX10_text_149 : decode mX10_text.2.1 149 = .ok (.aload_n 0, 1) := by decide +kernel
theorem dX10_text_150 : decode mX10_text.2.1 150 = .ok (.getfield 9, 3) := by decide +kernel
theorem dX10_text_153 : decode mX10_text.2.1 153 = .ok (.iconst 5, 1) := by decide +kernel
theorem dX10_text_154 : decode mX10_text.2.1 154 = .ok (.dup2, 1) := by decide +kernel
theorem dX10_text_155 : decode mX10_text.2.1 155 = .ok (.iaload, 1) := by decide +kernel
theorem dX10_text_156 : decode mX10_text.2.1 156 = .ok (.iconst 1, 1) := by decide +kernel
theorem dX10_text_157 : decode mX10_text.2.1 157 = .ok (.iadd, 1) := by decide +kernel
theorem dX10_text_158 : decode mX10_text.2.1 158 = .ok (.iastore, 1) := by decide +kernel
theorem dX10_text_159 : decode mX10_text.2.1 159 = .ok (.iload_n 2, 1) := by decide +kernel
theorem dX10_text_160 : decode mX10_text.2.1 160 = .ok (.ireturn, 1) := by decide +kernel
theorem dX10_textTold_0 : decode mX10_textTold.2.1 0 = .ok (.iload_n 1, 1) := by decide +kernel
theorem dX10_textTold_1 : decode mX10_textTold.2.1 1 = .ok (.iconst 0, 1) := by decide +kernel
theorem dX10_textTold_2 : decode mX10_textTold.2.1 2 = .ok (.aload_n 0, 1) := by decide +kernel
theorem dX10_textTold_3 : decode mX10_textTold.2.1 3 = .ok (.getfield 9, 3) := by decide +kernel
theorem dX10_textTold_6 : decode mX10_textTold.2.1 6 = .ok (.iconst 5, 1) := by decide +kernel
theorem dX10_textTold_7 : decode mX10_textTold.2.1 7 = .ok (.iaload, 1) := by decide +kernel
theorem dX10_textTold_8 : decode mX10_textTold.2.1 8 = .ok (.iconst 1, 1) := by decide +kernel
theorem dX10_textTold_9 : decode mX10_textTold.2.1 9 = .ok (.isub, 1) := by decide +kernel
theorem dX10_textTold_10 : decode mX10_textTold.2.1 10 = .ok (.invokestatic 97, 3) := by decide +kernel
theorem dX10_textTold_13 : decode mX10_textTold.2.1 13 = .ok (.ifCond .eq 12, 3) := by decide +kernel
theorem dX10_textTold_16 : decode mX10_textTold.2.1 16 = .ok (.iload_n 2, 1) := by decide +kernel
theorem dX10_textTold_17 : decode mX10_textTold.2.1 17 = .ok (.iconst 0, 1) := by decide +kernel
theorem dX10_textTold_18 : decode mX10_textTold.2.1 18 = .ok (.iconst 1, 1) := by decide +kernel
theorem dX10_textTold_19 : decode mX10_textTold.2.1 19 = .ok (.invokestatic 97, 3) := by decide +kernel
theorem dX10_textTold_22 : decode mX10_textTold.2.1 22 = .ok (.ifCond .ne 6, 3) := by decide +kernel
theorem dX10_textTold_25 : decode mX10_textTold.2.1 25 = .ok (.ldc 101, 2) := by decide +kernel
theorem dX10_textTold_27 : decode mX10_textTold.2.1 27 = .ok (.ireturn, 1) := by decide +kernel
theorem dX10_textTold_28 : decode mX10_textTold.2.1 28 = .ok (.iload_n 2, 1) := by decide +kernel
theorem dX10_textTold_29 : decode mX10_textTold.2.1 29 = .ok (.ifCond .ne 21, 3) := by decide +kernel
theorem dX10_textTold_32 : decode mX10_textTold.2.1 32 = .ok (.aload_n 0, 1) := by decide +kernel
theorem dX10_textTold_33 : decode mX10_textTold.2.1 33 = .ok (.getfield 9, 3) := by decide +kernel
theorem dX10_textTold_36 : decode mX10_textTold.2.1 36 = .ok (.bipush 80, 2) := by decide +kernel
theorem dX10_textTold_38 : decode mX10_textTold.2.1 38 = .ok (.iconst 2, 1) := by decide +kernel
theorem dX10_textTold_39 : decode mX10_textTold.2.1 39 = .ok (.iload_n 1, 1) := by decide +kernel
theorem dX10_textTold_40 : decode mX10_textTold.2.1 40 = .ok (.imul, 1) := by decide +kernel
theorem dX10_textTold_41 : decode mX10_textTold.2.1 41 = .ok (.iadd, 1) := by decide +kernel
theorem dX10_textTold_42 : decode mX10_textTold.2.1 42 = .ok (.iaload, 1) := by decide +kernel
theorem dX10_textTold_43 : decode mX10_textTold.2.1 43 = .ok (.sipush 1000, 3) := by decide +kernel
theorem dX10_textTold_46 : decode mX10_textTold.2.1 46 = .ok (.idiv, 1) := by decide +kernel
theorem dX10_textTold_47 : decode mX10_textTold.2.1 47 = .ok (.goto 16, 3) := by decide +kernel
theorem dX10_textTold_50 : decode mX10_textTold.2.1 50 = .ok (.aload_n 0, 1) := by decide +kernel
theorem dX10_textTold_51 : decode mX10_textTold.2.1 51 = .ok (.getfield 9, 3) := by decide +kernel
theorem dX10_textTold_54 : decode mX10_textTold.2.1 54 = .ok (.bipush 80, 2) := by decide +kernel
theorem dX10_textTold_56 : decode mX10_textTold.2.1 56 = .ok (.iconst 2, 1) := by decide +kernel
theorem dX10_textTold_57 : decode mX10_textTold.2.1 57 = .ok (.iload_n 1, 1) := by decide +kernel
theorem dX10_textTold_58 : decode mX10_textTold.2.1 58 = .ok (.imul, 1) := by decide +kernel
theorem dX10_textTold_59 : decode mX10_textTold.2.1 59 = .ok (.iadd, 1) := by decide +kernel
theorem dX10_textTold_60 : decode mX10_textTold.2.1 60 = .ok (.iconst 1, 1) := by decide +kernel
theorem dX10_textTold_61 : decode mX10_textTold.2.1 61 = .ok (.iadd, 1) := by decide +kernel
theorem dX10_textTold_62 : decode mX10_textTold.2.1 62 = .ok (.iaload, 1) := by decide +kernel
theorem dX10_textTold_63 : decode mX10_textTold.2.1 63 = .ok (.ireturn, 1) := by decide +kernel
theorem dX10_counts_0 : decode mX10_counts.2.1 0 = .ok (.aload_n 0, 1) := by decide +kernel
theorem dX10_counts_1 : decode mX10_counts.2.1 1 = .ok (.getfield 9, 3) := by decide +kernel
theorem dX10_counts_4 : decode mX10_counts.2.1 4 = .ok (.iconst 5, 1) := by decide +kernel
theorem dX10_counts_5 : decode mX10_counts.2.1 5 = .ok (.iaload, 1) := by decide +kernel
theorem dX10_counts_6 : decode mX10_counts.2.1 6 = .ok (.iconst 1, 1) := by decide +kernel
theorem dX10_counts_7 : decode mX10_counts.2.1 7 = .ok (.isub, 1) := by decide +kernel
theorem dX10_counts_8 : decode mX10_counts.2.1 8 = .ok (.istore_n 2, 1) := by decide +kernel
theorem dX10_counts_9 : decode mX10_counts.2.1 9 = .ok (.iload_n 2, 1) := by decide +kernel
theorem dX10_counts_10 : decode mX10_counts.2.1 10 = .ok (.ifCond .lt 30, 3) := by decide +kernel
theorem dX10_counts_13 : decode mX10_counts.2.1 13 = .ok (.aload_n 0, 1) := by decide +kernel
theorem dX10_counts_14 : decode mX10_counts.2.1 14 = .ok (.getfield 9, 3) := by decide +kernel
theorem dX10_counts_17 : decode mX10_counts.2.1 17 = .ok (.bipush 80, 2) := by decide +kernel
theorem dX10_counts_19 : decode mX10_counts.2.1 19 = .ok (.iconst 2, 1) := by decide +kernel
theorem dX10_counts_20 : decode mX10_counts.2.1 20 = .ok (.iload_n 2, 1) := by decide +kernel
theorem dX10_counts_21 : decode mX10_counts.2.1 21 = .ok (.imul, 1) := by decide +kernel
theorem dX10_counts_22 : decode mX10_counts.2.1 22 = .ok (.iadd, 1) := by decide +kernel
theorem dX10_counts_23 : decode mX10_counts.2.1 23 = .ok (.iaload, 1) := by decide +kernel
theorem dX10_counts_24 : decode mX10_counts.2.1 24 = .ok (.sipush 1000, 3) := by decide +kernel
theorem dX10_counts_27 : decode mX10_counts.2.1 27 = .ok (.idiv, 1) := by decide +kernel
theorem dX10_counts_28 : decode mX10_counts.2.1 28 = .ok (.iload_n 1, 1) := by decide +kernel
theorem dX10_counts_29 : decode mX10_counts.2.1 29 = .ok (.if_icmp .ne 5, 3) := by decide +kernel
theorem dX10_counts_32 : decode mX10_counts.2.1 32 = .ok (.iload_n 2, 1) := by decide +kernel
theorem dX10_counts_33 : decode mX10_counts.2.1 33 = .ok (.ireturn, 1) := by decide +kernel
theorem dX10_counts_34 : decode mX10_counts.2.1 34 = .ok (.iinc 2 (-1), 3) := by decide +kernel
theorem dX10_counts_37 : decode mX10_counts.2.1 37 = .ok (.goto (-28), 3) := by decide +kernel
theorem dX10_counts_40 : decode mX10_counts.2.1 40 = .ok (.iconst (-1), 1) := by decide +kernel
theorem dX10_counts_41 : decode mX10_counts.2.1 41 = .ok (.ireturn, 1) := by decide +kernel
theorem dX10_why_0 : decode mX10_why.2.1 0 = .ok (.iload_n 1, 1) := by decide +kernel
theorem dX10_why_1 : decode mX10_why.2.1 1 = .ok (.iconst 0, 1) := by decide +kernel
theorem dX10_why_2 : decode mX10_why.2.1 2 = .ok (.iconst 2, 1) := by decide +kernel
theorem dX10_why_3 : decode mX10_why.2.1 3 = .ok (.invokestatic 97, 3) := by decide +kernel
theorem dX10_why_6 : decode mX10_why.2.1 6 = .ok (.ifCond .ne 6, 3) := by decide +kernel
theorem dX10_why_9 : decode mX10_why.2.1 9 = .ok (.ldc 101, 2) := by decide +kernel
theorem dX10_why_11 : decode mX10_why.2.1 11 = .ok (.ireturn, 1) := by decide +kernel
theorem dX10_why_12 : decode mX10_why.2.1 12 = .ok (.aload_n 0, 1) := by decide +kernel
theorem dX10_why_13 : decode mX10_why.2.1 13 = .ok (.iload_n 1, 1) := by decide +kernel
theorem dX10_why_14 : decode mX10_why.2.1 14 = .ok (.invokevirtual 147, 3) := by decide +kernel
theorem dX10_why_17 : decode mX10_why.2.1 17 = .ok (.istore_n 2, 1) := by decide +kernel
theorem dX10_why_18 : decode mX10_why.2.1 18 = .ok (.iload_n 2, 1) := by decide +kernel
theorem dX10_why_19 : decode mX10_why.2.1 19 = .ok (.ifCond .ge 8, 3) := by decide +kernel
theorem dX10_why_22 : decode mX10_why.2.1 22 = .ok (.ldc 96, 2) := by decide +kernel
theorem dX10_why_24 : decode mX10_why.2.1 24 = .ok (.goto 4, 3) := by decide +kernel
theorem dX10_why_27 : decode mX10_why.2.1 27 = .ok (.iload_n 2, 1) := by decide +kernel
theorem dX10_why_28 : decode mX10_why.2.1 28 = .ok (.ireturn, 1) := by decide +kernel
theorem dX10_two_0 : decode mX10_two.2.1 0 = .ok (.iload_n 0, 1) := by decide +kernel
theorem dX10_two_1 : decode mX10_two.2.1 1 = .ok (.tableswitch 120 (-8) (-1) #[116, 112, 108, 97, 86, 75, 61, 47], 47) := by decide +kernel
theorem dX10_two_48 : decode mX10_two.2.1 48 = .ok (.iload_n 1, 1) := by decide +kernel
theorem dX10_two_49 : decode mX10_two.2.1 49 = .ok (.ifCond .ne 7, 3) := by decide +kernel
theorem dX10_two_52 : decode mX10_two.2.1 52 = .ok (.iload_n 2, 1) := by decide +kernel
theorem dX10_two_53 : decode mX10_two.2.1 53 = .ok (.ifCond .eq 7, 3) := by decide +kernel
theorem dX10_two_56 : decode mX10_two.2.1 56 = .ok (.iconst 1, 1) := by decide +kernel
theorem dX10_two_57 : decode mX10_two.2.1 57 = .ok (.goto 4, 3) := by decide +kernel
theorem dX10_two_60 : decode mX10_two.2.1 60 = .ok (.iconst 0, 1) := by decide +kernel
theorem dX10_two_61 : decode mX10_two.2.1 61 = .ok (.ireturn, 1) := by decide +kernel
theorem dX10_two_62 : decode mX10_two.2.1 62 = .ok (.iload_n 1, 1) := by decide +kernel
theorem dX10_two_63 : decode mX10_two.2.1 63 = .ok (.ifCond .eq 11, 3) := by decide +kernel
theorem dX10_two_66 : decode mX10_two.2.1 66 = .ok (.iload_n 2, 1) := by decide +kernel
theorem dX10_two_67 : decode mX10_two.2.1 67 = .ok (.ifCond .eq 7, 3) := by decide +kernel
theorem dX10_two_70 : decode mX10_two.2.1 70 = .ok (.iconst 1, 1) := by decide +kernel
theorem dX10_two_71 : decode mX10_two.2.1 71 = .ok (.goto 4, 3) := by decide +kernel
theorem dX10_two_74 : decode mX10_two.2.1 74 = .ok (.iconst 0, 1) := by decide +kernel
theorem dX10_two_75 : decode mX10_two.2.1 75 = .ok (.ireturn, 1) := by decide +kernel
theorem dX10_two_76 : decode mX10_two.2.1 76 = .ok (.iload_n 1, 1) := by decide +kernel
theorem dX10_two_77 : decode mX10_two.2.1 77 = .ok (.iload_n 2, 1) := by decide +kernel
theorem dX10_two_78 : decode mX10_two.2.1 78 = .ok (.if_icmp .ge 7, 3) := by decide +kernel
theorem dX10_two_81 : decode mX10_two.2.1 81 = .ok (.iconst 1, 1) := by decide +kernel
theorem dX10_two_82 : decode mX10_two.2.1 82 = .ok (.goto 4, 3) := by decide +kernel
theorem dX10_two_85 : decode mX10_two.2.1 85 = .ok (.iconst 0, 1) := by decide +kernel
theorem dX10_two_86 : decode mX10_two.2.1 86 = .ok (.ireturn, 1) := by decide +kernel
theorem dX10_two_87 : decode mX10_two.2.1 87 = .ok (.iload_n 1, 1) := by decide +kernel
theorem dX10_two_88 : decode mX10_two.2.1 88 = .ok (.iload_n 2, 1) := by decide +kernel
theorem dX10_two_89 : decode mX10_two.2.1 89 = .ok (.if_icmp .ne 7, 3) := by decide +kernel
theorem dX10_two_92 : decode mX10_two.2.1 92 = .ok (.iconst 1, 1) := by decide +kernel
theorem dX10_two_93 : decode mX10_two.2.1 93 = .ok (.goto 4, 3) := by decide +kernel
theorem dX10_two_96 : decode mX10_two.2.1 96 = .ok (.iconst 0, 1) := by decide +kernel
theorem dX10_two_97 : decode mX10_two.2.1 97 = .ok (.ireturn, 1) := by decide +kernel
theorem dX10_two_98 : decode mX10_two.2.1 98 = .ok (.iload_n 1, 1) := by decide +kernel
theorem dX10_two_99 : decode mX10_two.2.1 99 = .ok (.iload_n 2, 1) := by decide +kernel
theorem dX10_two_100 : decode mX10_two.2.1 100 = .ok (.if_icmp .le 7, 3) := by decide +kernel
theorem dX10_two_103 : decode mX10_two.2.1 103 = .ok (.iconst 1, 1) := by decide +kernel
theorem dX10_two_104 : decode mX10_two.2.1 104 = .ok (.goto 4, 3) := by decide +kernel
theorem dX10_two_107 : decode mX10_two.2.1 107 = .ok (.iconst 0, 1) := by decide +kernel
theorem dX10_two_108 : decode mX10_two.2.1 108 = .ok (.ireturn, 1) := by decide +kernel
theorem dX10_two_109 : decode mX10_two.2.1 109 = .ok (.iload_n 1, 1) := by decide +kernel
theorem dX10_two_110 : decode mX10_two.2.1 110 = .ok (.iload_n 2, 1) := by decide +kernel
theorem dX10_two_111 : decode mX10_two.2.1 111 = .ok (.iadd, 1) := by decide +kernel
theorem dX10_two_112 : decode mX10_two.2.1 112 = .ok (.ireturn, 1) := by decide +kernel
theorem dX10_two_113 : decode mX10_two.2.1 113 = .ok (.iload_n 1, 1) := by decide +kernel
theorem dX10_two_114 : decode mX10_two.2.1 114 = .ok (.iload_n 2, 1) := by decide +kernel
theorem dX10_two_115 : decode mX10_two.2.1 115 = .ok (.isub, 1) := by decide +kernel
theorem dX10_two_116 : decode mX10_two.2.1 116 = .ok (.ireturn, 1) := by decide +kernel
theorem dX10_two_117 : decode mX10_two.2.1 117 = .ok (.iload_n 1, 1) := by decide +kernel
theorem dX10_two_118 : decode mX10_two.2.1 118 = .ok (.iload_n 2, 1) := by decide +kernel
theorem dX10_two_119 : decode mX10_two.2.1 119 = .ok (.imul, 1) := by decide +kernel
theorem dX10_two_120 : decode mX10_two.2.1 120 = .ok (.ireturn, 1) := by decide +kernel
theorem dX10_two_121 : decode mX10_two.2.1 121 = .ok (.iload_n 2, 1) := by decide +kernel
theorem dX10_two_122 : decode mX10_two.2.1 122 = .ok (.ifCond .ne 7, 3) := by decide +kernel
theorem dX10_two_125 : decode mX10_two.2.1 125 = .ok (.iconst 0, 1) := by decide +kernel
theorem dX10_two_126 : decode mX10_two.2.1 126 = .ok (.goto 6, 3) := by decide +kernel
theorem dX10_two_129 : decode mX10_two.2.1 129 = .ok (.iload_n 1, 1) := by decide +kernel
theorem dX10_two_130 : decode mX10_two.2.1 130 = .ok (.iload_n 2, 1) := by decide +kernel
theorem dX10_two_131 : decode mX10_two.2.1 131 = .ok (.idiv, 1) := by decide +kernel
theorem dX10_two_132 : decode mX10_two.2.1 132 = .ok (.ireturn, 1) := by decide +kernel
theorem dX10_worksOut_0 : decode mX10_worksOut.2.1 0 = .ok (.iconst 0, 1) := by decide +kernel
theorem dX10_worksOut_1 : decode mX10_worksOut.2.1 1 = .ok (.istore_n 2, 1) := by decide +kernel
theorem dX10_worksOut_2 : decode mX10_worksOut.2.1 2 = .ok (.aload_n 0, 1) := by decide +kernel
theorem dX10_worksOut_3 : decode mX10_worksOut.2.1 3 = .ok (.getfield 9, 3) := by decide +kernel
theorem dX10_worksOut_6 : decode mX10_worksOut.2.1 6 = .ok (.bipush 80, 2) := by decide +kernel
theorem dX10_worksOut_8 : decode mX10_worksOut.2.1 8 = .ok (.iconst 2, 1) := by decide +kernel
theorem dX10_worksOut_9 : decode mX10_worksOut.2.1 9 = .ok (.iload_n 1, 1) := by decide +kernel
theorem dX10_worksOut_10 : decode mX10_worksOut.2.1 10 = .ok (.imul, 1) := by decide +kernel
theorem dX10_worksOut_11 : decode mX10_worksOut.2.1 11 = .ok (.iadd, 1) := by decide +kernel
theorem dX10_worksOut_12 : decode mX10_worksOut.2.1 12 = .ok (.iaload, 1) := by decide +kernel
theorem dX10_worksOut_13 : decode mX10_worksOut.2.1 13 = .ok (.sipush 1000, 3) := by decide +kernel
theorem dX10_worksOut_16 : decode mX10_worksOut.2.1 16 = .ok (.irem, 1) := by decide +kernel
theorem dX10_worksOut_17 : decode mX10_worksOut.2.1 17 = .ok (.istore_n 3, 1) := by decide +kernel
theorem dX10_worksOut_18 : decode mX10_worksOut.2.1 18 = .ok (.iconst 0, 1) := by decide +kernel
theorem dX10_worksOut_19 : decode mX10_worksOut.2.1 19 = .ok (.istore 4, 2) := by decide +kernel
theorem dX10_worksOut_21 : decode mX10_worksOut.2.1 21 = .ok (.iload 4, 2) := by decide +kernel
theorem dX10_worksOut_23 : decode mX10_worksOut.2.1 23 = .ok (.iload_n 3, 1) := by decide +kernel
theorem dX10_worksOut_24 : decode mX10_worksOut.2.1 24 = .ok (.if_icmp .ge 131, 3) := by decide +kernel
theorem dX10_worksOut_27 : decode mX10_worksOut.2.1 27 = .ok (.aload_n 0, 1) := by decide +kernel
theorem dX10_worksOut_28 : decode mX10_worksOut.2.1 28 = .ok (.getfield 9, 3) := by decide +kernel
theorem dX10_worksOut_31 : decode mX10_worksOut.2.1 31 = .ok (.bipush 108, 2) := by decide +kernel
theorem dX10_worksOut_33 : decode mX10_worksOut.2.1 33 = .ok (.bipush 96, 2) := by decide +kernel
theorem dX10_worksOut_35 : decode mX10_worksOut.2.1 35 = .ok (.iload_n 1, 1) := by decide +kernel
theorem dX10_worksOut_36 : decode mX10_worksOut.2.1 36 = .ok (.imul, 1) := by decide +kernel
theorem dX10_worksOut_37 : decode mX10_worksOut.2.1 37 = .ok (.iadd, 1) := by decide +kernel
theorem dX10_worksOut_38 : decode mX10_worksOut.2.1 38 = .ok (.iload 4, 2) := by decide +kernel
theorem dX10_worksOut_40 : decode mX10_worksOut.2.1 40 = .ok (.iadd, 1) := by decide +kernel
theorem dX10_worksOut_41 : decode mX10_worksOut.2.1 41 = .ok (.iaload, 1) := by decide +kernel
theorem dX10_worksOut_42 : decode mX10_worksOut.2.1 42 = .ok (.istore 5, 2) := by decide +kernel
theorem dX10_worksOut_44 : decode mX10_worksOut.2.1 44 = .ok (.iload 5, 2) := by decide +kernel
theorem dX10_worksOut_46 : decode mX10_worksOut.2.1 46 = .ok (.ifCond .lt 39, 3) := by decide +kernel
theorem dX10_worksOut_49 : decode mX10_worksOut.2.1 49 = .ok (.aload_n 0, 1) := by decide +kernel
theorem dX10_worksOut_50 : decode mX10_worksOut.2.1 50 = .ok (.getfield 63, 3) := by decide +kernel
theorem dX10_worksOut_53 : decode mX10_worksOut.2.1 53 = .ok (.iload_n 2, 1) := by decide +kernel
theorem dX10_worksOut_54 : decode mX10_worksOut.2.1 54 = .ok (.iload 5, 2) := by decide +kernel
theorem dX10_worksOut_56 : decode mX10_worksOut.2.1 56 = .ok (.sipush 10000, 3) := by decide +kernel
theorem dX10_worksOut_59 : decode mX10_worksOut.2.1 59 = .ok (.if_icmp .ge 8, 3) := by decide +kernel
theorem dX10_worksOut_62 : decode mX10_worksOut.2.1 62 = .ok (.iload 5, 2) := by decide +kernel
theorem dX10_worksOut_64 : decode mX10_worksOut.2.1 64 = .ok (.goto 14, 3) := by decide +kernel
theorem dX10_worksOut_67 : decode mX10_worksOut.2.1 67 = .ok (.aload_n 0, 1) := by decide +kernel
theorem dX10_worksOut_68 : decode mX10_worksOut.2.1 68 = .ok (.getfield 66, 3) := by decide +kernel
theorem dX10_worksOut_71 : decode mX10_worksOut.2.1 71 = .ok (.iload 5, 2) := by decide +kernel
theorem dX10_worksOut_73 : decode mX10_worksOut.2.1 73 = .ok (.sipush 10000, 3) := by decide +kernel
theorem dX10_worksOut_76 : decode mX10_worksOut.2.1 76 = .ok (.isub, 1) := by decide +kernel
theorem dX10_worksOut_77 : decode mX10_worksOut.2.1 77 = .ok (.iaload, 1) := by decide +kernel
theorem dX10_worksOut_78 : decode mX10_worksOut.2.1 78 = .ok (.iastore, 1) := by decide +kernel
theorem dX10_worksOut_79 : decode mX10_worksOut.2.1 79 = .ok (.iinc 2 1, 3) := by decide +kernel
theorem dX10_worksOut_82 : decode mX10_worksOut.2.1 82 = .ok (.goto 67, 3) := by decide +kernel
theorem dX10_worksOut_85 : decode mX10_worksOut.2.1 85 = .ok (.iload 5, 2) := by decide +kernel
theorem dX10_worksOut_87 : decode mX10_worksOut.2.1 87 = .ok (.bipush (-10), 2) := by decide +kernel
theorem dX10_worksOut_89 : decode mX10_worksOut.2.1 89 = .ok (.if_icmp .ne 30, 3) := by decide +kernel
theorem dX10_worksOut_92 : decode mX10_worksOut.2.1 92 = .ok (.aload_n 0, 1) := by decide +kernel
theorem dX10_worksOut_93 : decode mX10_worksOut.2.1 93 = .ok (.getfield 63, 3) := by decide +kernel
theorem dX10_worksOut_96 : decode mX10_worksOut.2.1 96 = .ok (.iload_n 2, 1) := by decide +kernel
theorem dX10_worksOut_97 : decode mX10_worksOut.2.1 97 = .ok (.iconst 1, 1) := by decide +kernel
theorem dX10_worksOut_98 : decode mX10_worksOut.2.1 98 = .ok (.isub, 1) := by decide +kernel
theorem dX10_worksOut_99 : decode mX10_worksOut.2.1 99 = .ok (.aload_n 0, 1) := by decide +kernel
theorem dX10_worksOut_100 : decode mX10_worksOut.2.1 100 = .ok (.getfield 63, 3) := by decide +kernel
theorem dX10_worksOut_103 : decode mX10_worksOut.2.1 103 = .ok (.iload_n 2, 1) := by decide +kernel
theorem dX10_worksOut_104 : decode mX10_worksOut.2.1 104 = .ok (.iconst 1, 1) := by decide +kernel
theorem dX10_worksOut_105 : decode mX10_worksOut.2.1 105 = .ok (.isub, 1) := by decide +kernel
theorem dX10_worksOut_106 : decode mX10_worksOut.2.1 106 = .ok (.iaload, 1) := by decide +kernel
theorem dX10_worksOut_107 : decode mX10_worksOut.2.1 107 = .ok (.ifCond .ne 7, 3) := by decide +kernel
theorem dX10_worksOut_110 : decode mX10_worksOut.2.1 110 = .ok (.iconst 1, 1) := by decide +kernel
theorem dX10_worksOut_111 : decode mX10_worksOut.2.1 111 = .ok (.goto 4, 3) := by decide +kernel
theorem dX10_worksOut_114 : decode mX10_worksOut.2.1 114 = .ok (.iconst 0, 1) := by decide +kernel
theorem dX10_worksOut_115 : decode mX10_worksOut.2.1 115 = .ok (.iastore, 1) := by decide +kernel
theorem dX10_worksOut_116 : decode mX10_worksOut.2.1 116 = .ok (.goto 33, 3) := by decide +kernel
theorem dX10_worksOut_119 : decode mX10_worksOut.2.1 119 = .ok (.iinc 2 (-1), 3) := by decide +kernel
theorem dX10_worksOut_122 : decode mX10_worksOut.2.1 122 = .ok (.aload_n 0, 1) := by decide +kernel
theorem dX10_worksOut_123 : decode mX10_worksOut.2.1 123 = .ok (.getfield 63, 3) := by decide +kernel
theorem dX10_worksOut_126 : decode mX10_worksOut.2.1 126 = .ok (.iload_n 2, 1) := by decide +kernel
theorem dX10_worksOut_127 : decode mX10_worksOut.2.1 127 = .ok (.iconst 1, 1) := by decide +kernel
theorem dX10_worksOut_128 : decode mX10_worksOut.2.1 128 = .ok (.isub, 1) := by decide +kernel
theorem dX10_worksOut_129 : decode mX10_worksOut.2.1 129 = .ok (.iload 5, 2) := by decide +kernel
theorem dX10_worksOut_131 : decode mX10_worksOut.2.1 131 = .ok (.aload_n 0, 1) := by decide +kernel
theorem dX10_worksOut_132 : decode mX10_worksOut.2.1 132 = .ok (.getfield 63, 3) := by decide +kernel
theorem dX10_worksOut_135 : decode mX10_worksOut.2.1 135 = .ok (.iload_n 2, 1) := by decide +kernel
theorem dX10_worksOut_136 : decode mX10_worksOut.2.1 136 = .ok (.iconst 1, 1) := by decide +kernel
theorem dX10_worksOut_137 : decode mX10_worksOut.2.1 137 = .ok (.isub, 1) := by decide +kernel
theorem dX10_worksOut_138 : decode mX10_worksOut.2.1 138 = .ok (.iaload, 1) := by decide +kernel
theorem dX10_worksOut_139 : decode mX10_worksOut.2.1 139 = .ok (.aload_n 0, 1) := by decide +kernel
theorem dX10_worksOut_140 : decode mX10_worksOut.2.1 140 = .ok (.getfield 63, 3) := by decide +kernel
theorem dX10_worksOut_143 : decode mX10_worksOut.2.1 143 = .ok (.iload_n 2, 1) := by decide +kernel
theorem dX10_worksOut_144 : decode mX10_worksOut.2.1 144 = .ok (.iaload, 1) := by decide +kernel
theorem dX10_worksOut_145 : decode mX10_worksOut.2.1 145 = .ok (.invokestatic 272, 3) := by decide +kernel
theorem dX10_worksOut_148 : decode mX10_worksOut.2.1 148 = .ok (.iastore, 1) := by decide +kernel
theorem dX10_worksOut_149 : decode mX10_worksOut.2.1 149 = .ok (.iinc 4 1, 3) := by decide +kernel
theorem dX10_worksOut_152 : decode mX10_worksOut.2.1 152 = .ok (.goto (-131), 3) := by decide +kernel
theorem dX10_worksOut_155 : decode mX10_worksOut.2.1 155 = .ok (.aload_n 0, 1) := by decide +kernel
theorem dX10_worksOut_156 : decode mX10_worksOut.2.1 156 = .ok (.getfield 63, 3) := by decide +kernel
theorem dX10_worksOut_159 : decode mX10_worksOut.2.1 159 = .ok (.iconst 0, 1) := by decide +kernel
theorem dX10_worksOut_160 : decode mX10_worksOut.2.1 160 = .ok (.iaload, 1) := by decide +kernel
theorem dX10_worksOut_161 : decode mX10_worksOut.2.1 161 = .ok (.ireturn, 1) := by decide +kernel
theorem dX10_isSheet_0 : decode mX10_isSheet.2.1 0 = .ok (.iload_n 0, 1) := by decide +kernel
theorem dX10_isSheet_1 : decode mX10_isSheet.2.1 1 = .ok (.iconst 0, 1) := by decide +kernel
theorem dX10_isSheet_2 : decode mX10_isSheet.2.1 2 = .ok (.iconst 3, 1) := by decide +kernel
theorem dX10_isSheet_3 : decode mX10_isSheet.2.1 3 = .ok (.invokestatic 97, 3) := by decide +kernel
theorem dX10_isSheet_6 : decode mX10_isSheet.2.1 6 = .ok (.ireturn, 1) := by decide +kernel
theorem dX10_isSlot_0 : decode mX10_isSlot.2.1 0 = .ok (.iload_n 0, 1) := by decide +kernel
theorem dX10_isSlot_1 : decode mX10_isSlot.2.1 1 = .ok (.iconst 0, 1) := by decide +kernel
theorem dX10_isSlot_2 : decode mX10_isSlot.2.1 2 = .ok (.iconst 4, 1) := by decide +kernel
theorem dX10_isSlot_3 : decode mX10_isSlot.2.1 3 = .ok (.invokestatic 97, 3) := by decide +kernel
theorem dX10_isSlot_6 : decode mX10_isSlot.2.1 6 = .ok (.ireturn, 1) := by decide +kernel
theorem dX10_sheet_0 : decode mX10_sheet.2.1 0 = .ok (.iload_n 1, 1) := by decide +kernel
theorem dX10_sheet_1 : decode mX10_sheet.2.1 1 = .ok (.invokestatic 275, 3) := by decide +kernel
theorem dX10_sheet_4 : decode mX10_sheet.2.1 4 = .ok (.ifCond .eq 22, 3) := by decide +kernel
theorem dX10_sheet_7 : decode mX10_sheet.2.1 7 = .ok (.iload_n 2, 1) := by decide +kernel
theorem dX10_sheet_8 : decode mX10_sheet.2.1 8 = .ok (.iconst (-1), 1) := by decide +kernel
theorem dX10_sheet_9 : decode mX10_sheet.2.1 9 = .ok (.iconst 1, 1) := by decide +kernel
theorem dX10_sheet_10 : decode mX10_sheet.2.1 10 = .ok (.invokestatic 97, 3) := by decide +kernel
theorem dX10_sheet_13 : decode mX10_sheet.2.1 13 = .ok (.ifCond .eq 13, 3) := by decide +kernel
theorem dX10_sheet_16 : decode mX10_sheet.2.1 16 = .ok (.iload_n 2, 1) := by decide +kernel
theorem dX10_sheet_17 : decode mX10_sheet.2.1 17 = .ok (.ifCond .lt 12, 3) := by decide +kernel
theorem dX10_sheet_20 : decode mX10_sheet.2.1 20 = .ok (.iload_n 3, 1) := by decide +kernel
theorem dX10_sheet_21 : decode mX10_sheet.2.1 21 = .ok (.bipush 24, 2) := by decide +kernel
theorem dX10_sheet_23 : decode mX10_sheet.2.1 23 = .ok (.if_icmp .le 6, 3) := by decide +kernel
theorem dX10_sheet_26 : decode mX10_sheet.2.1 26 = .ok (.ldc 101, 2) := by decide +kernel
theorem dX10_sheet_28 : decode mX10_sheet.2.1 28 = .ok (.ireturn, 1) := by decide +kernel
theorem dX10_sheet_29 : decode mX10_sheet.2.1 29 = .ok (.iload_n 2, 1) := by decide +kernel
theorem dX10_sheet_30 : decode mX10_sheet.2.1 30 = .ok (.ifCond .lt 11, 3) := by decide +kernel
theorem dX10_sheet_33 : decode mX10_sheet.2.1 33 = .ok (.iload_n 3, 1) := by decide +kernel
theorem dX10_sheet_34 : decode mX10_sheet.2.1 34 = .ok (.ifCond .ge 7, 3) := by decide +kernel
theorem dX10_sheet_37 : decode mX10_sheet.2.1 37 = .ok (.ldc_w 278, 3) := by decide +kernel
theorem dX10_sheet_40 : decode mX10_sheet.2.1 40 = .ok (.ireturn, 1) := by decide +kernel
theorem dX10_sheet_41 : decode mX10_sheet.2.1 41 = .ok (.aload_n 0, 1) := by decide +kernel
theorem dX10_sheet_42 : decode mX10_sheet.2.1 42 = .ok (.getfield 69, 3) := by decide +kernel
theorem dX10_sheet_45 : decode mX10_sheet.2.1 45 = .ok (.iload_n 1, 1) := by decide +kernel
theorem dX10_sheet_46 : decode mX10_sheet.2.1 46 = .ok (.iload_n 2, 1) := by decide +kernel
theorem dX10_sheet_47 : decode mX10_sheet.2.1 47 = .ok (.iastore, 1) := by decide +kernel
theorem dX10_sheet_48 : decode mX10_sheet.2.1 48 = .ok (.aload_n 0, 1) := by decide +kernel
theorem dX10_sheet_49 : decode mX10_sheet.2.1 49 = .ok (.getfield 72, 3) := by decide +kernel
theorem dX10_sheet_52 : decode mX10_sheet.2.1 52 = .ok (.iload_n 1, 1) := by decide +kernel
theorem dX10_sheet_53 : decode mX10_sheet.2.1 53 = .ok (.iload_n 2, 1) := by decide +kernel
theorem dX10_sheet_54 : decode mX10_sheet.2.1 54 = .ok (.ifCond .ge 7, 3) := by decide +kernel
theorem dX10_sheet_57 : decode mX10_sheet.2.1 57 = .ok (.iconst 0, 1) := by decide +kernel
theorem dX10_sheet_58 : decode mX10_sheet.2.1 58 = .ok (.goto 4, 3) := by decide +kernel
theorem dX10_sheet_61 : decode mX10_sheet.2.1 61 = .ok (.iload_n 3, 1) := by decide +kernel
theorem dX10_sheet_62 : decode mX10_sheet.2.1 62 = .ok (.iastore, 1) := by decide +kernel
theorem dX10_sheet_63 : decode mX10_sheet.2.1 63 = .ok (.iconst 0, 1) := by decide +kernel
theorem dX10_sheet_64 : decode mX10_sheet.2.1 64 = .ok (.istore 4, 2) := by decide +kernel
theorem dX10_sheet_66 : decode mX10_sheet.2.1 66 = .ok (.iload 4, 2) := by decide +kernel
theorem dX10_sheet_68 : decode mX10_sheet.2.1 68 = .ok (.bipush 24, 2) := by decide +kernel
theorem dX10_sheet_70 : decode mX10_sheet.2.1 70 = .ok (.if_icmp .ge 22, 3) := by decide +kernel
theorem dX10_sheet_73 : decode mX10_sheet.2.1 73 = .ok (.aload_n 0, 1) := by decide +kernel
theorem dX10_sheet_74 : decode mX10_sheet.2.1 74 = .ok (.getfield 75, 3) := by decide +kernel
theorem dX10_sheet_77 : decode mX10_sheet.2.1 77 = .ok (.bipush 24, 2) := by decide +kernel
theorem dX10_sheet_79 : decode mX10_sheet.2.1 79 = .ok (.iload_n 1, 1) := by decide +kernel
theorem dX10_sheet_80 : decode mX10_sheet.2.1 80 = .ok (.imul, 1) := by decide +kernel
theorem dX10_sheet_81 : decode mX10_sheet.2.1 81 = .ok (.iload 4, 2) := by decide +kernel
theorem dX10_sheet_83 : decode mX10_sheet.2.1 83 = .ok (.iadd, 1) := by decide +kernel
theorem dX10_sheet_84 : decode mX10_sheet.2.1 84 = .ok (.iconst 0, 1) := by decide +kernel
theorem dX10_sheet_85 : decode mX10_sheet.2.1 85 = .ok (.iastore, 1) := by decide +kernel
theorem dX10_sheet_86 : decode mX10_sheet.2.1 86 = .ok (.iinc 4 1, 3) := by decide +kernel
theorem dX10_sheet_89 : decode mX10_sheet.2.1 89 = .ok (.goto (-23), 3) := by decide +kernel
theorem dX10_sheet_92 : decode mX10_sheet.2.1 92 = .ok (.aload_n 0, 1) := by decide +kernel
theorem dX10_sheet_93 : decode mX10_sheet.2.1 93 = .ok (.getfield 72, 3) := by decide +kernel
theorem dX10_sheet_96 : decode mX10_sheet.2.1 96 = .ok (.iload_n 1, 1) := by decide +kernel
theorem dX10_sheet_97 : decode mX10_sheet.2.1 97 = .ok (.iaload, 1) := by decide +kernel
theorem dX10_sheet_98 : decode mX10_sheet.2.1 98 = .ok (.ireturn, 1) := by decide +kernel
theorem dX10_mark_0 : decode mX10_mark.2.1 0 = .ok (.iload_n 1, 1) := by decide +kernel
theorem dX10_mark_1 : decode mX10_mark.2.1 1 = .ok (.invokestatic 275, 3) := by decide +kernel
theorem dX10_mark_4 : decode mX10_mark.2.1 4 = .ok (.ifCond .ne 6, 3) := by decide +kernel
theorem dX10_mark_7 : decode mX10_mark.2.1 7 = .ok (.ldc 101, 2) := by decide +kernel
theorem dX10_mark_9 : decode mX10_mark.2.1 9 = .ok (.ireturn, 1) := by decide +kernel
theorem dX10_mark_10 : decode mX10_mark.2.1 10 = .ok (.aload_n 0, 1) := by decide +kernel
theorem dX10_mark_11 : decode mX10_mark.2.1 11 = .ok (.getfield 69, 3) := by decide +kernel
theorem dX10_mark_14 : decode mX10_mark.2.1 14 = .ok (.iload_n 1, 1) := by decide +kernel
theorem dX10_mark_15 : decode mX10_mark.2.1 15 = .ok (.iaload, 1) := by decide +kernel
theorem dX10_mark_16 : decode mX10_mark.2.1 16 = .ok (.ifCond .ge 7, 3) := by decide +kernel
theorem dX10_mark_19 : decode mX10_mark.2.1 19 = .ok (.ldc_w 279, 3) := by decide +kernel
theorem dX10_mark_22 : decode mX10_mark.2.1 22 = .ok (.ireturn, 1) := by decide +kernel
theorem dX10_mark_23 : decode mX10_mark.2.1 23 = .ok (.iload_n 2, 1) := by decide +kernel
theorem dX10_mark_24 : decode mX10_mark.2.1 24 = .ok (.iconst 0, 1) := by decide +kernel
theorem dX10_mark_25 : decode mX10_mark.2.1 25 = .ok (.aload_n 0, 1) := by decide +kernel
theorem dX10_mark_26 : decode mX10_mark.2.1 26 = .ok (.getfield 72, 3) := by decide +kernel
theorem dX10_mark_29 : decode mX10_mark.2.1 29 = .ok (.iload_n 1, 1) := by decide +kernel
theorem dX10_mark_30 : decode mX10_mark.2.1 30 = .ok (.iaload, 1) := by decide +kernel
theorem dX10_mark_31 : decode mX10_mark.2.1 31 = .ok (.iconst 1, 1) := by decide +kernel
theorem dX10_mark_32 : decode mX10_mark.2.1 32 = .ok (.isub, 1) := by decide +kernel
theorem dX10_mark_33 : decode mX10_mark.2.1 33 = .ok (.invokestatic 97, 3) := by decide +kernel
theorem dX10_mark_36 : decode mX10_mark.2.1 36 = .ok (.ifCond .ne 7, 3) := by decide +kernel
theorem dX10_mark_39 : decode mX10_mark.2.1 39 = .ok (.ldc_w 280, 3) := by decide +kernel
theorem dX10_mark_42 : decode mX10_mark.2.1 42 = .ok (.ireturn, 1) := by decide +kernel
theorem dX10_mark_43 : decode mX10_mark.2.1 43 = .ok (.aload_n 0, 1) := by decide +kernel
theorem dX10_mark_44 : decode mX10_mark.2.1 44 = .ok (.getfield 69, 3) := by decide +kernel
theorem dX10_mark_47 : decode mX10_mark.2.1 47 = .ok (.iload_n 1, 1) := by decide +kernel
theorem dX10_mark_48 : decode mX10_mark.2.1 48 = .ok (.iaload, 1) := by decide +kernel
theorem dX10_mark_49 : decode mX10_mark.2.1 49 = .ok (.ifCond .ne 12, 3) := by decide +kernel
theorem dX10_mark_52 : decode mX10_mark.2.1 52 = .ok (.iload_n 3, 1) := by decide +kernel
theorem dX10_mark_53 : decode mX10_mark.2.1 53 = .ok (.ldc 96, 2) := by decide +kernel
theorem dX10_mark_55 : decode mX10_mark.2.1 55 = .ok (.if_icmp .ne 6, 3) := by decide +kernel
theorem dX10_mark_58 : decode mX10_mark.2.1 58 = .ok (.ldc 143, 2) := by decide +kernel
theorem dX10_mark_60 : decode mX10_mark.2.1 60 = .ok (.ireturn, 1) := by decide +kernel
theorem dX10_mark_61 : decode mX10_mark.2.1 61 = .ok (.aload_n 0, 1) := by decide +kernel
theorem dX10_mark_62 : decode mX10_mark.2.1 62 = .ok (.getfield 69, 3) := by decide +kernel
theorem dX10_mark_65 : decode mX10_mark.2.1 65 = .ok (.iload_n 1, 1) := by decide +kernel
theorem dX10_mark_66 : decode mX10_mark.2.1 66 = .ok (.iaload, 1) := by decide +kernel
theorem dX10_mark_67 : decode mX10_mark.2.1 67 = .ok (.iconst 1, 1) := by decide +kernel
theorem dX10_mark_68 : decode mX10_mark.2.1 68 = .ok (.if_icmp .ne 25, 3) := by decide +kernel
theorem dX10_mark_71 : decode mX10_mark.2.1 71 = .ok (.iload_n 3, 1) := by decide +kernel
theorem dX10_mark_72 : decode mX10_mark.2.1 72 = .ok (.ldc 96, 2) := by decide +kernel
theorem dX10_mark_74 : decode mX10_mark.2.1 74 = .ok (.if_icmp .eq 19, 3) := by decide +kernel
theorem dX10_mark_77 : decode mX10_mark.2.1 77 = .ok (.iload_n 3, 1) := by decide +kernel
theorem dX10_mark_78 : decode mX10_mark.2.1 78 = .ok (.ldc_w 281, 3) := by decide +kernel
theorem dX10_mark_81 : decode mX10_mark.2.1 81 = .ok (.ldc_w 282, 3) := by decide +kernel
theorem dX10_mark_84 : decode mX10_mark.2.1 84 = .ok (.invokestatic 97, 3) := by decide +kernel
theorem dX10_mark_87 : decode mX10_mark.2.1 87 = .ok (.ifCond .ne 6, 3) := by decide +kernel
theorem dX10_mark_90 : decode mX10_mark.2.1 90 = .ok (.ldc 101, 2) := by decide +kernel
theorem dX10_mark_92 : decode mX10_mark.2.1 92 = .ok (.ireturn, 1) := by decide +kernel
theorem dX10_mark_93 : decode mX10_mark.2.1 93 = .ok (.aload_n 0, 1) := by decide +kernel
theorem dX10_mark_94 : decode mX10_mark.2.1 94 = .ok (.getfield 75, 3) := by decide +kernel
theorem dX10_mark_97 : decode mX10_mark.2.1 97 = .ok (.bipush 24, 2) := by decide +kernel
theorem dX10_mark_99 : decode mX10_mark.2.1 99 = .ok (.iload_n 1, 1) := by decide +kernel
theorem dX10_mark_100 : decode mX10_mark.2.1 100 = .ok (.imul, 1) := by decide +kernel
theorem dX10_mark_101 : decode mX10_mark.2.1 101 = .ok (.iload_n 2, 1) := by decide +kernel
theorem dX10_mark_102 : decode mX10_mark.2.1 102 = .ok (.iadd, 1) := by decide +kernel
theorem dX10_mark_103 : decode mX10_mark.2.1 103 = .ok (.aload_n 0, 1) := by decide +kernel
theorem dX10_mark_104 : decode mX10_mark.2.1 104 = .ok (.getfield 69, 3) := by decide +kernel
theorem dX10_mark_107 : decode mX10_mark.2.1 107 = .ok (.iload_n 1, 1) := by decide +kernel
theorem dX10_mark_108 : decode mX10_mark.2.1 108 = .ok (.iaload, 1) := by decide +kernel
theorem dX10_mark_109 : decode mX10_mark.2.1 109 = .ok (.ifCond .ne 8, 3) := by decide +kernel
theorem dX10_mark_112 : decode mX10_mark.2.1 112 = .ok (.iload_n 3, 1) := by decide +kernel
theorem dX10_mark_113 : decode mX10_mark.2.1 113 = .ok (.i2s, 1) := by decide +kernel
theorem dX10_mark_114 : decode mX10_mark.2.1 114 = .ok (.goto 4, 3) := by decide +kernel
theorem dX10_mark_117 : decode mX10_mark.2.1 117 = .ok (.iload_n 3, 1) := by decide +kernel
theorem dX10_mark_118 : decode mX10_mark.2.1 118 = .ok (.iastore, 1) := by decide +kernel
theorem dX10_mark_119 : decode mX10_mark.2.1 119 = .ok (.iconst 1, 1) := by decide +kernel
theorem dX10_mark_120 : decode mX10_mark.2.1 120 = .ok (.ireturn, 1) := by decide +kernel
theorem dX10_learn_0 : decode mX10_learn.2.1 0 = .ok (.iload_n 1, 1) := by decide +kernel
theorem dX10_learn_1 : decode mX10_learn.2.1 1 = .ok (.invokestatic 275, 3) := by decide +kernel
theorem dX10_learn_4 : decode mX10_learn.2.1 4 = .ok (.ifCond .ne 6, 3) := by decide +kernel
theorem dX10_learn_7 : decode mX10_learn.2.1 7 = .ok (.ldc 101, 2) := by decide +kernel
theorem dX10_learn_9 : decode mX10_learn.2.1 9 = .ok (.ireturn, 1) := by decide +kernel
theorem dX10_learn_10 : decode mX10_learn.2.1 10 = .ok (.aload_n 0, 1) := by decide +kernel
theorem dX10_learn_11 : decode mX10_learn.2.1 11 = .ok (.getfield 69, 3) := by decide +kernel
theorem dX10_learn_14 : decode mX10_learn.2.1 14 = .ok (.iload_n 1, 1) := by decide +kernel
theorem dX10_learn_15 : decode mX10_learn.2.1 15 = .ok (.iaload, 1) := by decide +kernel
theorem dX10_learn_16 : decode mX10_learn.2.1 16 = .ok (.ifCond .ge 7, 3) := by decide +kernel
theorem dX10_learn_19 : decode mX10_learn.2.1 19 = .ok (.ldc_w 279, 3) := by decide +kernel
theorem dX10_learn_22 : decode mX10_learn.2.1 22 = .ok (.ireturn, 1) := by decide +kernel
theorem dX10_learn_23 : decode mX10_learn.2.1 23 = .ok (.aload_n 0, 1) := by decide +kernel
theorem dX10_learn_24 : decode mX10_learn.2.1 24 = .ok (.invokevirtual 172, 3) := by decide +kernel
theorem dX10_learn_27 : decode mX10_learn.2.1 27 = .ok (.iconst (-1), 1) := by decide +kernel
theorem dX10_learn_28 : decode mX10_learn.2.1 28 = .ok (.istore_n 2, 1) := by decide +kernel
theorem dX10_learn_29 : decode mX10_learn.2.1 29 = .ok (.iconst 0, 1) := by decide +kernel
theorem dX10_learn_30 : decode mX10_learn.2.1 30 = .ok (.istore_n 3, 1) := by decide +kernel
theorem dX10_learn_31 : decode mX10_learn.2.1 31 = .ok (.iconst 0, 1) := by decide +kernel
theorem dX10_learn_32 : decode mX10_learn.2.1 32 = .ok (.istore 4, 2) := by decide +kernel
theorem dX10_learn_34 : decode mX10_learn.2.1 34 = .ok (.iload 4, 2) := by decide +kernel
theorem dX10_learn_36 : decode mX10_learn.2.1 36 = .ok (.aload_n 0, 1) := by decide +kernel
theorem dX10_learn_37 : decode mX10_learn.2.1 37 = .ok (.getfield 9, 3) := by decide +kernel
theorem dX10_learn_40 : decode mX10_learn.2.1 40 = .ok (.iconst 1, 1) := by decide +kernel
theorem dX10_learn_41 : decode mX10_learn.2.1 41 = .ok (.iaload, 1) := by decide +kernel
theorem dX10_learn_42 : decode mX10_learn.2.1 42 = .ok (.if_icmp .ge 127, 3) := by decide +kernel
theorem dX10_learn_45 : decode mX10_learn.2.1 45 = .ok (.aload_n 0, 1) := by decide +kernel
theorem dX10_learn_46 : decode mX10_learn.2.1 46 = .ok (.iload 4, 2) := by decide +kernel
theorem dX10_learn_48 : decode mX10_learn.2.1 48 = .ok (.invokevirtual 175, 3) := by decide +kernel
theorem dX10_learn_51 : decode mX10_learn.2.1 51 = .ok (.iconst 0, 1) := by decide +kernel
theorem dX10_learn_52 : decode mX10_learn.2.1 52 = .ok (.istore 5, 2) := by decide +kernel
theorem dX10_learn_54 : decode mX10_learn.2.1 54 = .ok (.iconst 0, 1) := by decide +kernel
theorem dX10_learn_55 : decode mX10_learn.2.1 55 = .ok (.istore 6, 2) := by decide +kernel
theorem dX10_learn_57 : decode mX10_learn.2.1 57 = .ok (.iload 6, 2) := by decide +kernel
theorem dX10_learn_59 : decode mX10_learn.2.1 59 = .ok (.aload_n 0, 1) := by decide +kernel
theorem dX10_learn_60 : decode mX10_learn.2.1 60 = .ok (.getfield 72, 3) := by decide +kernel
theorem dX10_learn_63 : decode mX10_learn.2.1 63 = .ok (.iload_n 1, 1) := by decide +kernel
theorem dX10_learn_64 : decode mX10_learn.2.1 64 = .ok (.iaload, 1) := by decide +kernel
theorem dX10_learn_65 : decode mX10_learn.2.1 65 = .ok (.if_icmp .ge 68, 3) := by decide +kernel
theorem dX10_learn_68 : decode mX10_learn.2.1 68 = .ok (.aload_n 0, 1) := by decide +kernel
theorem dX10_learn_69 : decode mX10_learn.2.1 69 = .ok (.getfield 75, 3) := by decide +kernel
theorem dX10_learn_72 : decode mX10_learn.2.1 72 = .ok (.bipush 24, 2) := by decide +kernel
theorem dX10_learn_74 : decode mX10_learn.2.1 74 = .ok (.iload_n 1, 1) := by decide +kernel
theorem dX10_learn_75 : decode mX10_learn.2.1 75 = .ok (.imul, 1) := by decide +kernel
theorem dX10_learn_76 : decode mX10_learn.2.1 76 = .ok (.iload 6, 2) := by decide +kernel
theorem dX10_learn_78 : decode mX10_learn.2.1 78 = .ok (.iadd, 1) := by decide +kernel
theorem dX10_learn_79 : decode mX10_learn.2.1 79 = .ok (.iaload, 1) := by decide +kernel
theorem dX10_learn_80 : decode mX10_learn.2.1 80 = .ok (.istore 7, 2) := by decide +kernel
theorem dX10_learn_82 : decode mX10_learn.2.1 82 = .ok (.iload 7, 2) := by decide +kernel
theorem dX10_learn_84 : decode mX10_learn.2.1 84 = .ok (.aload_n 0, 1) := by decide +kernel
theorem dX10_learn_85 : decode mX10_learn.2.1 85 = .ok (.getfield 38, 3) := by decide +kernel
theorem dX10_learn_88 : decode mX10_learn.2.1 88 = .ok (.iload 6, 2) := by decide +kernel
theorem dX10_learn_90 : decode mX10_learn.2.1 90 = .ok (.iaload, 1) := by decide +kernel
theorem dX10_learn_91 : decode mX10_learn.2.1 91 = .ok (.sipush 10000, 3) := by decide +kernel
theorem dX10_learn_94 : decode mX10_learn.2.1 94 = .ok (.idiv, 1) := by decide +kernel
theorem dX10_learn_95 : decode mX10_learn.2.1 95 = .ok (.isub, 1) := by decide +kernel
theorem dX10_learn_96 : decode mX10_learn.2.1 96 = .ok (.istore 8, 2) := by decide +kernel
theorem dX10_learn_98 : decode mX10_learn.2.1 98 = .ok (.iload 5, 2) := by decide +kernel
theorem dX10_learn_100 : decode mX10_learn.2.1 100 = .ok (.iload 7, 2) := by decide +kernel
theorem dX10_learn_102 : decode mX10_learn.2.1 102 = .ok (.ldc 96, 2) := by decide +kernel
theorem dX10_learn_104 : decode mX10_learn.2.1 104 = .ok (.if_icmp .ne 7, 3) := by decide +kernel
theorem dX10_learn_107 : decode mX10_learn.2.1 107 = .ok (.iconst 0, 1) := by decide +kernel
theorem dX10_learn_108 : decode mX10_learn.2.1 108 = .ok (.goto 16, 3) := by decide +kernel
theorem dX10_learn_111 : decode mX10_learn.2.1 111 = .ok (.iload 8, 2) := by decide +kernel
theorem dX10_learn_113 : decode mX10_learn.2.1 113 = .ok (.ifCond .ge 9, 3) := by decide +kernel
theorem dX10_learn_116 : decode mX10_learn.2.1 116 = .ok (.iload 8, 2) := by decide +kernel
theorem dX10_learn_118 : decode mX10_learn.2.1 118 = .ok (.ineg, 1) := by decide +kernel
theorem dX10_learn_119 : decode mX10_learn.2.1 119 = .ok (.goto 5, 3) := by decide +kernel
theorem dX10_learn_122 : decode mX10_learn.2.1 122 = .ok (.iload 8, 2) := by decide +kernel
theorem dX10_learn_124 : decode mX10_learn.2.1 124 = .ok (.iadd, 1) := by decide +kernel
theorem dX10_learn_125 : decode mX10_learn.2.1 125 = .ok (.istore 5, 2) := by decide +kernel
theorem dX10_learn_127 : decode mX10_learn.2.1 127 = .ok (.iinc 6 1, 3) := by decide +kernel
theorem dX10_learn_130 : decode mX10_learn.2.1 130 = .ok (.goto (-73), 3) := by decide +kernel
theorem dX10_learn_133 : decode mX10_learn.2.1 133 = .ok (.iload_n 2, 1) := by decide +kernel
theorem dX10_learn_134 : decode mX10_learn.2.1 134 = .ok (.ifCond .lt 9, 3) := by decide +kernel
theorem dX10_learn_137 : decode mX10_learn.2.1 137 = .ok (.iload 5, 2) := by decide +kernel
theorem dX10_learn_139 : decode mX10_learn.2.1 139 = .ok (.iload_n 3, 1) := by decide +kernel
theorem dX10_learn_140 : decode mX10_learn.2.1 140 = .ok (.if_icmp .ge 8, 3) := by decide +kernel
theorem dX10_learn_143 : decode mX10_learn.2.1 143 = .ok (.iload 4, 2) := by decide +kernel
theorem dX10_learn_145 : decode mX10_learn.2.1 145 = .ok (.goto 4, 3) := by decide +kernel
theorem dX10_learn_148 : decode mX10_learn.2.1 148 = .ok (.iload_n 2, 1) := by decide +kernel
theorem dX10_learn_149 : decode mX10_learn.2.1 149 = .ok (.istore_n 2, 1) := by decide +kernel
theorem dX10_learn_150 : decode mX10_learn.2.1 150 = .ok (.iload_n 2, 1) := by decide +kernel
theorem dX10_learn_151 : decode mX10_learn.2.1 151 = .ok (.iload 4, 2) := by decide +kernel
theorem dX10_learn_153 : decode mX10_learn.2.1 153 = .ok (.if_icmp .ne 8, 3) := by decide +kernel
theorem dX10_learn_156 : decode mX10_learn.2.1 156 = .ok (.iload 5, 2) := by decide +kernel
theorem dX10_learn_158 : decode mX10_learn.2.1 158 = .ok (.goto 4, 3) := by decide +kernel
theorem dX10_learn_161 : decode mX10_learn.2.1 161 = .ok (.iload_n 3, 1) := by decide +kernel
theorem dX10_learn_162 : decode mX10_learn.2.1 162 = .ok (.istore_n 3, 1) := by decide +kernel
theorem dX10_learn_163 : decode mX10_learn.2.1 163 = .ok (.iinc 4 1, 3) := by decide +kernel
theorem dX10_learn_166 : decode mX10_learn.2.1 166 = .ok (.goto (-132), 3) := by decide +kernel
theorem dX10_learn_169 : decode mX10_learn.2.1 169 = .ok (.iload_n 2, 1) := by decide +kernel
theorem dX10_learn_170 : decode mX10_learn.2.1 170 = .ok (.invokestatic 162, 3) := by decide +kernel
theorem dX10_learn_173 : decode mX10_learn.2.1 173 = .ok (.ireturn, 1) := by decide +kernel
theorem dX10_reads_0 : decode mX10_reads.2.1 0 = .ok (.iload_n 1, 1) := by decide +kernel
theorem dX10_reads_1 : decode mX10_reads.2.1 1 = .ok (.invokestatic 275, 3) := by decide +kernel
theorem dX10_reads_4 : decode mX10_reads.2.1 4 = .ok (.ifCond .eq 11, 3) := by decide +kernel
theorem dX10_reads_7 : decode mX10_reads.2.1 7 = .ok (.aload_n 0, 1) := by decide +kernel
theorem dX10_reads_8 : decode mX10_reads.2.1 8 = .ok (.iload_n 2, 1) := by decide +kernel
theorem dX10_reads_9 : decode mX10_reads.2.1 9 = .ok (.invokevirtual 134, 3) := by decide +kernel
theorem dX10_reads_12 : decode mX10_reads.2.1 12 = .ok (.ifCond .ne 6, 3) := by decide +kernel
theorem dX10_reads_15 : decode mX10_reads.2.1 15 = .ok (.ldc 101, 2) := by decide +kernel
theorem dX10_reads_17 : decode mX10_reads.2.1 17 = .ok (.ireturn, 1) := by decide +kernel
theorem dX10_reads_18 : decode mX10_reads.2.1 18 = .ok (.aload_n 0, 1) := by decide +kernel
theorem dX10_reads_19 : decode mX10_reads.2.1 19 = .ok (.getfield 69, 3) := by decide +kernel
theorem dX10_reads_22 : decode mX10_reads.2.1 22 = .ok (.iload_n 1, 1) := by decide +kernel
theorem dX10_reads_23 : decode mX10_reads.2.1 23 = .ok (.iaload, 1) := by decide +kernel
theorem dX10_reads_24 : decode mX10_reads.2.1 24 = .ok (.ifCond .ge 7, 3) := by decide +kernel
theorem dX10_reads_27 : decode mX10_reads.2.1 27 = .ok (.ldc_w 279, 3) := by decide +kernel
theorem dX10_reads_30 : decode mX10_reads.2.1 30 = .ok (.ireturn, 1) := by decide +kernel
theorem dX10_reads_31 : decode mX10_reads.2.1 31 = .ok (.iconst 0, 1) := by decide +kernel
theorem dX10_reads_32 : decode mX10_reads.2.1 32 = .ok (.istore_n 3, 1) := by decide +kernel
theorem dX10_reads_33 : decode mX10_reads.2.1 33 = .ok (.iload_n 3, 1) := by decide +kernel
theorem dX10_reads_34 : decode mX10_reads.2.1 34 = .ok (.aload_n 0, 1) := by decide +kernel
theorem dX10_reads_35 : decode mX10_reads.2.1 35 = .ok (.getfield 72, 3) := by decide +kernel
theorem dX10_reads_38 : decode mX10_reads.2.1 38 = .ok (.iload_n 1, 1) := by decide +kernel
theorem dX10_reads_39 : decode mX10_reads.2.1 39 = .ok (.iaload, 1) := by decide +kernel
theorem dX10_reads_40 : decode mX10_reads.2.1 40 = .ok (.if_icmp .ge 42, 3) := by decide +kernel
theorem dX10_reads_43 : decode mX10_reads.2.1 43 = .ok (.aload_n 0, 1) := by decide +kernel
theorem dX10_reads_44 : decode mX10_reads.2.1 44 = .ok (.getfield 75, 3) := by decide +kernel
theorem dX10_reads_47 : decode mX10_reads.2.1 47 = .ok (.bipush 24, 2) := by decide +kernel
theorem dX10_reads_49 : decode mX10_reads.2.1 49 = .ok (.iload_n 1, 1) := by decide +kernel
theorem dX10_reads_50 : decode mX10_reads.2.1 50 = .ok (.imul, 1) := by decide +kernel
theorem dX10_reads_51 : decode mX10_reads.2.1 51 = .ok (.iload_n 3, 1) := by decide +kernel
theorem dX10_reads_52 : decode mX10_reads.2.1 52 = .ok (.iadd, 1) := by decide +kernel
theorem dX10_reads_53 : decode mX10_reads.2.1 53 = .ok (.iaload, 1) := by decide +kernel
theorem dX10_reads_54 : decode mX10_reads.2.1 54 = .ok (.istore 4, 2) := by decide +kernel
theorem dX10_reads_56 : decode mX10_reads.2.1 56 = .ok (.iload 4, 2) := by decide +kernel
theorem dX10_reads_58 : decode mX10_reads.2.1 58 = .ok (.ldc 96, 2) := by decide +kernel
theorem dX10_reads_60 : decode mX10_reads.2.1 60 = .ok (.if_icmp .eq 16, 3) := by decide +kernel
theorem dX10_reads_63 : decode mX10_reads.2.1 63 = .ok (.iload 4, 2) := by decide +kernel
theorem dX10_reads_65 : decode mX10_reads.2.1 65 = .ok (.aload_n 0, 1) := by decide +kernel
theorem dX10_reads_66 : decode mX10_reads.2.1 66 = .ok (.iload_n 2, 1) := by decide +kernel
theorem dX10_reads_67 : decode mX10_reads.2.1 67 = .ok (.iload_n 3, 1) := by decide +kernel
theorem dX10_reads_68 : decode mX10_reads.2.1 68 = .ok (.invokevirtual 159, 3) := by decide +kernel
theorem dX10_reads_71 : decode mX10_reads.2.1 71 = .ok (.if_icmp .eq 5, 3) := by decide +kernel
theorem dX10_reads_74 : decode mX10_reads.2.1 74 = .ok (.iload_n 3, 1) := by decide +kernel
theorem dX10_reads_75 : decode mX10_reads.2.1 75 = .ok (.ireturn, 1) := by decide +kernel
theorem dX10_reads_76 : decode mX10_reads.2.1 76 = .ok (.iinc 3 1, 3) := by decide +kernel
theorem dX10_reads_79 : decode mX10_reads.2.1 79 = .ok (.goto (-46), 3) := by decide +kernel
theorem dX10_reads_82 : decode mX10_reads.2.1 82 = .ok (.ldc 96, 2) := by decide +kernel
theorem dX10_reads_84 : decode mX10_reads.2.1 84 = .ok (.ireturn, 1) := by decide +kernel
theorem dX10_copy_0 : decode mX10_copy.2.1 0 = .ok (.iload_n 1, 1) := by decide +kernel
theorem dX10_copy_1 : decode mX10_copy.2.1 1 = .ok (.invokestatic 275, 3) := by decide +kernel
theorem dX10_copy_4 : decode mX10_copy.2.1 4 = .ok (.ifCond .eq 10, 3) := by decide +kernel
theorem dX10_copy_7 : decode mX10_copy.2.1 7 = .ok (.iload_n 3, 1) := by decide +kernel
theorem dX10_copy_8 : decode mX10_copy.2.1 8 = .ok (.invokestatic 275, 3) := by decide +kernel
theorem dX10_copy_11 : decode mX10_copy.2.1 11 = .ok (.ifCond .ne 6, 3) := by decide +kernel
theorem dX10_copy_14 : decode mX10_copy.2.1 14 = .ok (.ldc 101, 2) := by decide +kernel
theorem dX10_copy_16 : decode mX10_copy.2.1 16 = .ok (.ireturn, 1) := by decide +kernel
theorem dX10_copy_17 : decode mX10_copy.2.1 17 = .ok (.aload_n 0, 1) := by decide +kernel
theorem dX10_copy_18 : decode mX10_copy.2.1 18 = .ok (.getfield 69, 3) := by decide +kernel
theorem dX10_copy_21 : decode mX10_copy.2.1 21 = .ok (.iload_n 1, 1) := by decide +kernel
theorem dX10_copy_22 : decode mX10_copy.2.1 22 = .ok (.iaload, 1) := by decide +kernel
theorem dX10_copy_23 : decode mX10_copy.2.1 23 = .ok (.ifCond .lt 12, 3) := by decide +kernel
theorem dX10_copy_26 : decode mX10_copy.2.1 26 = .ok (.aload_n 0, 1) := by decide +kernel
theorem dX10_copy_27 : decode mX10_copy.2.1 27 = .ok (.getfield 69, 3) := by decide +kernel
theorem dX10_copy_30 : decode mX10_copy.2.1 30 = .ok (.iload_n 3, 1) := by decide +kernel
theorem dX10_copy_31 : decode mX10_copy.2.1 31 = .ok (.iaload, 1) := by decide +kernel
theorem dX10_copy_32 : decode mX10_copy.2.1 32 = .ok (.ifCond .ge 7, 3) := by decide +kernel
theorem dX10_copy_35 : decode mX10_copy.2.1 35 = .ok (.ldc_w 279, 3) := by decide +kernel
theorem dX10_copy_38 : decode mX10_copy.2.1 38 = .ok (.ireturn, 1) := by decide +kernel
theorem dX10_copy_39 : decode mX10_copy.2.1 39 = .ok (.aload_n 0, 1) := by decide +kernel
theorem dX10_copy_40 : decode mX10_copy.2.1 40 = .ok (.getfield 69, 3) := by decide +kernel
theorem dX10_copy_43 : decode mX10_copy.2.1 43 = .ok (.iload_n 1, 1) := by decide +kernel
theorem dX10_copy_44 : decode mX10_copy.2.1 44 = .ok (.iaload, 1) := by decide +kernel
theorem dX10_copy_45 : decode mX10_copy.2.1 45 = .ok (.aload_n 0, 1) := by decide +kernel
theorem dX10_copy_46 : decode mX10_copy.2.1 46 = .ok (.getfield 69, 3) := by decide +kernel
theorem dX10_copy_49 : decode mX10_copy.2.1 49 = .ok (.iload_n 3, 1) := by decide +kernel
theorem dX10_copy_50 : decode mX10_copy.2.1 50 = .ok (.iaload, 1) := by decide +kernel
theorem dX10_copy_51 : decode mX10_copy.2.1 51 = .ok (.if_icmp .eq 6, 3) := by decide +kernel
theorem dX10_copy_54 : decode mX10_copy.2.1 54 = .ok (.ldc 143, 2) := by decide +kernel
theorem dX10_copy_56 : decode mX10_copy.2.1 56 = .ok (.ireturn, 1) := by decide +kernel
theorem dX10_copy_57 : decode mX10_copy.2.1 57 = .ok (.iload_n 2, 1) := by decide +kernel
theorem dX10_copy_58 : decode mX10_copy.2.1 58 = .ok (.ifCond .lt 40, 3) := by decide +kernel
theorem dX10_copy_61 : decode mX10_copy.2.1 61 = .ok (.iload 4, 2) := by decide +kernel
theorem dX10_copy_63 : decode mX10_copy.2.1 63 = .ok (.ifCond .lt 35, 3) := by decide +kernel
theorem dX10_copy_66 : decode mX10_copy.2.1 66 = .ok (.iload 5, 2) := by decide +kernel
theorem dX10_copy_68 : decode mX10_copy.2.1 68 = .ok (.ifCond .lt 30, 3) := by decide +kernel
theorem dX10_copy_71 : decode mX10_copy.2.1 71 = .ok (.iload_n 2, 1) := by decide +kernel
theorem dX10_copy_72 : decode mX10_copy.2.1 72 = .ok (.aload_n 0, 1) := by decide +kernel
theorem dX10_copy_73 : decode mX10_copy.2.1 73 = .ok (.getfield 72, 3) := by decide +kernel
theorem dX10_copy_76 : decode mX10_copy.2.1 76 = .ok (.iload_n 1, 1) := by decide +kernel
theorem dX10_copy_77 : decode mX10_copy.2.1 77 = .ok (.iaload, 1) := by decide +kernel
theorem dX10_copy_78 : decode mX10_copy.2.1 78 = .ok (.iload 5, 2) := by decide +kernel
theorem dX10_copy_80 : decode mX10_copy.2.1 80 = .ok (.isub, 1) := by decide +kernel
theorem dX10_copy_81 : decode mX10_copy.2.1 81 = .ok (.if_icmp .gt 17, 3) := by decide +kernel
theorem dX10_copy_84 : decode mX10_copy.2.1 84 = .ok (.iload 4, 2) := by decide +kernel
theorem dX10_copy_86 : decode mX10_copy.2.1 86 = .ok (.aload_n 0, 1) := by decide +kernel
theorem dX10_copy_87 : decode mX10_copy.2.1 87 = .ok (.getfield 72, 3) := by decide +kernel
theorem dX10_copy_90 : decode mX10_copy.2.1 90 = .ok (.iload_n 3, 1) := by decide +kernel
theorem dX10_copy_91 : decode mX10_copy.2.1 91 = .ok (.iaload, 1) := by decide +kernel
theorem dX10_copy_92 : decode mX10_copy.2.1 92 = .ok (.iload 5, 2) := by decide +kernel
theorem dX10_copy_94 : decode mX10_copy.2.1 94 = .ok (.isub, 1) := by decide +kernel
theorem dX10_copy_95 : decode mX10_copy.2.1 95 = .ok (.if_icmp .le 7, 3) := by decide +kernel
theorem dX10_copy_98 : decode mX10_copy.2.1 98 = .ok (.ldc_w 280, 3) := by decide +kernel
theorem dX10_copy_101 : decode mX10_copy.2.1 101 = .ok (.ireturn, 1) := by decide +kernel
theorem dX10_copy_102 : decode mX10_copy.2.1 102 = .ok (.iconst 0, 1) := by decide +kernel
theorem dX10_copy_103 : decode mX10_copy.2.1 103 = .ok (.istore 6, 2) := by decide +kernel
theorem dX10_copy_105 : decode mX10_copy.2.1 105 = .ok (.iload 6, 2) := by decide +kernel
theorem dX10_copy_107 : decode mX10_copy.2.1 107 = .ok (.iload 5, 2) := by decide +kernel
theorem dX10_copy_109 : decode mX10_copy.2.1 109 = .ok (.if_icmp .ge 30, 3) := by decide +kernel
theorem dX10_copy_112 : decode mX10_copy.2.1 112 = .ok (.aload_n 0, 1) := by decide +kernel
theorem dX10_copy_113 : decode mX10_copy.2.1 113 = .ok (.getfield 90, 3) := by decide +kernel
theorem dX10_copy_116 : decode mX10_copy.2.1 116 = .ok (.iload 6, 2) := by decide +kernel
theorem dX10_copy_118 : decode mX10_copy.2.1 118 = .ok (.aload_n 0, 1) := by decide +kernel
theorem dX10_copy_119 : decode mX10_copy.2.1 119 = .ok (.getfield 75, 3) := by decide +kernel
theorem dX10_copy_122 : decode mX10_copy.2.1 122 = .ok (.bipush 24, 2) := by decide +kernel
theorem dX10_copy_124 : decode mX10_copy.2.1 124 = .ok (.iload_n 1, 1) := by decide +kernel
theorem dX10_copy_125 : decode mX10_copy.2.1 125 = .ok (.imul, 1) := by decide +kernel
theorem dX10_copy_126 : decode mX10_copy.2.1 126 = .ok (.iload_n 2, 1) := by decide +kernel
theorem dX10_copy_127 : decode mX10_copy.2.1 127 = .ok (.iadd, 1) := by decide +kernel
theorem dX10_copy_128 : decode mX10_copy.2.1 128 = .ok (.iload 6, 2) := by decide +kernel
theorem dX10_copy_130 : decode mX10_copy.2.1 130 = .ok (.iadd, 1) := by decide +kernel
theorem dX10_copy_131 : decode mX10_copy.2.1 131 = .ok (.iaload, 1) := by decide +kernel
theorem dX10_copy_132 : decode mX10_copy.2.1 132 = .ok (.iastore, 1) := by decide +kernel
theorem dX10_copy_133 : decode mX10_copy.2.1 133 = .ok (.iinc 6 1, 3) := by decide +kernel
theorem dX10_copy_136 : decode mX10_copy.2.1 136 = .ok (.goto (-31), 3) := by decide +kernel
theorem dX10_copy_139 : decode mX10_copy.2.1 139 = .ok (.iconst 0, 1) := by decide +kernel
theorem dX10_copy_140 : decode mX10_copy.2.1 140 = .ok (.istore 6, 2) := by decide +kernel
theorem dX10_copy_142 : decode mX10_copy.2.1 142 = .ok (.iload 6, 2) := by decide +kernel
theorem dX10_copy_144 : decode mX10_copy.2.1 144 = .ok (.iload 5, 2) := by decide +kernel
theorem dX10_copy_146 : decode mX10_copy.2.1 146 = .ok (.if_icmp .ge 31, 3) := by decide +kernel
theorem dX10_copy_149 : decode mX10_copy.2.1 149 = .ok (.aload_n 0, 1) := by decide +kernel
theorem dX10_copy_150 : decode mX10_copy.2.1 150 = .ok (.getfield 75, 3) := by decide +kernel
theorem dX10_copy_153 : decode mX10_copy.2.1 153 = .ok (.bipush 24, 2) := by decide +kernel
theorem dX10_copy_155 : decode mX10_copy.2.1 155 = .ok (.iload_n 3, 1) := by decide +kernel
theorem dX10_copy_156 : decode mX10_copy.2.1 156 = .ok (.imul, 1) := by decide +kernel
theorem dX10_copy_157 : decode mX10_copy.2.1 157 = .ok (.iload 4, 2) := by decide +kernel
theorem dX10_copy_159 : decode mX10_copy.2.1 159 = .ok (.iadd, 1) := by decide +kernel
theorem dX10_copy_160 : decode mX10_copy.2.1 160 = .ok (.iload 6, 2) := by decide +kernel
theorem dX10_copy_162 : decode mX10_copy.2.1 162 = .ok (.iadd, 1) := by decide +kernel
theorem dX10_copy_163 : decode mX10_copy.2.1 163 = .ok (.aload_n 0, 1) := by decide +kernel
theorem dX10_copy_164 : decode mX10_copy.2.1 164 = .ok (.getfield 90, 3) := by decide +kernel
theorem dX10_copy_167 : decode mX10_copy.2.1 167 = .ok (.iload 6, 2) := by decide +kernel
theorem dX10_copy_169 : decode mX10_copy.2.1 169 = .ok (.iaload, 1) := by decide +kernel
theorem dX10_copy_170 : decode mX10_copy.2.1 170 = .ok (.iastore, 1) := by decide +kernel
theorem dX10_copy_171 : decode mX10_copy.2.1 171 = .ok (.iinc 6 1, 3) := by decide +kernel
theorem dX10_copy_174 : decode mX10_copy.2.1 174 = .ok (.goto (-32), 3) := by decide +kernel
theorem dX10_copy_177 : decode mX10_copy.2.1 177 = .ok (.iload 5, 2) := by decide +kernel
theorem dX10_copy_179 : decode mX10_copy.2.1 179 = .ok (.ireturn, 1) := by decide +kernel
theorem dX10_lay_0 : decode mX10_lay.2.1 0 = .ok (.iload_n 1, 1) := by decide +kernel
theorem dX10_lay_1 : decode mX10_lay.2.1 1 = .ok (.invokestatic 283, 3) := by decide +kernel
theorem dX10_lay_4 : decode mX10_lay.2.1 4 = .ok (.ifCond .eq 37, 3) := by decide +kernel
theorem dX10_lay_7 : decode mX10_lay.2.1 7 = .ok (.iload_n 2, 1) := by decide +kernel
theorem dX10_lay_8 : decode mX10_lay.2.1 8 = .ok (.iconst 0, 1) := by decide +kernel
theorem dX10_lay_9 : decode mX10_lay.2.1 9 = .ok (.iconst 3, 1) := by decide +kernel
theorem dX10_lay_10 : decode mX10_lay.2.1 10 = .ok (.invokestatic 97, 3) := by decide +kernel
theorem dX10_lay_13 : decode mX10_lay.2.1 13 = .ok (.ifCond .eq 28, 3) := by decide +kernel
theorem dX10_lay_16 : decode mX10_lay.2.1 16 = .ok (.iload_n 2, 1) := by decide +kernel
theorem dX10_lay_17 : decode mX10_lay.2.1 17 = .ok (.iconst 1, 1) := by decide +kernel
theorem dX10_lay_18 : decode mX10_lay.2.1 18 = .ok (.if_icmp .ne 11, 3) := by decide +kernel
theorem dX10_lay_21 : decode mX10_lay.2.1 21 = .ok (.aload_n 0, 1) := by decide +kernel
theorem dX10_lay_22 : decode mX10_lay.2.1 22 = .ok (.iload_n 3, 1) := by decide +kernel
theorem dX10_lay_23 : decode mX10_lay.2.1 23 = .ok (.invokevirtual 134, 3) := by decide +kernel
theorem dX10_lay_26 : decode mX10_lay.2.1 26 = .ok (.ifCond .eq 15, 3) := by decide +kernel
theorem dX10_lay_29 : decode mX10_lay.2.1 29 = .ok (.iload_n 2, 1) := by decide +kernel
theorem dX10_lay_30 : decode mX10_lay.2.1 30 = .ok (.iconst 2, 1) := by decide +kernel
theorem dX10_lay_31 : decode mX10_lay.2.1 31 = .ok (.if_icmp .ne 13, 3) := by decide +kernel
theorem dX10_lay_34 : decode mX10_lay.2.1 34 = .ok (.iload_n 3, 1) := by decide +kernel
theorem dX10_lay_35 : decode mX10_lay.2.1 35 = .ok (.invokestatic 275, 3) := by decide +kernel
theorem dX10_lay_38 : decode mX10_lay.2.1 38 = .ok (.ifCond .ne 6, 3) := by decide +kernel
theorem dX10_lay_41 : decode mX10_lay.2.1 41 = .ok (.ldc 101, 2) := by decide +kernel
theorem dX10_lay_43 : decode mX10_lay.2.1 43 = .ok (.ireturn, 1) := by decide +kernel
theorem dX10_lay_44 : decode mX10_lay.2.1 44 = .ok (.iload_n 2, 1) := by decide +kernel
theorem dX10_lay_45 : decode mX10_lay.2.1 45 = .ok (.iconst 2, 1) := by decide +kernel
theorem dX10_lay_46 : decode mX10_lay.2.1 46 = .ok (.if_icmp .ne 16, 3) := by decide +kernel
theorem dX10_lay_49 : decode mX10_lay.2.1 49 = .ok (.aload_n 0, 1) := by decide +kernel
theorem dX10_lay_50 : decode mX10_lay.2.1 50 = .ok (.getfield 69, 3) := by decide +kernel
theorem dX10_lay_53 : decode mX10_lay.2.1 53 = .ok (.iload_n 3, 1) := by decide +kernel
theorem dX10_lay_54 : decode mX10_lay.2.1 54 = .ok (.iaload, 1) := by decide +kernel
theorem dX10_lay_55 : decode mX10_lay.2.1 55 = .ok (.ifCond .ge 7, 3) := by decide +kernel
theorem dX10_lay_58 : decode mX10_lay.2.1 58 = .ok (.ldc_w 279, 3) := by decide +kernel
theorem dX10_lay_61 : decode mX10_lay.2.1 61 = .ok (.ireturn, 1) := by decide +kernel
theorem dX10_lay_62 : decode mX10_lay.2.1 62 = .ok (.aload_n 0, 1) := by decide +kernel
theorem dX10_lay_63 : decode mX10_lay.2.1 63 = .ok (.getfield 78, 3) := by decide +kernel
theorem dX10_lay_66 : decode mX10_lay.2.1 66 = .ok (.iload_n 1, 1) := by decide +kernel
theorem dX10_lay_67 : decode mX10_lay.2.1 67 = .ok (.iaload, 1) := by decide +kernel
theorem dX10_lay_68 : decode mX10_lay.2.1 68 = .ok (.istore 4, 2) := by decide +kernel
theorem dX10_lay_70 : decode mX10_lay.2.1 70 = .ok (.aload_n 0, 1) := by decide +kernel
theorem dX10_lay_71 : decode mX10_lay.2.1 71 = .ok (.getfield 78, 3) := by decide +kernel
theorem dX10_lay_74 : decode mX10_lay.2.1 74 = .ok (.iload_n 1, 1) := by decide +kernel
theorem dX10_lay_75 : decode mX10_lay.2.1 75 = .ok (.iload_n 2, 1) := by decide +kernel
theorem dX10_lay_76 : decode mX10_lay.2.1 76 = .ok (.iastore, 1) := by decide +kernel
theorem dX10_lay_77 : decode mX10_lay.2.1 77 = .ok (.aload_n 0, 1) := by decide +kernel
theorem dX10_lay_78 : decode mX10_lay.2.1 78 = .ok (.getfield 81, 3) := by decide +kernel
theorem dX10_lay_81 : decode mX10_lay.2.1 81 = .ok (.iload_n 1, 1) := by decide +kernel
theorem dX10_lay_82 : decode mX10_lay.2.1 82 = .ok (.iload_n 2, 1) := by decide +kernel
theorem dX10_lay_83 : decode mX10_lay.2.1 83 = .ok (.iconst 1, 1) := by decide +kernel
theorem dX10_lay_84 : decode mX10_lay.2.1 84 = .ok (.if_icmp .ne 12, 3) := by decide +kernel
theorem dX10_lay_87 : decode mX10_lay.2.1 87 = .ok (.aload_n 0, 1) := by decide +kernel
theorem dX10_lay_88 : decode mX10_lay.2.1 88 = .ok (.iload_n 3, 1) := by decide +kernel
theorem dX10_lay_89 : decode mX10_lay.2.1 89 = .ok (.iconst 0, 1) := by decide +kernel
theorem dX10_lay_90 : decode mX10_lay.2.1 90 = .ok (.invokevirtual 131, 3) := by decide +kernel
theorem dX10_lay_93 : decode mX10_lay.2.1 93 = .ok (.goto 18, 3) := by decide +kernel
theorem dX10_lay_96 : decode mX10_lay.2.1 96 = .ok (.iload_n 2, 1) := by decide +kernel
theorem dX10_lay_97 : decode mX10_lay.2.1 97 = .ok (.iconst 2, 1) := by decide +kernel
theorem dX10_lay_98 : decode mX10_lay.2.1 98 = .ok (.if_icmp .ne 12, 3) := by decide +kernel
theorem dX10_lay_101 : decode mX10_lay.2.1 101 = .ok (.aload_n 0, 1) := by decide +kernel
theorem dX10_lay_102 : decode mX10_lay.2.1 102 = .ok (.getfield 72, 3) := by decide +kernel
theorem dX10_lay_105 : decode mX10_lay.2.1 105 = .ok (.iload_n 3, 1) := by decide +kernel
theorem dX10_lay_106 : decode mX10_lay.2.1 106 = .ok (.iaload, 1) := by decide +kernel
theorem dX10_lay_107 : decode mX10_lay.2.1 107 = .ok (.goto 4, 3) := by decide +kernel
theorem dX10_lay_110 : decode mX10_lay.2.1 110 = .ok (.iload_n 3, 1) := by decide +kernel
theorem dX10_lay_111 : decode mX10_lay.2.1 111 = .ok (.iastore, 1) := by decide +kernel
theorem dX10_lay_112 : decode mX10_lay.2.1 112 = .ok (.aload_n 0, 1) := by decide +kernel
theorem dX10_lay_113 : decode mX10_lay.2.1 113 = .ok (.getfield 84, 3) := by decide +kernel
theorem dX10_lay_116 : decode mX10_lay.2.1 116 = .ok (.iload_n 1, 1) := by decide +kernel
theorem dX10_lay_117 : decode mX10_lay.2.1 117 = .ok (.iload_n 2, 1) := by decide +kernel
theorem dX10_lay_118 : decode mX10_lay.2.1 118 = .ok (.iconst 1, 1) := by decide +kernel
theorem dX10_lay_119 : decode mX10_lay.2.1 119 = .ok (.if_icmp .ne 11, 3) := by decide +kernel
theorem dX10_lay_122 : decode mX10_lay.2.1 122 = .ok (.aload_n 0, 1) := by decide +kernel
theorem dX10_lay_123 : decode mX10_lay.2.1 123 = .ok (.iload_n 3, 1) := by decide +kernel
theorem dX10_lay_124 : decode mX10_lay.2.1 124 = .ok (.invokevirtual 137, 3) := by decide +kernel
theorem dX10_lay_127 : decode mX10_lay.2.1 127 = .ok (.goto 4, 3) := by decide +kernel
theorem dX10_lay_130 : decode mX10_lay.2.1 130 = .ok (.iconst 0, 1) := by decide +kernel
theorem dX10_lay_131 : decode mX10_lay.2.1 131 = .ok (.iastore, 1) := by decide +kernel
theorem dX10_lay_132 : decode mX10_lay.2.1 132 = .ok (.iconst 0, 1) := by decide +kernel
theorem dX10_lay_133 : decode mX10_lay.2.1 133 = .ok (.istore 5, 2) := by decide +kernel
theorem dX10_lay_135 : decode mX10_lay.2.1 135 = .ok (.iload 5, 2) := by decide +kernel
theorem dX10_lay_137 : decode mX10_lay.2.1 137 = .ok (.bipush 24, 2) := by decide +kernel
theorem dX10_lay_139 : decode mX10_lay.2.1 139 = .ok (.if_icmp .ge 38, 3) := by decide +kernel
theorem dX10_lay_142 : decode mX10_lay.2.1 142 = .ok (.iload_n 2, 1) := by decide +kernel
theorem dX10_lay_143 : decode mX10_lay.2.1 143 = .ok (.iconst 2, 1) := by decide +kernel
theorem dX10_lay_144 : decode mX10_lay.2.1 144 = .ok (.if_icmp .ne 33, 3) := by decide +kernel
theorem dX10_lay_147 : decode mX10_lay.2.1 147 = .ok (.aload_n 0, 1) := by decide +kernel
theorem dX10_lay_148 : decode mX10_lay.2.1 148 = .ok (.getfield 87, 3) := by decide +kernel
theorem dX10_lay_151 : decode mX10_lay.2.1 151 = .ok (.bipush 24, 2) := by decide +kernel
theorem dX10_lay_153 : decode mX10_lay.2.1 153 = .ok (.iload_n 1, 1) := by decide +kernel
theorem dX10_lay_154 : decode mX10_lay.2.1 154 = .ok (.imul, 1) := by decide +kernel
theorem dX10_lay_155 : decode mX10_lay.2.1 155 = .ok (.iload 5, 2) := by decide +kernel
theorem dX10_lay_157 : decode mX10_lay.2.1 157 = .ok (.iadd, 1) := by decide +kernel
theorem dX10_lay_158 : decode mX10_lay.2.1 158 = .ok (.aload_n 0, 1) := by decide +kernel
theorem dX10_lay_159 : decode mX10_lay.2.1 159 = .ok (.getfield 75, 3) := by decide +kernel
theorem dX10_lay_162 : decode mX10_lay.2.1 162 = .ok (.bipush 24, 2) := by decide +kernel
theorem dX10_lay_164 : decode mX10_lay.2.1 164 = .ok (.iload_n 3, 1) := by decide +kernel
theorem dX10_lay_165 : decode mX10_lay.2.1 165 = .ok (.imul, 1) := by decide +kernel
theorem dX10_lay_166 : decode mX10_lay.2.1 166 = .ok (.iload 5, 2) := by decide +kernel
theorem dX10_lay_168 : decode mX10_lay.2.1 168 = .ok (.iadd, 1) := by decide +kernel
theorem dX10_lay_169 : decode mX10_lay.2.1 169 = .ok (.iaload, 1) := by decide +kernel
theorem dX10_lay_170 : decode mX10_lay.2.1 170 = .ok (.iastore, 1) := by decide +kernel
theorem dX10_lay_171 : decode mX10_lay.2.1 171 = .ok (.iinc 5 1, 3) := by decide +kernel
theorem dX10_lay_174 : decode mX10_lay.2.1 174 = .ok (.goto (-39), 3) := by decide +kernel
theorem dX10_lay_177 : decode mX10_lay.2.1 177 = .ok (.iload 4, 2) := by decide +kernel
theorem dX10_lay_179 : decode mX10_lay.2.1 179 = .ok (.ireturn, 1) := by decide +kernel
theorem dX10_ask_0 : decode mX10_ask.2.1 0 = .ok (.iload_n 1, 1) := by decide +kernel
theorem dX10_ask_1 : decode mX10_ask.2.1 1 = .ok (.invokestatic 283, 3) := by decide +kernel
theorem dX10_ask_4 : decode mX10_ask.2.1 4 = .ok (.ifCond .eq 12, 3) := by decide +kernel
theorem dX10_ask_7 : decode mX10_ask.2.1 7 = .ok (.iload_n 2, 1) := by decide +kernel
theorem dX10_ask_8 : decode mX10_ask.2.1 8 = .ok (.iconst 0, 1) := by decide +kernel
theorem dX10_ask_9 : decode mX10_ask.2.1 9 = .ok (.iconst 5, 1) := by decide +kernel
theorem dX10_ask_10 : decode mX10_ask.2.1 10 = .ok (.invokestatic 97, 3) := by decide +kernel
theorem dX10_ask_13 : decode mX10_ask.2.1 13 = .ok (.ifCond .ne 6, 3) := by decide +kernel
theorem dX10_ask_16 : decode mX10_ask.2.1 16 = .ok (.ldc 101, 2) := by decide +kernel
theorem dX10_ask_18 : decode mX10_ask.2.1 18 = .ok (.ireturn, 1) := by decide +kernel
theorem dX10_ask_19 : decode mX10_ask.2.1 19 = .ok (.aload_n 0, 1) := by decide +kernel
theorem dX10_ask_20 : decode mX10_ask.2.1 20 = .ok (.getfield 78, 3) := by decide +kernel
theorem dX10_ask_23 : decode mX10_ask.2.1 23 = .ok (.iload_n 1, 1) := by decide +kernel
theorem dX10_ask_24 : decode mX10_ask.2.1 24 = .ok (.iaload, 1) := by decide +kernel
theorem dX10_ask_25 : decode mX10_ask.2.1 25 = .ok (.ifCond .ne 7, 3) := by decide +kernel
theorem dX10_ask_28 : decode mX10_ask.2.1 28 = .ok (.ldc_w 279, 3) := by decide +kernel
theorem dX10_ask_31 : decode mX10_ask.2.1 31 = .ok (.ireturn, 1) := by decide +kernel
theorem dX10_ask_32 : decode mX10_ask.2.1 32 = .ok (.aload_n 0, 1) := by decide +kernel
theorem dX10_ask_33 : decode mX10_ask.2.1 33 = .ok (.getfield 78, 3) := by decide +kernel
theorem dX10_ask_36 : decode mX10_ask.2.1 36 = .ok (.iload_n 1, 1) := by decide +kernel
theorem dX10_ask_37 : decode mX10_ask.2.1 37 = .ok (.iaload, 1) := by decide +kernel
theorem dX10_ask_38 : decode mX10_ask.2.1 38 = .ok (.iconst 1, 1) := by decide +kernel
theorem dX10_ask_39 : decode mX10_ask.2.1 39 = .ok (.if_icmp .ne 25, 3) := by decide +kernel
theorem dX10_ask_42 : decode mX10_ask.2.1 42 = .ok (.aload_n 0, 1) := by decide +kernel
theorem dX10_ask_43 : decode mX10_ask.2.1 43 = .ok (.getfield 81, 3) := by decide +kernel
theorem dX10_ask_46 : decode mX10_ask.2.1 46 = .ok (.iload_n 1, 1) := by decide +kernel
theorem dX10_ask_47 : decode mX10_ask.2.1 47 = .ok (.iaload, 1) := by decide +kernel
theorem dX10_ask_48 : decode mX10_ask.2.1 48 = .ok (.iload_n 2, 1) := by decide +kernel
theorem dX10_ask_49 : decode mX10_ask.2.1 49 = .ok (.invokestatic 140, 3) := by decide +kernel
theorem dX10_ask_52 : decode mX10_ask.2.1 52 = .ok (.ifCond .eq 12, 3) := by decide +kernel
theorem dX10_ask_55 : decode mX10_ask.2.1 55 = .ok (.aload_n 0, 1) := by decide +kernel
theorem dX10_ask_56 : decode mX10_ask.2.1 56 = .ok (.getfield 84, 3) := by decide +kernel
theorem dX10_ask_59 : decode mX10_ask.2.1 59 = .ok (.iload_n 1, 1) := by decide +kernel
theorem dX10_ask_60 : decode mX10_ask.2.1 60 = .ok (.iaload, 1) := by decide +kernel
theorem dX10_ask_61 : decode mX10_ask.2.1 61 = .ok (.goto 5, 3) := by decide +kernel
theorem dX10_ask_64 : decode mX10_ask.2.1 64 = .ok (.ldc 143, 2) := by decide +kernel
theorem dX10_ask_66 : decode mX10_ask.2.1 66 = .ok (.ireturn, 1) := by decide +kernel
theorem dX10_item_0 : decode mX10_item.2.1 0 = .ok (.iload_n 1, 1) := by decide +kernel
theorem dX10_item_1 : decode mX10_item.2.1 1 = .ok (.invokestatic 283, 3) := by decide +kernel
theorem dX10_item_4 : decode mX10_item.2.1 4 = .ok (.ifCond .ne 6, 3) := by decide +kernel
theorem dX10_item_7 : decode mX10_item.2.1 7 = .ok (.ldc 101, 2) := by decide +kernel
theorem dX10_item_9 : decode mX10_item.2.1 9 = .ok (.ireturn, 1) := by decide +kernel
theorem dX10_item_10 : decode mX10_item.2.1 10 = .ok (.aload_n 0, 1) := by decide +kernel
theorem dX10_item_11 : decode mX10_item.2.1 11 = .ok (.getfield 78, 3) := by decide +kernel
theorem dX10_item_14 : decode mX10_item.2.1 14 = .ok (.iload_n 1, 1) := by decide +kernel
theorem dX10_item_15 : decode mX10_item.2.1 15 = .ok (.iaload, 1) := by decide +kernel
theorem dX10_item_16 : decode mX10_item.2.1 16 = .ok (.ifCond .ne 7, 3) := by decide +kernel
theorem dX10_item_19 : decode mX10_item.2.1 19 = .ok (.ldc_w 279, 3) := by decide +kernel
theorem dX10_item_22 : decode mX10_item.2.1 22 = .ok (.ireturn, 1) := by decide +kernel
theorem dX10_item_23 : decode mX10_item.2.1 23 = .ok (.aload_n 0, 1) := by decide +kernel
theorem dX10_item_24 : decode mX10_item.2.1 24 = .ok (.getfield 78, 3) := by decide +kernel
theorem dX10_item_27 : decode mX10_item.2.1 27 = .ok (.iload_n 1, 1) := by decide +kernel
theorem dX10_item_28 : decode mX10_item.2.1 28 = .ok (.iaload, 1) := by decide +kernel
theorem dX10_item_29 : decode mX10_item.2.1 29 = .ok (.iconst 2, 1) := by decide +kernel
theorem dX10_item_30 : decode mX10_item.2.1 30 = .ok (.if_icmp .eq 6, 3) := by decide +kernel
theorem dX10_item_33 : decode mX10_item.2.1 33 = .ok (.ldc 143, 2) := by decide +kernel
theorem dX10_item_35 : decode mX10_item.2.1 35 = .ok (.ireturn, 1) := by decide +kernel
theorem dX10_item_36 : decode mX10_item.2.1 36 = .ok (.iload_n 2, 1) := by decide +kernel
theorem dX10_item_37 : decode mX10_item.2.1 37 = .ok (.iconst 0, 1) := by decide +kernel
theorem dX10_item_38 : decode mX10_item.2.1 38 = .ok (.aload_n 0, 1) := by decide +kernel
theorem dX10_item_39 : decode mX10_item.2.1 39 = .ok (.getfield 81, 3) := by decide +kernel
theorem dX10_item_42 : decode mX10_item.2.1 42 = .ok (.iload_n 1, 1) := by decide +kernel
theorem dX10_item_43 : decode mX10_item.2.1 43 = .ok (.iaload, 1) := by decide +kernel
theorem dX10_item_44 : decode mX10_item.2.1 44 = .ok (.iconst 1, 1) := by decide +kernel
theorem dX10_item_45 : decode mX10_item.2.1 45 = .ok (.isub, 1) := by decide +kernel
theorem dX10_item_46 : decode mX10_item.2.1 46 = .ok (.invokestatic 97, 3) := by decide +kernel
theorem dX10_item_49 : decode mX10_item.2.1 49 = .ok (.ifCond .ne 7, 3) := by decide +kernel
theorem dX10_item_52 : decode mX10_item.2.1 52 = .ok (.ldc_w 280, 3) := by decide +kernel
theorem dX10_item_55 : decode mX10_item.2.1 55 = .ok (.ireturn, 1) := by decide +kernel
theorem dX10_item_56 : decode mX10_item.2.1 56 = .ok (.aload_n 0, 1) := by decide +kernel
theorem dX10_item_57 : decode mX10_item.2.1 57 = .ok (.getfield 87, 3) := by decide +kernel
theorem dX10_item_60 : decode mX10_item.2.1 60 = .ok (.bipush 24, 2) := by decide +kernel
theorem dX10_item_62 : decode mX10_item.2.1 62 = .ok (.iload_n 1, 1) := by decide +kernel
theorem dX10_item_63 : decode mX10_item.2.1 63 = .ok (.imul, 1) := by decide +kernel
theorem dX10_item_64 : decode mX10_item.2.1 64 = .ok (.iload_n 2, 1) := by decide +kernel
theorem dX10_item_65 : decode mX10_item.2.1 65 = .ok (.iadd, 1) := by decide +kernel
theorem dX10_item_66 : decode mX10_item.2.1 66 = .ok (.iaload, 1) := by decide +kernel
theorem dX10_item_67 : decode mX10_item.2.1 67 = .ok (.istore_n 3, 1) := by decide +kernel
theorem dX10_item_68 : decode mX10_item.2.1 68 = .ok (.iload_n 3, 1) := by decide +kernel
theorem dX10_item_69 : decode mX10_item.2.1 69 = .ok (.ldc 96, 2) := by decide +kernel
theorem dX10_item_71 : decode mX10_item.2.1 71 = .ok (.if_icmp .ne 8, 3) := by decide +kernel
theorem dX10_item_74 : decode mX10_item.2.1 74 = .ok (.ldc 143, 2) := by decide +kernel
theorem dX10_item_76 : decode mX10_item.2.1 76 = .ok (.goto 4, 3) := by decide +kernel
theorem dX10_item_79 : decode mX10_item.2.1 79 = .ok (.iload_n 3, 1) := by decide +kernel
theorem dX10_item_80 : decode mX10_item.2.1 80 = .ok (.ireturn, 1) := by decide +kernel
theorem dX10_rest_0 : decode mX10_rest.2.1 0 = .ok (.iload_n 1, 1) := by decide +kernel
theorem dX10_rest_1 : decode mX10_rest.2.1 1 = .ok (.invokestatic 283, 3) := by decide +kernel
theorem dX10_rest_4 : decode mX10_rest.2.1 4 = .ok (.ifCond .ne 6, 3) := by decide +kernel
theorem dX10_rest_7 : decode mX10_rest.2.1 7 = .ok (.ldc 101, 2) := by decide +kernel
theorem dX10_rest_9 : decode mX10_rest.2.1 9 = .ok (.ireturn, 1) := by decide +kernel
theorem dX10_rest_10 : decode mX10_rest.2.1 10 = .ok (.aload_n 0, 1) := by decide +kernel
theorem dX10_rest_11 : decode mX10_rest.2.1 11 = .ok (.getfield 78, 3) := by decide +kernel
theorem dX10_rest_14 : decode mX10_rest.2.1 14 = .ok (.iload_n 1, 1) := by decide +kernel
theorem dX10_rest_15 : decode mX10_rest.2.1 15 = .ok (.iaload, 1) := by decide +kernel
theorem dX10_rest_16 : decode mX10_rest.2.1 16 = .ok (.ifCond .ne 7, 3) := by decide +kernel
theorem dX10_rest_19 : decode mX10_rest.2.1 19 = .ok (.ldc_w 279, 3) := by decide +kernel
theorem dX10_rest_22 : decode mX10_rest.2.1 22 = .ok (.ireturn, 1) := by decide +kernel
theorem dX10_rest_23 : decode mX10_rest.2.1 23 = .ok (.aload_n 0, 1) := by decide +kernel
theorem dX10_rest_24 : decode mX10_rest.2.1 24 = .ok (.getfield 78, 3) := by decide +kernel
theorem dX10_rest_27 : decode mX10_rest.2.1 27 = .ok (.iload_n 1, 1) := by decide +kernel
theorem dX10_rest_28 : decode mX10_rest.2.1 28 = .ok (.iaload, 1) := by decide +kernel
theorem dX10_rest_29 : decode mX10_rest.2.1 29 = .ok (.iconst 3, 1) := by decide +kernel
theorem dX10_rest_30 : decode mX10_rest.2.1 30 = .ok (.if_icmp .eq 6, 3) := by decide +kernel
theorem dX10_rest_33 : decode mX10_rest.2.1 33 = .ok (.ldc 143, 2) := by decide +kernel
theorem dX10_rest_35 : decode mX10_rest.2.1 35 = .ok (.ireturn, 1) := by decide +kernel
theorem dX10_rest_36 : decode mX10_rest.2.1 36 = .ok (.iload_n 2, 1) := by decide +kernel
theorem dX10_rest_37 : decode mX10_rest.2.1 37 = .ok (.ifCond .ne 8, 3) := by decide +kernel
theorem dX10_rest_40 : decode mX10_rest.2.1 40 = .ok (.ldc 204, 2) := by decide +kernel
theorem dX10_rest_42 : decode mX10_rest.2.1 42 = .ok (.goto 20, 3) := by decide +kernel
theorem dX10_rest_45 : decode mX10_rest.2.1 45 = .ok (.iload_n 2, 1) := by decide +kernel
theorem dX10_rest_46 : decode mX10_rest.2.1 46 = .ok (.iconst (-1), 1) := by decide +kernel
theorem dX10_rest_47 : decode mX10_rest.2.1 47 = .ok (.if_icmp .ne 7, 3) := by decide +kernel
theorem dX10_rest_50 : decode mX10_rest.2.1 50 = .ok (.iconst 0, 1) := by decide +kernel
theorem dX10_rest_51 : decode mX10_rest.2.1 51 = .ok (.goto 11, 3) := by decide +kernel
theorem dX10_rest_54 : decode mX10_rest.2.1 54 = .ok (.aload_n 0, 1) := by decide +kernel
theorem dX10_rest_55 : decode mX10_rest.2.1 55 = .ok (.getfield 81, 3) := by decide +kernel
theorem dX10_rest_58 : decode mX10_rest.2.1 58 = .ok (.iload_n 1, 1) := by decide +kernel
theorem dX10_rest_59 : decode mX10_rest.2.1 59 = .ok (.iaload, 1) := by decide +kernel
theorem dX10_rest_60 : decode mX10_rest.2.1 60 = .ok (.iload_n 2, 1) := by decide +kernel
theorem dX10_rest_61 : decode mX10_rest.2.1 61 = .ok (.irem, 1) := by decide +kernel
theorem dX10_rest_62 : decode mX10_rest.2.1 62 = .ok (.ireturn, 1) := by decide +kernel
theorem dX10_tell_0 : decode mX10_tell.2.1 0 = .ok (.aload_n 0, 1) := by decide +kernel
theorem dX10_tell_1 : decode mX10_tell.2.1 1 = .ok (.getfield 286, 3) := by decide +kernel
theorem dX10_tell_4 : decode mX10_tell.2.1 4 = .ok (.bipush 60, 2) := by decide +kernel
theorem dX10_tell_6 : decode mX10_tell.2.1 6 = .ok (.if_icmp .ne 6, 3) := by decide +kernel
theorem dX10_tell_9 : decode mX10_tell.2.1 9 = .ok (.ldc 102, 2) := by decide +kernel
theorem dX10_tell_11 : decode mX10_tell.2.1 11 = .ok (.ireturn, 1) := by decide +kernel
theorem dX10_tell_12 : decode mX10_tell.2.1 12 = .ok (.aload_n 0, 1) := by decide +kernel
theorem dX10_tell_13 : decode mX10_tell.2.1 13 = .ok (.getfield 93, 3) := by decide +kernel
theorem dX10_tell_16 : decode mX10_tell.2.1 16 = .ok (.aload_n 0, 1) := by decide +kernel
theorem dX10_tell_17 : decode mX10_tell.2.1 17 = .ok (.getfield 286, 3) := by decide +kernel
theorem dX10_tell_20 : decode mX10_tell.2.1 20 = .ok (.iload_n 1, 1) := by decide +kernel
theorem dX10_tell_21 : decode mX10_tell.2.1 21 = .ok (.iastore, 1) := by decide +kernel
theorem dX10_tell_22 : decode mX10_tell.2.1 22 = .ok (.aload_n 0, 1) := by decide +kernel
theorem dX10_tell_23 : decode mX10_tell.2.1 23 = .ok (.dup, 1) := by decide +kernel
theorem dX10_tell_24 : decode mX10_tell.2.1 24 = .ok (.getfield 286, 3) := by decide +kernel
theorem dX10_tell_27 : decode mX10_tell.2.1 27 = .ok (.iconst 1, 1) := by decide +kernel
theorem dX10_tell_28 : decode mX10_tell.2.1 28 = .ok (.iadd, 1) := by decide +kernel
theorem dX10_tell_29 : decode mX10_tell.2.1 29 = .ok (.putfield 286, 3) := by decide +kernel
theorem dX10_tell_32 : decode mX10_tell.2.1 32 = .ok (.aload_n 0, 1) := by decide +kernel
theorem dX10_tell_33 : decode mX10_tell.2.1 33 = .ok (.getfield 286, 3) := by decide +kernel
theorem dX10_tell_36 : decode mX10_tell.2.1 36 = .ok (.ireturn, 1) := by decide +kernel
theorem dX10_rightReaders_0 : decode mX10_rightReaders.2.1 0 = .ok (.aload_n 0, 1) := by decide +kernel
theorem dX10_rightReaders_1 : decode mX10_rightReaders.2.1 1 = .ok (.invokevirtual 172, 3) := by decide +kernel
theorem dX10_rightReaders_4 : decode mX10_rightReaders.2.1 4 = .ok (.iconst 0, 1) := by decide +kernel
theorem dX10_rightReaders_5 : decode mX10_rightReaders.2.1 5 = .ok (.istore_n 3, 1) := by decide +kernel
theorem dX10_rightReaders_6 : decode mX10_rightReaders.2.1 6 = .ok (.iconst 0, 1) := by decide +kernel
theorem dX10_rightReaders_7 : decode mX10_rightReaders.2.1 7 = .ok (.istore 4, 2) := by decide +kernel
theorem dX10_rightReaders_9 : decode mX10_rightReaders.2.1 9 = .ok (.iload 4, 2) := by decide +kernel
theorem dX10_rightReaders_11 : decode mX10_rightReaders.2.1 11 = .ok (.iload_n 1, 1) := by decide +kernel
theorem dX10_rightReaders_12 : decode mX10_rightReaders.2.1 12 = .ok (.if_icmp .ge 108, 3) := by decide +kernel
theorem dX10_rightReaders_15 : decode mX10_rightReaders.2.1 15 = .ok (.iload_n 3, 1) := by decide +kernel
theorem dX10_rightReaders_16 : decode mX10_rightReaders.2.1 16 = .ok (.iconst 2, 1) := by decide +kernel
theorem dX10_rightReaders_17 : decode mX10_rightReaders.2.1 17 = .ok (.iload 4, 2) := by decide +kernel
theorem dX10_rightReaders_19 : decode mX10_rightReaders.2.1 19 = .ok (.imul, 1) := by decide +kernel
theorem dX10_rightReaders_20 : decode mX10_rightReaders.2.1 20 = .ok (.if_icmp .ne 100, 3) := by decide +kernel
theorem dX10_rightReaders_23 : decode mX10_rightReaders.2.1 23 = .ok (.aload_n 0, 1) := by decide +kernel
theorem dX10_rightReaders_24 : decode mX10_rightReaders.2.1 24 = .ok (.iload 4, 2) := by decide +kernel
theorem dX10_rightReaders_26 : decode mX10_rightReaders.2.1 26 = .ok (.aload_n 0, 1) := by decide +kernel
theorem dX10_rightReaders_27 : decode mX10_rightReaders.2.1 27 = .ok (.getfield 9, 3) := by decide +kernel
theorem dX10_rightReaders_30 : decode mX10_rightReaders.2.1 30 = .ok (.iconst 1, 1) := by decide +kernel
theorem dX10_rightReaders_31 : decode mX10_rightReaders.2.1 31 = .ok (.iaload, 1) := by decide +kernel
theorem dX10_rightReaders_32 : decode mX10_rightReaders.2.1 32 = .ok (.irem, 1) := by decide +kernel
theorem dX10_rightReaders_33 : decode mX10_rightReaders.2.1 33 = .ok (.invokevirtual 175, 3) := by decide +kernel
theorem dX10_rightReaders_36 : decode mX10_rightReaders.2.1 36 = .ok (.aload_n 0, 1) := by decide +kernel
theorem dX10_rightReaders_37 : decode mX10_rightReaders.2.1 37 = .ok (.invokevirtual 183, 3) := by decide +kernel
theorem dX10_rightReaders_40 : decode mX10_rightReaders.2.1 40 = .ok (.istore 5, 2) := by decide +kernel
theorem dX10_rightReaders_42 : decode mX10_rightReaders.2.1 42 = .ok (.iload_n 3, 1) := by decide +kernel
theorem dX10_rightReaders_43 : decode mX10_rightReaders.2.1 43 = .ok (.iload_n 3, 1) := by decide +kernel
theorem dX10_rightReaders_44 : decode mX10_rightReaders.2.1 44 = .ok (.iload_n 2, 1) := by decide +kernel
theorem dX10_rightReaders_45 : decode mX10_rightReaders.2.1 45 = .ok (.if_icmp .ge 18, 3) := by decide +kernel
theorem dX10_rightReaders_48 : decode mX10_rightReaders.2.1 48 = .ok (.aload_n 0, 1) := by decide +kernel
theorem dX10_rightReaders_49 : decode mX10_rightReaders.2.1 49 = .ok (.getfield 93, 3) := by decide +kernel
theorem dX10_rightReaders_52 : decode mX10_rightReaders.2.1 52 = .ok (.iload_n 3, 1) := by decide +kernel
theorem dX10_rightReaders_53 : decode mX10_rightReaders.2.1 53 = .ok (.iaload, 1) := by decide +kernel
theorem dX10_rightReaders_54 : decode mX10_rightReaders.2.1 54 = .ok (.iload 5, 2) := by decide +kernel
theorem dX10_rightReaders_56 : decode mX10_rightReaders.2.1 56 = .ok (.if_icmp .ne 7, 3) := by decide +kernel
theorem dX10_rightReaders_59 : decode mX10_rightReaders.2.1 59 = .ok (.iconst 1, 1) := by decide +kernel
theorem dX10_rightReaders_60 : decode mX10_rightReaders.2.1 60 = .ok (.goto 4, 3) := by decide +kernel
theorem dX10_rightReaders_63 : decode mX10_rightReaders.2.1 63 = .ok (.iconst 0, 1) := by decide +kernel
theorem dX10_rightReaders_64 : decode mX10_rightReaders.2.1 64 = .ok (.iadd, 1) := by decide +kernel
theorem dX10_rightReaders_65 : decode mX10_rightReaders.2.1 65 = .ok (.istore_n 3, 1) := by decide +kernel
theorem dX10_rightReaders_66 : decode mX10_rightReaders.2.1 66 = .ok (.iload_n 3, 1) := by decide +kernel
theorem dX10_rightReaders_67 : decode mX10_rightReaders.2.1 67 = .ok (.iload_n 3, 1) := by decide +kernel
theorem dX10_rightReaders_68 : decode mX10_rightReaders.2.1 68 = .ok (.iconst 2, 1) := by decide +kernel
theorem dX10_rightReaders_69 : decode mX10_rightReaders.2.1 69 = .ok (.iload 4, 2) := by decide +kernel
theorem dX10_rightReaders_71 : decode mX10_rightReaders.2.1 71 = .ok (.imul, 1) := by decide +kernel
theorem dX10_rightReaders_72 : decode mX10_rightReaders.2.1 72 = .ok (.iconst 1, 1) := by decide +kernel
theorem dX10_rightReaders_73 : decode mX10_rightReaders.2.1 73 = .ok (.iadd, 1) := by decide +kernel
theorem dX10_rightReaders_74 : decode mX10_rightReaders.2.1 74 = .ok (.if_icmp .ne 37, 3) := by decide +kernel
theorem dX10_rightReaders_77 : decode mX10_rightReaders.2.1 77 = .ok (.iload_n 3, 1) := by decide +kernel
theorem dX10_rightReaders_78 : decode mX10_rightReaders.2.1 78 = .ok (.iload_n 2, 1) := by decide +kernel
theorem dX10_rightReaders_79 : decode mX10_rightReaders.2.1 79 = .ok (.if_icmp .ge 32, 3) := by decide +kernel
theorem dX10_rightReaders_82 : decode mX10_rightReaders.2.1 82 = .ok (.aload_n 0, 1) := by decide +kernel
theorem dX10_rightReaders_83 : decode mX10_rightReaders.2.1 83 = .ok (.getfield 93, 3) := by decide +kernel
theorem dX10_rightReaders_86 : decode mX10_rightReaders.2.1 86 = .ok (.iload_n 3, 1) := by decide +kernel
theorem dX10_rightReaders_87 : decode mX10_rightReaders.2.1 87 = .ok (.iaload, 1) := by decide +kernel
theorem dX10_rightReaders_88 : decode mX10_rightReaders.2.1 88 = .ok (.iload 5, 2) := by decide +kernel
theorem dX10_rightReaders_90 : decode mX10_rightReaders.2.1 90 = .ok (.ifCond .ge 7, 3) := by decide +kernel
theorem dX10_rightReaders_93 : decode mX10_rightReaders.2.1 93 = .ok (.iconst 0, 1) := by decide +kernel
theorem dX10_rightReaders_94 : decode mX10_rightReaders.2.1 94 = .ok (.goto 10, 3) := by decide +kernel
theorem dX10_rightReaders_97 : decode mX10_rightReaders.2.1 97 = .ok (.aload_n 0, 1) := by decide +kernel
theorem dX10_rightReaders_98 : decode mX10_rightReaders.2.1 98 = .ok (.getfield 19, 3) := by decide +kernel
theorem dX10_rightReaders_101 : decode mX10_rightReaders.2.1 101 = .ok (.iload 5, 2) := by decide +kernel
theorem dX10_rightReaders_103 : decode mX10_rightReaders.2.1 103 = .ok (.iaload, 1) := by decide +kernel
theorem dX10_rightReaders_104 : decode mX10_rightReaders.2.1 104 = .ok (.if_icmp .ne 7, 3) := by decide +kernel
theorem dX10_rightReaders_107 : decode mX10_rightReaders.2.1 107 = .ok (.iconst 1, 1) := by decide +kernel
theorem dX10_rightReaders_108 : decode mX10_rightReaders.2.1 108 = .ok (.goto 4, 3) := by decide +kernel
theorem dX10_rightReaders_111 : decode mX10_rightReaders.2.1 111 = .ok (.iconst 0, 1) := by decide +kernel
theorem dX10_rightReaders_112 : decode mX10_rightReaders.2.1 112 = .ok (.iadd, 1) := by decide +kernel
theorem dX10_rightReaders_113 : decode mX10_rightReaders.2.1 113 = .ok (.istore_n 3, 1) := by decide +kernel
theorem dX10_rightReaders_114 : decode mX10_rightReaders.2.1 114 = .ok (.iinc 4 1, 3) := by decide +kernel
theorem dX10_rightReaders_117 : decode mX10_rightReaders.2.1 117 = .ok (.goto (-108), 3) := by decide +kernel
theorem dX10_rightReaders_120 : decode mX10_rightReaders.2.1 120 = .ok (.iload_n 3, 1) := by decide +kernel
theorem dX10_rightReaders_121 : decode mX10_rightReaders.2.1 121 = .ok (.ireturn, 1) := by decide +kernel
theorem dX10_check_0 : decode mX10_check.2.1 0 = .ok (.aload_n 0, 1) := by decide +kernel
theorem dX10_check_1 : decode mX10_check.2.1 1 = .ok (.getfield 286, 3) := by decide +kernel
theorem dX10_check_4 : decode mX10_check.2.1 4 = .ok (.istore_n 2, 1) := by decide +kernel
theorem dX10_check_5 : decode mX10_check.2.1 5 = .ok (.aload_n 0, 1) := by decide +kernel
theorem dX10_check_6 : decode mX10_check.2.1 6 = .ok (.iconst 0, 1) := by decide +kernel
theorem dX10_check_7 : decode mX10_check.2.1 7 = .ok (.putfield 286, 3) := by decide +kernel
theorem dX10_check_10 : decode mX10_check.2.1 10 = .ok (.iload_n 1, 1) := by decide +kernel
theorem dX10_check_11 : decode mX10_check.2.1 11 = .ok (.iconst 1, 1) := by decide +kernel
theorem dX10_check_12 : decode mX10_check.2.1 12 = .ok (.bipush 30, 2) := by decide +kernel
theorem dX10_check_14 : decode mX10_check.2.1 14 = .ok (.invokestatic 97, 3) := by decide +kernel
theorem dX10_check_17 : decode mX10_check.2.1 17 = .ok (.ifCond .ne 6, 3) := by decide +kernel
theorem dX10_check_20 : decode mX10_check.2.1 20 = .ok (.ldc 101, 2) := by decide +kernel
theorem dX10_check_22 : decode mX10_check.2.1 22 = .ok (.ireturn, 1) := by decide +kernel
theorem dX10_check_23 : decode mX10_check.2.1 23 = .ok (.aload_n 0, 1) := by decide +kernel
theorem dX10_check_24 : decode mX10_check.2.1 24 = .ok (.getfield 289, 3) := by decide +kernel
theorem dX10_check_27 : decode mX10_check.2.1 27 = .ok (.ifCond .eq 12, 3) := by decide +kernel
theorem dX10_check_30 : decode mX10_check.2.1 30 = .ok (.aload_n 0, 1) := by decide +kernel
theorem dX10_check_31 : decode mX10_check.2.1 31 = .ok (.getfield 13, 3) := by decide +kernel
theorem dX10_check_34 : decode mX10_check.2.1 34 = .ok (.iconst 1, 1) := by decide +kernel
theorem dX10_check_35 : decode mX10_check.2.1 35 = .ok (.iaload, 1) := by decide +kernel
theorem dX10_check_36 : decode mX10_check.2.1 36 = .ok (.ifCond .ne 6, 3) := by decide +kernel
theorem dX10_check_39 : decode mX10_check.2.1 39 = .ok (.ldc 204, 2) := by decide +kernel
theorem dX10_check_41 : decode mX10_check.2.1 41 = .ok (.ireturn, 1) := by decide +kernel
theorem dX10_check_42 : decode mX10_check.2.1 42 = .ok (.aload_n 0, 1) := by decide +kernel
theorem dX10_check_43 : decode mX10_check.2.1 43 = .ok (.getfield 9, 3) := by decide +kernel
theorem dX10_check_46 : decode mX10_check.2.1 46 = .ok (.aload_n 0, 1) := by decide +kernel
theorem dX10_check_47 : decode mX10_check.2.1 47 = .ok (.getfield 16, 3) := by decide +kernel
theorem dX10_check_50 : decode mX10_check.2.1 50 = .ok (.invokestatic 293, 3) := by decide +kernel
theorem dX10_check_53 : decode mX10_check.2.1 53 = .ok (.aload_n 0, 1) := by decide +kernel
theorem dX10_check_54 : decode mX10_check.2.1 54 = .ok (.getfield 13, 3) := by decide +kernel
theorem dX10_check_57 : decode mX10_check.2.1 57 = .ok (.aload_n 0, 1) := by decide +kernel
theorem dX10_check_58 : decode mX10_check.2.1 58 = .ok (.getfield 9, 3) := by decide +kernel
theorem dX10_check_61 : decode mX10_check.2.1 61 = .ok (.invokestatic 293, 3) := by decide +kernel
theorem dX10_check_64 : decode mX10_check.2.1 64 = .ok (.aload_n 0, 1) := by decide +kernel
theorem dX10_check_65 : decode mX10_check.2.1 65 = .ok (.iload_n 1, 1) := by decide +kernel
theorem dX10_check_66 : decode mX10_check.2.1 66 = .ok (.iload_n 2, 1) := by decide +kernel
theorem dX10_check_67 : decode mX10_check.2.1 67 = .ok (.invokevirtual 297, 3) := by decide +kernel
theorem dX10_check_70 : decode mX10_check.2.1 70 = .ok (.istore_n 3, 1) := by decide +kernel
theorem dX10_check_71 : decode mX10_check.2.1 71 = .ok (.aload_n 0, 1) := by decide +kernel
theorem dX10_check_72 : decode mX10_check.2.1 72 = .ok (.getfield 16, 3) := by decide +kernel
theorem dX10_check_75 : decode mX10_check.2.1 75 = .ok (.aload_n 0, 1) := by decide +kernel
theorem dX10_check_76 : decode mX10_check.2.1 76 = .ok (.getfield 9, 3) := by decide +kernel
theorem dX10_check_79 : decode mX10_check.2.1 79 = .ok (.invokestatic 293, 3) := by decide +kernel
theorem dX10_check_82 : decode mX10_check.2.1 82 = .ok (.iload_n 3, 1) := by decide +kernel
theorem dX10_check_83 : decode mX10_check.2.1 83 = .ok (.iload_n 2, 1) := by decide +kernel
theorem dX10_check_84 : decode mX10_check.2.1 84 = .ok (.if_icmp .ne 14, 3) := by decide +kernel
theorem dX10_check_87 : decode mX10_check.2.1 87 = .ok (.iload_n 3, 1) := by decide +kernel
theorem dX10_check_88 : decode mX10_check.2.1 88 = .ok (.iconst 2, 1) := by decide +kernel
theorem dX10_check_89 : decode mX10_check.2.1 89 = .ok (.iload_n 1, 1) := by decide +kernel
theorem dX10_check_90 : decode mX10_check.2.1 90 = .ok (.imul, 1) := by decide +kernel
theorem dX10_check_91 : decode mX10_check.2.1 91 = .ok (.if_icmp .ne 7, 3) := by decide +kernel
theorem dX10_check_94 : decode mX10_check.2.1 94 = .ok (.iconst 0, 1) := by decide +kernel
theorem dX10_check_95 : decode mX10_check.2.1 95 = .ok (.goto 6, 3) := by decide +kernel
theorem dX10_check_98 : decode mX10_check.2.1 98 = .ok (.iconst 1, 1) := by decide +kernel
theorem dX10_check_99 : decode mX10_check.2.1 99 = .ok (.iload_n 3, 1) := by decide +kernel
theorem dX10_check_100 : decode mX10_check.2.1 100 = .ok (.iadd, 1) := by decide +kernel
theorem dX10_check_101 : decode mX10_check.2.1 101 = .ok (.ireturn, 1) := by decide +kernel
theorem dX10_keep_0 : decode mX10_keep.2.1 0 = .ok (.aload_n 0, 1) := by decide +kernel
theorem dX10_keep_1 : decode mX10_keep.2.1 1 = .ok (.getfield 9, 3) := by decide +kernel
theorem dX10_keep_4 : decode mX10_keep.2.1 4 = .ok (.aload_n 0, 1) := by decide +kernel
theorem dX10_keep_5 : decode mX10_keep.2.1 5 = .ok (.getfield 13, 3) := by decide +kernel
theorem dX10_keep_8 : decode mX10_keep.2.1 8 = .ok (.invokestatic 293, 3) := by decide +kernel
theorem dX10_keep_11 : decode mX10_keep.2.1 11 = .ok (.aload_n 0, 1) := by decide +kernel
theorem dX10_keep_12 : decode mX10_keep.2.1 12 = .ok (.iconst 1, 1) := by decide +kernel
theorem dX10_keep_13 : decode mX10_keep.2.1 13 = .ok (.putfield 289, 3) := by decide +kernel
theorem dX10_keep_16 : decode mX10_keep.2.1 16 = .ok (.aload_n 0, 1) := by decide +kernel
theorem dX10_keep_17 : decode mX10_keep.2.1 17 = .ok (.getfield 9, 3) := by decide +kernel
theorem dX10_keep_20 : decode mX10_keep.2.1 20 = .ok (.iconst 1, 1) := by decide +kernel
theorem dX10_keep_21 : decode mX10_keep.2.1 21 = .ok (.iaload, 1) := by decide +kernel
theorem dX10_keep_22 : decode mX10_keep.2.1 22 = .ok (.ireturn, 1) := by decide +kernel
theorem dX10_back_0 : decode mX10_back.2.1 0 = .ok (.aload_n 0, 1) := by decide +kernel
theorem dX10_back_1 : decode mX10_back.2.1 1 = .ok (.getfield 289, 3) := by decide +kernel
theorem dX10_back_4 : decode mX10_back.2.1 4 = .ok (.ifCond .ne 6, 3) := by decide +kernel
theorem dX10_back_7 : decode mX10_back.2.1 7 = .ok (.ldc 204, 2) := by decide +kernel
theorem dX10_back_9 : decode mX10_back.2.1 9 = .ok (.ireturn, 1) := by decide +kernel
theorem dX10_back_10 : decode mX10_back.2.1 10 = .ok (.aload_n 0, 1) := by decide +kernel
theorem dX10_back_11 : decode mX10_back.2.1 11 = .ok (.getfield 13, 3) := by decide +kernel
theorem dX10_back_14 : decode mX10_back.2.1 14 = .ok (.aload_n 0, 1) := by decide +kernel
theorem dX10_back_15 : decode mX10_back.2.1 15 = .ok (.getfield 9, 3) := by decide +kernel
theorem dX10_back_18 : decode mX10_back.2.1 18 = .ok (.invokestatic 293, 3) := by decide +kernel
theorem dX10_back_21 : decode mX10_back.2.1 21 = .ok (.aload_n 0, 1) := by decide +kernel
theorem dX10_back_22 : decode mX10_back.2.1 22 = .ok (.getfield 9, 3) := by decide +kernel
theorem dX10_back_25 : decode mX10_back.2.1 25 = .ok (.iconst 1, 1) := by decide +kernel
theorem dX10_back_26 : decode mX10_back.2.1 26 = .ok (.iaload, 1) := by decide +kernel
theorem dX10_back_27 : decode mX10_back.2.1 27 = .ok (.ireturn, 1) := by decide +kernel
theorem dX10_count_0 : decode mX10_count.2.1 0 = .ok (.iload_n 1, 1) := by decide +kernel
theorem dX10_count_1 : decode mX10_count.2.1 1 = .ok (.tableswitch 105 0 7 #[47, 54, 61, 71, 81, 88, 93, 98], 47) := by decide +kernel
theorem dX10_count_48 : decode mX10_count.2.1 48 = .ok (.aload_n 0, 1) := by decide +kernel
theorem dX10_count_49 : decode mX10_count.2.1 49 = .ok (.getfield 9, 3) := by decide +kernel
theorem dX10_count_52 : decode mX10_count.2.1 52 = .ok (.iconst 1, 1) := by decide +kernel
theorem dX10_count_53 : decode mX10_count.2.1 53 = .ok (.iaload, 1) := by decide +kernel
theorem dX10_count_54 : decode mX10_count.2.1 54 = .ok (.ireturn, 1) := by decide +kernel
theorem dX10_count_55 : decode mX10_count.2.1 55 = .ok (.aload_n 0, 1) := by decide +kernel
theorem dX10_count_56 : decode mX10_count.2.1 56 = .ok (.getfield 9, 3) := by decide +kernel
theorem dX10_count_59 : decode mX10_count.2.1 59 = .ok (.iconst 2, 1) := by decide +kernel
theorem dX10_count_60 : decode mX10_count.2.1 60 = .ok (.iaload, 1) := by decide +kernel
theorem dX10_count_61 : decode mX10_count.2.1 61 = .ok (.ireturn, 1) := by decide +kernel
theorem dX10_count_62 : decode mX10_count.2.1 62 = .ok (.aload_n 0, 1) := by decide +kernel
theorem dX10_count_63 : decode mX10_count.2.1 63 = .ok (.getfield 9, 3) := by decide +kernel
theorem dX10_count_66 : decode mX10_count.2.1 66 = .ok (.iconst 3, 1) := by decide +kernel
theorem dX10_count_67 : decode mX10_count.2.1 67 = .ok (.iaload, 1) := by decide +kernel
theorem dX10_count_68 : decode mX10_count.2.1 68 = .ok (.invokestatic 162, 3) := by decide +kernel
theorem dX10_count_71 : decode mX10_count.2.1 71 = .ok (.ireturn, 1) := by decide +kernel
theorem dX10_count_72 : decode mX10_count.2.1 72 = .ok (.aload_n 0, 1) := by decide +kernel
theorem dX10_count_73 : decode mX10_count.2.1 73 = .ok (.getfield 9, 3) := by decide +kernel
theorem dX10_count_76 : decode mX10_count.2.1 76 = .ok (.iconst 4, 1) := by decide +kernel
theorem dX10_count_77 : decode mX10_count.2.1 77 = .ok (.iaload, 1) := by decide +kernel
theorem dX10_count_78 : decode mX10_count.2.1 78 = .ok (.invokestatic 162, 3) := by decide +kernel
theorem dX10_count_81 : decode mX10_count.2.1 81 = .ok (.ireturn, 1) := by decide +kernel
theorem dX10_count_82 : decode mX10_count.2.1 82 = .ok (.aload_n 0, 1) := by decide +kernel
theorem dX10_count_83 : decode mX10_count.2.1 83 = .ok (.getfield 9, 3) := by decide +kernel
theorem dX10_count_86 : decode mX10_count.2.1 86 = .ok (.iconst 5, 1) := by decide +kernel
theorem dX10_count_87 : decode mX10_count.2.1 87 = .ok (.iaload, 1) := by decide +kernel
theorem dX10_count_88 : decode mX10_count.2.1 88 = .ok (.ireturn, 1) := by decide +kernel
theorem dX10_count_89 : decode mX10_count.2.1 89 = .ok (.aload_n 0, 1) := by decide +kernel
theorem dX10_count_90 : decode mX10_count.2.1 90 = .ok (.getfield 286, 3) := by decide +kernel
theorem dX10_count_93 : decode mX10_count.2.1 93 = .ok (.ireturn, 1) := by decide +kernel
theorem dX10_count_94 : decode mX10_count.2.1 94 = .ok (.aload_n 0, 1) := by decide +kernel
theorem dX10_count_95 : decode mX10_count.2.1 95 = .ok (.getfield 207, 3) := by decide +kernel
theorem dX10_count_98 : decode mX10_count.2.1 98 = .ok (.ireturn, 1) := by decide +kernel
theorem dX10_count_99 : decode mX10_count.2.1 99 = .ok (.aload_n 0, 1) := by decide +kernel
theorem dX10_count_100 : decode mX10_count.2.1 100 = .ok (.getfield 9, 3) := by decide +kernel
theorem dX10_count_103 : decode mX10_count.2.1 103 = .ok (.iconst 0, 1) := by decide +kernel
theorem dX10_count_104 : decode mX10_count.2.1 104 = .ok (.iaload, 1) := by decide +kernel
theorem dX10_count_105 : decode mX10_count.2.1 105 = .ok (.ireturn, 1) := by decide +kernel
theorem dX10_count_106 : decode mX10_count.2.1 106 = .ok (.ldc 101, 2) := by decide +kernel
theorem dX10_count_108 : decode mX10_count.2.1 108 = .ok (.ireturn, 1) := by decide +kernel
theorem dJ11_isValidCodePoint_9a6ad_0 : decode mJ11_isValidCodePoint_9a6ad.2.1 0 = .ok (.iload_n 0, 1) := by decide +kernel
theorem dJ11_isValidCodePoint_9a6ad_1 : decode mJ11_isValidCodePoint_9a6ad.2.1 1 = .ok (.bipush 16, 2) := by decide +kernel
theorem dJ11_isValidCodePoint_9a6ad_3 : decode mJ11_isValidCodePoint_9a6ad.2.1 3 = .ok (.iushr, 1) := by decide +kernel
theorem dJ11_isValidCodePoint_9a6ad_4 : decode mJ11_isValidCodePoint_9a6ad.2.1 4 = .ok (.istore_n 1, 1) := by decide +kernel
theorem dJ11_isValidCodePoint_9a6ad_5 : decode mJ11_isValidCodePoint_9a6ad.2.1 5 = .ok (.iload_n 1, 1) := by decide +kernel
theorem dJ11_isValidCodePoint_9a6ad_6 : decode mJ11_isValidCodePoint_9a6ad.2.1 6 = .ok (.bipush 17, 2) := by decide +kernel
theorem dJ11_isValidCodePoint_9a6ad_8 : decode mJ11_isValidCodePoint_9a6ad.2.1 8 = .ok (.if_icmp .ge 7, 3) := by decide +kernel
theorem dJ11_isValidCodePoint_9a6ad_11 : decode mJ11_isValidCodePoint_9a6ad.2.1 11 = .ok (.iconst 1, 1) := by decide +kernel
theorem dJ11_isValidCodePoint_9a6ad_12 : decode mJ11_isValidCodePoint_9a6ad.2.1 12 = .ok (.goto 4, 3) := by decide +kernel
theorem dJ11_isValidCodePoint_9a6ad_15 : decode mJ11_isValidCodePoint_9a6ad.2.1 15 = .ok (.iconst 0, 1) := by decide +kernel
theorem dJ11_isValidCodePoint_9a6ad_16 : decode mJ11_isValidCodePoint_9a6ad.2.1 16 = .ok (.ireturn, 1) := by decide +kernel
theorem dJ11_highSurrogate_5068e_0 : decode mJ11_highSurrogate_5068e.2.1 0 = .ok (.iload_n 0, 1) := by decide +kernel
theorem dJ11_highSurrogate_5068e_1 : decode mJ11_highSurrogate_5068e.2.1 1 = .ok (.bipush 10, 2) := by decide +kernel
theorem dJ11_highSurrogate_5068e_3 : decode mJ11_highSurrogate_5068e.2.1 3 = .ok (.iushr, 1) := by decide +kernel
theorem dJ11_highSurrogate_5068e_4 : decode mJ11_highSurrogate_5068e.2.1 4 = .ok (.ldc 110, 2) := by decide +kernel
theorem dJ11_highSurrogate_5068e_6 : decode mJ11_highSurrogate_5068e.2.1 6 = .ok (.iadd, 1) := by decide +kernel
theorem dJ11_highSurrogate_5068e_7 : decode mJ11_highSurrogate_5068e.2.1 7 = .ok (.i2c, 1) := by decide +kernel
theorem dJ11_highSurrogate_5068e_8 : decode mJ11_highSurrogate_5068e.2.1 8 = .ok (.ireturn, 1) := by decide +kernel
theorem dJ11_lowSurrogate_5068e_0 : decode mJ11_lowSurrogate_5068e.2.1 0 = .ok (.iload_n 0, 1) := by decide +kernel
theorem dJ11_lowSurrogate_5068e_1 : decode mJ11_lowSurrogate_5068e.2.1 1 = .ok (.sipush 1023, 3) := by decide +kernel
theorem dJ11_lowSurrogate_5068e_4 : decode mJ11_lowSurrogate_5068e.2.1 4 = .ok (.iand, 1) := by decide +kernel
theorem dJ11_lowSurrogate_5068e_5 : decode mJ11_lowSurrogate_5068e.2.1 5 = .ok (.ldc 76, 2) := by decide +kernel
theorem dJ11_lowSurrogate_5068e_7 : decode mJ11_lowSurrogate_5068e.2.1 7 = .ok (.iadd, 1) := by decide +kernel
theorem dJ11_lowSurrogate_5068e_8 : decode mJ11_lowSurrogate_5068e.2.1 8 = .ok (.i2c, 1) := by decide +kernel
theorem dJ11_lowSurrogate_5068e_9 : decode mJ11_lowSurrogate_5068e.2.1 9 = .ok (.ireturn, 1) := by decide +kernel
theorem dJ9_abs_0f7a4_0 : decode mJ9_abs_0f7a4.2.1 0 = .ok (.iload_n 0, 1) := by decide +kernel
theorem dJ9_abs_0f7a4_1 : decode mJ9_abs_0f7a4.2.1 1 = .ok (.ifCond .ge 8, 3) := by decide +kernel
theorem dJ9_abs_0f7a4_4 : decode mJ9_abs_0f7a4.2.1 4 = .ok (.iload_n 0, 1) := by decide +kernel
theorem dJ9_abs_0f7a4_5 : decode mJ9_abs_0f7a4.2.1 5 = .ok (.ineg, 1) := by decide +kernel
theorem dJ9_abs_0f7a4_6 : decode mJ9_abs_0f7a4.2.1 6 = .ok (.goto 4, 3) := by decide +kernel
theorem dJ9_abs_0f7a4_9 : decode mJ9_abs_0f7a4.2.1 9 = .ok (.iload_n 0, 1) := by decide +kernel
theorem dJ9_abs_0f7a4_10 : decode mJ9_abs_0f7a4.2.1 10 = .ok (.ireturn, 1) := by decide +kernel
theorem dJ9_max_7cf53_0 : decode mJ9_max_7cf53.2.1 0 = .ok (.iload_n 0, 1) := by decide +kernel
theorem dJ9_max_7cf53_1 : decode mJ9_max_7cf53.2.1 1 = .ok (.iload_n 1, 1) := by decide +kernel
theorem dJ9_max_7cf53_2 : decode mJ9_max_7cf53.2.1 2 = .ok (.if_icmp .lt 7, 3) := by decide +kernel
theorem dJ9_max_7cf53_5 : decode mJ9_max_7cf53.2.1 5 = .ok (.iload_n 0, 1) := by decide +kernel
theorem dJ9_max_7cf53_6 : decode mJ9_max_7cf53.2.1 6 = .ok (.goto 4, 3) := by decide +kernel
theorem dJ9_max_7cf53_9 : decode mJ9_max_7cf53.2.1 9 = .ok (.iload_n 1, 1) := by decide +kernel
theorem dJ9_max_7cf53_10 : decode mJ9_max_7cf53.2.1 10 = .ok (.ireturn, 1) := by decide +kernel
theorem dJ9_min_7cf53_0 : decode mJ9_min_7cf53.2.1 0 = .ok (.iload_n 0, 1) := by decide +kernel
theorem dJ9_min_7cf53_1 : decode mJ9_min_7cf53.2.1 1 = .ok (.iload_n 1, 1) := by decide +kernel
theorem dJ9_min_7cf53_2 : decode mJ9_min_7cf53.2.1 2 = .ok (.if_icmp .gt 7, 3) := by decide +kernel
theorem dJ9_min_7cf53_5 : decode mJ9_min_7cf53.2.1 5 = .ok (.iload_n 0, 1) := by decide +kernel
theorem dJ9_min_7cf53_6 : decode mJ9_min_7cf53.2.1 6 = .ok (.goto 4, 3) := by decide +kernel
theorem dJ9_min_7cf53_9 : decode mJ9_min_7cf53.2.1 9 = .ok (.iload_n 1, 1) := by decide +kernel
theorem dJ9_min_7cf53_10 : decode mJ9_min_7cf53.2.1 10 = .ok (.ireturn, 1) := by decide +kernel
theorem dJ0_length_8abf5_0 : decode mJ0_length_8abf5.2.1 0 = .ok (.aload_n 0, 1) := by decide +kernel
theorem dJ0_length_8abf5_1 : decode mJ0_length_8abf5.2.1 1 = .ok (.getfield 9, 3) := by decide +kernel
theorem dJ0_length_8abf5_4 : decode mJ0_length_8abf5.2.1 4 = .ok (.arraylength, 1) := by decide +kernel
theorem dJ0_length_8abf5_5 : decode mJ0_length_8abf5.2.1 5 = .ok (.aload_n 0, 1) := by decide +kernel
theorem dJ0_length_8abf5_6 : decode mJ0_length_8abf5.2.1 6 = .ok (.invokevirtual 335, 3) := by decide +kernel
theorem dJ0_length_8abf5_9 : decode mJ0_length_8abf5.2.1 9 = .ok (.ishr, 1) := by decide +kernel
theorem dJ0_length_8abf5_10 : decode mJ0_length_8abf5.2.1 10 = .ok (.ireturn, 1) := by decide +kernel
theorem dJ0_charAt_5068e_0 : decode mJ0_charAt_5068e.2.1 0 = .ok (.aload_n 0, 1) := by decide +kernel
theorem dJ0_charAt_5068e_1 : decode mJ0_charAt_5068e.2.1 1 = .ok (.invokevirtual 492, 3) := by decide +kernel
theorem dJ0_charAt_5068e_4 : decode mJ0_charAt_5068e.2.1 4 = .ok (.ifCond .eq 12, 3) := by decide +kernel
theorem dJ0_charAt_5068e_7 : decode mJ0_charAt_5068e.2.1 7 = .ok (.aload_n 0, 1) := by decide +kernel
theorem dJ0_charAt_5068e_8 : decode mJ0_charAt_5068e.2.1 8 = .ok (.getfield 9, 3) := by decide +kernel
theorem dJ0_charAt_5068e_11 : decode mJ0_charAt_5068e.2.1 11 = .ok (.iload_n 1, 1) := by decide +kernel
theorem dJ0_charAt_5068e_12 : decode mJ0_charAt_5068e.2.1 12 = .ok (.invokestatic 495, 3) := by decide +kernel
theorem dJ0_charAt_5068e_15 : decode mJ0_charAt_5068e.2.1 15 = .ok (.ireturn, 1) := by decide +kernel
theorem dJ0_charAt_5068e_16 : decode mJ0_charAt_5068e.2.1 16 = .ok (.aload_n 0, 1) := by decide +kernel
theorem dJ0_charAt_5068e_17 : decode mJ0_charAt_5068e.2.1 17 = .ok (.getfield 9, 3) := by decide +kernel
theorem dJ0_charAt_5068e_20 : decode mJ0_charAt_5068e.2.1 20 = .ok (.iload_n 1, 1) := by decide +kernel
theorem dJ0_charAt_5068e_21 : decode mJ0_charAt_5068e.2.1 21 = .ok (.invokestatic 498, 3) := by decide +kernel
theorem dJ0_charAt_5068e_24 : decode mJ0_charAt_5068e.2.1 24 = .ok (.ireturn, 1) := by decide +kernel
theorem dJ0_indexOf_0f7a4_0 : decode mJ0_indexOf_0f7a4.2.1 0 = .ok (.aload_n 0, 1) := by decide +kernel
theorem dJ0_indexOf_0f7a4_1 : decode mJ0_indexOf_0f7a4.2.1 1 = .ok (.iload_n 1, 1) := by decide +kernel
theorem dJ0_indexOf_0f7a4_2 : decode mJ0_indexOf_0f7a4.2.1 2 = .ok (.iconst 0, 1) := by decide +kernel
theorem dJ0_indexOf_0f7a4_3 : decode mJ0_indexOf_0f7a4.2.1 3 = .ok (.invokevirtual 633, 3) := by decide +kernel
theorem dJ0_indexOf_0f7a4_6 : decode mJ0_indexOf_0f7a4.2.1 6 = .ok (.ireturn, 1) := by decide +kernel
theorem dJ0_indexOf_7cf53_0 : decode mJ0_indexOf_7cf53.2.1 0 = .ok (.aload_n 0, 1) := by decide +kernel
theorem dJ0_indexOf_7cf53_1 : decode mJ0_indexOf_7cf53.2.1 1 = .ok (.invokevirtual 492, 3) := by decide +kernel
theorem dJ0_indexOf_7cf53_4 : decode mJ0_indexOf_7cf53.2.1 4 = .ok (.ifCond .eq 19, 3) := by decide +kernel
theorem dJ0_indexOf_7cf53_7 : decode mJ0_indexOf_7cf53.2.1 7 = .ok (.aload_n 0, 1) := by decide +kernel
theorem dJ0_indexOf_7cf53_8 : decode mJ0_indexOf_7cf53.2.1 8 = .ok (.getfield 9, 3) := by decide +kernel
theorem dJ0_indexOf_7cf53_11 : decode mJ0_indexOf_7cf53.2.1 11 = .ok (.iload_n 1, 1) := by decide +kernel
theorem dJ0_indexOf_7cf53_12 : decode mJ0_indexOf_7cf53.2.1 12 = .ok (.iload_n 2, 1) := by decide +kernel
theorem dJ0_indexOf_7cf53_13 : decode mJ0_indexOf_7cf53.2.1 13 = .ok (.aload_n 0, 1) := by decide +kernel
theorem dJ0_indexOf_7cf53_14 : decode mJ0_indexOf_7cf53.2.1 14 = .ok (.invokevirtual 505, 3) := by decide +kernel
theorem dJ0_indexOf_7cf53_17 : decode mJ0_indexOf_7cf53.2.1 17 = .ok (.invokestatic 637, 3) := by decide +kernel
theorem dJ0_indexOf_7cf53_20 : decode mJ0_indexOf_7cf53.2.1 20 = .ok (.goto 16, 3) := by decide +kernel
theorem dJ0_indexOf_7cf53_23 : decode mJ0_indexOf_7cf53.2.1 23 = .ok (.aload_n 0, 1) := by decide +kernel
theorem dJ0_indexOf_7cf53_24 : decode mJ0_indexOf_7cf53.2.1 24 = .ok (.getfield 9, 3) := by decide +kernel
theorem dJ0_indexOf_7cf53_27 : decode mJ0_indexOf_7cf53.2.1 27 = .ok (.iload_n 1, 1) := by decide +kernel
theorem dJ0_indexOf_7cf53_28 : decode mJ0_indexOf_7cf53.2.1 28 = .ok (.iload_n 2, 1) := by decide +kernel
theorem dJ0_indexOf_7cf53_29 : decode mJ0_indexOf_7cf53.2.1 29 = .ok (.aload_n 0, 1) := by decide +kernel
theorem dJ0_indexOf_7cf53_30 : decode mJ0_indexOf_7cf53.2.1 30 = .ok (.invokevirtual 505, 3) := by decide +kernel
theorem dJ0_indexOf_7cf53_33 : decode mJ0_indexOf_7cf53.2.1 33 = .ok (.invokestatic 640, 3) := by decide +kernel
theorem dJ0_indexOf_7cf53_36 : decode mJ0_indexOf_7cf53.2.1 36 = .ok (.ireturn, 1) := by decide +kernel
theorem dJ0_coder_7d493_0 : decode mJ0_coder_7d493.2.1 0 = .ok (.getstatic 38, 3) := by decide +kernel
theorem dJ0_coder_7d493_3 : decode mJ0_coder_7d493.2.1 3 = .ok (.ifCond .eq 10, 3) := by decide +kernel
theorem dJ0_coder_7d493_6 : decode mJ0_coder_7d493.2.1 6 = .ok (.aload_n 0, 1) := by decide +kernel
theorem dJ0_coder_7d493_7 : decode mJ0_coder_7d493.2.1 7 = .ok (.getfield 15, 3) := by decide +kernel
theorem dJ0_coder_7d493_10 : decode mJ0_coder_7d493.2.1 10 = .ok (.goto 4, 3) := by decide +kernel
theorem dJ0_coder_7d493_13 : decode mJ0_coder_7d493.2.1 13 = .ok (.iconst 1, 1) := by decide +kernel
theorem dJ0_coder_7d493_14 : decode mJ0_coder_7d493.2.1 14 = .ok (.ireturn, 1) := by decide +kernel
theorem dJ0_isLatin1_aae02_0 : decode mJ0_isLatin1_aae02.2.1 0 = .ok (.getstatic 38, 3) := by decide +kernel
theorem dJ0_isLatin1_aae02_3 : decode mJ0_isLatin1_aae02.2.1 3 = .ok (.ifCond .eq 14, 3) := by decide +kernel
theorem dJ0_isLatin1_aae02_6 : decode mJ0_isLatin1_aae02.2.1 6 = .ok (.aload_n 0, 1) := by decide +kernel
theorem dJ0_isLatin1_aae02_7 : decode mJ0_isLatin1_aae02.2.1 7 = .ok (.getfield 15, 3) := by decide +kernel
theorem dJ0_isLatin1_aae02_10 : decode mJ0_isLatin1_aae02.2.1 10 = .ok (.ifCond .ne 7, 3) := by decide +kernel
theorem dJ0_isLatin1_aae02_13 : decode mJ0_isLatin1_aae02.2.1 13 = .ok (.iconst 1, 1) := by decide +kernel
theorem dJ0_isLatin1_aae02_14 : decode mJ0_isLatin1_aae02.2.1 14 = .ok (.goto 4, 3) := by decide +kernel
theorem dJ0_isLatin1_aae02_17 : decode mJ0_isLatin1_aae02.2.1 17 = .ok (.iconst 0, 1) := by decide +kernel
theorem dJ0_isLatin1_aae02_18 : decode mJ0_isLatin1_aae02.2.1 18 = .ok (.ireturn, 1) := by decide +kernel
theorem dJ0_checkIndex_df160_0 : decode mJ0_checkIndex_df160.2.1 0 = .ok (.iload_n 0, 1) := by decide +kernel
theorem dJ0_checkIndex_df160_1 : decode mJ0_checkIndex_df160.2.1 1 = .ok (.iload_n 1, 1) := by decide +kernel
theorem dJ0_checkIndex_df160_2 : decode mJ0_checkIndex_df160.2.1 2 = .ok (.getstatic 1053, 3) := by decide +kernel
theorem dJ0_checkIndex_df160_5 : decode mJ0_checkIndex_df160.2.1 5 = .ok (.invokestatic 1059, 3) := by decide +kernel
theorem dJ0_checkIndex_df160_8 : decode mJ0_checkIndex_df160.2.1 8 = .ok (.pop, 1) := by decide +kernel
theorem dJ0_checkIndex_df160_9 : decode mJ0_checkIndex_df160.2.1 9 = .ok (.return_, 1) := by decide +kernel
theorem dJ0_checkBoundsBeginEnd_23922_0 : decode mJ0_checkBoundsBeginEnd_23922.2.1 0 = .ok (.iload_n 0, 1) := by decide +kernel
theorem dJ0_checkBoundsBeginEnd_23922_1 : decode mJ0_checkBoundsBeginEnd_23922.2.1 1 = .ok (.iload_n 1, 1) := by decide +kernel
theorem dJ0_checkBoundsBeginEnd_23922_2 : decode mJ0_checkBoundsBeginEnd_23922.2.1 2 = .ok (.iload_n 2, 1) := by decide +kernel
theorem dJ0_checkBoundsBeginEnd_23922_3 : decode mJ0_checkBoundsBeginEnd_23922.2.1 3 = .ok (.getstatic 1053, 3) := by decide +kernel
theorem dJ0_checkBoundsBeginEnd_23922_6 : decode mJ0_checkBoundsBeginEnd_23922.2.1 6 = .ok (.invokestatic 1062, 3) := by decide +kernel
theorem dJ0_checkBoundsBeginEnd_23922_9 : decode mJ0_checkBoundsBeginEnd_23922.2.1 9 = .ok (.pop, 1) := by decide +kernel
theorem dJ0_checkBoundsBeginEnd_23922_10 : decode mJ0_checkBoundsBeginEnd_23922.2.1 10 = .ok (.return_, 1) := by decide +kernel
theorem dJ1_charAt_3b067_0 : decode mJ1_charAt_3b067.2.1 0 = .ok (.iload_n 1, 1) := by decide +kernel
theorem dJ1_charAt_3b067_1 : decode mJ1_charAt_3b067.2.1 1 = .ok (.aload_n 0, 1) := by decide +kernel
theorem dJ1_charAt_3b067_2 : decode mJ1_charAt_3b067.2.1 2 = .ok (.arraylength, 1) := by decide +kernel
theorem dJ1_charAt_3b067_3 : decode mJ1_charAt_3b067.2.1 3 = .ok (.invokestatic 9, 3) := by decide +kernel
theorem dJ1_charAt_3b067_6 : decode mJ1_charAt_3b067.2.1 6 = .ok (.aload_n 0, 1) := by decide +kernel
theorem dJ1_charAt_3b067_7 : decode mJ1_charAt_3b067.2.1 7 = .ok (.iload_n 1, 1) := by decide +kernel
theorem dJ1_charAt_3b067_8 : decode mJ1_charAt_3b067.2.1 8 = .ok (.baload, 1) := by decide +kernel
theorem dJ1_charAt_3b067_9 : decode mJ1_charAt_3b067.2.1 9 = .ok (.sipush 255, 3) := by decide +kernel
theorem dJ1_charAt_3b067_12 : decode mJ1_charAt_3b067.2.1 12 = .ok (.iand, 1) := by decide +kernel
theorem dJ1_charAt_3b067_13 : decode mJ1_charAt_3b067.2.1 13 = .ok (.i2c, 1) := by decide +kernel
theorem dJ1_charAt_3b067_14 : decode mJ1_charAt_3b067.2.1 14 = .ok (.ireturn, 1) := by decide +kernel
theorem dJ1_canEncode_9a6ad_0 : decode mJ1_canEncode_9a6ad.2.1 0 = .ok (.iload_n 0, 1) := by decide +kernel
theorem dJ1_canEncode_9a6ad_1 : decode mJ1_canEncode_9a6ad.2.1 1 = .ok (.ifCond .lt 14, 3) := by decide +kernel
theorem dJ1_canEncode_9a6ad_4 : decode mJ1_canEncode_9a6ad.2.1 4 = .ok (.iload_n 0, 1) := by decide +kernel
theorem dJ1_canEncode_9a6ad_5 : decode mJ1_canEncode_9a6ad.2.1 5 = .ok (.sipush 255, 3) := by decide +kernel
theorem dJ1_canEncode_9a6ad_8 : decode mJ1_canEncode_9a6ad.2.1 8 = .ok (.if_icmp .gt 7, 3) := by decide +kernel
theorem dJ1_canEncode_9a6ad_11 : decode mJ1_canEncode_9a6ad.2.1 11 = .ok (.iconst 1, 1) := by decide +kernel
theorem dJ1_canEncode_9a6ad_12 : decode mJ1_canEncode_9a6ad.2.1 12 = .ok (.goto 4, 3) := by decide +kernel
theorem dJ1_canEncode_9a6ad_15 : decode mJ1_canEncode_9a6ad.2.1 15 = .ok (.iconst 0, 1) := by decide +kernel
theorem dJ1_canEncode_9a6ad_16 : decode mJ1_canEncode_9a6ad.2.1 16 = .ok (.ireturn, 1) := by decide +kernel
theorem dJ1_indexOf_4cfef_0 : decode mJ1_indexOf_4cfef.2.1 0 = .ok (.iload_n 1, 1) := by decide +kernel
theorem dJ1_indexOf_4cfef_1 : decode mJ1_indexOf_4cfef.2.1 1 = .ok (.invokestatic 88, 3) := by decide +kernel
theorem dJ1_indexOf_4cfef_4 : decode mJ1_indexOf_4cfef.2.1 4 = .ok (.ifCond .ne 5, 3) := by decide +kernel
theorem dJ1_indexOf_4cfef_7 : decode mJ1_indexOf_4cfef.2.1 7 = .ok (.iconst (-1), 1) := by decide +kernel
theorem dJ1_indexOf_4cfef_8 : decode mJ1_indexOf_4cfef.2.1 8 = .ok (.ireturn, 1) := by decide +kernel
theorem dJ1_indexOf_4cfef_9 : decode mJ1_indexOf_4cfef.2.1 9 = .ok (.iload_n 2, 1) := by decide +kernel
theorem dJ1_indexOf_4cfef_10 : decode mJ1_indexOf_4cfef.2.1 10 = .ok (.iconst 0, 1) := by decide +kernel
theorem dJ1_indexOf_4cfef_11 : decode mJ1_indexOf_4cfef.2.1 11 = .ok (.invokestatic 92, 3) := by decide +kernel
theorem dJ1_indexOf_4cfef_14 : decode mJ1_indexOf_4cfef.2.1 14 = .ok (.istore_n 2, 1) := by decide +kernel
theorem dJ1_indexOf_4cfef_15 : decode mJ1_indexOf_4cfef.2.1 15 = .ok (.iload_n 3, 1) := by decide +kernel
theorem dJ1_indexOf_4cfef_16 : decode mJ1_indexOf_4cfef.2.1 16 = .ok (.aload_n 0, 1) := by decide +kernel
theorem dJ1_indexOf_4cfef_17 : decode mJ1_indexOf_4cfef.2.1 17 = .ok (.arraylength, 1) := by decide +kernel
theorem dJ1_indexOf_4cfef_18 : decode mJ1_indexOf_4cfef.2.1 18 = .ok (.invokestatic 38, 3) := by decide +kernel
theorem dJ1_indexOf_4cfef_21 : decode mJ1_indexOf_4cfef.2.1 21 = .ok (.istore_n 3, 1) := by decide +kernel
theorem dJ1_indexOf_4cfef_22 : decode mJ1_indexOf_4cfef.2.1 22 = .ok (.iload_n 2, 1) := by decide +kernel
theorem dJ1_indexOf_4cfef_23 : decode mJ1_indexOf_4cfef.2.1 23 = .ok (.iload_n 3, 1) := by decide +kernel
theorem dJ1_indexOf_4cfef_24 : decode mJ1_indexOf_4cfef.2.1 24 = .ok (.if_icmp .lt 5, 3) := by decide +kernel
theorem dJ1_indexOf_4cfef_27 : decode mJ1_indexOf_4cfef.2.1 27 = .ok (.iconst (-1), 1) := by decide +kernel
theorem dJ1_indexOf_4cfef_28 : decode mJ1_indexOf_4cfef.2.1 28 = .ok (.ireturn, 1) := by decide +kernel
theorem dJ1_indexOf_4cfef_29 : decode mJ1_indexOf_4cfef.2.1 29 = .ok (.aload_n 0, 1) := by decide +kernel
theorem dJ1_indexOf_4cfef_30 : decode mJ1_indexOf_4cfef.2.1 30 = .ok (.iload_n 1, 1) := by decide +kernel
theorem dJ1_indexOf_4cfef_31 : decode mJ1_indexOf_4cfef.2.1 31 = .ok (.iload_n 2, 1) := by decide +kernel
theorem dJ1_indexOf_4cfef_32 : decode mJ1_indexOf_4cfef.2.1 32 = .ok (.iload_n 3, 1) := by decide +kernel
theorem dJ1_indexOf_4cfef_33 : decode mJ1_indexOf_4cfef.2.1 33 = .ok (.invokestatic 95, 3) := by decide +kernel
theorem dJ1_indexOf_4cfef_36 : decode mJ1_indexOf_4cfef.2.1 36 = .ok (.ireturn, 1) := by decide +kernel
theorem dJ1_indexOfChar_4cfef_0 : decode mJ1_indexOfChar_4cfef.2.1 0 = .ok (.iload_n 1, 1) := by decide +kernel
theorem dJ1_indexOfChar_4cfef_1 : decode mJ1_indexOfChar_4cfef.2.1 1 = .ok (.i2b, 1) := by decide +kernel
theorem dJ1_indexOfChar_4cfef_2 : decode mJ1_indexOfChar_4cfef.2.1 2 = .ok (.istore 4, 2) := by decide +kernel
theorem dJ1_indexOfChar_4cfef_4 : decode mJ1_indexOfChar_4cfef.2.1 4 = .ok (.iload_n 2, 1) := by decide +kernel
theorem dJ1_indexOfChar_4cfef_5 : decode mJ1_indexOfChar_4cfef.2.1 5 = .ok (.istore 5, 2) := by decide +kernel
theorem dJ1_indexOfChar_4cfef_7 : decode mJ1_indexOfChar_4cfef.2.1 7 = .ok (.iload 5, 2) := by decide +kernel
theorem dJ1_indexOfChar_4cfef_9 : decode mJ1_indexOfChar_4cfef.2.1 9 = .ok (.iload_n 3, 1) := by decide +kernel
theorem dJ1_indexOfChar_4cfef_10 : decode mJ1_indexOfChar_4cfef.2.1 10 = .ok (.if_icmp .ge 21, 3) := by decide +kernel
theorem dJ1_indexOfChar_4cfef_13 : decode mJ1_indexOfChar_4cfef.2.1 13 = .ok (.aload_n 0, 1) := by decide +kernel
theorem dJ1_indexOfChar_4cfef_14 : decode mJ1_indexOfChar_4cfef.2.1 14 = .ok (.iload 5, 2) := by decide +kernel
theorem dJ1_indexOfChar_4cfef_16 : decode mJ1_indexOfChar_4cfef.2.1 16 = .ok (.baload, 1) := by decide +kernel
theorem dJ1_indexOfChar_4cfef_17 : decode mJ1_indexOfChar_4cfef.2.1 17 = .ok (.iload 4, 2) := by decide +kernel
theorem dJ1_indexOfChar_4cfef_19 : decode mJ1_indexOfChar_4cfef.2.1 19 = .ok (.if_icmp .ne 6, 3) := by decide +kernel
theorem dJ1_indexOfChar_4cfef_22 : decode mJ1_indexOfChar_4cfef.2.1 22 = .ok (.iload 5, 2) := by decide +kernel
theorem dJ1_indexOfChar_4cfef_24 : decode mJ1_indexOfChar_4cfef.2.1 24 = .ok (.ireturn, 1) := by decide +kernel
theorem dJ1_indexOfChar_4cfef_25 : decode mJ1_indexOfChar_4cfef.2.1 25 = .ok (.iinc 5 1, 3) := by decide +kernel
theorem dJ1_indexOfChar_4cfef_28 : decode mJ1_indexOfChar_4cfef.2.1 28 = .ok (.goto (-21), 3) := by decide +kernel
theorem dJ1_indexOfChar_4cfef_31 : decode mJ1_indexOfChar_4cfef.2.1 31 = .ok (.iconst (-1), 1) := by decide +kernel
theorem dJ1_indexOfChar_4cfef_32 : decode mJ1_indexOfChar_4cfef.2.1 32 = .ok (.ireturn, 1) := by decide +kernel
theorem dJ2_getChar_3b067_0 : decode mJ2_getChar_3b067.2.1 0 = .ok (.getstatic 44, 3) := by decide +kernel
theorem dJ2_getChar_3b067_3 : decode mJ2_getChar_3b067.2.1 3 = .ok (.ifCond .ne 25, 3) := by decide +kernel
theorem dJ2_getChar_3b067_6 : decode mJ2_getChar_3b067.2.1 6 = .ok (.iload_n 1, 1) := by decide +kernel
theorem dJ2_getChar_3b067_7 : decode mJ2_getChar_3b067.2.1 7 = .ok (.ifCond .lt 11, 3) := by decide +kernel
theorem dJ2_getChar_3b067_10 : decode mJ2_getChar_3b067.2.1 10 = .ok (.iload_n 1, 1) := by decide +kernel
theorem dJ2_getChar_3b067_11 : decode mJ2_getChar_3b067.2.1 11 = .ok (.aload_n 0, 1) := by decide +kernel
theorem dJ2_getChar_3b067_12 : decode mJ2_getChar_3b067.2.1 12 = .ok (.invokestatic 48, 3) := by decide +kernel
theorem dJ2_getChar_3b067_15 : decode mJ2_getChar_3b067.2.1 15 = .ok (.if_icmp .lt 13, 3) := by decide +kernel
theorem dJ2_getChar_3b067_18 : decode mJ2_getChar_3b067.2.1 18 = .ok (.new 52, 3) := by decide +kernel
theorem dJ2_getChar_3b067_21 : decode mJ2_getChar_3b067.2.1 21 = .ok (.dup, 1) := by decide +kernel
theorem dJ2_getChar_3b067_22 : decode mJ2_getChar_3b067.2.1 22 = .ok (.ldc 54, 2) := by decide +kernel
theorem dJ2_getChar_3b067_24 : decode mJ2_getChar_3b067.2.1 24 = .ok (.invokespecial 56, 3) := by decide +kernel
theorem dJ2_getChar_3b067_27 : decode mJ2_getChar_3b067.2.1 27 = .ok (.athrow, 1) := by decide +kernel
theorem dJ2_getChar_3b067_28 : decode mJ2_getChar_3b067.2.1 28 = .ok (.iload_n 1, 1) := by decide +kernel
theorem dJ2_getChar_3b067_29 : decode mJ2_getChar_3b067.2.1 29 = .ok (.iconst 1, 1) := by decide +kernel
theorem dJ2_getChar_3b067_30 : decode mJ2_getChar_3b067.2.1 30 = .ok (.ishl, 1) := by decide +kernel
theorem dJ2_getChar_3b067_31 : decode mJ2_getChar_3b067.2.1 31 = .ok (.istore_n 1, 1) := by decide +kernel
theorem dJ2_getChar_3b067_32 : decode mJ2_getChar_3b067.2.1 32 = .ok (.aload_n 0, 1) := by decide +kernel
theorem dJ2_getChar_3b067_33 : decode mJ2_getChar_3b067.2.1 33 = .ok (.iload_n 1, 1) := by decide +kernel
theorem dJ2_getChar_3b067_34 : decode mJ2_getChar_3b067.2.1 34 = .ok (.iinc 1 1, 3) := by decide +kernel
theorem dJ2_getChar_3b067_37 : decode mJ2_getChar_3b067.2.1 37 = .ok (.baload, 1) := by decide +kernel
theorem dJ2_getChar_3b067_38 : decode mJ2_getChar_3b067.2.1 38 = .ok (.sipush 255, 3) := by decide +kernel
theorem dJ2_getChar_3b067_41 : decode mJ2_getChar_3b067.2.1 41 = .ok (.iand, 1) := by decide +kernel
theorem dJ2_getChar_3b067_42 : decode mJ2_getChar_3b067.2.1 42 = .ok (.getstatic 59, 3) := by decide +kernel
theorem dJ2_getChar_3b067_45 : decode mJ2_getChar_3b067.2.1 45 = .ok (.ishl, 1) := by decide +kernel
theorem dJ2_getChar_3b067_46 : decode mJ2_getChar_3b067.2.1 46 = .ok (.aload_n 0, 1) := by decide +kernel
theorem dJ2_getChar_3b067_47 : decode mJ2_getChar_3b067.2.1 47 = .ok (.iload_n 1, 1) := by decide +kernel
theorem dJ2_getChar_3b067_48 : decode mJ2_getChar_3b067.2.1 48 = .ok (.baload, 1) := by decide +kernel
theorem dJ2_getChar_3b067_49 : decode mJ2_getChar_3b067.2.1 49 = .ok (.sipush 255, 3) := by decide +kernel
theorem dJ2_getChar_3b067_52 : decode mJ2_getChar_3b067.2.1 52 = .ok (.iand, 1) := by decide +kernel
theorem dJ2_getChar_3b067_53 : decode mJ2_getChar_3b067.2.1 53 = .ok (.getstatic 63, 3) := by decide +kernel
theorem dJ2_getChar_3b067_56 : decode mJ2_getChar_3b067.2.1 56 = .ok (.ishl, 1) := by decide +kernel
theorem dJ2_getChar_3b067_57 : decode mJ2_getChar_3b067.2.1 57 = .ok (.ior, 1) := by decide +kernel
theorem dJ2_getChar_3b067_58 : decode mJ2_getChar_3b067.2.1 58 = .ok (.i2c, 1) := by decide +kernel
theorem dJ2_getChar_3b067_59 : decode mJ2_getChar_3b067.2.1 59 = .ok (.ireturn, 1) := by decide +kernel
theorem dJ2_length_9d52b_0 : decode mJ2_length_9d52b.2.1 0 = .ok (.aload_n 0, 1) := by decide +kernel
theorem dJ2_length_9d52b_1 : decode mJ2_length_9d52b.2.1 1 = .ok (.arraylength, 1) := by decide +kernel
theorem dJ2_length_9d52b_2 : decode mJ2_length_9d52b.2.1 2 = .ok (.iconst 1, 1) := by decide +kernel
theorem dJ2_length_9d52b_3 : decode mJ2_length_9d52b.2.1 3 = .ok (.ishr, 1) := by decide +kernel
theorem dJ2_length_9d52b_4 : decode mJ2_length_9d52b.2.1 4 = .ok (.ireturn, 1) := by decide +kernel
theorem dJ2_indexOf_4cfef_0 : decode mJ2_indexOf_4cfef.2.1 0 = .ok (.iload_n 2, 1) := by decide +kernel
theorem dJ2_indexOf_4cfef_1 : decode mJ2_indexOf_4cfef.2.1 1 = .ok (.iconst 0, 1) := by decide +kernel
theorem dJ2_indexOf_4cfef_2 : decode mJ2_indexOf_4cfef.2.1 2 = .ok (.invokestatic 224, 3) := by decide +kernel
theorem dJ2_indexOf_4cfef_5 : decode mJ2_indexOf_4cfef.2.1 5 = .ok (.istore_n 2, 1) := by decide +kernel
theorem dJ2_indexOf_4cfef_6 : decode mJ2_indexOf_4cfef.2.1 6 = .ok (.iload_n 3, 1) := by decide +kernel
theorem dJ2_indexOf_4cfef_7 : decode mJ2_indexOf_4cfef.2.1 7 = .ok (.aload_n 0, 1) := by decide +kernel
theorem dJ2_indexOf_4cfef_8 : decode mJ2_indexOf_4cfef.2.1 8 = .ok (.arraylength, 1) := by decide +kernel
theorem dJ2_indexOf_4cfef_9 : decode mJ2_indexOf_4cfef.2.1 9 = .ok (.iconst 1, 1) := by decide +kernel
theorem dJ2_indexOf_4cfef_10 : decode mJ2_indexOf_4cfef.2.1 10 = .ok (.ishr, 1) := by decide +kernel
theorem dJ2_indexOf_4cfef_11 : decode mJ2_indexOf_4cfef.2.1 11 = .ok (.invokestatic 183, 3) := by decide +kernel
theorem dJ2_indexOf_4cfef_14 : decode mJ2_indexOf_4cfef.2.1 14 = .ok (.istore_n 3, 1) := by decide +kernel
theorem dJ2_indexOf_4cfef_15 : decode mJ2_indexOf_4cfef.2.1 15 = .ok (.iload_n 2, 1) := by decide +kernel
theorem dJ2_indexOf_4cfef_16 : decode mJ2_indexOf_4cfef.2.1 16 = .ok (.iload_n 3, 1) := by decide +kernel
theorem dJ2_indexOf_4cfef_17 : decode mJ2_indexOf_4cfef.2.1 17 = .ok (.if_icmp .lt 5, 3) := by decide +kernel
theorem dJ2_indexOf_4cfef_20 : decode mJ2_indexOf_4cfef.2.1 20 = .ok (.iconst (-1), 1) := by decide +kernel
theorem dJ2_indexOf_4cfef_21 : decode mJ2_indexOf_4cfef.2.1 21 = .ok (.ireturn, 1) := by decide +kernel
theorem dJ2_indexOf_4cfef_22 : decode mJ2_indexOf_4cfef.2.1 22 = .ok (.iload_n 1, 1) := by decide +kernel
theorem dJ2_indexOf_4cfef_23 : decode mJ2_indexOf_4cfef.2.1 23 = .ok (.ldc 227, 2) := by decide +kernel
theorem dJ2_indexOf_4cfef_25 : decode mJ2_indexOf_4cfef.2.1 25 = .ok (.if_icmp .ge 11, 3) := by decide +kernel
theorem dJ2_indexOf_4cfef_28 : decode mJ2_indexOf_4cfef.2.1 28 = .ok (.aload_n 0, 1) := by decide +kernel
theorem dJ2_indexOf_4cfef_29 : decode mJ2_indexOf_4cfef.2.1 29 = .ok (.iload_n 1, 1) := by decide +kernel
theorem dJ2_indexOf_4cfef_30 : decode mJ2_indexOf_4cfef.2.1 30 = .ok (.iload_n 2, 1) := by decide +kernel
theorem dJ2_indexOf_4cfef_31 : decode mJ2_indexOf_4cfef.2.1 31 = .ok (.iload_n 3, 1) := by decide +kernel
theorem dJ2_indexOf_4cfef_32 : decode mJ2_indexOf_4cfef.2.1 32 = .ok (.invokestatic 228, 3) := by decide +kernel
theorem dJ2_indexOf_4cfef_35 : decode mJ2_indexOf_4cfef.2.1 35 = .ok (.ireturn, 1) := by decide +kernel
theorem dJ2_indexOf_4cfef_36 : decode mJ2_indexOf_4cfef.2.1 36 = .ok (.aload_n 0, 1) := by decide +kernel
theorem dJ2_indexOf_4cfef_37 : decode mJ2_indexOf_4cfef.2.1 37 = .ok (.iload_n 1, 1) := by decide +kernel
theorem dJ2_indexOf_4cfef_38 : decode mJ2_indexOf_4cfef.2.1 38 = .ok (.iload_n 2, 1) := by decide +kernel
theorem dJ2_indexOf_4cfef_39 : decode mJ2_indexOf_4cfef.2.1 39 = .ok (.iload_n 3, 1) := by decide +kernel
theorem dJ2_indexOf_4cfef_40 : decode mJ2_indexOf_4cfef.2.1 40 = .ok (.invokestatic 232, 3) := by decide +kernel
theorem dJ2_indexOf_4cfef_43 : decode mJ2_indexOf_4cfef.2.1 43 = .ok (.ireturn, 1) := by decide +kernel
theorem dJ2_indexOfChar_4cfef_0 : decode mJ2_indexOfChar_4cfef.2.1 0 = .ok (.iload_n 2, 1) := by decide +kernel
theorem dJ2_indexOfChar_4cfef_1 : decode mJ2_indexOfChar_4cfef.2.1 1 = .ok (.iload_n 3, 1) := by decide +kernel
theorem dJ2_indexOfChar_4cfef_2 : decode mJ2_indexOfChar_4cfef.2.1 2 = .ok (.aload_n 0, 1) := by decide +kernel
theorem dJ2_indexOfChar_4cfef_3 : decode mJ2_indexOfChar_4cfef.2.1 3 = .ok (.invokestatic 96, 3) := by decide +kernel
theorem dJ2_indexOfChar_4cfef_6 : decode mJ2_indexOfChar_4cfef.2.1 6 = .ok (.aload_n 0, 1) := by decide +kernel
theorem dJ2_indexOfChar_4cfef_7 : decode mJ2_indexOfChar_4cfef.2.1 7 = .ok (.iload_n 1, 1) := by decide +kernel
theorem dJ2_indexOfChar_4cfef_8 : decode mJ2_indexOfChar_4cfef.2.1 8 = .ok (.iload_n 2, 1) := by decide +kernel
theorem dJ2_indexOfChar_4cfef_9 : decode mJ2_indexOfChar_4cfef.2.1 9 = .ok (.iload_n 3, 1) := by decide +kernel
theorem dJ2_indexOfChar_4cfef_10 : decode mJ2_indexOfChar_4cfef.2.1 10 = .ok (.invokestatic 244, 3) := by decide +kernel
theorem dJ2_indexOfChar_4cfef_13 : decode mJ2_indexOfChar_4cfef.2.1 13 = .ok (.ireturn, 1) := by decide +kernel
theorem dJ2_indexOfCharUnsafe_4cfef_0 : decode mJ2_indexOfCharUnsafe_4cfef.2.1 0 = .ok (.iload_n 2, 1) := by decide +kernel
theorem dJ2_indexOfCharUnsafe_4cfef_1 : decode mJ2_indexOfCharUnsafe_4cfef.2.1 1 = .ok (.istore 4, 2) := by decide +kernel
theorem dJ2_indexOfCharUnsafe_4cfef_3 : decode mJ2_indexOfCharUnsafe_4cfef.2.1 3 = .ok (.iload 4, 2) := by decide +kernel
theorem dJ2_indexOfCharUnsafe_4cfef_5 : decode mJ2_indexOfCharUnsafe_4cfef.2.1 5 = .ok (.iload_n 3, 1) := by decide +kernel
theorem dJ2_indexOfCharUnsafe_4cfef_6 : decode mJ2_indexOfCharUnsafe_4cfef.2.1 6 = .ok (.if_icmp .ge 22, 3) := by decide +kernel
theorem dJ2_indexOfCharUnsafe_4cfef_9 : decode mJ2_indexOfCharUnsafe_4cfef.2.1 9 = .ok (.aload_n 0, 1) := by decide +kernel
theorem dJ2_indexOfCharUnsafe_4cfef_10 : decode mJ2_indexOfCharUnsafe_4cfef.2.1 10 = .ok (.iload 4, 2) := by decide +kernel
theorem dJ2_indexOfCharUnsafe_4cfef_12 : decode mJ2_indexOfCharUnsafe_4cfef.2.1 12 = .ok (.invokestatic 71, 3) := by decide +kernel
theorem dJ2_indexOfCharUnsafe_4cfef_15 : decode mJ2_indexOfCharUnsafe_4cfef.2.1 15 = .ok (.iload_n 1, 1) := by decide +kernel
theorem dJ2_indexOfCharUnsafe_4cfef_16 : decode mJ2_indexOfCharUnsafe_4cfef.2.1 16 = .ok (.if_icmp .ne 6, 3) := by decide +kernel
theorem dJ2_indexOfCharUnsafe_4cfef_19 : decode mJ2_indexOfCharUnsafe_4cfef.2.1 19 = .ok (.iload 4, 2) := by decide +kernel
theorem dJ2_indexOfCharUnsafe_4cfef_21 : decode mJ2_indexOfCharUnsafe_4cfef.2.1 21 = .ok (.ireturn, 1) := by decide +kernel
theorem dJ2_indexOfCharUnsafe_4cfef_22 : decode mJ2_indexOfCharUnsafe_4cfef.2.1 22 = .ok (.iinc 4 1, 3) := by decide +kernel
theorem dJ2_indexOfCharUnsafe_4cfef_25 : decode mJ2_indexOfCharUnsafe_4cfef.2.1 25 = .ok (.goto (-22), 3) := by decide +kernel
theorem dJ2_indexOfCharUnsafe_4cfef_28 : decode mJ2_indexOfCharUnsafe_4cfef.2.1 28 = .ok (.iconst (-1), 1) := by decide +kernel
theorem dJ2_indexOfCharUnsafe_4cfef_29 : decode mJ2_indexOfCharUnsafe_4cfef.2.1 29 = .ok (.ireturn, 1) := by decide +kernel
theorem dJ2_indexOfSupplementary_4cfef_0 : decode mJ2_indexOfSupplementary_4cfef.2.1 0 = .ok (.iload_n 1, 1) := by decide +kernel
theorem dJ2_indexOfSupplementary_4cfef_1 : decode mJ2_indexOfSupplementary_4cfef.2.1 1 = .ok (.invokestatic 164, 3) := by decide +kernel
theorem dJ2_indexOfSupplementary_4cfef_4 : decode mJ2_indexOfSupplementary_4cfef.2.1 4 = .ok (.ifCond .eq 65, 3) := by decide +kernel
theorem dJ2_indexOfSupplementary_4cfef_7 : decode mJ2_indexOfSupplementary_4cfef.2.1 7 = .ok (.iload_n 1, 1) := by decide +kernel
theorem dJ2_indexOfSupplementary_4cfef_8 : decode mJ2_indexOfSupplementary_4cfef.2.1 8 = .ok (.invokestatic 157, 3) := by decide +kernel
theorem dJ2_indexOfSupplementary_4cfef_11 : decode mJ2_indexOfSupplementary_4cfef.2.1 11 = .ok (.istore 4, 2) := by decide +kernel
theorem dJ2_indexOfSupplementary_4cfef_13 : decode mJ2_indexOfSupplementary_4cfef.2.1 13 = .ok (.iload_n 1, 1) := by decide +kernel
theorem dJ2_indexOfSupplementary_4cfef_14 : decode mJ2_indexOfSupplementary_4cfef.2.1 14 = .ok (.invokestatic 161, 3) := by decide +kernel
theorem dJ2_indexOfSupplementary_4cfef_17 : decode mJ2_indexOfSupplementary_4cfef.2.1 17 = .ok (.istore 5, 2) := by decide +kernel
theorem dJ2_indexOfSupplementary_4cfef_19 : decode mJ2_indexOfSupplementary_4cfef.2.1 19 = .ok (.iload_n 2, 1) := by decide +kernel
theorem dJ2_indexOfSupplementary_4cfef_20 : decode mJ2_indexOfSupplementary_4cfef.2.1 20 = .ok (.iload_n 3, 1) := by decide +kernel
theorem dJ2_indexOfSupplementary_4cfef_21 : decode mJ2_indexOfSupplementary_4cfef.2.1 21 = .ok (.aload_n 0, 1) := by decide +kernel
theorem dJ2_indexOfSupplementary_4cfef_22 : decode mJ2_indexOfSupplementary_4cfef.2.1 22 = .ok (.invokestatic 96, 3) := by decide +kernel
theorem dJ2_indexOfSupplementary_4cfef_25 : decode mJ2_indexOfSupplementary_4cfef.2.1 25 = .ok (.iload_n 2, 1) := by decide +kernel
theorem dJ2_indexOfSupplementary_4cfef_26 : decode mJ2_indexOfSupplementary_4cfef.2.1 26 = .ok (.istore 6, 2) := by decide +kernel
theorem dJ2_indexOfSupplementary_4cfef_28 : decode mJ2_indexOfSupplementary_4cfef.2.1 28 = .ok (.iload 6, 2) := by decide +kernel
theorem dJ2_indexOfSupplementary_4cfef_30 : decode mJ2_indexOfSupplementary_4cfef.2.1 30 = .ok (.iload_n 3, 1) := by decide +kernel
theorem dJ2_indexOfSupplementary_4cfef_31 : decode mJ2_indexOfSupplementary_4cfef.2.1 31 = .ok (.iconst 1, 1) := by decide +kernel
theorem dJ2_indexOfSupplementary_4cfef_32 : decode mJ2_indexOfSupplementary_4cfef.2.1 32 = .ok (.isub, 1) := by decide +kernel
theorem dJ2_indexOfSupplementary_4cfef_33 : decode mJ2_indexOfSupplementary_4cfef.2.1 33 = .ok (.if_icmp .ge 36, 3) := by decide +kernel
theorem dJ2_indexOfSupplementary_4cfef_36 : decode mJ2_indexOfSupplementary_4cfef.2.1 36 = .ok (.aload_n 0, 1) := by decide +kernel
theorem dJ2_indexOfSupplementary_4cfef_37 : decode mJ2_indexOfSupplementary_4cfef.2.1 37 = .ok (.iload 6, 2) := by decide +kernel
theorem dJ2_indexOfSupplementary_4cfef_39 : decode mJ2_indexOfSupplementary_4cfef.2.1 39 = .ok (.invokestatic 71, 3) := by decide +kernel
theorem dJ2_indexOfSupplementary_4cfef_42 : decode mJ2_indexOfSupplementary_4cfef.2.1 42 = .ok (.iload 4, 2) := by decide +kernel
theorem dJ2_indexOfSupplementary_4cfef_44 : decode mJ2_indexOfSupplementary_4cfef.2.1 44 = .ok (.if_icmp .ne 19, 3) := by decide +kernel
theorem dJ2_indexOfSupplementary_4cfef_47 : decode mJ2_indexOfSupplementary_4cfef.2.1 47 = .ok (.aload_n 0, 1) := by decide +kernel
theorem dJ2_indexOfSupplementary_4cfef_48 : decode mJ2_indexOfSupplementary_4cfef.2.1 48 = .ok (.iload 6, 2) := by decide +kernel
theorem dJ2_indexOfSupplementary_4cfef_50 : decode mJ2_indexOfSupplementary_4cfef.2.1 50 = .ok (.iconst 1, 1) := by decide +kernel
theorem dJ2_indexOfSupplementary_4cfef_51 : decode mJ2_indexOfSupplementary_4cfef.2.1 51 = .ok (.iadd, 1) := by decide +kernel
theorem dJ2_indexOfSupplementary_4cfef_52 : decode mJ2_indexOfSupplementary_4cfef.2.1 52 = .ok (.invokestatic 71, 3) := by decide +kernel
theorem dJ2_indexOfSupplementary_4cfef_55 : decode mJ2_indexOfSupplementary_4cfef.2.1 55 = .ok (.iload 5, 2) := by decide +kernel
theorem dJ2_indexOfSupplementary_4cfef_57 : decode mJ2_indexOfSupplementary_4cfef.2.1 57 = .ok (.if_icmp .ne 6, 3) := by decide +kernel
theorem dJ2_indexOfSupplementary_4cfef_60 : decode mJ2_indexOfSupplementary_4cfef.2.1 60 = .ok (.iload 6, 2) := by decide +kernel
theorem dJ2_indexOfSupplementary_4cfef_62 : decode mJ2_indexOfSupplementary_4cfef.2.1 62 = .ok (.ireturn, 1) := by decide +kernel
theorem dJ2_indexOfSupplementary_4cfef_63 : decode mJ2_indexOfSupplementary_4cfef.2.1 63 = .ok (.iinc 6 1, 3) := by decide +kernel
theorem dJ2_indexOfSupplementary_4cfef_66 : decode mJ2_indexOfSupplementary_4cfef.2.1 66 = .ok (.goto (-38), 3) := by decide +kernel
theorem dJ2_indexOfSupplementary_4cfef_69 : decode mJ2_indexOfSupplementary_4cfef.2.1 69 = .ok (.iconst (-1), 1) := by decide +kernel
theorem dJ2_indexOfSupplementary_4cfef_70 : decode mJ2_indexOfSupplementary_4cfef.2.1 70 = .ok (.ireturn, 1) := by decide +kernel
theorem dJ2_charAt_3b067_0 : decode mJ2_charAt_3b067.2.1 0 = .ok (.iload_n 1, 1) := by decide +kernel
theorem dJ2_charAt_3b067_1 : decode mJ2_charAt_3b067.2.1 1 = .ok (.aload_n 0, 1) := by decide +kernel
theorem dJ2_charAt_3b067_2 : decode mJ2_charAt_3b067.2.1 2 = .ok (.invokestatic 67, 3) := by decide +kernel
theorem dJ2_charAt_3b067_5 : decode mJ2_charAt_3b067.2.1 5 = .ok (.aload_n 0, 1) := by decide +kernel
theorem dJ2_charAt_3b067_6 : decode mJ2_charAt_3b067.2.1 6 = .ok (.iload_n 1, 1) := by decide +kernel
theorem dJ2_charAt_3b067_7 : decode mJ2_charAt_3b067.2.1 7 = .ok (.invokestatic 71, 3) := by decide +kernel
theorem dJ2_charAt_3b067_10 : decode mJ2_charAt_3b067.2.1 10 = .ok (.ireturn, 1) := by decide +kernel
theorem dJ2_checkIndex_2214a_0 : decode mJ2_checkIndex_2214a.2.1 0 = .ok (.iload_n 0, 1) := by decide +kernel
theorem dJ2_checkIndex_2214a_1 : decode mJ2_checkIndex_2214a.2.1 1 = .ok (.aload_n 1, 1) := by decide +kernel
theorem dJ2_checkIndex_2214a_2 : decode mJ2_checkIndex_2214a.2.1 2 = .ok (.invokestatic 48, 3) := by decide +kernel
theorem dJ2_checkIndex_2214a_5 : decode mJ2_checkIndex_2214a.2.1 5 = .ok (.invokestatic 414, 3) := by decide +kernel
theorem dJ2_checkIndex_2214a_8 : decode mJ2_checkIndex_2214a.2.1 8 = .ok (.return_, 1) := by decide +kernel
theorem dJ2_checkBoundsBeginEnd_d044e_0 : decode mJ2_checkBoundsBeginEnd_d044e.2.1 0 = .ok (.iload_n 0, 1) := by decide +kernel
theorem dJ2_checkBoundsBeginEnd_d044e_1 : decode mJ2_checkBoundsBeginEnd_d044e.2.1 1 = .ok (.iload_n 1, 1) := by decide +kernel
theorem dJ2_checkBoundsBeginEnd_d044e_2 : decode mJ2_checkBoundsBeginEnd_d044e.2.1 2 = .ok (.aload_n 2, 1) := by decide +kernel
theorem dJ2_checkBoundsBeginEnd_d044e_3 : decode mJ2_checkBoundsBeginEnd_d044e.2.1 3 = .ok (.invokestatic 48, 3) := by decide +kernel
theorem dJ2_checkBoundsBeginEnd_d044e_6 : decode mJ2_checkBoundsBeginEnd_d044e.2.1 6 = .ok (.invokestatic 241, 3) := by decide +kernel
theorem dJ2_checkBoundsBeginEnd_d044e_9 : decode mJ2_checkBoundsBeginEnd_d044e.2.1 9 = .ok (.return_, 1) := by decide +kernel
theorem dJ7_fill_53178_0 : decode mJ7_fill_53178.2.1 0 = .ok (.iconst 0, 1) := by decide +kernel
theorem dJ7_fill_53178_1 : decode mJ7_fill_53178.2.1 1 = .ok (.istore_n 2, 1) := by decide +kernel
theorem dJ7_fill_53178_2 : decode mJ7_fill_53178.2.1 2 = .ok (.aload_n 0, 1) := by decide +kernel
theorem dJ7_fill_53178_3 : decode mJ7_fill_53178.2.1 3 = .ok (.arraylength, 1) := by decide +kernel
theorem dJ7_fill_53178_4 : decode mJ7_fill_53178.2.1 4 = .ok (.istore_n 3, 1) := by decide +kernel
theorem dJ7_fill_53178_5 : decode mJ7_fill_53178.2.1 5 = .ok (.iload_n 2, 1) := by decide +kernel
theorem dJ7_fill_53178_6 : decode mJ7_fill_53178.2.1 6 = .ok (.iload_n 3, 1) := by decide +kernel
theorem dJ7_fill_53178_7 : decode mJ7_fill_53178.2.1 7 = .ok (.if_icmp .ge 13, 3) := by decide +kernel
theorem dJ7_fill_53178_10 : decode mJ7_fill_53178.2.1 10 = .ok (.aload_n 0, 1) := by decide +kernel
theorem dJ7_fill_53178_11 : decode mJ7_fill_53178.2.1 11 = .ok (.iload_n 2, 1) := by decide +kernel
theorem dJ7_fill_53178_12 : decode mJ7_fill_53178.2.1 12 = .ok (.iload_n 1, 1) := by decide +kernel
theorem dJ7_fill_53178_13 : decode mJ7_fill_53178.2.1 13 = .ok (.iastore, 1) := by decide +kernel
theorem dJ7_fill_53178_14 : decode mJ7_fill_53178.2.1 14 = .ok (.iinc 2 1, 3) := by decide +kernel
theorem dJ7_fill_53178_17 : decode mJ7_fill_53178.2.1 17 = .ok (.goto (-12), 3) := by decide +kernel
theorem dJ7_fill_53178_20 : decode mJ7_fill_53178.2.1 20 = .ok (.return_, 1) := by decide +kernel
theorem dJ7_copyOf_59c91_0 : decode mJ7_copyOf_59c91.2.1 0 = .ok (.iload_n 1, 1) := by decide +kernel
theorem dJ7_copyOf_59c91_1 : decode mJ7_copyOf_59c91.2.1 1 = .ok (.aload_n 0, 1) := by decide +kernel
theorem dJ7_copyOf_59c91_2 : decode mJ7_copyOf_59c91.2.1 2 = .ok (.arraylength, 1) := by decide +kernel
theorem dJ7_copyOf_59c91_3 : decode mJ7_copyOf_59c91.2.1 3 = .ok (.if_icmp .ne 11, 3) := by decide +kernel
theorem dJ7_copyOf_59c91_6 : decode mJ7_copyOf_59c91.2.1 6 = .ok (.aload_n 0, 1) := by decide +kernel
theorem dJ7_copyOf_59c91_7 : decode mJ7_copyOf_59c91.2.1 7 = .ok (.invokevirtual 316, 3) := by decide +kernel
theorem dJ7_copyOf_59c91_10 : decode mJ7_copyOf_59c91.2.1 10 = .ok (.checkcast 317, 3) := by decide +kernel
theorem dJ7_copyOf_59c91_13 : decode mJ7_copyOf_59c91.2.1 13 = .ok (.areturn, 1) := by decide +kernel
theorem dJ7_copyOf_59c91_14 : decode mJ7_copyOf_59c91.2.1 14 = .ok (.iload_n 1, 1) := by decide +kernel
theorem dJ7_copyOf_59c91_15 : decode mJ7_copyOf_59c91.2.1 15 = .ok (.newarray .int, 2) := by decide +kernel
theorem dJ7_copyOf_59c91_17 : decode mJ7_copyOf_59c91.2.1 17 = .ok (.astore_n 2, 1) := by decide +kernel
theorem dJ7_copyOf_59c91_18 : decode mJ7_copyOf_59c91.2.1 18 = .ok (.aload_n 0, 1) := by decide +kernel
theorem dJ7_copyOf_59c91_19 : decode mJ7_copyOf_59c91.2.1 19 = .ok (.iconst 0, 1) := by decide +kernel
theorem dJ7_copyOf_59c91_20 : decode mJ7_copyOf_59c91.2.1 20 = .ok (.aload_n 2, 1) := by decide +kernel
theorem dJ7_copyOf_59c91_21 : decode mJ7_copyOf_59c91.2.1 21 = .ok (.iconst 0, 1) := by decide +kernel
theorem dJ7_copyOf_59c91_22 : decode mJ7_copyOf_59c91.2.1 22 = .ok (.aload_n 0, 1) := by decide +kernel
theorem dJ7_copyOf_59c91_23 : decode mJ7_copyOf_59c91.2.1 23 = .ok (.arraylength, 1) := by decide +kernel
theorem dJ7_copyOf_59c91_24 : decode mJ7_copyOf_59c91.2.1 24 = .ok (.iload_n 1, 1) := by decide +kernel
theorem dJ7_copyOf_59c91_25 : decode mJ7_copyOf_59c91.2.1 25 = .ok (.invokestatic 304, 3) := by decide +kernel
theorem dJ7_copyOf_59c91_28 : decode mJ7_copyOf_59c91.2.1 28 = .ok (.invokestatic 150, 3) := by decide +kernel
theorem dJ7_copyOf_59c91_31 : decode mJ7_copyOf_59c91.2.1 31 = .ok (.aload_n 2, 1) := by decide +kernel
theorem dJ7_copyOf_59c91_32 : decode mJ7_copyOf_59c91.2.1 32 = .ok (.areturn, 1) := by decide +kernel
theorem dJ3_checkIndex_8e157_0 : decode mJ3_checkIndex_8e157.2.1 0 = .ok (.iload_n 0, 1) := by decide +kernel
theorem dJ3_checkIndex_8e157_1 : decode mJ3_checkIndex_8e157.2.1 1 = .ok (.ifCond .lt 8, 3) := by decide +kernel
theorem dJ3_checkIndex_8e157_4 : decode mJ3_checkIndex_8e157.2.1 4 = .ok (.iload_n 0, 1) := by decide +kernel
theorem dJ3_checkIndex_8e157_5 : decode mJ3_checkIndex_8e157.2.1 5 = .ok (.iload_n 1, 1) := by decide +kernel
theorem dJ3_checkIndex_8e157_6 : decode mJ3_checkIndex_8e157.2.1 6 = .ok (.if_icmp .lt 10, 3) := by decide +kernel
theorem dJ3_checkIndex_8e157_9 : decode mJ3_checkIndex_8e157.2.1 9 = .ok (.aload_n 2, 1) := by decide +kernel
theorem dJ3_checkIndex_8e157_10 : decode mJ3_checkIndex_8e157.2.1 10 = .ok (.iload_n 0, 1) := by decide +kernel
theorem dJ3_checkIndex_8e157_11 : decode mJ3_checkIndex_8e157.2.1 11 = .ok (.iload_n 1, 1) := by decide +kernel
theorem dJ3_checkIndex_8e157_12 : decode mJ3_checkIndex_8e157.2.1 12 = .ok (.invokestatic 95, 3) := by decide +kernel
theorem dJ3_checkIndex_8e157_15 : decode mJ3_checkIndex_8e157.2.1 15 = .ok (.athrow, 1) := by decide +kernel
theorem dJ3_checkIndex_8e157_16 : decode mJ3_checkIndex_8e157.2.1 16 = .ok (.iload_n 0, 1) := by decide +kernel
theorem dJ3_checkIndex_8e157_17 : decode mJ3_checkIndex_8e157.2.1 17 = .ok (.ireturn, 1) := by decide +kernel
theorem dJ3_checkFromToIndex_8c36e_0 : decode mJ3_checkFromToIndex_8c36e.2.1 0 = .ok (.iload_n 0, 1) := by decide +kernel
theorem dJ3_checkFromToIndex_8c36e_1 : decode mJ3_checkFromToIndex_8c36e.2.1 1 = .ok (.ifCond .lt 13, 3) := by decide +kernel
theorem dJ3_checkFromToIndex_8c36e_4 : decode mJ3_checkFromToIndex_8c36e.2.1 4 = .ok (.iload_n 0, 1) := by decide +kernel
theorem dJ3_checkFromToIndex_8c36e_5 : decode mJ3_checkFromToIndex_8c36e.2.1 5 = .ok (.iload_n 1, 1) := by decide +kernel
theorem dJ3_checkFromToIndex_8c36e_6 : decode mJ3_checkFromToIndex_8c36e.2.1 6 = .ok (.if_icmp .gt 8, 3) := by decide +kernel
theorem dJ3_checkFromToIndex_8c36e_9 : decode mJ3_checkFromToIndex_8c36e.2.1 9 = .ok (.iload_n 1, 1) := by decide +kernel
theorem dJ3_checkFromToIndex_8c36e_10 : decode mJ3_checkFromToIndex_8c36e.2.1 10 = .ok (.iload_n 2, 1) := by decide +kernel
theorem dJ3_checkFromToIndex_8c36e_11 : decode mJ3_checkFromToIndex_8c36e.2.1 11 = .ok (.if_icmp .le 11, 3) := by decide +kernel
theorem dJ3_checkFromToIndex_8c36e_14 : decode mJ3_checkFromToIndex_8c36e.2.1 14 = .ok (.aload_n 3, 1) := by decide +kernel
theorem dJ3_checkFromToIndex_8c36e_15 : decode mJ3_checkFromToIndex_8c36e.2.1 15 = .ok (.iload_n 0, 1) := by decide +kernel
theorem dJ3_checkFromToIndex_8c36e_16 : decode mJ3_checkFromToIndex_8c36e.2.1 16 = .ok (.iload_n 1, 1) := by decide +kernel
theorem dJ3_checkFromToIndex_8c36e_17 : decode mJ3_checkFromToIndex_8c36e.2.1 17 = .ok (.iload_n 2, 1) := by decide +kernel
theorem dJ3_checkFromToIndex_8c36e_18 : decode mJ3_checkFromToIndex_8c36e.2.1 18 = .ok (.invokestatic 99, 3) := by decide +kernel
theorem dJ3_checkFromToIndex_8c36e_21 : decode mJ3_checkFromToIndex_8c36e.2.1 21 = .ok (.athrow, 1) := by decide +kernel
theorem dJ3_checkFromToIndex_8c36e_22 : decode mJ3_checkFromToIndex_8c36e.2.1 22 = .ok (.iload_n 0, 1) := by decide +kernel
theorem dJ3_checkFromToIndex_8c36e_23 : decode mJ3_checkFromToIndex_8c36e.2.1 23 = .ok (.ireturn, 1) := by decide +kernel
theorem dL_law_0 : decode mL_law.2.1 0 = .ok (.new 7, 3) := by decide +kernel
theorem dL_law_3 : decode mL_law.2.1 3 = .ok (.dup, 1) := by decide +kernel
theorem dL_law_4 : decode mL_law.2.1 4 = .ok (.invokespecial 9, 3) := by decide +kernel
theorem dL_law_7 : decode mL_law.2.1 7 = .ok (.astore_n 1, 1) := by decide +kernel
theorem dL_law_8 : decode mL_law.2.1 8 = .ok (.new 10, 3) := by decide +kernel
theorem dL_law_11 : decode mL_law.2.1 11 = .ok (.dup, 1) := by decide +kernel
theorem dL_law_12 : decode mL_law.2.1 12 = .ok (.invokespecial 12, 3) := by decide +kernel
theorem dL_law_15 : decode mL_law.2.1 15 = .ok (.astore_n 2, 1) := by decide +kernel
theorem dL_law_16 : decode mL_law.2.1 16 = .ok (.iconst 0, 1) := by decide +kernel
theorem dL_law_17 : decode mL_law.2.1 17 = .ok (.istore_n 3, 1) := by decide +kernel
theorem dL_law_18 : decode mL_law.2.1 18 = .ok (.iload_n 3, 1) := by decide +kernel
theorem dL_law_19 : decode mL_law.2.1 19 = .ok (.aload_n 0, 1) := by decide +kernel
theorem dL_law_20 : decode mL_law.2.1 20 = .ok (.arraylength, 1) := by decide +kernel
theorem dL_law_21 : decode mL_law.2.1 21 = .ok (.bipush 6, 2) := by decide +kernel
theorem dL_law_23 : decode mL_law.2.1 23 = .ok (.isub, 1) := by decide +kernel
theorem dL_law_24 : decode mL_law.2.1 24 = .ok (.if_icmp .gt 1408, 3) := by decide +kernel
theorem dL_law_27 : decode mL_law.2.1 27 = .ok (.aload_n 0, 1) := by decide +kernel
theorem dL_law_28 : decode mL_law.2.1 28 = .ok (.iload_n 3, 1) := by decide +kernel
theorem dL_law_29 : decode mL_law.2.1 29 = .ok (.iaload, 1) := by decide +kernel
theorem dL_law_30 : decode mL_law.2.1 30 = .ok (.bipush 63, 2) := by decide +kernel
theorem dL_law_32 : decode mL_law.2.1 32 = .ok (.iand, 1) := by decide +kernel
theorem dL_law_33 : decode mL_law.2.1 33 = .ok (.tableswitch 1393 0 40 #[179, 222, 255, 298, 321, 374, 407, 440, 473, 516, 549, 572, 595, 638, 671, 694, 707, 730, 754, 767, 790, 803, 816, 859, 882, 895, 928, 951, 994, 1037, 1060, 1093, 1156, 1199, 1232, 1265, 1298, 1321, 1344, 1357, 1370], 179) := by decide +kernel
theorem dL_law_212 : decode mL_law.2.1 212 = .ok (.aload_n 1, 1) := by decide +kernel
theorem dL_law_213 : decode mL_law.2.1 213 = .ok (.aload_n 0, 1) := by decide +kernel
theorem dL_law_214 : decode mL_law.2.1 214 = .ok (.iload_n 3, 1) := by decide +kernel
theorem dL_law_215 : decode mL_law.2.1 215 = .ok (.iconst 1, 1) := by decide +kernel
theorem dL_law_216 : decode mL_law.2.1 216 = .ok (.iadd, 1) := by decide +kernel
theorem dL_law_217 : decode mL_law.2.1 217 = .ok (.iaload, 1) := by decide +kernel
theorem dL_law_218 : decode mL_law.2.1 218 = .ok (.aload_n 0, 1) := by decide +kernel
theorem dL_law_219 : decode mL_law.2.1 219 = .ok (.iload_n 3, 1) := by decide +kernel
theorem dL_law_220 : decode mL_law.2.1 220 = .ok (.iconst 2, 1) := by decide +kernel
theorem dL_law_221 : decode mL_law.2.1 221 = .ok (.iadd, 1) := by decide +kernel
theorem dL_law_222 : decode mL_law.2.1 222 = .ok (.iaload, 1) := by decide +kernel
theorem dL_law_223 : decode mL_law.2.1 223 = .ok (.aload_n 0, 1) := by decide +kernel
theorem dL_law_224 : decode mL_law.2.1 224 = .ok (.iload_n 3, 1) := by decide +kernel
theorem dL_law_225 : decode mL_law.2.1 225 = .ok (.iconst 3, 1) := by decide +kernel
theorem dL_law_226 : decode mL_law.2.1 226 = .ok (.iadd, 1) := by decide +kernel
theorem dL_law_227 : decode mL_law.2.1 227 = .ok (.iaload, 1) := by decide +kernel
theorem dL_law_228 : decode mL_law.2.1 228 = .ok (.invokevirtual 13, 3) := by decide +kernel
theorem dL_law_231 : decode mL_law.2.1 231 = .ok (.aload_n 2, 1) := by decide +kernel
theorem dL_law_232 : decode mL_law.2.1 232 = .ok (.aload_n 0, 1) := by decide +kernel
theorem dL_law_233 : decode mL_law.2.1 233 = .ok (.iload_n 3, 1) := by decide +kernel
theorem dL_law_234 : decode mL_law.2.1 234 = .ok (.iconst 1, 1) := by decide +kernel
theorem dL_law_235 : decode mL_law.2.1 235 = .ok (.iadd, 1) := by decide +kernel
theorem dL_law_236 : decode mL_law.2.1 236 = .ok (.iaload, 1) := by decide +kernel
theorem dL_law_237 : decode mL_law.2.1 237 = .ok (.aload_n 0, 1) := by decide +kernel
theorem dL_law_238 : decode mL_law.2.1 238 = .ok (.iload_n 3, 1) := by decide +kernel
theorem dL_law_239 : decode mL_law.2.1 239 = .ok (.iconst 2, 1) := by decide +kernel
theorem dL_law_240 : decode mL_law.2.1 240 = .ok (.iadd, 1) := by decide +kernel
theorem dL_law_241 : decode mL_law.2.1 241 = .ok (.iaload, 1) := by decide +kernel
theorem dL_law_242 : decode mL_law.2.1 242 = .ok (.aload_n 0, 1) := by decide +kernel
theorem dL_law_243 : decode mL_law.2.1 243 = .ok (.iload_n 3, 1) := by decide +kernel
theorem dL_law_244 : decode mL_law.2.1 244 = .ok (.iconst 3, 1) := by decide +kernel
theorem dL_law_245 : decode mL_law.2.1 245 = .ok (.iadd, 1) := by decide +kernel
theorem dL_law_246 : decode mL_law.2.1 246 = .ok (.iaload, 1) := by decide +kernel
theorem dL_law_247 : decode mL_law.2.1 247 = .ok (.invokevirtual 17, 3) := by decide +kernel
theorem dL_law_250 : decode mL_law.2.1 250 = .ok (.if_icmp .eq 1176, 3) := by decide +kernel
theorem dL_law_253 : decode mL_law.2.1 253 = .ok (.iconst 0, 1) := by decide +kernel
theorem dL_law_254 : decode mL_law.2.1 254 = .ok (.ireturn, 1) := by decide +kernel
theorem dL_law_255 : decode mL_law.2.1 255 = .ok (.aload_n 1, 1) := by decide +kernel
theorem dL_law_256 : decode mL_law.2.1 256 = .ok (.aload_n 0, 1) := by decide +kernel
theorem dL_law_257 : decode mL_law.2.1 257 = .ok (.iload_n 3, 1) := by decide +kernel
theorem dL_law_258 : decode mL_law.2.1 258 = .ok (.iconst 1, 1) := by decide +kernel
theorem dL_law_259 : decode mL_law.2.1 259 = .ok (.iadd, 1) := by decide +kernel
theorem dL_law_260 : decode mL_law.2.1 260 = .ok (.iaload, 1) := by decide +kernel
theorem dL_law_261 : decode mL_law.2.1 261 = .ok (.aload_n 0, 1) := by decide +kernel
theorem dL_law_262 : decode mL_law.2.1 262 = .ok (.iload_n 3, 1) := by decide +kernel
theorem dL_law_263 : decode mL_law.2.1 263 = .ok (.iconst 2, 1) := by decide +kernel
theorem dL_law_264 : decode mL_law.2.1 264 = .ok (.iadd, 1) := by decide +kernel
theorem dL_law_265 : decode mL_law.2.1 265 = .ok (.iaload, 1) := by decide +kernel
theorem dL_law_266 : decode mL_law.2.1 266 = .ok (.invokevirtual 18, 3) := by decide +kernel
theorem dL_law_269 : decode mL_law.2.1 269 = .ok (.aload_n 2, 1) := by decide +kernel
theorem dL_law_270 : decode mL_law.2.1 270 = .ok (.aload_n 0, 1) := by decide +kernel
theorem dL_law_271 : decode mL_law.2.1 271 = .ok (.iload_n 3, 1) := by decide +kernel
theorem dL_law_272 : decode mL_law.2.1 272 = .ok (.iconst 1, 1) := by decide +kernel
theorem dL_law_273 : decode mL_law.2.1 273 = .ok (.iadd, 1) := by decide +kernel
theorem dL_law_274 : decode mL_law.2.1 274 = .ok (.iaload, 1) := by decide +kernel
theorem dL_law_275 : decode mL_law.2.1 275 = .ok (.aload_n 0, 1) := by decide +kernel
theorem dL_law_276 : decode mL_law.2.1 276 = .ok (.iload_n 3, 1) := by decide +kernel
theorem dL_law_277 : decode mL_law.2.1 277 = .ok (.iconst 2, 1) := by decide +kernel
theorem dL_law_278 : decode mL_law.2.1 278 = .ok (.iadd, 1) := by decide +kernel
theorem dL_law_279 : decode mL_law.2.1 279 = .ok (.iaload, 1) := by decide +kernel
theorem dL_law_280 : decode mL_law.2.1 280 = .ok (.invokevirtual 22, 3) := by decide +kernel
theorem dL_law_283 : decode mL_law.2.1 283 = .ok (.if_icmp .eq 1143, 3) := by decide +kernel
theorem dL_law_286 : decode mL_law.2.1 286 = .ok (.iconst 0, 1) := by decide +kernel
theorem dL_law_287 : decode mL_law.2.1 287 = .ok (.ireturn, 1) := by decide +kernel
theorem dL_law_288 : decode mL_law.2.1 288 = .ok (.aload_n 1, 1) := by decide +kernel
theorem dL_law_289 : decode mL_law.2.1 289 = .ok (.aload_n 0, 1) := by decide +kernel
theorem dL_law_290 : decode mL_law.2.1 290 = .ok (.iload_n 3, 1) := by decide +kernel
theorem dL_law_291 : decode mL_law.2.1 291 = .ok (.iconst 1, 1) := by decide +kernel
theorem dL_law_292 : decode mL_law.2.1 292 = .ok (.iadd, 1) := by decide +kernel
theorem dL_law_293 : decode mL_law.2.1 293 = .ok (.iaload, 1) := by decide +kernel
theorem dL_law_294 : decode mL_law.2.1 294 = .ok (.aload_n 0, 1) := by decide +kernel
theorem dL_law_295 : decode mL_law.2.1 295 = .ok (.iload_n 3, 1) := by decide +kernel
theorem dL_law_296 : decode mL_law.2.1 296 = .ok (.iconst 2, 1) := by decide +kernel
theorem dL_law_297 : decode mL_law.2.1 297 = .ok (.iadd, 1) := by decide +kernel
theorem dL_law_298 : decode mL_law.2.1 298 = .ok (.iaload, 1) := by decide +kernel
theorem dL_law_299 : decode mL_law.2.1 299 = .ok (.aload_n 0, 1) := by decide +kernel
theorem dL_law_300 : decode mL_law.2.1 300 = .ok (.iload_n 3, 1) := by decide +kernel
theorem dL_law_301 : decode mL_law.2.1 301 = .ok (.iconst 3, 1) := by decide +kernel
theorem dL_law_302 : decode mL_law.2.1 302 = .ok (.iadd, 1) := by decide +kernel
theorem dL_law_303 : decode mL_law.2.1 303 = .ok (.iaload, 1) := by decide +kernel
theorem dL_law_304 : decode mL_law.2.1 304 = .ok (.invokevirtual 23, 3) := by decide +kernel
theorem dL_law_307 : decode mL_law.2.1 307 = .ok (.aload_n 2, 1) := by decide +kernel
theorem dL_law_308 : decode mL_law.2.1 308 = .ok (.aload_n 0, 1) := by decide +kernel
theorem dL_law_309 : decode mL_law.2.1 309 = .ok (.iload_n 3, 1) := by decide +kernel
theorem dL_law_310 : decode mL_law.2.1 310 = .ok (.iconst 1, 1) := by decide +kernel
theorem dL_law_311 : decode mL_law.2.1 311 = .ok (.iadd, 1) := by decide +kernel
theorem dL_law_312 : decode mL_law.2.1 312 = .ok (.iaload, 1) := by decide +kernel
theorem dL_law_313 : decode mL_law.2.1 313 = .ok (.aload_n 0, 1) := by decide +kernel
theorem dL_law_314 : decode mL_law.2.1 314 = .ok (.iload_n 3, 1) := by decide +kernel
theorem dL_law_315 : decode mL_law.2.1 315 = .ok (.iconst 2, 1) := by decide +kernel
theorem dL_law_316 : decode mL_law.2.1 316 = .ok (.iadd, 1) := by decide +kernel
theorem dL_law_317 : decode mL_law.2.1 317 = .ok (.iaload, 1) := by decide +kernel
theorem dL_law_318 : decode mL_law.2.1 318 = .ok (.aload_n 0, 1) := by decide +kernel
theorem dL_law_319 : decode mL_law.2.1 319 = .ok (.iload_n 3, 1) := by decide +kernel
theorem dL_law_320 : decode mL_law.2.1 320 = .ok (.iconst 3, 1) := by decide +kernel
theorem dL_law_321 : decode mL_law.2.1 321 = .ok (.iadd, 1) := by decide +kernel
theorem dL_law_322 : decode mL_law.2.1 322 = .ok (.iaload, 1) := by decide +kernel
theorem dL_law_323 : decode mL_law.2.1 323 = .ok (.invokevirtual 26, 3) := by decide +kernel
theorem dL_law_326 : decode mL_law.2.1 326 = .ok (.if_icmp .eq 1100, 3) := by decide +kernel
theorem dL_law_329 : decode mL_law.2.1 329 = .ok (.iconst 0, 1) := by decide +kernel
theorem dL_law_330 : decode mL_law.2.1 330 = .ok (.ireturn, 1) := by decide +kernel
theorem dL_law_331 : decode mL_law.2.1 331 = .ok (.aload_n 1, 1) := by decide +kernel
theorem dL_law_332 : decode mL_law.2.1 332 = .ok (.aload_n 0, 1) := by decide +kernel
theorem dL_law_333 : decode mL_law.2.1 333 = .ok (.iload_n 3, 1) := by decide +kernel
theorem dL_law_334 : decode mL_law.2.1 334 = .ok (.iconst 1, 1) := by decide +kernel
theorem dL_law_335 : decode mL_law.2.1 335 = .ok (.iadd, 1) := by decide +kernel
theorem dL_law_336 : decode mL_law.2.1 336 = .ok (.iaload, 1) := by decide +kernel
theorem dL_law_337 : decode mL_law.2.1 337 = .ok (.invokevirtual 27, 3) := by decide +kernel
theorem dL_law_340 : decode mL_law.2.1 340 = .ok (.aload_n 2, 1) := by decide +kernel
theorem dL_law_341 : decode mL_law.2.1 341 = .ok (.aload_n 0, 1) := by decide +kernel
theorem dL_law_342 : decode mL_law.2.1 342 = .ok (.iload_n 3, 1) := by decide +kernel
theorem dL_law_343 : decode mL_law.2.1 343 = .ok (.iconst 1, 1) := by decide +kernel
theorem dL_law_344 : decode mL_law.2.1 344 = .ok (.iadd, 1) := by decide +kernel
theorem dL_law_345 : decode mL_law.2.1 345 = .ok (.iaload, 1) := by decide +kernel
theorem dL_law_346 : decode mL_law.2.1 346 = .ok (.invokevirtual 31, 3) := by decide +kernel
theorem dL_law_349 : decode mL_law.2.1 349 = .ok (.if_icmp .eq 1077, 3) := by decide +kernel
theorem dL_law_352 : decode mL_law.2.1 352 = .ok (.iconst 0, 1) := by decide +kernel
theorem dL_law_353 : decode mL_law.2.1 353 = .ok (.ireturn, 1) := by decide +kernel
theorem dL_law_354 : decode mL_law.2.1 354 = .ok (.aload_n 1, 1) := by decide +kernel
theorem dL_law_355 : decode mL_law.2.1 355 = .ok (.aload_n 0, 1) := by decide +kernel
theorem dL_law_356 : decode mL_law.2.1 356 = .ok (.iload_n 3, 1) := by decide +kernel
theorem dL_law_357 : decode mL_law.2.1 357 = .ok (.iconst 1, 1) := by decide +kernel
theorem dL_law_358 : decode mL_law.2.1 358 = .ok (.iadd, 1) := by decide +kernel
theorem dL_law_359 : decode mL_law.2.1 359 = .ok (.iaload, 1) := by decide +kernel
theorem dL_law_360 : decode mL_law.2.1 360 = .ok (.aload_n 0, 1) := by decide +kernel
theorem dL_law_361 : decode mL_law.2.1 361 = .ok (.iload_n 3, 1) := by decide +kernel
theorem dL_law_362 : decode mL_law.2.1 362 = .ok (.iconst 2, 1) := by decide +kernel
theorem dL_law_363 : decode mL_law.2.1 363 = .ok (.iadd, 1) := by decide +kernel
theorem dL_law_364 : decode mL_law.2.1 364 = .ok (.iaload, 1) := by decide +kernel
theorem dL_law_365 : decode mL_law.2.1 365 = .ok (.aload_n 0, 1) := by decide +kernel
theorem dL_law_366 : decode mL_law.2.1 366 = .ok (.iload_n 3, 1) := by decide +kernel
theorem dL_law_367 : decode mL_law.2.1 367 = .ok (.iconst 3, 1) := by decide +kernel
theorem dL_law_368 : decode mL_law.2.1 368 = .ok (.iadd, 1) := by decide +kernel
theorem dL_law_369 : decode mL_law.2.1 369 = .ok (.iaload, 1) := by decide +kernel
theorem dL_law_370 : decode mL_law.2.1 370 = .ok (.aload_n 0, 1) := by decide +kernel
theorem dL_law_371 : decode mL_law.2.1 371 = .ok (.iload_n 3, 1) := by decide +kernel
theorem dL_law_372 : decode mL_law.2.1 372 = .ok (.iconst 4, 1) := by decide +kernel
theorem dL_law_373 : decode mL_law.2.1 373 = .ok (.iadd, 1) := by decide +kernel
theorem dL_law_374 : decode mL_law.2.1 374 = .ok (.iaload, 1) := by decide +kernel
theorem dL_law_375 : decode mL_law.2.1 375 = .ok (.invokevirtual 32, 3) := by decide +kernel
theorem dL_law_378 : decode mL_law.2.1 378 = .ok (.aload_n 2, 1) := by decide +kernel
theorem dL_law_379 : decode mL_law.2.1 379 = .ok (.aload_n 0, 1) := by decide +kernel
theorem dL_law_380 : decode mL_law.2.1 380 = .ok (.iload_n 3, 1) := by decide +kernel
theorem dL_law_381 : decode mL_law.2.1 381 = .ok (.iconst 1, 1) := by decide +kernel
theorem dL_law_382 : decode mL_law.2.1 382 = .ok (.iadd, 1) := by decide +kernel
theorem dL_law_383 : decode mL_law.2.1 383 = .ok (.iaload, 1) := by decide +kernel
theorem dL_law_384 : decode mL_law.2.1 384 = .ok (.aload_n 0, 1) := by decide +kernel
theorem dL_law_385 : decode mL_law.2.1 385 = .ok (.iload_n 3, 1) := by decide +kernel
theorem dL_law_386 : decode mL_law.2.1 386 = .ok (.iconst 2, 1) := by decide +kernel
theorem dL_law_387 : decode mL_law.2.1 387 = .ok (.iadd, 1) := by decide +kernel
theorem dL_law_388 : decode mL_law.2.1 388 = .ok (.iaload, 1) := by decide +kernel
theorem dL_law_389 : decode mL_law.2.1 389 = .ok (.aload_n 0, 1) := by decide +kernel
theorem dL_law_390 : decode mL_law.2.1 390 = .ok (.iload_n 3, 1) := by decide +kernel
theorem dL_law_391 : decode mL_law.2.1 391 = .ok (.iconst 3, 1) := by decide +kernel
theorem dL_law_392 : decode mL_law.2.1 392 = .ok (.iadd, 1) := by decide +kernel
theorem dL_law_393 : decode mL_law.2.1 393 = .ok (.iaload, 1) := by decide +kernel
theorem dL_law_394 : decode mL_law.2.1 394 = .ok (.aload_n 0, 1) := by decide +kernel
theorem dL_law_395 : decode mL_law.2.1 395 = .ok (.iload_n 3, 1) := by decide +kernel
theorem dL_law_396 : decode mL_law.2.1 396 = .ok (.iconst 4, 1) := by decide +kernel
theorem dL_law_397 : decode mL_law.2.1 397 = .ok (.iadd, 1) := by decide +kernel
theorem dL_law_398 : decode mL_law.2.1 398 = .ok (.iaload, 1) := by decide +kernel
theorem dL_law_399 : decode mL_law.2.1 399 = .ok (.invokevirtual 36, 3) := by decide +kernel
theorem dL_law_402 : decode mL_law.2.1 402 = .ok (.if_icmp .eq 1024, 3) := by decide +kernel
theorem dL_law_405 : decode mL_law.2.1 405 = .ok (.iconst 0, 1) := by decide +kernel
theorem dL_law_406 : decode mL_law.2.1 406 = .ok (.ireturn, 1) := by decide +kernel
theorem dL_law_407 : decode mL_law.2.1 407 = .ok (.aload_n 1, 1) := by decide +kernel
theorem dL_law_408 : decode mL_law.2.1 408 = .ok (.aload_n 0, 1) := by decide +kernel
theorem dL_law_409 : decode mL_law.2.1 409 = .ok (.iload_n 3, 1) := by decide +kernel
theorem dL_law_410 : decode mL_law.2.1 410 = .ok (.iconst 1, 1) := by decide +kernel
theorem dL_law_411 : decode mL_law.2.1 411 = .ok (.iadd, 1) := by decide +kernel
theorem dL_law_412 : decode mL_law.2.1 412 = .ok (.iaload, 1) := by decide +kernel
theorem dL_law_413 : decode mL_law.2.1 413 = .ok (.aload_n 0, 1) := by decide +kernel
theorem dL_law_414 : decode mL_law.2.1 414 = .ok (.iload_n 3, 1) := by decide +kernel
theorem dL_law_415 : decode mL_law.2.1 415 = .ok (.iconst 2, 1) := by decide +kernel
theorem dL_law_416 : decode mL_law.2.1 416 = .ok (.iadd, 1) := by decide +kernel
theorem dL_law_417 : decode mL_law.2.1 417 = .ok (.iaload, 1) := by decide +kernel
theorem dL_law_418 : decode mL_law.2.1 418 = .ok (.invokevirtual 37, 3) := by decide +kernel
theorem dL_law_421 : decode mL_law.2.1 421 = .ok (.aload_n 2, 1) := by decide +kernel
theorem dL_law_422 : decode mL_law.2.1 422 = .ok (.aload_n 0, 1) := by decide +kernel
theorem dL_law_423 : decode mL_law.2.1 423 = .ok (.iload_n 3, 1) := by decide +kernel
theorem dL_law_424 : decode mL_law.2.1 424 = .ok (.iconst 1, 1) := by decide +kernel
theorem dL_law_425 : decode mL_law.2.1 425 = .ok (.iadd, 1) := by decide +kernel
theorem dL_law_426 : decode mL_law.2.1 426 = .ok (.iaload, 1) := by decide +kernel
theorem dL_law_427 : decode mL_law.2.1 427 = .ok (.aload_n 0, 1) := by decide +kernel
theorem dL_law_428 : decode mL_law.2.1 428 = .ok (.iload_n 3, 1) := by decide +kernel
theorem dL_law_429 : decode mL_law.2.1 429 = .ok (.iconst 2, 1) := by decide +kernel
theorem dL_law_430 : decode mL_law.2.1 430 = .ok (.iadd, 1) := by decide +kernel
theorem dL_law_431 : decode mL_law.2.1 431 = .ok (.iaload, 1) := by decide +kernel
theorem dL_law_432 : decode mL_law.2.1 432 = .ok (.invokevirtual 40, 3) := by decide +kernel
theorem dL_law_435 : decode mL_law.2.1 435 = .ok (.if_icmp .eq 991, 3) := by decide +kernel
theorem dL_law_438 : decode mL_law.2.1 438 = .ok (.iconst 0, 1) := by decide +kernel
theorem dL_law_439 : decode mL_law.2.1 439 = .ok (.ireturn, 1) := by decide +kernel
theorem dL_law_440 : decode mL_law.2.1 440 = .ok (.aload_n 1, 1) := by decide +kernel
theorem dL_law_441 : decode mL_law.2.1 441 = .ok (.aload_n 0, 1) := by decide +kernel
theorem dL_law_442 : decode mL_law.2.1 442 = .ok (.iload_n 3, 1) := by decide +kernel
theorem dL_law_443 : decode mL_law.2.1 443 = .ok (.iconst 1, 1) := by decide +kernel
theorem dL_law_444 : decode mL_law.2.1 444 = .ok (.iadd, 1) := by decide +kernel
theorem dL_law_445 : decode mL_law.2.1 445 = .ok (.iaload, 1) := by decide +kernel
theorem dL_law_446 : decode mL_law.2.1 446 = .ok (.aload_n 0, 1) := by decide +kernel
theorem dL_law_447 : decode mL_law.2.1 447 = .ok (.iload_n 3, 1) := by decide +kernel
theorem dL_law_448 : decode mL_law.2.1 448 = .ok (.iconst 2, 1) := by decide +kernel
theorem dL_law_449 : decode mL_law.2.1 449 = .ok (.iadd, 1) := by decide +kernel
theorem dL_law_450 : decode mL_law.2.1 450 = .ok (.iaload, 1) := by decide +kernel
theorem dL_law_451 : decode mL_law.2.1 451 = .ok (.invokevirtual 41, 3) := by decide +kernel
theorem dL_law_454 : decode mL_law.2.1 454 = .ok (.aload_n 2, 1) := by decide +kernel
theorem dL_law_455 : decode mL_law.2.1 455 = .ok (.aload_n 0, 1) := by decide +kernel
theorem dL_law_456 : decode mL_law.2.1 456 = .ok (.iload_n 3, 1) := by decide +kernel
theorem dL_law_457 : decode mL_law.2.1 457 = .ok (.iconst 1, 1) := by decide +kernel
theorem dL_law_458 : decode mL_law.2.1 458 = .ok (.iadd, 1) := by decide +kernel
theorem dL_law_459 : decode mL_law.2.1 459 = .ok (.iaload, 1) := by decide +kernel
theorem dL_law_460 : decode mL_law.2.1 460 = .ok (.aload_n 0, 1) := by decide +kernel
theorem dL_law_461 : decode mL_law.2.1 461 = .ok (.iload_n 3, 1) := by decide +kernel
theorem dL_law_462 : decode mL_law.2.1 462 = .ok (.iconst 2, 1) := by decide +kernel
theorem dL_law_463 : decode mL_law.2.1 463 = .ok (.iadd, 1) := by decide +kernel
theorem dL_law_464 : decode mL_law.2.1 464 = .ok (.iaload, 1) := by decide +kernel
theorem dL_law_465 : decode mL_law.2.1 465 = .ok (.invokevirtual 44, 3) := by decide +kernel
theorem dL_law_468 : decode mL_law.2.1 468 = .ok (.if_icmp .eq 958, 3) := by decide +kernel
theorem dL_law_471 : decode mL_law.2.1 471 = .ok (.iconst 0, 1) := by decide +kernel
theorem dL_law_472 : decode mL_law.2.1 472 = .ok (.ireturn, 1) := by decide +kernel
theorem dL_law_473 : decode mL_law.2.1 473 = .ok (.aload_n 1, 1) := by decide +kernel
theorem dL_law_474 : decode mL_law.2.1 474 = .ok (.aload_n 0, 1) := by decide +kernel
theorem dL_law_475 : decode mL_law.2.1 475 = .ok (.iload_n 3, 1) := by decide +kernel
theorem dL_law_476 : decode mL_law.2.1 476 = .ok (.iconst 1, 1) := by decide +kernel
theorem dL_law_477 : decode mL_law.2.1 477 = .ok (.iadd, 1) := by decide +kernel
theorem dL_law_478 : decode mL_law.2.1 478 = .ok (.iaload, 1) := by decide +kernel
theorem dL_law_479 : decode mL_law.2.1 479 = .ok (.aload_n 0, 1) := by decide +kernel
theorem dL_law_480 : decode mL_law.2.1 480 = .ok (.iload_n 3, 1) := by decide +kernel
theorem dL_law_481 : decode mL_law.2.1 481 = .ok (.iconst 2, 1) := by decide +kernel
theorem dL_law_482 : decode mL_law.2.1 482 = .ok (.iadd, 1) := by decide +kernel
theorem dL_law_483 : decode mL_law.2.1 483 = .ok (.iaload, 1) := by decide +kernel
theorem dL_law_484 : decode mL_law.2.1 484 = .ok (.invokevirtual 45, 3) := by decide +kernel
theorem dL_law_487 : decode mL_law.2.1 487 = .ok (.aload_n 2, 1) := by decide +kernel
theorem dL_law_488 : decode mL_law.2.1 488 = .ok (.aload_n 0, 1) := by decide +kernel
theorem dL_law_489 : decode mL_law.2.1 489 = .ok (.iload_n 3, 1) := by decide +kernel
theorem dL_law_490 : decode mL_law.2.1 490 = .ok (.iconst 1, 1) := by decide +kernel
theorem dL_law_491 : decode mL_law.2.1 491 = .ok (.iadd, 1) := by decide +kernel
theorem dL_law_492 : decode mL_law.2.1 492 = .ok (.iaload, 1) := by decide +kernel
theorem dL_law_493 : decode mL_law.2.1 493 = .ok (.aload_n 0, 1) := by decide +kernel
theorem dL_law_494 : decode mL_law.2.1 494 = .ok (.iload_n 3, 1) := by decide +kernel
theorem dL_law_495 : decode mL_law.2.1 495 = .ok (.iconst 2, 1) := by decide +kernel
theorem dL_law_496 : decode mL_law.2.1 496 = .ok (.iadd, 1) := by decide +kernel
theorem dL_law_497 : decode mL_law.2.1 497 = .ok (.iaload, 1) := by decide +kernel
theorem dL_law_498 : decode mL_law.2.1 498 = .ok (.invokevirtual 48, 3) := by decide +kernel
theorem dL_law_501 : decode mL_law.2.1 501 = .ok (.if_icmp .eq 925, 3) := by decide +kernel
theorem dL_law_504 : decode mL_law.2.1 504 = .ok (.iconst 0, 1) := by decide +kernel
theorem dL_law_505 : decode mL_law.2.1 505 = .ok (.ireturn, 1) := by decide +kernel
theorem dL_law_506 : decode mL_law.2.1 506 = .ok (.aload_n 1, 1) := by decide +kernel
theorem dL_law_507 : decode mL_law.2.1 507 = .ok (.aload_n 0, 1) := by decide +kernel
theorem dL_law_508 : decode mL_law.2.1 508 = .ok (.iload_n 3, 1) := by decide +kernel
theorem dL_law_509 : decode mL_law.2.1 509 = .ok (.iconst 1, 1) := by decide +kernel
theorem dL_law_510 : decode mL_law.2.1 510 = .ok (.iadd, 1) := by decide +kernel
theorem dL_law_511 : decode mL_law.2.1 511 = .ok (.iaload, 1) := by decide +kernel
theorem dL_law_512 : decode mL_law.2.1 512 = .ok (.aload_n 0, 1) := by decide +kernel
theorem dL_law_513 : decode mL_law.2.1 513 = .ok (.iload_n 3, 1) := by decide +kernel
theorem dL_law_514 : decode mL_law.2.1 514 = .ok (.iconst 2, 1) := by decide +kernel
theorem dL_law_515 : decode mL_law.2.1 515 = .ok (.iadd, 1) := by decide +kernel
theorem dL_law_516 : decode mL_law.2.1 516 = .ok (.iaload, 1) := by decide +kernel
theorem dL_law_517 : decode mL_law.2.1 517 = .ok (.aload_n 0, 1) := by decide +kernel
theorem dL_law_518 : decode mL_law.2.1 518 = .ok (.iload_n 3, 1) := by decide +kernel
theorem dL_law_519 : decode mL_law.2.1 519 = .ok (.iconst 3, 1) := by decide +kernel
theorem dL_law_520 : decode mL_law.2.1 520 = .ok (.iadd, 1) := by decide +kernel
theorem dL_law_521 : decode mL_law.2.1 521 = .ok (.iaload, 1) := by decide +kernel
theorem dL_law_522 : decode mL_law.2.1 522 = .ok (.invokevirtual 49, 3) := by decide +kernel
theorem dL_law_525 : decode mL_law.2.1 525 = .ok (.aload_n 2, 1) := by decide +kernel
theorem dL_law_526 : decode mL_law.2.1 526 = .ok (.aload_n 0, 1) := by decide +kernel
theorem dL_law_527 : decode mL_law.2.1 527 = .ok (.iload_n 3, 1) := by decide +kernel
theorem dL_law_528 : decode mL_law.2.1 528 = .ok (.iconst 1, 1) := by decide +kernel
theorem dL_law_529 : decode mL_law.2.1 529 = .ok (.iadd, 1) := by decide +kernel
theorem dL_law_530 : decode mL_law.2.1 530 = .ok (.iaload, 1) := by decide +kernel
theorem dL_law_531 : decode mL_law.2.1 531 = .ok (.aload_n 0, 1) := by decide +kernel
theorem dL_law_532 : decode mL_law.2.1 532 = .ok (.iload_n 3, 1) := by decide +kernel
theorem dL_law_533 : decode mL_law.2.1 533 = .ok (.iconst 2, 1) := by decide +kernel
theorem dL_law_534 : decode mL_law.2.1 534 = .ok (.iadd, 1) := by decide +kernel
theorem dL_law_535 : decode mL_law.2.1 535 = .ok (.iaload, 1) := by decide +kernel
theorem dL_law_536 : decode mL_law.2.1 536 = .ok (.aload_n 0, 1) := by decide +kernel
theorem dL_law_537 : decode mL_law.2.1 537 = .ok (.iload_n 3, 1) := by decide +kernel
theorem dL_law_538 : decode mL_law.2.1 538 = .ok (.iconst 3, 1) := by decide +kernel
theorem dL_law_539 : decode mL_law.2.1 539 = .ok (.iadd, 1) := by decide +kernel
theorem dL_law_540 : decode mL_law.2.1 540 = .ok (.iaload, 1) := by decide +kernel
theorem dL_law_541 : decode mL_law.2.1 541 = .ok (.invokevirtual 52, 3) := by decide +kernel
theorem dL_law_544 : decode mL_law.2.1 544 = .ok (.if_icmp .eq 882, 3) := by decide +kernel
theorem dL_law_547 : decode mL_law.2.1 547 = .ok (.iconst 0, 1) := by decide +kernel
theorem dL_law_548 : decode mL_law.2.1 548 = .ok (.ireturn, 1) := by decide +kernel
theorem dL_law_549 : decode mL_law.2.1 549 = .ok (.aload_n 1, 1) := by decide +kernel
theorem dL_law_550 : decode mL_law.2.1 550 = .ok (.aload_n 0, 1) := by decide +kernel
theorem dL_law_551 : decode mL_law.2.1 551 = .ok (.iload_n 3, 1) := by decide +kernel
theorem dL_law_552 : decode mL_law.2.1 552 = .ok (.iconst 1, 1) := by decide +kernel
theorem dL_law_553 : decode mL_law.2.1 553 = .ok (.iadd, 1) := by decide +kernel
theorem dL_law_554 : decode mL_law.2.1 554 = .ok (.iaload, 1) := by decide +kernel
theorem dL_law_555 : decode mL_law.2.1 555 = .ok (.aload_n 0, 1) := by decide +kernel
theorem dL_law_556 : decode mL_law.2.1 556 = .ok (.iload_n 3, 1) := by decide +kernel
theorem dL_law_557 : decode mL_law.2.1 557 = .ok (.iconst 2, 1) := by decide +kernel
theorem dL_law_558 : decode mL_law.2.1 558 = .ok (.iadd, 1) := by decide +kernel
theorem dL_law_559 : decode mL_law.2.1 559 = .ok (.iaload, 1) := by decide +kernel
theorem dL_law_560 : decode mL_law.2.1 560 = .ok (.invokevirtual 53, 3) := by decide +kernel
theorem dL_law_563 : decode mL_law.2.1 563 = .ok (.aload_n 2, 1) := by decide +kernel
theorem dL_law_564 : decode mL_law.2.1 564 = .ok (.aload_n 0, 1) := by decide +kernel
theorem dL_law_565 : decode mL_law.2.1 565 = .ok (.iload_n 3, 1) := by decide +kernel
theorem dL_law_566 : decode mL_law.2.1 566 = .ok (.iconst 1, 1) := by decide +kernel
theorem dL_law_567 : decode mL_law.2.1 567 = .ok (.iadd, 1) := by decide +kernel
theorem dL_law_568 : decode mL_law.2.1 568 = .ok (.iaload, 1) := by decide +kernel
theorem dL_law_569 : decode mL_law.2.1 569 = .ok (.aload_n 0, 1) := by decide +kernel
theorem dL_law_570 : decode mL_law.2.1 570 = .ok (.iload_n 3, 1) := by decide +kernel
theorem dL_law_571 : decode mL_law.2.1 571 = .ok (.iconst 2, 1) := by decide +kernel
theorem dL_law_572 : decode mL_law.2.1 572 = .ok (.iadd, 1) := by decide +kernel
theorem dL_law_573 : decode mL_law.2.1 573 = .ok (.iaload, 1) := by decide +kernel
theorem dL_law_574 : decode mL_law.2.1 574 = .ok (.invokevirtual 56, 3) := by decide +kernel
theorem dL_law_577 : decode mL_law.2.1 577 = .ok (.if_icmp .eq 849, 3) := by decide +kernel
theorem dL_law_580 : decode mL_law.2.1 580 = .ok (.iconst 0, 1) := by decide +kernel
theorem dL_law_581 : decode mL_law.2.1 581 = .ok (.ireturn, 1) := by decide +kernel
theorem dL_law_582 : decode mL_law.2.1 582 = .ok (.aload_n 1, 1) := by decide +kernel
theorem dL_law_583 : decode mL_law.2.1 583 = .ok (.aload_n 0, 1) := by decide +kernel
theorem dL_law_584 : decode mL_law.2.1 584 = .ok (.iload_n 3, 1) := by decide +kernel
theorem dL_law_585 : decode mL_law.2.1 585 = .ok (.iconst 1, 1) := by decide +kernel
theorem dL_law_586 : decode mL_law.2.1 586 = .ok (.iadd, 1) := by decide +kernel
theorem dL_law_587 : decode mL_law.2.1 587 = .ok (.iaload, 1) := by decide +kernel
theorem dL_law_588 : decode mL_law.2.1 588 = .ok (.invokevirtual 57, 3) := by decide +kernel
theorem dL_law_591 : decode mL_law.2.1 591 = .ok (.aload_n 2, 1) := by decide +kernel
theorem dL_law_592 : decode mL_law.2.1 592 = .ok (.aload_n 0, 1) := by decide +kernel
theorem dL_law_593 : decode mL_law.2.1 593 = .ok (.iload_n 3, 1) := by decide +kernel
theorem dL_law_594 : decode mL_law.2.1 594 = .ok (.iconst 1, 1) := by decide +kernel
theorem dL_law_595 : decode mL_law.2.1 595 = .ok (.iadd, 1) := by decide +kernel
theorem dL_law_596 : decode mL_law.2.1 596 = .ok (.iaload, 1) := by decide +kernel
theorem dL_law_597 : decode mL_law.2.1 597 = .ok (.invokevirtual 60, 3) := by decide +kernel
theorem dL_law_600 : decode mL_law.2.1 600 = .ok (.if_icmp .eq 826, 3) := by decide +kernel
theorem dL_law_603 : decode mL_law.2.1 603 = .ok (.iconst 0, 1) := by decide +kernel
theorem dL_law_604 : decode mL_law.2.1 604 = .ok (.ireturn, 1) := by decide +kernel
theorem dL_law_605 : decode mL_law.2.1 605 = .ok (.aload_n 1, 1) := by decide +kernel
theorem dL_law_606 : decode mL_law.2.1 606 = .ok (.aload_n 0, 1) := by decide +kernel
theorem dL_law_607 : decode mL_law.2.1 607 = .ok (.iload_n 3, 1) := by decide +kernel
theorem dL_law_608 : decode mL_law.2.1 608 = .ok (.iconst 1, 1) := by decide +kernel
theorem dL_law_609 : decode mL_law.2.1 609 = .ok (.iadd, 1) := by decide +kernel
theorem dL_law_610 : decode mL_law.2.1 610 = .ok (.iaload, 1) := by decide +kernel
theorem dL_law_611 : decode mL_law.2.1 611 = .ok (.invokevirtual 61, 3) := by decide +kernel
theorem dL_law_614 : decode mL_law.2.1 614 = .ok (.aload_n 2, 1) := by decide +kernel
theorem dL_law_615 : decode mL_law.2.1 615 = .ok (.aload_n 0, 1) := by decide +kernel
theorem dL_law_616 : decode mL_law.2.1 616 = .ok (.iload_n 3, 1) := by decide +kernel
theorem dL_law_617 : decode mL_law.2.1 617 = .ok (.iconst 1, 1) := by decide +kernel
theorem dL_law_618 : decode mL_law.2.1 618 = .ok (.iadd, 1) := by decide +kernel
theorem dL_law_619 : decode mL_law.2.1 619 = .ok (.iaload, 1) := by decide +kernel
theorem dL_law_620 : decode mL_law.2.1 620 = .ok (.invokevirtual 64, 3) := by decide +kernel
theorem dL_law_623 : decode mL_law.2.1 623 = .ok (.if_icmp .eq 803, 3) := by decide +kernel
theorem dL_law_626 : decode mL_law.2.1 626 = .ok (.iconst 0, 1) := by decide +kernel
theorem dL_law_627 : decode mL_law.2.1 627 = .ok (.ireturn, 1) := by decide +kernel
theorem dL_law_628 : decode mL_law.2.1 628 = .ok (.aload_n 1, 1) := by decide +kernel
theorem dL_law_629 : decode mL_law.2.1 629 = .ok (.aload_n 0, 1) := by decide +kernel
theorem dL_law_630 : decode mL_law.2.1 630 = .ok (.iload_n 3, 1) := by decide +kernel
theorem dL_law_631 : decode mL_law.2.1 631 = .ok (.iconst 1, 1) := by decide +kernel
theorem dL_law_632 : decode mL_law.2.1 632 = .ok (.iadd, 1) := by decide +kernel
theorem dL_law_633 : decode mL_law.2.1 633 = .ok (.iaload, 1) := by decide +kernel
theorem dL_law_634 : decode mL_law.2.1 634 = .ok (.aload_n 0, 1) := by decide +kernel
theorem dL_law_635 : decode mL_law.2.1 635 = .ok (.iload_n 3, 1) := by decide +kernel
theorem dL_law_636 : decode mL_law.2.1 636 = .ok (.iconst 2, 1) := by decide +kernel
theorem dL_law_637 : decode mL_law.2.1 637 = .ok (.iadd, 1) := by decide +kernel
theorem dL_law_638 : decode mL_law.2.1 638 = .ok (.iaload, 1) := by decide +kernel
theorem dL_law_639 : decode mL_law.2.1 639 = .ok (.aload_n 0, 1) := by decide +kernel
theorem dL_law_640 : decode mL_law.2.1 640 = .ok (.iload_n 3, 1) := by decide +kernel
theorem dL_law_641 : decode mL_law.2.1 641 = .ok (.iconst 3, 1) := by decide +kernel
theorem dL_law_642 : decode mL_law.2.1 642 = .ok (.iadd, 1) := by decide +kernel
theorem dL_law_643 : decode mL_law.2.1 643 = .ok (.iaload, 1) := by decide +kernel
theorem dL_law_644 : decode mL_law.2.1 644 = .ok (.invokevirtual 65, 3) := by decide +kernel
theorem dL_law_647 : decode mL_law.2.1 647 = .ok (.aload_n 2, 1) := by decide +kernel
theorem dL_law_648 : decode mL_law.2.1 648 = .ok (.aload_n 0, 1) := by decide +kernel
theorem dL_law_649 : decode mL_law.2.1 649 = .ok (.iload_n 3, 1) := by decide +kernel
theorem dL_law_650 : decode mL_law.2.1 650 = .ok (.iconst 1, 1) := by decide +kernel
theorem dL_law_651 : decode mL_law.2.1 651 = .ok (.iadd, 1) := by decide +kernel
theorem dL_law_652 : decode mL_law.2.1 652 = .ok (.iaload, 1) := by decide +kernel
theorem dL_law_653 : decode mL_law.2.1 653 = .ok (.aload_n 0, 1) := by decide +kernel
theorem dL_law_654 : decode mL_law.2.1 654 = .ok (.iload_n 3, 1) := by decide +kernel
theorem dL_law_655 : decode mL_law.2.1 655 = .ok (.iconst 2, 1) := by decide +kernel
theorem dL_law_656 : decode mL_law.2.1 656 = .ok (.iadd, 1) := by decide +kernel
theorem dL_law_657 : decode mL_law.2.1 657 = .ok (.iaload, 1) := by decide +kernel
theorem dL_law_658 : decode mL_law.2.1 658 = .ok (.aload_n 0, 1) := by decide +kernel
theorem dL_law_659 : decode mL_law.2.1 659 = .ok (.iload_n 3, 1) := by decide +kernel
theorem dL_law_660 : decode mL_law.2.1 660 = .ok (.iconst 3, 1) := by decide +kernel
theorem dL_law_661 : decode mL_law.2.1 661 = .ok (.iadd, 1) := by decide +kernel
theorem dL_law_662 : decode mL_law.2.1 662 = .ok (.iaload, 1) := by decide +kernel
theorem dL_law_663 : decode mL_law.2.1 663 = .ok (.invokevirtual 68, 3) := by decide +kernel
theorem dL_law_666 : decode mL_law.2.1 666 = .ok (.if_icmp .eq 760, 3) := by decide +kernel
theorem dL_law_669 : decode mL_law.2.1 669 = .ok (.iconst 0, 1) := by decide +kernel
theorem dL_law_670 : decode mL_law.2.1 670 = .ok (.ireturn, 1) := by decide +kernel
theorem dL_law_671 : decode mL_law.2.1 671 = .ok (.aload_n 1, 1) := by decide +kernel
theorem dL_law_672 : decode mL_law.2.1 672 = .ok (.aload_n 0, 1) := by decide +kernel
theorem dL_law_673 : decode mL_law.2.1 673 = .ok (.iload_n 3, 1) := by decide +kernel
theorem dL_law_674 : decode mL_law.2.1 674 = .ok (.iconst 1, 1) := by decide +kernel
theorem dL_law_675 : decode mL_law.2.1 675 = .ok (.iadd, 1) := by decide +kernel
theorem dL_law_676 : decode mL_law.2.1 676 = .ok (.iaload, 1) := by decide +kernel
theorem dL_law_677 : decode mL_law.2.1 677 = .ok (.aload_n 0, 1) := by decide +kernel
theorem dL_law_678 : decode mL_law.2.1 678 = .ok (.iload_n 3, 1) := by decide +kernel
theorem dL_law_679 : decode mL_law.2.1 679 = .ok (.iconst 2, 1) := by decide +kernel
theorem dL_law_680 : decode mL_law.2.1 680 = .ok (.iadd, 1) := by decide +kernel
theorem dL_law_681 : decode mL_law.2.1 681 = .ok (.iaload, 1) := by decide +kernel
theorem dL_law_682 : decode mL_law.2.1 682 = .ok (.invokevirtual 69, 3) := by decide +kernel
theorem dL_law_685 : decode mL_law.2.1 685 = .ok (.aload_n 2, 1) := by decide +kernel
theorem dL_law_686 : decode mL_law.2.1 686 = .ok (.aload_n 0, 1) := by decide +kernel
theorem dL_law_687 : decode mL_law.2.1 687 = .ok (.iload_n 3, 1) := by decide +kernel
theorem dL_law_688 : decode mL_law.2.1 688 = .ok (.iconst 1, 1) := by decide +kernel
theorem dL_law_689 : decode mL_law.2.1 689 = .ok (.iadd, 1) := by decide +kernel
theorem dL_law_690 : decode mL_law.2.1 690 = .ok (.iaload, 1) := by decide +kernel
theorem dL_law_691 : decode mL_law.2.1 691 = .ok (.aload_n 0, 1) := by decide +kernel
theorem dL_law_692 : decode mL_law.2.1 692 = .ok (.iload_n 3, 1) := by decide +kernel
theorem dL_law_693 : decode mL_law.2.1 693 = .ok (.iconst 2, 1) := by decide +kernel
theorem dL_law_694 : decode mL_law.2.1 694 = .ok (.iadd, 1) := by decide +kernel
theorem dL_law_695 : decode mL_law.2.1 695 = .ok (.iaload, 1) := by decide +kernel
theorem dL_law_696 : decode mL_law.2.1 696 = .ok (.invokevirtual 72, 3) := by decide +kernel
theorem dL_law_699 : decode mL_law.2.1 699 = .ok (.if_icmp .eq 727, 3) := by decide +kernel
theorem dL_law_702 : decode mL_law.2.1 702 = .ok (.iconst 0, 1) := by decide +kernel
theorem dL_law_703 : decode mL_law.2.1 703 = .ok (.ireturn, 1) := by decide +kernel
theorem dL_law_704 : decode mL_law.2.1 704 = .ok (.aload_n 1, 1) := by decide +kernel
theorem dL_law_705 : decode mL_law.2.1 705 = .ok (.aload_n 0, 1) := by decide +kernel
theorem dL_law_706 : decode mL_law.2.1 706 = .ok (.iload_n 3, 1) := by decide +kernel
theorem dL_law_707 : decode mL_law.2.1 707 = .ok (.iconst 1, 1) := by decide +kernel
theorem dL_law_708 : decode mL_law.2.1 708 = .ok (.iadd, 1) := by decide +kernel
theorem dL_law_709 : decode mL_law.2.1 709 = .ok (.iaload, 1) := by decide +kernel
theorem dL_law_710 : decode mL_law.2.1 710 = .ok (.invokevirtual 73, 3) := by decide +kernel
theorem dL_law_713 : decode mL_law.2.1 713 = .ok (.aload_n 2, 1) := by decide +kernel
theorem dL_law_714 : decode mL_law.2.1 714 = .ok (.aload_n 0, 1) := by decide +kernel
theorem dL_law_715 : decode mL_law.2.1 715 = .ok (.iload_n 3, 1) := by decide +kernel
theorem dL_law_716 : decode mL_law.2.1 716 = .ok (.iconst 1, 1) := by decide +kernel
theorem dL_law_717 : decode mL_law.2.1 717 = .ok (.iadd, 1) := by decide +kernel
theorem dL_law_718 : decode mL_law.2.1 718 = .ok (.iaload, 1) := by decide +kernel
theorem dL_law_719 : decode mL_law.2.1 719 = .ok (.invokevirtual 76, 3) := by decide +kernel
theorem dL_law_722 : decode mL_law.2.1 722 = .ok (.if_icmp .eq 704, 3) := by decide +kernel
theorem dL_law_725 : decode mL_law.2.1 725 = .ok (.iconst 0, 1) := by decide +kernel
theorem dL_law_726 : decode mL_law.2.1 726 = .ok (.ireturn, 1) := by decide +kernel
theorem dL_law_727 : decode mL_law.2.1 727 = .ok (.aload_n 1, 1) := by decide +kernel
theorem dL_law_728 : decode mL_law.2.1 728 = .ok (.invokevirtual 77, 3) := by decide +kernel
theorem dL_law_731 : decode mL_law.2.1 731 = .ok (.aload_n 2, 1) := by decide +kernel
theorem dL_law_732 : decode mL_law.2.1 732 = .ok (.invokevirtual 81, 3) := by decide +kernel
theorem dL_law_735 : decode mL_law.2.1 735 = .ok (.if_icmp .eq 691, 3) := by decide +kernel
theorem dL_law_738 : decode mL_law.2.1 738 = .ok (.iconst 0, 1) := by decide +kernel
theorem dL_law_739 : decode mL_law.2.1 739 = .ok (.ireturn, 1) := by decide +kernel
theorem dL_law_740 : decode mL_law.2.1 740 = .ok (.aload_n 1, 1) := by decide +kernel
theorem dL_law_741 : decode mL_law.2.1 741 = .ok (.aload_n 0, 1) := by decide +kernel
theorem dL_law_742 : decode mL_law.2.1 742 = .ok (.iload_n 3, 1) := by decide +kernel
theorem dL_law_743 : decode mL_law.2.1 743 = .ok (.iconst 1, 1) := by decide +kernel
theorem dL_law_744 : decode mL_law.2.1 744 = .ok (.iadd, 1) := by decide +kernel
theorem dL_law_745 : decode mL_law.2.1 745 = .ok (.iaload, 1) := by decide +kernel
theorem dL_law_746 : decode mL_law.2.1 746 = .ok (.invokevirtual 82, 3) := by decide +kernel
theorem dL_law_749 : decode mL_law.2.1 749 = .ok (.aload_n 2, 1) := by decide +kernel
theorem dL_law_750 : decode mL_law.2.1 750 = .ok (.aload_n 0, 1) := by decide +kernel
theorem dL_law_751 : decode mL_law.2.1 751 = .ok (.iload_n 3, 1) := by decide +kernel
theorem dL_law_752 : decode mL_law.2.1 752 = .ok (.iconst 1, 1) := by decide +kernel
theorem dL_law_753 : decode mL_law.2.1 753 = .ok (.iadd, 1) := by decide +kernel
theorem dL_law_754 : decode mL_law.2.1 754 = .ok (.iaload, 1) := by decide +kernel
theorem dL_law_755 : decode mL_law.2.1 755 = .ok (.invokevirtual 85, 3) := by decide +kernel
theorem dL_law_758 : decode mL_law.2.1 758 = .ok (.if_icmp .eq 668, 3) := by decide +kernel
theorem dL_law_761 : decode mL_law.2.1 761 = .ok (.iconst 0, 1) := by decide +kernel
theorem dL_law_762 : decode mL_law.2.1 762 = .ok (.ireturn, 1) := by decide +kernel
theorem dL_law_763 : decode mL_law.2.1 763 = .ok (.aload_n 1, 1) := by decide +kernel
theorem dL_law_764 : decode mL_law.2.1 764 = .ok (.aload_n 0, 1) := by decide +kernel
theorem dL_law_765 : decode mL_law.2.1 765 = .ok (.iload_n 3, 1) := by decide +kernel
theorem dL_law_766 : decode mL_law.2.1 766 = .ok (.iconst 1, 1) := by decide +kernel
theorem dL_law_767 : decode mL_law.2.1 767 = .ok (.iadd, 1) := by decide +kernel
theorem dL_law_768 : decode mL_law.2.1 768 = .ok (.iaload, 1) := by decide +kernel
theorem dL_law_769 : decode mL_law.2.1 769 = .ok (.invokevirtual 86, 3) := by decide +kernel
theorem dL_law_772 : decode mL_law.2.1 772 = .ok (.aload_n 2, 1) := by decide +kernel
theorem dL_law_773 : decode mL_law.2.1 773 = .ok (.aload_n 0, 1) := by decide +kernel
theorem dL_law_774 : decode mL_law.2.1 774 = .ok (.iload_n 3, 1) := by decide +kernel
theorem dL_law_775 : decode mL_law.2.1 775 = .ok (.iconst 1, 1) := by decide +kernel
theorem dL_law_776 : decode mL_law.2.1 776 = .ok (.iadd, 1) := by decide +kernel
theorem dL_law_777 : decode mL_law.2.1 777 = .ok (.iaload, 1) := by decide +kernel
theorem dL_law_778 : decode mL_law.2.1 778 = .ok (.invokevirtual 90, 3) := by decide +kernel
theorem dL_law_781 : decode mL_law.2.1 781 = .ok (.lcmp, 1) := by decide +kernel
theorem dL_law_782 : decode mL_law.2.1 782 = .ok (.ifCond .eq 644, 3) := by decide +kernel
theorem dL_law_785 : decode mL_law.2.1 785 = .ok (.iconst 0, 1) := by decide +kernel
theorem dL_law_786 : decode mL_law.2.1 786 = .ok (.ireturn, 1) := by decide +kernel
theorem dL_law_787 : decode mL_law.2.1 787 = .ok (.aload_n 1, 1) := by decide +kernel
theorem dL_law_788 : decode mL_law.2.1 788 = .ok (.invokevirtual 91, 3) := by decide +kernel
theorem dL_law_791 : decode mL_law.2.1 791 = .ok (.aload_n 2, 1) := by decide +kernel
theorem dL_law_792 : decode mL_law.2.1 792 = .ok (.invokevirtual 94, 3) := by decide +kernel
theorem dL_law_795 : decode mL_law.2.1 795 = .ok (.if_icmp .eq 631, 3) := by decide +kernel
theorem dL_law_798 : decode mL_law.2.1 798 = .ok (.iconst 0, 1) := by decide +kernel
theorem dL_law_799 : decode mL_law.2.1 799 = .ok (.ireturn, 1) := by decide +kernel
theorem dL_law_800 : decode mL_law.2.1 800 = .ok (.aload_n 1, 1) := by decide +kernel
theorem dL_law_801 : decode mL_law.2.1 801 = .ok (.aload_n 0, 1) := by decide +kernel
theorem dL_law_802 : decode mL_law.2.1 802 = .ok (.iload_n 3, 1) := by decide +kernel
theorem dL_law_803 : decode mL_law.2.1 803 = .ok (.iconst 1, 1) := by decide +kernel
theorem dL_law_804 : decode mL_law.2.1 804 = .ok (.iadd, 1) := by decide +kernel
theorem dL_law_805 : decode mL_law.2.1 805 = .ok (.iaload, 1) := by decide +kernel
theorem dL_law_806 : decode mL_law.2.1 806 = .ok (.invokevirtual 95, 3) := by decide +kernel
theorem dL_law_809 : decode mL_law.2.1 809 = .ok (.aload_n 2, 1) := by decide +kernel
theorem dL_law_810 : decode mL_law.2.1 810 = .ok (.aload_n 0, 1) := by decide +kernel
theorem dL_law_811 : decode mL_law.2.1 811 = .ok (.iload_n 3, 1) := by decide +kernel
theorem dL_law_812 : decode mL_law.2.1 812 = .ok (.iconst 1, 1) := by decide +kernel
theorem dL_law_813 : decode mL_law.2.1 813 = .ok (.iadd, 1) := by decide +kernel
theorem dL_law_814 : decode mL_law.2.1 814 = .ok (.iaload, 1) := by decide +kernel
theorem dL_law_815 : decode mL_law.2.1 815 = .ok (.invokevirtual 98, 3) := by decide +kernel
theorem dL_law_818 : decode mL_law.2.1 818 = .ok (.if_icmp .eq 608, 3) := by decide +kernel
theorem dL_law_821 : decode mL_law.2.1 821 = .ok (.iconst 0, 1) := by decide +kernel
theorem dL_law_822 : decode mL_law.2.1 822 = .ok (.ireturn, 1) := by decide +kernel
theorem dL_law_823 : decode mL_law.2.1 823 = .ok (.aload_n 1, 1) := by decide +kernel
theorem dL_law_824 : decode mL_law.2.1 824 = .ok (.invokevirtual 99, 3) := by decide +kernel
theorem dL_law_827 : decode mL_law.2.1 827 = .ok (.aload_n 2, 1) := by decide +kernel
theorem dL_law_828 : decode mL_law.2.1 828 = .ok (.invokevirtual 102, 3) := by decide +kernel
theorem dL_law_831 : decode mL_law.2.1 831 = .ok (.if_icmp .eq 595, 3) := by decide +kernel
theorem dL_law_834 : decode mL_law.2.1 834 = .ok (.iconst 0, 1) := by decide +kernel
theorem dL_law_835 : decode mL_law.2.1 835 = .ok (.ireturn, 1) := by decide +kernel
theorem dL_law_836 : decode mL_law.2.1 836 = .ok (.aload_n 1, 1) := by decide +kernel
theorem dL_law_837 : decode mL_law.2.1 837 = .ok (.invokevirtual 103, 3) := by decide +kernel
theorem dL_law_840 : decode mL_law.2.1 840 = .ok (.aload_n 2, 1) := by decide +kernel
theorem dL_law_841 : decode mL_law.2.1 841 = .ok (.invokevirtual 106, 3) := by decide +kernel
theorem dL_law_844 : decode mL_law.2.1 844 = .ok (.if_icmp .eq 582, 3) := by decide +kernel
theorem dL_law_847 : decode mL_law.2.1 847 = .ok (.iconst 0, 1) := by decide +kernel
theorem dL_law_848 : decode mL_law.2.1 848 = .ok (.ireturn, 1) := by decide +kernel
theorem dL_law_849 : decode mL_law.2.1 849 = .ok (.aload_n 1, 1) := by decide +kernel
theorem dL_law_850 : decode mL_law.2.1 850 = .ok (.aload_n 0, 1) := by decide +kernel
theorem dL_law_851 : decode mL_law.2.1 851 = .ok (.iload_n 3, 1) := by decide +kernel
theorem dL_law_852 : decode mL_law.2.1 852 = .ok (.iconst 1, 1) := by decide +kernel
theorem dL_law_853 : decode mL_law.2.1 853 = .ok (.iadd, 1) := by decide +kernel
theorem dL_law_854 : decode mL_law.2.1 854 = .ok (.iaload, 1) := by decide +kernel
theorem dL_law_855 : decode mL_law.2.1 855 = .ok (.aload_n 0, 1) := by decide +kernel
theorem dL_law_856 : decode mL_law.2.1 856 = .ok (.iload_n 3, 1) := by decide +kernel
theorem dL_law_857 : decode mL_law.2.1 857 = .ok (.iconst 2, 1) := by decide +kernel
theorem dL_law_858 : decode mL_law.2.1 858 = .ok (.iadd, 1) := by decide +kernel
theorem dL_law_859 : decode mL_law.2.1 859 = .ok (.iaload, 1) := by decide +kernel
theorem dL_law_860 : decode mL_law.2.1 860 = .ok (.aload_n 0, 1) := by decide +kernel
theorem dL_law_861 : decode mL_law.2.1 861 = .ok (.iload_n 3, 1) := by decide +kernel
theorem dL_law_862 : decode mL_law.2.1 862 = .ok (.iconst 3, 1) := by decide +kernel
theorem dL_law_863 : decode mL_law.2.1 863 = .ok (.iadd, 1) := by decide +kernel
theorem dL_law_864 : decode mL_law.2.1 864 = .ok (.iaload, 1) := by decide +kernel
theorem dL_law_865 : decode mL_law.2.1 865 = .ok (.invokevirtual 107, 3) := by decide +kernel
theorem dL_law_868 : decode mL_law.2.1 868 = .ok (.aload_n 2, 1) := by decide +kernel
theorem dL_law_869 : decode mL_law.2.1 869 = .ok (.aload_n 0, 1) := by decide +kernel
theorem dL_law_870 : decode mL_law.2.1 870 = .ok (.iload_n 3, 1) := by decide +kernel
theorem dL_law_871 : decode mL_law.2.1 871 = .ok (.iconst 1, 1) := by decide +kernel
theorem dL_law_872 : decode mL_law.2.1 872 = .ok (.iadd, 1) := by decide +kernel
theorem dL_law_873 : decode mL_law.2.1 873 = .ok (.iaload, 1) := by decide +kernel
theorem dL_law_874 : decode mL_law.2.1 874 = .ok (.aload_n 0, 1) := by decide +kernel
theorem dL_law_875 : decode mL_law.2.1 875 = .ok (.iload_n 3, 1) := by decide +kernel
theorem dL_law_876 : decode mL_law.2.1 876 = .ok (.iconst 2, 1) := by decide +kernel
theorem dL_law_877 : decode mL_law.2.1 877 = .ok (.iadd, 1) := by decide +kernel
theorem dL_law_878 : decode mL_law.2.1 878 = .ok (.iaload, 1) := by decide +kernel
theorem dL_law_879 : decode mL_law.2.1 879 = .ok (.aload_n 0, 1) := by decide +kernel
theorem dL_law_880 : decode mL_law.2.1 880 = .ok (.iload_n 3, 1) := by decide +kernel
theorem dL_law_881 : decode mL_law.2.1 881 = .ok (.iconst 3, 1) := by decide +kernel
theorem dL_law_882 : decode mL_law.2.1 882 = .ok (.iadd, 1) := by decide +kernel
theorem dL_law_883 : decode mL_law.2.1 883 = .ok (.iaload, 1) := by decide +kernel
theorem dL_law_884 : decode mL_law.2.1 884 = .ok (.invokevirtual 110, 3) := by decide +kernel
theorem dL_law_887 : decode mL_law.2.1 887 = .ok (.if_icmp .eq 539, 3) := by decide +kernel
theorem dL_law_890 : decode mL_law.2.1 890 = .ok (.iconst 0, 1) := by decide +kernel
theorem dL_law_891 : decode mL_law.2.1 891 = .ok (.ireturn, 1) := by decide +kernel
theorem dL_law_892 : decode mL_law.2.1 892 = .ok (.aload_n 1, 1) := by decide +kernel
theorem dL_law_893 : decode mL_law.2.1 893 = .ok (.aload_n 0, 1) := by decide +kernel
theorem dL_law_894 : decode mL_law.2.1 894 = .ok (.iload_n 3, 1) := by decide +kernel
theorem dL_law_895 : decode mL_law.2.1 895 = .ok (.iconst 1, 1) := by decide +kernel
theorem dL_law_896 : decode mL_law.2.1 896 = .ok (.iadd, 1) := by decide +kernel
theorem dL_law_897 : decode mL_law.2.1 897 = .ok (.iaload, 1) := by decide +kernel
theorem dL_law_898 : decode mL_law.2.1 898 = .ok (.invokevirtual 111, 3) := by decide +kernel
theorem dL_law_901 : decode mL_law.2.1 901 = .ok (.aload_n 2, 1) := by decide +kernel
theorem dL_law_902 : decode mL_law.2.1 902 = .ok (.aload_n 0, 1) := by decide +kernel
theorem dL_law_903 : decode mL_law.2.1 903 = .ok (.iload_n 3, 1) := by decide +kernel
theorem dL_law_904 : decode mL_law.2.1 904 = .ok (.iconst 1, 1) := by decide +kernel
theorem dL_law_905 : decode mL_law.2.1 905 = .ok (.iadd, 1) := by decide +kernel
theorem dL_law_906 : decode mL_law.2.1 906 = .ok (.iaload, 1) := by decide +kernel
theorem dL_law_907 : decode mL_law.2.1 907 = .ok (.invokevirtual 114, 3) := by decide +kernel
theorem dL_law_910 : decode mL_law.2.1 910 = .ok (.if_icmp .eq 516, 3) := by decide +kernel
theorem dL_law_913 : decode mL_law.2.1 913 = .ok (.iconst 0, 1) := by decide +kernel
theorem dL_law_914 : decode mL_law.2.1 914 = .ok (.ireturn, 1) := by decide +kernel
theorem dL_law_915 : decode mL_law.2.1 915 = .ok (.aload_n 1, 1) := by decide +kernel
theorem dL_law_916 : decode mL_law.2.1 916 = .ok (.invokevirtual 115, 3) := by decide +kernel
theorem dL_law_919 : decode mL_law.2.1 919 = .ok (.aload_n 2, 1) := by decide +kernel
theorem dL_law_920 : decode mL_law.2.1 920 = .ok (.invokevirtual 118, 3) := by decide +kernel
theorem dL_law_923 : decode mL_law.2.1 923 = .ok (.if_icmp .eq 503, 3) := by decide +kernel
theorem dL_law_926 : decode mL_law.2.1 926 = .ok (.iconst 0, 1) := by decide +kernel
theorem dL_law_927 : decode mL_law.2.1 927 = .ok (.ireturn, 1) := by decide +kernel
theorem dL_law_928 : decode mL_law.2.1 928 = .ok (.aload_n 1, 1) := by decide +kernel
theorem dL_law_929 : decode mL_law.2.1 929 = .ok (.aload_n 0, 1) := by decide +kernel
theorem dL_law_930 : decode mL_law.2.1 930 = .ok (.iload_n 3, 1) := by decide +kernel
theorem dL_law_931 : decode mL_law.2.1 931 = .ok (.iconst 1, 1) := by decide +kernel
theorem dL_law_932 : decode mL_law.2.1 932 = .ok (.iadd, 1) := by decide +kernel
theorem dL_law_933 : decode mL_law.2.1 933 = .ok (.iaload, 1) := by decide +kernel
theorem dL_law_934 : decode mL_law.2.1 934 = .ok (.aload_n 0, 1) := by decide +kernel
theorem dL_law_935 : decode mL_law.2.1 935 = .ok (.iload_n 3, 1) := by decide +kernel
theorem dL_law_936 : decode mL_law.2.1 936 = .ok (.iconst 2, 1) := by decide +kernel
theorem dL_law_937 : decode mL_law.2.1 937 = .ok (.iadd, 1) := by decide +kernel
theorem dL_law_938 : decode mL_law.2.1 938 = .ok (.iaload, 1) := by decide +kernel
theorem dL_law_939 : decode mL_law.2.1 939 = .ok (.invokevirtual 119, 3) := by decide +kernel
theorem dL_law_942 : decode mL_law.2.1 942 = .ok (.aload_n 2, 1) := by decide +kernel
theorem dL_law_943 : decode mL_law.2.1 943 = .ok (.aload_n 0, 1) := by decide +kernel
theorem dL_law_944 : decode mL_law.2.1 944 = .ok (.iload_n 3, 1) := by decide +kernel
theorem dL_law_945 : decode mL_law.2.1 945 = .ok (.iconst 1, 1) := by decide +kernel
theorem dL_law_946 : decode mL_law.2.1 946 = .ok (.iadd, 1) := by decide +kernel
theorem dL_law_947 : decode mL_law.2.1 947 = .ok (.iaload, 1) := by decide +kernel
theorem dL_law_948 : decode mL_law.2.1 948 = .ok (.aload_n 0, 1) := by decide +kernel
theorem dL_law_949 : decode mL_law.2.1 949 = .ok (.iload_n 3, 1) := by decide +kernel
theorem dL_law_950 : decode mL_law.2.1 950 = .ok (.iconst 2, 1) := by decide +kernel
theorem dL_law_951 : decode mL_law.2.1 951 = .ok (.iadd, 1) := by decide +kernel
theorem dL_law_952 : decode mL_law.2.1 952 = .ok (.iaload, 1) := by decide +kernel
theorem dL_law_953 : decode mL_law.2.1 953 = .ok (.invokevirtual 122, 3) := by decide +kernel
theorem dL_law_956 : decode mL_law.2.1 956 = .ok (.if_icmp .eq 470, 3) := by decide +kernel
theorem dL_law_959 : decode mL_law.2.1 959 = .ok (.iconst 0, 1) := by decide +kernel
theorem dL_law_960 : decode mL_law.2.1 960 = .ok (.ireturn, 1) := by decide +kernel
theorem dL_law_961 : decode mL_law.2.1 961 = .ok (.aload_n 1, 1) := by decide +kernel
theorem dL_law_962 : decode mL_law.2.1 962 = .ok (.aload_n 0, 1) := by decide +kernel
theorem dL_law_963 : decode mL_law.2.1 963 = .ok (.iload_n 3, 1) := by decide +kernel
theorem dL_law_964 : decode mL_law.2.1 964 = .ok (.iconst 1, 1) := by decide +kernel
theorem dL_law_965 : decode mL_law.2.1 965 = .ok (.iadd, 1) := by decide +kernel
theorem dL_law_966 : decode mL_law.2.1 966 = .ok (.iaload, 1) := by decide +kernel
theorem dL_law_967 : decode mL_law.2.1 967 = .ok (.invokevirtual 123, 3) := by decide +kernel
theorem dL_law_970 : decode mL_law.2.1 970 = .ok (.aload_n 2, 1) := by decide +kernel
theorem dL_law_971 : decode mL_law.2.1 971 = .ok (.aload_n 0, 1) := by decide +kernel
theorem dL_law_972 : decode mL_law.2.1 972 = .ok (.iload_n 3, 1) := by decide +kernel
theorem dL_law_973 : decode mL_law.2.1 973 = .ok (.iconst 1, 1) := by decide +kernel
theorem dL_law_974 : decode mL_law.2.1 974 = .ok (.iadd, 1) := by decide +kernel
theorem dL_law_975 : decode mL_law.2.1 975 = .ok (.iaload, 1) := by decide +kernel
theorem dL_law_976 : decode mL_law.2.1 976 = .ok (.invokevirtual 126, 3) := by decide +kernel
theorem dL_law_979 : decode mL_law.2.1 979 = .ok (.if_icmp .eq 447, 3) := by decide +kernel
theorem dL_law_982 : decode mL_law.2.1 982 = .ok (.iconst 0, 1) := by decide +kernel
theorem dL_law_983 : decode mL_law.2.1 983 = .ok (.ireturn, 1) := by decide +kernel
theorem dL_law_984 : decode mL_law.2.1 984 = .ok (.aload_n 1, 1) := by decide +kernel
theorem dL_law_985 : decode mL_law.2.1 985 = .ok (.aload_n 0, 1) := by decide +kernel
theorem dL_law_986 : decode mL_law.2.1 986 = .ok (.iload_n 3, 1) := by decide +kernel
theorem dL_law_987 : decode mL_law.2.1 987 = .ok (.iconst 1, 1) := by decide +kernel
theorem dL_law_988 : decode mL_law.2.1 988 = .ok (.iadd, 1) := by decide +kernel
theorem dL_law_989 : decode mL_law.2.1 989 = .ok (.iaload, 1) := by decide +kernel
theorem dL_law_990 : decode mL_law.2.1 990 = .ok (.aload_n 0, 1) := by decide +kernel
theorem dL_law_991 : decode mL_law.2.1 991 = .ok (.iload_n 3, 1) := by decide +kernel
theorem dL_law_992 : decode mL_law.2.1 992 = .ok (.iconst 2, 1) := by decide +kernel
theorem dL_law_993 : decode mL_law.2.1 993 = .ok (.iadd, 1) := by decide +kernel
theorem dL_law_994 : decode mL_law.2.1 994 = .ok (.iaload, 1) := by decide +kernel
theorem dL_law_995 : decode mL_law.2.1 995 = .ok (.aload_n 0, 1) := by decide +kernel
theorem dL_law_996 : decode mL_law.2.1 996 = .ok (.iload_n 3, 1) := by decide +kernel
theorem dL_law_997 : decode mL_law.2.1 997 = .ok (.iconst 3, 1) := by decide +kernel
theorem dL_law_998 : decode mL_law.2.1 998 = .ok (.iadd, 1) := by decide +kernel
theorem dL_law_999 : decode mL_law.2.1 999 = .ok (.iaload, 1) := by decide +kernel
theorem dL_law_1000 : decode mL_law.2.1 1000 = .ok (.invokevirtual 127, 3) := by decide +kernel
theorem dL_law_1003 : decode mL_law.2.1 1003 = .ok (.aload_n 2, 1) := by decide +kernel
theorem dL_law_1004 : decode mL_law.2.1 1004 = .ok (.aload_n 0, 1) := by decide +kernel
theorem dL_law_1005 : decode mL_law.2.1 1005 = .ok (.iload_n 3, 1) := by decide +kernel
theorem dL_law_1006 : decode mL_law.2.1 1006 = .ok (.iconst 1, 1) := by decide +kernel
theorem dL_law_1007 : decode mL_law.2.1 1007 = .ok (.iadd, 1) := by decide +kernel
theorem dL_law_1008 : decode mL_law.2.1 1008 = .ok (.iaload, 1) := by decide +kernel
theorem dL_law_1009 : decode mL_law.2.1 1009 = .ok (.aload_n 0, 1) := by decide +kernel
theorem dL_law_1010 : decode mL_law.2.1 1010 = .ok (.iload_n 3, 1) := by decide +kernel
theorem dL_law_1011 : decode mL_law.2.1 1011 = .ok (.iconst 2, 1) := by decide +kernel
theorem dL_law_1012 : decode mL_law.2.1 1012 = .ok (.iadd, 1) := by decide +kernel
theorem dL_law_1013 : decode mL_law.2.1 1013 = .ok (.iaload, 1) := by decide +kernel
theorem dL_law_1014 : decode mL_law.2.1 1014 = .ok (.aload_n 0, 1) := by decide +kernel
theorem dL_law_1015 : decode mL_law.2.1 1015 = .ok (.iload_n 3, 1) := by decide +kernel
theorem dL_law_1016 : decode mL_law.2.1 1016 = .ok (.iconst 3, 1) := by decide +kernel
theorem dL_law_1017 : decode mL_law.2.1 1017 = .ok (.iadd, 1) := by decide +kernel
theorem dL_law_1018 : decode mL_law.2.1 1018 = .ok (.iaload, 1) := by decide +kernel
theorem dL_law_1019 : decode mL_law.2.1 1019 = .ok (.invokevirtual 130, 3) := by decide +kernel
theorem dL_law_1022 : decode mL_law.2.1 1022 = .ok (.if_icmp .eq 404, 3) := by decide +kernel
theorem dL_law_1025 : decode mL_law.2.1 1025 = .ok (.iconst 0, 1) := by decide +kernel
theorem dL_law_1026 : decode mL_law.2.1 1026 = .ok (.ireturn, 1) := by decide +kernel
theorem dL_law_1027 : decode mL_law.2.1 1027 = .ok (.aload_n 1, 1) := by decide +kernel
theorem dL_law_1028 : decode mL_law.2.1 1028 = .ok (.aload_n 0, 1) := by decide +kernel
theorem dL_law_1029 : decode mL_law.2.1 1029 = .ok (.iload_n 3, 1) := by decide +kernel
theorem dL_law_1030 : decode mL_law.2.1 1030 = .ok (.iconst 1, 1) := by decide +kernel
theorem dL_law_1031 : decode mL_law.2.1 1031 = .ok (.iadd, 1) := by decide +kernel
theorem dL_law_1032 : decode mL_law.2.1 1032 = .ok (.iaload, 1) := by decide +kernel
theorem dL_law_1033 : decode mL_law.2.1 1033 = .ok (.aload_n 0, 1) := by decide +kernel
theorem dL_law_1034 : decode mL_law.2.1 1034 = .ok (.iload_n 3, 1) := by decide +kernel
theorem dL_law_1035 : decode mL_law.2.1 1035 = .ok (.iconst 2, 1) := by decide +kernel
theorem dL_law_1036 : decode mL_law.2.1 1036 = .ok (.iadd, 1) := by decide +kernel
theorem dL_law_1037 : decode mL_law.2.1 1037 = .ok (.iaload, 1) := by decide +kernel
theorem dL_law_1038 : decode mL_law.2.1 1038 = .ok (.aload_n 0, 1) := by decide +kernel
theorem dL_law_1039 : decode mL_law.2.1 1039 = .ok (.iload_n 3, 1) := by decide +kernel
theorem dL_law_1040 : decode mL_law.2.1 1040 = .ok (.iconst 3, 1) := by decide +kernel
theorem dL_law_1041 : decode mL_law.2.1 1041 = .ok (.iadd, 1) := by decide +kernel
theorem dL_law_1042 : decode mL_law.2.1 1042 = .ok (.iaload, 1) := by decide +kernel
theorem dL_law_1043 : decode mL_law.2.1 1043 = .ok (.invokevirtual 131, 3) := by decide +kernel
theorem dL_law_1046 : decode mL_law.2.1 1046 = .ok (.aload_n 2, 1) := by decide +kernel
theorem dL_law_1047 : decode mL_law.2.1 1047 = .ok (.aload_n 0, 1) := by decide +kernel
theorem dL_law_1048 : decode mL_law.2.1 1048 = .ok (.iload_n 3, 1) := by decide +kernel
theorem dL_law_1049 : decode mL_law.2.1 1049 = .ok (.iconst 1, 1) := by decide +kernel
theorem dL_law_1050 : decode mL_law.2.1 1050 = .ok (.iadd, 1) := by decide +kernel
theorem dL_law_1051 : decode mL_law.2.1 1051 = .ok (.iaload, 1) := by decide +kernel
theorem dL_law_1052 : decode mL_law.2.1 1052 = .ok (.aload_n 0, 1) := by decide +kernel
theorem dL_law_1053 : decode mL_law.2.1 1053 = .ok (.iload_n 3, 1) := by decide +kernel
theorem dL_law_1054 : decode mL_law.2.1 1054 = .ok (.iconst 2, 1) := by decide +kernel
theorem dL_law_1055 : decode mL_law.2.1 1055 = .ok (.iadd, 1) := by decide +kernel
theorem dL_law_1056 : decode mL_law.2.1 1056 = .ok (.iaload, 1) := by decide +kernel
theorem dL_law_1057 : decode mL_law.2.1 1057 = .ok (.aload_n 0, 1) := by decide +kernel
theorem dL_law_1058 : decode mL_law.2.1 1058 = .ok (.iload_n 3, 1) := by decide +kernel
theorem dL_law_1059 : decode mL_law.2.1 1059 = .ok (.iconst 3, 1) := by decide +kernel
theorem dL_law_1060 : decode mL_law.2.1 1060 = .ok (.iadd, 1) := by decide +kernel
theorem dL_law_1061 : decode mL_law.2.1 1061 = .ok (.iaload, 1) := by decide +kernel
theorem dL_law_1062 : decode mL_law.2.1 1062 = .ok (.invokevirtual 134, 3) := by decide +kernel
theorem dL_law_1065 : decode mL_law.2.1 1065 = .ok (.if_icmp .eq 361, 3) := by decide +kernel
theorem dL_law_1068 : decode mL_law.2.1 1068 = .ok (.iconst 0, 1) := by decide +kernel
theorem dL_law_1069 : decode mL_law.2.1 1069 = .ok (.ireturn, 1) := by decide +kernel
theorem dL_law_1070 : decode mL_law.2.1 1070 = .ok (.aload_n 1, 1) := by decide +kernel
theorem dL_law_1071 : decode mL_law.2.1 1071 = .ok (.aload_n 0, 1) := by decide +kernel
theorem dL_law_1072 : decode mL_law.2.1 1072 = .ok (.iload_n 3, 1) := by decide +kernel
theorem dL_law_1073 : decode mL_law.2.1 1073 = .ok (.iconst 1, 1) := by decide +kernel
theorem dL_law_1074 : decode mL_law.2.1 1074 = .ok (.iadd, 1) := by decide +kernel
theorem dL_law_1075 : decode mL_law.2.1 1075 = .ok (.iaload, 1) := by decide +kernel
theorem dL_law_1076 : decode mL_law.2.1 1076 = .ok (.invokevirtual 135, 3) := by decide +kernel
theorem dL_law_1079 : decode mL_law.2.1 1079 = .ok (.aload_n 2, 1) := by decide +kernel
theorem dL_law_1080 : decode mL_law.2.1 1080 = .ok (.aload_n 0, 1) := by decide +kernel
theorem dL_law_1081 : decode mL_law.2.1 1081 = .ok (.iload_n 3, 1) := by decide +kernel
theorem dL_law_1082 : decode mL_law.2.1 1082 = .ok (.iconst 1, 1) := by decide +kernel
theorem dL_law_1083 : decode mL_law.2.1 1083 = .ok (.iadd, 1) := by decide +kernel
theorem dL_law_1084 : decode mL_law.2.1 1084 = .ok (.iaload, 1) := by decide +kernel
theorem dL_law_1085 : decode mL_law.2.1 1085 = .ok (.invokevirtual 138, 3) := by decide +kernel
theorem dL_law_1088 : decode mL_law.2.1 1088 = .ok (.if_icmp .eq 338, 3) := by decide +kernel
theorem dL_law_1091 : decode mL_law.2.1 1091 = .ok (.iconst 0, 1) := by decide +kernel
theorem dL_law_1092 : decode mL_law.2.1 1092 = .ok (.ireturn, 1) := by decide +kernel
theorem dL_law_1093 : decode mL_law.2.1 1093 = .ok (.aload_n 1, 1) := by decide +kernel
theorem dL_law_1094 : decode mL_law.2.1 1094 = .ok (.aload_n 0, 1) := by decide +kernel
theorem dL_law_1095 : decode mL_law.2.1 1095 = .ok (.iload_n 3, 1) := by decide +kernel
theorem dL_law_1096 : decode mL_law.2.1 1096 = .ok (.iconst 1, 1) := by decide +kernel
theorem dL_law_1097 : decode mL_law.2.1 1097 = .ok (.iadd, 1) := by decide +kernel
theorem dL_law_1098 : decode mL_law.2.1 1098 = .ok (.iaload, 1) := by decide +kernel
theorem dL_law_1099 : decode mL_law.2.1 1099 = .ok (.aload_n 0, 1) := by decide +kernel
theorem dL_law_1100 : decode mL_law.2.1 1100 = .ok (.iload_n 3, 1) := by decide +kernel
theorem dL_law_1101 : decode mL_law.2.1 1101 = .ok (.iconst 2, 1) := by decide +kernel
theorem dL_law_1102 : decode mL_law.2.1 1102 = .ok (.iadd, 1) := by decide +kernel
theorem dL_law_1103 : decode mL_law.2.1 1103 = .ok (.iaload, 1) := by decide +kernel
theorem dL_law_1104 : decode mL_law.2.1 1104 = .ok (.invokevirtual 139, 3) := by decide +kernel
theorem dL_law_1107 : decode mL_law.2.1 1107 = .ok (.aload_n 2, 1) := by decide +kernel
theorem dL_law_1108 : decode mL_law.2.1 1108 = .ok (.aload_n 0, 1) := by decide +kernel
theorem dL_law_1109 : decode mL_law.2.1 1109 = .ok (.iload_n 3, 1) := by decide +kernel
theorem dL_law_1110 : decode mL_law.2.1 1110 = .ok (.iconst 1, 1) := by decide +kernel
theorem dL_law_1111 : decode mL_law.2.1 1111 = .ok (.iadd, 1) := by decide +kernel
theorem dL_law_1112 : decode mL_law.2.1 1112 = .ok (.iaload, 1) := by decide +kernel
theorem dL_law_1113 : decode mL_law.2.1 1113 = .ok (.aload_n 0, 1) := by decide +kernel
theorem dL_law_1114 : decode mL_law.2.1 1114 = .ok (.iload_n 3, 1) := by decide +kernel
theorem dL_law_1115 : decode mL_law.2.1 1115 = .ok (.iconst 2, 1) := by decide +kernel
theorem dL_law_1116 : decode mL_law.2.1 1116 = .ok (.iadd, 1) := by decide +kernel
theorem dL_law_1117 : decode mL_law.2.1 1117 = .ok (.iaload, 1) := by decide +kernel
theorem dL_law_1118 : decode mL_law.2.1 1118 = .ok (.invokevirtual 142, 3) := by decide +kernel
theorem dL_law_1121 : decode mL_law.2.1 1121 = .ok (.if_icmp .eq 305, 3) := by decide +kernel
theorem dL_law_1124 : decode mL_law.2.1 1124 = .ok (.iconst 0, 1) := by decide +kernel
theorem dL_law_1125 : decode mL_law.2.1 1125 = .ok (.ireturn, 1) := by decide +kernel
theorem dL_law_1126 : decode mL_law.2.1 1126 = .ok (.aload_n 1, 1) := by decide +kernel
theorem dL_law_1127 : decode mL_law.2.1 1127 = .ok (.aload_n 0, 1) := by decide +kernel
theorem dL_law_1128 : decode mL_law.2.1 1128 = .ok (.iload_n 3, 1) := by decide +kernel
theorem dL_law_1129 : decode mL_law.2.1 1129 = .ok (.iconst 1, 1) := by decide +kernel
theorem dL_law_1130 : decode mL_law.2.1 1130 = .ok (.iadd, 1) := by decide +kernel
theorem dL_law_1131 : decode mL_law.2.1 1131 = .ok (.iaload, 1) := by decide +kernel
theorem dL_law_1132 : decode mL_law.2.1 1132 = .ok (.aload_n 0, 1) := by decide +kernel
theorem dL_law_1133 : decode mL_law.2.1 1133 = .ok (.iload_n 3, 1) := by decide +kernel
theorem dL_law_1134 : decode mL_law.2.1 1134 = .ok (.iconst 2, 1) := by decide +kernel
theorem dL_law_1135 : decode mL_law.2.1 1135 = .ok (.iadd, 1) := by decide +kernel
theorem dL_law_1136 : decode mL_law.2.1 1136 = .ok (.iaload, 1) := by decide +kernel
theorem dL_law_1137 : decode mL_law.2.1 1137 = .ok (.aload_n 0, 1) := by decide +kernel
theorem dL_law_1138 : decode mL_law.2.1 1138 = .ok (.iload_n 3, 1) := by decide +kernel
theorem dL_law_1139 : decode mL_law.2.1 1139 = .ok (.iconst 3, 1) := by decide +kernel
theorem dL_law_1140 : decode mL_law.2.1 1140 = .ok (.iadd, 1) := by decide +kernel
theorem dL_law_1141 : decode mL_law.2.1 1141 = .ok (.iaload, 1) := by decide +kernel
theorem dL_law_1142 : decode mL_law.2.1 1142 = .ok (.aload_n 0, 1) := by decide +kernel
theorem dL_law_1143 : decode mL_law.2.1 1143 = .ok (.iload_n 3, 1) := by decide +kernel
theorem dL_law_1144 : decode mL_law.2.1 1144 = .ok (.iconst 4, 1) := by decide +kernel
theorem dL_law_1145 : decode mL_law.2.1 1145 = .ok (.iadd, 1) := by decide +kernel
theorem dL_law_1146 : decode mL_law.2.1 1146 = .ok (.iaload, 1) := by decide +kernel
theorem dL_law_1147 : decode mL_law.2.1 1147 = .ok (.aload_n 0, 1) := by decide +kernel
theorem dL_law_1148 : decode mL_law.2.1 1148 = .ok (.iload_n 3, 1) := by decide +kernel
theorem dL_law_1149 : decode mL_law.2.1 1149 = .ok (.iconst 5, 1) := by decide +kernel
theorem dL_law_1150 : decode mL_law.2.1 1150 = .ok (.iadd, 1) := by decide +kernel
theorem dL_law_1151 : decode mL_law.2.1 1151 = .ok (.iaload, 1) := by decide +kernel
theorem dL_law_1152 : decode mL_law.2.1 1152 = .ok (.invokevirtual 143, 3) := by decide +kernel
theorem dL_law_1155 : decode mL_law.2.1 1155 = .ok (.aload_n 2, 1) := by decide +kernel
theorem dL_law_1156 : decode mL_law.2.1 1156 = .ok (.aload_n 0, 1) := by decide +kernel
theorem dL_law_1157 : decode mL_law.2.1 1157 = .ok (.iload_n 3, 1) := by decide +kernel
theorem dL_law_1158 : decode mL_law.2.1 1158 = .ok (.iconst 1, 1) := by decide +kernel
theorem dL_law_1159 : decode mL_law.2.1 1159 = .ok (.iadd, 1) := by decide +kernel
theorem dL_law_1160 : decode mL_law.2.1 1160 = .ok (.iaload, 1) := by decide +kernel
theorem dL_law_1161 : decode mL_law.2.1 1161 = .ok (.aload_n 0, 1) := by decide +kernel
theorem dL_law_1162 : decode mL_law.2.1 1162 = .ok (.iload_n 3, 1) := by decide +kernel
theorem dL_law_1163 : decode mL_law.2.1 1163 = .ok (.iconst 2, 1) := by decide +kernel
theorem dL_law_1164 : decode mL_law.2.1 1164 = .ok (.iadd, 1) := by decide +kernel
theorem dL_law_1165 : decode mL_law.2.1 1165 = .ok (.iaload, 1) := by decide +kernel
theorem dL_law_1166 : decode mL_law.2.1 1166 = .ok (.aload_n 0, 1) := by decide +kernel
theorem dL_law_1167 : decode mL_law.2.1 1167 = .ok (.iload_n 3, 1) := by decide +kernel
theorem dL_law_1168 : decode mL_law.2.1 1168 = .ok (.iconst 3, 1) := by decide +kernel
theorem dL_law_1169 : decode mL_law.2.1 1169 = .ok (.iadd, 1) := by decide +kernel
theorem dL_law_1170 : decode mL_law.2.1 1170 = .ok (.iaload, 1) := by decide +kernel
theorem dL_law_1171 : decode mL_law.2.1 1171 = .ok (.aload_n 0, 1) := by decide +kernel
theorem dL_law_1172 : decode mL_law.2.1 1172 = .ok (.iload_n 3, 1) := by decide +kernel
theorem dL_law_1173 : decode mL_law.2.1 1173 = .ok (.iconst 4, 1) := by decide +kernel
theorem dL_law_1174 : decode mL_law.2.1 1174 = .ok (.iadd, 1) := by decide +kernel
theorem dL_law_1175 : decode mL_law.2.1 1175 = .ok (.iaload, 1) := by decide +kernel
theorem dL_law_1176 : decode mL_law.2.1 1176 = .ok (.aload_n 0, 1) := by decide +kernel
theorem dL_law_1177 : decode mL_law.2.1 1177 = .ok (.iload_n 3, 1) := by decide +kernel
theorem dL_law_1178 : decode mL_law.2.1 1178 = .ok (.iconst 5, 1) := by decide +kernel
theorem dL_law_1179 : decode mL_law.2.1 1179 = .ok (.iadd, 1) := by decide +kernel
theorem dL_law_1180 : decode mL_law.2.1 1180 = .ok (.iaload, 1) := by decide +kernel
theorem dL_law_1181 : decode mL_law.2.1 1181 = .ok (.invokevirtual 147, 3) := by decide +kernel
theorem dL_law_1184 : decode mL_law.2.1 1184 = .ok (.if_icmp .eq 242, 3) := by decide +kernel
theorem dL_law_1187 : decode mL_law.2.1 1187 = .ok (.iconst 0, 1) := by decide +kernel
theorem dL_law_1188 : decode mL_law.2.1 1188 = .ok (.ireturn, 1) := by decide +kernel
theorem dL_law_1189 : decode mL_law.2.1 1189 = .ok (.aload_n 1, 1) := by decide +kernel
theorem dL_law_1190 : decode mL_law.2.1 1190 = .ok (.aload_n 0, 1) := by decide +kernel
theorem dL_law_1191 : decode mL_law.2.1 1191 = .ok (.iload_n 3, 1) := by decide +kernel
theorem dL_law_1192 : decode mL_law.2.1 1192 = .ok (.iconst 1, 1) := by decide +kernel
theorem dL_law_1193 : decode mL_law.2.1 1193 = .ok (.iadd, 1) := by decide +kernel
theorem dL_law_1194 : decode mL_law.2.1 1194 = .ok (.iaload, 1) := by decide +kernel
theorem dL_law_1195 : decode mL_law.2.1 1195 = .ok (.aload_n 0, 1) := by decide +kernel
theorem dL_law_1196 : decode mL_law.2.1 1196 = .ok (.iload_n 3, 1) := by decide +kernel
theorem dL_law_1197 : decode mL_law.2.1 1197 = .ok (.iconst 2, 1) := by decide +kernel
theorem dL_law_1198 : decode mL_law.2.1 1198 = .ok (.iadd, 1) := by decide +kernel
theorem dL_law_1199 : decode mL_law.2.1 1199 = .ok (.iaload, 1) := by decide +kernel
theorem dL_law_1200 : decode mL_law.2.1 1200 = .ok (.aload_n 0, 1) := by decide +kernel
theorem dL_law_1201 : decode mL_law.2.1 1201 = .ok (.iload_n 3, 1) := by decide +kernel
theorem dL_law_1202 : decode mL_law.2.1 1202 = .ok (.iconst 3, 1) := by decide +kernel
theorem dL_law_1203 : decode mL_law.2.1 1203 = .ok (.iadd, 1) := by decide +kernel
theorem dL_law_1204 : decode mL_law.2.1 1204 = .ok (.iaload, 1) := by decide +kernel
theorem dL_law_1205 : decode mL_law.2.1 1205 = .ok (.invokevirtual 148, 3) := by decide +kernel
theorem dL_law_1208 : decode mL_law.2.1 1208 = .ok (.aload_n 2, 1) := by decide +kernel
theorem dL_law_1209 : decode mL_law.2.1 1209 = .ok (.aload_n 0, 1) := by decide +kernel
theorem dL_law_1210 : decode mL_law.2.1 1210 = .ok (.iload_n 3, 1) := by decide +kernel
theorem dL_law_1211 : decode mL_law.2.1 1211 = .ok (.iconst 1, 1) := by decide +kernel
theorem dL_law_1212 : decode mL_law.2.1 1212 = .ok (.iadd, 1) := by decide +kernel
theorem dL_law_1213 : decode mL_law.2.1 1213 = .ok (.iaload, 1) := by decide +kernel
theorem dL_law_1214 : decode mL_law.2.1 1214 = .ok (.aload_n 0, 1) := by decide +kernel
theorem dL_law_1215 : decode mL_law.2.1 1215 = .ok (.iload_n 3, 1) := by decide +kernel
theorem dL_law_1216 : decode mL_law.2.1 1216 = .ok (.iconst 2, 1) := by decide +kernel
theorem dL_law_1217 : decode mL_law.2.1 1217 = .ok (.iadd, 1) := by decide +kernel
theorem dL_law_1218 : decode mL_law.2.1 1218 = .ok (.iaload, 1) := by decide +kernel
theorem dL_law_1219 : decode mL_law.2.1 1219 = .ok (.aload_n 0, 1) := by decide +kernel
theorem dL_law_1220 : decode mL_law.2.1 1220 = .ok (.iload_n 3, 1) := by decide +kernel
theorem dL_law_1221 : decode mL_law.2.1 1221 = .ok (.iconst 3, 1) := by decide +kernel
theorem dL_law_1222 : decode mL_law.2.1 1222 = .ok (.iadd, 1) := by decide +kernel
theorem dL_law_1223 : decode mL_law.2.1 1223 = .ok (.iaload, 1) := by decide +kernel
theorem dL_law_1224 : decode mL_law.2.1 1224 = .ok (.invokevirtual 151, 3) := by decide +kernel
theorem dL_law_1227 : decode mL_law.2.1 1227 = .ok (.if_icmp .eq 199, 3) := by decide +kernel
theorem dL_law_1230 : decode mL_law.2.1 1230 = .ok (.iconst 0, 1) := by decide +kernel
theorem dL_law_1231 : decode mL_law.2.1 1231 = .ok (.ireturn, 1) := by decide +kernel
theorem dL_law_1232 : decode mL_law.2.1 1232 = .ok (.aload_n 1, 1) := by decide +kernel
theorem dL_law_1233 : decode mL_law.2.1 1233 = .ok (.aload_n 0, 1) := by decide +kernel
theorem dL_law_1234 : decode mL_law.2.1 1234 = .ok (.iload_n 3, 1) := by decide +kernel
theorem dL_law_1235 : decode mL_law.2.1 1235 = .ok (.iconst 1, 1) := by decide +kernel
theorem dL_law_1236 : decode mL_law.2.1 1236 = .ok (.iadd, 1) := by decide +kernel
theorem dL_law_1237 : decode mL_law.2.1 1237 = .ok (.iaload, 1) := by decide +kernel
theorem dL_law_1238 : decode mL_law.2.1 1238 = .ok (.aload_n 0, 1) := by decide +kernel
theorem dL_law_1239 : decode mL_law.2.1 1239 = .ok (.iload_n 3, 1) := by decide +kernel
theorem dL_law_1240 : decode mL_law.2.1 1240 = .ok (.iconst 2, 1) := by decide +kernel
theorem dL_law_1241 : decode mL_law.2.1 1241 = .ok (.iadd, 1) := by decide +kernel
theorem dL_law_1242 : decode mL_law.2.1 1242 = .ok (.iaload, 1) := by decide +kernel
theorem dL_law_1243 : decode mL_law.2.1 1243 = .ok (.invokevirtual 152, 3) := by decide +kernel
theorem dL_law_1246 : decode mL_law.2.1 1246 = .ok (.aload_n 2, 1) := by decide +kernel
theorem dL_law_1247 : decode mL_law.2.1 1247 = .ok (.aload_n 0, 1) := by decide +kernel
theorem dL_law_1248 : decode mL_law.2.1 1248 = .ok (.iload_n 3, 1) := by decide +kernel
theorem dL_law_1249 : decode mL_law.2.1 1249 = .ok (.iconst 1, 1) := by decide +kernel
theorem dL_law_1250 : decode mL_law.2.1 1250 = .ok (.iadd, 1) := by decide +kernel
theorem dL_law_1251 : decode mL_law.2.1 1251 = .ok (.iaload, 1) := by decide +kernel
theorem dL_law_1252 : decode mL_law.2.1 1252 = .ok (.aload_n 0, 1) := by decide +kernel
theorem dL_law_1253 : decode mL_law.2.1 1253 = .ok (.iload_n 3, 1) := by decide +kernel
theorem dL_law_1254 : decode mL_law.2.1 1254 = .ok (.iconst 2, 1) := by decide +kernel
theorem dL_law_1255 : decode mL_law.2.1 1255 = .ok (.iadd, 1) := by decide +kernel
theorem dL_law_1256 : decode mL_law.2.1 1256 = .ok (.iaload, 1) := by decide +kernel
theorem dL_law_1257 : decode mL_law.2.1 1257 = .ok (.invokevirtual 155, 3) := by decide +kernel
theorem dL_law_1260 : decode mL_law.2.1 1260 = .ok (.if_icmp .eq 166, 3) := by decide +kernel
theorem dL_law_1263 : decode mL_law.2.1 1263 = .ok (.iconst 0, 1) := by decide +kernel
theorem dL_law_1264 : decode mL_law.2.1 1264 = .ok (.ireturn, 1) := by decide +kernel
theorem dL_law_1265 : decode mL_law.2.1 1265 = .ok (.aload_n 1, 1) := by decide +kernel
theorem dL_law_1266 : decode mL_law.2.1 1266 = .ok (.aload_n 0, 1) := by decide +kernel
theorem dL_law_1267 : decode mL_law.2.1 1267 = .ok (.iload_n 3, 1) := by decide +kernel
theorem dL_law_1268 : decode mL_law.2.1 1268 = .ok (.iconst 1, 1) := by decide +kernel
theorem dL_law_1269 : decode mL_law.2.1 1269 = .ok (.iadd, 1) := by decide +kernel
theorem dL_law_1270 : decode mL_law.2.1 1270 = .ok (.iaload, 1) := by decide +kernel
theorem dL_law_1271 : decode mL_law.2.1 1271 = .ok (.aload_n 0, 1) := by decide +kernel
theorem dL_law_1272 : decode mL_law.2.1 1272 = .ok (.iload_n 3, 1) := by decide +kernel
theorem dL_law_1273 : decode mL_law.2.1 1273 = .ok (.iconst 2, 1) := by decide +kernel
theorem dL_law_1274 : decode mL_law.2.1 1274 = .ok (.iadd, 1) := by decide +kernel
theorem dL_law_1275 : decode mL_law.2.1 1275 = .ok (.iaload, 1) := by decide +kernel
theorem dL_law_1276 : decode mL_law.2.1 1276 = .ok (.invokevirtual 156, 3) := by decide +kernel
theorem dL_law_1279 : decode mL_law.2.1 1279 = .ok (.aload_n 2, 1) := by decide +kernel
theorem dL_law_1280 : decode mL_law.2.1 1280 = .ok (.aload_n 0, 1) := by decide +kernel
theorem dL_law_1281 : decode mL_law.2.1 1281 = .ok (.iload_n 3, 1) := by decide +kernel
theorem dL_law_1282 : decode mL_law.2.1 1282 = .ok (.iconst 1, 1) := by decide +kernel
theorem dL_law_1283 : decode mL_law.2.1 1283 = .ok (.iadd, 1) := by decide +kernel
theorem dL_law_1284 : decode mL_law.2.1 1284 = .ok (.iaload, 1) := by decide +kernel
theorem dL_law_1285 : decode mL_law.2.1 1285 = .ok (.aload_n 0, 1) := by decide +kernel
theorem dL_law_1286 : decode mL_law.2.1 1286 = .ok (.iload_n 3, 1) := by decide +kernel
theorem dL_law_1287 : decode mL_law.2.1 1287 = .ok (.iconst 2, 1) := by decide +kernel
theorem dL_law_1288 : decode mL_law.2.1 1288 = .ok (.iadd, 1) := by decide +kernel
theorem dL_law_1289 : decode mL_law.2.1 1289 = .ok (.iaload, 1) := by decide +kernel
theorem dL_law_1290 : decode mL_law.2.1 1290 = .ok (.invokevirtual 159, 3) := by decide +kernel
theorem dL_law_1293 : decode mL_law.2.1 1293 = .ok (.if_icmp .eq 133, 3) := by decide +kernel
theorem dL_law_1296 : decode mL_law.2.1 1296 = .ok (.iconst 0, 1) := by decide +kernel
theorem dL_law_1297 : decode mL_law.2.1 1297 = .ok (.ireturn, 1) := by decide +kernel
theorem dL_law_1298 : decode mL_law.2.1 1298 = .ok (.aload_n 1, 1) := by decide +kernel
theorem dL_law_1299 : decode mL_law.2.1 1299 = .ok (.aload_n 0, 1) := by decide +kernel
theorem dL_law_1300 : decode mL_law.2.1 1300 = .ok (.iload_n 3, 1) := by decide +kernel
theorem dL_law_1301 : decode mL_law.2.1 1301 = .ok (.iconst 1, 1) := by decide +kernel
theorem dL_law_1302 : decode mL_law.2.1 1302 = .ok (.iadd, 1) := by decide +kernel
theorem dL_law_1303 : decode mL_law.2.1 1303 = .ok (.iaload, 1) := by decide +kernel
theorem dL_law_1304 : decode mL_law.2.1 1304 = .ok (.aload_n 0, 1) := by decide +kernel
theorem dL_law_1305 : decode mL_law.2.1 1305 = .ok (.iload_n 3, 1) := by decide +kernel
theorem dL_law_1306 : decode mL_law.2.1 1306 = .ok (.iconst 2, 1) := by decide +kernel
theorem dL_law_1307 : decode mL_law.2.1 1307 = .ok (.iadd, 1) := by decide +kernel
theorem dL_law_1308 : decode mL_law.2.1 1308 = .ok (.iaload, 1) := by decide +kernel
theorem dL_law_1309 : decode mL_law.2.1 1309 = .ok (.invokevirtual 160, 3) := by decide +kernel
theorem dL_law_1312 : decode mL_law.2.1 1312 = .ok (.aload_n 2, 1) := by decide +kernel
theorem dL_law_1313 : decode mL_law.2.1 1313 = .ok (.aload_n 0, 1) := by decide +kernel
theorem dL_law_1314 : decode mL_law.2.1 1314 = .ok (.iload_n 3, 1) := by decide +kernel
theorem dL_law_1315 : decode mL_law.2.1 1315 = .ok (.iconst 1, 1) := by decide +kernel
theorem dL_law_1316 : decode mL_law.2.1 1316 = .ok (.iadd, 1) := by decide +kernel
theorem dL_law_1317 : decode mL_law.2.1 1317 = .ok (.iaload, 1) := by decide +kernel
theorem dL_law_1318 : decode mL_law.2.1 1318 = .ok (.aload_n 0, 1) := by decide +kernel
theorem dL_law_1319 : decode mL_law.2.1 1319 = .ok (.iload_n 3, 1) := by decide +kernel
theorem dL_law_1320 : decode mL_law.2.1 1320 = .ok (.iconst 2, 1) := by decide +kernel
theorem dL_law_1321 : decode mL_law.2.1 1321 = .ok (.iadd, 1) := by decide +kernel
theorem dL_law_1322 : decode mL_law.2.1 1322 = .ok (.iaload, 1) := by decide +kernel
theorem dL_law_1323 : decode mL_law.2.1 1323 = .ok (.invokevirtual 163, 3) := by decide +kernel
theorem dL_law_1326 : decode mL_law.2.1 1326 = .ok (.if_icmp .eq 100, 3) := by decide +kernel
theorem dL_law_1329 : decode mL_law.2.1 1329 = .ok (.iconst 0, 1) := by decide +kernel
theorem dL_law_1330 : decode mL_law.2.1 1330 = .ok (.ireturn, 1) := by decide +kernel
theorem dL_law_1331 : decode mL_law.2.1 1331 = .ok (.aload_n 1, 1) := by decide +kernel
theorem dL_law_1332 : decode mL_law.2.1 1332 = .ok (.aload_n 0, 1) := by decide +kernel
theorem dL_law_1333 : decode mL_law.2.1 1333 = .ok (.iload_n 3, 1) := by decide +kernel
theorem dL_law_1334 : decode mL_law.2.1 1334 = .ok (.iconst 1, 1) := by decide +kernel
theorem dL_law_1335 : decode mL_law.2.1 1335 = .ok (.iadd, 1) := by decide +kernel
theorem dL_law_1336 : decode mL_law.2.1 1336 = .ok (.iaload, 1) := by decide +kernel
theorem dL_law_1337 : decode mL_law.2.1 1337 = .ok (.invokevirtual 164, 3) := by decide +kernel
theorem dL_law_1340 : decode mL_law.2.1 1340 = .ok (.aload_n 2, 1) := by decide +kernel
theorem dL_law_1341 : decode mL_law.2.1 1341 = .ok (.aload_n 0, 1) := by decide +kernel
theorem dL_law_1342 : decode mL_law.2.1 1342 = .ok (.iload_n 3, 1) := by decide +kernel
theorem dL_law_1343 : decode mL_law.2.1 1343 = .ok (.iconst 1, 1) := by decide +kernel
theorem dL_law_1344 : decode mL_law.2.1 1344 = .ok (.iadd, 1) := by decide +kernel
theorem dL_law_1345 : decode mL_law.2.1 1345 = .ok (.iaload, 1) := by decide +kernel
theorem dL_law_1346 : decode mL_law.2.1 1346 = .ok (.invokevirtual 167, 3) := by decide +kernel
theorem dL_law_1349 : decode mL_law.2.1 1349 = .ok (.if_icmp .eq 77, 3) := by decide +kernel
theorem dL_law_1352 : decode mL_law.2.1 1352 = .ok (.iconst 0, 1) := by decide +kernel
theorem dL_law_1353 : decode mL_law.2.1 1353 = .ok (.ireturn, 1) := by decide +kernel
theorem dL_law_1354 : decode mL_law.2.1 1354 = .ok (.aload_n 1, 1) := by decide +kernel
theorem dL_law_1355 : decode mL_law.2.1 1355 = .ok (.aload_n 0, 1) := by decide +kernel
theorem dL_law_1356 : decode mL_law.2.1 1356 = .ok (.iload_n 3, 1) := by decide +kernel
theorem dL_law_1357 : decode mL_law.2.1 1357 = .ok (.iconst 1, 1) := by decide +kernel
theorem dL_law_1358 : decode mL_law.2.1 1358 = .ok (.iadd, 1) := by decide +kernel
theorem dL_law_1359 : decode mL_law.2.1 1359 = .ok (.iaload, 1) := by decide +kernel
theorem dL_law_1360 : decode mL_law.2.1 1360 = .ok (.invokevirtual 168, 3) := by decide +kernel
theorem dL_law_1363 : decode mL_law.2.1 1363 = .ok (.aload_n 2, 1) := by decide +kernel
theorem dL_law_1364 : decode mL_law.2.1 1364 = .ok (.aload_n 0, 1) := by decide +kernel
theorem dL_law_1365 : decode mL_law.2.1 1365 = .ok (.iload_n 3, 1) := by decide +kernel
theorem dL_law_1366 : decode mL_law.2.1 1366 = .ok (.iconst 1, 1) := by decide +kernel
theorem dL_law_1367 : decode mL_law.2.1 1367 = .ok (.iadd, 1) := by decide +kernel
theorem dL_law_1368 : decode mL_law.2.1 1368 = .ok (.iaload, 1) := by decide +kernel
theorem dL_law_1369 : decode mL_law.2.1 1369 = .ok (.invokevirtual 171, 3) := by decide +kernel
theorem dL_law_1372 : decode mL_law.2.1 1372 = .ok (.if_icmp .eq 54, 3) := by decide +kernel
theorem dL_law_1375 : decode mL_law.2.1 1375 = .ok (.iconst 0, 1) := by decide +kernel
theorem dL_law_1376 : decode mL_law.2.1 1376 = .ok (.ireturn, 1) := by decide +kernel
theorem dL_law_1377 : decode mL_law.2.1 1377 = .ok (.aload_n 1, 1) := by decide +kernel
theorem dL_law_1378 : decode mL_law.2.1 1378 = .ok (.invokevirtual 172, 3) := by decide +kernel
theorem dL_law_1381 : decode mL_law.2.1 1381 = .ok (.aload_n 2, 1) := by decide +kernel
theorem dL_law_1382 : decode mL_law.2.1 1382 = .ok (.invokevirtual 175, 3) := by decide +kernel
theorem dL_law_1385 : decode mL_law.2.1 1385 = .ok (.if_icmp .eq 41, 3) := by decide +kernel
theorem dL_law_1388 : decode mL_law.2.1 1388 = .ok (.iconst 0, 1) := by decide +kernel
theorem dL_law_1389 : decode mL_law.2.1 1389 = .ok (.ireturn, 1) := by decide +kernel
theorem dL_law_1390 : decode mL_law.2.1 1390 = .ok (.aload_n 1, 1) := by decide +kernel
theorem dL_law_1391 : decode mL_law.2.1 1391 = .ok (.invokevirtual 176, 3) := by decide +kernel
theorem dL_law_1394 : decode mL_law.2.1 1394 = .ok (.aload_n 2, 1) := by decide +kernel
theorem dL_law_1395 : decode mL_law.2.1 1395 = .ok (.invokevirtual 179, 3) := by decide +kernel
theorem dL_law_1398 : decode mL_law.2.1 1398 = .ok (.if_icmp .eq 28, 3) := by decide +kernel
theorem dL_law_1401 : decode mL_law.2.1 1401 = .ok (.iconst 0, 1) := by decide +kernel
theorem dL_law_1402 : decode mL_law.2.1 1402 = .ok (.ireturn, 1) := by decide +kernel
theorem dL_law_1403 : decode mL_law.2.1 1403 = .ok (.aload_n 1, 1) := by decide +kernel
theorem dL_law_1404 : decode mL_law.2.1 1404 = .ok (.aload_n 0, 1) := by decide +kernel
theorem dL_law_1405 : decode mL_law.2.1 1405 = .ok (.iload_n 3, 1) := by decide +kernel
theorem dL_law_1406 : decode mL_law.2.1 1406 = .ok (.iconst 1, 1) := by decide +kernel
theorem dL_law_1407 : decode mL_law.2.1 1407 = .ok (.iadd, 1) := by decide +kernel
theorem dL_law_1408 : decode mL_law.2.1 1408 = .ok (.iaload, 1) := by decide +kernel
theorem dL_law_1409 : decode mL_law.2.1 1409 = .ok (.invokevirtual 180, 3) := by decide +kernel
theorem dL_law_1412 : decode mL_law.2.1 1412 = .ok (.aload_n 2, 1) := by decide +kernel
theorem dL_law_1413 : decode mL_law.2.1 1413 = .ok (.aload_n 0, 1) := by decide +kernel
theorem dL_law_1414 : decode mL_law.2.1 1414 = .ok (.iload_n 3, 1) := by decide +kernel
theorem dL_law_1415 : decode mL_law.2.1 1415 = .ok (.iconst 1, 1) := by decide +kernel
theorem dL_law_1416 : decode mL_law.2.1 1416 = .ok (.iadd, 1) := by decide +kernel
theorem dL_law_1417 : decode mL_law.2.1 1417 = .ok (.iaload, 1) := by decide +kernel
theorem dL_law_1418 : decode mL_law.2.1 1418 = .ok (.invokevirtual 183, 3) := by decide +kernel
theorem dL_law_1421 : decode mL_law.2.1 1421 = .ok (.if_icmp .eq 5, 3) := by decide +kernel
theorem dL_law_1424 : decode mL_law.2.1 1424 = .ok (.iconst 0, 1) := by decide +kernel
theorem dL_law_1425 : decode mL_law.2.1 1425 = .ok (.ireturn, 1) := by decide +kernel
theorem dL_law_1426 : decode mL_law.2.1 1426 = .ok (.iinc 3 6, 3) := by decide +kernel
theorem dL_law_1429 : decode mL_law.2.1 1429 = .ok (.goto (-1411), 3) := by decide +kernel
theorem dL_law_1432 : decode mL_law.2.1 1432 = .ok (.iconst 1, 1) := by decide +kernel
theorem dL_law_1433 : decode mL_law.2.1 1433 = .ok (.ireturn, 1) := by decide +kernel
