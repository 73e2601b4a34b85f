theorem dX9_textTold_1 : decode mX9_textTold.2.1 1 = .ok (.getfield 10, 3) := by decide +kernel
theorem dX9_textTold_4 : decode mX9_textTold.2.1 4 = .ok (.iload_n 1, 1) := by decide +kernel
theorem dX9_textTold_5 : decode mX9_textTold.2.1 5 = .ok (.invokevirtual 247, 3) := by decide +kernel
theorem dX9_textTold_8 : decode mX9_textTold.2.1 8 = .ok (.astore_n 3, 1) := by decide +kernel
theorem dX9_textTold_9 : decode mX9_textTold.2.1 9 = .ok (.aload_n 3, 1) := by decide +kernel
theorem dX9_textTold_10 : decode mX9_textTold.2.1 10 = .ok (.ifnull 12, 3) := by decide +kernel
theorem dX9_textTold_13 : decode mX9_textTold.2.1 13 = .ok (.iload_n 2, 1) := by decide +kernel
theorem dX9_textTold_14 : decode mX9_textTold.2.1 14 = .ok (.iconst 0, 1) := by decide +kernel
theorem dX9_textTold_15 : decode mX9_textTold.2.1 15 = .ok (.iconst 1, 1) := by decide +kernel
theorem dX9_textTold_16 : decode mX9_textTold.2.1 16 = .ok (.invokestatic 86, 3) := by decide +kernel
theorem dX9_textTold_19 : decode mX9_textTold.2.1 19 = .ok (.ifCond .ne 6, 3) := by decide +kernel
theorem dX9_textTold_22 : decode mX9_textTold.2.1 22 = .ok (.ldc 77, 2) := by decide +kernel
theorem dX9_textTold_24 : decode mX9_textTold.2.1 24 = .ok (.ireturn, 1) := by decide +kernel
theorem dX9_textTold_25 : decode mX9_textTold.2.1 25 = .ok (.iload_n 2, 1) := by decide +kernel
theorem dX9_textTold_26 : decode mX9_textTold.2.1 26 = .ok (.ifCond .ne 10, 3) := by decide +kernel
theorem dX9_textTold_29 : decode mX9_textTold.2.1 29 = .ok (.aload_n 3, 1) := by decide +kernel
theorem dX9_textTold_30 : decode mX9_textTold.2.1 30 = .ok (.getfield 251, 3) := by decide +kernel
theorem dX9_textTold_33 : decode mX9_textTold.2.1 33 = .ok (.goto 7, 3) := by decide +kernel
theorem dX9_textTold_36 : decode mX9_textTold.2.1 36 = .ok (.aload_n 3, 1) := by decide +kernel
theorem dX9_textTold_37 : decode mX9_textTold.2.1 37 = .ok (.getfield 256, 3) := by decide +kernel
theorem dX9_textTold_40 : decode mX9_textTold.2.1 40 = .ok (.ireturn, 1) := by decide +kernel
theorem dX9_why_0 : decode mX9_why.2.1 0 = .ok (.iload_n 1, 1) := by decide +kernel
theorem dX9_why_1 : decode mX9_why.2.1 1 = .ok (.iconst 0, 1) := by decide +kernel
theorem dX9_why_2 : decode mX9_why.2.1 2 = .ok (.iconst 2, 1) := by decide +kernel
theorem dX9_why_3 : decode mX9_why.2.1 3 = .ok (.invokestatic 86, 3) := by decide +kernel
theorem dX9_why_6 : decode mX9_why.2.1 6 = .ok (.ifCond .eq 15, 3) := by decide +kernel
theorem dX9_why_9 : decode mX9_why.2.1 9 = .ok (.aload_n 0, 1) := by decide +kernel
theorem dX9_why_10 : decode mX9_why.2.1 10 = .ok (.getfield 10, 3) := by decide +kernel
theorem dX9_why_13 : decode mX9_why.2.1 13 = .ok (.getfield 259, 3) := by decide +kernel
theorem dX9_why_16 : decode mX9_why.2.1 16 = .ok (.iload_n 1, 1) := by decide +kernel
theorem dX9_why_17 : decode mX9_why.2.1 17 = .ok (.iaload, 1) := by decide +kernel
theorem dX9_why_18 : decode mX9_why.2.1 18 = .ok (.goto 5, 3) := by decide +kernel
theorem dX9_why_21 : decode mX9_why.2.1 21 = .ok (.ldc 77, 2) := by decide +kernel
theorem dX9_why_23 : decode mX9_why.2.1 23 = .ok (.ireturn, 1) := by decide +kernel
theorem dX9_sheet_0 : decode mX9_sheet.2.1 0 = .ok (.aload_n 0, 1) := by decide +kernel
theorem dX9_sheet_1 : decode mX9_sheet.2.1 1 = .ok (.iload_n 1, 1) := by decide +kernel
theorem dX9_sheet_2 : decode mX9_sheet.2.1 2 = .ok (.invokevirtual 262, 3) := by decide +kernel
theorem dX9_sheet_5 : decode mX9_sheet.2.1 5 = .ok (.astore 4, 2) := by decide +kernel
theorem dX9_sheet_7 : decode mX9_sheet.2.1 7 = .ok (.aload 4, 2) := by decide +kernel
theorem dX9_sheet_9 : decode mX9_sheet.2.1 9 = .ok (.ifnull 23, 3) := by decide +kernel
theorem dX9_sheet_12 : decode mX9_sheet.2.1 12 = .ok (.iload_n 2, 1) := by decide +kernel
theorem dX9_sheet_13 : decode mX9_sheet.2.1 13 = .ok (.iconst (-1), 1) := by decide +kernel
theorem dX9_sheet_14 : decode mX9_sheet.2.1 14 = .ok (.iconst 1, 1) := by decide +kernel
theorem dX9_sheet_15 : decode mX9_sheet.2.1 15 = .ok (.invokestatic 86, 3) := by decide +kernel
theorem dX9_sheet_18 : decode mX9_sheet.2.1 18 = .ok (.ifCond .eq 14, 3) := by decide +kernel
theorem dX9_sheet_21 : decode mX9_sheet.2.1 21 = .ok (.iload_n 2, 1) := by decide +kernel
theorem dX9_sheet_22 : decode mX9_sheet.2.1 22 = .ok (.iconst (-1), 1) := by decide +kernel
theorem dX9_sheet_23 : decode mX9_sheet.2.1 23 = .ok (.if_icmp .eq 12, 3) := by decide +kernel
theorem dX9_sheet_26 : decode mX9_sheet.2.1 26 = .ok (.iload_n 3, 1) := by decide +kernel
theorem dX9_sheet_27 : decode mX9_sheet.2.1 27 = .ok (.bipush 24, 2) := by decide +kernel
theorem dX9_sheet_29 : decode mX9_sheet.2.1 29 = .ok (.if_icmp .le 6, 3) := by decide +kernel
theorem dX9_sheet_32 : decode mX9_sheet.2.1 32 = .ok (.ldc 77, 2) := by decide +kernel
theorem dX9_sheet_34 : decode mX9_sheet.2.1 34 = .ok (.ireturn, 1) := by decide +kernel
theorem dX9_sheet_35 : decode mX9_sheet.2.1 35 = .ok (.iload_n 2, 1) := by decide +kernel
theorem dX9_sheet_36 : decode mX9_sheet.2.1 36 = .ok (.iconst (-1), 1) := by decide +kernel
theorem dX9_sheet_37 : decode mX9_sheet.2.1 37 = .ok (.if_icmp .eq 11, 3) := by decide +kernel
theorem dX9_sheet_40 : decode mX9_sheet.2.1 40 = .ok (.iload_n 3, 1) := by decide +kernel
theorem dX9_sheet_41 : decode mX9_sheet.2.1 41 = .ok (.ifCond .ge 7, 3) := by decide +kernel
theorem dX9_sheet_44 : decode mX9_sheet.2.1 44 = .ok (.ldc_w 266, 3) := by decide +kernel
theorem dX9_sheet_47 : decode mX9_sheet.2.1 47 = .ok (.ireturn, 1) := by decide +kernel
theorem dX9_sheet_48 : decode mX9_sheet.2.1 48 = .ok (.aload 4, 2) := by decide +kernel
theorem dX9_sheet_50 : decode mX9_sheet.2.1 50 = .ok (.iload_n 2, 1) := by decide +kernel
theorem dX9_sheet_51 : decode mX9_sheet.2.1 51 = .ok (.iload_n 2, 1) := by decide +kernel
theorem dX9_sheet_52 : decode mX9_sheet.2.1 52 = .ok (.iconst (-1), 1) := by decide +kernel
theorem dX9_sheet_53 : decode mX9_sheet.2.1 53 = .ok (.if_icmp .ne 7, 3) := by decide +kernel
theorem dX9_sheet_56 : decode mX9_sheet.2.1 56 = .ok (.iconst 0, 1) := by decide +kernel
theorem dX9_sheet_57 : decode mX9_sheet.2.1 57 = .ok (.goto 4, 3) := by decide +kernel
theorem dX9_sheet_60 : decode mX9_sheet.2.1 60 = .ok (.iload_n 3, 1) := by decide +kernel
theorem dX9_sheet_61 : decode mX9_sheet.2.1 61 = .ok (.invokevirtual 267, 3) := by decide +kernel
theorem dX9_sheet_64 : decode mX9_sheet.2.1 64 = .ok (.aload 4, 2) := by decide +kernel
theorem dX9_sheet_66 : decode mX9_sheet.2.1 66 = .ok (.getfield 271, 3) := by decide +kernel
theorem dX9_sheet_69 : decode mX9_sheet.2.1 69 = .ok (.ireturn, 1) := by decide +kernel
theorem dX9_mark_0 : decode mX9_mark.2.1 0 = .ok (.aload_n 0, 1) := by decide +kernel
theorem dX9_mark_1 : decode mX9_mark.2.1 1 = .ok (.iload_n 1, 1) := by decide +kernel
theorem dX9_mark_2 : decode mX9_mark.2.1 2 = .ok (.invokevirtual 262, 3) := by decide +kernel
theorem dX9_mark_5 : decode mX9_mark.2.1 5 = .ok (.astore 4, 2) := by decide +kernel
theorem dX9_mark_7 : decode mX9_mark.2.1 7 = .ok (.aload 4, 2) := by decide +kernel
theorem dX9_mark_9 : decode mX9_mark.2.1 9 = .ok (.ifnonnull 6, 3) := by decide +kernel
theorem dX9_mark_12 : decode mX9_mark.2.1 12 = .ok (.ldc 77, 2) := by decide +kernel
theorem dX9_mark_14 : decode mX9_mark.2.1 14 = .ok (.ireturn, 1) := by decide +kernel
theorem dX9_mark_15 : decode mX9_mark.2.1 15 = .ok (.aload 4, 2) := by decide +kernel
theorem dX9_mark_17 : decode mX9_mark.2.1 17 = .ok (.getfield 272, 3) := by decide +kernel
theorem dX9_mark_20 : decode mX9_mark.2.1 20 = .ok (.iconst (-1), 1) := by decide +kernel
theorem dX9_mark_21 : decode mX9_mark.2.1 21 = .ok (.if_icmp .ne 7, 3) := by decide +kernel
theorem dX9_mark_24 : decode mX9_mark.2.1 24 = .ok (.ldc_w 275, 3) := by decide +kernel
theorem dX9_mark_27 : decode mX9_mark.2.1 27 = .ok (.ireturn, 1) := by decide +kernel
theorem dX9_mark_28 : decode mX9_mark.2.1 28 = .ok (.aload 4, 2) := by decide +kernel
theorem dX9_mark_30 : decode mX9_mark.2.1 30 = .ok (.iload_n 2, 1) := by decide +kernel
theorem dX9_mark_31 : decode mX9_mark.2.1 31 = .ok (.invokevirtual 276, 3) := by decide +kernel
theorem dX9_mark_34 : decode mX9_mark.2.1 34 = .ok (.ifCond .ne 7, 3) := by decide +kernel
theorem dX9_mark_37 : decode mX9_mark.2.1 37 = .ok (.ldc_w 279, 3) := by decide +kernel
theorem dX9_mark_40 : decode mX9_mark.2.1 40 = .ok (.ireturn, 1) := by decide +kernel
theorem dX9_mark_41 : decode mX9_mark.2.1 41 = .ok (.aload 4, 2) := by decide +kernel
theorem dX9_mark_43 : decode mX9_mark.2.1 43 = .ok (.getfield 272, 3) := by decide +kernel
theorem dX9_mark_46 : decode mX9_mark.2.1 46 = .ok (.ifCond .ne 12, 3) := by decide +kernel
theorem dX9_mark_49 : decode mX9_mark.2.1 49 = .ok (.iload_n 3, 1) := by decide +kernel
theorem dX9_mark_50 : decode mX9_mark.2.1 50 = .ok (.ldc 141, 2) := by decide +kernel
theorem dX9_mark_52 : decode mX9_mark.2.1 52 = .ok (.if_icmp .ne 6, 3) := by decide +kernel
theorem dX9_mark_55 : decode mX9_mark.2.1 55 = .ok (.ldc 133, 2) := by decide +kernel
theorem dX9_mark_57 : decode mX9_mark.2.1 57 = .ok (.ireturn, 1) := by decide +kernel
theorem dX9_mark_58 : decode mX9_mark.2.1 58 = .ok (.aload 4, 2) := by decide +kernel
theorem dX9_mark_60 : decode mX9_mark.2.1 60 = .ok (.getfield 272, 3) := by decide +kernel
theorem dX9_mark_63 : decode mX9_mark.2.1 63 = .ok (.iconst 1, 1) := by decide +kernel
theorem dX9_mark_64 : decode mX9_mark.2.1 64 = .ok (.if_icmp .ne 25, 3) := by decide +kernel
theorem dX9_mark_67 : decode mX9_mark.2.1 67 = .ok (.iload_n 3, 1) := by decide +kernel
theorem dX9_mark_68 : decode mX9_mark.2.1 68 = .ok (.ldc 141, 2) := by decide +kernel
theorem dX9_mark_70 : decode mX9_mark.2.1 70 = .ok (.if_icmp .eq 19, 3) := by decide +kernel
theorem dX9_mark_73 : decode mX9_mark.2.1 73 = .ok (.iload_n 3, 1) := by decide +kernel
theorem dX9_mark_74 : decode mX9_mark.2.1 74 = .ok (.ldc_w 280, 3) := by decide +kernel
theorem dX9_mark_77 : decode mX9_mark.2.1 77 = .ok (.ldc_w 281, 3) := by decide +kernel
theorem dX9_mark_80 : decode mX9_mark.2.1 80 = .ok (.invokestatic 86, 3) := by decide +kernel
theorem dX9_mark_83 : decode mX9_mark.2.1 83 = .ok (.ifCond .ne 6, 3) := by decide +kernel
theorem dX9_mark_86 : decode mX9_mark.2.1 86 = .ok (.ldc 77, 2) := by decide +kernel
theorem dX9_mark_88 : decode mX9_mark.2.1 88 = .ok (.ireturn, 1) := by decide +kernel
theorem dX9_mark_89 : decode mX9_mark.2.1 89 = .ok (.aload 4, 2) := by decide +kernel
theorem dX9_mark_91 : decode mX9_mark.2.1 91 = .ok (.getfield 282, 3) := by decide +kernel
theorem dX9_mark_94 : decode mX9_mark.2.1 94 = .ok (.iload_n 2, 1) := by decide +kernel
theorem dX9_mark_95 : decode mX9_mark.2.1 95 = .ok (.aload 4, 2) := by decide +kernel
theorem dX9_mark_97 : decode mX9_mark.2.1 97 = .ok (.getfield 272, 3) := by decide +kernel
theorem dX9_mark_100 : decode mX9_mark.2.1 100 = .ok (.ifCond .ne 8, 3) := by decide +kernel
theorem dX9_mark_103 : decode mX9_mark.2.1 103 = .ok (.iload_n 3, 1) := by decide +kernel
theorem dX9_mark_104 : decode mX9_mark.2.1 104 = .ok (.i2s, 1) := by decide +kernel
theorem dX9_mark_105 : decode mX9_mark.2.1 105 = .ok (.goto 4, 3) := by decide +kernel
theorem dX9_mark_108 : decode mX9_mark.2.1 108 = .ok (.iload_n 3, 1) := by decide +kernel
theorem dX9_mark_109 : decode mX9_mark.2.1 109 = .ok (.iastore, 1) := by decide +kernel
theorem dX9_mark_110 : decode mX9_mark.2.1 110 = .ok (.iconst 1, 1) := by decide +kernel
theorem dX9_mark_111 : decode mX9_mark.2.1 111 = .ok (.ireturn, 1) := by decide +kernel
theorem dX9_learn_0 : decode mX9_learn.2.1 0 = .ok (.aload_n 0, 1) := by decide +kernel
theorem dX9_learn_1 : decode mX9_learn.2.1 1 = .ok (.iload_n 1, 1) := by decide +kernel
theorem dX9_learn_2 : decode mX9_learn.2.1 2 = .ok (.invokevirtual 262, 3) := by decide +kernel
theorem dX9_learn_5 : decode mX9_learn.2.1 5 = .ok (.astore_n 2, 1) := by decide +kernel
theorem dX9_learn_6 : decode mX9_learn.2.1 6 = .ok (.aload_n 2, 1) := by decide +kernel
theorem dX9_learn_7 : decode mX9_learn.2.1 7 = .ok (.ifnonnull 6, 3) := by decide +kernel
theorem dX9_learn_10 : decode mX9_learn.2.1 10 = .ok (.ldc 77, 2) := by decide +kernel
theorem dX9_learn_12 : decode mX9_learn.2.1 12 = .ok (.ireturn, 1) := by decide +kernel
theorem dX9_learn_13 : decode mX9_learn.2.1 13 = .ok (.aload_n 2, 1) := by decide +kernel
theorem dX9_learn_14 : decode mX9_learn.2.1 14 = .ok (.getfield 272, 3) := by decide +kernel
theorem dX9_learn_17 : decode mX9_learn.2.1 17 = .ok (.iconst (-1), 1) := by decide +kernel
theorem dX9_learn_18 : decode mX9_learn.2.1 18 = .ok (.if_icmp .ne 7, 3) := by decide +kernel
theorem dX9_learn_21 : decode mX9_learn.2.1 21 = .ok (.ldc_w 275, 3) := by decide +kernel
theorem dX9_learn_24 : decode mX9_learn.2.1 24 = .ok (.ireturn, 1) := by decide +kernel
theorem dX9_learn_25 : decode mX9_learn.2.1 25 = .ok (.aload_n 0, 1) := by decide +kernel
theorem dX9_learn_26 : decode mX9_learn.2.1 26 = .ok (.getfield 26, 3) := by decide +kernel
theorem dX9_learn_29 : decode mX9_learn.2.1 29 = .ok (.aload_n 0, 1) := by decide +kernel
theorem dX9_learn_30 : decode mX9_learn.2.1 30 = .ok (.getfield 10, 3) := by decide +kernel
theorem dX9_learn_33 : decode mX9_learn.2.1 33 = .ok (.invokevirtual 165, 3) := by decide +kernel
theorem dX9_learn_36 : decode mX9_learn.2.1 36 = .ok (.ldc 141, 2) := by decide +kernel
theorem dX9_learn_38 : decode mX9_learn.2.1 38 = .ok (.istore_n 3, 1) := by decide +kernel
theorem dX9_learn_39 : decode mX9_learn.2.1 39 = .ok (.iconst 0, 1) := by decide +kernel
theorem dX9_learn_40 : decode mX9_learn.2.1 40 = .ok (.istore 4, 2) := by decide +kernel
theorem dX9_learn_42 : decode mX9_learn.2.1 42 = .ok (.iconst 0, 1) := by decide +kernel
theorem dX9_learn_43 : decode mX9_learn.2.1 43 = .ok (.istore 5, 2) := by decide +kernel
theorem dX9_learn_45 : decode mX9_learn.2.1 45 = .ok (.iload 5, 2) := by decide +kernel
theorem dX9_learn_47 : decode mX9_learn.2.1 47 = .ok (.aload_n 0, 1) := by decide +kernel
theorem dX9_learn_48 : decode mX9_learn.2.1 48 = .ok (.getfield 10, 3) := by decide +kernel
theorem dX9_learn_51 : decode mX9_learn.2.1 51 = .ok (.getfield 94, 3) := by decide +kernel
theorem dX9_learn_54 : decode mX9_learn.2.1 54 = .ok (.if_icmp .ge 52, 3) := by decide +kernel
theorem dX9_learn_57 : decode mX9_learn.2.1 57 = .ok (.aload_n 0, 1) := by decide +kernel
theorem dX9_learn_58 : decode mX9_learn.2.1 58 = .ok (.getfield 26, 3) := by decide +kernel
theorem dX9_learn_61 : decode mX9_learn.2.1 61 = .ok (.aload_n 0, 1) := by decide +kernel
theorem dX9_learn_62 : decode mX9_learn.2.1 62 = .ok (.getfield 10, 3) := by decide +kernel
theorem dX9_learn_65 : decode mX9_learn.2.1 65 = .ok (.iload 5, 2) := by decide +kernel
theorem dX9_learn_67 : decode mX9_learn.2.1 67 = .ok (.invokevirtual 169, 3) := by decide +kernel
theorem dX9_learn_70 : decode mX9_learn.2.1 70 = .ok (.aload_n 0, 1) := by decide +kernel
theorem dX9_learn_71 : decode mX9_learn.2.1 71 = .ok (.getfield 26, 3) := by decide +kernel
theorem dX9_learn_74 : decode mX9_learn.2.1 74 = .ok (.aload_n 2, 1) := by decide +kernel
theorem dX9_learn_75 : decode mX9_learn.2.1 75 = .ok (.invokevirtual 285, 3) := by decide +kernel
theorem dX9_learn_78 : decode mX9_learn.2.1 78 = .ok (.istore 6, 2) := by decide +kernel
theorem dX9_learn_80 : decode mX9_learn.2.1 80 = .ok (.iload_n 3, 1) := by decide +kernel
theorem dX9_learn_81 : decode mX9_learn.2.1 81 = .ok (.ldc 141, 2) := by decide +kernel
theorem dX9_learn_83 : decode mX9_learn.2.1 83 = .ok (.if_icmp .eq 10, 3) := by decide +kernel
theorem dX9_learn_86 : decode mX9_learn.2.1 86 = .ok (.iload 6, 2) := by decide +kernel
theorem dX9_learn_88 : decode mX9_learn.2.1 88 = .ok (.iload 4, 2) := by decide +kernel
theorem dX9_learn_90 : decode mX9_learn.2.1 90 = .ok (.if_icmp .ge 10, 3) := by decide +kernel
theorem dX9_learn_93 : decode mX9_learn.2.1 93 = .ok (.iload 5, 2) := by decide +kernel
theorem dX9_learn_95 : decode mX9_learn.2.1 95 = .ok (.istore_n 3, 1) := by decide +kernel
theorem dX9_learn_96 : decode mX9_learn.2.1 96 = .ok (.iload 6, 2) := by decide +kernel
theorem dX9_learn_98 : decode mX9_learn.2.1 98 = .ok (.istore 4, 2) := by decide +kernel
theorem dX9_learn_100 : decode mX9_learn.2.1 100 = .ok (.iinc 5 1, 3) := by decide +kernel
theorem dX9_learn_103 : decode mX9_learn.2.1 103 = .ok (.goto (-58), 3) := by decide +kernel
theorem dX9_learn_106 : decode mX9_learn.2.1 106 = .ok (.iload_n 3, 1) := by decide +kernel
theorem dX9_learn_107 : decode mX9_learn.2.1 107 = .ok (.ireturn, 1) := by decide +kernel
theorem dX9_reads_0 : decode mX9_reads.2.1 0 = .ok (.aload_n 0, 1) := by decide +kernel
theorem dX9_reads_1 : decode mX9_reads.2.1 1 = .ok (.iload_n 1, 1) := by decide +kernel
theorem dX9_reads_2 : decode mX9_reads.2.1 2 = .ok (.invokevirtual 262, 3) := by decide +kernel
theorem dX9_reads_5 : decode mX9_reads.2.1 5 = .ok (.astore_n 3, 1) := by decide +kernel
theorem dX9_reads_6 : decode mX9_reads.2.1 6 = .ok (.aload_n 0, 1) := by decide +kernel
theorem dX9_reads_7 : decode mX9_reads.2.1 7 = .ok (.getfield 10, 3) := by decide +kernel
theorem dX9_reads_10 : decode mX9_reads.2.1 10 = .ok (.iload_n 2, 1) := by decide +kernel
theorem dX9_reads_11 : decode mX9_reads.2.1 11 = .ok (.invokevirtual 116, 3) := by decide +kernel
theorem dX9_reads_14 : decode mX9_reads.2.1 14 = .ok (.astore 4, 2) := by decide +kernel
theorem dX9_reads_16 : decode mX9_reads.2.1 16 = .ok (.aload_n 3, 1) := by decide +kernel
theorem dX9_reads_17 : decode mX9_reads.2.1 17 = .ok (.ifnull 8, 3) := by decide +kernel
theorem dX9_reads_20 : decode mX9_reads.2.1 20 = .ok (.aload 4, 2) := by decide +kernel
theorem dX9_reads_22 : decode mX9_reads.2.1 22 = .ok (.ifnonnull 6, 3) := by decide +kernel
theorem dX9_reads_25 : decode mX9_reads.2.1 25 = .ok (.ldc 77, 2) := by decide +kernel
theorem dX9_reads_27 : decode mX9_reads.2.1 27 = .ok (.ireturn, 1) := by decide +kernel
theorem dX9_reads_28 : decode mX9_reads.2.1 28 = .ok (.aload_n 3, 1) := by decide +kernel
theorem dX9_reads_29 : decode mX9_reads.2.1 29 = .ok (.getfield 272, 3) := by decide +kernel
theorem dX9_reads_32 : decode mX9_reads.2.1 32 = .ok (.iconst (-1), 1) := by decide +kernel
theorem dX9_reads_33 : decode mX9_reads.2.1 33 = .ok (.if_icmp .ne 7, 3) := by decide +kernel
theorem dX9_reads_36 : decode mX9_reads.2.1 36 = .ok (.ldc_w 275, 3) := by decide +kernel
theorem dX9_reads_39 : decode mX9_reads.2.1 39 = .ok (.ireturn, 1) := by decide +kernel
theorem dX9_reads_40 : decode mX9_reads.2.1 40 = .ok (.iconst 0, 1) := by decide +kernel
theorem dX9_reads_41 : decode mX9_reads.2.1 41 = .ok (.istore 5, 2) := by decide +kernel
theorem dX9_reads_43 : decode mX9_reads.2.1 43 = .ok (.iload 5, 2) := by decide +kernel
theorem dX9_reads_45 : decode mX9_reads.2.1 45 = .ok (.bipush 24, 2) := by decide +kernel
theorem dX9_reads_47 : decode mX9_reads.2.1 47 = .ok (.if_icmp .ge 42, 3) := by decide +kernel
theorem dX9_reads_50 : decode mX9_reads.2.1 50 = .ok (.aload_n 3, 1) := by decide +kernel
theorem dX9_reads_51 : decode mX9_reads.2.1 51 = .ok (.iload 5, 2) := by decide +kernel
theorem dX9_reads_53 : decode mX9_reads.2.1 53 = .ok (.invokevirtual 289, 3) := by decide +kernel
theorem dX9_reads_56 : decode mX9_reads.2.1 56 = .ok (.ifCond .eq 27, 3) := by decide +kernel
theorem dX9_reads_59 : decode mX9_reads.2.1 59 = .ok (.aload_n 3, 1) := by decide +kernel
theorem dX9_reads_60 : decode mX9_reads.2.1 60 = .ok (.getfield 282, 3) := by decide +kernel
theorem dX9_reads_63 : decode mX9_reads.2.1 63 = .ok (.iload 5, 2) := by decide +kernel
theorem dX9_reads_65 : decode mX9_reads.2.1 65 = .ok (.iaload, 1) := by decide +kernel
theorem dX9_reads_66 : decode mX9_reads.2.1 66 = .ok (.aload_n 0, 1) := by decide +kernel
theorem dX9_reads_67 : decode mX9_reads.2.1 67 = .ok (.getfield 10, 3) := by decide +kernel
theorem dX9_reads_70 : decode mX9_reads.2.1 70 = .ok (.aload 4, 2) := by decide +kernel
theorem dX9_reads_72 : decode mX9_reads.2.1 72 = .ok (.iload 5, 2) := by decide +kernel
theorem dX9_reads_74 : decode mX9_reads.2.1 74 = .ok (.invokevirtual 137, 3) := by decide +kernel
theorem dX9_reads_77 : decode mX9_reads.2.1 77 = .ok (.if_icmp .eq 6, 3) := by decide +kernel
theorem dX9_reads_80 : decode mX9_reads.2.1 80 = .ok (.iload 5, 2) := by decide +kernel
theorem dX9_reads_82 : decode mX9_reads.2.1 82 = .ok (.ireturn, 1) := by decide +kernel
theorem dX9_reads_83 : decode mX9_reads.2.1 83 = .ok (.iinc 5 1, 3) := by decide +kernel
theorem dX9_reads_86 : decode mX9_reads.2.1 86 = .ok (.goto (-43), 3) := by decide +kernel
theorem dX9_reads_89 : decode mX9_reads.2.1 89 = .ok (.ldc 141, 2) := by decide +kernel
theorem dX9_reads_91 : decode mX9_reads.2.1 91 = .ok (.ireturn, 1) := by decide +kernel
theorem dX9_copy_0 : decode mX9_copy.2.1 0 = .ok (.aload_n 0, 1) := by decide +kernel
theorem dX9_copy_1 : decode mX9_copy.2.1 1 = .ok (.iload_n 1, 1) := by decide +kernel
theorem dX9_copy_2 : decode mX9_copy.2.1 2 = .ok (.invokevirtual 262, 3) := by decide +kernel
theorem dX9_copy_5 : decode mX9_copy.2.1 5 = .ok (.astore 6, 2) := by decide +kernel
theorem dX9_copy_7 : decode mX9_copy.2.1 7 = .ok (.aload_n 0, 1) := by decide +kernel
theorem dX9_copy_8 : decode mX9_copy.2.1 8 = .ok (.iload_n 3, 1) := by decide +kernel
theorem dX9_copy_9 : decode mX9_copy.2.1 9 = .ok (.invokevirtual 262, 3) := by decide +kernel
theorem dX9_copy_12 : decode mX9_copy.2.1 12 = .ok (.astore 7, 2) := by decide +kernel
theorem dX9_copy_14 : decode mX9_copy.2.1 14 = .ok (.aload 6, 2) := by decide +kernel
theorem dX9_copy_16 : decode mX9_copy.2.1 16 = .ok (.ifnull 8, 3) := by decide +kernel
theorem dX9_copy_19 : decode mX9_copy.2.1 19 = .ok (.aload 7, 2) := by decide +kernel
theorem dX9_copy_21 : decode mX9_copy.2.1 21 = .ok (.ifnonnull 6, 3) := by decide +kernel
theorem dX9_copy_24 : decode mX9_copy.2.1 24 = .ok (.ldc 77, 2) := by decide +kernel
theorem dX9_copy_26 : decode mX9_copy.2.1 26 = .ok (.ireturn, 1) := by decide +kernel
theorem dX9_copy_27 : decode mX9_copy.2.1 27 = .ok (.aload 6, 2) := by decide +kernel
theorem dX9_copy_29 : decode mX9_copy.2.1 29 = .ok (.getfield 272, 3) := by decide +kernel
theorem dX9_copy_32 : decode mX9_copy.2.1 32 = .ok (.iconst (-1), 1) := by decide +kernel
theorem dX9_copy_33 : decode mX9_copy.2.1 33 = .ok (.if_icmp .eq 12, 3) := by decide +kernel
theorem dX9_copy_36 : decode mX9_copy.2.1 36 = .ok (.aload 7, 2) := by decide +kernel
theorem dX9_copy_38 : decode mX9_copy.2.1 38 = .ok (.getfield 272, 3) := by decide +kernel
theorem dX9_copy_41 : decode mX9_copy.2.1 41 = .ok (.iconst (-1), 1) := by decide +kernel
theorem dX9_copy_42 : decode mX9_copy.2.1 42 = .ok (.if_icmp .ne 7, 3) := by decide +kernel
theorem dX9_copy_45 : decode mX9_copy.2.1 45 = .ok (.ldc_w 275, 3) := by decide +kernel
theorem dX9_copy_48 : decode mX9_copy.2.1 48 = .ok (.ireturn, 1) := by decide +kernel
theorem dX9_copy_49 : decode mX9_copy.2.1 49 = .ok (.aload 6, 2) := by decide +kernel
theorem dX9_copy_51 : decode mX9_copy.2.1 51 = .ok (.getfield 272, 3) := by decide +kernel
theorem dX9_copy_54 : decode mX9_copy.2.1 54 = .ok (.aload 7, 2) := by decide +kernel
theorem dX9_copy_56 : decode mX9_copy.2.1 56 = .ok (.getfield 272, 3) := by decide +kernel
theorem dX9_copy_59 : decode mX9_copy.2.1 59 = .ok (.if_icmp .eq 6, 3) := by decide +kernel
theorem dX9_copy_62 : decode mX9_copy.2.1 62 = .ok (.ldc 133, 2) := by decide +kernel
theorem dX9_copy_64 : decode mX9_copy.2.1 64 = .ok (.ireturn, 1) := by decide +kernel
theorem dX9_copy_65 : decode mX9_copy.2.1 65 = .ok (.aload 6, 2) := by decide +kernel
theorem dX9_copy_67 : decode mX9_copy.2.1 67 = .ok (.iload_n 2, 1) := by decide +kernel
theorem dX9_copy_68 : decode mX9_copy.2.1 68 = .ok (.iload 5, 2) := by decide +kernel
theorem dX9_copy_70 : decode mX9_copy.2.1 70 = .ok (.invokevirtual 292, 3) := by decide +kernel
theorem dX9_copy_73 : decode mX9_copy.2.1 73 = .ok (.ifCond .eq 15, 3) := by decide +kernel
theorem dX9_copy_76 : decode mX9_copy.2.1 76 = .ok (.aload 7, 2) := by decide +kernel
theorem dX9_copy_78 : decode mX9_copy.2.1 78 = .ok (.iload 4, 2) := by decide +kernel
theorem dX9_copy_80 : decode mX9_copy.2.1 80 = .ok (.iload 5, 2) := by decide +kernel
theorem dX9_copy_82 : decode mX9_copy.2.1 82 = .ok (.invokevirtual 292, 3) := by decide +kernel
theorem dX9_copy_85 : decode mX9_copy.2.1 85 = .ok (.ifCond .ne 7, 3) := by decide +kernel
theorem dX9_copy_88 : decode mX9_copy.2.1 88 = .ok (.ldc_w 279, 3) := by decide +kernel
theorem dX9_copy_91 : decode mX9_copy.2.1 91 = .ok (.ireturn, 1) := by decide +kernel
theorem dX9_copy_92 : decode mX9_copy.2.1 92 = .ok (.aload 6, 2) := by decide +kernel
theorem dX9_copy_94 : decode mX9_copy.2.1 94 = .ok (.getfield 282, 3) := by decide +kernel
theorem dX9_copy_97 : decode mX9_copy.2.1 97 = .ok (.iload_n 2, 1) := by decide +kernel
theorem dX9_copy_98 : decode mX9_copy.2.1 98 = .ok (.aload 7, 2) := by decide +kernel
theorem dX9_copy_100 : decode mX9_copy.2.1 100 = .ok (.getfield 282, 3) := by decide +kernel
theorem dX9_copy_103 : decode mX9_copy.2.1 103 = .ok (.iload 4, 2) := by decide +kernel
theorem dX9_copy_105 : decode mX9_copy.2.1 105 = .ok (.iload 5, 2) := by decide +kernel
theorem dX9_copy_107 : decode mX9_copy.2.1 107 = .ok (.invokestatic 295, 3) := by decide +kernel
theorem dX9_copy_110 : decode mX9_copy.2.1 110 = .ok (.iload 5, 2) := by decide +kernel
theorem dX9_copy_112 : decode mX9_copy.2.1 112 = .ok (.ireturn, 1) := by decide +kernel
theorem dX9_lay_0 : decode mX9_lay.2.1 0 = .ok (.aload_n 0, 1) := by decide +kernel
theorem dX9_lay_1 : decode mX9_lay.2.1 1 = .ok (.iload_n 1, 1) := by decide +kernel
theorem dX9_lay_2 : decode mX9_lay.2.1 2 = .ok (.invokevirtual 301, 3) := by decide +kernel
theorem dX9_lay_5 : decode mX9_lay.2.1 5 = .ok (.astore 4, 2) := by decide +kernel
theorem dX9_lay_7 : decode mX9_lay.2.1 7 = .ok (.aload 4, 2) := by decide +kernel
theorem dX9_lay_9 : decode mX9_lay.2.1 9 = .ok (.ifnull 12, 3) := by decide +kernel
theorem dX9_lay_12 : decode mX9_lay.2.1 12 = .ok (.iload_n 2, 1) := by decide +kernel
theorem dX9_lay_13 : decode mX9_lay.2.1 13 = .ok (.iconst 0, 1) := by decide +kernel
theorem dX9_lay_14 : decode mX9_lay.2.1 14 = .ok (.iconst 3, 1) := by decide +kernel
theorem dX9_lay_15 : decode mX9_lay.2.1 15 = .ok (.invokestatic 86, 3) := by decide +kernel
theorem dX9_lay_18 : decode mX9_lay.2.1 18 = .ok (.ifCond .ne 6, 3) := by decide +kernel
theorem dX9_lay_21 : decode mX9_lay.2.1 21 = .ok (.ldc 77, 2) := by decide +kernel
theorem dX9_lay_23 : decode mX9_lay.2.1 23 = .ok (.ireturn, 1) := by decide +kernel
theorem dX9_lay_24 : decode mX9_lay.2.1 24 = .ok (.aload 4, 2) := by decide +kernel
theorem dX9_lay_26 : decode mX9_lay.2.1 26 = .ok (.getfield 305, 3) := by decide +kernel
theorem dX9_lay_29 : decode mX9_lay.2.1 29 = .ok (.istore 5, 2) := by decide +kernel
theorem dX9_lay_31 : decode mX9_lay.2.1 31 = .ok (.iload_n 2, 1) := by decide +kernel
theorem dX9_lay_32 : decode mX9_lay.2.1 32 = .ok (.iconst 1, 1) := by decide +kernel
theorem dX9_lay_33 : decode mX9_lay.2.1 33 = .ok (.if_icmp .ne 31, 3) := by decide +kernel
theorem dX9_lay_36 : decode mX9_lay.2.1 36 = .ok (.aload_n 0, 1) := by decide +kernel
theorem dX9_lay_37 : decode mX9_lay.2.1 37 = .ok (.getfield 10, 3) := by decide +kernel
theorem dX9_lay_40 : decode mX9_lay.2.1 40 = .ok (.iload_n 3, 1) := by decide +kernel
theorem dX9_lay_41 : decode mX9_lay.2.1 41 = .ok (.invokevirtual 116, 3) := by decide +kernel
theorem dX9_lay_44 : decode mX9_lay.2.1 44 = .ok (.astore 6, 2) := by decide +kernel
theorem dX9_lay_46 : decode mX9_lay.2.1 46 = .ok (.aload 6, 2) := by decide +kernel
theorem dX9_lay_48 : decode mX9_lay.2.1 48 = .ok (.ifnonnull 6, 3) := by decide +kernel
theorem dX9_lay_51 : decode mX9_lay.2.1 51 = .ok (.ldc 77, 2) := by decide +kernel
theorem dX9_lay_53 : decode mX9_lay.2.1 53 = .ok (.ireturn, 1) := by decide +kernel
theorem dX9_lay_54 : decode mX9_lay.2.1 54 = .ok (.aload 4, 2) := by decide +kernel
theorem dX9_lay_56 : decode mX9_lay.2.1 56 = .ok (.getfield 308, 3) := by decide +kernel
theorem dX9_lay_59 : decode mX9_lay.2.1 59 = .ok (.aload 6, 2) := by decide +kernel
theorem dX9_lay_61 : decode mX9_lay.2.1 61 = .ok (.invokevirtual 198, 3) := by decide +kernel
theorem dX9_lay_64 : decode mX9_lay.2.1 64 = .ok (.iload_n 2, 1) := by decide +kernel
theorem dX9_lay_65 : decode mX9_lay.2.1 65 = .ok (.iconst 2, 1) := by decide +kernel
theorem dX9_lay_66 : decode mX9_lay.2.1 66 = .ok (.if_icmp .ne 41, 3) := by decide +kernel
theorem dX9_lay_69 : decode mX9_lay.2.1 69 = .ok (.aload_n 0, 1) := by decide +kernel
theorem dX9_lay_70 : decode mX9_lay.2.1 70 = .ok (.iload_n 3, 1) := by decide +kernel
theorem dX9_lay_71 : decode mX9_lay.2.1 71 = .ok (.invokevirtual 262, 3) := by decide +kernel
theorem dX9_lay_74 : decode mX9_lay.2.1 74 = .ok (.astore 6, 2) := by decide +kernel
theorem dX9_lay_76 : decode mX9_lay.2.1 76 = .ok (.aload 6, 2) := by decide +kernel
theorem dX9_lay_78 : decode mX9_lay.2.1 78 = .ok (.ifnonnull 6, 3) := by decide +kernel
theorem dX9_lay_81 : decode mX9_lay.2.1 81 = .ok (.ldc 77, 2) := by decide +kernel
theorem dX9_lay_83 : decode mX9_lay.2.1 83 = .ok (.ireturn, 1) := by decide +kernel
theorem dX9_lay_84 : decode mX9_lay.2.1 84 = .ok (.aload 6, 2) := by decide +kernel
theorem dX9_lay_86 : decode mX9_lay.2.1 86 = .ok (.getfield 272, 3) := by decide +kernel
theorem dX9_lay_89 : decode mX9_lay.2.1 89 = .ok (.iconst (-1), 1) := by decide +kernel
theorem dX9_lay_90 : decode mX9_lay.2.1 90 = .ok (.if_icmp .ne 7, 3) := by decide +kernel
theorem dX9_lay_93 : decode mX9_lay.2.1 93 = .ok (.ldc_w 275, 3) := by decide +kernel
theorem dX9_lay_96 : decode mX9_lay.2.1 96 = .ok (.ireturn, 1) := by decide +kernel
theorem dX9_lay_97 : decode mX9_lay.2.1 97 = .ok (.aload 4, 2) := by decide +kernel
theorem dX9_lay_99 : decode mX9_lay.2.1 99 = .ok (.getfield 311, 3) := by decide +kernel
theorem dX9_lay_102 : decode mX9_lay.2.1 102 = .ok (.aload 6, 2) := by decide +kernel
theorem dX9_lay_104 : decode mX9_lay.2.1 104 = .ok (.invokevirtual 315, 3) := by decide +kernel
theorem dX9_lay_107 : decode mX9_lay.2.1 107 = .ok (.aload 4, 2) := by decide +kernel
theorem dX9_lay_109 : decode mX9_lay.2.1 109 = .ok (.iload_n 3, 1) := by decide +kernel
theorem dX9_lay_110 : decode mX9_lay.2.1 110 = .ok (.putfield 318, 3) := by decide +kernel
theorem dX9_lay_113 : decode mX9_lay.2.1 113 = .ok (.aload 4, 2) := by decide +kernel
theorem dX9_lay_115 : decode mX9_lay.2.1 115 = .ok (.iload_n 2, 1) := by decide +kernel
theorem dX9_lay_116 : decode mX9_lay.2.1 116 = .ok (.putfield 305, 3) := by decide +kernel
theorem dX9_lay_119 : decode mX9_lay.2.1 119 = .ok (.iload 5, 2) := by decide +kernel
theorem dX9_lay_121 : decode mX9_lay.2.1 121 = .ok (.ireturn, 1) := by decide +kernel
theorem dX9_ask_0 : decode mX9_ask.2.1 0 = .ok (.aload_n 0, 1) := by decide +kernel
theorem dX9_ask_1 : decode mX9_ask.2.1 1 = .ok (.iload_n 1, 1) := by decide +kernel
theorem dX9_ask_2 : decode mX9_ask.2.1 2 = .ok (.invokevirtual 301, 3) := by decide +kernel
theorem dX9_ask_5 : decode mX9_ask.2.1 5 = .ok (.astore_n 3, 1) := by decide +kernel
theorem dX9_ask_6 : decode mX9_ask.2.1 6 = .ok (.aload_n 3, 1) := by decide +kernel
theorem dX9_ask_7 : decode mX9_ask.2.1 7 = .ok (.ifnull 10, 3) := by decide +kernel
theorem dX9_ask_10 : decode mX9_ask.2.1 10 = .ok (.iload_n 2, 1) := by decide +kernel
theorem dX9_ask_11 : decode mX9_ask.2.1 11 = .ok (.invokestatic 106, 3) := by decide +kernel
theorem dX9_ask_14 : decode mX9_ask.2.1 14 = .ok (.ifCond .ne 6, 3) := by decide +kernel
theorem dX9_ask_17 : decode mX9_ask.2.1 17 = .ok (.ldc 77, 2) := by decide +kernel
theorem dX9_ask_19 : decode mX9_ask.2.1 19 = .ok (.ireturn, 1) := by decide +kernel
theorem dX9_ask_20 : decode mX9_ask.2.1 20 = .ok (.aload_n 3, 1) := by decide +kernel
theorem dX9_ask_21 : decode mX9_ask.2.1 21 = .ok (.iconst 1, 1) := by decide +kernel
theorem dX9_ask_22 : decode mX9_ask.2.1 22 = .ok (.invokevirtual 321, 3) := by decide +kernel
theorem dX9_ask_25 : decode mX9_ask.2.1 25 = .ok (.istore 4, 2) := by decide +kernel
theorem dX9_ask_27 : decode mX9_ask.2.1 27 = .ok (.iload 4, 2) := by decide +kernel
theorem dX9_ask_29 : decode mX9_ask.2.1 29 = .ok (.ldc 141, 2) := by decide +kernel
theorem dX9_ask_31 : decode mX9_ask.2.1 31 = .ok (.if_icmp .eq 6, 3) := by decide +kernel
theorem dX9_ask_34 : decode mX9_ask.2.1 34 = .ok (.iload 4, 2) := by decide +kernel
theorem dX9_ask_36 : decode mX9_ask.2.1 36 = .ok (.ireturn, 1) := by decide +kernel
theorem dX9_ask_37 : decode mX9_ask.2.1 37 = .ok (.aload_n 3, 1) := by decide +kernel
theorem dX9_ask_38 : decode mX9_ask.2.1 38 = .ok (.getfield 308, 3) := by decide +kernel
theorem dX9_ask_41 : decode mX9_ask.2.1 41 = .ok (.getfield 120, 3) := by decide +kernel
theorem dX9_ask_44 : decode mX9_ask.2.1 44 = .ok (.iload_n 2, 1) := by decide +kernel
theorem dX9_ask_45 : decode mX9_ask.2.1 45 = .ok (.invokestatic 130, 3) := by decide +kernel
theorem dX9_ask_48 : decode mX9_ask.2.1 48 = .ok (.ifCond .eq 13, 3) := by decide +kernel
theorem dX9_ask_51 : decode mX9_ask.2.1 51 = .ok (.aload_n 3, 1) := by decide +kernel
theorem dX9_ask_52 : decode mX9_ask.2.1 52 = .ok (.getfield 308, 3) := by decide +kernel
theorem dX9_ask_55 : decode mX9_ask.2.1 55 = .ok (.invokevirtual 123, 3) := by decide +kernel
theorem dX9_ask_58 : decode mX9_ask.2.1 58 = .ok (.goto 5, 3) := by decide +kernel
theorem dX9_ask_61 : decode mX9_ask.2.1 61 = .ok (.ldc 133, 2) := by decide +kernel
theorem dX9_ask_63 : decode mX9_ask.2.1 63 = .ok (.ireturn, 1) := by decide +kernel
theorem dX9_item_0 : decode mX9_item.2.1 0 = .ok (.aload_n 0, 1) := by decide +kernel
theorem dX9_item_1 : decode mX9_item.2.1 1 = .ok (.iload_n 1, 1) := by decide +kernel
theorem dX9_item_2 : decode mX9_item.2.1 2 = .ok (.invokevirtual 301, 3) := by decide +kernel
theorem dX9_item_5 : decode mX9_item.2.1 5 = .ok (.astore_n 3, 1) := by decide +kernel
theorem dX9_item_6 : decode mX9_item.2.1 6 = .ok (.aload_n 3, 1) := by decide +kernel
theorem dX9_item_7 : decode mX9_item.2.1 7 = .ok (.ifnonnull 6, 3) := by decide +kernel
theorem dX9_item_10 : decode mX9_item.2.1 10 = .ok (.ldc 77, 2) := by decide +kernel
theorem dX9_item_12 : decode mX9_item.2.1 12 = .ok (.ireturn, 1) := by decide +kernel
theorem dX9_item_13 : decode mX9_item.2.1 13 = .ok (.aload_n 3, 1) := by decide +kernel
theorem dX9_item_14 : decode mX9_item.2.1 14 = .ok (.iconst 2, 1) := by decide +kernel
theorem dX9_item_15 : decode mX9_item.2.1 15 = .ok (.invokevirtual 321, 3) := by decide +kernel
theorem dX9_item_18 : decode mX9_item.2.1 18 = .ok (.istore 4, 2) := by decide +kernel
theorem dX9_item_20 : decode mX9_item.2.1 20 = .ok (.iload 4, 2) := by decide +kernel
theorem dX9_item_22 : decode mX9_item.2.1 22 = .ok (.ldc 141, 2) := by decide +kernel
theorem dX9_item_24 : decode mX9_item.2.1 24 = .ok (.if_icmp .eq 6, 3) := by decide +kernel
theorem dX9_item_27 : decode mX9_item.2.1 27 = .ok (.iload 4, 2) := by decide +kernel
theorem dX9_item_29 : decode mX9_item.2.1 29 = .ok (.ireturn, 1) := by decide +kernel
theorem dX9_item_30 : decode mX9_item.2.1 30 = .ok (.aload_n 3, 1) := by decide +kernel
theorem dX9_item_31 : decode mX9_item.2.1 31 = .ok (.getfield 311, 3) := by decide +kernel
theorem dX9_item_34 : decode mX9_item.2.1 34 = .ok (.iload_n 2, 1) := by decide +kernel
theorem dX9_item_35 : decode mX9_item.2.1 35 = .ok (.invokevirtual 276, 3) := by decide +kernel
theorem dX9_item_38 : decode mX9_item.2.1 38 = .ok (.ifCond .ne 7, 3) := by decide +kernel
theorem dX9_item_41 : decode mX9_item.2.1 41 = .ok (.ldc_w 279, 3) := by decide +kernel
theorem dX9_item_44 : decode mX9_item.2.1 44 = .ok (.ireturn, 1) := by decide +kernel
theorem dX9_item_45 : decode mX9_item.2.1 45 = .ok (.aload_n 3, 1) := by decide +kernel
theorem dX9_item_46 : decode mX9_item.2.1 46 = .ok (.getfield 311, 3) := by decide +kernel
theorem dX9_item_49 : decode mX9_item.2.1 49 = .ok (.iload_n 2, 1) := by decide +kernel
theorem dX9_item_50 : decode mX9_item.2.1 50 = .ok (.invokevirtual 289, 3) := by decide +kernel
theorem dX9_item_53 : decode mX9_item.2.1 53 = .ok (.ifCond .eq 15, 3) := by decide +kernel
theorem dX9_item_56 : decode mX9_item.2.1 56 = .ok (.aload_n 3, 1) := by decide +kernel
theorem dX9_item_57 : decode mX9_item.2.1 57 = .ok (.getfield 311, 3) := by decide +kernel
theorem dX9_item_60 : decode mX9_item.2.1 60 = .ok (.getfield 282, 3) := by decide +kernel
theorem dX9_item_63 : decode mX9_item.2.1 63 = .ok (.iload_n 2, 1) := by decide +kernel
theorem dX9_item_64 : decode mX9_item.2.1 64 = .ok (.iaload, 1) := by decide +kernel
theorem dX9_item_65 : decode mX9_item.2.1 65 = .ok (.goto 5, 3) := by decide +kernel
theorem dX9_item_68 : decode mX9_item.2.1 68 = .ok (.ldc 133, 2) := by decide +kernel
theorem dX9_item_70 : decode mX9_item.2.1 70 = .ok (.ireturn, 1) := by decide +kernel
theorem dX9_rest_0 : decode mX9_rest.2.1 0 = .ok (.aload_n 0, 1) := by decide +kernel
theorem dX9_rest_1 : decode mX9_rest.2.1 1 = .ok (.iload_n 1, 1) := by decide +kernel
theorem dX9_rest_2 : decode mX9_rest.2.1 2 = .ok (.invokevirtual 301, 3) := by decide +kernel
theorem dX9_rest_5 : decode mX9_rest.2.1 5 = .ok (.astore_n 3, 1) := by decide +kernel
theorem dX9_rest_6 : decode mX9_rest.2.1 6 = .ok (.aload_n 3, 1) := by decide +kernel
theorem dX9_rest_7 : decode mX9_rest.2.1 7 = .ok (.ifnonnull 6, 3) := by decide +kernel
theorem dX9_rest_10 : decode mX9_rest.2.1 10 = .ok (.ldc 77, 2) := by decide +kernel
theorem dX9_rest_12 : decode mX9_rest.2.1 12 = .ok (.ireturn, 1) := by decide +kernel
theorem dX9_rest_13 : decode mX9_rest.2.1 13 = .ok (.aload_n 3, 1) := by decide +kernel
theorem dX9_rest_14 : decode mX9_rest.2.1 14 = .ok (.iconst 3, 1) := by decide +kernel
theorem dX9_rest_15 : decode mX9_rest.2.1 15 = .ok (.invokevirtual 321, 3) := by decide +kernel
theorem dX9_rest_18 : decode mX9_rest.2.1 18 = .ok (.istore 4, 2) := by decide +kernel
theorem dX9_rest_20 : decode mX9_rest.2.1 20 = .ok (.iload 4, 2) := by decide +kernel
theorem dX9_rest_22 : decode mX9_rest.2.1 22 = .ok (.ldc 141, 2) := by decide +kernel
theorem dX9_rest_24 : decode mX9_rest.2.1 24 = .ok (.if_icmp .eq 6, 3) := by decide +kernel
theorem dX9_rest_27 : decode mX9_rest.2.1 27 = .ok (.iload 4, 2) := by decide +kernel
theorem dX9_rest_29 : decode mX9_rest.2.1 29 = .ok (.ireturn, 1) := by decide +kernel
theorem dX9_rest_30 : decode mX9_rest.2.1 30 = .ok (.iload_n 2, 1) := by decide +kernel
theorem dX9_rest_31 : decode mX9_rest.2.1 31 = .ok (.ifCond .ne 8, 3) := by decide +kernel
theorem dX9_rest_34 : decode mX9_rest.2.1 34 = .ok (.ldc 197, 2) := by decide +kernel
theorem dX9_rest_36 : decode mX9_rest.2.1 36 = .ok (.goto 9, 3) := by decide +kernel
theorem dX9_rest_39 : decode mX9_rest.2.1 39 = .ok (.aload_n 3, 1) := by decide +kernel
theorem dX9_rest_40 : decode mX9_rest.2.1 40 = .ok (.getfield 318, 3) := by decide +kernel
theorem dX9_rest_43 : decode mX9_rest.2.1 43 = .ok (.iload_n 2, 1) := by decide +kernel
theorem dX9_rest_44 : decode mX9_rest.2.1 44 = .ok (.irem, 1) := by decide +kernel
theorem dX9_rest_45 : decode mX9_rest.2.1 45 = .ok (.ireturn, 1) := by decide +kernel
theorem dX9_tell_0 : decode mX9_tell.2.1 0 = .ok (.aload_n 0, 1) := by decide +kernel
theorem dX9_tell_1 : decode mX9_tell.2.1 1 = .ok (.getfield 67, 3) := by decide +kernel
theorem dX9_tell_4 : decode mX9_tell.2.1 4 = .ok (.bipush 60, 2) := by decide +kernel
theorem dX9_tell_6 : decode mX9_tell.2.1 6 = .ok (.if_icmp .lt 6, 3) := by decide +kernel
theorem dX9_tell_9 : decode mX9_tell.2.1 9 = .ok (.ldc 228, 2) := by decide +kernel
theorem dX9_tell_11 : decode mX9_tell.2.1 11 = .ok (.ireturn, 1) := by decide +kernel
theorem dX9_tell_12 : decode mX9_tell.2.1 12 = .ok (.aload_n 0, 1) := by decide +kernel
theorem dX9_tell_13 : decode mX9_tell.2.1 13 = .ok (.getfield 63, 3) := by decide +kernel
theorem dX9_tell_16 : decode mX9_tell.2.1 16 = .ok (.aload_n 0, 1) := by decide +kernel
theorem dX9_tell_17 : decode mX9_tell.2.1 17 = .ok (.getfield 67, 3) := by decide +kernel
theorem dX9_tell_20 : decode mX9_tell.2.1 20 = .ok (.iload_n 1, 1) := by decide +kernel
theorem dX9_tell_21 : decode mX9_tell.2.1 21 = .ok (.iastore, 1) := by decide +kernel
theorem dX9_tell_22 : decode mX9_tell.2.1 22 = .ok (.aload_n 0, 1) := by decide +kernel
theorem dX9_tell_23 : decode mX9_tell.2.1 23 = .ok (.dup, 1) := by decide +kernel
theorem dX9_tell_24 : decode mX9_tell.2.1 24 = .ok (.getfield 67, 3) := by decide +kernel
theorem dX9_tell_27 : decode mX9_tell.2.1 27 = .ok (.iconst 1, 1) := by decide +kernel
theorem dX9_tell_28 : decode mX9_tell.2.1 28 = .ok (.iadd, 1) := by decide +kernel
theorem dX9_tell_29 : decode mX9_tell.2.1 29 = .ok (.putfield 67, 3) := by decide +kernel
theorem dX9_tell_32 : decode mX9_tell.2.1 32 = .ok (.aload_n 0, 1) := by decide +kernel
theorem dX9_tell_33 : decode mX9_tell.2.1 33 = .ok (.getfield 67, 3) := by decide +kernel
theorem dX9_tell_36 : decode mX9_tell.2.1 36 = .ok (.ireturn, 1) := by decide +kernel
theorem dX9_check_0 : decode mX9_check.2.1 0 = .ok (.aload_n 0, 1) := by decide +kernel
theorem dX9_check_1 : decode mX9_check.2.1 1 = .ok (.getfield 67, 3) := by decide +kernel
theorem dX9_check_4 : decode mX9_check.2.1 4 = .ok (.istore_n 2, 1) := by decide +kernel
theorem dX9_check_5 : decode mX9_check.2.1 5 = .ok (.aload_n 0, 1) := by decide +kernel
theorem dX9_check_6 : decode mX9_check.2.1 6 = .ok (.iconst 0, 1) := by decide +kernel
theorem dX9_check_7 : decode mX9_check.2.1 7 = .ok (.putfield 67, 3) := by decide +kernel
theorem dX9_check_10 : decode mX9_check.2.1 10 = .ok (.iload_n 1, 1) := by decide +kernel
theorem dX9_check_11 : decode mX9_check.2.1 11 = .ok (.iconst 1, 1) := by decide +kernel
theorem dX9_check_12 : decode mX9_check.2.1 12 = .ok (.bipush 30, 2) := by decide +kernel
theorem dX9_check_14 : decode mX9_check.2.1 14 = .ok (.invokestatic 86, 3) := by decide +kernel
theorem dX9_check_17 : decode mX9_check.2.1 17 = .ok (.ifCond .ne 6, 3) := by decide +kernel
theorem dX9_check_20 : decode mX9_check.2.1 20 = .ok (.ldc 77, 2) := by decide +kernel
theorem dX9_check_22 : decode mX9_check.2.1 22 = .ok (.ireturn, 1) := by decide +kernel
theorem dX9_check_23 : decode mX9_check.2.1 23 = .ok (.aload_n 0, 1) := by decide +kernel
theorem dX9_check_24 : decode mX9_check.2.1 24 = .ok (.getfield 19, 3) := by decide +kernel
theorem dX9_check_27 : decode mX9_check.2.1 27 = .ok (.ifCond .eq 13, 3) := by decide +kernel
theorem dX9_check_30 : decode mX9_check.2.1 30 = .ok (.aload_n 0, 1) := by decide +kernel
theorem dX9_check_31 : decode mX9_check.2.1 31 = .ok (.getfield 16, 3) := by decide +kernel
theorem dX9_check_34 : decode mX9_check.2.1 34 = .ok (.getfield 94, 3) := by decide +kernel
theorem dX9_check_37 : decode mX9_check.2.1 37 = .ok (.ifCond .gt 6, 3) := by decide +kernel
theorem dX9_check_40 : decode mX9_check.2.1 40 = .ok (.ldc 197, 2) := by decide +kernel
theorem dX9_check_42 : decode mX9_check.2.1 42 = .ok (.ireturn, 1) := by decide +kernel
theorem dX9_check_43 : decode mX9_check.2.1 43 = .ok (.aload_n 0, 1) := by decide +kernel
theorem dX9_check_44 : decode mX9_check.2.1 44 = .ok (.getfield 26, 3) := by decide +kernel
theorem dX9_check_47 : decode mX9_check.2.1 47 = .ok (.aload_n 0, 1) := by decide +kernel
theorem dX9_check_48 : decode mX9_check.2.1 48 = .ok (.getfield 16, 3) := by decide +kernel
theorem dX9_check_51 : decode mX9_check.2.1 51 = .ok (.invokevirtual 165, 3) := by decide +kernel
theorem dX9_check_54 : decode mX9_check.2.1 54 = .ok (.aload_n 0, 1) := by decide +kernel
theorem dX9_check_55 : decode mX9_check.2.1 55 = .ok (.getfield 40, 3) := by decide +kernel
theorem dX9_check_58 : decode mX9_check.2.1 58 = .ok (.aload_n 0, 1) := by decide +kernel
theorem dX9_check_59 : decode mX9_check.2.1 59 = .ok (.getfield 16, 3) := by decide +kernel
theorem dX9_check_62 : decode mX9_check.2.1 62 = .ok (.getfield 158, 3) := by decide +kernel
theorem dX9_check_65 : decode mX9_check.2.1 65 = .ok (.getfield 172, 3) := by decide +kernel
theorem dX9_check_68 : decode mX9_check.2.1 68 = .ok (.putfield 172, 3) := by decide +kernel
theorem dX9_check_71 : decode mX9_check.2.1 71 = .ok (.iconst 0, 1) := by decide +kernel
theorem dX9_check_72 : decode mX9_check.2.1 72 = .ok (.istore_n 3, 1) := by decide +kernel
theorem dX9_check_73 : decode mX9_check.2.1 73 = .ok (.iload_n 3, 1) := by decide +kernel
theorem dX9_check_74 : decode mX9_check.2.1 74 = .ok (.iload_n 1, 1) := by decide +kernel
theorem dX9_check_75 : decode mX9_check.2.1 75 = .ok (.if_icmp .ge 106, 3) := by decide +kernel
theorem dX9_check_78 : decode mX9_check.2.1 78 = .ok (.iload_n 3, 1) := by decide +kernel
theorem dX9_check_79 : decode mX9_check.2.1 79 = .ok (.aload_n 0, 1) := by decide +kernel
theorem dX9_check_80 : decode mX9_check.2.1 80 = .ok (.getfield 16, 3) := by decide +kernel
theorem dX9_check_83 : decode mX9_check.2.1 83 = .ok (.getfield 94, 3) := by decide +kernel
theorem dX9_check_86 : decode mX9_check.2.1 86 = .ok (.irem, 1) := by decide +kernel
theorem dX9_check_87 : decode mX9_check.2.1 87 = .ok (.istore 4, 2) := by decide +kernel
theorem dX9_check_89 : decode mX9_check.2.1 89 = .ok (.aload_n 0, 1) := by decide +kernel
theorem dX9_check_90 : decode mX9_check.2.1 90 = .ok (.getfield 26, 3) := by decide +kernel
theorem dX9_check_93 : decode mX9_check.2.1 93 = .ok (.aload_n 0, 1) := by decide +kernel
theorem dX9_check_94 : decode mX9_check.2.1 94 = .ok (.getfield 16, 3) := by decide +kernel
theorem dX9_check_97 : decode mX9_check.2.1 97 = .ok (.iload 4, 2) := by decide +kernel
theorem dX9_check_99 : decode mX9_check.2.1 99 = .ok (.invokevirtual 169, 3) := by decide +kernel
theorem dX9_check_102 : decode mX9_check.2.1 102 = .ok (.aload_n 0, 1) := by decide +kernel
theorem dX9_check_103 : decode mX9_check.2.1 103 = .ok (.getfield 26, 3) := by decide +kernel
theorem dX9_check_106 : decode mX9_check.2.1 106 = .ok (.iload 4, 2) := by decide +kernel
theorem dX9_check_108 : decode mX9_check.2.1 108 = .ok (.aload_n 0, 1) := by decide +kernel
theorem dX9_check_109 : decode mX9_check.2.1 109 = .ok (.getfield 40, 3) := by decide +kernel
theorem dX9_check_112 : decode mX9_check.2.1 112 = .ok (.invokevirtual 161, 3) := by decide +kernel
theorem dX9_check_115 : decode mX9_check.2.1 115 = .ok (.istore 5, 2) := by decide +kernel
theorem dX9_check_117 : decode mX9_check.2.1 117 = .ok (.aload_n 0, 1) := by decide +kernel
theorem dX9_check_118 : decode mX9_check.2.1 118 = .ok (.iconst 2, 1) := by decide +kernel
theorem dX9_check_119 : decode mX9_check.2.1 119 = .ok (.iload_n 3, 1) := by decide +kernel
theorem dX9_check_120 : decode mX9_check.2.1 120 = .ok (.imul, 1) := by decide +kernel
theorem dX9_check_121 : decode mX9_check.2.1 121 = .ok (.iload_n 2, 1) := by decide +kernel
theorem dX9_check_122 : decode mX9_check.2.1 122 = .ok (.iload 5, 2) := by decide +kernel
theorem dX9_check_124 : decode mX9_check.2.1 124 = .ok (.ldc 141, 2) := by decide +kernel
theorem dX9_check_126 : decode mX9_check.2.1 126 = .ok (.if_icmp .ne 7, 3) := by decide +kernel
theorem dX9_check_129 : decode mX9_check.2.1 129 = .ok (.iconst (-1), 1) := by decide +kernel
theorem dX9_check_130 : decode mX9_check.2.1 130 = .ok (.goto 5, 3) := by decide +kernel
theorem dX9_check_133 : decode mX9_check.2.1 133 = .ok (.iload 5, 2) := by decide +kernel
theorem dX9_check_135 : decode mX9_check.2.1 135 = .ok (.invokevirtual 325, 3) := by decide +kernel
theorem dX9_check_138 : decode mX9_check.2.1 138 = .ok (.ifCond .ne 9, 3) := by decide +kernel
theorem dX9_check_141 : decode mX9_check.2.1 141 = .ok (.iconst 2, 1) := by decide +kernel
theorem dX9_check_142 : decode mX9_check.2.1 142 = .ok (.iload_n 3, 1) := by decide +kernel
theorem dX9_check_143 : decode mX9_check.2.1 143 = .ok (.imul, 1) := by decide +kernel
theorem dX9_check_144 : decode mX9_check.2.1 144 = .ok (.iconst 1, 1) := by decide +kernel
theorem dX9_check_145 : decode mX9_check.2.1 145 = .ok (.iadd, 1) := by decide +kernel
theorem dX9_check_146 : decode mX9_check.2.1 146 = .ok (.ireturn, 1) := by decide +kernel
theorem dX9_check_147 : decode mX9_check.2.1 147 = .ok (.aload_n 0, 1) := by decide +kernel
theorem dX9_check_148 : decode mX9_check.2.1 148 = .ok (.iconst 2, 1) := by decide +kernel
theorem dX9_check_149 : decode mX9_check.2.1 149 = .ok (.iload_n 3, 1) := by decide +kernel
theorem dX9_check_150 : decode mX9_check.2.1 150 = .ok (.imul, 1) := by decide +kernel
theorem dX9_check_151 : decode mX9_check.2.1 151 = .ok (.iconst 1, 1) := by decide +kernel
theorem dX9_check_152 : decode mX9_check.2.1 152 = .ok (.iadd, 1) := by decide +kernel
theorem dX9_check_153 : decode mX9_check.2.1 153 = .ok (.iload_n 2, 1) := by decide +kernel
theorem dX9_check_154 : decode mX9_check.2.1 154 = .ok (.aload_n 0, 1) := by decide +kernel
theorem dX9_check_155 : decode mX9_check.2.1 155 = .ok (.getfield 26, 3) := by decide +kernel
theorem dX9_check_158 : decode mX9_check.2.1 158 = .ok (.iload 5, 2) := by decide +kernel
theorem dX9_check_160 : decode mX9_check.2.1 160 = .ok (.invokevirtual 328, 3) := by decide +kernel
theorem dX9_check_163 : decode mX9_check.2.1 163 = .ok (.invokevirtual 325, 3) := by decide +kernel
theorem dX9_check_166 : decode mX9_check.2.1 166 = .ok (.ifCond .ne 9, 3) := by decide +kernel
theorem dX9_check_169 : decode mX9_check.2.1 169 = .ok (.iconst 2, 1) := by decide +kernel
theorem dX9_check_170 : decode mX9_check.2.1 170 = .ok (.iload_n 3, 1) := by decide +kernel
theorem dX9_check_171 : decode mX9_check.2.1 171 = .ok (.imul, 1) := by decide +kernel
theorem dX9_check_172 : decode mX9_check.2.1 172 = .ok (.iconst 2, 1) := by decide +kernel
theorem dX9_check_173 : decode mX9_check.2.1 173 = .ok (.iadd, 1) := by decide +kernel
theorem dX9_check_174 : decode mX9_check.2.1 174 = .ok (.ireturn, 1) := by decide +kernel
theorem dX9_check_175 : decode mX9_check.2.1 175 = .ok (.iinc 3 1, 3) := by decide +kernel
theorem dX9_check_178 : decode mX9_check.2.1 178 = .ok (.goto (-105), 3) := by decide +kernel
theorem dX9_check_181 : decode mX9_check.2.1 181 = .ok (.iload_n 2, 1) := by decide +kernel
theorem dX9_check_182 : decode mX9_check.2.1 182 = .ok (.iconst 2, 1) := by decide +kernel
theorem dX9_check_183 : decode mX9_check.2.1 183 = .ok (.iload_n 1, 1) := by decide +kernel
theorem dX9_check_184 : decode mX9_check.2.1 184 = .ok (.imul, 1) := by decide +kernel
theorem dX9_check_185 : decode mX9_check.2.1 185 = .ok (.if_icmp .le 11, 3) := by decide +kernel
theorem dX9_check_188 : decode mX9_check.2.1 188 = .ok (.iconst 2, 1) := by decide +kernel
theorem dX9_check_189 : decode mX9_check.2.1 189 = .ok (.iload_n 1, 1) := by decide +kernel
theorem dX9_check_190 : decode mX9_check.2.1 190 = .ok (.imul, 1) := by decide +kernel
theorem dX9_check_191 : decode mX9_check.2.1 191 = .ok (.iconst 1, 1) := by decide +kernel
theorem dX9_check_192 : decode mX9_check.2.1 192 = .ok (.iadd, 1) := by decide +kernel
theorem dX9_check_193 : decode mX9_check.2.1 193 = .ok (.goto 4, 3) := by decide +kernel
theorem dX9_check_196 : decode mX9_check.2.1 196 = .ok (.iconst 0, 1) := by decide +kernel
theorem dX9_check_197 : decode mX9_check.2.1 197 = .ok (.ireturn, 1) := by decide +kernel
theorem dX9_keep_0 : decode mX9_keep.2.1 0 = .ok (.aload_n 0, 1) := by decide +kernel
theorem dX9_keep_1 : decode mX9_keep.2.1 1 = .ok (.getfield 16, 3) := by decide +kernel
theorem dX9_keep_4 : decode mX9_keep.2.1 4 = .ok (.aload_n 0, 1) := by decide +kernel
theorem dX9_keep_5 : decode mX9_keep.2.1 5 = .ok (.getfield 10, 3) := by decide +kernel
theorem dX9_keep_8 : decode mX9_keep.2.1 8 = .ok (.invokevirtual 331, 3) := by decide +kernel
theorem dX9_keep_11 : decode mX9_keep.2.1 11 = .ok (.aload_n 0, 1) := by decide +kernel
theorem dX9_keep_12 : decode mX9_keep.2.1 12 = .ok (.iconst 1, 1) := by decide +kernel
theorem dX9_keep_13 : decode mX9_keep.2.1 13 = .ok (.putfield 19, 3) := by decide +kernel
theorem dX9_keep_16 : decode mX9_keep.2.1 16 = .ok (.aload_n 0, 1) := by decide +kernel
theorem dX9_keep_17 : decode mX9_keep.2.1 17 = .ok (.getfield 16, 3) := by decide +kernel
theorem dX9_keep_20 : decode mX9_keep.2.1 20 = .ok (.getfield 94, 3) := by decide +kernel
theorem dX9_keep_23 : decode mX9_keep.2.1 23 = .ok (.ireturn, 1) := by decide +kernel
theorem dX9_back_0 : decode mX9_back.2.1 0 = .ok (.aload_n 0, 1) := by decide +kernel
theorem dX9_back_1 : decode mX9_back.2.1 1 = .ok (.getfield 19, 3) := by decide +kernel
theorem dX9_back_4 : decode mX9_back.2.1 4 = .ok (.ifCond .ne 6, 3) := by decide +kernel
theorem dX9_back_7 : decode mX9_back.2.1 7 = .ok (.ldc 197, 2) := by decide +kernel
theorem dX9_back_9 : decode mX9_back.2.1 9 = .ok (.ireturn, 1) := by decide +kernel
theorem dX9_back_10 : decode mX9_back.2.1 10 = .ok (.aload_n 0, 1) := by decide +kernel
theorem dX9_back_11 : decode mX9_back.2.1 11 = .ok (.getfield 10, 3) := by decide +kernel
theorem dX9_back_14 : decode mX9_back.2.1 14 = .ok (.aload_n 0, 1) := by decide +kernel
theorem dX9_back_15 : decode mX9_back.2.1 15 = .ok (.getfield 16, 3) := by decide +kernel
theorem dX9_back_18 : decode mX9_back.2.1 18 = .ok (.invokevirtual 331, 3) := by decide +kernel
theorem dX9_back_21 : decode mX9_back.2.1 21 = .ok (.aload_n 0, 1) := by decide +kernel
theorem dX9_back_22 : decode mX9_back.2.1 22 = .ok (.getfield 10, 3) := by decide +kernel
theorem dX9_back_25 : decode mX9_back.2.1 25 = .ok (.getfield 94, 3) := by decide +kernel
theorem dX9_back_28 : decode mX9_back.2.1 28 = .ok (.ireturn, 1) := by decide +kernel
theorem dX9_count_0 : decode mX9_count.2.1 0 = .ok (.iload_n 1, 1) := by decide +kernel
theorem dX9_count_1 : decode mX9_count.2.1 1 = .ok (.tableswitch 114 0 7 #[47, 55, 63, 71, 79, 87, 92, 103], 47) := by decide +kernel
theorem dX9_count_48 : decode mX9_count.2.1 48 = .ok (.aload_n 0, 1) := by decide +kernel
theorem dX9_count_49 : decode mX9_count.2.1 49 = .ok (.getfield 10, 3) := by decide +kernel
theorem dX9_count_52 : decode mX9_count.2.1 52 = .ok (.getfield 94, 3) := by decide +kernel
theorem dX9_count_55 : decode mX9_count.2.1 55 = .ok (.ireturn, 1) := by decide +kernel
theorem dX9_count_56 : decode mX9_count.2.1 56 = .ok (.aload_n 0, 1) := by decide +kernel
theorem dX9_count_57 : decode mX9_count.2.1 57 = .ok (.getfield 10, 3) := by decide +kernel
theorem dX9_count_60 : decode mX9_count.2.1 60 = .ok (.getfield 216, 3) := by decide +kernel
theorem dX9_count_63 : decode mX9_count.2.1 63 = .ok (.ireturn, 1) := by decide +kernel
theorem dX9_count_64 : decode mX9_count.2.1 64 = .ok (.aload_n 0, 1) := by decide +kernel
theorem dX9_count_65 : decode mX9_count.2.1 65 = .ok (.getfield 10, 3) := by decide +kernel
theorem dX9_count_68 : decode mX9_count.2.1 68 = .ok (.getfield 142, 3) := by decide +kernel
theorem dX9_count_71 : decode mX9_count.2.1 71 = .ok (.ireturn, 1) := by decide +kernel
theorem dX9_count_72 : decode mX9_count.2.1 72 = .ok (.aload_n 0, 1) := by decide +kernel
theorem dX9_count_73 : decode mX9_count.2.1 73 = .ok (.getfield 10, 3) := by decide +kernel
theorem dX9_count_76 : decode mX9_count.2.1 76 = .ok (.getfield 145, 3) := by decide +kernel
theorem dX9_count_79 : decode mX9_count.2.1 79 = .ok (.ireturn, 1) := by decide +kernel
theorem dX9_count_80 : decode mX9_count.2.1 80 = .ok (.aload_n 0, 1) := by decide +kernel
theorem dX9_count_81 : decode mX9_count.2.1 81 = .ok (.getfield 10, 3) := by decide +kernel
theorem dX9_count_84 : decode mX9_count.2.1 84 = .ok (.getfield 236, 3) := by decide +kernel
theorem dX9_count_87 : decode mX9_count.2.1 87 = .ok (.ireturn, 1) := by decide +kernel
theorem dX9_count_88 : decode mX9_count.2.1 88 = .ok (.aload_n 0, 1) := by decide +kernel
theorem dX9_count_89 : decode mX9_count.2.1 89 = .ok (.getfield 67, 3) := by decide +kernel
theorem dX9_count_92 : decode mX9_count.2.1 92 = .ok (.ireturn, 1) := by decide +kernel
theorem dX9_count_93 : decode mX9_count.2.1 93 = .ok (.aload_n 0, 1) := by decide +kernel
theorem dX9_count_94 : decode mX9_count.2.1 94 = .ok (.getfield 47, 3) := by decide +kernel
theorem dX9_count_97 : decode mX9_count.2.1 97 = .ok (.getfield 219, 3) := by decide +kernel
theorem dX9_count_100 : decode mX9_count.2.1 100 = .ok (.getfield 223, 3) := by decide +kernel
theorem dX9_count_103 : decode mX9_count.2.1 103 = .ok (.ireturn, 1) := by decide +kernel
theorem dX9_count_104 : decode mX9_count.2.1 104 = .ok (.aload_n 0, 1) := by decide +kernel
theorem dX9_count_105 : decode mX9_count.2.1 105 = .ok (.getfield 10, 3) := by decide +kernel
theorem dX9_count_108 : decode mX9_count.2.1 108 = .ok (.getfield 158, 3) := by decide +kernel
theorem dX9_count_111 : decode mX9_count.2.1 111 = .ok (.getfield 172, 3) := by decide +kernel
theorem dX9_count_114 : decode mX9_count.2.1 114 = .ok (.ireturn, 1) := by decide +kernel
theorem dX9_count_115 : decode mX9_count.2.1 115 = .ok (.ldc 77, 2) := by decide +kernel
theorem dX9_count_117 : decode mX9_count.2.1 117 = .ok (.ireturn, 1) := by decide +kernel
theorem dX9_within_0 : decode mX9_within.2.1 0 = .ok (.iload_n 0, 1) := by decide +kernel
theorem dX9_within_1 : decode mX9_within.2.1 1 = .ok (.iload_n 1, 1) := by decide +kernel
theorem dX9_within_2 : decode mX9_within.2.1 2 = .ok (.if_icmp .lt 12, 3) := by decide +kernel
theorem dX9_within_5 : decode mX9_within.2.1 5 = .ok (.iload_n 0, 1) := by decide +kernel
theorem dX9_within_6 : decode mX9_within.2.1 6 = .ok (.iload_n 2, 1) := by decide +kernel
theorem dX9_within_7 : decode mX9_within.2.1 7 = .ok (.if_icmp .gt 7, 3) := by decide +kernel
theorem dX9_within_10 : decode mX9_within.2.1 10 = .ok (.iconst 1, 1) := by decide +kernel
theorem dX9_within_11 : decode mX9_within.2.1 11 = .ok (.goto 4, 3) := by decide +kernel
theorem dX9_within_14 : decode mX9_within.2.1 14 = .ok (.iconst 0, 1) := by decide +kernel
theorem dX9_within_15 : decode mX9_within.2.1 15 = .ok (.ireturn, 1) := by decide +kernel
theorem dX9_held_0 : decode mX9_held.2.1 0 = .ok (.iload_n 1, 1) := by decide +kernel
theorem dX9_held_1 : decode mX9_held.2.1 1 = .ok (.iload_n 2, 1) := by decide +kernel
theorem dX9_held_2 : decode mX9_held.2.1 2 = .ok (.iload_n 0, 1) := by decide +kernel
theorem dX9_held_3 : decode mX9_held.2.1 3 = .ok (.invokestatic 97, 3) := by decide +kernel
theorem dX9_held_6 : decode mX9_held.2.1 6 = .ok (.invokestatic 333, 3) := by decide +kernel
theorem dX9_held_9 : decode mX9_held.2.1 9 = .ok (.ireturn, 1) := by decide +kernel
theorem dX9_isDay_0 : decode mX9_isDay.2.1 0 = .ok (.iload_n 0, 1) := by decide +kernel
theorem dX9_isDay_1 : decode mX9_isDay.2.1 1 = .ok (.iconst 0, 1) := by decide +kernel
theorem dX9_isDay_2 : decode mX9_isDay.2.1 2 = .ok (.bipush 30, 2) := by decide +kernel
theorem dX9_isDay_4 : decode mX9_isDay.2.1 4 = .ok (.invokestatic 86, 3) := by decide +kernel
theorem dX9_isDay_7 : decode mX9_isDay.2.1 7 = .ok (.ireturn, 1) := by decide +kernel
theorem dX9_isKind_0 : decode mX9_isKind.2.1 0 = .ok (.iload_n 0, 1) := by decide +kernel
theorem dX9_isKind_1 : decode mX9_isKind.2.1 1 = .ok (.iconst 0, 1) := by decide +kernel
theorem dX9_isKind_2 : decode mX9_isKind.2.1 2 = .ok (.iconst 5, 1) := by decide +kernel
theorem dX9_isKind_3 : decode mX9_isKind.2.1 3 = .ok (.invokestatic 86, 3) := by decide +kernel
theorem dX9_isKind_6 : decode mX9_isKind.2.1 6 = .ok (.ireturn, 1) := by decide +kernel
theorem dX9_isUnder_0 : decode mX9_isUnder.2.1 0 = .ok (.iload_n 0, 1) := by decide +kernel
theorem dX9_isUnder_1 : decode mX9_isUnder.2.1 1 = .ok (.istore_n 2, 1) := by decide +kernel
theorem dX9_isUnder_2 : decode mX9_isUnder.2.1 2 = .ok (.iconst 0, 1) := by decide +kernel
theorem dX9_isUnder_3 : decode mX9_isUnder.2.1 3 = .ok (.istore_n 3, 1) := by decide +kernel
theorem dX9_isUnder_4 : decode mX9_isUnder.2.1 4 = .ok (.iload_n 3, 1) := by decide +kernel
theorem dX9_isUnder_5 : decode mX9_isUnder.2.1 5 = .ok (.bipush 6, 2) := by decide +kernel
theorem dX9_isUnder_7 : decode mX9_isUnder.2.1 7 = .ok (.if_icmp .ge 29, 3) := by decide +kernel
theorem dX9_isUnder_10 : decode mX9_isUnder.2.1 10 = .ok (.iload_n 2, 1) := by decide +kernel
theorem dX9_isUnder_11 : decode mX9_isUnder.2.1 11 = .ok (.invokestatic 106, 3) := by decide +kernel
theorem dX9_isUnder_14 : decode mX9_isUnder.2.1 14 = .ok (.ifCond .eq 22, 3) := by decide +kernel
theorem dX9_isUnder_17 : decode mX9_isUnder.2.1 17 = .ok (.iload_n 2, 1) := by decide +kernel
theorem dX9_isUnder_18 : decode mX9_isUnder.2.1 18 = .ok (.iload_n 1, 1) := by decide +kernel
theorem dX9_isUnder_19 : decode mX9_isUnder.2.1 19 = .ok (.if_icmp .ne 5, 3) := by decide +kernel
theorem dX9_isUnder_22 : decode mX9_isUnder.2.1 22 = .ok (.iconst 1, 1) := by decide +kernel
theorem dX9_isUnder_23 : decode mX9_isUnder.2.1 23 = .ok (.ireturn, 1) := by decide +kernel
theorem dX9_isUnder_24 : decode mX9_isUnder.2.1 24 = .ok (.getstatic 336, 3) := by decide +kernel
theorem dX9_isUnder_27 : decode mX9_isUnder.2.1 27 = .ok (.iload_n 2, 1) := by decide +kernel
theorem dX9_isUnder_28 : decode mX9_isUnder.2.1 28 = .ok (.iaload, 1) := by decide +kernel
theorem dX9_isUnder_29 : decode mX9_isUnder.2.1 29 = .ok (.istore_n 2, 1) := by decide +kernel
theorem dX9_isUnder_30 : decode mX9_isUnder.2.1 30 = .ok (.iinc 3 1, 3) := by decide +kernel
theorem dX9_isUnder_33 : decode mX9_isUnder.2.1 33 = .ok (.goto (-29), 3) := by decide +kernel
theorem dX9_isUnder_36 : decode mX9_isUnder.2.1 36 = .ok (.iconst 0, 1) := by decide +kernel
theorem dX9_isUnder_37 : decode mX9_isUnder.2.1 37 = .ok (.ireturn, 1) := by decide +kernel
theorem dX9_fitsSort_0 : decode mX9_fitsSort.2.1 0 = .ok (.iload_n 0, 1) := by decide +kernel
theorem dX9_fitsSort_1 : decode mX9_fitsSort.2.1 1 = .ok (.iconst 0, 1) := by decide +kernel
theorem dX9_fitsSort_2 : decode mX9_fitsSort.2.1 2 = .ok (.bipush 6, 2) := by decide +kernel
theorem dX9_fitsSort_4 : decode mX9_fitsSort.2.1 4 = .ok (.invokestatic 86, 3) := by decide +kernel
theorem dX9_fitsSort_7 : decode mX9_fitsSort.2.1 7 = .ok (.ifCond .eq 20, 3) := by decide +kernel
theorem dX9_fitsSort_10 : decode mX9_fitsSort.2.1 10 = .ok (.iload_n 1, 1) := by decide +kernel
theorem dX9_fitsSort_11 : decode mX9_fitsSort.2.1 11 = .ok (.iconst 0, 1) := by decide +kernel
theorem dX9_fitsSort_12 : decode mX9_fitsSort.2.1 12 = .ok (.getstatic 339, 3) := by decide +kernel
theorem dX9_fitsSort_15 : decode mX9_fitsSort.2.1 15 = .ok (.iload_n 0, 1) := by decide +kernel
theorem dX9_fitsSort_16 : decode mX9_fitsSort.2.1 16 = .ok (.iaload, 1) := by decide +kernel
theorem dX9_fitsSort_17 : decode mX9_fitsSort.2.1 17 = .ok (.invokestatic 86, 3) := by decide +kernel
theorem dX9_fitsSort_20 : decode mX9_fitsSort.2.1 20 = .ok (.ifCond .eq 7, 3) := by decide +kernel
theorem dX9_fitsSort_23 : decode mX9_fitsSort.2.1 23 = .ok (.iconst 1, 1) := by decide +kernel
theorem dX9_fitsSort_24 : decode mX9_fitsSort.2.1 24 = .ok (.goto 4, 3) := by decide +kernel
theorem dX9_fitsSort_27 : decode mX9_fitsSort.2.1 27 = .ok (.iconst 0, 1) := by decide +kernel
theorem dX9_fitsSort_28 : decode mX9_fitsSort.2.1 28 = .ok (.ireturn, 1) := by decide +kernel
theorem dX9_fitsRule_0 : decode mX9_fitsRule.2.1 0 = .ok (.iload_n 0, 1) := by decide +kernel
theorem dX9_fitsRule_1 : decode mX9_fitsRule.2.1 1 = .ok (.iconst 0, 1) := by decide +kernel
theorem dX9_fitsRule_2 : decode mX9_fitsRule.2.1 2 = .ok (.iconst 2, 1) := by decide +kernel
theorem dX9_fitsRule_3 : decode mX9_fitsRule.2.1 3 = .ok (.invokestatic 86, 3) := by decide +kernel
theorem dX9_fitsRule_6 : decode mX9_fitsRule.2.1 6 = .ok (.ifCond .eq 24, 3) := by decide +kernel
theorem dX9_fitsRule_9 : decode mX9_fitsRule.2.1 9 = .ok (.iload_n 1, 1) := by decide +kernel
theorem dX9_fitsRule_10 : decode mX9_fitsRule.2.1 10 = .ok (.getstatic 342, 3) := by decide +kernel
theorem dX9_fitsRule_13 : decode mX9_fitsRule.2.1 13 = .ok (.iload_n 0, 1) := by decide +kernel
theorem dX9_fitsRule_14 : decode mX9_fitsRule.2.1 14 = .ok (.iaload, 1) := by decide +kernel
theorem dX9_fitsRule_15 : decode mX9_fitsRule.2.1 15 = .ok (.getstatic 345, 3) := by decide +kernel
theorem dX9_fitsRule_18 : decode mX9_fitsRule.2.1 18 = .ok (.iload_n 0, 1) := by decide +kernel
theorem dX9_fitsRule_19 : decode mX9_fitsRule.2.1 19 = .ok (.iaload, 1) := by decide +kernel
theorem dX9_fitsRule_20 : decode mX9_fitsRule.2.1 20 = .ok (.invokestatic 86, 3) := by decide +kernel
theorem dX9_fitsRule_23 : decode mX9_fitsRule.2.1 23 = .ok (.ifCond .eq 7, 3) := by decide +kernel
theorem dX9_fitsRule_26 : decode mX9_fitsRule.2.1 26 = .ok (.iconst 1, 1) := by decide +kernel
theorem dX9_fitsRule_27 : decode mX9_fitsRule.2.1 27 = .ok (.goto 4, 3) := by decide +kernel
theorem dX9_fitsRule_30 : decode mX9_fitsRule.2.1 30 = .ok (.iconst 0, 1) := by decide +kernel
theorem dX9_fitsRule_31 : decode mX9_fitsRule.2.1 31 = .ok (.ireturn, 1) := by decide +kernel
theorem dX9_sheetAt_0 : decode mX9_sheetAt.2.1 0 = .ok (.iload_n 1, 1) := by decide +kernel
theorem dX9_sheetAt_1 : decode mX9_sheetAt.2.1 1 = .ok (.iconst 0, 1) := by decide +kernel
theorem dX9_sheetAt_2 : decode mX9_sheetAt.2.1 2 = .ok (.iconst 3, 1) := by decide +kernel
theorem dX9_sheetAt_3 : decode mX9_sheetAt.2.1 3 = .ok (.invokestatic 86, 3) := by decide +kernel
theorem dX9_sheetAt_6 : decode mX9_sheetAt.2.1 6 = .ok (.ifCond .eq 12, 3) := by decide +kernel
theorem dX9_sheetAt_9 : decode mX9_sheetAt.2.1 9 = .ok (.aload_n 0, 1) := by decide +kernel
theorem dX9_sheetAt_10 : decode mX9_sheetAt.2.1 10 = .ok (.getfield 53, 3) := by decide +kernel
theorem dX9_sheetAt_13 : decode mX9_sheetAt.2.1 13 = .ok (.iload_n 1, 1) := by decide +kernel
theorem dX9_sheetAt_14 : decode mX9_sheetAt.2.1 14 = .ok (.aaload, 1) := by decide +kernel
theorem dX9_sheetAt_15 : decode mX9_sheetAt.2.1 15 = .ok (.goto 4, 3) := by decide +kernel
theorem dX9_sheetAt_18 : decode mX9_sheetAt.2.1 18 = .ok (.aconst_null, 1) := by decide +kernel
theorem dX9_sheetAt_19 : decode mX9_sheetAt.2.1 19 = .ok (.areturn, 1) := by decide +kernel
theorem dX9_slotAt_0 : decode mX9_slotAt.2.1 0 = .ok (.iload_n 1, 1) := by decide +kernel
theorem dX9_slotAt_1 : decode mX9_slotAt.2.1 1 = .ok (.iconst 0, 1) := by decide +kernel
theorem dX9_slotAt_2 : decode mX9_slotAt.2.1 2 = .ok (.iconst 4, 1) := by decide +kernel
theorem dX9_slotAt_3 : decode mX9_slotAt.2.1 3 = .ok (.invokestatic 86, 3) := by decide +kernel
theorem dX9_slotAt_6 : decode mX9_slotAt.2.1 6 = .ok (.ifCond .eq 12, 3) := by decide +kernel
theorem dX9_slotAt_9 : decode mX9_slotAt.2.1 9 = .ok (.aload_n 0, 1) := by decide +kernel
theorem dX9_slotAt_10 : decode mX9_slotAt.2.1 10 = .ok (.getfield 59, 3) := by decide +kernel
theorem dX9_slotAt_13 : decode mX9_slotAt.2.1 13 = .ok (.iload_n 1, 1) := by decide +kernel
theorem dX9_slotAt_14 : decode mX9_slotAt.2.1 14 = .ok (.aaload, 1) := by decide +kernel
theorem dX9_slotAt_15 : decode mX9_slotAt.2.1 15 = .ok (.goto 4, 3) := by decide +kernel
theorem dX9_slotAt_18 : decode mX9_slotAt.2.1 18 = .ok (.aconst_null, 1) := by decide +kernel
theorem dX9_slotAt_19 : decode mX9_slotAt.2.1 19 = .ok (.areturn, 1) := by decide +kernel
theorem dX9_waitsAt_0 : decode mX9_waitsAt.2.1 0 = .ok (.iload_n 1, 1) := by decide +kernel
theorem dX9_waitsAt_1 : decode mX9_waitsAt.2.1 1 = .ok (.iconst 0, 1) := by decide +kernel
theorem dX9_waitsAt_2 : decode mX9_waitsAt.2.1 2 = .ok (.bipush 59, 2) := by decide +kernel
theorem dX9_waitsAt_4 : decode mX9_waitsAt.2.1 4 = .ok (.invokestatic 86, 3) := by decide +kernel
theorem dX9_waitsAt_7 : decode mX9_waitsAt.2.1 7 = .ok (.ifCond .eq 22, 3) := by decide +kernel
theorem dX9_waitsAt_10 : decode mX9_waitsAt.2.1 10 = .ok (.iload_n 1, 1) := by decide +kernel
theorem dX9_waitsAt_11 : decode mX9_waitsAt.2.1 11 = .ok (.iload_n 2, 1) := by decide +kernel
theorem dX9_waitsAt_12 : decode mX9_waitsAt.2.1 12 = .ok (.if_icmp .ge 17, 3) := by decide +kernel
theorem dX9_waitsAt_15 : decode mX9_waitsAt.2.1 15 = .ok (.aload_n 0, 1) := by decide +kernel
theorem dX9_waitsAt_16 : decode mX9_waitsAt.2.1 16 = .ok (.getfield 63, 3) := by decide +kernel
theorem dX9_waitsAt_19 : decode mX9_waitsAt.2.1 19 = .ok (.iload_n 1, 1) := by decide +kernel
theorem dX9_waitsAt_20 : decode mX9_waitsAt.2.1 20 = .ok (.iaload, 1) := by decide +kernel
theorem dX9_waitsAt_21 : decode mX9_waitsAt.2.1 21 = .ok (.iload_n 3, 1) := by decide +kernel
theorem dX9_waitsAt_22 : decode mX9_waitsAt.2.1 22 = .ok (.if_icmp .ne 7, 3) := by decide +kernel
theorem dX9_waitsAt_25 : decode mX9_waitsAt.2.1 25 = .ok (.iconst 1, 1) := by decide +kernel
theorem dX9_waitsAt_26 : decode mX9_waitsAt.2.1 26 = .ok (.goto 4, 3) := by decide +kernel
theorem dX9_waitsAt_29 : decode mX9_waitsAt.2.1 29 = .ok (.iconst 0, 1) := by decide +kernel
theorem dX9_waitsAt_30 : decode mX9_waitsAt.2.1 30 = .ok (.ireturn, 1) := by decide +kernel
theorem dX9_lostAt_0 : decode mX9_lostAt.2.1 0 = .ok (.aload_n 0, 1) := by decide +kernel
theorem dX9_lostAt_1 : decode mX9_lostAt.2.1 1 = .ok (.getfield 33, 3) := by decide +kernel
theorem dX9_lostAt_4 : decode mX9_lostAt.2.1 4 = .ok (.getfield 127, 3) := by decide +kernel
theorem dX9_lostAt_7 : decode mX9_lostAt.2.1 7 = .ok (.iconst 0, 1) := by decide +kernel
theorem dX9_lostAt_8 : decode mX9_lostAt.2.1 8 = .ok (.iload_n 2, 1) := by decide +kernel
theorem dX9_lostAt_9 : decode mX9_lostAt.2.1 9 = .ok (.iastore, 1) := by decide +kernel
theorem dX9_lostAt_10 : decode mX9_lostAt.2.1 10 = .ok (.aload_n 0, 1) := by decide +kernel
theorem dX9_lostAt_11 : decode mX9_lostAt.2.1 11 = .ok (.getfield 26, 3) := by decide +kernel
theorem dX9_lostAt_14 : decode mX9_lostAt.2.1 14 = .ok (.aload_n 0, 1) := by decide +kernel
theorem dX9_lostAt_15 : decode mX9_lostAt.2.1 15 = .ok (.getfield 10, 3) := by decide +kernel
theorem dX9_lostAt_18 : decode mX9_lostAt.2.1 18 = .ok (.aload_n 0, 1) := by decide +kernel
theorem dX9_lostAt_19 : decode mX9_lostAt.2.1 19 = .ok (.getfield 33, 3) := by decide +kernel
theorem dX9_lostAt_22 : decode mX9_lostAt.2.1 22 = .ok (.invokevirtual 205, 3) := by decide +kernel
theorem dX9_lostAt_25 : decode mX9_lostAt.2.1 25 = .ok (.aload_n 0, 1) := by decide +kernel
theorem dX9_lostAt_26 : decode mX9_lostAt.2.1 26 = .ok (.getfield 26, 3) := by decide +kernel
theorem dX9_lostAt_29 : decode mX9_lostAt.2.1 29 = .ok (.aload_n 0, 1) := by decide +kernel
theorem dX9_lostAt_30 : decode mX9_lostAt.2.1 30 = .ok (.getfield 10, 3) := by decide +kernel
theorem dX9_lostAt_33 : decode mX9_lostAt.2.1 33 = .ok (.iload_n 1, 1) := by decide +kernel
theorem dX9_lostAt_34 : decode mX9_lostAt.2.1 34 = .ok (.invokevirtual 169, 3) := by decide +kernel
theorem dX9_lostAt_37 : decode mX9_lostAt.2.1 37 = .ok (.aload_n 0, 1) := by decide +kernel
theorem dX9_lostAt_38 : decode mX9_lostAt.2.1 38 = .ok (.getfield 26, 3) := by decide +kernel
theorem dX9_lostAt_41 : decode mX9_lostAt.2.1 41 = .ok (.getfield 348, 3) := by decide +kernel
theorem dX9_lostAt_44 : decode mX9_lostAt.2.1 44 = .ok (.bipush 30, 2) := by decide +kernel
theorem dX9_lostAt_46 : decode mX9_lostAt.2.1 46 = .ok (.iaload, 1) := by decide +kernel
theorem dX9_lostAt_47 : decode mX9_lostAt.2.1 47 = .ok (.ireturn, 1) := by decide +kernel
theorem dX10_init_0 : decode mX10_init.2.1 0 = .ok (.aload_n 0, 1) := by decide +kernel
theorem dX10_init_1 : decode mX10_init.2.1 1 = .ok (.invokespecial 1, 3) := by decide +kernel
theorem dX10_init_4 : decode mX10_init.2.1 4 = .ok (.aload_n 0, 1) := by decide +kernel
theorem dX10_init_5 : decode mX10_init.2.1 5 = .ok (.sipush 1452, 3) := by decide +kernel
theorem dX10_init_8 : decode mX10_init.2.1 8 = .ok (.newarray .int, 2) := by decide +kernel
theorem dX10_init_10 : decode mX10_init.2.1 10 = .ok (.putfield 9, 3) := by decide +kernel
theorem dX10_init_13 : decode mX10_init.2.1 13 = .ok (.aload_n 0, 1) := by decide +kernel
theorem dX10_init_14 : decode mX10_init.2.1 14 = .ok (.sipush 1452, 3) := by decide +kernel
theorem dX10_init_17 : decode mX10_init.2.1 17 = .ok (.newarray .int, 2) := by decide +kernel
theorem dX10_init_19 : decode mX10_init.2.1 19 = .ok (.putfield 13, 3) := by decide +kernel
theorem dX10_init_22 : decode mX10_init.2.1 22 = .ok (.aload_n 0, 1) := by decide +kernel
theorem dX10_init_23 : decode mX10_init.2.1 23 = .ok (.sipush 1452, 3) := by decide +kernel
theorem dX10_init_26 : decode mX10_init.2.1 26 = .ok (.newarray .int, 2) := by decide +kernel
theorem dX10_init_28 : decode mX10_init.2.1 28 = .ok (.putfield 16, 3) := by decide +kernel
theorem dX10_init_31 : decode mX10_init.2.1 31 = .ok (.aload_n 0, 1) := by decide +kernel
theorem dX10_init_32 : decode mX10_init.2.1 32 = .ok (.bipush 31, 2) := by decide +kernel
theorem dX10_init_34 : decode mX10_init.2.1 34 = .ok (.newarray .int, 2) := by decide +kernel
theorem dX10_init_36 : decode mX10_init.2.1 36 = .ok (.putfield 19, 3) := by decide +kernel
theorem dX10_init_39 : decode mX10_init.2.1 39 = .ok (.aload_n 0, 1) := by decide +kernel
theorem dX10_init_40 : decode mX10_init.2.1 40 = .ok (.bipush 31, 2) := by decide +kernel
theorem dX10_init_42 : decode mX10_init.2.1 42 = .ok (.newarray .int, 2) := by decide +kernel
theorem dX10_init_44 : decode mX10_init.2.1 44 = .ok (.putfield 22, 3) := by decide +kernel
theorem dX10_init_47 : decode mX10_init.2.1 47 = .ok (.aload_n 0, 1) := by decide +kernel
theorem dX10_init_48 : decode mX10_init.2.1 48 = .ok (.bipush 31, 2) := by decide +kernel
theorem dX10_init_50 : decode mX10_init.2.1 50 = .ok (.newarray .int, 2) := by decide +kernel
theorem dX10_init_52 : decode mX10_init.2.1 52 = .ok (.putfield 25, 3) := by decide +kernel
theorem dX10_init_55 : decode mX10_init.2.1 55 = .ok (.aload_n 0, 1) := by decide +kernel
theorem dX10_init_56 : decode mX10_init.2.1 56 = .ok (.bipush 31, 2) := by decide +kernel
theorem dX10_init_58 : decode mX10_init.2.1 58 = .ok (.newarray .int, 2) := by decide +kernel
theorem dX10_init_60 : decode mX10_init.2.1 60 = .ok (.putfield 28, 3) := by decide +kernel
theorem dX10_init_63 : decode mX10_init.2.1 63 = .ok (.aload_n 0, 1) := by decide +kernel
theorem dX10_init_64 : decode mX10_init.2.1 64 = .ok (.bipush 32, 2) := by decide +kernel
theorem dX10_init_66 : decode mX10_init.2.1 66 = .ok (.newarray .int, 2) := by decide +kernel
theorem dX10_init_68 : decode mX10_init.2.1 68 = .ok (.putfield 31, 3) := by decide +kernel
theorem dX10_init_71 : decode mX10_init.2.1 71 = .ok (.aload_n 0, 1) := by decide +kernel
theorem dX10_init_72 : decode mX10_init.2.1 72 = .ok (.bipush 31, 2) := by decide +kernel
theorem dX10_init_74 : decode mX10_init.2.1 74 = .ok (.newarray .boolean, 2) := by decide +kernel
theorem dX10_init_76 : decode mX10_init.2.1 76 = .ok (.putfield 34, 3) := by decide +kernel
theorem dX10_init_79 : decode mX10_init.2.1 79 = .ok (.aload_n 0, 1) := by decide +kernel
theorem dX10_init_80 : decode mX10_init.2.1 80 = .ok (.bipush 31, 2) := by decide +kernel
theorem dX10_init_82 : decode mX10_init.2.1 82 = .ok (.newarray .int, 2) := by decide +kernel
theorem dX10_init_84 : decode mX10_init.2.1 84 = .ok (.putfield 38, 3) := by decide +kernel
theorem dX10_init_87 : decode mX10_init.2.1 87 = .ok (.aload_n 0, 1) := by decide +kernel
theorem dX10_init_88 : decode mX10_init.2.1 88 = .ok (.bipush 32, 2) := by decide +kernel
theorem dX10_init_90 : decode mX10_init.2.1 90 = .ok (.newarray .int, 2) := by decide +kernel
theorem dX10_init_92 : decode mX10_init.2.1 92 = .ok (.putfield 41, 3) := by decide +kernel
theorem dX10_init_95 : decode mX10_init.2.1 95 = .ok (.aload_n 0, 1) := by decide +kernel
theorem dX10_init_96 : decode mX10_init.2.1 96 = .ok (.bipush 96, 2) := by decide +kernel
theorem dX10_init_98 : decode mX10_init.2.1 98 = .ok (.newarray .int, 2) := by decide +kernel
theorem dX10_init_100 : decode mX10_init.2.1 100 = .ok (.putfield 44, 3) := by decide +kernel
theorem dX10_init_103 : decode mX10_init.2.1 103 = .ok (.aload_n 0, 1) := by decide +kernel
theorem dX10_init_104 : decode mX10_init.2.1 104 = .ok (.bipush 14, 2) := by decide +kernel
theorem dX10_init_106 : decode mX10_init.2.1 106 = .ok (.newarray .char, 2) := by decide +kernel
theorem dX10_init_108 : decode mX10_init.2.1 108 = .ok (.dup, 1) := by decide +kernel
theorem dX10_init_109 : decode mX10_init.2.1 109 = .ok (.iconst 0, 1) := by decide +kernel
theorem dX10_init_110 : decode mX10_init.2.1 110 = .ok (.bipush 111, 2) := by decide +kernel
theorem dX10_init_112 : decode mX10_init.2.1 112 = .ok (.castore, 1) := by decide +kernel
theorem dX10_init_113 : decode mX10_init.2.1 113 = .ok (.dup, 1) := by decide +kernel
theorem dX10_init_114 : decode mX10_init.2.1 114 = .ok (.iconst 1, 1) := by decide +kernel
theorem dX10_init_115 : decode mX10_init.2.1 115 = .ok (.bipush 119, 2) := by decide +kernel
theorem dX10_init_117 : decode mX10_init.2.1 117 = .ok (.castore, 1) := by decide +kernel
theorem dX10_init_118 : decode mX10_init.2.1 118 = .ok (.dup, 1) := by decide +kernel
theorem dX10_init_119 : decode mX10_init.2.1 119 = .ok (.iconst 2, 1) := by decide +kernel
theorem dX10_init_120 : decode mX10_init.2.1 120 = .ok (.bipush 101, 2) := by decide +kernel
theorem dX10_init_122 : decode mX10_init.2.1 122 = .ok (.castore, 1) := by decide +kernel
theorem dX10_init_123 : decode mX10_init.2.1 123 = .ok (.dup, 1) := by decide +kernel
theorem dX10_init_124 : decode mX10_init.2.1 124 = .ok (.iconst 3, 1) := by decide +kernel
theorem dX10_init_125 : decode mX10_init.2.1 125 = .ok (.bipush 115, 2) := by decide +kernel
theorem dX10_init_127 : decode mX10_init.2.1 127 = .ok (.castore, 1) := by decide +kernel
theorem dX10_init_128 : decode mX10_init.2.1 128 = .ok (.dup, 1) := by decide +kernel
theorem dX10_init_129 : decode mX10_init.2.1 129 = .ok (.iconst 4, 1) := by decide +kernel
theorem dX10_init_130 : decode mX10_init.2.1 130 = .ok (.bipush 104, 2) := by decide +kernel
theorem dX10_init_132 : decode mX10_init.2.1 132 = .ok (.castore, 1) := by decide +kernel
theorem dX10_init_133 : decode mX10_init.2.1 133 = .ok (.dup, 1) := by decide +kernel
theorem dX10_init_134 : decode mX10_init.2.1 134 = .ok (.iconst 5, 1) := by decide +kernel
theorem dX10_init_135 : decode mX10_init.2.1 135 = .ok (.bipush 97, 2) := by decide +kernel
theorem dX10_init_137 : decode mX10_init.2.1 137 = .ok (.castore, 1) := by decide +kernel
theorem dX10_init_138 : decode mX10_init.2.1 138 = .ok (.dup, 1) := by decide +kernel
theorem dX10_init_139 : decode mX10_init.2.1 139 = .ok (.bipush 6, 2) := by decide +kernel
theorem dX10_init_141 : decode mX10_init.2.1 141 = .ok (.bipush 109, 2) := by decide +kernel
theorem dX10_init_143 : decode mX10_init.2.1 143 = .ok (.castore, 1) := by decide +kernel
theorem dX10_init_144 : decode mX10_init.2.1 144 = .ok (.dup, 1) := by decide +kernel
theorem dX10_init_145 : decode mX10_init.2.1 145 = .ok (.bipush 7, 2) := by decide +kernel
theorem dX10_init_147 : decode mX10_init.2.1 147 = .ok (.bipush 101, 2) := by decide +kernel
theorem dX10_init_149 : decode mX10_init.2.1 149 = .ok (.castore, 1) := by decide +kernel
theorem dX10_init_150 : decode mX10_init.2.1 150 = .ok (.dup, 1) := by decide +kernel
theorem dX10_init_151 : decode mX10_init.2.1 151 = .ok (.bipush 8, 2) := by decide +kernel
theorem dX10_init_153 : decode mX10_init.2.1 153 = .ok (.bipush 102, 2) := by decide +kernel
theorem dX10_init_155 : decode mX10_init.2.1 155 = .ok (.castore, 1) := by decide +kernel
theorem dX10_init_156 : decode mX10_init.2.1 156 = .ok (.dup, 1) := by decide +kernel
theorem dX10_init_157 : decode mX10_init.2.1 157 = .ok (.bipush 9, 2) := by decide +kernel
theorem dX10_init_159 : decode mX10_init.2.1 159 = .ok (.bipush 111, 2) := by decide +kernel
theorem dX10_init_161 : decode mX10_init.2.1 161 = .ok (.castore, 1) := by decide +kernel
theorem dX10_init_162 : decode mX10_init.2.1 162 = .ok (.dup, 1) := by decide +kernel
theorem dX10_init_163 : decode mX10_init.2.1 163 = .ok (.bipush 10, 2) := by decide +kernel
theorem dX10_init_165 : decode mX10_init.2.1 165 = .ok (.bipush 114, 2) := by decide +kernel
theorem dX10_init_167 : decode mX10_init.2.1 167 = .ok (.castore, 1) := by decide +kernel
theorem dX10_init_168 : decode mX10_init.2.1 168 = .ok (.dup, 1) := by decide +kernel
theorem dX10_init_169 : decode mX10_init.2.1 169 = .ok (.bipush 11, 2) := by decide +kernel
theorem dX10_init_171 : decode mX10_init.2.1 171 = .ok (.bipush 103, 2) := by decide +kernel
theorem dX10_init_173 : decode mX10_init.2.1 173 = .ok (.castore, 1) := by decide +kernel
theorem dX10_init_174 : decode mX10_init.2.1 174 = .ok (.dup, 1) := by decide +kernel
theorem dX10_init_175 : decode mX10_init.2.1 175 = .ok (.bipush 12, 2) := by decide +kernel
theorem dX10_init_177 : decode mX10_init.2.1 177 = .ok (.bipush 101, 2) := by decide +kernel
theorem dX10_init_179 : decode mX10_init.2.1 179 = .ok (.castore, 1) := by decide +kernel
theorem dX10_init_180 : decode mX10_init.2.1 180 = .ok (.dup, 1) := by decide +kernel
theorem dX10_init_181 : decode mX10_init.2.1 181 = .ok (.bipush 13, 2) := by decide +kernel
theorem dX10_init_183 : decode mX10_init.2.1 183 = .ok (.bipush 116, 2) := by decide +kernel
theorem dX10_init_185 : decode mX10_init.2.1 185 = .ok (.castore, 1) := by decide +kernel
theorem dX10_init_186 : decode mX10_init.2.1 186 = .ok (.putfield 47, 3) := by decide +kernel
theorem dX10_init_189 : decode mX10_init.2.1 189 = .ok (.aload_n 0, 1) := by decide +kernel
theorem dX10_init_190 : decode mX10_init.2.1 190 = .ok (.iconst 4, 1) := by decide +kernel
theorem dX10_init_191 : decode mX10_init.2.1 191 = .ok (.newarray .int, 2) := by decide +kernel
theorem dX10_init_193 : decode mX10_init.2.1 193 = .ok (.dup, 1) := by decide +kernel
theorem dX10_init_194 : decode mX10_init.2.1 194 = .ok (.iconst 0, 1) := by decide +kernel
theorem dX10_init_195 : decode mX10_init.2.1 195 = .ok (.iconst 0, 1) := by decide +kernel
theorem dX10_init_196 : decode mX10_init.2.1 196 = .ok (.iastore, 1) := by decide +kernel
theorem dX10_init_197 : decode mX10_init.2.1 197 = .ok (.dup, 1) := by decide +kernel
theorem dX10_init_198 : decode mX10_init.2.1 198 = .ok (.iconst 1, 1) := by decide +kernel
theorem dX10_init_199 : decode mX10_init.2.1 199 = .ok (.iconst 3, 1) := by decide +kernel
theorem dX10_init_200 : decode mX10_init.2.1 200 = .ok (.iastore, 1) := by decide +kernel
theorem dX10_init_201 : decode mX10_init.2.1 201 = .ok (.dup, 1) := by decide +kernel
theorem dX10_init_202 : decode mX10_init.2.1 202 = .ok (.iconst 2, 1) := by decide +kernel
theorem dX10_init_203 : decode mX10_init.2.1 203 = .ok (.bipush 8, 2) := by decide +kernel
theorem dX10_init_205 : decode mX10_init.2.1 205 = .ok (.iastore, 1) := by decide +kernel
theorem dX10_init_206 : decode mX10_init.2.1 206 = .ok (.dup, 1) := by decide +kernel
theorem dX10_init_207 : decode mX10_init.2.1 207 = .ok (.iconst 3, 1) := by decide +kernel
theorem dX10_init_208 : decode mX10_init.2.1 208 = .ok (.bipush 14, 2) := by decide +kernel
theorem dX10_init_210 : decode mX10_init.2.1 210 = .ok (.iastore, 1) := by decide +kernel
theorem dX10_init_211 : decode mX10_init.2.1 211 = .ok (.putfield 51, 3) := by decide +kernel
theorem dX10_init_214 : decode mX10_init.2.1 214 = .ok (.aload_n 0, 1) := by decide +kernel
theorem dX10_init_215 : decode mX10_init.2.1 215 = .ok (.bipush 96, 2) := by decide +kernel
theorem dX10_init_217 : decode mX10_init.2.1 217 = .ok (.newarray .int, 2) := by decide +kernel
theorem dX10_init_219 : decode mX10_init.2.1 219 = .ok (.putfield 54, 3) := by decide +kernel
theorem dX10_init_222 : decode mX10_init.2.1 222 = .ok (.aload_n 0, 1) := by decide +kernel
theorem dX10_init_223 : decode mX10_init.2.1 223 = .ok (.bipush 96, 2) := by decide +kernel
theorem dX10_init_225 : decode mX10_init.2.1 225 = .ok (.newarray .int, 2) := by decide +kernel
theorem dX10_init_227 : decode mX10_init.2.1 227 = .ok (.putfield 57, 3) := by decide +kernel
theorem dX10_init_230 : decode mX10_init.2.1 230 = .ok (.aload_n 0, 1) := by decide +kernel
theorem dX10_init_231 : decode mX10_init.2.1 231 = .ok (.bipush 10, 2) := by decide +kernel
theorem dX10_init_233 : decode mX10_init.2.1 233 = .ok (.newarray .boolean, 2) := by decide +kernel
theorem dX10_init_235 : decode mX10_init.2.1 235 = .ok (.putfield 60, 3) := by decide +kernel
theorem dX10_init_238 : decode mX10_init.2.1 238 = .ok (.aload_n 0, 1) := by decide +kernel
theorem dX10_init_239 : decode mX10_init.2.1 239 = .ok (.bipush 96, 2) := by decide +kernel
theorem dX10_init_241 : decode mX10_init.2.1 241 = .ok (.newarray .int, 2) := by decide +kernel
theorem dX10_init_243 : decode mX10_init.2.1 243 = .ok (.putfield 63, 3) := by decide +kernel
theorem dX10_init_246 : decode mX10_init.2.1 246 = .ok (.aload_n 0, 1) := by decide +kernel
theorem dX10_init_247 : decode mX10_init.2.1 247 = .ok (.iconst 4, 1) := by decide +kernel
theorem dX10_init_248 : decode mX10_init.2.1 248 = .ok (.newarray .int, 2) := by decide +kernel
theorem dX10_init_250 : decode mX10_init.2.1 250 = .ok (.putfield 66, 3) := by decide +kernel
theorem dX10_init_253 : decode mX10_init.2.1 253 = .ok (.aload_n 0, 1) := by decide +kernel
theorem dX10_init_254 : decode mX10_init.2.1 254 = .ok (.iconst 4, 1) := by decide +kernel
theorem dX10_init_255 : decode mX10_init.2.1 255 = .ok (.newarray .int, 2) := by decide +kernel
theorem dX10_init_257 : decode mX10_init.2.1 257 = .ok (.dup, 1) := by decide +kernel
theorem dX10_init_258 : decode mX10_init.2.1 258 = .ok (.iconst 0, 1) := by decide +kernel
theorem dX10_init_259 : decode mX10_init.2.1 259 = .ok (.iconst (-1), 1) := by decide +kernel
theorem dX10_init_260 : decode mX10_init.2.1 260 = .ok (.iastore, 1) := by decide +kernel
theorem dX10_init_261 : decode mX10_init.2.1 261 = .ok (.dup, 1) := by decide +kernel
theorem dX10_init_262 : decode mX10_init.2.1 262 = .ok (.iconst 1, 1) := by decide +kernel
theorem dX10_init_263 : decode mX10_init.2.1 263 = .ok (.iconst (-1), 1) := by decide +kernel
theorem dX10_init_264 : decode mX10_init.2.1 264 = .ok (.iastore, 1) := by decide +kernel
theorem dX10_init_265 : decode mX10_init.2.1 265 = .ok (.dup, 1) := by decide +kernel
theorem dX10_init_266 : decode mX10_init.2.1 266 = .ok (.iconst 2, 1) := by decide +kernel
theorem dX10_init_267 : decode mX10_init.2.1 267 = .ok (.iconst (-1), 1) := by decide +kernel
theorem dX10_init_268 : decode mX10_init.2.1 268 = .ok (.iastore, 1) := by decide +kernel
theorem dX10_init_269 : decode mX10_init.2.1 269 = .ok (.dup, 1) := by decide +kernel
theorem dX10_init_270 : decode mX10_init.2.1 270 = .ok (.iconst 3, 1) := by decide +kernel
theorem dX10_init_271 : decode mX10_init.2.1 271 = .ok (.iconst (-1), 1) := by decide +kernel
theorem dX10_init_272 : decode mX10_init.2.1 272 = .ok (.iastore, 1) := by decide +kernel
theorem dX10_init_273 : decode mX10_init.2.1 273 = .ok (.putfield 69, 3) := by decide +kernel
theorem dX10_init_276 : decode mX10_init.2.1 276 = .ok (.aload_n 0, 1) := by decide +kernel
theorem dX10_init_277 : decode mX10_init.2.1 277 = .ok (.iconst 4, 1) := by decide +kernel
theorem dX10_init_278 : decode mX10_init.2.1 278 = .ok (.newarray .int, 2) := by decide +kernel
theorem dX10_init_280 : decode mX10_init.2.1 280 = .ok (.putfield 72, 3) := by decide +kernel
theorem dX10_init_283 : decode mX10_init.2.1 283 = .ok (.aload_n 0, 1) := by decide +kernel
theorem dX10_init_284 : decode mX10_init.2.1 284 = .ok (.bipush 96, 2) := by decide +kernel
theorem dX10_init_286 : decode mX10_init.2.1 286 = .ok (.newarray .int, 2) := by decide +kernel
theorem dX10_init_288 : decode mX10_init.2.1 288 = .ok (.putfield 75, 3) := by decide +kernel
theorem dX10_init_291 : decode mX10_init.2.1 291 = .ok (.aload_n 0, 1) := by decide +kernel
theorem dX10_init_292 : decode mX10_init.2.1 292 = .ok (.iconst 5, 1) := by decide +kernel
theorem dX10_init_293 : decode mX10_init.2.1 293 = .ok (.newarray .int, 2) := by decide +kernel
theorem dX10_init_295 : decode mX10_init.2.1 295 = .ok (.putfield 78, 3) := by decide +kernel
theorem dX10_init_298 : decode mX10_init.2.1 298 = .ok (.aload_n 0, 1) := by decide +kernel
theorem dX10_init_299 : decode mX10_init.2.1 299 = .ok (.iconst 5, 1) := by decide +kernel
theorem dX10_init_300 : decode mX10_init.2.1 300 = .ok (.newarray .int, 2) := by decide +kernel
theorem dX10_init_302 : decode mX10_init.2.1 302 = .ok (.putfield 81, 3) := by decide +kernel
theorem dX10_init_305 : decode mX10_init.2.1 305 = .ok (.aload_n 0, 1) := by decide +kernel
theorem dX10_init_306 : decode mX10_init.2.1 306 = .ok (.iconst 5, 1) := by decide +kernel
theorem dX10_init_307 : decode mX10_init.2.1 307 = .ok (.newarray .int, 2) := by decide +kernel
theorem dX10_init_309 : decode mX10_init.2.1 309 = .ok (.putfield 84, 3) := by decide +kernel
theorem dX10_init_312 : decode mX10_init.2.1 312 = .ok (.aload_n 0, 1) := by decide +kernel
theorem dX10_init_313 : decode mX10_init.2.1 313 = .ok (.bipush 120, 2) := by decide +kernel
theorem dX10_init_315 : decode mX10_init.2.1 315 = .ok (.newarray .int, 2) := by decide +kernel
theorem dX10_init_317 : decode mX10_init.2.1 317 = .ok (.putfield 87, 3) := by decide +kernel
theorem dX10_init_320 : decode mX10_init.2.1 320 = .ok (.aload_n 0, 1) := by decide +kernel
theorem dX10_init_321 : decode mX10_init.2.1 321 = .ok (.bipush 24, 2) := by decide +kernel
theorem dX10_init_323 : decode mX10_init.2.1 323 = .ok (.newarray .int, 2) := by decide +kernel
theorem dX10_init_325 : decode mX10_init.2.1 325 = .ok (.putfield 90, 3) := by decide +kernel
theorem dX10_init_328 : decode mX10_init.2.1 328 = .ok (.aload_n 0, 1) := by decide +kernel
theorem dX10_init_329 : decode mX10_init.2.1 329 = .ok (.bipush 60, 2) := by decide +kernel
theorem dX10_init_331 : decode mX10_init.2.1 331 = .ok (.newarray .int, 2) := by decide +kernel
theorem dX10_init_333 : decode mX10_init.2.1 333 = .ok (.putfield 93, 3) := by decide +kernel
theorem dX10_init_336 : decode mX10_init.2.1 336 = .ok (.aload_n 0, 1) := by decide +kernel
theorem dX10_init_337 : decode mX10_init.2.1 337 = .ok (.getfield 9, 3) := by decide +kernel
theorem dX10_init_340 : decode mX10_init.2.1 340 = .ok (.iconst 0, 1) := by decide +kernel
theorem dX10_init_341 : decode mX10_init.2.1 341 = .ok (.iconst 1, 1) := by decide +kernel
theorem dX10_init_342 : decode mX10_init.2.1 342 = .ok (.iastore, 1) := by decide +kernel
theorem dX10_init_343 : decode mX10_init.2.1 343 = .ok (.aload_n 0, 1) := by decide +kernel
theorem dX10_init_344 : decode mX10_init.2.1 344 = .ok (.getfield 9, 3) := by decide +kernel
theorem dX10_init_347 : decode mX10_init.2.1 347 = .ok (.iconst 3, 1) := by decide +kernel
theorem dX10_init_348 : decode mX10_init.2.1 348 = .ok (.iconst (-1), 1) := by decide +kernel
theorem dX10_init_349 : decode mX10_init.2.1 349 = .ok (.iastore, 1) := by decide +kernel
theorem dX10_init_350 : decode mX10_init.2.1 350 = .ok (.aload_n 0, 1) := by decide +kernel
theorem dX10_init_351 : decode mX10_init.2.1 351 = .ok (.getfield 9, 3) := by decide +kernel
theorem dX10_init_354 : decode mX10_init.2.1 354 = .ok (.iconst 4, 1) := by decide +kernel
theorem dX10_init_355 : decode mX10_init.2.1 355 = .ok (.iconst (-1), 1) := by decide +kernel
theorem dX10_init_356 : decode mX10_init.2.1 356 = .ok (.iastore, 1) := by decide +kernel
theorem dX10_init_357 : decode mX10_init.2.1 357 = .ok (.return_, 1) := by decide +kernel
theorem dX10_in_0 : decode mX10_in.2.1 0 = .ok (.iload_n 0, 1) := by decide +kernel
theorem dX10_in_1 : decode mX10_in.2.1 1 = .ok (.iload_n 1, 1) := by decide +kernel
theorem dX10_in_2 : decode mX10_in.2.1 2 = .ok (.if_icmp .lt 12, 3) := by decide +kernel
theorem dX10_in_5 : decode mX10_in.2.1 5 = .ok (.iload_n 0, 1) := by decide +kernel
theorem dX10_in_6 : decode mX10_in.2.1 6 = .ok (.iload_n 2, 1) := by decide +kernel
theorem dX10_in_7 : decode mX10_in.2.1 7 = .ok (.if_icmp .gt 7, 3) := by decide +kernel
theorem dX10_in_10 : decode mX10_in.2.1 10 = .ok (.iconst 1, 1) := by decide +kernel
theorem dX10_in_11 : decode mX10_in.2.1 11 = .ok (.goto 4, 3) := by decide +kernel
theorem dX10_in_14 : decode mX10_in.2.1 14 = .ok (.iconst 0, 1) := by decide +kernel
theorem dX10_in_15 : decode mX10_in.2.1 15 = .ok (.ireturn, 1) := by decide +kernel
theorem dX10_within_0 : decode mX10_within.2.1 0 = .ok (.iload_n 0, 1) := by decide +kernel
theorem dX10_within_1 : decode mX10_within.2.1 1 = .ok (.iload_n 1, 1) := by decide +kernel
theorem dX10_within_2 : decode mX10_within.2.1 2 = .ok (.if_icmp .ge 7, 3) := by decide +kernel
theorem dX10_within_5 : decode mX10_within.2.1 5 = .ok (.iload_n 1, 1) := by decide +kernel
theorem dX10_within_6 : decode mX10_within.2.1 6 = .ok (.goto 13, 3) := by decide +kernel
theorem dX10_within_9 : decode mX10_within.2.1 9 = .ok (.iload_n 0, 1) := by decide +kernel
theorem dX10_within_10 : decode mX10_within.2.1 10 = .ok (.iload_n 2, 1) := by decide +kernel
theorem dX10_within_11 : decode mX10_within.2.1 11 = .ok (.if_icmp .le 7, 3) := by decide +kernel
theorem dX10_within_14 : decode mX10_within.2.1 14 = .ok (.iload_n 2, 1) := by decide +kernel
theorem dX10_within_15 : decode mX10_within.2.1 15 = .ok (.goto 4, 3) := by decide +kernel
theorem dX10_within_18 : decode mX10_within.2.1 18 = .ok (.iload_n 0, 1) := by decide +kernel
theorem dX10_within_19 : decode mX10_within.2.1 19 = .ok (.ireturn, 1) := by decide +kernel
theorem dX10_copyAll_0 : decode mX10_copyAll.2.1 0 = .ok (.iconst 0, 1) := by decide +kernel
theorem dX10_copyAll_1 : decode mX10_copyAll.2.1 1 = .ok (.istore_n 2, 1) := by decide +kernel
theorem dX10_copyAll_2 : decode mX10_copyAll.2.1 2 = .ok (.iload_n 2, 1) := by decide +kernel
theorem dX10_copyAll_3 : decode mX10_copyAll.2.1 3 = .ok (.sipush 1452, 3) := by decide +kernel
theorem dX10_copyAll_6 : decode mX10_copyAll.2.1 6 = .ok (.if_icmp .ge 15, 3) := by decide +kernel
theorem dX10_copyAll_9 : decode mX10_copyAll.2.1 9 = .ok (.aload_n 1, 1) := by decide +kernel
theorem dX10_copyAll_10 : decode mX10_copyAll.2.1 10 = .ok (.iload_n 2, 1) := by decide +kernel
theorem dX10_copyAll_11 : decode mX10_copyAll.2.1 11 = .ok (.aload_n 0, 1) := by decide +kernel
theorem dX10_copyAll_12 : decode mX10_copyAll.2.1 12 = .ok (.iload_n 2, 1) := by decide +kernel
theorem dX10_copyAll_13 : decode mX10_copyAll.2.1 13 = .ok (.iaload, 1) := by decide +kernel
theorem dX10_copyAll_14 : decode mX10_copyAll.2.1 14 = .ok (.iastore, 1) := by decide +kernel
theorem dX10_copyAll_15 : decode mX10_copyAll.2.1 15 = .ok (.iinc 2 1, 3) := by decide +kernel
theorem dX10_copyAll_18 : decode mX10_copyAll.2.1 18 = .ok (.goto (-16), 3) := by decide +kernel
theorem dX10_copyAll_21 : decode mX10_copyAll.2.1 21 = .ok (.return_, 1) := by decide +kernel
theorem dX10_told0_0 : decode mX10_told0.2.1 0 = .ok (.iload_n 0, 1) := by decide +kernel
theorem dX10_told0_1 : decode mX10_told0.2.1 1 = .ok (.ifCond .ge 8, 3) := by decide +kernel
theorem dX10_told0_4 : decode mX10_told0.2.1 4 = .ok (.ldc 96, 2) := by decide +kernel
theorem dX10_told0_6 : decode mX10_told0.2.1 6 = .ok (.goto 4, 3) := by decide +kernel
theorem dX10_told0_9 : decode mX10_told0.2.1 9 = .ok (.iload_n 0, 1) := by decide +kernel
theorem dX10_told0_10 : decode mX10_told0.2.1 10 = .ok (.ireturn, 1) := by decide +kernel
theorem dX10_isSort_0 : decode mX10_isSort.2.1 0 = .ok (.iload_n 1, 1) := by decide +kernel
theorem dX10_isSort_1 : decode mX10_isSort.2.1 1 = .ok (.iconst 0, 1) := by decide +kernel
theorem dX10_isSort_2 : decode mX10_isSort.2.1 2 = .ok (.aload_n 0, 1) := by decide +kernel
theorem dX10_isSort_3 : decode mX10_isSort.2.1 3 = .ok (.getfield 9, 3) := by decide +kernel
theorem dX10_isSort_6 : decode mX10_isSort.2.1 6 = .ok (.iconst 1, 1) := by decide +kernel
theorem dX10_isSort_7 : decode mX10_isSort.2.1 7 = .ok (.iaload, 1) := by decide +kernel
theorem dX10_isSort_8 : decode mX10_isSort.2.1 8 = .ok (.iconst 1, 1) := by decide +kernel
theorem dX10_isSort_9 : decode mX10_isSort.2.1 9 = .ok (.isub, 1) := by decide +kernel
theorem dX10_isSort_10 : decode mX10_isSort.2.1 10 = .ok (.invokestatic 97, 3) := by decide +kernel
theorem dX10_isSort_13 : decode mX10_isSort.2.1 13 = .ok (.ireturn, 1) := by decide +kernel
theorem dX10_isRule_0 : decode mX10_isRule.2.1 0 = .ok (.iload_n 1, 1) := by decide +kernel
theorem dX10_isRule_1 : decode mX10_isRule.2.1 1 = .ok (.iconst 0, 1) := by decide +kernel
theorem dX10_isRule_2 : decode mX10_isRule.2.1 2 = .ok (.aload_n 0, 1) := by decide +kernel
theorem dX10_isRule_3 : decode mX10_isRule.2.1 3 = .ok (.getfield 9, 3) := by decide +kernel
theorem dX10_isRule_6 : decode mX10_isRule.2.1 6 = .ok (.iconst 2, 1) := by decide +kernel
theorem dX10_isRule_7 : decode mX10_isRule.2.1 7 = .ok (.iaload, 1) := by decide +kernel
theorem dX10_isRule_8 : decode mX10_isRule.2.1 8 = .ok (.iconst 1, 1) := by decide +kernel
theorem dX10_isRule_9 : decode mX10_isRule.2.1 9 = .ok (.isub, 1) := by decide +kernel
theorem dX10_isRule_10 : decode mX10_isRule.2.1 10 = .ok (.invokestatic 97, 3) := by decide +kernel
theorem dX10_isRule_13 : decode mX10_isRule.2.1 13 = .ok (.ireturn, 1) := by decide +kernel
theorem dX10_isDay_0 : decode mX10_isDay.2.1 0 = .ok (.iload_n 0, 1) := by decide +kernel
theorem dX10_isDay_1 : decode mX10_isDay.2.1 1 = .ok (.iconst 0, 1) := by decide +kernel
theorem dX10_isDay_2 : decode mX10_isDay.2.1 2 = .ok (.bipush 30, 2) := by decide +kernel
theorem dX10_isDay_4 : decode mX10_isDay.2.1 4 = .ok (.invokestatic 97, 3) := by decide +kernel
theorem dX10_isDay_7 : decode mX10_isDay.2.1 7 = .ok (.ireturn, 1) := by decide +kernel
theorem dX10_sortOf_0 : decode mX10_sortOf.2.1 0 = .ok (.aload_n 0, 1) := by decide +kernel
theorem dX10_sortOf_1 : decode mX10_sortOf.2.1 1 = .ok (.getfield 9, 3) := by decide +kernel
theorem dX10_sortOf_4 : decode mX10_sortOf.2.1 4 = .ok (.bipush 6, 2) := by decide +kernel
theorem dX10_sortOf_6 : decode mX10_sortOf.2.1 6 = .ok (.bipush 7, 2) := by decide +kernel
theorem dX10_sortOf_8 : decode mX10_sortOf.2.1 8 = .ok (.iload_n 1, 1) := by decide +kernel
theorem dX10_sortOf_9 : decode mX10_sortOf.2.1 9 = .ok (.imul, 1) := by decide +kernel
theorem dX10_sortOf_10 : decode mX10_sortOf.2.1 10 = .ok (.iadd, 1) := by decide +kernel
theorem dX10_sortOf_11 : decode mX10_sortOf.2.1 11 = .ok (.iload_n 2, 1) := by decide +kernel
theorem dX10_sortOf_12 : decode mX10_sortOf.2.1 12 = .ok (.iadd, 1) := by decide +kernel
theorem dX10_sortOf_13 : decode mX10_sortOf.2.1 13 = .ok (.iaload, 1) := by decide +kernel
theorem dX10_sortOf_14 : decode mX10_sortOf.2.1 14 = .ok (.ireturn, 1) := by decide +kernel
theorem dX10_of_0 : decode mX10_of.2.1 0 = .ok (.aload_n 0, 1) := by decide +kernel
theorem dX10_of_1 : decode mX10_of.2.1 1 = .ok (.getfield 9, 3) := by decide +kernel
theorem dX10_of_4 : decode mX10_of.2.1 4 = .ok (.bipush 48, 2) := by decide +kernel
theorem dX10_of_6 : decode mX10_of.2.1 6 = .ok (.iconst 4, 1) := by decide +kernel
theorem dX10_of_7 : decode mX10_of.2.1 7 = .ok (.iload_n 1, 1) := by decide +kernel
theorem dX10_of_8 : decode mX10_of.2.1 8 = .ok (.imul, 1) := by decide +kernel
theorem dX10_of_9 : decode mX10_of.2.1 9 = .ok (.iadd, 1) := by decide +kernel
theorem dX10_of_10 : decode mX10_of.2.1 10 = .ok (.iload_n 2, 1) := by decide +kernel
theorem dX10_of_11 : decode mX10_of.2.1 11 = .ok (.iadd, 1) := by decide +kernel
theorem dX10_of_12 : decode mX10_of.2.1 12 = .ok (.iaload, 1) := by decide +kernel
theorem dX10_of_13 : decode mX10_of.2.1 13 = .ok (.ireturn, 1) := by decide +kernel
theorem dX10_mostOf_0 : decode mX10_mostOf.2.1 0 = .ok (.iload_n 0, 1) := by decide +kernel
theorem dX10_mostOf_1 : decode mX10_mostOf.2.1 1 = .ok (.iconst 1, 1) := by decide +kernel
theorem dX10_mostOf_2 : decode mX10_mostOf.2.1 2 = .ok (.if_icmp .ne 8, 3) := by decide +kernel
theorem dX10_mostOf_5 : decode mX10_mostOf.2.1 5 = .ok (.bipush 100, 2) := by decide +kernel
theorem dX10_mostOf_7 : decode mX10_mostOf.2.1 7 = .ok (.goto 32, 3) := by decide +kernel
theorem dX10_mostOf_10 : decode mX10_mostOf.2.1 10 = .ok (.iload_n 0, 1) := by decide +kernel
theorem dX10_mostOf_11 : decode mX10_mostOf.2.1 11 = .ok (.iconst 3, 1) := by decide +kernel
theorem dX10_mostOf_12 : decode mX10_mostOf.2.1 12 = .ok (.if_icmp .ne 8, 3) := by decide +kernel
theorem dX10_mostOf_15 : decode mX10_mostOf.2.1 15 = .ok (.bipush 9, 2) := by decide +kernel
theorem dX10_mostOf_17 : decode mX10_mostOf.2.1 17 = .ok (.goto 22, 3) := by decide +kernel
theorem dX10_mostOf_20 : decode mX10_mostOf.2.1 20 = .ok (.iload_n 0, 1) := by decide +kernel
theorem dX10_mostOf_21 : decode mX10_mostOf.2.1 21 = .ok (.iconst 4, 1) := by decide +kernel
theorem dX10_mostOf_22 : decode mX10_mostOf.2.1 22 = .ok (.if_icmp .eq 9, 3) := by decide +kernel
theorem dX10_mostOf_25 : decode mX10_mostOf.2.1 25 = .ok (.iload_n 0, 1) := by decide +kernel
theorem dX10_mostOf_26 : decode mX10_mostOf.2.1 26 = .ok (.bipush 6, 2) := by decide +kernel
theorem dX10_mostOf_28 : decode mX10_mostOf.2.1 28 = .ok (.if_icmp .ne 9, 3) := by decide +kernel
theorem dX10_mostOf_31 : decode mX10_mostOf.2.1 31 = .ok (.sipush 9999, 3) := by decide +kernel
theorem dX10_mostOf_34 : decode mX10_mostOf.2.1 34 = .ok (.goto 5, 3) := by decide +kernel
theorem dX10_mostOf_37 : decode mX10_mostOf.2.1 37 = .ok (.bipush 99, 2) := by decide +kernel
theorem dX10_mostOf_39 : decode mX10_mostOf.2.1 39 = .ok (.ireturn, 1) := by decide +kernel
theorem dX10_comes_0 : decode mX10_comes.2.1 0 = .ok (.bipush 6, 2) := by decide +kernel
theorem dX10_comes_2 : decode mX10_comes.2.1 2 = .ok (.bipush 7, 2) := by decide +kernel
theorem dX10_comes_4 : decode mX10_comes.2.1 4 = .ok (.aload_n 0, 1) := by decide +kernel
theorem dX10_comes_5 : decode mX10_comes.2.1 5 = .ok (.getfield 9, 3) := by decide +kernel
theorem dX10_comes_8 : decode mX10_comes.2.1 8 = .ok (.iconst 1, 1) := by decide +kernel
theorem dX10_comes_9 : decode mX10_comes.2.1 9 = .ok (.iaload, 1) := by decide +kernel
theorem dX10_comes_10 : decode mX10_comes.2.1 10 = .ok (.imul, 1) := by decide +kernel
theorem dX10_comes_11 : decode mX10_comes.2.1 11 = .ok (.iadd, 1) := by decide +kernel
theorem dX10_comes_12 : decode mX10_comes.2.1 12 = .ok (.istore 4, 2) := by decide +kernel
theorem dX10_comes_14 : decode mX10_comes.2.1 14 = .ok (.aload_n 0, 1) := by decide +kernel
theorem dX10_comes_15 : decode mX10_comes.2.1 15 = .ok (.getfield 9, 3) := by decide +kernel
theorem dX10_comes_18 : decode mX10_comes.2.1 18 = .ok (.iload 4, 2) := by decide +kernel
theorem dX10_comes_20 : decode mX10_comes.2.1 20 = .ok (.iload_n 1, 1) := by decide +kernel
theorem dX10_comes_21 : decode mX10_comes.2.1 21 = .ok (.iastore, 1) := by decide +kernel
theorem dX10_comes_22 : decode mX10_comes.2.1 22 = .ok (.aload_n 0, 1) := by decide +kernel
theorem dX10_comes_23 : decode mX10_comes.2.1 23 = .ok (.getfield 9, 3) := by decide +kernel
theorem dX10_comes_26 : decode mX10_comes.2.1 26 = .ok (.iload 4, 2) := by decide +kernel
theorem dX10_comes_28 : decode mX10_comes.2.1 28 = .ok (.iconst 1, 1) := by decide +kernel
theorem dX10_comes_29 : decode mX10_comes.2.1 29 = .ok (.iadd, 1) := by decide +kernel
theorem dX10_comes_30 : decode mX10_comes.2.1 30 = .ok (.iload_n 2, 1) := by decide +kernel
theorem dX10_comes_31 : decode mX10_comes.2.1 31 = .ok (.iastore, 1) := by decide +kernel
theorem dX10_comes_32 : decode mX10_comes.2.1 32 = .ok (.aload_n 0, 1) := by decide +kernel
theorem dX10_comes_33 : decode mX10_comes.2.1 33 = .ok (.getfield 9, 3) := by decide +kernel
theorem dX10_comes_36 : decode mX10_comes.2.1 36 = .ok (.iload 4, 2) := by decide +kernel
theorem dX10_comes_38 : decode mX10_comes.2.1 38 = .ok (.iconst 2, 1) := by decide +kernel
theorem dX10_comes_39 : decode mX10_comes.2.1 39 = .ok (.iadd, 1) := by decide +kernel
theorem dX10_comes_40 : decode mX10_comes.2.1 40 = .ok (.iload_n 3, 1) := by decide +kernel
theorem dX10_comes_41 : decode mX10_comes.2.1 41 = .ok (.iastore, 1) := by decide +kernel
theorem dX10_comes_42 : decode mX10_comes.2.1 42 = .ok (.aload_n 0, 1) := by decide +kernel
theorem dX10_comes_43 : decode mX10_comes.2.1 43 = .ok (.getfield 9, 3) := by decide +kernel
theorem dX10_comes_46 : decode mX10_comes.2.1 46 = .ok (.iload 4, 2) := by decide +kernel
theorem dX10_comes_48 : decode mX10_comes.2.1 48 = .ok (.iconst 3, 1) := by decide +kernel
theorem dX10_comes_49 : decode mX10_comes.2.1 49 = .ok (.iadd, 1) := by decide +kernel
theorem dX10_comes_50 : decode mX10_comes.2.1 50 = .ok (.iconst 0, 1) := by decide +kernel
theorem dX10_comes_51 : decode mX10_comes.2.1 51 = .ok (.iastore, 1) := by decide +kernel
theorem dX10_comes_52 : decode mX10_comes.2.1 52 = .ok (.aload_n 0, 1) := by decide +kernel
theorem dX10_comes_53 : decode mX10_comes.2.1 53 = .ok (.getfield 9, 3) := by decide +kernel
theorem dX10_comes_56 : decode mX10_comes.2.1 56 = .ok (.iload 4, 2) := by decide +kernel
theorem dX10_comes_58 : decode mX10_comes.2.1 58 = .ok (.iconst 4, 1) := by decide +kernel
theorem dX10_comes_59 : decode mX10_comes.2.1 59 = .ok (.iadd, 1) := by decide +kernel
theorem dX10_comes_60 : decode mX10_comes.2.1 60 = .ok (.sipush 9999, 3) := by decide +kernel
theorem dX10_comes_63 : decode mX10_comes.2.1 63 = .ok (.iastore, 1) := by decide +kernel
theorem dX10_comes_64 : decode mX10_comes.2.1 64 = .ok (.aload_n 0, 1) := by decide +kernel
theorem dX10_comes_65 : decode mX10_comes.2.1 65 = .ok (.getfield 9, 3) := by decide +kernel
theorem dX10_comes_68 : decode mX10_comes.2.1 68 = .ok (.iload 4, 2) := by decide +kernel
theorem dX10_comes_70 : decode mX10_comes.2.1 70 = .ok (.iconst 5, 1) := by decide +kernel
theorem dX10_comes_71 : decode mX10_comes.2.1 71 = .ok (.iadd, 1) := by decide +kernel
theorem dX10_comes_72 : decode mX10_comes.2.1 72 = .ok (.iconst 0, 1) := by decide +kernel
theorem dX10_comes_73 : decode mX10_comes.2.1 73 = .ok (.iastore, 1) := by decide +kernel
theorem dX10_comes_74 : decode mX10_comes.2.1 74 = .ok (.aload_n 0, 1) := by decide +kernel
theorem dX10_comes_75 : decode mX10_comes.2.1 75 = .ok (.getfield 9, 3) := by decide +kernel
theorem dX10_comes_78 : decode mX10_comes.2.1 78 = .ok (.iload 4, 2) := by decide +kernel
theorem dX10_comes_80 : decode mX10_comes.2.1 80 = .ok (.bipush 6, 2) := by decide +kernel
theorem dX10_comes_82 : decode mX10_comes.2.1 82 = .ok (.iadd, 1) := by decide +kernel
theorem dX10_comes_83 : decode mX10_comes.2.1 83 = .ok (.sipush 500, 3) := by decide +kernel
theorem dX10_comes_86 : decode mX10_comes.2.1 86 = .ok (.iastore, 1) := by decide +kernel
theorem dX10_comes_87 : decode mX10_comes.2.1 87 = .ok (.aload_n 0, 1) := by decide +kernel
theorem dX10_comes_88 : decode mX10_comes.2.1 88 = .ok (.getfield 9, 3) := by decide +kernel
theorem dX10_comes_91 : decode mX10_comes.2.1 91 = .ok (.iconst 1, 1) := by decide +kernel
theorem dX10_comes_92 : decode mX10_comes.2.1 92 = .ok (.dup2, 1) := by decide +kernel
theorem dX10_comes_93 : decode mX10_comes.2.1 93 = .ok (.iaload, 1) := by decide +kernel
theorem dX10_comes_94 : decode mX10_comes.2.1 94 = .ok (.iconst 1, 1) := by decide +kernel
theorem dX10_comes_95 : decode mX10_comes.2.1 95 = .ok (.iadd, 1) := by decide +kernel
theorem dX10_comes_96 : decode mX10_comes.2.1 96 = .ok (.iastore, 1) := by decide +kernel
theorem dX10_comes_97 : decode mX10_comes.2.1 97 = .ok (.aload_n 0, 1) := by decide +kernel
theorem dX10_comes_98 : decode mX10_comes.2.1 98 = .ok (.getfield 9, 3) := by decide +kernel
theorem dX10_comes_101 : decode mX10_comes.2.1 101 = .ok (.iconst 1, 1) := by decide +kernel
theorem dX10_comes_102 : decode mX10_comes.2.1 102 = .ok (.iaload, 1) := by decide +kernel
theorem dX10_comes_103 : decode mX10_comes.2.1 103 = .ok (.iconst 1, 1) := by decide +kernel
theorem dX10_comes_104 : decode mX10_comes.2.1 104 = .ok (.isub, 1) := by decide +kernel
theorem dX10_comes_105 : decode mX10_comes.2.1 105 = .ok (.ireturn, 1) := by decide +kernel
theorem dX10_sort_0 : decode mX10_sort.2.1 0 = .ok (.iload_n 1, 1) := by decide +kernel
theorem dX10_sort_1 : decode mX10_sort.2.1 1 = .ok (.iconst 0, 1) := by decide +kernel
theorem dX10_sort_2 : decode mX10_sort.2.1 2 = .ok (.bipush 99, 2) := by decide +kernel
theorem dX10_sort_4 : decode mX10_sort.2.1 4 = .ok (.invokestatic 97, 3) := by decide +kernel
theorem dX10_sort_7 : decode mX10_sort.2.1 7 = .ok (.ifCond .eq 23, 3) := by decide +kernel
theorem dX10_sort_10 : decode mX10_sort.2.1 10 = .ok (.iload_n 2, 1) := by decide +kernel
theorem dX10_sort_11 : decode mX10_sort.2.1 11 = .ok (.iconst 0, 1) := by decide +kernel
theorem dX10_sort_12 : decode mX10_sort.2.1 12 = .ok (.bipush 100, 2) := by decide +kernel
theorem dX10_sort_14 : decode mX10_sort.2.1 14 = .ok (.invokestatic 97, 3) := by decide +kernel
theorem dX10_sort_17 : decode mX10_sort.2.1 17 = .ok (.ifCond .eq 13, 3) := by decide +kernel
theorem dX10_sort_20 : decode mX10_sort.2.1 20 = .ok (.iload_n 3, 1) := by decide +kernel
theorem dX10_sort_21 : decode mX10_sort.2.1 21 = .ok (.iconst 0, 1) := by decide +kernel
theorem dX10_sort_22 : decode mX10_sort.2.1 22 = .ok (.bipush 99, 2) := by decide +kernel
theorem dX10_sort_24 : decode mX10_sort.2.1 24 = .ok (.invokestatic 97, 3) := by decide +kernel
theorem dX10_sort_27 : decode mX10_sort.2.1 27 = .ok (.ifCond .ne 6, 3) := by decide +kernel
theorem dX10_sort_30 : decode mX10_sort.2.1 30 = .ok (.ldc 101, 2) := by decide +kernel
theorem dX10_sort_32 : decode mX10_sort.2.1 32 = .ok (.ireturn, 1) := by decide +kernel
theorem dX10_sort_33 : decode mX10_sort.2.1 33 = .ok (.aload_n 0, 1) := by decide +kernel
theorem dX10_sort_34 : decode mX10_sort.2.1 34 = .ok (.getfield 9, 3) := by decide +kernel
theorem dX10_sort_37 : decode mX10_sort.2.1 37 = .ok (.iconst 1, 1) := by decide +kernel
theorem dX10_sort_38 : decode mX10_sort.2.1 38 = .ok (.iaload, 1) := by decide +kernel
theorem dX10_sort_39 : decode mX10_sort.2.1 39 = .ok (.bipush 6, 2) := by decide +kernel
theorem dX10_sort_41 : decode mX10_sort.2.1 41 = .ok (.if_icmp .ne 8, 3) := by decide +kernel
theorem dX10_sort_44 : decode mX10_sort.2.1 44 = .ok (.ldc 102, 2) := by decide +kernel
theorem dX10_sort_46 : decode mX10_sort.2.1 46 = .ok (.goto 10, 3) := by decide +kernel
theorem dX10_sort_49 : decode mX10_sort.2.1 49 = .ok (.aload_n 0, 1) := by decide +kernel
theorem dX10_sort_50 : decode mX10_sort.2.1 50 = .ok (.iload_n 1, 1) := by decide +kernel
theorem dX10_sort_51 : decode mX10_sort.2.1 51 = .ok (.iload_n 2, 1) := by decide +kernel
theorem dX10_sort_52 : decode mX10_sort.2.1 52 = .ok (.iload_n 3, 1) := by decide +kernel
theorem dX10_sort_53 : decode mX10_sort.2.1 53 = .ok (.invokevirtual 103, 3) := by decide +kernel
theorem dX10_sort_56 : decode mX10_sort.2.1 56 = .ok (.ireturn, 1) := by decide +kernel
theorem dX10_sortTold_0 : decode mX10_sortTold.2.1 0 = .ok (.aload_n 0, 1) := by decide +kernel
theorem dX10_sortTold_1 : decode mX10_sortTold.2.1 1 = .ok (.iload_n 1, 1) := by decide +kernel
theorem dX10_sortTold_2 : decode mX10_sortTold.2.1 2 = .ok (.invokevirtual 107, 3) := by decide +kernel
theorem dX10_sortTold_5 : decode mX10_sortTold.2.1 5 = .ok (.ifCond .eq 22, 3) := by decide +kernel
theorem dX10_sortTold_8 : decode mX10_sortTold.2.1 8 = .ok (.iload_n 2, 1) := by decide +kernel
theorem dX10_sortTold_9 : decode mX10_sortTold.2.1 9 = .ok (.iconst 0, 1) := by decide +kernel
theorem dX10_sortTold_10 : decode mX10_sortTold.2.1 10 = .ok (.bipush 6, 2) := by decide +kernel
theorem dX10_sortTold_12 : decode mX10_sortTold.2.1 12 = .ok (.invokestatic 97, 3) := by decide +kernel
theorem dX10_sortTold_15 : decode mX10_sortTold.2.1 15 = .ok (.ifCond .eq 12, 3) := by decide +kernel
theorem dX10_sortTold_18 : decode mX10_sortTold.2.1 18 = .ok (.aload_n 0, 1) := by decide +kernel
theorem dX10_sortTold_19 : decode mX10_sortTold.2.1 19 = .ok (.iload_n 1, 1) := by decide +kernel
theorem dX10_sortTold_20 : decode mX10_sortTold.2.1 20 = .ok (.iload_n 2, 1) := by decide +kernel
theorem dX10_sortTold_21 : decode mX10_sortTold.2.1 21 = .ok (.invokevirtual 111, 3) := by decide +kernel
theorem dX10_sortTold_24 : decode mX10_sortTold.2.1 24 = .ok (.goto 5, 3) := by decide +kernel
theorem dX10_sortTold_27 : decode mX10_sortTold.2.1 27 = .ok (.ldc 101, 2) := by decide +kernel
theorem dX10_sortTold_29 : decode mX10_sortTold.2.1 29 = .ok (.ireturn, 1) := by decide +kernel
theorem dX10_change_0 : decode mX10_change.2.1 0 = .ok (.aload_n 0, 1) := by decide +kernel
theorem dX10_change_1 : decode mX10_change.2.1 1 = .ok (.iload_n 1, 1) := by decide +kernel
theorem dX10_change_2 : decode mX10_change.2.1 2 = .ok (.invokevirtual 107, 3) := by decide +kernel
theorem dX10_change_5 : decode mX10_change.2.1 5 = .ok (.ifCond .eq 25, 3) := by decide +kernel
theorem dX10_change_8 : decode mX10_change.2.1 8 = .ok (.iload_n 2, 1) := by decide +kernel
theorem dX10_change_9 : decode mX10_change.2.1 9 = .ok (.iconst 0, 1) := by decide +kernel
theorem dX10_change_10 : decode mX10_change.2.1 10 = .ok (.bipush 6, 2) := by decide +kernel
theorem dX10_change_12 : decode mX10_change.2.1 12 = .ok (.invokestatic 97, 3) := by decide +kernel
theorem dX10_change_15 : decode mX10_change.2.1 15 = .ok (.ifCond .eq 15, 3) := by decide +kernel
theorem dX10_change_18 : decode mX10_change.2.1 18 = .ok (.iload_n 3, 1) := by decide +kernel
theorem dX10_change_19 : decode mX10_change.2.1 19 = .ok (.iconst 0, 1) := by decide +kernel
theorem dX10_change_20 : decode mX10_change.2.1 20 = .ok (.iload_n 2, 1) := by decide +kernel
theorem dX10_change_21 : decode mX10_change.2.1 21 = .ok (.invokestatic 115, 3) := by decide +kernel
theorem dX10_change_24 : decode mX10_change.2.1 24 = .ok (.invokestatic 97, 3) := by decide +kernel
theorem dX10_change_27 : decode mX10_change.2.1 27 = .ok (.ifCond .ne 6, 3) := by decide +kernel
theorem dX10_change_30 : decode mX10_change.2.1 30 = .ok (.ldc 101, 2) := by decide +kernel
theorem dX10_change_32 : decode mX10_change.2.1 32 = .ok (.ireturn, 1) := by decide +kernel
theorem dX10_change_33 : decode mX10_change.2.1 33 = .ok (.aload_n 0, 1) := by decide +kernel
theorem dX10_change_34 : decode mX10_change.2.1 34 = .ok (.iload_n 1, 1) := by decide +kernel
theorem dX10_change_35 : decode mX10_change.2.1 35 = .ok (.iload_n 2, 1) := by decide +kernel
theorem dX10_change_36 : decode mX10_change.2.1 36 = .ok (.invokevirtual 111, 3) := by decide +kernel
theorem dX10_change_39 : decode mX10_change.2.1 39 = .ok (.istore 4, 2) := by decide +kernel
theorem dX10_change_41 : decode mX10_change.2.1 41 = .ok (.aload_n 0, 1) := by decide +kernel
theorem dX10_change_42 : decode mX10_change.2.1 42 = .ok (.getfield 9, 3) := by decide +kernel
theorem dX10_change_45 : decode mX10_change.2.1 45 = .ok (.bipush 6, 2) := by decide +kernel
theorem dX10_change_47 : decode mX10_change.2.1 47 = .ok (.bipush 7, 2) := by decide +kernel
theorem dX10_change_49 : decode mX10_change.2.1 49 = .ok (.iload_n 1, 1) := by decide +kernel
theorem dX10_change_50 : decode mX10_change.2.1 50 = .ok (.imul, 1) := by decide +kernel
theorem dX10_change_51 : decode mX10_change.2.1 51 = .ok (.iadd, 1) := by decide +kernel
theorem dX10_change_52 : decode mX10_change.2.1 52 = .ok (.iload_n 2, 1) := by decide +kernel
theorem dX10_change_53 : decode mX10_change.2.1 53 = .ok (.iadd, 1) := by decide +kernel
theorem dX10_change_54 : decode mX10_change.2.1 54 = .ok (.iload_n 3, 1) := by decide +kernel
theorem dX10_change_55 : decode mX10_change.2.1 55 = .ok (.iastore, 1) := by decide +kernel
theorem dX10_change_56 : decode mX10_change.2.1 56 = .ok (.iload 4, 2) := by decide +kernel
theorem dX10_change_58 : decode mX10_change.2.1 58 = .ok (.ireturn, 1) := by decide +kernel
theorem dX10_draw_0 : decode mX10_draw.2.1 0 = .ok (.aload_n 0, 1) := by decide +kernel
theorem dX10_draw_1 : decode mX10_draw.2.1 1 = .ok (.getfield 9, 3) := by decide +kernel
theorem dX10_draw_4 : decode mX10_draw.2.1 4 = .ok (.iconst 0, 1) := by decide +kernel
theorem dX10_draw_5 : decode mX10_draw.2.1 5 = .ok (.aload_n 0, 1) := by decide +kernel
theorem dX10_draw_6 : decode mX10_draw.2.1 6 = .ok (.getfield 9, 3) := by decide +kernel
theorem dX10_draw_9 : decode mX10_draw.2.1 9 = .ok (.iconst 0, 1) := by decide +kernel
theorem dX10_draw_10 : decode mX10_draw.2.1 10 = .ok (.iaload, 1) := by decide +kernel
theorem dX10_draw_11 : decode mX10_draw.2.1 11 = .ok (.ldc 119, 2) := by decide +kernel
theorem dX10_draw_13 : decode mX10_draw.2.1 13 = .ok (.imul, 1) := by decide +kernel
theorem dX10_draw_14 : decode mX10_draw.2.1 14 = .ok (.sipush 12345, 3) := by decide +kernel
theorem dX10_draw_17 : decode mX10_draw.2.1 17 = .ok (.iadd, 1) := by decide +kernel
theorem dX10_draw_18 : decode mX10_draw.2.1 18 = .ok (.iastore, 1) := by decide +kernel
theorem dX10_draw_19 : decode mX10_draw.2.1 19 = .ok (.aload_n 0, 1) := by decide +kernel
theorem dX10_draw_20 : decode mX10_draw.2.1 20 = .ok (.getfield 9, 3) := by decide +kernel
theorem dX10_draw_23 : decode mX10_draw.2.1 23 = .ok (.iconst 0, 1) := by decide +kernel
theorem dX10_draw_24 : decode mX10_draw.2.1 24 = .ok (.iaload, 1) := by decide +kernel
theorem dX10_draw_25 : decode mX10_draw.2.1 25 = .ok (.bipush 8, 2) := by decide +kernel
theorem dX10_draw_27 : decode mX10_draw.2.1 27 = .ok (.iushr, 1) := by decide +kernel
theorem dX10_draw_28 : decode mX10_draw.2.1 28 = .ok (.ireturn, 1) := by decide +kernel
theorem dX10_deal_0 : decode mX10_deal.2.1 0 = .ok (.iload_n 1, 1) := by decide +kernel
theorem dX10_deal_1 : decode mX10_deal.2.1 1 = .ok (.iconst 1, 1) := by decide +kernel
theorem dX10_deal_2 : decode mX10_deal.2.1 2 = .ok (.bipush 6, 2) := by decide +kernel
theorem dX10_deal_4 : decode mX10_deal.2.1 4 = .ok (.invokestatic 97, 3) := by decide +kernel
theorem dX10_deal_7 : decode mX10_deal.2.1 7 = .ok (.ifCond .ne 6, 3) := by decide +kernel
theorem dX10_deal_10 : decode mX10_deal.2.1 10 = .ok (.ldc 101, 2) := by decide +kernel
theorem dX10_deal_12 : decode mX10_deal.2.1 12 = .ok (.ireturn, 1) := by decide +kernel
theorem dX10_deal_13 : decode mX10_deal.2.1 13 = .ok (.iconst 0, 1) := by decide +kernel
theorem dX10_deal_14 : decode mX10_deal.2.1 14 = .ok (.istore_n 2, 1) := by decide +kernel
theorem dX10_deal_15 : decode mX10_deal.2.1 15 = .ok (.iload_n 2, 1) := by decide +kernel
theorem dX10_deal_16 : decode mX10_deal.2.1 16 = .ok (.iload_n 1, 1) := by decide +kernel
theorem dX10_deal_17 : decode mX10_deal.2.1 17 = .ok (.if_icmp .ge 97, 3) := by decide +kernel
theorem dX10_deal_20 : decode mX10_deal.2.1 20 = .ok (.aload_n 0, 1) := by decide +kernel
theorem dX10_deal_21 : decode mX10_deal.2.1 21 = .ok (.getfield 9, 3) := by decide +kernel
theorem dX10_deal_24 : decode mX10_deal.2.1 24 = .ok (.iconst 1, 1) := by decide +kernel
theorem dX10_deal_25 : decode mX10_deal.2.1 25 = .ok (.iaload, 1) := by decide +kernel
theorem dX10_deal_26 : decode mX10_deal.2.1 26 = .ok (.bipush 6, 2) := by decide +kernel
theorem dX10_deal_28 : decode mX10_deal.2.1 28 = .ok (.if_icmp .ge 86, 3) := by decide +kernel
theorem dX10_deal_31 : decode mX10_deal.2.1 31 = .ok (.aload_n 0, 1) := by decide +kernel
theorem dX10_deal_32 : decode mX10_deal.2.1 32 = .ok (.invokevirtual 120, 3) := by decide +kernel
theorem dX10_deal_35 : decode mX10_deal.2.1 35 = .ok (.bipush 100, 2) := by decide +kernel
theorem dX10_deal_37 : decode mX10_deal.2.1 37 = .ok (.irem, 1) := by decide +kernel
theorem dX10_deal_38 : decode mX10_deal.2.1 38 = .ok (.istore_n 3, 1) := by decide +kernel
theorem dX10_deal_39 : decode mX10_deal.2.1 39 = .ok (.aload_n 0, 1) := by decide +kernel
theorem dX10_deal_40 : decode mX10_deal.2.1 40 = .ok (.invokevirtual 120, 3) := by decide +kernel
theorem dX10_deal_43 : decode mX10_deal.2.1 43 = .ok (.bipush 101, 2) := by decide +kernel
theorem dX10_deal_45 : decode mX10_deal.2.1 45 = .ok (.irem, 1) := by decide +kernel
theorem dX10_deal_46 : decode mX10_deal.2.1 46 = .ok (.istore 4, 2) := by decide +kernel
theorem dX10_deal_48 : decode mX10_deal.2.1 48 = .ok (.aload_n 0, 1) := by decide +kernel
theorem dX10_deal_49 : decode mX10_deal.2.1 49 = .ok (.iload_n 3, 1) := by decide +kernel
theorem dX10_deal_50 : decode mX10_deal.2.1 50 = .ok (.iload 4, 2) := by decide +kernel
theorem dX10_deal_52 : decode mX10_deal.2.1 52 = .ok (.aload_n 0, 1) := by decide +kernel
theorem dX10_deal_53 : decode mX10_deal.2.1 53 = .ok (.invokevirtual 120, 3) := by decide +kernel
theorem dX10_deal_56 : decode mX10_deal.2.1 56 = .ok (.bipush 100, 2) := by decide +kernel
theorem dX10_deal_58 : decode mX10_deal.2.1 58 = .ok (.irem, 1) := by decide +kernel
theorem dX10_deal_59 : decode mX10_deal.2.1 59 = .ok (.invokevirtual 103, 3) := by decide +kernel
theorem dX10_deal_62 : decode mX10_deal.2.1 62 = .ok (.istore 5, 2) := by decide +kernel
theorem dX10_deal_64 : decode mX10_deal.2.1 64 = .ok (.aload_n 0, 1) := by decide +kernel
theorem dX10_deal_65 : decode mX10_deal.2.1 65 = .ok (.getfield 9, 3) := by decide +kernel
theorem dX10_deal_68 : decode mX10_deal.2.1 68 = .ok (.bipush 6, 2) := by decide +kernel
theorem dX10_deal_70 : decode mX10_deal.2.1 70 = .ok (.bipush 7, 2) := by decide +kernel
theorem dX10_deal_72 : decode mX10_deal.2.1 72 = .ok (.iload 5, 2) := by decide +kernel
theorem dX10_deal_74 : decode mX10_deal.2.1 74 = .ok (.imul, 1) := by decide +kernel
theorem dX10_deal_75 : decode mX10_deal.2.1 75 = .ok (.iadd, 1) := by decide +kernel
theorem dX10_deal_76 : decode mX10_deal.2.1 76 = .ok (.iconst 3, 1) := by decide +kernel
theorem dX10_deal_77 : decode mX10_deal.2.1 77 = .ok (.iadd, 1) := by decide +kernel
theorem dX10_deal_78 : decode mX10_deal.2.1 78 = .ok (.aload_n 0, 1) := by decide +kernel
theorem dX10_deal_79 : decode mX10_deal.2.1 79 = .ok (.invokevirtual 120, 3) := by decide +kernel
theorem dX10_deal_82 : decode mX10_deal.2.1 82 = .ok (.bipush 10, 2) := by decide +kernel
theorem dX10_deal_84 : decode mX10_deal.2.1 84 = .ok (.irem, 1) := by decide +kernel
theorem dX10_deal_85 : decode mX10_deal.2.1 85 = .ok (.iastore, 1) := by decide +kernel
theorem dX10_deal_86 : decode mX10_deal.2.1 86 = .ok (.aload_n 0, 1) := by decide +kernel
theorem dX10_deal_87 : decode mX10_deal.2.1 87 = .ok (.getfield 9, 3) := by decide +kernel
theorem dX10_deal_90 : decode mX10_deal.2.1 90 = .ok (.bipush 6, 2) := by decide +kernel
theorem dX10_deal_92 : decode mX10_deal.2.1 92 = .ok (.bipush 7, 2) := by decide +kernel
theorem dX10_deal_94 : decode mX10_deal.2.1 94 = .ok (.iload 5, 2) := by decide +kernel
theorem dX10_deal_96 : decode mX10_deal.2.1 96 = .ok (.imul, 1) := by decide +kernel
theorem dX10_deal_97 : decode mX10_deal.2.1 97 = .ok (.iadd, 1) := by decide +kernel
theorem dX10_deal_98 : decode mX10_deal.2.1 98 = .ok (.iconst 5, 1) := by decide +kernel
theorem dX10_deal_99 : decode mX10_deal.2.1 99 = .ok (.iadd, 1) := by decide +kernel
theorem dX10_deal_100 : decode mX10_deal.2.1 100 = .ok (.aload_n 0, 1) := by decide +kernel
theorem dX10_deal_101 : decode mX10_deal.2.1 101 = .ok (.invokevirtual 120, 3) := by decide +kernel
theorem dX10_deal_104 : decode mX10_deal.2.1 104 = .ok (.bipush 20, 2) := by decide +kernel
theorem dX10_deal_106 : decode mX10_deal.2.1 106 = .ok (.irem, 1) := by decide +kernel
theorem dX10_deal_107 : decode mX10_deal.2.1 107 = .ok (.iastore, 1) := by decide +kernel
theorem dX10_deal_108 : decode mX10_deal.2.1 108 = .ok (.iinc 2 1, 3) := by decide +kernel
theorem dX10_deal_111 : decode mX10_deal.2.1 111 = .ok (.goto (-96), 3) := by decide +kernel
theorem dX10_deal_114 : decode mX10_deal.2.1 114 = .ok (.iload_n 2, 1) := by decide +kernel
theorem dX10_deal_115 : decode mX10_deal.2.1 115 = .ok (.ireturn, 1) := by decide +kernel
theorem dX10_leastOf_0 : decode mX10_leastOf.2.1 0 = .ok (.iload_n 0, 1) := by decide +kernel
theorem dX10_leastOf_1 : decode mX10_leastOf.2.1 1 = .ok (.iconst 2, 1) := by decide +kernel
theorem dX10_leastOf_2 : decode mX10_leastOf.2.1 2 = .ok (.if_icmp .ne 7, 3) := by decide +kernel
theorem dX10_leastOf_5 : decode mX10_leastOf.2.1 5 = .ok (.iconst 1, 1) := by decide +kernel
theorem dX10_leastOf_6 : decode mX10_leastOf.2.1 6 = .ok (.goto 4, 3) := by decide +kernel
theorem dX10_leastOf_9 : decode mX10_leastOf.2.1 9 = .ok (.iconst 0, 1) := by decide +kernel
theorem dX10_leastOf_10 : decode mX10_leastOf.2.1 10 = .ok (.ireturn, 1) := by decide +kernel
theorem dX10_isPart_0 : decode mX10_isPart.2.1 0 = .ok (.iload_n 1, 1) := by decide +kernel
theorem dX10_isPart_1 : decode mX10_isPart.2.1 1 = .ok (.iload_n 0, 1) := by decide +kernel
theorem dX10_isPart_2 : decode mX10_isPart.2.1 2 = .ok (.invokestatic 124, 3) := by decide +kernel
theorem dX10_isPart_5 : decode mX10_isPart.2.1 5 = .ok (.iload_n 0, 1) := by decide +kernel
theorem dX10_isPart_6 : decode mX10_isPart.2.1 6 = .ok (.ifCond .ne 8, 3) := by decide +kernel
theorem dX10_isPart_9 : decode mX10_isPart.2.1 9 = .ok (.bipush 99, 2) := by decide +kernel
theorem dX10_isPart_11 : decode mX10_isPart.2.1 11 = .ok (.goto 16, 3) := by decide +kernel
theorem dX10_isPart_14 : decode mX10_isPart.2.1 14 = .ok (.iload_n 0, 1) := by decide +kernel
theorem dX10_isPart_15 : decode mX10_isPart.2.1 15 = .ok (.iconst 1, 1) := by decide +kernel
theorem dX10_isPart_16 : decode mX10_isPart.2.1 16 = .ok (.if_icmp .ne 9, 3) := by decide +kernel
theorem dX10_isPart_19 : decode mX10_isPart.2.1 19 = .ok (.sipush 999, 3) := by decide +kernel
theorem dX10_isPart_22 : decode mX10_isPart.2.1 22 = .ok (.goto 5, 3) := by decide +kernel
theorem dX10_isPart_25 : decode mX10_isPart.2.1 25 = .ok (.bipush 30, 2) := by decide +kernel
theorem dX10_isPart_27 : decode mX10_isPart.2.1 27 = .ok (.invokestatic 97, 3) := by decide +kernel
theorem dX10_isPart_30 : decode mX10_isPart.2.1 30 = .ok (.ireturn, 1) := by decide +kernel
theorem dX10_rule_0 : decode mX10_rule.2.1 0 = .ok (.iload_n 1, 1) := by decide +kernel
theorem dX10_rule_1 : decode mX10_rule.2.1 1 = .ok (.iconst 0, 1) := by decide +kernel
theorem dX10_rule_2 : decode mX10_rule.2.1 2 = .ok (.iconst 5, 1) := by decide +kernel
theorem dX10_rule_3 : decode mX10_rule.2.1 3 = .ok (.invokestatic 97, 3) := by decide +kernel
theorem dX10_rule_6 : decode mX10_rule.2.1 6 = .ok (.ifCond .eq 28, 3) := by decide +kernel
theorem dX10_rule_9 : decode mX10_rule.2.1 9 = .ok (.iconst 0, 1) := by decide +kernel
theorem dX10_rule_10 : decode mX10_rule.2.1 10 = .ok (.iload_n 2, 1) := by decide +kernel
theorem dX10_rule_11 : decode mX10_rule.2.1 11 = .ok (.invokestatic 127, 3) := by decide +kernel
theorem dX10_rule_14 : decode mX10_rule.2.1 14 = .ok (.ifCond .eq 20, 3) := by decide +kernel
theorem dX10_rule_17 : decode mX10_rule.2.1 17 = .ok (.iconst 1, 1) := by decide +kernel
theorem dX10_rule_18 : decode mX10_rule.2.1 18 = .ok (.iload_n 3, 1) := by decide +kernel
theorem dX10_rule_19 : decode mX10_rule.2.1 19 = .ok (.invokestatic 127, 3) := by decide +kernel
theorem dX10_rule_22 : decode mX10_rule.2.1 22 = .ok (.ifCond .eq 12, 3) := by decide +kernel
theorem dX10_rule_25 : decode mX10_rule.2.1 25 = .ok (.iconst 2, 1) := by decide +kernel
theorem dX10_rule_26 : decode mX10_rule.2.1 26 = .ok (.iload 4, 2) := by decide +kernel
theorem dX10_rule_28 : decode mX10_rule.2.1 28 = .ok (.invokestatic 127, 3) := by decide +kernel
theorem dX10_rule_31 : decode mX10_rule.2.1 31 = .ok (.ifCond .ne 6, 3) := by decide +kernel
theorem dX10_rule_34 : decode mX10_rule.2.1 34 = .ok (.ldc 101, 2) := by decide +kernel
theorem dX10_rule_36 : decode mX10_rule.2.1 36 = .ok (.ireturn, 1) := by decide +kernel
theorem dX10_rule_37 : decode mX10_rule.2.1 37 = .ok (.aload_n 0, 1) := by decide +kernel
theorem dX10_rule_38 : decode mX10_rule.2.1 38 = .ok (.getfield 9, 3) := by decide +kernel
theorem dX10_rule_41 : decode mX10_rule.2.1 41 = .ok (.iconst 2, 1) := by decide +kernel
theorem dX10_rule_42 : decode mX10_rule.2.1 42 = .ok (.iaload, 1) := by decide +kernel
theorem dX10_rule_43 : decode mX10_rule.2.1 43 = .ok (.bipush 8, 2) := by decide +kernel
theorem dX10_rule_45 : decode mX10_rule.2.1 45 = .ok (.if_icmp .ne 6, 3) := by decide +kernel
theorem dX10_rule_48 : decode mX10_rule.2.1 48 = .ok (.ldc 102, 2) := by decide +kernel
theorem dX10_rule_50 : decode mX10_rule.2.1 50 = .ok (.ireturn, 1) := by decide +kernel
theorem dX10_rule_51 : decode mX10_rule.2.1 51 = .ok (.bipush 48, 2) := by decide +kernel
theorem dX10_rule_53 : decode mX10_rule.2.1 53 = .ok (.iconst 4, 1) := by decide +kernel
theorem dX10_rule_54 : decode mX10_rule.2.1 54 = .ok (.aload_n 0, 1) := by decide +kernel
theorem dX10_rule_55 : decode mX10_rule.2.1 55 = .ok (.getfield 9, 3) := by decide +kernel
theorem dX10_rule_58 : decode mX10_rule.2.1 58 = .ok (.iconst 2, 1) := by decide +kernel
theorem dX10_rule_59 : decode mX10_rule.2.1 59 = .ok (.iaload, 1) := by decide +kernel
theorem dX10_rule_60 : decode mX10_rule.2.1 60 = .ok (.imul, 1) := by decide +kernel
theorem dX10_rule_61 : decode mX10_rule.2.1 61 = .ok (.iadd, 1) := by decide +kernel
theorem dX10_rule_62 : decode mX10_rule.2.1 62 = .ok (.istore 5, 2) := by decide +kernel
theorem dX10_rule_64 : decode mX10_rule.2.1 64 = .ok (.aload_n 0, 1) := by decide +kernel
theorem dX10_rule_65 : decode mX10_rule.2.1 65 = .ok (.getfield 9, 3) := by decide +kernel
theorem dX10_rule_68 : decode mX10_rule.2.1 68 = .ok (.iload 5, 2) := by decide +kernel
theorem dX10_rule_70 : decode mX10_rule.2.1 70 = .ok (.iload_n 1, 1) := by decide +kernel
theorem dX10_rule_71 : decode mX10_rule.2.1 71 = .ok (.iastore, 1) := by decide +kernel
theorem dX10_rule_72 : decode mX10_rule.2.1 72 = .ok (.aload_n 0, 1) := by decide +kernel
theorem dX10_rule_73 : decode mX10_rule.2.1 73 = .ok (.getfield 9, 3) := by decide +kernel
theorem dX10_rule_76 : decode mX10_rule.2.1 76 = .ok (.iload 5, 2) := by decide +kernel
theorem dX10_rule_78 : decode mX10_rule.2.1 78 = .ok (.iconst 1, 1) := by decide +kernel
theorem dX10_rule_79 : decode mX10_rule.2.1 79 = .ok (.iadd, 1) := by decide +kernel
theorem dX10_rule_80 : decode mX10_rule.2.1 80 = .ok (.iload_n 2, 1) := by decide +kernel
theorem dX10_rule_81 : decode mX10_rule.2.1 81 = .ok (.iastore, 1) := by decide +kernel
theorem dX10_rule_82 : decode mX10_rule.2.1 82 = .ok (.aload_n 0, 1) := by decide +kernel
theorem dX10_rule_83 : decode mX10_rule.2.1 83 = .ok (.getfield 9, 3) := by decide +kernel
theorem dX10_rule_86 : decode mX10_rule.2.1 86 = .ok (.iload 5, 2) := by decide +kernel
theorem dX10_rule_88 : decode mX10_rule.2.1 88 = .ok (.iconst 2, 1) := by decide +kernel
theorem dX10_rule_89 : decode mX10_rule.2.1 89 = .ok (.iadd, 1) := by decide +kernel
theorem dX10_rule_90 : decode mX10_rule.2.1 90 = .ok (.iload_n 3, 1) := by decide +kernel
theorem dX10_rule_91 : decode mX10_rule.2.1 91 = .ok (.iastore, 1) := by decide +kernel
theorem dX10_rule_92 : decode mX10_rule.2.1 92 = .ok (.aload_n 0, 1) := by decide +kernel
theorem dX10_rule_93 : decode mX10_rule.2.1 93 = .ok (.getfield 9, 3) := by decide +kernel
theorem dX10_rule_96 : decode mX10_rule.2.1 96 = .ok (.iload 5, 2) := by decide +kernel
theorem dX10_rule_98 : decode mX10_rule.2.1 98 = .ok (.iconst 3, 1) := by decide +kernel
theorem dX10_rule_99 : decode mX10_rule.2.1 99 = .ok (.iadd, 1) := by decide +kernel
theorem dX10_rule_100 : decode mX10_rule.2.1 100 = .ok (.iload 4, 2) := by decide +kernel
theorem dX10_rule_102 : decode mX10_rule.2.1 102 = .ok (.iastore, 1) := by decide +kernel
theorem dX10_rule_103 : decode mX10_rule.2.1 103 = .ok (.aload_n 0, 1) := by decide +kernel
theorem dX10_rule_104 : decode mX10_rule.2.1 104 = .ok (.getfield 9, 3) := by decide +kernel
theorem dX10_rule_107 : decode mX10_rule.2.1 107 = .ok (.iconst 2, 1) := by decide +kernel
theorem dX10_rule_108 : decode mX10_rule.2.1 108 = .ok (.dup2, 1) := by decide +kernel
theorem dX10_rule_109 : decode mX10_rule.2.1 109 = .ok (.iaload, 1) := by decide +kernel
theorem dX10_rule_110 : decode mX10_rule.2.1 110 = .ok (.iconst 1, 1) := by decide +kernel
theorem dX10_rule_111 : decode mX10_rule.2.1 111 = .ok (.iadd, 1) := by decide +kernel
theorem dX10_rule_112 : decode mX10_rule.2.1 112 = .ok (.iastore, 1) := by decide +kernel
theorem dX10_rule_113 : decode mX10_rule.2.1 113 = .ok (.aload_n 0, 1) := by decide +kernel
theorem dX10_rule_114 : decode mX10_rule.2.1 114 = .ok (.getfield 9, 3) := by decide +kernel
theorem dX10_rule_117 : decode mX10_rule.2.1 117 = .ok (.iconst 2, 1) := by decide +kernel
theorem dX10_rule_118 : decode mX10_rule.2.1 118 = .ok (.iaload, 1) := by decide +kernel
theorem dX10_rule_119 : decode mX10_rule.2.1 119 = .ok (.iconst 1, 1) := by decide +kernel
theorem dX10_rule_120 : decode mX10_rule.2.1 120 = .ok (.isub, 1) := by decide +kernel
theorem dX10_rule_121 : decode mX10_rule.2.1 121 = .ok (.ireturn, 1) := by decide +kernel
theorem dX10_worthOf_0 : decode mX10_worthOf.2.1 0 = .ok (.aload_n 0, 1) := by decide +kernel
theorem dX10_worthOf_1 : decode mX10_worthOf.2.1 1 = .ok (.iload_n 1, 1) := by decide +kernel
theorem dX10_worthOf_2 : decode mX10_worthOf.2.1 2 = .ok (.iconst 1, 1) := by decide +kernel
theorem dX10_worthOf_3 : decode mX10_worthOf.2.1 3 = .ok (.invokevirtual 131, 3) := by decide +kernel
theorem dX10_worthOf_6 : decode mX10_worthOf.2.1 6 = .ok (.istore_n 2, 1) := by decide +kernel
theorem dX10_worthOf_7 : decode mX10_worthOf.2.1 7 = .ok (.aload_n 0, 1) := by decide +kernel
theorem dX10_worthOf_8 : decode mX10_worthOf.2.1 8 = .ok (.iload_n 1, 1) := by decide +kernel
theorem dX10_worthOf_9 : decode mX10_worthOf.2.1 9 = .ok (.iconst 2, 1) := by decide +kernel
theorem dX10_worthOf_10 : decode mX10_worthOf.2.1 10 = .ok (.invokevirtual 131, 3) := by decide +kernel
theorem dX10_worthOf_13 : decode mX10_worthOf.2.1 13 = .ok (.istore_n 3, 1) := by decide +kernel
theorem dX10_worthOf_14 : decode mX10_worthOf.2.1 14 = .ok (.aload_n 0, 1) := by decide +kernel
theorem dX10_worthOf_15 : decode mX10_worthOf.2.1 15 = .ok (.iload_n 1, 1) := by decide +kernel
theorem dX10_worthOf_16 : decode mX10_worthOf.2.1 16 = .ok (.iconst 0, 1) := by decide +kernel
theorem dX10_worthOf_17 : decode mX10_worthOf.2.1 17 = .ok (.invokevirtual 131, 3) := by decide +kernel
theorem dX10_worthOf_20 : decode mX10_worthOf.2.1 20 = .ok (.tableswitch 64 1 5 #[36, 40, 42, 53, 62], 36) := by decide +kernel
theorem dX10_worthOf_56 : decode mX10_worthOf.2.1 56 = .ok (.iload_n 2, 1) := by decide +kernel
theorem dX10_worthOf_57 : decode mX10_worthOf.2.1 57 = .ok (.iload_n 3, 1) := by decide +kernel
theorem dX10_worthOf_58 : decode mX10_worthOf.2.1 58 = .ok (.iadd, 1) := by decide +kernel
theorem dX10_worthOf_59 : decode mX10_worthOf.2.1 59 = .ok (.ireturn, 1) := by decide +kernel
theorem dX10_worthOf_60 : decode mX10_worthOf.2.1 60 = .ok (.iload_n 3, 1) := by decide +kernel
theorem dX10_worthOf_61 : decode mX10_worthOf.2.1 61 = .ok (.ireturn, 1) := by decide +kernel
theorem dX10_worthOf_62 : decode mX10_worthOf.2.1 62 = .ok (.iload_n 2, 1) := by decide +kernel
theorem dX10_worthOf_63 : decode mX10_worthOf.2.1 63 = .ok (.iload_n 3, 1) := by decide +kernel
theorem dX10_worthOf_64 : decode mX10_worthOf.2.1 64 = .ok (.iadd, 1) := by decide +kernel
theorem dX10_worthOf_65 : decode mX10_worthOf.2.1 65 = .ok (.aload_n 0, 1) := by decide +kernel
theorem dX10_worthOf_66 : decode mX10_worthOf.2.1 66 = .ok (.iload_n 1, 1) := by decide +kernel
theorem dX10_worthOf_67 : decode mX10_worthOf.2.1 67 = .ok (.iconst 3, 1) := by decide +kernel
theorem dX10_worthOf_68 : decode mX10_worthOf.2.1 68 = .ok (.invokevirtual 131, 3) := by decide +kernel
theorem dX10_worthOf_71 : decode mX10_worthOf.2.1 71 = .ok (.isub, 1) := by decide +kernel
theorem dX10_worthOf_72 : decode mX10_worthOf.2.1 72 = .ok (.ireturn, 1) := by decide +kernel
theorem dX10_worthOf_73 : decode mX10_worthOf.2.1 73 = .ok (.iload_n 3, 1) := by decide +kernel
theorem dX10_worthOf_74 : decode mX10_worthOf.2.1 74 = .ok (.aload_n 0, 1) := by decide +kernel
theorem dX10_worthOf_75 : decode mX10_worthOf.2.1 75 = .ok (.iload_n 1, 1) := by decide +kernel
theorem dX10_worthOf_76 : decode mX10_worthOf.2.1 76 = .ok (.iconst 3, 1) := by decide +kernel
theorem dX10_worthOf_77 : decode mX10_worthOf.2.1 77 = .ok (.invokevirtual 131, 3) := by decide +kernel
theorem dX10_worthOf_80 : decode mX10_worthOf.2.1 80 = .ok (.iadd, 1) := by decide +kernel
theorem dX10_worthOf_81 : decode mX10_worthOf.2.1 81 = .ok (.ireturn, 1) := by decide +kernel
theorem dX10_worthOf_82 : decode mX10_worthOf.2.1 82 = .ok (.iconst 1, 1) := by decide +kernel
theorem dX10_worthOf_83 : decode mX10_worthOf.2.1 83 = .ok (.ireturn, 1) := by decide +kernel
theorem dX10_worthOf_84 : decode mX10_worthOf.2.1 84 = .ok (.iload_n 2, 1) := by decide +kernel
theorem dX10_worthOf_85 : decode mX10_worthOf.2.1 85 = .ok (.ireturn, 1) := by decide +kernel
theorem dX10_told_0 : decode mX10_told.2.1 0 = .ok (.aload_n 0, 1) := by decide +kernel
theorem dX10_told_1 : decode mX10_told.2.1 1 = .ok (.iload_n 1, 1) := by decide +kernel
theorem dX10_told_2 : decode mX10_told.2.1 2 = .ok (.invokevirtual 134, 3) := by decide +kernel
theorem dX10_told_5 : decode mX10_told.2.1 5 = .ok (.ifCond .eq 12, 3) := by decide +kernel
theorem dX10_told_8 : decode mX10_told.2.1 8 = .ok (.iload_n 2, 1) := by decide +kernel
theorem dX10_told_9 : decode mX10_told.2.1 9 = .ok (.iconst 0, 1) := by decide +kernel
theorem dX10_told_10 : decode mX10_told.2.1 10 = .ok (.iconst 4, 1) := by decide +kernel
theorem dX10_told_11 : decode mX10_told.2.1 11 = .ok (.invokestatic 97, 3) := by decide +kernel
theorem dX10_told_14 : decode mX10_told.2.1 14 = .ok (.ifCond .ne 6, 3) := by decide +kernel
theorem dX10_told_17 : decode mX10_told.2.1 17 = .ok (.ldc 101, 2) := by decide +kernel
theorem dX10_told_19 : decode mX10_told.2.1 19 = .ok (.ireturn, 1) := by decide +kernel
theorem dX10_told_20 : decode mX10_told.2.1 20 = .ok (.iload_n 2, 1) := by decide +kernel
theorem dX10_told_21 : decode mX10_told.2.1 21 = .ok (.iconst 4, 1) := by decide +kernel
theorem dX10_told_22 : decode mX10_told.2.1 22 = .ok (.if_icmp .ge 12, 3) := by decide +kernel
theorem dX10_told_25 : decode mX10_told.2.1 25 = .ok (.aload_n 0, 1) := by decide +kernel
theorem dX10_told_26 : decode mX10_told.2.1 26 = .ok (.iload_n 1, 1) := by decide +kernel
theorem dX10_told_27 : decode mX10_told.2.1 27 = .ok (.iload_n 2, 1) := by decide +kernel
theorem dX10_told_28 : decode mX10_told.2.1 28 = .ok (.invokevirtual 131, 3) := by decide +kernel
theorem dX10_told_31 : decode mX10_told.2.1 31 = .ok (.goto 8, 3) := by decide +kernel
theorem dX10_told_34 : decode mX10_told.2.1 34 = .ok (.aload_n 0, 1) := by decide +kernel
theorem dX10_told_35 : decode mX10_told.2.1 35 = .ok (.iload_n 1, 1) := by decide +kernel
theorem dX10_told_36 : decode mX10_told.2.1 36 = .ok (.invokevirtual 137, 3) := by decide +kernel
theorem dX10_told_39 : decode mX10_told.2.1 39 = .ok (.ireturn, 1) := by decide +kernel
theorem dX10_isUnder_0 : decode mX10_isUnder.2.1 0 = .ok (.iload_n 1, 1) := by decide +kernel
theorem dX10_isUnder_1 : decode mX10_isUnder.2.1 1 = .ok (.ifCond .eq 28, 3) := by decide +kernel
theorem dX10_isUnder_4 : decode mX10_isUnder.2.1 4 = .ok (.iload_n 0, 1) := by decide +kernel
theorem dX10_isUnder_5 : decode mX10_isUnder.2.1 5 = .ok (.iload_n 1, 1) := by decide +kernel
theorem dX10_isUnder_6 : decode mX10_isUnder.2.1 6 = .ok (.if_icmp .eq 23, 3) := by decide +kernel
theorem dX10_isUnder_9 : decode mX10_isUnder.2.1 9 = .ok (.iload_n 1, 1) := by decide +kernel
theorem dX10_isUnder_10 : decode mX10_isUnder.2.1 10 = .ok (.iconst 1, 1) := by decide +kernel
theorem dX10_isUnder_11 : decode mX10_isUnder.2.1 11 = .ok (.if_icmp .ne 8, 3) := by decide +kernel
theorem dX10_isUnder_14 : decode mX10_isUnder.2.1 14 = .ok (.iload_n 0, 1) := by decide +kernel
theorem dX10_isUnder_15 : decode mX10_isUnder.2.1 15 = .ok (.iconst 3, 1) := by decide +kernel
theorem dX10_isUnder_16 : decode mX10_isUnder.2.1 16 = .ok (.if_icmp .eq 13, 3) := by decide +kernel
theorem dX10_isUnder_19 : decode mX10_isUnder.2.1 19 = .ok (.iload_n 1, 1) := by decide +kernel
theorem dX10_isUnder_20 : decode mX10_isUnder.2.1 20 = .ok (.iconst 2, 1) := by decide +kernel
theorem dX10_isUnder_21 : decode mX10_isUnder.2.1 21 = .ok (.if_icmp .ne 12, 3) := by decide +kernel
theorem dX10_isUnder_24 : decode mX10_isUnder.2.1 24 = .ok (.iload_n 0, 1) := by decide +kernel
theorem dX10_isUnder_25 : decode mX10_isUnder.2.1 25 = .ok (.iconst 4, 1) := by decide +kernel
theorem dX10_isUnder_26 : decode mX10_isUnder.2.1 26 = .ok (.if_icmp .ne 7, 3) := by decide +kernel
theorem dX10_isUnder_29 : decode mX10_isUnder.2.1 29 = .ok (.iconst 1, 1) := by decide +kernel
theorem dX10_isUnder_30 : decode mX10_isUnder.2.1 30 = .ok (.goto 4, 3) := by decide +kernel
theorem dX10_isUnder_33 : decode mX10_isUnder.2.1 33 = .ok (.iconst 0, 1) := by decide +kernel
theorem dX10_isUnder_34 : decode mX10_isUnder.2.1 34 = .ok (.ireturn, 1) := by decide +kernel
theorem dX10_as_0 : decode mX10_as.2.1 0 = .ok (.aload_n 0, 1) := by decide +kernel
theorem dX10_as_1 : decode mX10_as.2.1 1 = .ok (.iload_n 1, 1) := by decide +kernel
theorem dX10_as_2 : decode mX10_as.2.1 2 = .ok (.invokevirtual 134, 3) := by decide +kernel
theorem dX10_as_5 : decode mX10_as.2.1 5 = .ok (.ifCond .eq 12, 3) := by decide +kernel
theorem dX10_as_8 : decode mX10_as.2.1 8 = .ok (.iload_n 2, 1) := by decide +kernel
theorem dX10_as_9 : decode mX10_as.2.1 9 = .ok (.iconst 0, 1) := by decide +kernel
theorem dX10_as_10 : decode mX10_as.2.1 10 = .ok (.iconst 5, 1) := by decide +kernel
theorem dX10_as_11 : decode mX10_as.2.1 11 = .ok (.invokestatic 97, 3) := by decide +kernel
theorem dX10_as_14 : decode mX10_as.2.1 14 = .ok (.ifCond .ne 6, 3) := by decide +kernel
theorem dX10_as_17 : decode mX10_as.2.1 17 = .ok (.ldc 101, 2) := by decide +kernel
theorem dX10_as_19 : decode mX10_as.2.1 19 = .ok (.ireturn, 1) := by decide +kernel
theorem dX10_as_20 : decode mX10_as.2.1 20 = .ok (.aload_n 0, 1) := by decide +kernel
theorem dX10_as_21 : decode mX10_as.2.1 21 = .ok (.iload_n 1, 1) := by decide +kernel
theorem dX10_as_22 : decode mX10_as.2.1 22 = .ok (.iconst 0, 1) := by decide +kernel
theorem dX10_as_23 : decode mX10_as.2.1 23 = .ok (.invokevirtual 131, 3) := by decide +kernel
theorem dX10_as_26 : decode mX10_as.2.1 26 = .ok (.iload_n 2, 1) := by decide +kernel
theorem dX10_as_27 : decode mX10_as.2.1 27 = .ok (.invokestatic 140, 3) := by decide +kernel
theorem dX10_as_30 : decode mX10_as.2.1 30 = .ok (.ifCond .eq 12, 3) := by decide +kernel
theorem dX10_as_33 : decode mX10_as.2.1 33 = .ok (.aload_n 0, 1) := by decide +kernel
theorem dX10_as_34 : decode mX10_as.2.1 34 = .ok (.iload_n 1, 1) := by decide +kernel
theorem dX10_as_35 : decode mX10_as.2.1 35 = .ok (.iconst 1, 1) := by decide +kernel
theorem dX10_as_36 : decode mX10_as.2.1 36 = .ok (.invokevirtual 131, 3) := by decide +kernel
theorem dX10_as_39 : decode mX10_as.2.1 39 = .ok (.goto 5, 3) := by decide +kernel
theorem dX10_as_42 : decode mX10_as.2.1 42 = .ok (.ldc 143, 2) := by decide +kernel
theorem dX10_as_44 : decode mX10_as.2.1 44 = .ok (.ireturn, 1) := by decide +kernel
theorem dX10_becomes_0 : decode mX10_becomes.2.1 0 = .ok (.aload_n 0, 1) := by decide +kernel
theorem dX10_becomes_1 : decode mX10_becomes.2.1 1 = .ok (.iload_n 1, 1) := by decide +kernel
theorem dX10_becomes_2 : decode mX10_becomes.2.1 2 = .ok (.iload_n 2, 1) := by decide +kernel
theorem dX10_becomes_3 : decode mX10_becomes.2.1 3 = .ok (.invokevirtual 131, 3) := by decide +kernel
theorem dX10_becomes_6 : decode mX10_becomes.2.1 6 = .ok (.istore 4, 2) := by decide +kernel
theorem dX10_becomes_8 : decode mX10_becomes.2.1 8 = .ok (.aload_n 0, 1) := by decide +kernel
theorem dX10_becomes_9 : decode mX10_becomes.2.1 9 = .ok (.getfield 9, 3) := by decide +kernel
theorem dX10_becomes_12 : decode mX10_becomes.2.1 12 = .ok (.bipush 48, 2) := by decide +kernel
theorem dX10_becomes_14 : decode mX10_becomes.2.1 14 = .ok (.iconst 4, 1) := by decide +kernel
theorem dX10_becomes_15 : decode mX10_becomes.2.1 15 = .ok (.iload_n 1, 1) := by decide +kernel
theorem dX10_becomes_16 : decode mX10_becomes.2.1 16 = .ok (.imul, 1) := by decide +kernel
theorem dX10_becomes_17 : decode mX10_becomes.2.1 17 = .ok (.iadd, 1) := by decide +kernel
theorem dX10_becomes_18 : decode mX10_becomes.2.1 18 = .ok (.iload_n 2, 1) := by decide +kernel
theorem dX10_becomes_19 : decode mX10_becomes.2.1 19 = .ok (.iadd, 1) := by decide +kernel
theorem dX10_becomes_20 : decode mX10_becomes.2.1 20 = .ok (.iload_n 3, 1) := by decide +kernel
theorem dX10_becomes_21 : decode mX10_becomes.2.1 21 = .ok (.iastore, 1) := by decide +kernel
theorem dX10_becomes_22 : decode mX10_becomes.2.1 22 = .ok (.iload 4, 2) := by decide +kernel
theorem dX10_becomes_24 : decode mX10_becomes.2.1 24 = .ok (.ireturn, 1) := by decide +kernel
theorem dX10_turns_0 : decode mX10_turns.2.1 0 = .ok (.aload_n 0, 1) := by decide +kernel
theorem dX10_turns_1 : decode mX10_turns.2.1 1 = .ok (.iload_n 1, 1) := by decide +kernel
theorem dX10_turns_2 : decode mX10_turns.2.1 2 = .ok (.invokevirtual 134, 3) := by decide +kernel
theorem dX10_turns_5 : decode mX10_turns.2.1 5 = .ok (.ifCond .eq 22, 3) := by decide +kernel
theorem dX10_turns_8 : decode mX10_turns.2.1 8 = .ok (.iload_n 2, 1) := by decide +kernel
theorem dX10_turns_9 : decode mX10_turns.2.1 9 = .ok (.iconst 0, 1) := by decide +kernel
theorem dX10_turns_10 : decode mX10_turns.2.1 10 = .ok (.iconst 5, 1) := by decide +kernel
theorem dX10_turns_11 : decode mX10_turns.2.1 11 = .ok (.invokestatic 97, 3) := by decide +kernel
theorem dX10_turns_14 : decode mX10_turns.2.1 14 = .ok (.ifCond .eq 13, 3) := by decide +kernel
theorem dX10_turns_17 : decode mX10_turns.2.1 17 = .ok (.aload_n 0, 1) := by decide +kernel
theorem dX10_turns_18 : decode mX10_turns.2.1 18 = .ok (.iload_n 1, 1) := by decide +kernel
theorem dX10_turns_19 : decode mX10_turns.2.1 19 = .ok (.iconst 0, 1) := by decide +kernel
theorem dX10_turns_20 : decode mX10_turns.2.1 20 = .ok (.iload_n 2, 1) := by decide +kernel
theorem dX10_turns_21 : decode mX10_turns.2.1 21 = .ok (.invokevirtual 144, 3) := by decide +kernel
theorem dX10_turns_24 : decode mX10_turns.2.1 24 = .ok (.goto 5, 3) := by decide +kernel
theorem dX10_turns_27 : decode mX10_turns.2.1 27 = .ok (.ldc 101, 2) := by decide +kernel
theorem dX10_turns_29 : decode mX10_turns.2.1 29 = .ok (.ireturn, 1) := by decide +kernel
theorem dX10_set_0 : decode mX10_set.2.1 0 = .ok (.aload_n 0, 1) := by decide +kernel
theorem dX10_set_1 : decode mX10_set.2.1 1 = .ok (.iload_n 1, 1) := by decide +kernel
theorem dX10_set_2 : decode mX10_set.2.1 2 = .ok (.invokevirtual 134, 3) := by decide +kernel
theorem dX10_set_5 : decode mX10_set.2.1 5 = .ok (.ifCond .eq 32, 3) := by decide +kernel
theorem dX10_set_8 : decode mX10_set.2.1 8 = .ok (.iload_n 2, 1) := by decide +kernel
theorem dX10_set_9 : decode mX10_set.2.1 9 = .ok (.iconst 0, 1) := by decide +kernel
theorem dX10_set_10 : decode mX10_set.2.1 10 = .ok (.iconst 2, 1) := by decide +kernel
theorem dX10_set_11 : decode mX10_set.2.1 11 = .ok (.invokestatic 97, 3) := by decide +kernel
theorem dX10_set_14 : decode mX10_set.2.1 14 = .ok (.ifCond .eq 23, 3) := by decide +kernel
theorem dX10_set_17 : decode mX10_set.2.1 17 = .ok (.iload_n 2, 1) := by decide +kernel
theorem dX10_set_18 : decode mX10_set.2.1 18 = .ok (.iload_n 3, 1) := by decide +kernel
theorem dX10_set_19 : decode mX10_set.2.1 19 = .ok (.invokestatic 127, 3) := by decide +kernel
theorem dX10_set_22 : decode mX10_set.2.1 22 = .ok (.ifCond .eq 15, 3) := by decide +kernel
theorem dX10_set_25 : decode mX10_set.2.1 25 = .ok (.aload_n 0, 1) := by decide +kernel
theorem dX10_set_26 : decode mX10_set.2.1 26 = .ok (.iload_n 1, 1) := by decide +kernel
theorem dX10_set_27 : decode mX10_set.2.1 27 = .ok (.iconst 1, 1) := by decide +kernel
theorem dX10_set_28 : decode mX10_set.2.1 28 = .ok (.iload_n 2, 1) := by decide +kernel
theorem dX10_set_29 : decode mX10_set.2.1 29 = .ok (.iadd, 1) := by decide +kernel
theorem dX10_set_30 : decode mX10_set.2.1 30 = .ok (.iload_n 3, 1) := by decide +kernel
theorem dX10_set_31 : decode mX10_set.2.1 31 = .ok (.invokevirtual 144, 3) := by decide +kernel
theorem dX10_set_34 : decode mX10_set.2.1 34 = .ok (.goto 5, 3) := by decide +kernel
theorem dX10_set_37 : decode mX10_set.2.1 37 = .ok (.ldc 101, 2) := by decide +kernel
theorem dX10_set_39 : decode mX10_set.2.1 39 = .ok (.ireturn, 1) := by decide +kernel
theorem dX10_owedBy_0 : decode mX10_owedBy.2.1 0 = .ok (.aload_n 0, 1) := by decide +kernel
theorem dX10_owedBy_1 : decode mX10_owedBy.2.1 1 = .ok (.iconst 0, 1) := by decide +kernel
theorem dX10_owedBy_2 : decode mX10_owedBy.2.1 2 = .ok (.invokevirtual 147, 3) := by decide +kernel
theorem dX10_owedBy_5 : decode mX10_owedBy.2.1 5 = .ok (.istore_n 3, 1) := by decide +kernel
theorem dX10_owedBy_6 : decode mX10_owedBy.2.1 6 = .ok (.aload_n 0, 1) := by decide +kernel
theorem dX10_owedBy_7 : decode mX10_owedBy.2.1 7 = .ok (.getfield 66, 3) := by decide +kernel
theorem dX10_owedBy_10 : decode mX10_owedBy.2.1 10 = .ok (.iconst 0, 1) := by decide +kernel
theorem dX10_owedBy_11 : decode mX10_owedBy.2.1 11 = .ok (.iload_n 2, 1) := by decide +kernel
theorem dX10_owedBy_12 : decode mX10_owedBy.2.1 12 = .ok (.iastore, 1) := by decide +kernel
theorem dX10_owedBy_13 : decode mX10_owedBy.2.1 13 = .ok (.aload_n 0, 1) := by decide +kernel
theorem dX10_owedBy_14 : decode mX10_owedBy.2.1 14 = .ok (.getfield 66, 3) := by decide +kernel
theorem dX10_owedBy_17 : decode mX10_owedBy.2.1 17 = .ok (.iconst 1, 1) := by decide +kernel
theorem dX10_owedBy_18 : decode mX10_owedBy.2.1 18 = .ok (.aload_n 0, 1) := by decide +kernel
theorem dX10_owedBy_19 : decode mX10_owedBy.2.1 19 = .ok (.iload_n 1, 1) := by decide +kernel
theorem dX10_owedBy_20 : decode mX10_owedBy.2.1 20 = .ok (.iconst 1, 1) := by decide +kernel
theorem dX10_owedBy_21 : decode mX10_owedBy.2.1 21 = .ok (.invokevirtual 131, 3) := by decide +kernel
theorem dX10_owedBy_24 : decode mX10_owedBy.2.1 24 = .ok (.iastore, 1) := by decide +kernel
theorem dX10_owedBy_25 : decode mX10_owedBy.2.1 25 = .ok (.aload_n 0, 1) := by decide +kernel
theorem dX10_owedBy_26 : decode mX10_owedBy.2.1 26 = .ok (.getfield 66, 3) := by decide +kernel
theorem dX10_owedBy_29 : decode mX10_owedBy.2.1 29 = .ok (.iconst 2, 1) := by decide +kernel
theorem dX10_owedBy_30 : decode mX10_owedBy.2.1 30 = .ok (.aload_n 0, 1) := by decide +kernel
theorem dX10_owedBy_31 : decode mX10_owedBy.2.1 31 = .ok (.iload_n 1, 1) := by decide +kernel
theorem dX10_owedBy_32 : decode mX10_owedBy.2.1 32 = .ok (.iconst 2, 1) := by decide +kernel
theorem dX10_owedBy_33 : decode mX10_owedBy.2.1 33 = .ok (.invokevirtual 131, 3) := by decide +kernel
theorem dX10_owedBy_36 : decode mX10_owedBy.2.1 36 = .ok (.iastore, 1) := by decide +kernel
theorem dX10_owedBy_37 : decode mX10_owedBy.2.1 37 = .ok (.iload_n 3, 1) := by decide +kernel
theorem dX10_owedBy_38 : decode mX10_owedBy.2.1 38 = .ok (.ifCond .ge 12, 3) := by decide +kernel
theorem dX10_owedBy_41 : decode mX10_owedBy.2.1 41 = .ok (.aload_n 0, 1) := by decide +kernel
theorem dX10_owedBy_42 : decode mX10_owedBy.2.1 42 = .ok (.iload_n 1, 1) := by decide +kernel
theorem dX10_owedBy_43 : decode mX10_owedBy.2.1 43 = .ok (.iconst 1, 1) := by decide +kernel
theorem dX10_owedBy_44 : decode mX10_owedBy.2.1 44 = .ok (.invokevirtual 131, 3) := by decide +kernel
theorem dX10_owedBy_47 : decode mX10_owedBy.2.1 47 = .ok (.goto 15, 3) := by decide +kernel
theorem dX10_owedBy_50 : decode mX10_owedBy.2.1 50 = .ok (.aload_n 0, 1) := by decide +kernel
theorem dX10_owedBy_51 : decode mX10_owedBy.2.1 51 = .ok (.iload_n 3, 1) := by decide +kernel
theorem dX10_owedBy_52 : decode mX10_owedBy.2.1 52 = .ok (.invokevirtual 150, 3) := by decide +kernel
theorem dX10_owedBy_55 : decode mX10_owedBy.2.1 55 = .ok (.iconst 0, 1) := by decide +kernel
theorem dX10_owedBy_56 : decode mX10_owedBy.2.1 56 = .ok (.sipush 999, 3) := by decide +kernel
theorem dX10_owedBy_59 : decode mX10_owedBy.2.1 59 = .ok (.invokestatic 153, 3) := by decide +kernel
theorem dX10_owedBy_62 : decode mX10_owedBy.2.1 62 = .ok (.istore 4, 2) := by decide +kernel
theorem dX10_owedBy_64 : decode mX10_owedBy.2.1 64 = .ok (.iload_n 2, 1) := by decide +kernel
theorem dX10_owedBy_65 : decode mX10_owedBy.2.1 65 = .ok (.iload 4, 2) := by decide +kernel
theorem dX10_owedBy_67 : decode mX10_owedBy.2.1 67 = .ok (.imul, 1) := by decide +kernel
theorem dX10_owedBy_68 : decode mX10_owedBy.2.1 68 = .ok (.istore 5, 2) := by decide +kernel
theorem dX10_owedBy_70 : decode mX10_owedBy.2.1 70 = .ok (.aload_n 0, 1) := by decide +kernel
theorem dX10_owedBy_71 : decode mX10_owedBy.2.1 71 = .ok (.iload_n 1, 1) := by decide +kernel
theorem dX10_owedBy_72 : decode mX10_owedBy.2.1 72 = .ok (.iconst 0, 1) := by decide +kernel
theorem dX10_owedBy_73 : decode mX10_owedBy.2.1 73 = .ok (.invokevirtual 131, 3) := by decide +kernel
theorem dX10_owedBy_76 : decode mX10_owedBy.2.1 76 = .ok (.tableswitch 99 1 5 #[36, 39, 49, 72, 97], 36) := by decide +kernel
theorem dX10_owedBy_112 : decode mX10_owedBy.2.1 112 = .ok (.iload 5, 2) := by decide +kernel
theorem dX10_owedBy_114 : decode mX10_owedBy.2.1 114 = .ok (.ireturn, 1) := by decide +kernel
theorem dX10_owedBy_115 : decode mX10_owedBy.2.1 115 = .ok (.iload 4, 2) := by decide +kernel
theorem dX10_owedBy_117 : decode mX10_owedBy.2.1 117 = .ok (.aload_n 0, 1) := by decide +kernel
theorem dX10_owedBy_118 : decode mX10_owedBy.2.1 118 = .ok (.iload_n 1, 1) := by decide +kernel
theorem dX10_owedBy_119 : decode mX10_owedBy.2.1 119 = .ok (.iconst 2, 1) := by decide +kernel
theorem dX10_owedBy_120 : decode mX10_owedBy.2.1 120 = .ok (.invokevirtual 131, 3) := by decide +kernel
theorem dX10_owedBy_123 : decode mX10_owedBy.2.1 123 = .ok (.iadd, 1) := by decide +kernel
theorem dX10_owedBy_124 : decode mX10_owedBy.2.1 124 = .ok (.ireturn, 1) := by decide +kernel
theorem dX10_owedBy_125 : decode mX10_owedBy.2.1 125 = .ok (.iload 5, 2) := by decide +kernel
theorem dX10_owedBy_127 : decode mX10_owedBy.2.1 127 = .ok (.aload_n 0, 1) := by decide +kernel
theorem dX10_owedBy_128 : decode mX10_owedBy.2.1 128 = .ok (.iload_n 1, 1) := by decide +kernel
theorem dX10_owedBy_129 : decode mX10_owedBy.2.1 129 = .ok (.iconst 2, 1) := by decide +kernel
theorem dX10_owedBy_130 : decode mX10_owedBy.2.1 130 = .ok (.invokevirtual 131, 3) := by decide +kernel
theorem dX10_owedBy_133 : decode mX10_owedBy.2.1 133 = .ok (.if_icmp .le 12, 3) := by decide +kernel
theorem dX10_owedBy_136 : decode mX10_owedBy.2.1 136 = .ok (.aload_n 0, 1) := by decide +kernel
theorem dX10_owedBy_137 : decode mX10_owedBy.2.1 137 = .ok (.iload_n 1, 1) := by decide +kernel
theorem dX10_owedBy_138 : decode mX10_owedBy.2.1 138 = .ok (.iconst 2, 1) := by decide +kernel
theorem dX10_owedBy_139 : decode mX10_owedBy.2.1 139 = .ok (.invokevirtual 131, 3) := by decide +kernel
theorem dX10_owedBy_142 : decode mX10_owedBy.2.1 142 = .ok (.goto 5, 3) := by decide +kernel
theorem dX10_owedBy_145 : decode mX10_owedBy.2.1 145 = .ok (.iload 5, 2) := by decide +kernel
theorem dX10_owedBy_147 : decode mX10_owedBy.2.1 147 = .ok (.ireturn, 1) := by decide +kernel
theorem dX10_owedBy_148 : decode mX10_owedBy.2.1 148 = .ok (.iload_n 2, 1) := by decide +kernel
theorem dX10_owedBy_149 : decode mX10_owedBy.2.1 149 = .ok (.aload_n 0, 1) := by decide +kernel
theorem dX10_owedBy_150 : decode mX10_owedBy.2.1 150 = .ok (.iload_n 1, 1) := by decide +kernel
theorem dX10_owedBy_151 : decode mX10_owedBy.2.1 151 = .ok (.iconst 3, 1) := by decide +kernel
theorem dX10_owedBy_152 : decode mX10_owedBy.2.1 152 = .ok (.invokevirtual 131, 3) := by decide +kernel
theorem dX10_owedBy_155 : decode mX10_owedBy.2.1 155 = .ok (.irem, 1) := by decide +kernel
theorem dX10_owedBy_156 : decode mX10_owedBy.2.1 156 = .ok (.ifCond .ne 7, 3) := by decide +kernel
theorem dX10_owedBy_159 : decode mX10_owedBy.2.1 159 = .ok (.iconst 0, 1) := by decide +kernel
theorem dX10_owedBy_160 : decode mX10_owedBy.2.1 160 = .ok (.goto 12, 3) := by decide +kernel
theorem dX10_owedBy_163 : decode mX10_owedBy.2.1 163 = .ok (.iload 4, 2) := by decide +kernel
theorem dX10_owedBy_165 : decode mX10_owedBy.2.1 165 = .ok (.aload_n 0, 1) := by decide +kernel
theorem dX10_owedBy_166 : decode mX10_owedBy.2.1 166 = .ok (.iload_n 1, 1) := by decide +kernel
theorem dX10_owedBy_167 : decode mX10_owedBy.2.1 167 = .ok (.iconst 2, 1) := by decide +kernel
theorem dX10_owedBy_168 : decode mX10_owedBy.2.1 168 = .ok (.invokevirtual 131, 3) := by decide +kernel
theorem dX10_owedBy_171 : decode mX10_owedBy.2.1 171 = .ok (.iadd, 1) := by decide +kernel
theorem dX10_owedBy_172 : decode mX10_owedBy.2.1 172 = .ok (.ireturn, 1) := by decide +kernel
theorem dX10_owedBy_173 : decode mX10_owedBy.2.1 173 = .ok (.iconst 0, 1) := by decide +kernel
theorem dX10_owedBy_174 : decode mX10_owedBy.2.1 174 = .ok (.ireturn, 1) := by decide +kernel
theorem dX10_owedBy_175 : decode mX10_owedBy.2.1 175 = .ok (.iload 4, 2) := by decide +kernel
theorem dX10_owedBy_177 : decode mX10_owedBy.2.1 177 = .ok (.ireturn, 1) := by decide +kernel
theorem dX10_owes_0 : decode mX10_owes.2.1 0 = .ok (.aload_n 0, 1) := by decide +kernel
theorem dX10_owes_1 : decode mX10_owes.2.1 1 = .ok (.iload_n 1, 1) := by decide +kernel
theorem dX10_owes_2 : decode mX10_owes.2.1 2 = .ok (.invokevirtual 134, 3) := by decide +kernel
theorem dX10_owes_5 : decode mX10_owes.2.1 5 = .ok (.ifCond .eq 19, 3) := by decide +kernel
theorem dX10_owes_8 : decode mX10_owes.2.1 8 = .ok (.iload_n 2, 1) := by decide +kernel
theorem dX10_owes_9 : decode mX10_owes.2.1 9 = .ok (.invokestatic 156, 3) := by decide +kernel
theorem dX10_owes_12 : decode mX10_owes.2.1 12 = .ok (.ifCond .eq 12, 3) := by decide +kernel
theorem dX10_owes_15 : decode mX10_owes.2.1 15 = .ok (.aload_n 0, 1) := by decide +kernel
theorem dX10_owes_16 : decode mX10_owes.2.1 16 = .ok (.iload_n 1, 1) := by decide +kernel
theorem dX10_owes_17 : decode mX10_owes.2.1 17 = .ok (.iload_n 2, 1) := by decide +kernel
theorem dX10_owes_18 : decode mX10_owes.2.1 18 = .ok (.invokevirtual 159, 3) := by decide +kernel
theorem dX10_owes_21 : decode mX10_owes.2.1 21 = .ok (.goto 5, 3) := by decide +kernel
theorem dX10_owes_24 : decode mX10_owes.2.1 24 = .ok (.ldc 101, 2) := by decide +kernel
theorem dX10_owes_26 : decode mX10_owes.2.1 26 = .ok (.ireturn, 1) := by decide +kernel
theorem dX10_force_0 : decode mX10_force.2.1 0 = .ok (.iload_n 1, 1) := by decide +kernel
theorem dX10_force_1 : decode mX10_force.2.1 1 = .ok (.ldc 96, 2) := by decide +kernel
theorem dX10_force_3 : decode mX10_force.2.1 3 = .ok (.if_icmp .eq 14, 3) := by decide +kernel
theorem dX10_force_6 : decode mX10_force.2.1 6 = .ok (.aload_n 0, 1) := by decide +kernel
theorem dX10_force_7 : decode mX10_force.2.1 7 = .ok (.iload_n 1, 1) := by decide +kernel
theorem dX10_force_8 : decode mX10_force.2.1 8 = .ok (.invokevirtual 134, 3) := by decide +kernel
theorem dX10_force_11 : decode mX10_force.2.1 11 = .ok (.ifCond .ne 6, 3) := by decide +kernel
theorem dX10_force_14 : decode mX10_force.2.1 14 = .ok (.ldc 101, 2) := by decide +kernel
theorem dX10_force_16 : decode mX10_force.2.1 16 = .ok (.ireturn, 1) := by decide +kernel
theorem dX10_force_17 : decode mX10_force.2.1 17 = .ok (.aload_n 0, 1) := by decide +kernel
theorem dX10_force_18 : decode mX10_force.2.1 18 = .ok (.getfield 9, 3) := by decide +kernel
theorem dX10_force_21 : decode mX10_force.2.1 21 = .ok (.iconst 3, 1) := by decide +kernel
theorem dX10_force_22 : decode mX10_force.2.1 22 = .ok (.iaload, 1) := by decide +kernel
theorem dX10_force_23 : decode mX10_force.2.1 23 = .ok (.istore_n 2, 1) := by decide +kernel
theorem dX10_force_24 : decode mX10_force.2.1 24 = .ok (.aload_n 0, 1) := by decide +kernel
theorem dX10_force_25 : decode mX10_force.2.1 25 = .ok (.getfield 9, 3) := by decide +kernel
theorem dX10_force_28 : decode mX10_force.2.1 28 = .ok (.iconst 3, 1) := by decide +kernel
theorem dX10_force_29 : decode mX10_force.2.1 29 = .ok (.iload_n 1, 1) := by decide +kernel
theorem dX10_force_30 : decode mX10_force.2.1 30 = .ok (.ldc 96, 2) := by decide +kernel
theorem dX10_force_32 : decode mX10_force.2.1 32 = .ok (.if_icmp .ne 7, 3) := by decide +kernel
theorem dX10_force_35 : decode mX10_force.2.1 35 = .ok (.iconst (-1), 1) := by decide +kernel
theorem dX10_force_36 : decode mX10_force.2.1 36 = .ok (.goto 4, 3) := by decide +kernel
theorem dX10_force_39 : decode mX10_force.2.1 39 = .ok (.iload_n 1, 1) := by decide +kernel
theorem dX10_force_40 : decode mX10_force.2.1 40 = .ok (.iastore, 1) := by decide +kernel
theorem dX10_force_41 : decode mX10_force.2.1 41 = .ok (.iload_n 2, 1) := by decide +kernel
theorem dX10_force_42 : decode mX10_force.2.1 42 = .ok (.invokestatic 162, 3) := by decide +kernel
theorem dX10_force_45 : decode mX10_force.2.1 45 = .ok (.ireturn, 1) := by decide +kernel
theorem dX10_card_0 : decode mX10_card.2.1 0 = .ok (.iload_n 1, 1) := by decide +kernel
theorem dX10_card_1 : decode mX10_card.2.1 1 = .ok (.ldc 96, 2) := by decide +kernel
theorem dX10_card_3 : decode mX10_card.2.1 3 = .ok (.if_icmp .eq 13, 3) := by decide +kernel
theorem dX10_card_6 : decode mX10_card.2.1 6 = .ok (.iload_n 1, 1) := by decide +kernel
theorem dX10_card_7 : decode mX10_card.2.1 7 = .ok (.invokestatic 156, 3) := by decide +kernel
theorem dX10_card_10 : decode mX10_card.2.1 10 = .ok (.ifCond .ne 6, 3) := by decide +kernel
theorem dX10_card_13 : decode mX10_card.2.1 13 = .ok (.ldc 101, 2) := by decide +kernel
theorem dX10_card_15 : decode mX10_card.2.1 15 = .ok (.ireturn, 1) := by decide +kernel
theorem dX10_card_16 : decode mX10_card.2.1 16 = .ok (.aload_n 0, 1) := by decide +kernel
theorem dX10_card_17 : decode mX10_card.2.1 17 = .ok (.getfield 9, 3) := by decide +kernel
theorem dX10_card_20 : decode mX10_card.2.1 20 = .ok (.iconst 4, 1) := by decide +kernel
theorem dX10_card_21 : decode mX10_card.2.1 21 = .ok (.iaload, 1) := by decide +kernel
theorem dX10_card_22 : decode mX10_card.2.1 22 = .ok (.istore_n 2, 1) := by decide +kernel
theorem dX10_card_23 : decode mX10_card.2.1 23 = .ok (.aload_n 0, 1) := by decide +kernel
theorem dX10_card_24 : decode mX10_card.2.1 24 = .ok (.getfield 9, 3) := by decide +kernel
theorem dX10_card_27 : decode mX10_card.2.1 27 = .ok (.iconst 4, 1) := by decide +kernel
theorem dX10_card_28 : decode mX10_card.2.1 28 = .ok (.iload_n 1, 1) := by decide +kernel
theorem dX10_card_29 : decode mX10_card.2.1 29 = .ok (.ldc 96, 2) := by decide +kernel
theorem dX10_card_31 : decode mX10_card.2.1 31 = .ok (.if_icmp .ne 7, 3) := by decide +kernel
theorem dX10_card_34 : decode mX10_card.2.1 34 = .ok (.iconst (-1), 1) := by decide +kernel
theorem dX10_card_35 : decode mX10_card.2.1 35 = .ok (.goto 4, 3) := by decide +kernel
theorem dX10_card_38 : decode mX10_card.2.1 38 = .ok (.iload_n 1, 1) := by decide +kernel
theorem dX10_card_39 : decode mX10_card.2.1 39 = .ok (.iastore, 1) := by decide +kernel
theorem dX10_card_40 : decode mX10_card.2.1 40 = .ok (.iload_n 2, 1) := by decide +kernel
theorem dX10_card_41 : decode mX10_card.2.1 41 = .ok (.invokestatic 162, 3) := by decide +kernel
theorem dX10_card_44 : decode mX10_card.2.1 44 = .ok (.ireturn, 1) := by decide +kernel
theorem dX10_findOwed_0 : decode mX10_findOwed.2.1 0 = .ok (.iconst 0, 1) := by decide +kernel
theorem dX10_findOwed_1 : decode mX10_findOwed.2.1 1 = .ok (.istore_n 1, 1) := by decide +kernel
theorem dX10_findOwed_2 : decode mX10_findOwed.2.1 2 = .ok (.iload_n 1, 1) := by decide +kernel
theorem dX10_findOwed_3 : decode mX10_findOwed.2.1 3 = .ok (.bipush 31, 2) := by decide +kernel
theorem dX10_findOwed_5 : decode mX10_findOwed.2.1 5 = .ok (.if_icmp .ge 39, 3) := by decide +kernel
theorem dX10_findOwed_8 : decode mX10_findOwed.2.1 8 = .ok (.aload_n 0, 1) := by decide +kernel
theorem dX10_findOwed_9 : decode mX10_findOwed.2.1 9 = .ok (.getfield 19, 3) := by decide +kernel
theorem dX10_findOwed_12 : decode mX10_findOwed.2.1 12 = .ok (.iload_n 1, 1) := by decide +kernel
theorem dX10_findOwed_13 : decode mX10_findOwed.2.1 13 = .ok (.aload_n 0, 1) := by decide +kernel
theorem dX10_findOwed_14 : decode mX10_findOwed.2.1 14 = .ok (.getfield 9, 3) := by decide +kernel
theorem dX10_findOwed_17 : decode mX10_findOwed.2.1 17 = .ok (.iconst 3, 1) := by decide +kernel
theorem dX10_findOwed_18 : decode mX10_findOwed.2.1 18 = .ok (.iaload, 1) := by decide +kernel
theorem dX10_findOwed_19 : decode mX10_findOwed.2.1 19 = .ok (.ifCond .ge 7, 3) := by decide +kernel
theorem dX10_findOwed_22 : decode mX10_findOwed.2.1 22 = .ok (.iconst 0, 1) := by decide +kernel
theorem dX10_findOwed_23 : decode mX10_findOwed.2.1 23 = .ok (.goto 14, 3) := by decide +kernel
theorem dX10_findOwed_26 : decode mX10_findOwed.2.1 26 = .ok (.aload_n 0, 1) := by decide +kernel
theorem dX10_findOwed_27 : decode mX10_findOwed.2.1 27 = .ok (.aload_n 0, 1) := by decide +kernel
theorem dX10_findOwed_28 : decode mX10_findOwed.2.1 28 = .ok (.getfield 9, 3) := by decide +kernel
theorem dX10_findOwed_31 : decode mX10_findOwed.2.1 31 = .ok (.iconst 3, 1) := by decide +kernel
theorem dX10_findOwed_32 : decode mX10_findOwed.2.1 32 = .ok (.iaload, 1) := by decide +kernel
theorem dX10_findOwed_33 : decode mX10_findOwed.2.1 33 = .ok (.iload_n 1, 1) := by decide +kernel
theorem dX10_findOwed_34 : decode mX10_findOwed.2.1 34 = .ok (.invokevirtual 159, 3) := by decide +kernel
theorem dX10_findOwed_37 : decode mX10_findOwed.2.1 37 = .ok (.iastore, 1) := by decide +kernel
theorem dX10_findOwed_38 : decode mX10_findOwed.2.1 38 = .ok (.iinc 1 1, 3) := by decide +kernel
theorem dX10_findOwed_41 : decode mX10_findOwed.2.1 41 = .ok (.goto (-39), 3) := by decide +kernel
theorem dX10_findOwed_44 : decode mX10_findOwed.2.1 44 = .ok (.return_, 1) := by decide +kernel
theorem dX10_forgetsOn_0 : decode mX10_forgetsOn.2.1 0 = .ok (.aload_n 0, 1) := by decide +kernel
theorem dX10_forgetsOn_1 : decode mX10_forgetsOn.2.1 1 = .ok (.iconst 2, 1) := by decide +kernel
theorem dX10_forgetsOn_2 : decode mX10_forgetsOn.2.1 2 = .ok (.invokevirtual 147, 3) := by decide +kernel
theorem dX10_forgetsOn_5 : decode mX10_forgetsOn.2.1 5 = .ok (.istore_n 3, 1) := by decide +kernel
theorem dX10_forgetsOn_6 : decode mX10_forgetsOn.2.1 6 = .ok (.aload_n 0, 1) := by decide +kernel
theorem dX10_forgetsOn_7 : decode mX10_forgetsOn.2.1 7 = .ok (.getfield 66, 3) := by decide +kernel
theorem dX10_forgetsOn_10 : decode mX10_forgetsOn.2.1 10 = .ok (.iconst 0, 1) := by decide +kernel
theorem dX10_forgetsOn_11 : decode mX10_forgetsOn.2.1 11 = .ok (.iload_n 2, 1) := by decide +kernel
theorem dX10_forgetsOn_12 : decode mX10_forgetsOn.2.1 12 = .ok (.iastore, 1) := by decide +kernel
theorem dX10_forgetsOn_13 : decode mX10_forgetsOn.2.1 13 = .ok (.aload_n 0, 1) := by decide +kernel
theorem dX10_forgetsOn_14 : decode mX10_forgetsOn.2.1 14 = .ok (.getfield 66, 3) := by decide +kernel
theorem dX10_forgetsOn_17 : decode mX10_forgetsOn.2.1 17 = .ok (.iconst 1, 1) := by decide +kernel
theorem dX10_forgetsOn_18 : decode mX10_forgetsOn.2.1 18 = .ok (.aload_n 0, 1) := by decide +kernel
theorem dX10_forgetsOn_19 : decode mX10_forgetsOn.2.1 19 = .ok (.iload_n 1, 1) := by decide +kernel
theorem dX10_forgetsOn_20 : decode mX10_forgetsOn.2.1 20 = .ok (.iconst 1, 1) := by decide +kernel
theorem dX10_forgetsOn_21 : decode mX10_forgetsOn.2.1 21 = .ok (.invokevirtual 111, 3) := by decide +kernel
theorem dX10_forgetsOn_24 : decode mX10_forgetsOn.2.1 24 = .ok (.iastore, 1) := by decide +kernel
theorem dX10_forgetsOn_25 : decode mX10_forgetsOn.2.1 25 = .ok (.iload_n 3, 1) := by decide +kernel
theorem dX10_forgetsOn_26 : decode mX10_forgetsOn.2.1 26 = .ok (.ifCond .lt 15, 3) := by decide +kernel
theorem dX10_forgetsOn_29 : decode mX10_forgetsOn.2.1 29 = .ok (.aload_n 0, 1) := by decide +kernel
theorem dX10_forgetsOn_30 : decode mX10_forgetsOn.2.1 30 = .ok (.iload_n 3, 1) := by decide +kernel
theorem dX10_forgetsOn_31 : decode mX10_forgetsOn.2.1 31 = .ok (.invokevirtual 150, 3) := by decide +kernel
theorem dX10_forgetsOn_34 : decode mX10_forgetsOn.2.1 34 = .ok (.iconst 0, 1) := by decide +kernel
theorem dX10_forgetsOn_35 : decode mX10_forgetsOn.2.1 35 = .ok (.bipush 100, 2) := by decide +kernel
theorem dX10_forgetsOn_37 : decode mX10_forgetsOn.2.1 37 = .ok (.invokestatic 153, 3) := by decide +kernel
theorem dX10_forgetsOn_40 : decode mX10_forgetsOn.2.1 40 = .ok (.ireturn, 1) := by decide +kernel
theorem dX10_forgetsOn_41 : decode mX10_forgetsOn.2.1 41 = .ok (.aload_n 0, 1) := by decide +kernel
theorem dX10_forgetsOn_42 : decode mX10_forgetsOn.2.1 42 = .ok (.getfield 9, 3) := by decide +kernel
theorem dX10_forgetsOn_45 : decode mX10_forgetsOn.2.1 45 = .ok (.iconst 4, 1) := by decide +kernel
theorem dX10_forgetsOn_46 : decode mX10_forgetsOn.2.1 46 = .ok (.iaload, 1) := by decide +kernel
theorem dX10_forgetsOn_47 : decode mX10_forgetsOn.2.1 47 = .ok (.ifCond .lt 24, 3) := by decide +kernel
theorem dX10_forgetsOn_50 : decode mX10_forgetsOn.2.1 50 = .ok (.iload_n 2, 1) := by decide +kernel
theorem dX10_forgetsOn_51 : decode mX10_forgetsOn.2.1 51 = .ok (.aload_n 0, 1) := by decide +kernel
theorem dX10_forgetsOn_52 : decode mX10_forgetsOn.2.1 52 = .ok (.getfield 9, 3) := by decide +kernel
theorem dX10_forgetsOn_55 : decode mX10_forgetsOn.2.1 55 = .ok (.iconst 4, 1) := by decide +kernel
theorem dX10_forgetsOn_56 : decode mX10_forgetsOn.2.1 56 = .ok (.iaload, 1) := by decide +kernel
theorem dX10_forgetsOn_57 : decode mX10_forgetsOn.2.1 57 = .ok (.if_icmp .lt 14, 3) := by decide +kernel
theorem dX10_forgetsOn_60 : decode mX10_forgetsOn.2.1 60 = .ok (.aload_n 0, 1) := by decide +kernel
theorem dX10_forgetsOn_61 : decode mX10_forgetsOn.2.1 61 = .ok (.iload_n 1, 1) := by decide +kernel
theorem dX10_forgetsOn_62 : decode mX10_forgetsOn.2.1 62 = .ok (.iconst 1, 1) := by decide +kernel
theorem dX10_forgetsOn_63 : decode mX10_forgetsOn.2.1 63 = .ok (.invokevirtual 111, 3) := by decide +kernel
theorem dX10_forgetsOn_66 : decode mX10_forgetsOn.2.1 66 = .ok (.iconst 2, 1) := by decide +kernel
theorem dX10_forgetsOn_67 : decode mX10_forgetsOn.2.1 67 = .ok (.idiv, 1) := by decide +kernel
theorem dX10_forgetsOn_68 : decode mX10_forgetsOn.2.1 68 = .ok (.goto 9, 3) := by decide +kernel
theorem dX10_forgetsOn_71 : decode mX10_forgetsOn.2.1 71 = .ok (.aload_n 0, 1) := by decide +kernel
theorem dX10_forgetsOn_72 : decode mX10_forgetsOn.2.1 72 = .ok (.iload_n 1, 1) := by decide +kernel
theorem dX10_forgetsOn_73 : decode mX10_forgetsOn.2.1 73 = .ok (.iconst 1, 1) := by decide +kernel
theorem dX10_forgetsOn_74 : decode mX10_forgetsOn.2.1 74 = .ok (.invokevirtual 111, 3) := by decide +kernel
theorem dX10_forgetsOn_77 : decode mX10_forgetsOn.2.1 77 = .ok (.ireturn, 1) := by decide +kernel
theorem dX10_shameOf_0 : decode mX10_shameOf.2.1 0 = .ok (.aload_n 0, 1) := by decide +kernel
theorem dX10_shameOf_1 : decode mX10_shameOf.2.1 1 = .ok (.iconst 1, 1) := by decide +kernel
theorem dX10_shameOf_2 : decode mX10_shameOf.2.1 2 = .ok (.invokevirtual 147, 3) := by decide +kernel
theorem dX10_shameOf_5 : decode mX10_shameOf.2.1 5 = .ok (.istore_n 3, 1) := by decide +kernel
theorem dX10_shameOf_6 : decode mX10_shameOf.2.1 6 = .ok (.aload_n 0, 1) := by decide +kernel
theorem dX10_shameOf_7 : decode mX10_shameOf.2.1 7 = .ok (.getfield 66, 3) := by decide +kernel
theorem dX10_shameOf_10 : decode mX10_shameOf.2.1 10 = .ok (.iconst 0, 1) := by decide +kernel
theorem dX10_shameOf_11 : decode mX10_shameOf.2.1 11 = .ok (.iload_n 2, 1) := by decide +kernel
theorem dX10_shameOf_12 : decode mX10_shameOf.2.1 12 = .ok (.iastore, 1) := by decide +kernel
theorem dX10_shameOf_13 : decode mX10_shameOf.2.1 13 = .ok (.aload_n 0, 1) := by decide +kernel
theorem dX10_shameOf_14 : decode mX10_shameOf.2.1 14 = .ok (.getfield 66, 3) := by decide +kernel
theorem dX10_shameOf_17 : decode mX10_shameOf.2.1 17 = .ok (.iconst 1, 1) := by decide +kernel
theorem dX10_shameOf_18 : decode mX10_shameOf.2.1 18 = .ok (.aload_n 0, 1) := by decide +kernel
theorem dX10_shameOf_19 : decode mX10_shameOf.2.1 19 = .ok (.iload_n 1, 1) := by decide +kernel
theorem dX10_shameOf_20 : decode mX10_shameOf.2.1 20 = .ok (.iconst 3, 1) := by decide +kernel
theorem dX10_shameOf_21 : decode mX10_shameOf.2.1 21 = .ok (.invokevirtual 111, 3) := by decide +kernel
theorem dX10_shameOf_24 : decode mX10_shameOf.2.1 24 = .ok (.iastore, 1) := by decide +kernel
theorem dX10_shameOf_25 : decode mX10_shameOf.2.1 25 = .ok (.iload_n 3, 1) := by decide +kernel
theorem dX10_shameOf_26 : decode mX10_shameOf.2.1 26 = .ok (.ifCond .ge 17, 3) := by decide +kernel
theorem dX10_shameOf_29 : decode mX10_shameOf.2.1 29 = .ok (.aload_n 0, 1) := by decide +kernel
theorem dX10_shameOf_30 : decode mX10_shameOf.2.1 30 = .ok (.iload_n 1, 1) := by decide +kernel
theorem dX10_shameOf_31 : decode mX10_shameOf.2.1 31 = .ok (.iconst 3, 1) := by decide +kernel
theorem dX10_shameOf_32 : decode mX10_shameOf.2.1 32 = .ok (.invokevirtual 111, 3) := by decide +kernel
theorem dX10_shameOf_35 : decode mX10_shameOf.2.1 35 = .ok (.iload_n 2, 1) := by decide +kernel
theorem dX10_shameOf_36 : decode mX10_shameOf.2.1 36 = .ok (.imul, 1) := by decide +kernel
theorem dX10_shameOf_37 : decode mX10_shameOf.2.1 37 = .ok (.bipush 10, 2) := by decide +kernel
theorem dX10_shameOf_39 : decode mX10_shameOf.2.1 39 = .ok (.idiv, 1) := by decide +kernel
theorem dX10_shameOf_40 : decode mX10_shameOf.2.1 40 = .ok (.goto 15, 3) := by decide +kernel
theorem dX10_shameOf_43 : decode mX10_shameOf.2.1 43 = .ok (.aload_n 0, 1) := by decide +kernel
theorem dX10_shameOf_44 : decode mX10_shameOf.2.1 44 = .ok (.iload_n 3, 1) := by decide +kernel
theorem dX10_shameOf_45 : decode mX10_shameOf.2.1 45 = .ok (.invokevirtual 150, 3) := by decide +kernel
theorem dX10_shameOf_48 : decode mX10_shameOf.2.1 48 = .ok (.iconst 0, 1) := by decide +kernel
theorem dX10_shameOf_49 : decode mX10_shameOf.2.1 49 = .ok (.sipush 9999, 3) := by decide +kernel
theorem dX10_shameOf_52 : decode mX10_shameOf.2.1 52 = .ok (.invokestatic 153, 3) := by decide +kernel
theorem dX10_shameOf_55 : decode mX10_shameOf.2.1 55 = .ok (.ireturn, 1) := by decide +kernel
theorem dX10_findDays_0 : decode mX10_findDays.2.1 0 = .ok (.aload_n 0, 1) := by decide +kernel
theorem dX10_findDays_1 : decode mX10_findDays.2.1 1 = .ok (.getfield 31, 3) := by decide +kernel
theorem dX10_findDays_4 : decode mX10_findDays.2.1 4 = .ok (.bipush 31, 2) := by decide +kernel
theorem dX10_findDays_6 : decode mX10_findDays.2.1 6 = .ok (.aload_n 0, 1) := by decide +kernel
theorem dX10_findDays_7 : decode mX10_findDays.2.1 7 = .ok (.iload_n 1, 1) := by decide +kernel
theorem dX10_findDays_8 : decode mX10_findDays.2.1 8 = .ok (.bipush 6, 2) := by decide +kernel
theorem dX10_findDays_10 : decode mX10_findDays.2.1 10 = .ok (.invokevirtual 111, 3) := by decide +kernel
theorem dX10_findDays_13 : decode mX10_findDays.2.1 13 = .ok (.iastore, 1) := by decide +kernel
theorem dX10_findDays_14 : decode mX10_findDays.2.1 14 = .ok (.bipush 30, 2) := by decide +kernel
theorem dX10_findDays_16 : decode mX10_findDays.2.1 16 = .ok (.istore_n 2, 1) := by decide +kernel
theorem dX10_findDays_17 : decode mX10_findDays.2.1 17 = .ok (.iload_n 2, 1) := by decide +kernel
theorem dX10_findDays_18 : decode mX10_findDays.2.1 18 = .ok (.ifCond .lt 171, 3) := by decide +kernel
theorem dX10_findDays_21 : decode mX10_findDays.2.1 21 = .ok (.aload_n 0, 1) := by decide +kernel
theorem dX10_findDays_22 : decode mX10_findDays.2.1 22 = .ok (.getfield 22, 3) := by decide +kernel
theorem dX10_findDays_25 : decode mX10_findDays.2.1 25 = .ok (.iload_n 2, 1) := by decide +kernel
theorem dX10_findDays_26 : decode mX10_findDays.2.1 26 = .ok (.aload_n 0, 1) := by decide +kernel
theorem dX10_findDays_27 : decode mX10_findDays.2.1 27 = .ok (.iload_n 1, 1) := by decide +kernel
theorem dX10_findDays_28 : decode mX10_findDays.2.1 28 = .ok (.iload_n 2, 1) := by decide +kernel
theorem dX10_findDays_29 : decode mX10_findDays.2.1 29 = .ok (.invokevirtual 165, 3) := by decide +kernel
theorem dX10_findDays_32 : decode mX10_findDays.2.1 32 = .ok (.iastore, 1) := by decide +kernel
theorem dX10_findDays_33 : decode mX10_findDays.2.1 33 = .ok (.aload_n 0, 1) := by decide +kernel
theorem dX10_findDays_34 : decode mX10_findDays.2.1 34 = .ok (.getfield 25, 3) := by decide +kernel
theorem dX10_findDays_37 : decode mX10_findDays.2.1 37 = .ok (.iload_n 2, 1) := by decide +kernel
theorem dX10_findDays_38 : decode mX10_findDays.2.1 38 = .ok (.aload_n 0, 1) := by decide +kernel
theorem dX10_findDays_39 : decode mX10_findDays.2.1 39 = .ok (.iload_n 1, 1) := by decide +kernel
theorem dX10_findDays_40 : decode mX10_findDays.2.1 40 = .ok (.iconst 2, 1) := by decide +kernel
theorem dX10_findDays_41 : decode mX10_findDays.2.1 41 = .ok (.invokevirtual 111, 3) := by decide +kernel
theorem dX10_findDays_44 : decode mX10_findDays.2.1 44 = .ok (.aload_n 0, 1) := by decide +kernel
theorem dX10_findDays_45 : decode mX10_findDays.2.1 45 = .ok (.getfield 19, 3) := by decide +kernel
theorem dX10_findDays_48 : decode mX10_findDays.2.1 48 = .ok (.iload_n 2, 1) := by decide +kernel
theorem dX10_findDays_49 : decode mX10_findDays.2.1 49 = .ok (.iaload, 1) := by decide +kernel
theorem dX10_findDays_50 : decode mX10_findDays.2.1 50 = .ok (.iadd, 1) := by decide +kernel
theorem dX10_findDays_51 : decode mX10_findDays.2.1 51 = .ok (.aload_n 0, 1) := by decide +kernel
theorem dX10_findDays_52 : decode mX10_findDays.2.1 52 = .ok (.iload_n 1, 1) := by decide +kernel
theorem dX10_findDays_53 : decode mX10_findDays.2.1 53 = .ok (.aload_n 0, 1) := by decide +kernel
theorem dX10_findDays_54 : decode mX10_findDays.2.1 54 = .ok (.getfield 19, 3) := by decide +kernel
theorem dX10_findDays_57 : decode mX10_findDays.2.1 57 = .ok (.iload_n 2, 1) := by decide +kernel
theorem dX10_findDays_58 : decode mX10_findDays.2.1 58 = .ok (.iaload, 1) := by decide +kernel
theorem dX10_findDays_59 : decode mX10_findDays.2.1 59 = .ok (.invokevirtual 168, 3) := by decide +kernel
theorem dX10_findDays_62 : decode mX10_findDays.2.1 62 = .ok (.iadd, 1) := by decide +kernel
theorem dX10_findDays_63 : decode mX10_findDays.2.1 63 = .ok (.iastore, 1) := by decide +kernel
theorem dX10_findDays_64 : decode mX10_findDays.2.1 64 = .ok (.aload_n 0, 1) := by decide +kernel
theorem dX10_findDays_65 : decode mX10_findDays.2.1 65 = .ok (.getfield 28, 3) := by decide +kernel
theorem dX10_findDays_68 : decode mX10_findDays.2.1 68 = .ok (.iload_n 2, 1) := by decide +kernel
theorem dX10_findDays_69 : decode mX10_findDays.2.1 69 = .ok (.aload_n 0, 1) := by decide +kernel
theorem dX10_findDays_70 : decode mX10_findDays.2.1 70 = .ok (.getfield 31, 3) := by decide +kernel
theorem dX10_findDays_73 : decode mX10_findDays.2.1 73 = .ok (.iload_n 2, 1) := by decide +kernel
theorem dX10_findDays_74 : decode mX10_findDays.2.1 74 = .ok (.iconst 1, 1) := by decide +kernel
theorem dX10_findDays_75 : decode mX10_findDays.2.1 75 = .ok (.iadd, 1) := by decide +kernel
theorem dX10_findDays_76 : decode mX10_findDays.2.1 76 = .ok (.iaload, 1) := by decide +kernel
theorem dX10_findDays_77 : decode mX10_findDays.2.1 77 = .ok (.aload_n 0, 1) := by decide +kernel
theorem dX10_findDays_78 : decode mX10_findDays.2.1 78 = .ok (.iload_n 1, 1) := by decide +kernel
theorem dX10_findDays_79 : decode mX10_findDays.2.1 79 = .ok (.iconst 5, 1) := by decide +kernel
theorem dX10_findDays_80 : decode mX10_findDays.2.1 80 = .ok (.invokevirtual 111, 3) := by decide +kernel
theorem dX10_findDays_83 : decode mX10_findDays.2.1 83 = .ok (.isub, 1) := by decide +kernel
theorem dX10_findDays_84 : decode mX10_findDays.2.1 84 = .ok (.iastore, 1) := by decide +kernel
theorem dX10_findDays_85 : decode mX10_findDays.2.1 85 = .ok (.aload_n 0, 1) := by decide +kernel
theorem dX10_findDays_86 : decode mX10_findDays.2.1 86 = .ok (.getfield 34, 3) := by decide +kernel
theorem dX10_findDays_89 : decode mX10_findDays.2.1 89 = .ok (.iload_n 2, 1) := by decide +kernel
theorem dX10_findDays_90 : decode mX10_findDays.2.1 90 = .ok (.aload_n 0, 1) := by decide +kernel
theorem dX10_findDays_91 : decode mX10_findDays.2.1 91 = .ok (.getfield 19, 3) := by decide +kernel
theorem dX10_findDays_94 : decode mX10_findDays.2.1 94 = .ok (.iload_n 2, 1) := by decide +kernel
theorem dX10_findDays_95 : decode mX10_findDays.2.1 95 = .ok (.iaload, 1) := by decide +kernel
theorem dX10_findDays_96 : decode mX10_findDays.2.1 96 = .ok (.aload_n 0, 1) := by decide +kernel
theorem dX10_findDays_97 : decode mX10_findDays.2.1 97 = .ok (.iload_n 1, 1) := by decide +kernel
theorem dX10_findDays_98 : decode mX10_findDays.2.1 98 = .ok (.iconst 4, 1) := by decide +kernel
theorem dX10_findDays_99 : decode mX10_findDays.2.1 99 = .ok (.invokevirtual 111, 3) := by decide +kernel
theorem dX10_findDays_102 : decode mX10_findDays.2.1 102 = .ok (.if_icmp .gt 22, 3) := by decide +kernel
theorem dX10_findDays_105 : decode mX10_findDays.2.1 105 = .ok (.aload_n 0, 1) := by decide +kernel
theorem dX10_findDays_106 : decode mX10_findDays.2.1 106 = .ok (.getfield 25, 3) := by decide +kernel
theorem dX10_findDays_109 : decode mX10_findDays.2.1 109 = .ok (.iload_n 2, 1) := by decide +kernel
theorem dX10_findDays_110 : decode mX10_findDays.2.1 110 = .ok (.iaload, 1) := by decide +kernel
theorem dX10_findDays_111 : decode mX10_findDays.2.1 111 = .ok (.aload_n 0, 1) := by decide +kernel
theorem dX10_findDays_112 : decode mX10_findDays.2.1 112 = .ok (.getfield 28, 3) := by decide +kernel
theorem dX10_findDays_115 : decode mX10_findDays.2.1 115 = .ok (.iload_n 2, 1) := by decide +kernel
theorem dX10_findDays_116 : decode mX10_findDays.2.1 116 = .ok (.iaload, 1) := by decide +kernel
theorem dX10_findDays_117 : decode mX10_findDays.2.1 117 = .ok (.if_icmp .gt 7, 3) := by decide +kernel
theorem dX10_findDays_120 : decode mX10_findDays.2.1 120 = .ok (.iconst 1, 1) := by decide +kernel
theorem dX10_findDays_121 : decode mX10_findDays.2.1 121 = .ok (.goto 4, 3) := by decide +kernel
theorem dX10_findDays_124 : decode mX10_findDays.2.1 124 = .ok (.iconst 0, 1) := by decide +kernel
theorem dX10_findDays_125 : decode mX10_findDays.2.1 125 = .ok (.bastore, 1) := by decide +kernel
theorem dX10_findDays_126 : decode mX10_findDays.2.1 126 = .ok (.aload_n 0, 1) := by decide +kernel
theorem dX10_findDays_127 : decode mX10_findDays.2.1 127 = .ok (.getfield 31, 3) := by decide +kernel
theorem dX10_findDays_130 : decode mX10_findDays.2.1 130 = .ok (.iload_n 2, 1) := by decide +kernel
theorem dX10_findDays_131 : decode mX10_findDays.2.1 131 = .ok (.aload_n 0, 1) := by decide +kernel
theorem dX10_findDays_132 : decode mX10_findDays.2.1 132 = .ok (.getfield 22, 3) := by decide +kernel
theorem dX10_findDays_135 : decode mX10_findDays.2.1 135 = .ok (.iload_n 2, 1) := by decide +kernel
theorem dX10_findDays_136 : decode mX10_findDays.2.1 136 = .ok (.iaload, 1) := by decide +kernel
theorem dX10_findDays_137 : decode mX10_findDays.2.1 137 = .ok (.aload_n 0, 1) := by decide +kernel
theorem dX10_findDays_138 : decode mX10_findDays.2.1 138 = .ok (.getfield 28, 3) := by decide +kernel
theorem dX10_findDays_141 : decode mX10_findDays.2.1 141 = .ok (.iload_n 2, 1) := by decide +kernel
theorem dX10_findDays_142 : decode mX10_findDays.2.1 142 = .ok (.iaload, 1) := by decide +kernel
theorem dX10_findDays_143 : decode mX10_findDays.2.1 143 = .ok (.imul, 1) := by decide +kernel
theorem dX10_findDays_144 : decode mX10_findDays.2.1 144 = .ok (.bipush 100, 2) := by decide +kernel
theorem dX10_findDays_146 : decode mX10_findDays.2.1 146 = .ok (.aload_n 0, 1) := by decide +kernel
theorem dX10_findDays_147 : decode mX10_findDays.2.1 147 = .ok (.getfield 22, 3) := by decide +kernel
theorem dX10_findDays_150 : decode mX10_findDays.2.1 150 = .ok (.iload_n 2, 1) := by decide +kernel
theorem dX10_findDays_151 : decode mX10_findDays.2.1 151 = .ok (.iaload, 1) := by decide +kernel
theorem dX10_findDays_152 : decode mX10_findDays.2.1 152 = .ok (.isub, 1) := by decide +kernel
theorem dX10_findDays_153 : decode mX10_findDays.2.1 153 = .ok (.aload_n 0, 1) := by decide +kernel
theorem dX10_findDays_154 : decode mX10_findDays.2.1 154 = .ok (.getfield 34, 3) := by decide +kernel
theorem dX10_findDays_157 : decode mX10_findDays.2.1 157 = .ok (.iload_n 2, 1) := by decide +kernel
theorem dX10_findDays_158 : decode mX10_findDays.2.1 158 = .ok (.baload, 1) := by decide +kernel
theorem dX10_findDays_159 : decode mX10_findDays.2.1 159 = .ok (.ifCond .eq 12, 3) := by decide +kernel
theorem dX10_findDays_162 : decode mX10_findDays.2.1 162 = .ok (.aload_n 0, 1) := by decide +kernel
theorem dX10_findDays_163 : decode mX10_findDays.2.1 163 = .ok (.getfield 25, 3) := by decide +kernel
theorem dX10_findDays_166 : decode mX10_findDays.2.1 166 = .ok (.iload_n 2, 1) := by decide +kernel
theorem dX10_findDays_167 : decode mX10_findDays.2.1 167 = .ok (.iaload, 1) := by decide +kernel
theorem dX10_findDays_168 : decode mX10_findDays.2.1 168 = .ok (.goto 9, 3) := by decide +kernel
theorem dX10_findDays_171 : decode mX10_findDays.2.1 171 = .ok (.aload_n 0, 1) := by decide +kernel
theorem dX10_findDays_172 : decode mX10_findDays.2.1 172 = .ok (.getfield 28, 3) := by decide +kernel
theorem dX10_findDays_175 : decode mX10_findDays.2.1 175 = .ok (.iload_n 2, 1) := by decide +kernel
theorem dX10_findDays_176 : decode mX10_findDays.2.1 176 = .ok (.iaload, 1) := by decide +kernel
theorem dX10_findDays_177 : decode mX10_findDays.2.1 177 = .ok (.imul, 1) := by decide +kernel
theorem dX10_findDays_178 : decode mX10_findDays.2.1 178 = .ok (.iadd, 1) := by decide +kernel
theorem dX10_findDays_179 : decode mX10_findDays.2.1 179 = .ok (.bipush 100, 2) := by decide +kernel
theorem dX10_findDays_181 : decode mX10_findDays.2.1 181 = .ok (.idiv, 1) := by decide +kernel
theorem dX10_findDays_182 : decode mX10_findDays.2.1 182 = .ok (.iastore, 1) := by decide +kernel
theorem dX10_findDays_183 : decode mX10_findDays.2.1 183 = .ok (.iinc 2 (-1), 3) := by decide +kernel
theorem dX10_findDays_186 : decode mX10_findDays.2.1 186 = .ok (.goto (-169), 3) := by decide +kernel
theorem dX10_findDays_189 : decode mX10_findDays.2.1 189 = .ok (.aload_n 0, 1) := by decide +kernel
theorem dX10_findDays_190 : decode mX10_findDays.2.1 190 = .ok (.getfield 41, 3) := by decide +kernel
theorem dX10_findDays_193 : decode mX10_findDays.2.1 193 = .ok (.iconst 0, 1) := by decide +kernel
theorem dX10_findDays_194 : decode mX10_findDays.2.1 194 = .ok (.ldc 171, 2) := by decide +kernel
theorem dX10_findDays_196 : decode mX10_findDays.2.1 196 = .ok (.iastore, 1) := by decide +kernel
theorem dX10_findDays_197 : decode mX10_findDays.2.1 197 = .ok (.iconst 0, 1) := by decide +kernel
theorem dX10_findDays_198 : decode mX10_findDays.2.1 198 = .ok (.istore_n 2, 1) := by decide +kernel
theorem dX10_findDays_199 : decode mX10_findDays.2.1 199 = .ok (.iload_n 2, 1) := by decide +kernel
theorem dX10_findDays_200 : decode mX10_findDays.2.1 200 = .ok (.bipush 31, 2) := by decide +kernel
theorem dX10_findDays_202 : decode mX10_findDays.2.1 202 = .ok (.if_icmp .ge 68, 3) := by decide +kernel
theorem dX10_findDays_205 : decode mX10_findDays.2.1 205 = .ok (.aload_n 0, 1) := by decide +kernel
theorem dX10_findDays_206 : decode mX10_findDays.2.1 206 = .ok (.getfield 38, 3) := by decide +kernel
theorem dX10_findDays_209 : decode mX10_findDays.2.1 209 = .ok (.iload_n 2, 1) := by decide +kernel
theorem dX10_findDays_210 : decode mX10_findDays.2.1 210 = .ok (.aload_n 0, 1) := by decide +kernel
theorem dX10_findDays_211 : decode mX10_findDays.2.1 211 = .ok (.getfield 34, 3) := by decide +kernel
theorem dX10_findDays_214 : decode mX10_findDays.2.1 214 = .ok (.iload_n 2, 1) := by decide +kernel
theorem dX10_findDays_215 : decode mX10_findDays.2.1 215 = .ok (.baload, 1) := by decide +kernel
theorem dX10_findDays_216 : decode mX10_findDays.2.1 216 = .ok (.ifCond .eq 25, 3) := by decide +kernel
theorem dX10_findDays_219 : decode mX10_findDays.2.1 219 = .ok (.aload_n 0, 1) := by decide +kernel
theorem dX10_findDays_220 : decode mX10_findDays.2.1 220 = .ok (.getfield 41, 3) := by decide +kernel
theorem dX10_findDays_223 : decode mX10_findDays.2.1 223 = .ok (.iload_n 2, 1) := by decide +kernel
theorem dX10_findDays_224 : decode mX10_findDays.2.1 224 = .ok (.iaload, 1) := by decide +kernel
theorem dX10_findDays_225 : decode mX10_findDays.2.1 225 = .ok (.bipush 100, 2) := by decide +kernel
theorem dX10_findDays_227 : decode mX10_findDays.2.1 227 = .ok (.aload_n 0, 1) := by decide +kernel
theorem dX10_findDays_228 : decode mX10_findDays.2.1 228 = .ok (.getfield 22, 3) := by decide +kernel
theorem dX10_findDays_231 : decode mX10_findDays.2.1 231 = .ok (.iload_n 2, 1) := by decide +kernel
theorem dX10_findDays_232 : decode mX10_findDays.2.1 232 = .ok (.iaload, 1) := by decide +kernel
theorem dX10_findDays_233 : decode mX10_findDays.2.1 233 = .ok (.isub, 1) := by decide +kernel
theorem dX10_findDays_234 : decode mX10_findDays.2.1 234 = .ok (.imul, 1) := by decide +kernel
theorem dX10_findDays_235 : decode mX10_findDays.2.1 235 = .ok (.bipush 100, 2) := by decide +kernel
theorem dX10_findDays_237 : decode mX10_findDays.2.1 237 = .ok (.idiv, 1) := by decide +kernel
theorem dX10_findDays_238 : decode mX10_findDays.2.1 238 = .ok (.goto 4, 3) := by decide +kernel
theorem dX10_findDays_241 : decode mX10_findDays.2.1 241 = .ok (.iconst 0, 1) := by decide +kernel
theorem dX10_findDays_242 : decode mX10_findDays.2.1 242 = .ok (.iastore, 1) := by decide +kernel
theorem dX10_findDays_243 : decode mX10_findDays.2.1 243 = .ok (.aload_n 0, 1) := by decide +kernel
theorem dX10_findDays_244 : decode mX10_findDays.2.1 244 = .ok (.getfield 41, 3) := by decide +kernel
theorem dX10_findDays_247 : decode mX10_findDays.2.1 247 = .ok (.iload_n 2, 1) := by decide +kernel
theorem dX10_findDays_248 : decode mX10_findDays.2.1 248 = .ok (.iconst 1, 1) := by decide +kernel
theorem dX10_findDays_249 : decode mX10_findDays.2.1 249 = .ok (.iadd, 1) := by decide +kernel
theorem dX10_findDays_250 : decode mX10_findDays.2.1 250 = .ok (.aload_n 0, 1) := by decide +kernel
theorem dX10_findDays_251 : decode mX10_findDays.2.1 251 = .ok (.getfield 41, 3) := by decide +kernel
theorem dX10_findDays_254 : decode mX10_findDays.2.1 254 = .ok (.iload_n 2, 1) := by decide +kernel
theorem dX10_findDays_255 : decode mX10_findDays.2.1 255 = .ok (.iaload, 1) := by decide +kernel
theorem dX10_findDays_256 : decode mX10_findDays.2.1 256 = .ok (.aload_n 0, 1) := by decide +kernel
theorem dX10_findDays_257 : decode mX10_findDays.2.1 257 = .ok (.getfield 38, 3) := by decide +kernel
theorem dX10_findDays_260 : decode mX10_findDays.2.1 260 = .ok (.iload_n 2, 1) := by decide +kernel
theorem dX10_findDays_261 : decode mX10_findDays.2.1 261 = .ok (.iaload, 1) := by decide +kernel
theorem dX10_findDays_262 : decode mX10_findDays.2.1 262 = .ok (.isub, 1) := by decide +kernel
theorem dX10_findDays_263 : decode mX10_findDays.2.1 263 = .ok (.iastore, 1) := by decide +kernel
theorem dX10_findDays_264 : decode mX10_findDays.2.1 264 = .ok (.iinc 2 1, 3) := by decide +kernel
theorem dX10_findDays_267 : decode mX10_findDays.2.1 267 = .ok (.goto (-68), 3) := by decide +kernel
theorem dX10_findDays_270 : decode mX10_findDays.2.1 270 = .ok (.return_, 1) := by decide +kernel
theorem dX10_findReader_0 : decode mX10_findReader.2.1 0 = .ok (.aload_n 0, 1) := by decide +kernel
theorem dX10_findReader_1 : decode mX10_findReader.2.1 1 = .ok (.invokevirtual 172, 3) := by decide +kernel
theorem dX10_findReader_4 : decode mX10_findReader.2.1 4 = .ok (.aload_n 0, 1) := by decide +kernel
theorem dX10_findReader_5 : decode mX10_findReader.2.1 5 = .ok (.iload_n 1, 1) := by decide +kernel
theorem dX10_findReader_6 : decode mX10_findReader.2.1 6 = .ok (.invokevirtual 175, 3) := by decide +kernel
theorem dX10_findReader_9 : decode mX10_findReader.2.1 9 = .ok (.return_, 1) := by decide +kernel
theorem dX10_reader_0 : decode mX10_reader.2.1 0 = .ok (.aload_n 0, 1) := by decide +kernel
theorem dX10_reader_1 : decode mX10_reader.2.1 1 = .ok (.iload_n 1, 1) := by decide +kernel
theorem dX10_reader_2 : decode mX10_reader.2.1 2 = .ok (.invokevirtual 107, 3) := by decide +kernel
theorem dX10_reader_5 : decode mX10_reader.2.1 5 = .ok (.ifCond .eq 20, 3) := by decide +kernel
theorem dX10_reader_8 : decode mX10_reader.2.1 8 = .ok (.iload_n 2, 1) := by decide +kernel
theorem dX10_reader_9 : decode mX10_reader.2.1 9 = .ok (.invokestatic 156, 3) := by decide +kernel
theorem dX10_reader_12 : decode mX10_reader.2.1 12 = .ok (.ifCond .eq 13, 3) := by decide +kernel
theorem dX10_reader_15 : decode mX10_reader.2.1 15 = .ok (.iload_n 3, 1) := by decide +kernel
theorem dX10_reader_16 : decode mX10_reader.2.1 16 = .ok (.iconst 0, 1) := by decide +kernel
theorem dX10_reader_17 : decode mX10_reader.2.1 17 = .ok (.bipush 6, 2) := by decide +kernel
theorem dX10_reader_19 : decode mX10_reader.2.1 19 = .ok (.invokestatic 97, 3) := by decide +kernel
theorem dX10_reader_22 : decode mX10_reader.2.1 22 = .ok (.ifCond .ne 6, 3) := by decide +kernel
theorem dX10_reader_25 : decode mX10_reader.2.1 25 = .ok (.ldc 101, 2) := by decide +kernel
theorem dX10_reader_27 : decode mX10_reader.2.1 27 = .ok (.ireturn, 1) := by decide +kernel
theorem dX10_reader_28 : decode mX10_reader.2.1 28 = .ok (.aload_n 0, 1) := by decide +kernel
theorem dX10_reader_29 : decode mX10_reader.2.1 29 = .ok (.iload_n 1, 1) := by decide +kernel
theorem dX10_reader_30 : decode mX10_reader.2.1 30 = .ok (.invokevirtual 179, 3) := by decide +kernel
theorem dX10_reader_33 : decode mX10_reader.2.1 33 = .ok (.iload_n 3, 1) := by decide +kernel
theorem dX10_reader_34 : decode mX10_reader.2.1 34 = .ok (.tableswitch 88 0 5 #[38, 45, 52, 59, 66, 81], 38) := by decide +kernel
theorem dX10_reader_72 : decode mX10_reader.2.1 72 = .ok (.aload_n 0, 1) := by decide +kernel
theorem dX10_reader_73 : decode mX10_reader.2.1 73 = .ok (.getfield 22, 3) := by decide +kernel
theorem dX10_reader_76 : decode mX10_reader.2.1 76 = .ok (.iload_n 2, 1) := by decide +kernel
theorem dX10_reader_77 : decode mX10_reader.2.1 77 = .ok (.iaload, 1) := by decide +kernel
theorem dX10_reader_78 : decode mX10_reader.2.1 78 = .ok (.ireturn, 1) := by decide +kernel
theorem dX10_reader_79 : decode mX10_reader.2.1 79 = .ok (.aload_n 0, 1) := by decide +kernel
theorem dX10_reader_80 : decode mX10_reader.2.1 80 = .ok (.getfield 25, 3) := by decide +kernel
theorem dX10_reader_83 : decode mX10_reader.2.1 83 = .ok (.iload_n 2, 1) := by decide +kernel
theorem dX10_reader_84 : decode mX10_reader.2.1 84 = .ok (.iaload, 1) := by decide +kernel
theorem dX10_reader_85 : decode mX10_reader.2.1 85 = .ok (.ireturn, 1) := by decide +kernel
theorem dX10_reader_86 : decode mX10_reader.2.1 86 = .ok (.aload_n 0, 1) := by decide +kernel
theorem dX10_reader_87 : decode mX10_reader.2.1 87 = .ok (.getfield 28, 3) := by decide +kernel
theorem dX10_reader_90 : decode mX10_reader.2.1 90 = .ok (.iload_n 2, 1) := by decide +kernel
theorem dX10_reader_91 : decode mX10_reader.2.1 91 = .ok (.iaload, 1) := by decide +kernel
theorem dX10_reader_92 : decode mX10_reader.2.1 92 = .ok (.ireturn, 1) := by decide +kernel
theorem dX10_reader_93 : decode mX10_reader.2.1 93 = .ok (.aload_n 0, 1) := by decide +kernel
theorem dX10_reader_94 : decode mX10_reader.2.1 94 = .ok (.getfield 31, 3) := by decide +kernel
theorem dX10_reader_97 : decode mX10_reader.2.1 97 = .ok (.iload_n 2, 1) := by decide +kernel
theorem dX10_reader_98 : decode mX10_reader.2.1 98 = .ok (.iaload, 1) := by decide +kernel
theorem dX10_reader_99 : decode mX10_reader.2.1 99 = .ok (.ireturn, 1) := by decide +kernel
theorem dX10_reader_100 : decode mX10_reader.2.1 100 = .ok (.aload_n 0, 1) := by decide +kernel
theorem dX10_reader_101 : decode mX10_reader.2.1 101 = .ok (.getfield 34, 3) := by decide +kernel
theorem dX10_reader_104 : decode mX10_reader.2.1 104 = .ok (.iload_n 2, 1) := by decide +kernel
theorem dX10_reader_105 : decode mX10_reader.2.1 105 = .ok (.baload, 1) := by decide +kernel
theorem dX10_reader_106 : decode mX10_reader.2.1 106 = .ok (.ifCond .eq 7, 3) := by decide +kernel
theorem dX10_reader_109 : decode mX10_reader.2.1 109 = .ok (.iconst 1, 1) := by decide +kernel
theorem dX10_reader_110 : decode mX10_reader.2.1 110 = .ok (.goto 4, 3) := by decide +kernel
theorem dX10_reader_113 : decode mX10_reader.2.1 113 = .ok (.iconst 0, 1) := by decide +kernel
theorem dX10_reader_114 : decode mX10_reader.2.1 114 = .ok (.ireturn, 1) := by decide +kernel
theorem dX10_reader_115 : decode mX10_reader.2.1 115 = .ok (.aload_n 0, 1) := by decide +kernel
theorem dX10_reader_116 : decode mX10_reader.2.1 116 = .ok (.getfield 38, 3) := by decide +kernel
theorem dX10_reader_119 : decode mX10_reader.2.1 119 = .ok (.iload_n 2, 1) := by decide +kernel
theorem dX10_reader_120 : decode mX10_reader.2.1 120 = .ok (.iaload, 1) := by decide +kernel
theorem dX10_reader_121 : decode mX10_reader.2.1 121 = .ok (.ireturn, 1) := by decide +kernel
theorem dX10_reader_122 : decode mX10_reader.2.1 122 = .ok (.aload_n 0, 1) := by decide +kernel
theorem dX10_reader_123 : decode mX10_reader.2.1 123 = .ok (.getfield 41, 3) := by decide +kernel
theorem dX10_reader_126 : decode mX10_reader.2.1 126 = .ok (.iload_n 2, 1) := by decide +kernel
theorem dX10_reader_127 : decode mX10_reader.2.1 127 = .ok (.iconst 1, 1) := by decide +kernel
theorem dX10_reader_128 : decode mX10_reader.2.1 128 = .ok (.iadd, 1) := by decide +kernel
theorem dX10_reader_129 : decode mX10_reader.2.1 129 = .ok (.iaload, 1) := by decide +kernel
theorem dX10_reader_130 : decode mX10_reader.2.1 130 = .ok (.ireturn, 1) := by decide +kernel
theorem dX10_first_0 : decode mX10_first.2.1 0 = .ok (.aload_n 0, 1) := by decide +kernel
theorem dX10_first_1 : decode mX10_first.2.1 1 = .ok (.iload_n 1, 1) := by decide +kernel
theorem dX10_first_2 : decode mX10_first.2.1 2 = .ok (.invokevirtual 107, 3) := by decide +kernel
theorem dX10_first_5 : decode mX10_first.2.1 5 = .ok (.ifCond .eq 12, 3) := by decide +kernel
theorem dX10_first_8 : decode mX10_first.2.1 8 = .ok (.iload_n 2, 1) := by decide +kernel
theorem dX10_first_9 : decode mX10_first.2.1 9 = .ok (.iconst 0, 1) := by decide +kernel
theorem dX10_first_10 : decode mX10_first.2.1 10 = .ok (.iconst 2, 1) := by decide +kernel
theorem dX10_first_11 : decode mX10_first.2.1 11 = .ok (.invokestatic 97, 3) := by decide +kernel
theorem dX10_first_14 : decode mX10_first.2.1 14 = .ok (.ifCond .ne 6, 3) := by decide +kernel
theorem dX10_first_17 : decode mX10_first.2.1 17 = .ok (.ldc 101, 2) := by decide +kernel
theorem dX10_first_19 : decode mX10_first.2.1 19 = .ok (.ireturn, 1) := by decide +kernel
theorem dX10_first_20 : decode mX10_first.2.1 20 = .ok (.aload_n 0, 1) := by decide +kernel
theorem dX10_first_21 : decode mX10_first.2.1 21 = .ok (.iload_n 1, 1) := by decide +kernel
theorem dX10_first_22 : decode mX10_first.2.1 22 = .ok (.invokevirtual 179, 3) := by decide +kernel
theorem dX10_first_25 : decode mX10_first.2.1 25 = .ok (.iconst 0, 1) := by decide +kernel
theorem dX10_first_26 : decode mX10_first.2.1 26 = .ok (.istore_n 3, 1) := by decide +kernel
theorem dX10_first_27 : decode mX10_first.2.1 27 = .ok (.iload_n 3, 1) := by decide +kernel
theorem dX10_first_28 : decode mX10_first.2.1 28 = .ok (.bipush 31, 2) := by decide +kernel
theorem dX10_first_30 : decode mX10_first.2.1 30 = .ok (.if_icmp .ge 62, 3) := by decide +kernel
theorem dX10_first_33 : decode mX10_first.2.1 33 = .ok (.iload_n 2, 1) := by decide +kernel
theorem dX10_first_34 : decode mX10_first.2.1 34 = .ok (.ifCond .ne 12, 3) := by decide +kernel
theorem dX10_first_37 : decode mX10_first.2.1 37 = .ok (.aload_n 0, 1) := by decide +kernel
theorem dX10_first_38 : decode mX10_first.2.1 38 = .ok (.getfield 34, 3) := by decide +kernel
theorem dX10_first_41 : decode mX10_first.2.1 41 = .ok (.iload_n 3, 1) := by decide +kernel
theorem dX10_first_42 : decode mX10_first.2.1 42 = .ok (.baload, 1) := by decide +kernel
theorem dX10_first_43 : decode mX10_first.2.1 43 = .ok (.ifCond .ne 41, 3) := by decide +kernel
theorem dX10_first_46 : decode mX10_first.2.1 46 = .ok (.iload_n 2, 1) := by decide +kernel
theorem dX10_first_47 : decode mX10_first.2.1 47 = .ok (.iconst 1, 1) := by decide +kernel
theorem dX10_first_48 : decode mX10_first.2.1 48 = .ok (.if_icmp .ne 18, 3) := by decide +kernel
theorem dX10_first_51 : decode mX10_first.2.1 51 = .ok (.aload_n 0, 1) := by decide +kernel
theorem dX10_first_52 : decode mX10_first.2.1 52 = .ok (.getfield 19, 3) := by decide +kernel
theorem dX10_first_55 : decode mX10_first.2.1 55 = .ok (.iload_n 3, 1) := by decide +kernel
theorem dX10_first_56 : decode mX10_first.2.1 56 = .ok (.iaload, 1) := by decide +kernel
theorem dX10_first_57 : decode mX10_first.2.1 57 = .ok (.aload_n 0, 1) := by decide +kernel
theorem dX10_first_58 : decode mX10_first.2.1 58 = .ok (.iload_n 1, 1) := by decide +kernel
theorem dX10_first_59 : decode mX10_first.2.1 59 = .ok (.iconst 4, 1) := by decide +kernel
theorem dX10_first_60 : decode mX10_first.2.1 60 = .ok (.invokevirtual 111, 3) := by decide +kernel
theorem dX10_first_63 : decode mX10_first.2.1 63 = .ok (.if_icmp .gt 21, 3) := by decide +kernel
theorem dX10_first_66 : decode mX10_first.2.1 66 = .ok (.iload_n 2, 1) := by decide +kernel
theorem dX10_first_67 : decode mX10_first.2.1 67 = .ok (.iconst 2, 1) := by decide +kernel
theorem dX10_first_68 : decode mX10_first.2.1 68 = .ok (.if_icmp .ne 18, 3) := by decide +kernel
theorem dX10_first_71 : decode mX10_first.2.1 71 = .ok (.aload_n 0, 1) := by decide +kernel
theorem dX10_first_72 : decode mX10_first.2.1 72 = .ok (.getfield 41, 3) := by decide +kernel
theorem dX10_first_75 : decode mX10_first.2.1 75 = .ok (.iload_n 3, 1) := by decide +kernel
theorem dX10_first_76 : decode mX10_first.2.1 76 = .ok (.iconst 1, 1) := by decide +kernel
theorem dX10_first_77 : decode mX10_first.2.1 77 = .ok (.iadd, 1) := by decide +kernel
theorem dX10_first_78 : decode mX10_first.2.1 78 = .ok (.iaload, 1) := by decide +kernel
theorem dX10_first_79 : decode mX10_first.2.1 79 = .ok (.ldc 182, 2) := by decide +kernel
theorem dX10_first_81 : decode mX10_first.2.1 81 = .ok (.if_icmp .gt 5, 3) := by decide +kernel
theorem dX10_first_84 : decode mX10_first.2.1 84 = .ok (.iload_n 3, 1) := by decide +kernel
theorem dX10_first_85 : decode mX10_first.2.1 85 = .ok (.ireturn, 1) := by decide +kernel
theorem dX10_first_86 : decode mX10_first.2.1 86 = .ok (.iinc 3 1, 3) := by decide +kernel
theorem dX10_first_89 : decode mX10_first.2.1 89 = .ok (.goto (-62), 3) := by decide +kernel
theorem dX10_first_92 : decode mX10_first.2.1 92 = .ok (.ldc 96, 2) := by decide +kernel
theorem dX10_first_94 : decode mX10_first.2.1 94 = .ok (.ireturn, 1) := by decide +kernel
theorem dX10_drawsDay_0 : decode mX10_drawsDay.2.1 0 = .ok (.iconst 0, 1) := by decide +kernel
theorem dX10_drawsDay_1 : decode mX10_drawsDay.2.1 1 = .ok (.istore_n 1, 1) := by decide +kernel
theorem dX10_drawsDay_2 : decode mX10_drawsDay.2.1 2 = .ok (.iload_n 1, 1) := by decide +kernel
theorem dX10_drawsDay_3 : decode mX10_drawsDay.2.1 3 = .ok (.bipush 31, 2) := by decide +kernel
theorem dX10_drawsDay_5 : decode mX10_drawsDay.2.1 5 = .ok (.if_icmp .ge 38, 3) := by decide +kernel
theorem dX10_drawsDay_8 : decode mX10_drawsDay.2.1 8 = .ok (.aload_n 0, 1) := by decide +kernel
theorem dX10_drawsDay_9 : decode mX10_drawsDay.2.1 9 = .ok (.invokevirtual 120, 3) := by decide +kernel
theorem dX10_drawsDay_12 : decode mX10_drawsDay.2.1 12 = .ok (.bipush 100, 2) := by decide +kernel
theorem dX10_drawsDay_14 : decode mX10_drawsDay.2.1 14 = .ok (.irem, 1) := by decide +kernel
theorem dX10_drawsDay_15 : decode mX10_drawsDay.2.1 15 = .ok (.istore_n 2, 1) := by decide +kernel
theorem dX10_drawsDay_16 : decode mX10_drawsDay.2.1 16 = .ok (.iload_n 2, 1) := by decide +kernel
theorem dX10_drawsDay_17 : decode mX10_drawsDay.2.1 17 = .ok (.aload_n 0, 1) := by decide +kernel
theorem dX10_drawsDay_18 : decode mX10_drawsDay.2.1 18 = .ok (.getfield 22, 3) := by decide +kernel
theorem dX10_drawsDay_21 : decode mX10_drawsDay.2.1 21 = .ok (.iload_n 1, 1) := by decide +kernel
theorem dX10_drawsDay_22 : decode mX10_drawsDay.2.1 22 = .ok (.iaload, 1) := by decide +kernel
theorem dX10_drawsDay_23 : decode mX10_drawsDay.2.1 23 = .ok (.if_icmp .lt 14, 3) := by decide +kernel
theorem dX10_drawsDay_26 : decode mX10_drawsDay.2.1 26 = .ok (.aload_n 0, 1) := by decide +kernel
theorem dX10_drawsDay_27 : decode mX10_drawsDay.2.1 27 = .ok (.getfield 34, 3) := by decide +kernel
theorem dX10_drawsDay_30 : decode mX10_drawsDay.2.1 30 = .ok (.iload_n 1, 1) := by decide +kernel
theorem dX10_drawsDay_31 : decode mX10_drawsDay.2.1 31 = .ok (.baload, 1) := by decide +kernel
theorem dX10_drawsDay_32 : decode mX10_drawsDay.2.1 32 = .ok (.ifCond .eq 5, 3) := by decide +kernel
theorem dX10_drawsDay_35 : decode mX10_drawsDay.2.1 35 = .ok (.iload_n 1, 1) := by decide +kernel
theorem dX10_drawsDay_36 : decode mX10_drawsDay.2.1 36 = .ok (.ireturn, 1) := by decide +kernel
theorem dX10_drawsDay_37 : decode mX10_drawsDay.2.1 37 = .ok (.iinc 1 1, 3) := by decide +kernel
theorem dX10_drawsDay_40 : decode mX10_drawsDay.2.1 40 = .ok (.goto (-38), 3) := by decide +kernel
theorem dX10_drawsDay_43 : decode mX10_drawsDay.2.1 43 = .ok (.iconst (-1), 1) := by decide +kernel
theorem dX10_drawsDay_44 : decode mX10_drawsDay.2.1 44 = .ok (.ireturn, 1) := by decide +kernel
theorem dX10_run_0 : decode mX10_run.2.1 0 = .ok (.aload_n 0, 1) := by decide +kernel
theorem dX10_run_1 : decode mX10_run.2.1 1 = .ok (.iload_n 1, 1) := by decide +kernel
theorem dX10_run_2 : decode mX10_run.2.1 2 = .ok (.invokevirtual 107, 3) := by decide +kernel
theorem dX10_run_5 : decode mX10_run.2.1 5 = .ok (.ifCond .ne 6, 3) := by decide +kernel
theorem dX10_run_8 : decode mX10_run.2.1 8 = .ok (.ldc 101, 2) := by decide +kernel
theorem dX10_run_10 : decode mX10_run.2.1 10 = .ok (.ireturn, 1) := by decide +kernel
theorem dX10_run_11 : decode mX10_run.2.1 11 = .ok (.aload_n 0, 1) := by decide +kernel
theorem dX10_run_12 : decode mX10_run.2.1 12 = .ok (.iload_n 1, 1) := by decide +kernel
theorem dX10_run_13 : decode mX10_run.2.1 13 = .ok (.invokevirtual 179, 3) := by decide +kernel
theorem dX10_run_16 : decode mX10_run.2.1 16 = .ok (.aload_n 0, 1) := by decide +kernel
theorem dX10_run_17 : decode mX10_run.2.1 17 = .ok (.invokevirtual 183, 3) := by decide +kernel
theorem dX10_run_20 : decode mX10_run.2.1 20 = .ok (.invokestatic 162, 3) := by decide +kernel
theorem dX10_run_23 : decode mX10_run.2.1 23 = .ok (.ireturn, 1) := by decide +kernel
theorem dX10_year_0 : decode mX10_year.2.1 0 = .ok (.aload_n 0, 1) := by decide +kernel
theorem dX10_year_1 : decode mX10_year.2.1 1 = .ok (.invokevirtual 172, 3) := by decide +kernel
theorem dX10_year_4 : decode mX10_year.2.1 4 = .ok (.iconst 0, 1) := by decide +kernel
theorem dX10_year_5 : decode mX10_year.2.1 5 = .ok (.istore_n 1, 1) := by decide +kernel
theorem dX10_year_6 : decode mX10_year.2.1 6 = .ok (.iconst 0, 1) := by decide +kernel
theorem dX10_year_7 : decode mX10_year.2.1 7 = .ok (.istore_n 2, 1) := by decide +kernel
theorem dX10_year_8 : decode mX10_year.2.1 8 = .ok (.iload_n 2, 1) := by decide +kernel
theorem dX10_year_9 : decode mX10_year.2.1 9 = .ok (.aload_n 0, 1) := by decide +kernel
theorem dX10_year_10 : decode mX10_year.2.1 10 = .ok (.getfield 9, 3) := by decide +kernel
theorem dX10_year_13 : decode mX10_year.2.1 13 = .ok (.iconst 1, 1) := by decide +kernel
theorem dX10_year_14 : decode mX10_year.2.1 14 = .ok (.iaload, 1) := by decide +kernel
theorem dX10_year_15 : decode mX10_year.2.1 15 = .ok (.if_icmp .ge 47, 3) := by decide +kernel
theorem dX10_year_18 : decode mX10_year.2.1 18 = .ok (.aload_n 0, 1) := by decide +kernel
theorem dX10_year_19 : decode mX10_year.2.1 19 = .ok (.iload_n 2, 1) := by decide +kernel
theorem dX10_year_20 : decode mX10_year.2.1 20 = .ok (.invokevirtual 175, 3) := by decide +kernel
theorem dX10_year_23 : decode mX10_year.2.1 23 = .ok (.iconst 0, 1) := by decide +kernel
theorem dX10_year_24 : decode mX10_year.2.1 24 = .ok (.istore_n 3, 1) := by decide +kernel
theorem dX10_year_25 : decode mX10_year.2.1 25 = .ok (.iload_n 3, 1) := by decide +kernel
theorem dX10_year_26 : decode mX10_year.2.1 26 = .ok (.aload_n 0, 1) := by decide +kernel
theorem dX10_year_27 : decode mX10_year.2.1 27 = .ok (.iload_n 2, 1) := by decide +kernel
theorem dX10_year_28 : decode mX10_year.2.1 28 = .ok (.iconst 0, 1) := by decide +kernel
theorem dX10_year_29 : decode mX10_year.2.1 29 = .ok (.invokevirtual 111, 3) := by decide +kernel
theorem dX10_year_32 : decode mX10_year.2.1 32 = .ok (.if_icmp .ge 24, 3) := by decide +kernel
theorem dX10_year_35 : decode mX10_year.2.1 35 = .ok (.iload_n 1, 1) := by decide +kernel
theorem dX10_year_36 : decode mX10_year.2.1 36 = .ok (.aload_n 0, 1) := by decide +kernel
theorem dX10_year_37 : decode mX10_year.2.1 37 = .ok (.invokevirtual 183, 3) := by decide +kernel
theorem dX10_year_40 : decode mX10_year.2.1 40 = .ok (.ifCond .lt 7, 3) := by decide +kernel
theorem dX10_year_43 : decode mX10_year.2.1 43 = .ok (.iconst 1, 1) := by decide +kernel
theorem dX10_year_44 : decode mX10_year.2.1 44 = .ok (.goto 4, 3) := by decide +kernel
theorem dX10_year_47 : decode mX10_year.2.1 47 = .ok (.iconst 0, 1) := by decide +kernel
theorem dX10_year_48 : decode mX10_year.2.1 48 = .ok (.iadd, 1) := by decide +kernel
theorem dX10_year_49 : decode mX10_year.2.1 49 = .ok (.istore_n 1, 1) := by decide +kernel
theorem dX10_year_50 : decode mX10_year.2.1 50 = .ok (.iinc 3 1, 3) := by decide +kernel
theorem dX10_year_53 : decode mX10_year.2.1 53 = .ok (.goto (-28), 3) := by decide +kernel
theorem dX10_year_56 : decode mX10_year.2.1 56 = .ok (.iinc 2 1, 3) := by decide +kernel
theorem dX10_year_59 : decode mX10_year.2.1 59 = .ok (.goto (-51), 3) := by decide +kernel
theorem dX10_year_62 : decode mX10_year.2.1 62 = .ok (.iload_n 1, 1) := by decide +kernel
theorem dX10_year_63 : decode mX10_year.2.1 63 = .ok (.ireturn, 1) := by decide +kernel
theorem dX10_seed_0 : decode mX10_seed.2.1 0 = .ok (.aload_n 0, 1) := by decide +kernel
theorem dX10_seed_1 : decode mX10_seed.2.1 1 = .ok (.getfield 9, 3) := by decide +kernel
theorem dX10_seed_4 : decode mX10_seed.2.1 4 = .ok (.iconst 0, 1) := by decide +kernel
theorem dX10_seed_5 : decode mX10_seed.2.1 5 = .ok (.iaload, 1) := by decide +kernel
theorem dX10_seed_6 : decode mX10_seed.2.1 6 = .ok (.istore_n 2, 1) := by decide +kernel
theorem dX10_seed_7 : decode mX10_seed.2.1 7 = .ok (.aload_n 0, 1) := by decide +kernel
theorem dX10_seed_8 : decode mX10_seed.2.1 8 = .ok (.getfield 9, 3) := by decide +kernel
theorem dX10_seed_11 : decode mX10_seed.2.1 11 = .ok (.iconst 0, 1) := by decide +kernel
theorem dX10_seed_12 : decode mX10_seed.2.1 12 = .ok (.iload_n 1, 1) := by decide +kernel
theorem dX10_seed_13 : decode mX10_seed.2.1 13 = .ok (.iastore, 1) := by decide +kernel
theorem dX10_seed_14 : decode mX10_seed.2.1 14 = .ok (.iload_n 2, 1) := by decide +kernel
theorem dX10_seed_15 : decode mX10_seed.2.1 15 = .ok (.ireturn, 1) := by decide +kernel
theorem dX10_findLibrary_0 : decode mX10_findLibrary.2.1 0 = .ok (.aload_n 0, 1) := by decide +kernel
theorem dX10_findLibrary_1 : decode mX10_findLibrary.2.1 1 = .ok (.invokevirtual 172, 3) := by decide +kernel
theorem dX10_findLibrary_4 : decode mX10_findLibrary.2.1 4 = .ok (.aload_n 0, 1) := by decide +kernel
theorem dX10_findLibrary_5 : decode mX10_findLibrary.2.1 5 = .ok (.lconst 0, 1) := by decide +kernel
theorem dX10_findLibrary_6 : decode mX10_findLibrary.2.1 6 = .ok (.putfield 186, 3) := by decide +kernel
theorem dX10_findLibrary_9 : decode mX10_findLibrary.2.1 9 = .ok (.aload_n 0, 1) := by decide +kernel
theorem dX10_findLibrary_10 : decode mX10_findLibrary.2.1 10 = .ok (.lconst 0, 1) := by decide +kernel
theorem dX10_findLibrary_11 : decode mX10_findLibrary.2.1 11 = .ok (.putfield 190, 3) := by decide +kernel
theorem dX10_findLibrary_14 : decode mX10_findLibrary.2.1 14 = .ok (.aload_n 0, 1) := by decide +kernel
theorem dX10_findLibrary_15 : decode mX10_findLibrary.2.1 15 = .ok (.lconst 0, 1) := by decide +kernel
theorem dX10_findLibrary_16 : decode mX10_findLibrary.2.1 16 = .ok (.putfield 193, 3) := by decide +kernel
theorem dX10_findLibrary_19 : decode mX10_findLibrary.2.1 19 = .ok (.aload_n 0, 1) := by decide +kernel
theorem dX10_findLibrary_20 : decode mX10_findLibrary.2.1 20 = .ok (.lconst 0, 1) := by decide +kernel
theorem dX10_findLibrary_21 : decode mX10_findLibrary.2.1 21 = .ok (.putfield 196, 3) := by decide +kernel
theorem dX10_findLibrary_24 : decode mX10_findLibrary.2.1 24 = .ok (.iconst 0, 1) := by decide +kernel
theorem dX10_findLibrary_25 : decode mX10_findLibrary.2.1 25 = .ok (.istore_n 1, 1) := by decide +kernel
theorem dX10_findLibrary_26 : decode mX10_findLibrary.2.1 26 = .ok (.iload_n 1, 1) := by decide +kernel
theorem dX10_findLibrary_27 : decode mX10_findLibrary.2.1 27 = .ok (.aload_n 0, 1) := by decide +kernel
theorem dX10_findLibrary_28 : decode mX10_findLibrary.2.1 28 = .ok (.getfield 9, 3) := by decide +kernel
theorem dX10_findLibrary_31 : decode mX10_findLibrary.2.1 31 = .ok (.iconst 1, 1) := by decide +kernel
theorem dX10_findLibrary_32 : decode mX10_findLibrary.2.1 32 = .ok (.iaload, 1) := by decide +kernel
theorem dX10_findLibrary_33 : decode mX10_findLibrary.2.1 33 = .ok (.if_icmp .ge 142, 3) := by decide +kernel
theorem dX10_findLibrary_36 : decode mX10_findLibrary.2.1 36 = .ok (.aload_n 0, 1) := by decide +kernel
theorem dX10_findLibrary_37 : decode mX10_findLibrary.2.1 37 = .ok (.iload_n 1, 1) := by decide +kernel
theorem dX10_findLibrary_38 : decode mX10_findLibrary.2.1 38 = .ok (.invokevirtual 175, 3) := by decide +kernel
theorem dX10_findLibrary_41 : decode mX10_findLibrary.2.1 41 = .ok (.aload_n 0, 1) := by decide +kernel
theorem dX10_findLibrary_42 : decode mX10_findLibrary.2.1 42 = .ok (.iload_n 1, 1) := by decide +kernel
theorem dX10_findLibrary_43 : decode mX10_findLibrary.2.1 43 = .ok (.iconst 0, 1) := by decide +kernel
theorem dX10_findLibrary_44 : decode mX10_findLibrary.2.1 44 = .ok (.invokevirtual 111, 3) := by decide +kernel
theorem dX10_findLibrary_47 : decode mX10_findLibrary.2.1 47 = .ok (.i2l, 1) := by decide +kernel
theorem dX10_findLibrary_48 : decode mX10_findLibrary.2.1 48 = .ok (.lstore_n 2, 1) := by decide +kernel
theorem dX10_findLibrary_49 : decode mX10_findLibrary.2.1 49 = .ok (.iconst 0, 1) := by decide +kernel
theorem dX10_findLibrary_50 : decode mX10_findLibrary.2.1 50 = .ok (.istore 4, 2) := by decide +kernel
theorem dX10_findLibrary_52 : decode mX10_findLibrary.2.1 52 = .ok (.iload 4, 2) := by decide +kernel
theorem dX10_findLibrary_54 : decode mX10_findLibrary.2.1 54 = .ok (.bipush 31, 2) := by decide +kernel
theorem dX10_findLibrary_56 : decode mX10_findLibrary.2.1 56 = .ok (.if_icmp .ge 58, 3) := by decide +kernel
theorem dX10_findLibrary_59 : decode mX10_findLibrary.2.1 59 = .ok (.aload_n 0, 1) := by decide +kernel
theorem dX10_findLibrary_60 : decode mX10_findLibrary.2.1 60 = .ok (.dup, 1) := by decide +kernel
theorem dX10_findLibrary_61 : decode mX10_findLibrary.2.1 61 = .ok (.getfield 186, 3) := by decide +kernel
theorem dX10_findLibrary_64 : decode mX10_findLibrary.2.1 64 = .ok (.lload_n 2, 1) := by decide +kernel
theorem dX10_findLibrary_65 : decode mX10_findLibrary.2.1 65 = .ok (.aload_n 0, 1) := by decide +kernel
theorem dX10_findLibrary_66 : decode mX10_findLibrary.2.1 66 = .ok (.getfield 41, 3) := by decide +kernel
theorem dX10_findLibrary_69 : decode mX10_findLibrary.2.1 69 = .ok (.iload 4, 2) := by decide +kernel
theorem dX10_findLibrary_71 : decode mX10_findLibrary.2.1 71 = .ok (.iconst 1, 1) := by decide +kernel
theorem dX10_findLibrary_72 : decode mX10_findLibrary.2.1 72 = .ok (.iadd, 1) := by decide +kernel
theorem dX10_findLibrary_73 : decode mX10_findLibrary.2.1 73 = .ok (.iaload, 1) := by decide +kernel
theorem dX10_findLibrary_74 : decode mX10_findLibrary.2.1 74 = .ok (.i2l, 1) := by decide +kernel
theorem dX10_findLibrary_75 : decode mX10_findLibrary.2.1 75 = .ok (.lmul, 1) := by decide +kernel
theorem dX10_findLibrary_76 : decode mX10_findLibrary.2.1 76 = .ok (.ladd, 1) := by decide +kernel
theorem dX10_findLibrary_77 : decode mX10_findLibrary.2.1 77 = .ok (.putfield 186, 3) := by decide +kernel
theorem dX10_findLibrary_80 : decode mX10_findLibrary.2.1 80 = .ok (.aload_n 0, 1) := by decide +kernel
theorem dX10_findLibrary_81 : decode mX10_findLibrary.2.1 81 = .ok (.dup, 1) := by decide +kernel
theorem dX10_findLibrary_82 : decode mX10_findLibrary.2.1 82 = .ok (.getfield 190, 3) := by decide +kernel
theorem dX10_findLibrary_85 : decode mX10_findLibrary.2.1 85 = .ok (.lload_n 2, 1) := by decide +kernel
theorem dX10_findLibrary_86 : decode mX10_findLibrary.2.1 86 = .ok (.aload_n 0, 1) := by decide +kernel
theorem dX10_findLibrary_87 : decode mX10_findLibrary.2.1 87 = .ok (.getfield 38, 3) := by decide +kernel
theorem dX10_findLibrary_90 : decode mX10_findLibrary.2.1 90 = .ok (.iload 4, 2) := by decide +kernel
theorem dX10_findLibrary_92 : decode mX10_findLibrary.2.1 92 = .ok (.iaload, 1) := by decide +kernel
theorem dX10_findLibrary_93 : decode mX10_findLibrary.2.1 93 = .ok (.i2l, 1) := by decide +kernel
theorem dX10_findLibrary_94 : decode mX10_findLibrary.2.1 94 = .ok (.lmul, 1) := by decide +kernel
theorem dX10_findLibrary_95 : decode mX10_findLibrary.2.1 95 = .ok (.aload_n 0, 1) := by decide +kernel
theorem dX10_findLibrary_96 : decode mX10_findLibrary.2.1 96 = .ok (.getfield 19, 3) := by decide +kernel
theorem dX10_findLibrary_99 : decode mX10_findLibrary.2.1 99 = .ok (.iload 4, 2) := by decide +kernel
theorem dX10_findLibrary_101 : decode mX10_findLibrary.2.1 101 = .ok (.iaload, 1) := by decide +kernel
theorem dX10_findLibrary_102 : decode mX10_findLibrary.2.1 102 = .ok (.i2l, 1) := by decide +kernel
theorem dX10_findLibrary_103 : decode mX10_findLibrary.2.1 103 = .ok (.lmul, 1) := by decide +kernel
theorem dX10_findLibrary_104 : decode mX10_findLibrary.2.1 104 = .ok (.ladd, 1) := by decide +kernel
theorem dX10_findLibrary_105 : decode mX10_findLibrary.2.1 105 = .ok (.putfield 190, 3) := by decide +kernel
theorem dX10_findLibrary_108 : decode mX10_findLibrary.2.1 108 = .ok (.iinc 4 1, 3) := by decide +kernel
theorem dX10_findLibrary_111 : decode mX10_findLibrary.2.1 111 = .ok (.goto (-59), 3) := by decide +kernel
theorem dX10_findLibrary_114 : decode mX10_findLibrary.2.1 114 = .ok (.aload_n 0, 1) := by decide +kernel
theorem dX10_findLibrary_115 : decode mX10_findLibrary.2.1 115 = .ok (.dup, 1) := by decide +kernel
theorem dX10_findLibrary_116 : decode mX10_findLibrary.2.1 116 = .ok (.getfield 193, 3) := by decide +kernel
theorem dX10_findLibrary_119 : decode mX10_findLibrary.2.1 119 = .ok (.lload_n 2, 1) := by decide +kernel
theorem dX10_findLibrary_120 : decode mX10_findLibrary.2.1 120 = .ok (.aload_n 0, 1) := by decide +kernel
theorem dX10_findLibrary_121 : decode mX10_findLibrary.2.1 121 = .ok (.getfield 41, 3) := by decide +kernel
theorem dX10_findLibrary_124 : decode mX10_findLibrary.2.1 124 = .ok (.bipush 31, 2) := by decide +kernel
theorem dX10_findLibrary_126 : decode mX10_findLibrary.2.1 126 = .ok (.iaload, 1) := by decide +kernel
theorem dX10_findLibrary_127 : decode mX10_findLibrary.2.1 127 = .ok (.i2l, 1) := by decide +kernel
theorem dX10_findLibrary_128 : decode mX10_findLibrary.2.1 128 = .ok (.lmul, 1) := by decide +kernel
theorem dX10_findLibrary_129 : decode mX10_findLibrary.2.1 129 = .ok (.ladd, 1) := by decide +kernel
theorem dX10_findLibrary_130 : decode mX10_findLibrary.2.1 130 = .ok (.putfield 193, 3) := by decide +kernel
theorem dX10_findLibrary_133 : decode mX10_findLibrary.2.1 133 = .ok (.aload_n 0, 1) := by decide +kernel
theorem dX10_findLibrary_134 : decode mX10_findLibrary.2.1 134 = .ok (.dup, 1) := by decide +kernel
theorem dX10_findLibrary_135 : decode mX10_findLibrary.2.1 135 = .ok (.getfield 196, 3) := by decide +kernel
theorem dX10_findLibrary_138 : decode mX10_findLibrary.2.1 138 = .ok (.aload_n 0, 1) := by decide +kernel
theorem dX10_findLibrary_139 : decode mX10_findLibrary.2.1 139 = .ok (.getfield 9, 3) := by decide +kernel
theorem dX10_findLibrary_142 : decode mX10_findLibrary.2.1 142 = .ok (.iconst 4, 1) := by decide +kernel
theorem dX10_findLibrary_143 : decode mX10_findLibrary.2.1 143 = .ok (.iaload, 1) := by decide +kernel
theorem dX10_findLibrary_144 : decode mX10_findLibrary.2.1 144 = .ok (.ifCond .ge 7, 3) := by decide +kernel
theorem dX10_findLibrary_147 : decode mX10_findLibrary.2.1 147 = .ok (.lconst 0, 1) := by decide +kernel
theorem dX10_findLibrary_148 : decode mX10_findLibrary.2.1 148 = .ok (.goto 17, 3) := by decide +kernel
theorem dX10_findLibrary_151 : decode mX10_findLibrary.2.1 151 = .ok (.lload_n 2, 1) := by decide +kernel
theorem dX10_findLibrary_152 : decode mX10_findLibrary.2.1 152 = .ok (.aload_n 0, 1) := by decide +kernel
theorem dX10_findLibrary_153 : decode mX10_findLibrary.2.1 153 = .ok (.getfield 41, 3) := by decide +kernel
theorem dX10_findLibrary_156 : decode mX10_findLibrary.2.1 156 = .ok (.aload_n 0, 1) := by decide +kernel
theorem dX10_findLibrary_157 : decode mX10_findLibrary.2.1 157 = .ok (.getfield 9, 3) := by decide +kernel
theorem dX10_findLibrary_160 : decode mX10_findLibrary.2.1 160 = .ok (.iconst 4, 1) := by decide +kernel
theorem dX10_findLibrary_161 : decode mX10_findLibrary.2.1 161 = .ok (.iaload, 1) := by decide +kernel
theorem dX10_findLibrary_162 : decode mX10_findLibrary.2.1 162 = .ok (.iaload, 1) := by decide +kernel
theorem dX10_findLibrary_163 : decode mX10_findLibrary.2.1 163 = .ok (.i2l, 1) := by decide +kernel
theorem dX10_findLibrary_164 : decode mX10_findLibrary.2.1 164 = .ok (.lmul, 1) := by decide +kernel
theorem dX10_findLibrary_165 : decode mX10_findLibrary.2.1 165 = .ok (.ladd, 1) := by decide +kernel
theorem dX10_findLibrary_166 : decode mX10_findLibrary.2.1 166 = .ok (.putfield 196, 3) := by decide +kernel
theorem dX10_findLibrary_169 : decode mX10_findLibrary.2.1 169 = .ok (.iinc 1 1, 3) := by decide +kernel
theorem dX10_findLibrary_172 : decode mX10_findLibrary.2.1 172 = .ok (.goto (-146), 3) := by decide +kernel
theorem dX10_findLibrary_175 : decode mX10_findLibrary.2.1 175 = .ok (.return_, 1) := by decide +kernel
theorem dX10_library_0 : decode mX10_library.2.1 0 = .ok (.iload_n 1, 1) := by decide +kernel
theorem dX10_library_1 : decode mX10_library.2.1 1 = .ok (.iconst 0, 1) := by decide +kernel
theorem dX10_library_2 : decode mX10_library.2.1 2 = .ok (.iconst 3, 1) := by decide +kernel
theorem dX10_library_3 : decode mX10_library.2.1 3 = .ok (.invokestatic 97, 3) := by decide +kernel
theorem dX10_library_6 : decode mX10_library.2.1 6 = .ok (.ifCond .ne 7, 3) := by decide +kernel
theorem dX10_library_9 : decode mX10_library.2.1 9 = .ok (.ldc2_w 199, 3) := by decide +kernel
theorem dX10_library_12 : decode mX10_library.2.1 12 = .ok (.lreturn, 1) := by decide +kernel
theorem dX10_library_13 : decode mX10_library.2.1 13 = .ok (.aload_n 0, 1) := by decide +kernel
theorem dX10_library_14 : decode mX10_library.2.1 14 = .ok (.invokevirtual 201, 3) := by decide +kernel
theorem dX10_library_17 : decode mX10_library.2.1 17 = .ok (.iload_n 1, 1) := by decide +kernel
theorem dX10_library_18 : decode mX10_library.2.1 18 = .ok (.ifCond .ne 10, 3) := by decide +kernel
theorem dX10_library_21 : decode mX10_library.2.1 21 = .ok (.aload_n 0, 1) := by decide +kernel
theorem dX10_library_22 : decode mX10_library.2.1 22 = .ok (.getfield 186, 3) := by decide +kernel
theorem dX10_library_25 : decode mX10_library.2.1 25 = .ok (.goto 31, 3) := by decide +kernel
theorem dX10_library_28 : decode mX10_library.2.1 28 = .ok (.iload_n 1, 1) := by decide +kernel
theorem dX10_library_29 : decode mX10_library.2.1 29 = .ok (.iconst 1, 1) := by decide +kernel
theorem dX10_library_30 : decode mX10_library.2.1 30 = .ok (.if_icmp .ne 10, 3) := by decide +kernel
theorem dX10_library_33 : decode mX10_library.2.1 33 = .ok (.aload_n 0, 1) := by decide +kernel
theorem dX10_library_34 : decode mX10_library.2.1 34 = .ok (.getfield 190, 3) := by decide +kernel
theorem dX10_library_37 : decode mX10_library.2.1 37 = .ok (.goto 19, 3) := by decide +kernel
theorem dX10_library_40 : decode mX10_library.2.1 40 = .ok (.iload_n 1, 1) := by decide +kernel
theorem dX10_library_41 : decode mX10_library.2.1 41 = .ok (.iconst 2, 1) := by decide +kernel
theorem dX10_library_42 : decode mX10_library.2.1 42 = .ok (.if_icmp .ne 10, 3) := by decide +kernel
theorem dX10_library_45 : decode mX10_library.2.1 45 = .ok (.aload_n 0, 1) := by decide +kernel
theorem dX10_library_46 : decode mX10_library.2.1 46 = .ok (.getfield 193, 3) := by decide +kernel
theorem dX10_library_49 : decode mX10_library.2.1 49 = .ok (.goto 7, 3) := by decide +kernel
theorem dX10_library_52 : decode mX10_library.2.1 52 = .ok (.aload_n 0, 1) := by decide +kernel
theorem dX10_library_53 : decode mX10_library.2.1 53 = .ok (.getfield 196, 3) := by decide +kernel
theorem dX10_library_56 : decode mX10_library.2.1 56 = .ok (.lreturn, 1) := by decide +kernel
theorem dX10_find_0 : decode mX10_find.2.1 0 = .ok (.aload_n 0, 1) := by decide +kernel
theorem dX10_find_1 : decode mX10_find.2.1 1 = .ok (.getfield 9, 3) := by decide +kernel
theorem dX10_find_4 : decode mX10_find.2.1 4 = .ok (.iconst 3, 1) := by decide +kernel
theorem dX10_find_5 : decode mX10_find.2.1 5 = .ok (.iaload, 1) := by decide +kernel
theorem dX10_find_6 : decode mX10_find.2.1 6 = .ok (.ifCond .ge 6, 3) := by decide +kernel
theorem dX10_find_9 : decode mX10_find.2.1 9 = .ok (.ldc 204, 2) := by decide +kernel
theorem dX10_find_11 : decode mX10_find.2.1 11 = .ok (.ireturn, 1) := by decide +kernel
theorem dX10_find_12 : decode mX10_find.2.1 12 = .ok (.bipush 48, 2) := by decide +kernel
theorem dX10_find_14 : decode mX10_find.2.1 14 = .ok (.iconst 4, 1) := by decide +kernel
theorem dX10_find_15 : decode mX10_find.2.1 15 = .ok (.aload_n 0, 1) := by decide +kernel
theorem dX10_find_16 : decode mX10_find.2.1 16 = .ok (.getfield 9, 3) := by decide +kernel
theorem dX10_find_19 : decode mX10_find.2.1 19 = .ok (.iconst 3, 1) := by decide +kernel
theorem dX10_find_20 : decode mX10_find.2.1 20 = .ok (.iaload, 1) := by decide +kernel
theorem dX10_find_21 : decode mX10_find.2.1 21 = .ok (.imul, 1) := by decide +kernel
theorem dX10_find_22 : decode mX10_find.2.1 22 = .ok (.iadd, 1) := by decide +kernel
theorem dX10_find_23 : decode mX10_find.2.1 23 = .ok (.iconst 1, 1) := by decide +kernel
theorem dX10_find_24 : decode mX10_find.2.1 24 = .ok (.iadd, 1) := by decide +kernel
theorem dX10_find_25 : decode mX10_find.2.1 25 = .ok (.istore_n 1, 1) := by decide +kernel
theorem dX10_find_26 : decode mX10_find.2.1 26 = .ok (.aload_n 0, 1) := by decide +kernel
theorem dX10_find_27 : decode mX10_find.2.1 27 = .ok (.getfield 9, 3) := by decide +kernel
theorem dX10_find_30 : decode mX10_find.2.1 30 = .ok (.iload_n 1, 1) := by decide +kernel
theorem dX10_find_31 : decode mX10_find.2.1 31 = .ok (.iaload, 1) := by decide +kernel
theorem dX10_find_32 : decode mX10_find.2.1 32 = .ok (.istore_n 2, 1) := by decide +kernel
theorem dX10_find_33 : decode mX10_find.2.1 33 = .ok (.iconst 0, 1) := by decide +kernel
theorem dX10_find_34 : decode mX10_find.2.1 34 = .ok (.istore_n 3, 1) := by decide +kernel
theorem dX10_find_35 : decode mX10_find.2.1 35 = .ok (.ldc2_w 205, 3) := by decide +kernel
theorem dX10_find_38 : decode mX10_find.2.1 38 = .ok (.lstore 4, 2) := by decide +kernel
theorem dX10_find_40 : decode mX10_find.2.1 40 = .ok (.iconst 0, 1) := by decide +kernel
theorem dX10_find_41 : decode mX10_find.2.1 41 = .ok (.istore 6, 2) := by decide +kernel
theorem dX10_find_43 : decode mX10_find.2.1 43 = .ok (.iload 6, 2) := by decide +kernel
theorem dX10_find_45 : decode mX10_find.2.1 45 = .ok (.bipush 40, 2) := by decide +kernel
theorem dX10_find_47 : decode mX10_find.2.1 47 = .ok (.if_icmp .gt 73, 3) := by decide +kernel
theorem dX10_find_50 : decode mX10_find.2.1 50 = .ok (.aload_n 0, 1) := by decide +kernel
theorem dX10_find_51 : decode mX10_find.2.1 51 = .ok (.getfield 9, 3) := by decide +kernel
theorem dX10_find_54 : decode mX10_find.2.1 54 = .ok (.iload_n 1, 1) := by decide +kernel
theorem dX10_find_55 : decode mX10_find.2.1 55 = .ok (.iload 6, 2) := by decide +kernel
theorem dX10_find_57 : decode mX10_find.2.1 57 = .ok (.iastore, 1) := by decide +kernel
theorem dX10_find_58 : decode mX10_find.2.1 58 = .ok (.aload_n 0, 1) := by decide +kernel
theorem dX10_find_59 : decode mX10_find.2.1 59 = .ok (.invokevirtual 201, 3) := by decide +kernel
theorem dX10_find_62 : decode mX10_find.2.1 62 = .ok (.lload 4, 2) := by decide +kernel
theorem dX10_find_64 : decode mX10_find.2.1 64 = .ok (.lconst 0, 1) := by decide +kernel
theorem dX10_find_65 : decode mX10_find.2.1 65 = .ok (.lcmp, 1) := by decide +kernel
theorem dX10_find_66 : decode mX10_find.2.1 66 = .ok (.ifCond .lt 13, 3) := by decide +kernel
theorem dX10_find_69 : decode mX10_find.2.1 69 = .ok (.aload_n 0, 1) := by decide +kernel
theorem dX10_find_70 : decode mX10_find.2.1 70 = .ok (.getfield 186, 3) := by decide +kernel
theorem dX10_find_73 : decode mX10_find.2.1 73 = .ok (.lload 4, 2) := by decide +kernel
theorem dX10_find_75 : decode mX10_find.2.1 75 = .ok (.lcmp, 1) := by decide +kernel
theorem dX10_find_76 : decode mX10_find.2.1 76 = .ok (.ifCond .ge 8, 3) := by decide +kernel
theorem dX10_find_79 : decode mX10_find.2.1 79 = .ok (.iload 6, 2) := by decide +kernel
theorem dX10_find_81 : decode mX10_find.2.1 81 = .ok (.goto 4, 3) := by decide +kernel
theorem dX10_find_84 : decode mX10_find.2.1 84 = .ok (.iload_n 3, 1) := by decide +kernel
theorem dX10_find_85 : decode mX10_find.2.1 85 = .ok (.istore_n 3, 1) := by decide +kernel
theorem dX10_find_86 : decode mX10_find.2.1 86 = .ok (.lload 4, 2) := by decide +kernel
theorem dX10_find_88 : decode mX10_find.2.1 88 = .ok (.lconst 0, 1) := by decide +kernel
theorem dX10_find_89 : decode mX10_find.2.1 89 = .ok (.lcmp, 1) := by decide +kernel
theorem dX10_find_90 : decode mX10_find.2.1 90 = .ok (.ifCond .lt 13, 3) := by decide +kernel
theorem dX10_find_93 : decode mX10_find.2.1 93 = .ok (.aload_n 0, 1) := by decide +kernel
theorem dX10_find_94 : decode mX10_find.2.1 94 = .ok (.getfield 186, 3) := by decide +kernel
theorem dX10_find_97 : decode mX10_find.2.1 97 = .ok (.lload 4, 2) := by decide +kernel
theorem dX10_find_99 : decode mX10_find.2.1 99 = .ok (.lcmp, 1) := by decide +kernel
theorem dX10_find_100 : decode mX10_find.2.1 100 = .ok (.ifCond .ge 10, 3) := by decide +kernel
theorem dX10_find_103 : decode mX10_find.2.1 103 = .ok (.aload_n 0, 1) := by decide +kernel
theorem dX10_find_104 : decode mX10_find.2.1 104 = .ok (.getfield 186, 3) := by decide +kernel
theorem dX10_find_107 : decode mX10_find.2.1 107 = .ok (.goto 5, 3) := by decide +kernel
theorem dX10_find_110 : decode mX10_find.2.1 110 = .ok (.lload 4, 2) := by decide +kernel
theorem dX10_find_112 : decode mX10_find.2.1 112 = .ok (.lstore 4, 2) := by decide +kernel
theorem dX10_find_114 : decode mX10_find.2.1 114 = .ok (.iinc 6 1, 3) := by decide +kernel
theorem dX10_find_117 : decode mX10_find.2.1 117 = .ok (.goto (-74), 3) := by decide +kernel
theorem dX10_find_120 : decode mX10_find.2.1 120 = .ok (.aload_n 0, 1) := by decide +kernel
theorem dX10_find_121 : decode mX10_find.2.1 121 = .ok (.getfield 9, 3) := by decide +kernel
theorem dX10_find_124 : decode mX10_find.2.1 124 = .ok (.iload_n 1, 1) := by decide +kernel
theorem dX10_find_125 : decode mX10_find.2.1 125 = .ok (.iload_n 2, 1) := by decide +kernel
theorem dX10_find_126 : decode mX10_find.2.1 126 = .ok (.iastore, 1) := by decide +kernel
theorem dX10_find_127 : decode mX10_find.2.1 127 = .ok (.iload_n 3, 1) := by decide +kernel
theorem dX10_find_128 : decode mX10_find.2.1 128 = .ok (.ireturn, 1) := by decide +kernel
theorem dX10_edge_0 : decode mX10_edge.2.1 0 = .ok (.aload_n 0, 1) := by decide +kernel
theorem dX10_edge_1 : decode mX10_edge.2.1 1 = .ok (.iload_n 1, 1) := by decide +kernel
theorem dX10_edge_2 : decode mX10_edge.2.1 2 = .ok (.invokevirtual 107, 3) := by decide +kernel
theorem dX10_edge_5 : decode mX10_edge.2.1 5 = .ok (.ifCond .ne 6, 3) := by decide +kernel
theorem dX10_edge_8 : decode mX10_edge.2.1 8 = .ok (.ldc 101, 2) := by decide +kernel
theorem dX10_edge_10 : decode mX10_edge.2.1 10 = .ok (.ireturn, 1) := by decide +kernel
theorem dX10_edge_11 : decode mX10_edge.2.1 11 = .ok (.aload_n 0, 1) := by decide +kernel
theorem dX10_edge_12 : decode mX10_edge.2.1 12 = .ok (.getfield 9, 3) := by decide +kernel
theorem dX10_edge_15 : decode mX10_edge.2.1 15 = .ok (.iconst 3, 1) := by decide +kernel
theorem dX10_edge_16 : decode mX10_edge.2.1 16 = .ok (.iaload, 1) := by decide +kernel
theorem dX10_edge_17 : decode mX10_edge.2.1 17 = .ok (.ifCond .ge 6, 3) := by decide +kernel
theorem dX10_edge_20 : decode mX10_edge.2.1 20 = .ok (.ldc 204, 2) := by decide +kernel
theorem dX10_edge_22 : decode mX10_edge.2.1 22 = .ok (.ireturn, 1) := by decide +kernel
theorem dX10_edge_23 : decode mX10_edge.2.1 23 = .ok (.bipush 48, 2) := by decide +kernel
theorem dX10_edge_25 : decode mX10_edge.2.1 25 = .ok (.iconst 4, 1) := by decide +kernel
theorem dX10_edge_26 : decode mX10_edge.2.1 26 = .ok (.aload_n 0, 1) := by decide +kernel
theorem dX10_edge_27 : decode mX10_edge.2.1 27 = .ok (.getfield 9, 3) := by decide +kernel
theorem dX10_edge_30 : decode mX10_edge.2.1 30 = .ok (.iconst 3, 1) := by decide +kernel
theorem dX10_edge_31 : decode mX10_edge.2.1 31 = .ok (.iaload, 1) := by decide +kernel
theorem dX10_edge_32 : decode mX10_edge.2.1 32 = .ok (.imul, 1) := by decide +kernel
theorem dX10_edge_33 : decode mX10_edge.2.1 33 = .ok (.iadd, 1) := by decide +kernel
theorem dX10_edge_34 : decode mX10_edge.2.1 34 = .ok (.iconst 1, 1) := by decide +kernel
theorem dX10_edge_35 : decode mX10_edge.2.1 35 = .ok (.iadd, 1) := by decide +kernel
theorem dX10_edge_36 : decode mX10_edge.2.1 36 = .ok (.istore_n 2, 1) := by decide +kernel
theorem dX10_edge_37 : decode mX10_edge.2.1 37 = .ok (.aload_n 0, 1) := by decide +kernel
theorem dX10_edge_38 : decode mX10_edge.2.1 38 = .ok (.getfield 9, 3) := by decide +kernel
theorem dX10_edge_41 : decode mX10_edge.2.1 41 = .ok (.iload_n 2, 1) := by decide +kernel
theorem dX10_edge_42 : decode mX10_edge.2.1 42 = .ok (.iaload, 1) := by decide +kernel
theorem dX10_edge_43 : decode mX10_edge.2.1 43 = .ok (.istore_n 3, 1) := by decide +kernel
theorem dX10_edge_44 : decode mX10_edge.2.1 44 = .ok (.ldc 96, 2) := by decide +kernel
theorem dX10_edge_46 : decode mX10_edge.2.1 46 = .ok (.istore 4, 2) := by decide +kernel
theorem dX10_edge_48 : decode mX10_edge.2.1 48 = .ok (.iconst 0, 1) := by decide +kernel
theorem dX10_edge_49 : decode mX10_edge.2.1 49 = .ok (.istore 5, 2) := by decide +kernel
theorem dX10_edge_51 : decode mX10_edge.2.1 51 = .ok (.iconst 0, 1) := by decide +kernel
theorem dX10_edge_52 : decode mX10_edge.2.1 52 = .ok (.istore 6, 2) := by decide +kernel
theorem dX10_edge_54 : decode mX10_edge.2.1 54 = .ok (.iload 6, 2) := by decide +kernel
theorem dX10_edge_56 : decode mX10_edge.2.1 56 = .ok (.bipush 100, 2) := by decide +kernel
theorem dX10_edge_58 : decode mX10_edge.2.1 58 = .ok (.if_icmp .ge 69, 3) := by decide +kernel
theorem dX10_edge_61 : decode mX10_edge.2.1 61 = .ok (.iload 4, 2) := by decide +kernel
theorem dX10_edge_63 : decode mX10_edge.2.1 63 = .ok (.ldc 96, 2) := by decide +kernel
theorem dX10_edge_65 : decode mX10_edge.2.1 65 = .ok (.if_icmp .ne 62, 3) := by decide +kernel
theorem dX10_edge_68 : decode mX10_edge.2.1 68 = .ok (.aload_n 0, 1) := by decide +kernel
theorem dX10_edge_69 : decode mX10_edge.2.1 69 = .ok (.getfield 9, 3) := by decide +kernel
theorem dX10_edge_72 : decode mX10_edge.2.1 72 = .ok (.iload_n 2, 1) := by decide +kernel
theorem dX10_edge_73 : decode mX10_edge.2.1 73 = .ok (.iload 6, 2) := by decide +kernel
theorem dX10_edge_75 : decode mX10_edge.2.1 75 = .ok (.iastore, 1) := by decide +kernel
theorem dX10_edge_76 : decode mX10_edge.2.1 76 = .ok (.aload_n 0, 1) := by decide +kernel
theorem dX10_edge_77 : decode mX10_edge.2.1 77 = .ok (.iload_n 1, 1) := by decide +kernel
theorem dX10_edge_78 : decode mX10_edge.2.1 78 = .ok (.invokevirtual 179, 3) := by decide +kernel
theorem dX10_edge_81 : decode mX10_edge.2.1 81 = .ok (.iload 6, 2) := by decide +kernel
theorem dX10_edge_83 : decode mX10_edge.2.1 83 = .ok (.ifCond .ne 13, 3) := by decide +kernel
theorem dX10_edge_86 : decode mX10_edge.2.1 86 = .ok (.aload_n 0, 1) := by decide +kernel
theorem dX10_edge_87 : decode mX10_edge.2.1 87 = .ok (.getfield 41, 3) := by decide +kernel
theorem dX10_edge_90 : decode mX10_edge.2.1 90 = .ok (.bipush 31, 2) := by decide +kernel
theorem dX10_edge_92 : decode mX10_edge.2.1 92 = .ok (.iaload, 1) := by decide +kernel
theorem dX10_edge_93 : decode mX10_edge.2.1 93 = .ok (.goto 5, 3) := by decide +kernel
theorem dX10_edge_96 : decode mX10_edge.2.1 96 = .ok (.iload 5, 2) := by decide +kernel
theorem dX10_edge_98 : decode mX10_edge.2.1 98 = .ok (.istore 5, 2) := by decide +kernel
theorem dX10_edge_100 : decode mX10_edge.2.1 100 = .ok (.aload_n 0, 1) := by decide +kernel
theorem dX10_edge_101 : decode mX10_edge.2.1 101 = .ok (.getfield 41, 3) := by decide +kernel
theorem dX10_edge_104 : decode mX10_edge.2.1 104 = .ok (.bipush 31, 2) := by decide +kernel
theorem dX10_edge_106 : decode mX10_edge.2.1 106 = .ok (.iaload, 1) := by decide +kernel
theorem dX10_edge_107 : decode mX10_edge.2.1 107 = .ok (.iload 5, 2) := by decide +kernel
theorem dX10_edge_109 : decode mX10_edge.2.1 109 = .ok (.if_icmp .le 8, 3) := by decide +kernel
theorem dX10_edge_112 : decode mX10_edge.2.1 112 = .ok (.iload 6, 2) := by decide +kernel
theorem dX10_edge_114 : decode mX10_edge.2.1 114 = .ok (.goto 5, 3) := by decide +kernel
theorem dX10_edge_117 : decode mX10_edge.2.1 117 = .ok (.ldc 96, 2) := by decide +kernel
theorem dX10_edge_119 : decode mX10_edge.2.1 119 = .ok (.istore 4, 2) := by decide +kernel
theorem dX10_edge_121 : decode mX10_edge.2.1 121 = .ok (.iinc 6 1, 3) := by decide +kernel
theorem dX10_edge_124 : decode mX10_edge.2.1 124 = .ok (.goto (-70), 3) := by decide +kernel
theorem dX10_edge_127 : decode mX10_edge.2.1 127 = .ok (.aload_n 0, 1) := by decide +kernel
theorem dX10_edge_128 : decode mX10_edge.2.1 128 = .ok (.getfield 9, 3) := by decide +kernel
theorem dX10_edge_131 : decode mX10_edge.2.1 131 = .ok (.iload_n 2, 1) := by decide +kernel
theorem dX10_edge_132 : decode mX10_edge.2.1 132 = .ok (.iload_n 3, 1) := by decide +kernel
theorem dX10_edge_133 : decode mX10_edge.2.1 133 = .ok (.iastore, 1) := by decide +kernel
theorem dX10_edge_134 : decode mX10_edge.2.1 134 = .ok (.iload 4, 2) := by decide +kernel
theorem dX10_edge_136 : decode mX10_edge.2.1 136 = .ok (.ireturn, 1) := by decide +kernel
theorem dX10_write_0 : decode mX10_write.2.1 0 = .ok (.aload_n 0, 1) := by decide +kernel
theorem dX10_write_1 : decode mX10_write.2.1 1 = .ok (.getfield 9, 3) := by decide +kernel
theorem dX10_write_4 : decode mX10_write.2.1 4 = .ok (.iconst 4, 1) := by decide +kernel
theorem dX10_write_5 : decode mX10_write.2.1 5 = .ok (.iaload, 1) := by decide +kernel
theorem dX10_write_6 : decode mX10_write.2.1 6 = .ok (.istore_n 1, 1) := by decide +kernel
theorem dX10_write_7 : decode mX10_write.2.1 7 = .ok (.iconst (-1), 1) := by decide +kernel
theorem dX10_write_8 : decode mX10_write.2.1 8 = .ok (.istore_n 2, 1) := by decide +kernel
theorem dX10_write_9 : decode mX10_write.2.1 9 = .ok (.ldc2_w 205, 3) := by decide +kernel
theorem dX10_write_12 : decode mX10_write.2.1 12 = .ok (.lstore_n 3, 1) := by decide +kernel
theorem dX10_write_13 : decode mX10_write.2.1 13 = .ok (.iconst (-1), 1) := by decide +kernel
theorem dX10_write_14 : decode mX10_write.2.1 14 = .ok (.istore 5, 2) := by decide +kernel
theorem dX10_write_16 : decode mX10_write.2.1 16 = .ok (.iload 5, 2) := by decide +kernel
theorem dX10_write_18 : decode mX10_write.2.1 18 = .ok (.bipush 31, 2) := by decide +kernel
theorem dX10_write_20 : decode mX10_write.2.1 20 = .ok (.if_icmp .ge 67, 3) := by decide +kernel
theorem dX10_write_23 : decode mX10_write.2.1 23 = .ok (.aload_n 0, 1) := by decide +kernel
theorem dX10_write_24 : decode mX10_write.2.1 24 = .ok (.getfield 9, 3) := by decide +kernel
theorem dX10_write_27 : decode mX10_write.2.1 27 = .ok (.iconst 4, 1) := by decide +kernel
theorem dX10_write_28 : decode mX10_write.2.1 28 = .ok (.iload 5, 2) := by decide +kernel
theorem dX10_write_30 : decode mX10_write.2.1 30 = .ok (.iastore, 1) := by decide +kernel
theorem dX10_write_31 : decode mX10_write.2.1 31 = .ok (.aload_n 0, 1) := by decide +kernel
theorem dX10_write_32 : decode mX10_write.2.1 32 = .ok (.invokevirtual 201, 3) := by decide +kernel
theorem dX10_write_35 : decode mX10_write.2.1 35 = .ok (.lload_n 3, 1) := by decide +kernel
theorem dX10_write_36 : decode mX10_write.2.1 36 = .ok (.lconst 0, 1) := by decide +kernel
theorem dX10_write_37 : decode mX10_write.2.1 37 = .ok (.lcmp, 1) := by decide +kernel
theorem dX10_write_38 : decode mX10_write.2.1 38 = .ok (.ifCond .lt 12, 3) := by decide +kernel
theorem dX10_write_41 : decode mX10_write.2.1 41 = .ok (.aload_n 0, 1) := by decide +kernel
theorem dX10_write_42 : decode mX10_write.2.1 42 = .ok (.getfield 186, 3) := by decide +kernel
theorem dX10_write_45 : decode mX10_write.2.1 45 = .ok (.lload_n 3, 1) := by decide +kernel
theorem dX10_write_46 : decode mX10_write.2.1 46 = .ok (.lcmp, 1) := by decide +kernel
theorem dX10_write_47 : decode mX10_write.2.1 47 = .ok (.ifCond .ge 8, 3) := by decide +kernel
theorem dX10_write_50 : decode mX10_write.2.1 50 = .ok (.iload 5, 2) := by decide +kernel
theorem dX10_write_52 : decode mX10_write.2.1 52 = .ok (.goto 4, 3) := by decide +kernel
theorem dX10_write_55 : decode mX10_write.2.1 55 = .ok (.iload_n 2, 1) := by decide +kernel
theorem dX10_write_56 : decode mX10_write.2.1 56 = .ok (.istore_n 2, 1) := by decide +kernel
theorem dX10_write_57 : decode mX10_write.2.1 57 = .ok (.lload_n 3, 1) := by decide +kernel
theorem dX10_write_58 : decode mX10_write.2.1 58 = .ok (.lconst 0, 1) := by decide +kernel
theorem dX10_write_59 : decode mX10_write.2.1 59 = .ok (.lcmp, 1) := by decide +kernel
theorem dX10_write_60 : decode mX10_write.2.1 60 = .ok (.ifCond .lt 12, 3) := by decide +kernel
theorem dX10_write_63 : decode mX10_write.2.1 63 = .ok (.aload_n 0, 1) := by decide +kernel
theorem dX10_write_64 : decode mX10_write.2.1 64 = .ok (.getfield 186, 3) := by decide +kernel
theorem dX10_write_67 : decode mX10_write.2.1 67 = .ok (.lload_n 3, 1) := by decide +kernel
theorem dX10_write_68 : decode mX10_write.2.1 68 = .ok (.lcmp, 1) := by decide +kernel
theorem dX10_write_69 : decode mX10_write.2.1 69 = .ok (.ifCond .ge 10, 3) := by decide +kernel
theorem dX10_write_72 : decode mX10_write.2.1 72 = .ok (.aload_n 0, 1) := by decide +kernel
theorem dX10_write_73 : decode mX10_write.2.1 73 = .ok (.getfield 186, 3) := by decide +kernel
theorem dX10_write_76 : decode mX10_write.2.1 76 = .ok (.goto 4, 3) := by decide +kernel
theorem dX10_write_79 : decode mX10_write.2.1 79 = .ok (.lload_n 3, 1) := by decide +kernel
theorem dX10_write_80 : decode mX10_write.2.1 80 = .ok (.lstore_n 3, 1) := by decide +kernel
theorem dX10_write_81 : decode mX10_write.2.1 81 = .ok (.iinc 5 1, 3) := by decide +kernel
theorem dX10_write_84 : decode mX10_write.2.1 84 = .ok (.goto (-68), 3) := by decide +kernel
theorem dX10_write_87 : decode mX10_write.2.1 87 = .ok (.aload_n 0, 1) := by decide +kernel
theorem dX10_write_88 : decode mX10_write.2.1 88 = .ok (.getfield 9, 3) := by decide +kernel
theorem dX10_write_91 : decode mX10_write.2.1 91 = .ok (.iconst 4, 1) := by decide +kernel
theorem dX10_write_92 : decode mX10_write.2.1 92 = .ok (.iload_n 1, 1) := by decide +kernel
theorem dX10_write_93 : decode mX10_write.2.1 93 = .ok (.iastore, 1) := by decide +kernel
theorem dX10_write_94 : decode mX10_write.2.1 94 = .ok (.iload_n 2, 1) := by decide +kernel
theorem dX10_write_95 : decode mX10_write.2.1 95 = .ok (.invokestatic 162, 3) := by decide +kernel
theorem dX10_write_98 : decode mX10_write.2.1 98 = .ok (.ireturn, 1) := by decide +kernel
theorem dX10_least_0 : decode mX10_least.2.1 0 = .ok (.aload_n 0, 1) := by decide +kernel
theorem dX10_least_1 : decode mX10_least.2.1 1 = .ok (.getfield 9, 3) := by decide +kernel
theorem dX10_least_4 : decode mX10_least.2.1 4 = .ok (.iconst 3, 1) := by decide +kernel
theorem dX10_least_5 : decode mX10_least.2.1 5 = .ok (.iaload, 1) := by decide +kernel
theorem dX10_least_6 : decode mX10_least.2.1 6 = .ok (.istore_n 1, 1) := by decide +kernel
theorem dX10_least_7 : decode mX10_least.2.1 7 = .ok (.iconst (-1), 1) := by decide +kernel
theorem dX10_least_8 : decode mX10_least.2.1 8 = .ok (.istore_n 2, 1) := by decide +kernel
theorem dX10_least_9 : decode mX10_least.2.1 9 = .ok (.lconst 0, 1) := by decide +kernel
theorem dX10_least_10 : decode mX10_least.2.1 10 = .ok (.lstore_n 3, 1) := by decide +kernel
theorem dX10_least_11 : decode mX10_least.2.1 11 = .ok (.lconst 0, 1) := by decide +kernel
theorem dX10_least_12 : decode mX10_least.2.1 12 = .ok (.lstore 5, 2) := by decide +kernel
theorem dX10_least_14 : decode mX10_least.2.1 14 = .ok (.iconst 0, 1) := by decide +kernel
theorem dX10_least_15 : decode mX10_least.2.1 15 = .ok (.istore 7, 2) := by decide +kernel
theorem dX10_least_17 : decode mX10_least.2.1 17 = .ok (.iload 7, 2) := by decide +kernel
theorem dX10_least_19 : decode mX10_least.2.1 19 = .ok (.aload_n 0, 1) := by decide +kernel
theorem dX10_least_20 : decode mX10_least.2.1 20 = .ok (.getfield 9, 3) := by decide +kernel
theorem dX10_least_23 : decode mX10_least.2.1 23 = .ok (.iconst 2, 1) := by decide +kernel
theorem dX10_least_24 : decode mX10_least.2.1 24 = .ok (.iaload, 1) := by decide +kernel
theorem dX10_least_25 : decode mX10_least.2.1 25 = .ok (.if_icmp .ge 67, 3) := by decide +kernel
theorem dX10_least_28 : decode mX10_least.2.1 28 = .ok (.aload_n 0, 1) := by decide +kernel
theorem dX10_least_29 : decode mX10_least.2.1 29 = .ok (.getfield 9, 3) := by decide +kernel
theorem dX10_least_32 : decode mX10_least.2.1 32 = .ok (.iconst 3, 1) := by decide +kernel
theorem dX10_least_33 : decode mX10_least.2.1 33 = .ok (.iload 7, 2) := by decide +kernel
theorem dX10_least_35 : decode mX10_least.2.1 35 = .ok (.iastore, 1) := by decide +kernel
theorem dX10_least_36 : decode mX10_least.2.1 36 = .ok (.aload_n 0, 1) := by decide +kernel
theorem dX10_least_37 : decode mX10_least.2.1 37 = .ok (.invokevirtual 201, 3) := by decide +kernel
theorem dX10_least_40 : decode mX10_least.2.1 40 = .ok (.iload_n 2, 1) := by decide +kernel
theorem dX10_least_41 : decode mX10_least.2.1 41 = .ok (.ifCond .lt 31, 3) := by decide +kernel
theorem dX10_least_44 : decode mX10_least.2.1 44 = .ok (.aload_n 0, 1) := by decide +kernel
theorem dX10_least_45 : decode mX10_least.2.1 45 = .ok (.getfield 186, 3) := by decide +kernel
theorem dX10_least_48 : decode mX10_least.2.1 48 = .ok (.lload_n 3, 1) := by decide +kernel
theorem dX10_least_49 : decode mX10_least.2.1 49 = .ok (.lcmp, 1) := by decide +kernel
theorem dX10_least_50 : decode mX10_least.2.1 50 = .ok (.ifCond .lt 22, 3) := by decide +kernel
theorem dX10_least_53 : decode mX10_least.2.1 53 = .ok (.aload_n 0, 1) := by decide +kernel
theorem dX10_least_54 : decode mX10_least.2.1 54 = .ok (.getfield 186, 3) := by decide +kernel
theorem dX10_least_57 : decode mX10_least.2.1 57 = .ok (.lload_n 3, 1) := by decide +kernel
theorem dX10_least_58 : decode mX10_least.2.1 58 = .ok (.lcmp, 1) := by decide +kernel
theorem dX10_least_59 : decode mX10_least.2.1 59 = .ok (.ifCond .ne 27, 3) := by decide +kernel
theorem dX10_least_62 : decode mX10_least.2.1 62 = .ok (.aload_n 0, 1) := by decide +kernel
theorem dX10_least_63 : decode mX10_least.2.1 63 = .ok (.getfield 190, 3) := by decide +kernel
theorem dX10_least_66 : decode mX10_least.2.1 66 = .ok (.lload 5, 2) := by decide +kernel
theorem dX10_least_68 : decode mX10_least.2.1 68 = .ok (.lcmp, 1) := by decide +kernel
theorem dX10_least_69 : decode mX10_least.2.1 69 = .ok (.ifCond .le 17, 3) := by decide +kernel
theorem dX10_least_72 : decode mX10_least.2.1 72 = .ok (.iload 7, 2) := by decide +kernel
theorem dX10_least_74 : decode mX10_least.2.1 74 = .ok (.istore_n 2, 1) := by decide +kernel
theorem dX10_least_75 : decode mX10_least.2.1 75 = .ok (.aload_n 0, 1) := by decide +kernel
theorem dX10_least_76 : decode mX10_least.2.1 76 = .ok (.getfield 186, 3) := by decide +kernel
theorem dX10_least_79 : decode mX10_least.2.1 79 = .ok (.lstore_n 3, 1) := by decide +kernel
theorem dX10_least_80 : decode mX10_least.2.1 80 = .ok (.aload_n 0, 1) := by decide +kernel
theorem dX10_least_81 : decode mX10_least.2.1 81 = .ok (.getfield 190, 3) := by decide +kernel
theorem dX10_least_84 : decode mX10_least.2.1 84 = .ok (.lstore 5, 2) := by decide +kernel
theorem dX10_least_86 : decode mX10_least.2.1 86 = .ok (.iinc 7 1, 3) := by decide +kernel
theorem dX10_least_89 : decode mX10_least.2.1 89 = .ok (.goto (-72), 3) := by decide +kernel
theorem dX10_least_92 : decode mX10_least.2.1 92 = .ok (.aload_n 0, 1) := by decide +kernel
theorem dX10_least_93 : decode mX10_least.2.1 93 = .ok (.getfield 9, 3) := by decide +kernel
theorem dX10_least_96 : decode mX10_least.2.1 96 = .ok (.iconst 3, 1) := by decide +kernel
theorem dX10_least_97 : decode mX10_least.2.1 97 = .ok (.iload_n 1, 1) := by decide +kernel
theorem dX10_least_98 : decode mX10_least.2.1 98 = .ok (.iastore, 1) := by decide +kernel
theorem dX10_least_99 : decode mX10_least.2.1 99 = .ok (.iload_n 2, 1) := by decide +kernel
theorem dX10_least_100 : decode mX10_least.2.1 100 = .ok (.invokestatic 162, 3) := by decide +kernel
theorem dX10_least_103 : decode mX10_least.2.1 103 = .ok (.ireturn, 1) := by decide +kernel
theorem dX10_feed_0 : decode mX10_feed.2.1 0 = .ok (.aload_n 0, 1) := by decide +kernel
theorem dX10_feed_1 : decode mX10_feed.2.1 1 = .ok (.getfield 207, 3) := by decide +kernel
theorem dX10_feed_4 : decode mX10_feed.2.1 4 = .ok (.bipush 12, 2) := by decide +kernel
theorem dX10_feed_6 : decode mX10_feed.2.1 6 = .ok (.iadd, 1) := by decide +kernel
theorem dX10_feed_7 : decode mX10_feed.2.1 7 = .ok (.bipush 96, 2) := by decide +kernel
theorem dX10_feed_9 : decode mX10_feed.2.1 9 = .ok (.if_icmp .le 6, 3) := by decide +kernel
theorem dX10_feed_12 : decode mX10_feed.2.1 12 = .ok (.ldc 102, 2) := by decide +kernel
theorem dX10_feed_14 : decode mX10_feed.2.1 14 = .ok (.ireturn, 1) := by decide +kernel
theorem dX10_feed_15 : decode mX10_feed.2.1 15 = .ok (.iconst 0, 1) := by decide +kernel
theorem dX10_feed_16 : decode mX10_feed.2.1 16 = .ok (.istore 4, 2) := by decide +kernel
theorem dX10_feed_18 : decode mX10_feed.2.1 18 = .ok (.iload 4, 2) := by decide +kernel
theorem dX10_feed_20 : decode mX10_feed.2.1 20 = .ok (.bipush 12, 2) := by decide +kernel
theorem dX10_feed_22 : decode mX10_feed.2.1 22 = .ok (.if_icmp .ge 62, 3) := by decide +kernel
theorem dX10_feed_25 : decode mX10_feed.2.1 25 = .ok (.iload 4, 2) := by decide +kernel
theorem dX10_feed_27 : decode mX10_feed.2.1 27 = .ok (.iconst 4, 1) := by decide +kernel
theorem dX10_feed_28 : decode mX10_feed.2.1 28 = .ok (.if_icmp .ge 7, 3) := by decide +kernel
theorem dX10_feed_31 : decode mX10_feed.2.1 31 = .ok (.iload_n 1, 1) := by decide +kernel
theorem dX10_feed_32 : decode mX10_feed.2.1 32 = .ok (.goto 15, 3) := by decide +kernel
theorem dX10_feed_35 : decode mX10_feed.2.1 35 = .ok (.iload 4, 2) := by decide +kernel
theorem dX10_feed_37 : decode mX10_feed.2.1 37 = .ok (.bipush 8, 2) := by decide +kernel
theorem dX10_feed_39 : decode mX10_feed.2.1 39 = .ok (.if_icmp .ge 7, 3) := by decide +kernel
theorem dX10_feed_42 : decode mX10_feed.2.1 42 = .ok (.iload_n 2, 1) := by decide +kernel
theorem dX10_feed_43 : decode mX10_feed.2.1 43 = .ok (.goto 4, 3) := by decide +kernel
theorem dX10_feed_46 : decode mX10_feed.2.1 46 = .ok (.iload_n 3, 1) := by decide +kernel
theorem dX10_feed_47 : decode mX10_feed.2.1 47 = .ok (.istore 5, 2) := by decide +kernel
theorem dX10_feed_49 : decode mX10_feed.2.1 49 = .ok (.aload_n 0, 1) := by decide +kernel
theorem dX10_feed_50 : decode mX10_feed.2.1 50 = .ok (.getfield 44, 3) := by decide +kernel
theorem dX10_feed_53 : decode mX10_feed.2.1 53 = .ok (.aload_n 0, 1) := by decide +kernel
theorem dX10_feed_54 : decode mX10_feed.2.1 54 = .ok (.getfield 207, 3) := by decide +kernel
theorem dX10_feed_57 : decode mX10_feed.2.1 57 = .ok (.iload 4, 2) := by decide +kernel
theorem dX10_feed_59 : decode mX10_feed.2.1 59 = .ok (.iadd, 1) := by decide +kernel
theorem dX10_feed_60 : decode mX10_feed.2.1 60 = .ok (.iload 5, 2) := by decide +kernel
theorem dX10_feed_62 : decode mX10_feed.2.1 62 = .ok (.bipush 24, 2) := by decide +kernel
theorem dX10_feed_64 : decode mX10_feed.2.1 64 = .ok (.bipush 8, 2) := by decide +kernel
theorem dX10_feed_66 : decode mX10_feed.2.1 66 = .ok (.iload 4, 2) := by decide +kernel
theorem dX10_feed_68 : decode mX10_feed.2.1 68 = .ok (.iconst 4, 1) := by decide +kernel
theorem dX10_feed_69 : decode mX10_feed.2.1 69 = .ok (.irem, 1) := by decide +kernel
theorem dX10_feed_70 : decode mX10_feed.2.1 70 = .ok (.imul, 1) := by decide +kernel
theorem dX10_feed_71 : decode mX10_feed.2.1 71 = .ok (.isub, 1) := by decide +kernel
theorem dX10_feed_72 : decode mX10_feed.2.1 72 = .ok (.ishr, 1) := by decide +kernel
theorem dX10_feed_73 : decode mX10_feed.2.1 73 = .ok (.sipush 255, 3) := by decide +kernel
theorem dX10_feed_76 : decode mX10_feed.2.1 76 = .ok (.iand, 1) := by decide +kernel
theorem dX10_feed_77 : decode mX10_feed.2.1 77 = .ok (.iastore, 1) := by decide +kernel
theorem dX10_feed_78 : decode mX10_feed.2.1 78 = .ok (.iinc 4 1, 3) := by decide +kernel
theorem dX10_feed_81 : decode mX10_feed.2.1 81 = .ok (.goto (-63), 3) := by decide +kernel
theorem dX10_feed_84 : decode mX10_feed.2.1 84 = .ok (.aload_n 0, 1) := by decide +kernel
theorem dX10_feed_85 : decode mX10_feed.2.1 85 = .ok (.dup, 1) := by decide +kernel
theorem dX10_feed_86 : decode mX10_feed.2.1 86 = .ok (.getfield 207, 3) := by decide +kernel
theorem dX10_feed_89 : decode mX10_feed.2.1 89 = .ok (.bipush 12, 2) := by decide +kernel
theorem dX10_feed_91 : decode mX10_feed.2.1 91 = .ok (.iadd, 1) := by decide +kernel
theorem dX10_feed_92 : decode mX10_feed.2.1 92 = .ok (.putfield 207, 3) := by decide +kernel
theorem dX10_feed_95 : decode mX10_feed.2.1 95 = .ok (.aload_n 0, 1) := by decide +kernel
theorem dX10_feed_96 : decode mX10_feed.2.1 96 = .ok (.getfield 207, 3) := by decide +kernel
theorem dX10_feed_99 : decode mX10_feed.2.1 99 = .ok (.ireturn, 1) := by decide +kernel
theorem dX10_trim_0 : decode mX10_trim.2.1 0 = .ok (.iload_n 1, 1) := by decide +kernel
theorem dX10_trim_1 : decode mX10_trim.2.1 1 = .ok (.iconst 0, 1) := by decide +kernel
theorem dX10_trim_2 : decode mX10_trim.2.1 2 = .ok (.aload_n 0, 1) := by decide +kernel
theorem dX10_trim_3 : decode mX10_trim.2.1 3 = .ok (.getfield 207, 3) := by decide +kernel
theorem dX10_trim_6 : decode mX10_trim.2.1 6 = .ok (.invokestatic 97, 3) := by decide +kernel
theorem dX10_trim_9 : decode mX10_trim.2.1 9 = .ok (.ifCond .ne 6, 3) := by decide +kernel
theorem dX10_trim_12 : decode mX10_trim.2.1 12 = .ok (.ldc 101, 2) := by decide +kernel
theorem dX10_trim_14 : decode mX10_trim.2.1 14 = .ok (.ireturn, 1) := by decide +kernel
theorem dX10_trim_15 : decode mX10_trim.2.1 15 = .ok (.aload_n 0, 1) := by decide +kernel
theorem dX10_trim_16 : decode mX10_trim.2.1 16 = .ok (.iload_n 1, 1) := by decide +kernel
theorem dX10_trim_17 : decode mX10_trim.2.1 17 = .ok (.putfield 207, 3) := by decide +kernel
theorem dX10_trim_20 : decode mX10_trim.2.1 20 = .ok (.iload_n 1, 1) := by decide +kernel
theorem dX10_trim_21 : decode mX10_trim.2.1 21 = .ok (.ireturn, 1) := by decide +kernel
theorem dX10_isLetter_0 : decode mX10_isLetter.2.1 0 = .ok (.iload_n 1, 1) := by decide +kernel
theorem dX10_isLetter_1 : decode mX10_isLetter.2.1 1 = .ok (.aload_n 0, 1) := by decide +kernel
theorem dX10_isLetter_2 : decode mX10_isLetter.2.1 2 = .ok (.getfield 207, 3) := by decide +kernel
theorem dX10_isLetter_5 : decode mX10_isLetter.2.1 5 = .ok (.if_icmp .ge 29, 3) := by decide +kernel
theorem dX10_isLetter_8 : decode mX10_isLetter.2.1 8 = .ok (.aload_n 0, 1) := by decide +kernel
theorem dX10_isLetter_9 : decode mX10_isLetter.2.1 9 = .ok (.getfield 44, 3) := by decide +kernel
theorem dX10_isLetter_12 : decode mX10_isLetter.2.1 12 = .ok (.iload_n 1, 1) := by decide +kernel
theorem dX10_isLetter_13 : decode mX10_isLetter.2.1 13 = .ok (.iaload, 1) := by decide +kernel
theorem dX10_isLetter_14 : decode mX10_isLetter.2.1 14 = .ok (.bipush 97, 2) := by decide +kernel
theorem dX10_isLetter_16 : decode mX10_isLetter.2.1 16 = .ok (.if_icmp .lt 18, 3) := by decide +kernel
theorem dX10_isLetter_19 : decode mX10_isLetter.2.1 19 = .ok (.aload_n 0, 1) := by decide +kernel
theorem dX10_isLetter_20 : decode mX10_isLetter.2.1 20 = .ok (.getfield 44, 3) := by decide +kernel
theorem dX10_isLetter_23 : decode mX10_isLetter.2.1 23 = .ok (.iload_n 1, 1) := by decide +kernel
theorem dX10_isLetter_24 : decode mX10_isLetter.2.1 24 = .ok (.iaload, 1) := by decide +kernel
theorem dX10_isLetter_25 : decode mX10_isLetter.2.1 25 = .ok (.bipush 122, 2) := by decide +kernel
theorem dX10_isLetter_27 : decode mX10_isLetter.2.1 27 = .ok (.if_icmp .gt 7, 3) := by decide +kernel
theorem dX10_isLetter_30 : decode mX10_isLetter.2.1 30 = .ok (.iconst 1, 1) := by decide +kernel
theorem dX10_isLetter_31 : decode mX10_isLetter.2.1 31 = .ok (.goto 4, 3) := by decide +kernel
theorem dX10_isLetter_34 : decode mX10_isLetter.2.1 34 = .ok (.iconst 0, 1) := by decide +kernel
theorem dX10_isLetter_35 : decode mX10_isLetter.2.1 35 = .ok (.ireturn, 1) := by decide +kernel
theorem dX10_isFigure_0 : decode mX10_isFigure.2.1 0 = .ok (.iload_n 1, 1) := by decide +kernel
theorem dX10_isFigure_1 : decode mX10_isFigure.2.1 1 = .ok (.aload_n 0, 1) := by decide +kernel
theorem dX10_isFigure_2 : decode mX10_isFigure.2.1 2 = .ok (.getfield 207, 3) := by decide +kernel
theorem dX10_isFigure_5 : decode mX10_isFigure.2.1 5 = .ok (.if_icmp .ge 29, 3) := by decide +kernel
theorem dX10_isFigure_8 : decode mX10_isFigure.2.1 8 = .ok (.aload_n 0, 1) := by decide +kernel
theorem dX10_isFigure_9 : decode mX10_isFigure.2.1 9 = .ok (.getfield 44, 3) := by decide +kernel
theorem dX10_isFigure_12 : decode mX10_isFigure.2.1 12 = .ok (.iload_n 1, 1) := by decide +kernel
theorem dX10_isFigure_13 : decode mX10_isFigure.2.1 13 = .ok (.iaload, 1) := by decide +kernel
theorem dX10_isFigure_14 : decode mX10_isFigure.2.1 14 = .ok (.bipush 48, 2) := by decide +kernel
theorem dX10_isFigure_16 : decode mX10_isFigure.2.1 16 = .ok (.if_icmp .lt 18, 3) := by decide +kernel
theorem dX10_isFigure_19 : decode mX10_isFigure.2.1 19 = .ok (.aload_n 0, 1) := by decide +kernel
theorem dX10_isFigure_20 : decode mX10_isFigure.2.1 20 = .ok (.getfield 44, 3) := by decide +kernel
theorem dX10_isFigure_23 : decode mX10_isFigure.2.1 23 = .ok (.iload_n 1, 1) := by decide +kernel
theorem dX10_isFigure_24 : decode mX10_isFigure.2.1 24 = .ok (.iaload, 1) := by decide +kernel
theorem dX10_isFigure_25 : decode mX10_isFigure.2.1 25 = .ok (.bipush 57, 2) := by decide +kernel
theorem dX10_isFigure_27 : decode mX10_isFigure.2.1 27 = .ok (.if_icmp .gt 7, 3) := by decide +kernel
theorem dX10_isFigure_30 : decode mX10_isFigure.2.1 30 = .ok (.iconst 1, 1) := by decide +kernel
theorem dX10_isFigure_31 : decode mX10_isFigure.2.1 31 = .ok (.goto 4, 3) := by decide +kernel
theorem dX10_isFigure_34 : decode mX10_isFigure.2.1 34 = .ok (.iconst 0, 1) := by decide +kernel
theorem dX10_isFigure_35 : decode mX10_isFigure.2.1 35 = .ok (.ireturn, 1) := by decide +kernel
theorem dX10_go_0 : decode mX10_go.2.1 0 = .ok (.aload_n 0, 1) := by decide +kernel
theorem dX10_go_1 : decode mX10_go.2.1 1 = .ok (.getfield 211, 3) := by decide +kernel
theorem dX10_go_4 : decode mX10_go.2.1 4 = .ok (.aload_n 0, 1) := by decide +kernel
theorem dX10_go_5 : decode mX10_go.2.1 5 = .ok (.getfield 207, 3) := by decide +kernel
theorem dX10_go_8 : decode mX10_go.2.1 8 = .ok (.if_icmp .ge 30, 3) := by decide +kernel
theorem dX10_go_11 : decode mX10_go.2.1 11 = .ok (.aload_n 0, 1) := by decide +kernel
theorem dX10_go_12 : decode mX10_go.2.1 12 = .ok (.getfield 44, 3) := by decide +kernel
theorem dX10_go_15 : decode mX10_go.2.1 15 = .ok (.aload_n 0, 1) := by decide +kernel
theorem dX10_go_16 : decode mX10_go.2.1 16 = .ok (.getfield 211, 3) := by decide +kernel
theorem dX10_go_19 : decode mX10_go.2.1 19 = .ok (.iaload, 1) := by decide +kernel
theorem dX10_go_20 : decode mX10_go.2.1 20 = .ok (.bipush 32, 2) := by decide +kernel
theorem dX10_go_22 : decode mX10_go.2.1 22 = .ok (.if_icmp .ne 16, 3) := by decide +kernel
theorem dX10_go_25 : decode mX10_go.2.1 25 = .ok (.aload_n 0, 1) := by decide +kernel
theorem dX10_go_26 : decode mX10_go.2.1 26 = .ok (.dup, 1) := by decide +kernel
theorem dX10_go_27 : decode mX10_go.2.1 27 = .ok (.getfield 211, 3) := by decide +kernel
theorem dX10_go_30 : decode mX10_go.2.1 30 = .ok (.iconst 1, 1) := by decide +kernel
theorem dX10_go_31 : decode mX10_go.2.1 31 = .ok (.iadd, 1) := by decide +kernel
theorem dX10_go_32 : decode mX10_go.2.1 32 = .ok (.putfield 211, 3) := by decide +kernel
theorem dX10_go_35 : decode mX10_go.2.1 35 = .ok (.goto (-35), 3) := by decide +kernel
theorem dX10_go_38 : decode mX10_go.2.1 38 = .ok (.aload_n 0, 1) := by decide +kernel
theorem dX10_go_39 : decode mX10_go.2.1 39 = .ok (.aload_n 0, 1) := by decide +kernel
theorem dX10_go_40 : decode mX10_go.2.1 40 = .ok (.getfield 211, 3) := by decide +kernel
theorem dX10_go_43 : decode mX10_go.2.1 43 = .ok (.putfield 214, 3) := by decide +kernel
theorem dX10_go_46 : decode mX10_go.2.1 46 = .ok (.aload_n 0, 1) := by decide +kernel
theorem dX10_go_47 : decode mX10_go.2.1 47 = .ok (.getfield 214, 3) := by decide +kernel
theorem dX10_go_50 : decode mX10_go.2.1 50 = .ok (.aload_n 0, 1) := by decide +kernel
theorem dX10_go_51 : decode mX10_go.2.1 51 = .ok (.getfield 217, 3) := by decide +kernel
theorem dX10_go_54 : decode mX10_go.2.1 54 = .ok (.if_icmp .ne 7, 3) := by decide +kernel
theorem dX10_go_57 : decode mX10_go.2.1 57 = .ok (.iconst 1, 1) := by decide +kernel
theorem dX10_go_58 : decode mX10_go.2.1 58 = .ok (.goto 4, 3) := by decide +kernel
theorem dX10_go_61 : decode mX10_go.2.1 61 = .ok (.iconst 0, 1) := by decide +kernel
theorem dX10_go_62 : decode mX10_go.2.1 62 = .ok (.istore_n 1, 1) := by decide +kernel
theorem dX10_go_63 : decode mX10_go.2.1 63 = .ok (.aload_n 0, 1) := by decide +kernel
theorem dX10_go_64 : decode mX10_go.2.1 64 = .ok (.getfield 214, 3) := by decide +kernel
theorem dX10_go_67 : decode mX10_go.2.1 67 = .ok (.aload_n 0, 1) := by decide +kernel
theorem dX10_go_68 : decode mX10_go.2.1 68 = .ok (.getfield 207, 3) := by decide +kernel
theorem dX10_go_71 : decode mX10_go.2.1 71 = .ok (.if_icmp .ne 11, 3) := by decide +kernel
theorem dX10_go_74 : decode mX10_go.2.1 74 = .ok (.aload_n 0, 1) := by decide +kernel
theorem dX10_go_75 : decode mX10_go.2.1 75 = .ok (.iconst 0, 1) := by decide +kernel
theorem dX10_go_76 : decode mX10_go.2.1 76 = .ok (.putfield 220, 3) := by decide +kernel
theorem dX10_go_79 : decode mX10_go.2.1 79 = .ok (.goto 224, 3) := by decide +kernel
theorem dX10_go_82 : decode mX10_go.2.1 82 = .ok (.aload_n 0, 1) := by decide +kernel
theorem dX10_go_83 : decode mX10_go.2.1 83 = .ok (.aload_n 0, 1) := by decide +kernel
theorem dX10_go_84 : decode mX10_go.2.1 84 = .ok (.getfield 214, 3) := by decide +kernel
theorem dX10_go_87 : decode mX10_go.2.1 87 = .ok (.invokevirtual 223, 3) := by decide +kernel
theorem dX10_go_90 : decode mX10_go.2.1 90 = .ok (.ifCond .eq 64, 3) := by decide +kernel
theorem dX10_go_93 : decode mX10_go.2.1 93 = .ok (.aload_n 0, 1) := by decide +kernel
theorem dX10_go_94 : decode mX10_go.2.1 94 = .ok (.aload_n 0, 1) := by decide +kernel
theorem dX10_go_95 : decode mX10_go.2.1 95 = .ok (.getfield 211, 3) := by decide +kernel
theorem dX10_go_98 : decode mX10_go.2.1 98 = .ok (.invokevirtual 223, 3) := by decide +kernel
theorem dX10_go_101 : decode mX10_go.2.1 101 = .ok (.ifCond .eq 16, 3) := by decide +kernel
theorem dX10_go_104 : decode mX10_go.2.1 104 = .ok (.aload_n 0, 1) := by decide +kernel
theorem dX10_go_105 : decode mX10_go.2.1 105 = .ok (.dup, 1) := by decide +kernel
theorem dX10_go_106 : decode mX10_go.2.1 106 = .ok (.getfield 211, 3) := by decide +kernel
theorem dX10_go_109 : decode mX10_go.2.1 109 = .ok (.iconst 1, 1) := by decide +kernel
theorem dX10_go_110 : decode mX10_go.2.1 110 = .ok (.iadd, 1) := by decide +kernel
theorem dX10_go_111 : decode mX10_go.2.1 111 = .ok (.putfield 211, 3) := by decide +kernel
theorem dX10_go_114 : decode mX10_go.2.1 114 = .ok (.goto (-21), 3) := by decide +kernel
theorem dX10_go_117 : decode mX10_go.2.1 117 = .ok (.aload_n 0, 1) := by decide +kernel
theorem dX10_go_118 : decode mX10_go.2.1 118 = .ok (.iload_n 1, 1) := by decide +kernel
theorem dX10_go_119 : decode mX10_go.2.1 119 = .ok (.ifCond .eq 7, 3) := by decide +kernel
theorem dX10_go_122 : decode mX10_go.2.1 122 = .ok (.iconst 4, 1) := by decide +kernel
theorem dX10_go_123 : decode mX10_go.2.1 123 = .ok (.goto 4, 3) := by decide +kernel
theorem dX10_go_126 : decode mX10_go.2.1 126 = .ok (.iconst 1, 1) := by decide +kernel
theorem dX10_go_127 : decode mX10_go.2.1 127 = .ok (.putfield 220, 3) := by decide +kernel
theorem dX10_go_130 : decode mX10_go.2.1 130 = .ok (.aload_n 0, 1) := by decide +kernel
theorem dX10_go_131 : decode mX10_go.2.1 131 = .ok (.aload_n 0, 1) := by decide +kernel
theorem dX10_go_132 : decode mX10_go.2.1 132 = .ok (.getfield 44, 3) := by decide +kernel
theorem dX10_go_135 : decode mX10_go.2.1 135 = .ok (.aload_n 0, 1) := by decide +kernel
theorem dX10_go_136 : decode mX10_go.2.1 136 = .ok (.getfield 214, 3) := by decide +kernel
theorem dX10_go_139 : decode mX10_go.2.1 139 = .ok (.iaload, 1) := by decide +kernel
theorem dX10_go_140 : decode mX10_go.2.1 140 = .ok (.putfield 226, 3) := by decide +kernel
theorem dX10_go_143 : decode mX10_go.2.1 143 = .ok (.aload_n 0, 1) := by decide +kernel
theorem dX10_go_144 : decode mX10_go.2.1 144 = .ok (.aload_n 0, 1) := by decide +kernel
theorem dX10_go_145 : decode mX10_go.2.1 145 = .ok (.getfield 211, 3) := by decide +kernel
theorem dX10_go_148 : decode mX10_go.2.1 148 = .ok (.putfield 217, 3) := by decide +kernel
theorem dX10_go_151 : decode mX10_go.2.1 151 = .ok (.goto 152, 3) := by decide +kernel
theorem dX10_go_154 : decode mX10_go.2.1 154 = .ok (.aload_n 0, 1) := by decide +kernel
theorem dX10_go_155 : decode mX10_go.2.1 155 = .ok (.aload_n 0, 1) := by decide +kernel
theorem dX10_go_156 : decode mX10_go.2.1 156 = .ok (.getfield 214, 3) := by decide +kernel
theorem dX10_go_159 : decode mX10_go.2.1 159 = .ok (.invokevirtual 229, 3) := by decide +kernel
theorem dX10_go_162 : decode mX10_go.2.1 162 = .ok (.ifCond .eq 113, 3) := by decide +kernel
theorem dX10_go_165 : decode mX10_go.2.1 165 = .ok (.aload_n 0, 1) := by decide +kernel
theorem dX10_go_166 : decode mX10_go.2.1 166 = .ok (.iconst 0, 1) := by decide +kernel
theorem dX10_go_167 : decode mX10_go.2.1 167 = .ok (.putfield 226, 3) := by decide +kernel
theorem dX10_go_170 : decode mX10_go.2.1 170 = .ok (.aload_n 0, 1) := by decide +kernel
theorem dX10_go_171 : decode mX10_go.2.1 171 = .ok (.aload_n 0, 1) := by decide +kernel
theorem dX10_go_172 : decode mX10_go.2.1 172 = .ok (.getfield 211, 3) := by decide +kernel
theorem dX10_go_175 : decode mX10_go.2.1 175 = .ok (.invokevirtual 229, 3) := by decide +kernel
theorem dX10_go_178 : decode mX10_go.2.1 178 = .ok (.ifCond .eq 60, 3) := by decide +kernel
theorem dX10_go_181 : decode mX10_go.2.1 181 = .ok (.aload_n 0, 1) := by decide +kernel
theorem dX10_go_182 : decode mX10_go.2.1 182 = .ok (.aload_n 0, 1) := by decide +kernel
theorem dX10_go_183 : decode mX10_go.2.1 183 = .ok (.getfield 211, 3) := by decide +kernel
theorem dX10_go_186 : decode mX10_go.2.1 186 = .ok (.aload_n 0, 1) := by decide +kernel
theorem dX10_go_187 : decode mX10_go.2.1 187 = .ok (.getfield 214, 3) := by decide +kernel
theorem dX10_go_190 : decode mX10_go.2.1 190 = .ok (.isub, 1) := by decide +kernel
theorem dX10_go_191 : decode mX10_go.2.1 191 = .ok (.iconst 4, 1) := by decide +kernel
theorem dX10_go_192 : decode mX10_go.2.1 192 = .ok (.if_icmp .ge 26, 3) := by decide +kernel
theorem dX10_go_195 : decode mX10_go.2.1 195 = .ok (.bipush 10, 2) := by decide +kernel
theorem dX10_go_197 : decode mX10_go.2.1 197 = .ok (.aload_n 0, 1) := by decide +kernel
theorem dX10_go_198 : decode mX10_go.2.1 198 = .ok (.getfield 226, 3) := by decide +kernel
theorem dX10_go_201 : decode mX10_go.2.1 201 = .ok (.imul, 1) := by decide +kernel
theorem dX10_go_202 : decode mX10_go.2.1 202 = .ok (.aload_n 0, 1) := by decide +kernel
theorem dX10_go_203 : decode mX10_go.2.1 203 = .ok (.getfield 44, 3) := by decide +kernel
theorem dX10_go_206 : decode mX10_go.2.1 206 = .ok (.aload_n 0, 1) := by decide +kernel
theorem dX10_go_207 : decode mX10_go.2.1 207 = .ok (.getfield 211, 3) := by decide +kernel
theorem dX10_go_210 : decode mX10_go.2.1 210 = .ok (.iaload, 1) := by decide +kernel
theorem dX10_go_211 : decode mX10_go.2.1 211 = .ok (.iadd, 1) := by decide +kernel
theorem dX10_go_212 : decode mX10_go.2.1 212 = .ok (.bipush 48, 2) := by decide +kernel
theorem dX10_go_214 : decode mX10_go.2.1 214 = .ok (.isub, 1) := by decide +kernel
theorem dX10_go_215 : decode mX10_go.2.1 215 = .ok (.goto 7, 3) := by decide +kernel
theorem dX10_go_218 : decode mX10_go.2.1 218 = .ok (.aload_n 0, 1) := by decide +kernel
theorem dX10_go_219 : decode mX10_go.2.1 219 = .ok (.getfield 226, 3) := by decide +kernel
theorem dX10_go_222 : decode mX10_go.2.1 222 = .ok (.putfield 226, 3) := by decide +kernel
theorem dX10_go_225 : decode mX10_go.2.1 225 = .ok (.aload_n 0, 1) := by decide +kernel
theorem dX10_go_226 : decode mX10_go.2.1 226 = .ok (.dup, 1) := by decide +kernel
theorem dX10_go_227 : decode mX10_go.2.1 227 = .ok (.getfield 211, 3) := by decide +kernel
theorem dX10_go_230 : decode mX10_go.2.1 230 = .ok (.iconst 1, 1) := by decide +kernel
theorem dX10_go_231 : decode mX10_go.2.1 231 = .ok (.iadd, 1) := by decide +kernel
theorem dX10_go_232 : decode mX10_go.2.1 232 = .ok (.putfield 211, 3) := by decide +kernel
theorem dX10_go_235 : decode mX10_go.2.1 235 = .ok (.goto (-65), 3) := by decide +kernel
theorem dX10_go_238 : decode mX10_go.2.1 238 = .ok (.aload_n 0, 1) := by decide +kernel
theorem dX10_go_239 : decode mX10_go.2.1 239 = .ok (.iload_n 1, 1) := by decide +kernel
theorem dX10_go_240 : decode mX10_go.2.1 240 = .ok (.ifCond .ne 16, 3) := by decide +kernel
theorem dX10_go_243 : decode mX10_go.2.1 243 = .ok (.aload_n 0, 1) := by decide +kernel
theorem dX10_go_244 : decode mX10_go.2.1 244 = .ok (.getfield 211, 3) := by decide +kernel
theorem dX10_go_247 : decode mX10_go.2.1 247 = .ok (.aload_n 0, 1) := by decide +kernel
theorem dX10_go_248 : decode mX10_go.2.1 248 = .ok (.getfield 214, 3) := by decide +kernel
theorem dX10_go_251 : decode mX10_go.2.1 251 = .ok (.isub, 1) := by decide +kernel
theorem dX10_go_252 : decode mX10_go.2.1 252 = .ok (.iconst 4, 1) := by decide +kernel
theorem dX10_go_253 : decode mX10_go.2.1 253 = .ok (.if_icmp .le 7, 3) := by decide +kernel
theorem dX10_go_256 : decode mX10_go.2.1 256 = .ok (.iconst 4, 1) := by decide +kernel
theorem dX10_go_257 : decode mX10_go.2.1 257 = .ok (.goto 4, 3) := by decide +kernel
theorem dX10_go_260 : decode mX10_go.2.1 260 = .ok (.iconst 2, 1) := by decide +kernel
theorem dX10_go_261 : decode mX10_go.2.1 261 = .ok (.putfield 220, 3) := by decide +kernel
theorem dX10_go_264 : decode mX10_go.2.1 264 = .ok (.aload_n 0, 1) := by decide +kernel
theorem dX10_go_265 : decode mX10_go.2.1 265 = .ok (.aload_n 0, 1) := by decide +kernel
theorem dX10_go_266 : decode mX10_go.2.1 266 = .ok (.getfield 211, 3) := by decide +kernel
theorem dX10_go_269 : decode mX10_go.2.1 269 = .ok (.putfield 217, 3) := by decide +kernel
theorem dX10_go_272 : decode mX10_go.2.1 272 = .ok (.goto 31, 3) := by decide +kernel
theorem dX10_go_275 : decode mX10_go.2.1 275 = .ok (.aload_n 0, 1) := by decide +kernel
theorem dX10_go_276 : decode mX10_go.2.1 276 = .ok (.iconst 3, 1) := by decide +kernel
theorem dX10_go_277 : decode mX10_go.2.1 277 = .ok (.putfield 220, 3) := by decide +kernel
theorem dX10_go_280 : decode mX10_go.2.1 280 = .ok (.aload_n 0, 1) := by decide +kernel
theorem dX10_go_281 : decode mX10_go.2.1 281 = .ok (.aload_n 0, 1) := by decide +kernel
theorem dX10_go_282 : decode mX10_go.2.1 282 = .ok (.getfield 44, 3) := by decide +kernel
theorem dX10_go_285 : decode mX10_go.2.1 285 = .ok (.aload_n 0, 1) := by decide +kernel
theorem dX10_go_286 : decode mX10_go.2.1 286 = .ok (.getfield 214, 3) := by decide +kernel
theorem dX10_go_289 : decode mX10_go.2.1 289 = .ok (.iaload, 1) := by decide +kernel
theorem dX10_go_290 : decode mX10_go.2.1 290 = .ok (.putfield 226, 3) := by decide +kernel
theorem dX10_go_293 : decode mX10_go.2.1 293 = .ok (.aload_n 0, 1) := by decide +kernel
theorem dX10_go_294 : decode mX10_go.2.1 294 = .ok (.dup, 1) := by decide +kernel
theorem dX10_go_295 : decode mX10_go.2.1 295 = .ok (.getfield 211, 3) := by decide +kernel
theorem dX10_go_298 : decode mX10_go.2.1 298 = .ok (.iconst 1, 1) := by decide +kernel
theorem dX10_go_299 : decode mX10_go.2.1 299 = .ok (.iadd, 1) := by decide +kernel
theorem dX10_go_300 : decode mX10_go.2.1 300 = .ok (.putfield 211, 3) := by decide +kernel
theorem dX10_go_303 : decode mX10_go.2.1 303 = .ok (.return_, 1) := by decide +kernel
theorem dX10_takesKey_0 : decode mX10_takesKey.2.1 0 = .ok (.aload_n 0, 1) := by decide +kernel
theorem dX10_takesKey_1 : decode mX10_takesKey.2.1 1 = .ok (.getfield 220, 3) := by decide +kernel
theorem dX10_takesKey_4 : decode mX10_takesKey.2.1 4 = .ok (.iconst 1, 1) := by decide +kernel
theorem dX10_takesKey_5 : decode mX10_takesKey.2.1 5 = .ok (.if_icmp .eq 5, 3) := by decide +kernel
theorem dX10_takesKey_8 : decode mX10_takesKey.2.1 8 = .ok (.iconst 0, 1) := by decide +kernel
theorem dX10_takesKey_9 : decode mX10_takesKey.2.1 9 = .ok (.ireturn, 1) := by decide +kernel
theorem dX10_takesKey_10 : decode mX10_takesKey.2.1 10 = .ok (.iconst 0, 1) := by decide +kernel
theorem dX10_takesKey_11 : decode mX10_takesKey.2.1 11 = .ok (.istore_n 1, 1) := by decide +kernel
theorem dX10_takesKey_12 : decode mX10_takesKey.2.1 12 = .ok (.iload_n 1, 1) := by decide +kernel
theorem dX10_takesKey_13 : decode mX10_takesKey.2.1 13 = .ok (.iconst 3, 1) := by decide +kernel
theorem dX10_takesKey_14 : decode mX10_takesKey.2.1 14 = .ok (.if_icmp .ge 113, 3) := by decide +kernel
theorem dX10_takesKey_17 : decode mX10_takesKey.2.1 17 = .ok (.aload_n 0, 1) := by decide +kernel
theorem dX10_takesKey_18 : decode mX10_takesKey.2.1 18 = .ok (.getfield 51, 3) := by decide +kernel
theorem dX10_takesKey_21 : decode mX10_takesKey.2.1 21 = .ok (.iload_n 1, 1) := by decide +kernel
theorem dX10_takesKey_22 : decode mX10_takesKey.2.1 22 = .ok (.iconst 1, 1) := by decide +kernel
theorem dX10_takesKey_23 : decode mX10_takesKey.2.1 23 = .ok (.iadd, 1) := by decide +kernel
theorem dX10_takesKey_24 : decode mX10_takesKey.2.1 24 = .ok (.iaload, 1) := by decide +kernel
theorem dX10_takesKey_25 : decode mX10_takesKey.2.1 25 = .ok (.aload_n 0, 1) := by decide +kernel
theorem dX10_takesKey_26 : decode mX10_takesKey.2.1 26 = .ok (.getfield 51, 3) := by decide +kernel
theorem dX10_takesKey_29 : decode mX10_takesKey.2.1 29 = .ok (.iload_n 1, 1) := by decide +kernel
theorem dX10_takesKey_30 : decode mX10_takesKey.2.1 30 = .ok (.iaload, 1) := by decide +kernel
theorem dX10_takesKey_31 : decode mX10_takesKey.2.1 31 = .ok (.isub, 1) := by decide +kernel
theorem dX10_takesKey_32 : decode mX10_takesKey.2.1 32 = .ok (.istore_n 2, 1) := by decide +kernel
theorem dX10_takesKey_33 : decode mX10_takesKey.2.1 33 = .ok (.iload_n 2, 1) := by decide +kernel
theorem dX10_takesKey_34 : decode mX10_takesKey.2.1 34 = .ok (.aload_n 0, 1) := by decide +kernel
theorem dX10_takesKey_35 : decode mX10_takesKey.2.1 35 = .ok (.getfield 211, 3) := by decide +kernel
theorem dX10_takesKey_38 : decode mX10_takesKey.2.1 38 = .ok (.aload_n 0, 1) := by decide +kernel
theorem dX10_takesKey_39 : decode mX10_takesKey.2.1 39 = .ok (.getfield 214, 3) := by decide +kernel
theorem dX10_takesKey_42 : decode mX10_takesKey.2.1 42 = .ok (.isub, 1) := by decide +kernel
theorem dX10_takesKey_43 : decode mX10_takesKey.2.1 43 = .ok (.if_icmp .ne 7, 3) := by decide +kernel
theorem dX10_takesKey_46 : decode mX10_takesKey.2.1 46 = .ok (.iconst 1, 1) := by decide +kernel
theorem dX10_takesKey_47 : decode mX10_takesKey.2.1 47 = .ok (.goto 4, 3) := by decide +kernel
theorem dX10_takesKey_50 : decode mX10_takesKey.2.1 50 = .ok (.iconst 0, 1) := by decide +kernel
theorem dX10_takesKey_51 : decode mX10_takesKey.2.1 51 = .ok (.istore_n 3, 1) := by decide +kernel
theorem dX10_takesKey_52 : decode mX10_takesKey.2.1 52 = .ok (.iconst 0, 1) := by decide +kernel
theorem dX10_takesKey_53 : decode mX10_takesKey.2.1 53 = .ok (.istore 4, 2) := by decide +kernel
theorem dX10_takesKey_55 : decode mX10_takesKey.2.1 55 = .ok (.iload 4, 2) := by decide +kernel
theorem dX10_takesKey_57 : decode mX10_takesKey.2.1 57 = .ok (.iload_n 2, 1) := by decide +kernel
theorem dX10_takesKey_58 : decode mX10_takesKey.2.1 58 = .ok (.if_icmp .ge 48, 3) := by decide +kernel
theorem dX10_takesKey_61 : decode mX10_takesKey.2.1 61 = .ok (.iload_n 3, 1) := by decide +kernel
theorem dX10_takesKey_62 : decode mX10_takesKey.2.1 62 = .ok (.ifCond .eq 44, 3) := by decide +kernel
theorem dX10_takesKey_65 : decode mX10_takesKey.2.1 65 = .ok (.aload_n 0, 1) := by decide +kernel
theorem dX10_takesKey_66 : decode mX10_takesKey.2.1 66 = .ok (.getfield 44, 3) := by decide +kernel
theorem dX10_takesKey_69 : decode mX10_takesKey.2.1 69 = .ok (.aload_n 0, 1) := by decide +kernel
theorem dX10_takesKey_70 : decode mX10_takesKey.2.1 70 = .ok (.getfield 214, 3) := by decide +kernel
theorem dX10_takesKey_73 : decode mX10_takesKey.2.1 73 = .ok (.iload 4, 2) := by decide +kernel
theorem dX10_takesKey_75 : decode mX10_takesKey.2.1 75 = .ok (.iadd, 1) := by decide +kernel
theorem dX10_takesKey_76 : decode mX10_takesKey.2.1 76 = .ok (.iaload, 1) := by decide +kernel
theorem dX10_takesKey_77 : decode mX10_takesKey.2.1 77 = .ok (.aload_n 0, 1) := by decide +kernel
theorem dX10_takesKey_78 : decode mX10_takesKey.2.1 78 = .ok (.getfield 47, 3) := by decide +kernel
theorem dX10_takesKey_81 : decode mX10_takesKey.2.1 81 = .ok (.aload_n 0, 1) := by decide +kernel
theorem dX10_takesKey_82 : decode mX10_takesKey.2.1 82 = .ok (.getfield 51, 3) := by decide +kernel
theorem dX10_takesKey_85 : decode mX10_takesKey.2.1 85 = .ok (.iload_n 1, 1) := by decide +kernel
theorem dX10_takesKey_86 : decode mX10_takesKey.2.1 86 = .ok (.iaload, 1) := by decide +kernel
theorem dX10_takesKey_87 : decode mX10_takesKey.2.1 87 = .ok (.iload 4, 2) := by decide +kernel
theorem dX10_takesKey_89 : decode mX10_takesKey.2.1 89 = .ok (.iadd, 1) := by decide +kernel
theorem dX10_takesKey_90 : decode mX10_takesKey.2.1 90 = .ok (.caload, 1) := by decide +kernel
theorem dX10_takesKey_91 : decode mX10_takesKey.2.1 91 = .ok (.if_icmp .ne 7, 3) := by decide +kernel
theorem dX10_takesKey_94 : decode mX10_takesKey.2.1 94 = .ok (.iconst 1, 1) := by decide +kernel
theorem dX10_takesKey_95 : decode mX10_takesKey.2.1 95 = .ok (.goto 4, 3) := by decide +kernel
theorem dX10_takesKey_98 : decode mX10_takesKey.2.1 98 = .ok (.iconst 0, 1) := by decide +kernel
theorem dX10_takesKey_99 : decode mX10_takesKey.2.1 99 = .ok (.istore_n 3, 1) := by decide +kernel
