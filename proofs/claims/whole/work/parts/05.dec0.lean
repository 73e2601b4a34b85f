theorem dX0_init_0 : decode mX0_init.2.1 0 = .ok (.aload_n 0, 1) := by decide +kernel
theorem dX0_init_1 : decode mX0_init.2.1 1 = .ok (.invokespecial 1, 3) := by decide +kernel
theorem dX0_init_4 : decode mX0_init.2.1 4 = .ok (.aload_n 0, 1) := by decide +kernel
theorem dX0_init_5 : decode mX0_init.2.1 5 = .ok (.iconst 1, 1) := by decide +kernel
theorem dX0_init_6 : decode mX0_init.2.1 6 = .ok (.putfield 7, 3) := by decide +kernel
theorem dX0_init_9 : decode mX0_init.2.1 9 = .ok (.return_, 1) := by decide +kernel
theorem dX0_restBy_0 : decode mX0_restBy.2.1 0 = .ok (.aload_n 0, 1) := by decide +kernel
theorem dX0_restBy_1 : decode mX0_restBy.2.1 1 = .ok (.aload_n 0, 1) := by decide +kernel
theorem dX0_restBy_2 : decode mX0_restBy.2.1 2 = .ok (.getfield 7, 3) := by decide +kernel
theorem dX0_restBy_5 : decode mX0_restBy.2.1 5 = .ok (.ldc 13, 2) := by decide +kernel
theorem dX0_restBy_7 : decode mX0_restBy.2.1 7 = .ok (.imul, 1) := by decide +kernel
theorem dX0_restBy_8 : decode mX0_restBy.2.1 8 = .ok (.sipush 12345, 3) := by decide +kernel
theorem dX0_restBy_11 : decode mX0_restBy.2.1 11 = .ok (.iadd, 1) := by decide +kernel
theorem dX0_restBy_12 : decode mX0_restBy.2.1 12 = .ok (.putfield 7, 3) := by decide +kernel
theorem dX0_restBy_15 : decode mX0_restBy.2.1 15 = .ok (.iload_n 1, 1) := by decide +kernel
theorem dX0_restBy_16 : decode mX0_restBy.2.1 16 = .ok (.ifCond .le 15, 3) := by decide +kernel
theorem dX0_restBy_19 : decode mX0_restBy.2.1 19 = .ok (.aload_n 0, 1) := by decide +kernel
theorem dX0_restBy_20 : decode mX0_restBy.2.1 20 = .ok (.getfield 7, 3) := by decide +kernel
theorem dX0_restBy_23 : decode mX0_restBy.2.1 23 = .ok (.bipush 8, 2) := by decide +kernel
theorem dX0_restBy_25 : decode mX0_restBy.2.1 25 = .ok (.iushr, 1) := by decide +kernel
theorem dX0_restBy_26 : decode mX0_restBy.2.1 26 = .ok (.iload_n 1, 1) := by decide +kernel
theorem dX0_restBy_27 : decode mX0_restBy.2.1 27 = .ok (.irem, 1) := by decide +kernel
theorem dX0_restBy_28 : decode mX0_restBy.2.1 28 = .ok (.goto 4, 3) := by decide +kernel
theorem dX0_restBy_31 : decode mX0_restBy.2.1 31 = .ok (.iconst 0, 1) := by decide +kernel
theorem dX0_restBy_32 : decode mX0_restBy.2.1 32 = .ok (.ireturn, 1) := by decide +kernel
theorem dX1_init_0 : decode mX1_init.2.1 0 = .ok (.aload_n 0, 1) := by decide +kernel
theorem dX1_init_1 : decode mX1_init.2.1 1 = .ok (.invokespecial 3, 3) := by decide +kernel
theorem dX1_init_4 : decode mX1_init.2.1 4 = .ok (.aload_n 0, 1) := by decide +kernel
theorem dX1_init_5 : decode mX1_init.2.1 5 = .ok (.new 9, 3) := by decide +kernel
theorem dX1_init_8 : decode mX1_init.2.1 8 = .ok (.dup, 1) := by decide +kernel
theorem dX1_init_9 : decode mX1_init.2.1 9 = .ok (.invokespecial 11, 3) := by decide +kernel
theorem dX1_init_12 : decode mX1_init.2.1 12 = .ok (.putfield 12, 3) := by decide +kernel
theorem dX1_init_15 : decode mX1_init.2.1 15 = .ok (.aload_n 0, 1) := by decide +kernel
theorem dX1_init_16 : decode mX1_init.2.1 16 = .ok (.bipush 96, 2) := by decide +kernel
theorem dX1_init_18 : decode mX1_init.2.1 18 = .ok (.newarray .int, 2) := by decide +kernel
theorem dX1_init_20 : decode mX1_init.2.1 20 = .ok (.putfield 18, 3) := by decide +kernel
theorem dX1_init_23 : decode mX1_init.2.1 23 = .ok (.aload_n 0, 1) := by decide +kernel
theorem dX1_init_24 : decode mX1_init.2.1 24 = .ok (.iconst 0, 1) := by decide +kernel
theorem dX1_init_25 : decode mX1_init.2.1 25 = .ok (.putfield 22, 3) := by decide +kernel
theorem dX1_init_28 : decode mX1_init.2.1 28 = .ok (.aload_n 0, 1) := by decide +kernel
theorem dX1_init_29 : decode mX1_init.2.1 29 = .ok (.iconst 0, 1) := by decide +kernel
theorem dX1_init_30 : decode mX1_init.2.1 30 = .ok (.putfield 26, 3) := by decide +kernel
theorem dX1_init_33 : decode mX1_init.2.1 33 = .ok (.aload_n 0, 1) := by decide +kernel
theorem dX1_init_34 : decode mX1_init.2.1 34 = .ok (.iconst 0, 1) := by decide +kernel
theorem dX1_init_35 : decode mX1_init.2.1 35 = .ok (.putfield 29, 3) := by decide +kernel
theorem dX1_init_38 : decode mX1_init.2.1 38 = .ok (.aload_n 0, 1) := by decide +kernel
theorem dX1_init_39 : decode mX1_init.2.1 39 = .ok (.ldc 32, 2) := by decide +kernel
theorem dX1_init_41 : decode mX1_init.2.1 41 = .ok (.putfield 33, 3) := by decide +kernel
theorem dX1_init_44 : decode mX1_init.2.1 44 = .ok (.return_, 1) := by decide +kernel
theorem dX1_findFault_0 : decode mX1_findFault.2.1 0 = .ok (.aload_n 0, 1) := by decide +kernel
theorem dX1_findFault_1 : decode mX1_findFault.2.1 1 = .ok (.iconst 0, 1) := by decide +kernel
theorem dX1_findFault_2 : decode mX1_findFault.2.1 2 = .ok (.putfield 22, 3) := by decide +kernel
theorem dX1_findFault_5 : decode mX1_findFault.2.1 5 = .ok (.aload_n 0, 1) := by decide +kernel
theorem dX1_findFault_6 : decode mX1_findFault.2.1 6 = .ok (.iconst 0, 1) := by decide +kernel
theorem dX1_findFault_7 : decode mX1_findFault.2.1 7 = .ok (.putfield 26, 3) := by decide +kernel
theorem dX1_findFault_10 : decode mX1_findFault.2.1 10 = .ok (.aload_n 0, 1) := by decide +kernel
theorem dX1_findFault_11 : decode mX1_findFault.2.1 11 = .ok (.ldc 32, 2) := by decide +kernel
theorem dX1_findFault_13 : decode mX1_findFault.2.1 13 = .ok (.putfield 33, 3) := by decide +kernel
theorem dX1_findFault_16 : decode mX1_findFault.2.1 16 = .ok (.aload_n 0, 1) := by decide +kernel
theorem dX1_findFault_17 : decode mX1_findFault.2.1 17 = .ok (.getfield 12, 3) := by decide +kernel
theorem dX1_findFault_20 : decode mX1_findFault.2.1 20 = .ok (.invokevirtual 36, 3) := by decide +kernel
theorem dX1_findFault_23 : decode mX1_findFault.2.1 23 = .ok (.aload_n 0, 1) := by decide +kernel
theorem dX1_findFault_24 : decode mX1_findFault.2.1 24 = .ok (.aload_n 0, 1) := by decide +kernel
theorem dX1_findFault_25 : decode mX1_findFault.2.1 25 = .ok (.invokevirtual 39, 3) := by decide +kernel
theorem dX1_findFault_28 : decode mX1_findFault.2.1 28 = .ok (.putfield 29, 3) := by decide +kernel
theorem dX1_findFault_31 : decode mX1_findFault.2.1 31 = .ok (.aload_n 0, 1) := by decide +kernel
theorem dX1_findFault_32 : decode mX1_findFault.2.1 32 = .ok (.getfield 29, 3) := by decide +kernel
theorem dX1_findFault_35 : decode mX1_findFault.2.1 35 = .ok (.ldc 32, 2) := by decide +kernel
theorem dX1_findFault_37 : decode mX1_findFault.2.1 37 = .ok (.if_icmp .ne 12, 3) := by decide +kernel
theorem dX1_findFault_40 : decode mX1_findFault.2.1 40 = .ok (.aload_n 0, 1) := by decide +kernel
theorem dX1_findFault_41 : decode mX1_findFault.2.1 41 = .ok (.invokevirtual 43, 3) := by decide +kernel
theorem dX1_findFault_44 : decode mX1_findFault.2.1 44 = .ok (.aload_n 0, 1) := by decide +kernel
theorem dX1_findFault_45 : decode mX1_findFault.2.1 45 = .ok (.getfield 33, 3) := by decide +kernel
theorem dX1_findFault_48 : decode mX1_findFault.2.1 48 = .ok (.ireturn, 1) := by decide +kernel
theorem dX1_findFault_49 : decode mX1_findFault.2.1 49 = .ok (.aload_n 0, 1) := by decide +kernel
theorem dX1_findFault_50 : decode mX1_findFault.2.1 50 = .ok (.getfield 12, 3) := by decide +kernel
theorem dX1_findFault_53 : decode mX1_findFault.2.1 53 = .ok (.invokevirtual 46, 3) := by decide +kernel
theorem dX1_findFault_56 : decode mX1_findFault.2.1 56 = .ok (.aload_n 0, 1) := by decide +kernel
theorem dX1_findFault_57 : decode mX1_findFault.2.1 57 = .ok (.iconst 0, 1) := by decide +kernel
theorem dX1_findFault_58 : decode mX1_findFault.2.1 58 = .ok (.iconst 0, 1) := by decide +kernel
theorem dX1_findFault_59 : decode mX1_findFault.2.1 59 = .ok (.iconst 0, 1) := by decide +kernel
theorem dX1_findFault_60 : decode mX1_findFault.2.1 60 = .ok (.invokevirtual 49, 3) := by decide +kernel
theorem dX1_findFault_63 : decode mX1_findFault.2.1 63 = .ok (.aload_n 0, 1) := by decide +kernel
theorem dX1_findFault_64 : decode mX1_findFault.2.1 64 = .ok (.getfield 12, 3) := by decide +kernel
theorem dX1_findFault_67 : decode mX1_findFault.2.1 67 = .ok (.getfield 53, 3) := by decide +kernel
theorem dX1_findFault_70 : decode mX1_findFault.2.1 70 = .ok (.iconst (-1), 1) := by decide +kernel
theorem dX1_findFault_71 : decode mX1_findFault.2.1 71 = .ok (.if_icmp .eq 7, 3) := by decide +kernel
theorem dX1_findFault_74 : decode mX1_findFault.2.1 74 = .ok (.aload_n 0, 1) := by decide +kernel
theorem dX1_findFault_75 : decode mX1_findFault.2.1 75 = .ok (.invokevirtual 43, 3) := by decide +kernel
theorem dX1_findFault_78 : decode mX1_findFault.2.1 78 = .ok (.aload_n 0, 1) := by decide +kernel
theorem dX1_findFault_79 : decode mX1_findFault.2.1 79 = .ok (.getfield 33, 3) := by decide +kernel
theorem dX1_findFault_82 : decode mX1_findFault.2.1 82 = .ok (.ireturn, 1) := by decide +kernel
theorem dX1_made_0 : decode mX1_made.2.1 0 = .ok (.new 56, 3) := by decide +kernel
theorem dX1_made_3 : decode mX1_made.2.1 3 = .ok (.dup, 1) := by decide +kernel
theorem dX1_made_4 : decode mX1_made.2.1 4 = .ok (.aload_n 0, 1) := by decide +kernel
theorem dX1_made_5 : decode mX1_made.2.1 5 = .ok (.getfield 29, 3) := by decide +kernel
theorem dX1_made_8 : decode mX1_made.2.1 8 = .ok (.aload_n 0, 1) := by decide +kernel
theorem dX1_made_9 : decode mX1_made.2.1 9 = .ok (.getfield 26, 3) := by decide +kernel
theorem dX1_made_12 : decode mX1_made.2.1 12 = .ok (.aload_n 0, 1) := by decide +kernel
theorem dX1_made_13 : decode mX1_made.2.1 13 = .ok (.getfield 18, 3) := by decide +kernel
theorem dX1_made_16 : decode mX1_made.2.1 16 = .ok (.aload_n 0, 1) := by decide +kernel
theorem dX1_made_17 : decode mX1_made.2.1 17 = .ok (.getfield 22, 3) := by decide +kernel
theorem dX1_made_20 : decode mX1_made.2.1 20 = .ok (.invokestatic 58, 3) := by decide +kernel
theorem dX1_made_23 : decode mX1_made.2.1 23 = .ok (.invokespecial 64, 3) := by decide +kernel
theorem dX1_made_26 : decode mX1_made.2.1 26 = .ok (.areturn, 1) := by decide +kernel
theorem dX1_refuse_0 : decode mX1_refuse.2.1 0 = .ok (.aload_n 0, 1) := by decide +kernel
theorem dX1_refuse_1 : decode mX1_refuse.2.1 1 = .ok (.getfield 33, 3) := by decide +kernel
theorem dX1_refuse_4 : decode mX1_refuse.2.1 4 = .ok (.ldc 32, 2) := by decide +kernel
theorem dX1_refuse_6 : decode mX1_refuse.2.1 6 = .ok (.if_icmp .ne 14, 3) := by decide +kernel
theorem dX1_refuse_9 : decode mX1_refuse.2.1 9 = .ok (.aload_n 0, 1) := by decide +kernel
theorem dX1_refuse_10 : decode mX1_refuse.2.1 10 = .ok (.aload_n 0, 1) := by decide +kernel
theorem dX1_refuse_11 : decode mX1_refuse.2.1 11 = .ok (.getfield 12, 3) := by decide +kernel
theorem dX1_refuse_14 : decode mX1_refuse.2.1 14 = .ok (.getfield 67, 3) := by decide +kernel
theorem dX1_refuse_17 : decode mX1_refuse.2.1 17 = .ok (.putfield 33, 3) := by decide +kernel
theorem dX1_refuse_20 : decode mX1_refuse.2.1 20 = .ok (.aload_n 0, 1) := by decide +kernel
theorem dX1_refuse_21 : decode mX1_refuse.2.1 21 = .ok (.getfield 12, 3) := by decide +kernel
theorem dX1_refuse_24 : decode mX1_refuse.2.1 24 = .ok (.invokevirtual 70, 3) := by decide +kernel
theorem dX1_refuse_27 : decode mX1_refuse.2.1 27 = .ok (.return_, 1) := by decide +kernel
theorem dX1_keyInHand_0 : decode mX1_keyInHand.2.1 0 = .ok (.aload_n 0, 1) := by decide +kernel
theorem dX1_keyInHand_1 : decode mX1_keyInHand.2.1 1 = .ok (.getfield 12, 3) := by decide +kernel
theorem dX1_keyInHand_4 : decode mX1_keyInHand.2.1 4 = .ok (.ldc 73, 2) := by decide +kernel
theorem dX1_keyInHand_6 : decode mX1_keyInHand.2.1 6 = .ok (.invokevirtual 75, 3) := by decide +kernel
theorem dX1_keyInHand_9 : decode mX1_keyInHand.2.1 9 = .ok (.ifCond .eq 5, 3) := by decide +kernel
theorem dX1_keyInHand_12 : decode mX1_keyInHand.2.1 12 = .ok (.iconst 0, 1) := by decide +kernel
theorem dX1_keyInHand_13 : decode mX1_keyInHand.2.1 13 = .ok (.ireturn, 1) := by decide +kernel
theorem dX1_keyInHand_14 : decode mX1_keyInHand.2.1 14 = .ok (.aload_n 0, 1) := by decide +kernel
theorem dX1_keyInHand_15 : decode mX1_keyInHand.2.1 15 = .ok (.getfield 12, 3) := by decide +kernel
theorem dX1_keyInHand_18 : decode mX1_keyInHand.2.1 18 = .ok (.ldc 79, 2) := by decide +kernel
theorem dX1_keyInHand_20 : decode mX1_keyInHand.2.1 20 = .ok (.invokevirtual 75, 3) := by decide +kernel
theorem dX1_keyInHand_23 : decode mX1_keyInHand.2.1 23 = .ok (.ifCond .eq 5, 3) := by decide +kernel
theorem dX1_keyInHand_26 : decode mX1_keyInHand.2.1 26 = .ok (.iconst 1, 1) := by decide +kernel
theorem dX1_keyInHand_27 : decode mX1_keyInHand.2.1 27 = .ok (.ireturn, 1) := by decide +kernel
theorem dX1_keyInHand_28 : decode mX1_keyInHand.2.1 28 = .ok (.aload_n 0, 1) := by decide +kernel
theorem dX1_keyInHand_29 : decode mX1_keyInHand.2.1 29 = .ok (.getfield 12, 3) := by decide +kernel
theorem dX1_keyInHand_32 : decode mX1_keyInHand.2.1 32 = .ok (.ldc 81, 2) := by decide +kernel
theorem dX1_keyInHand_34 : decode mX1_keyInHand.2.1 34 = .ok (.invokevirtual 75, 3) := by decide +kernel
theorem dX1_keyInHand_37 : decode mX1_keyInHand.2.1 37 = .ok (.ifCond .eq 7, 3) := by decide +kernel
theorem dX1_keyInHand_40 : decode mX1_keyInHand.2.1 40 = .ok (.iconst 2, 1) := by decide +kernel
theorem dX1_keyInHand_41 : decode mX1_keyInHand.2.1 41 = .ok (.goto 5, 3) := by decide +kernel
theorem dX1_keyInHand_44 : decode mX1_keyInHand.2.1 44 = .ok (.ldc 32, 2) := by decide +kernel
theorem dX1_keyInHand_46 : decode mX1_keyInHand.2.1 46 = .ok (.ireturn, 1) := by decide +kernel
theorem dX1_names_0 : decode mX1_names.2.1 0 = .ok (.aload_n 0, 1) := by decide +kernel
theorem dX1_names_1 : decode mX1_names.2.1 1 = .ok (.getfield 29, 3) := by decide +kernel
theorem dX1_names_4 : decode mX1_names.2.1 4 = .ok (.ifCond .ne 8, 3) := by decide +kernel
theorem dX1_names_7 : decode mX1_names.2.1 7 = .ok (.ldc 83, 2) := by decide +kernel
theorem dX1_names_9 : decode mX1_names.2.1 9 = .ok (.goto 18, 3) := by decide +kernel
theorem dX1_names_12 : decode mX1_names.2.1 12 = .ok (.aload_n 0, 1) := by decide +kernel
theorem dX1_names_13 : decode mX1_names.2.1 13 = .ok (.getfield 29, 3) := by decide +kernel
theorem dX1_names_16 : decode mX1_names.2.1 16 = .ok (.iconst 1, 1) := by decide +kernel
theorem dX1_names_17 : decode mX1_names.2.1 17 = .ok (.if_icmp .ne 8, 3) := by decide +kernel
theorem dX1_names_20 : decode mX1_names.2.1 20 = .ok (.ldc 85, 2) := by decide +kernel
theorem dX1_names_22 : decode mX1_names.2.1 22 = .ok (.goto 5, 3) := by decide +kernel
theorem dX1_names_25 : decode mX1_names.2.1 25 = .ok (.ldc 87, 2) := by decide +kernel
theorem dX1_names_27 : decode mX1_names.2.1 27 = .ok (.areturn, 1) := by decide +kernel
theorem dX1_readLevel_0 : decode mX1_readLevel.2.1 0 = .ok (.iload_n 1, 1) := by decide +kernel
theorem dX1_readLevel_1 : decode mX1_readLevel.2.1 1 = .ok (.iconst 4, 1) := by decide +kernel
theorem dX1_readLevel_2 : decode mX1_readLevel.2.1 2 = .ok (.if_icmp .le 10, 3) := by decide +kernel
theorem dX1_readLevel_5 : decode mX1_readLevel.2.1 5 = .ok (.aload_n 0, 1) := by decide +kernel
theorem dX1_readLevel_6 : decode mX1_readLevel.2.1 6 = .ok (.iload_n 2, 1) := by decide +kernel
theorem dX1_readLevel_7 : decode mX1_readLevel.2.1 7 = .ok (.iload_n 3, 1) := by decide +kernel
theorem dX1_readLevel_8 : decode mX1_readLevel.2.1 8 = .ok (.invokevirtual 89, 3) := by decide +kernel
theorem dX1_readLevel_11 : decode mX1_readLevel.2.1 11 = .ok (.return_, 1) := by decide +kernel
theorem dX1_readLevel_12 : decode mX1_readLevel.2.1 12 = .ok (.aload_n 0, 1) := by decide +kernel
theorem dX1_readLevel_13 : decode mX1_readLevel.2.1 13 = .ok (.iload_n 1, 1) := by decide +kernel
theorem dX1_readLevel_14 : decode mX1_readLevel.2.1 14 = .ok (.iconst 1, 1) := by decide +kernel
theorem dX1_readLevel_15 : decode mX1_readLevel.2.1 15 = .ok (.iadd, 1) := by decide +kernel
theorem dX1_readLevel_16 : decode mX1_readLevel.2.1 16 = .ok (.iload_n 2, 1) := by decide +kernel
theorem dX1_readLevel_17 : decode mX1_readLevel.2.1 17 = .ok (.iload_n 3, 1) := by decide +kernel
theorem dX1_readLevel_18 : decode mX1_readLevel.2.1 18 = .ok (.invokevirtual 49, 3) := by decide +kernel
theorem dX1_readLevel_21 : decode mX1_readLevel.2.1 21 = .ok (.iload_n 1, 1) := by decide +kernel
theorem dX1_readLevel_22 : decode mX1_readLevel.2.1 22 = .ok (.iconst 2, 1) := by decide +kernel
theorem dX1_readLevel_23 : decode mX1_readLevel.2.1 23 = .ok (.if_icmp .ne 7, 3) := by decide +kernel
theorem dX1_readLevel_26 : decode mX1_readLevel.2.1 26 = .ok (.iconst 1, 1) := by decide +kernel
theorem dX1_readLevel_27 : decode mX1_readLevel.2.1 27 = .ok (.goto 5, 3) := by decide +kernel
theorem dX1_readLevel_30 : decode mX1_readLevel.2.1 30 = .ok (.bipush 96, 2) := by decide +kernel
theorem dX1_readLevel_32 : decode mX1_readLevel.2.1 32 = .ok (.istore 4, 2) := by decide +kernel
theorem dX1_readLevel_34 : decode mX1_readLevel.2.1 34 = .ok (.iconst 0, 1) := by decide +kernel
theorem dX1_readLevel_35 : decode mX1_readLevel.2.1 35 = .ok (.istore 5, 2) := by decide +kernel
theorem dX1_readLevel_37 : decode mX1_readLevel.2.1 37 = .ok (.iload 5, 2) := by decide +kernel
theorem dX1_readLevel_39 : decode mX1_readLevel.2.1 39 = .ok (.iload 4, 2) := by decide +kernel
theorem dX1_readLevel_41 : decode mX1_readLevel.2.1 41 = .ok (.if_icmp .ge 58, 3) := by decide +kernel
theorem dX1_readLevel_44 : decode mX1_readLevel.2.1 44 = .ok (.aload_n 0, 1) := by decide +kernel
theorem dX1_readLevel_45 : decode mX1_readLevel.2.1 45 = .ok (.getfield 12, 3) := by decide +kernel
theorem dX1_readLevel_48 : decode mX1_readLevel.2.1 48 = .ok (.getfield 53, 3) := by decide +kernel
theorem dX1_readLevel_51 : decode mX1_readLevel.2.1 51 = .ok (.invokestatic 93, 3) := by decide +kernel
theorem dX1_readLevel_54 : decode mX1_readLevel.2.1 54 = .ok (.iload_n 1, 1) := by decide +kernel
theorem dX1_readLevel_55 : decode mX1_readLevel.2.1 55 = .ok (.if_icmp .ne 44, 3) := by decide +kernel
theorem dX1_readLevel_58 : decode mX1_readLevel.2.1 58 = .ok (.aload_n 0, 1) := by decide +kernel
theorem dX1_readLevel_59 : decode mX1_readLevel.2.1 59 = .ok (.getfield 12, 3) := by decide +kernel
theorem dX1_readLevel_62 : decode mX1_readLevel.2.1 62 = .ok (.getfield 53, 3) := by decide +kernel
theorem dX1_readLevel_65 : decode mX1_readLevel.2.1 65 = .ok (.istore 6, 2) := by decide +kernel
theorem dX1_readLevel_67 : decode mX1_readLevel.2.1 67 = .ok (.aload_n 0, 1) := by decide +kernel
theorem dX1_readLevel_68 : decode mX1_readLevel.2.1 68 = .ok (.getfield 12, 3) := by decide +kernel
theorem dX1_readLevel_71 : decode mX1_readLevel.2.1 71 = .ok (.invokevirtual 46, 3) := by decide +kernel
theorem dX1_readLevel_74 : decode mX1_readLevel.2.1 74 = .ok (.aload_n 0, 1) := by decide +kernel
theorem dX1_readLevel_75 : decode mX1_readLevel.2.1 75 = .ok (.iload_n 1, 1) := by decide +kernel
theorem dX1_readLevel_76 : decode mX1_readLevel.2.1 76 = .ok (.iconst 1, 1) := by decide +kernel
theorem dX1_readLevel_77 : decode mX1_readLevel.2.1 77 = .ok (.iadd, 1) := by decide +kernel
theorem dX1_readLevel_78 : decode mX1_readLevel.2.1 78 = .ok (.iload_n 2, 1) := by decide +kernel
theorem dX1_readLevel_79 : decode mX1_readLevel.2.1 79 = .ok (.iload_n 3, 1) := by decide +kernel
theorem dX1_readLevel_80 : decode mX1_readLevel.2.1 80 = .ok (.invokevirtual 49, 3) := by decide +kernel
theorem dX1_readLevel_83 : decode mX1_readLevel.2.1 83 = .ok (.aload_n 0, 1) := by decide +kernel
theorem dX1_readLevel_84 : decode mX1_readLevel.2.1 84 = .ok (.sipush 20000, 3) := by decide +kernel
theorem dX1_readLevel_87 : decode mX1_readLevel.2.1 87 = .ok (.iload 6, 2) := by decide +kernel
theorem dX1_readLevel_89 : decode mX1_readLevel.2.1 89 = .ok (.iadd, 1) := by decide +kernel
theorem dX1_readLevel_90 : decode mX1_readLevel.2.1 90 = .ok (.invokevirtual 97, 3) := by decide +kernel
theorem dX1_readLevel_93 : decode mX1_readLevel.2.1 93 = .ok (.iinc 5 1, 3) := by decide +kernel
theorem dX1_readLevel_96 : decode mX1_readLevel.2.1 96 = .ok (.goto (-59), 3) := by decide +kernel
theorem dX1_readLevel_99 : decode mX1_readLevel.2.1 99 = .ok (.return_, 1) := by decide +kernel
theorem dX1_levelOf_0 : decode mX1_levelOf.2.1 0 = .ok (.iload_n 0, 1) := by decide +kernel
theorem dX1_levelOf_1 : decode mX1_levelOf.2.1 1 = .ok (.lookupswitch 93 #[(38, 85), (42, 91), (43, 89), (45, 89), (47, 91), (60, 87), (61, 87), (62, 87), (124, 83)], 83) := by decide +kernel
theorem dX1_levelOf_84 : decode mX1_levelOf.2.1 84 = .ok (.iconst 0, 1) := by decide +kernel
theorem dX1_levelOf_85 : decode mX1_levelOf.2.1 85 = .ok (.ireturn, 1) := by decide +kernel
theorem dX1_levelOf_86 : decode mX1_levelOf.2.1 86 = .ok (.iconst 1, 1) := by decide +kernel
theorem dX1_levelOf_87 : decode mX1_levelOf.2.1 87 = .ok (.ireturn, 1) := by decide +kernel
theorem dX1_levelOf_88 : decode mX1_levelOf.2.1 88 = .ok (.iconst 2, 1) := by decide +kernel
theorem dX1_levelOf_89 : decode mX1_levelOf.2.1 89 = .ok (.ireturn, 1) := by decide +kernel
theorem dX1_levelOf_90 : decode mX1_levelOf.2.1 90 = .ok (.iconst 3, 1) := by decide +kernel
theorem dX1_levelOf_91 : decode mX1_levelOf.2.1 91 = .ok (.ireturn, 1) := by decide +kernel
theorem dX1_levelOf_92 : decode mX1_levelOf.2.1 92 = .ok (.iconst 4, 1) := by decide +kernel
theorem dX1_levelOf_93 : decode mX1_levelOf.2.1 93 = .ok (.ireturn, 1) := by decide +kernel
theorem dX1_levelOf_94 : decode mX1_levelOf.2.1 94 = .ok (.ldc 32, 2) := by decide +kernel
theorem dX1_levelOf_96 : decode mX1_levelOf.2.1 96 = .ok (.ireturn, 1) := by decide +kernel
theorem dX1_readPiece_0 : decode mX1_readPiece.2.1 0 = .ok (.aload_n 0, 1) := by decide +kernel
theorem dX1_readPiece_1 : decode mX1_readPiece.2.1 1 = .ok (.getfield 12, 3) := by decide +kernel
theorem dX1_readPiece_4 : decode mX1_readPiece.2.1 4 = .ok (.aload_n 0, 1) := by decide +kernel
theorem dX1_readPiece_5 : decode mX1_readPiece.2.1 5 = .ok (.invokevirtual 101, 3) := by decide +kernel
theorem dX1_readPiece_8 : decode mX1_readPiece.2.1 8 = .ok (.invokevirtual 105, 3) := by decide +kernel
theorem dX1_readPiece_11 : decode mX1_readPiece.2.1 11 = .ok (.istore_n 3, 1) := by decide +kernel
theorem dX1_readPiece_12 : decode mX1_readPiece.2.1 12 = .ok (.aload_n 0, 1) := by decide +kernel
theorem dX1_readPiece_13 : decode mX1_readPiece.2.1 13 = .ok (.getfield 12, 3) := by decide +kernel
theorem dX1_readPiece_16 : decode mX1_readPiece.2.1 16 = .ok (.getfield 53, 3) := by decide +kernel
theorem dX1_readPiece_19 : decode mX1_readPiece.2.1 19 = .ok (.sipush 257, 3) := by decide +kernel
theorem dX1_readPiece_22 : decode mX1_readPiece.2.1 22 = .ok (.if_icmp .ne 24, 3) := by decide +kernel
theorem dX1_readPiece_25 : decode mX1_readPiece.2.1 25 = .ok (.aload_n 0, 1) := by decide +kernel
theorem dX1_readPiece_26 : decode mX1_readPiece.2.1 26 = .ok (.aload_n 0, 1) := by decide +kernel
theorem dX1_readPiece_27 : decode mX1_readPiece.2.1 27 = .ok (.getfield 12, 3) := by decide +kernel
theorem dX1_readPiece_30 : decode mX1_readPiece.2.1 30 = .ok (.invokevirtual 109, 3) := by decide +kernel
theorem dX1_readPiece_33 : decode mX1_readPiece.2.1 33 = .ok (.invokevirtual 112, 3) := by decide +kernel
theorem dX1_readPiece_36 : decode mX1_readPiece.2.1 36 = .ok (.aload_n 0, 1) := by decide +kernel
theorem dX1_readPiece_37 : decode mX1_readPiece.2.1 37 = .ok (.getfield 12, 3) := by decide +kernel
theorem dX1_readPiece_40 : decode mX1_readPiece.2.1 40 = .ok (.invokevirtual 46, 3) := by decide +kernel
theorem dX1_readPiece_43 : decode mX1_readPiece.2.1 43 = .ok (.goto 136, 3) := by decide +kernel
theorem dX1_readPiece_46 : decode mX1_readPiece.2.1 46 = .ok (.iload_n 3, 1) := by decide +kernel
theorem dX1_readPiece_47 : decode mX1_readPiece.2.1 47 = .ok (.ifCond .lt 22, 3) := by decide +kernel
theorem dX1_readPiece_50 : decode mX1_readPiece.2.1 50 = .ok (.aload_n 0, 1) := by decide +kernel
theorem dX1_readPiece_51 : decode mX1_readPiece.2.1 51 = .ok (.sipush 10000, 3) := by decide +kernel
theorem dX1_readPiece_54 : decode mX1_readPiece.2.1 54 = .ok (.iload_n 3, 1) := by decide +kernel
theorem dX1_readPiece_55 : decode mX1_readPiece.2.1 55 = .ok (.iadd, 1) := by decide +kernel
theorem dX1_readPiece_56 : decode mX1_readPiece.2.1 56 = .ok (.invokevirtual 112, 3) := by decide +kernel
theorem dX1_readPiece_59 : decode mX1_readPiece.2.1 59 = .ok (.aload_n 0, 1) := by decide +kernel
theorem dX1_readPiece_60 : decode mX1_readPiece.2.1 60 = .ok (.getfield 12, 3) := by decide +kernel
theorem dX1_readPiece_63 : decode mX1_readPiece.2.1 63 = .ok (.invokevirtual 46, 3) := by decide +kernel
theorem dX1_readPiece_66 : decode mX1_readPiece.2.1 66 = .ok (.goto 113, 3) := by decide +kernel
theorem dX1_readPiece_69 : decode mX1_readPiece.2.1 69 = .ok (.aload_n 0, 1) := by decide +kernel
theorem dX1_readPiece_70 : decode mX1_readPiece.2.1 70 = .ok (.getfield 12, 3) := by decide +kernel
theorem dX1_readPiece_73 : decode mX1_readPiece.2.1 73 = .ok (.getfield 53, 3) := by decide +kernel
theorem dX1_readPiece_76 : decode mX1_readPiece.2.1 76 = .ok (.bipush 33, 2) := by decide +kernel
theorem dX1_readPiece_78 : decode mX1_readPiece.2.1 78 = .ok (.if_icmp .ne 34, 3) := by decide +kernel
theorem dX1_readPiece_81 : decode mX1_readPiece.2.1 81 = .ok (.iload_n 2, 1) := by decide +kernel
theorem dX1_readPiece_82 : decode mX1_readPiece.2.1 82 = .ok (.bipush 8, 2) := by decide +kernel
theorem dX1_readPiece_84 : decode mX1_readPiece.2.1 84 = .ok (.if_icmp .ge 28, 3) := by decide +kernel
theorem dX1_readPiece_87 : decode mX1_readPiece.2.1 87 = .ok (.aload_n 0, 1) := by decide +kernel
theorem dX1_readPiece_88 : decode mX1_readPiece.2.1 88 = .ok (.getfield 12, 3) := by decide +kernel
theorem dX1_readPiece_91 : decode mX1_readPiece.2.1 91 = .ok (.invokevirtual 46, 3) := by decide +kernel
theorem dX1_readPiece_94 : decode mX1_readPiece.2.1 94 = .ok (.aload_n 0, 1) := by decide +kernel
theorem dX1_readPiece_95 : decode mX1_readPiece.2.1 95 = .ok (.iload_n 1, 1) := by decide +kernel
theorem dX1_readPiece_96 : decode mX1_readPiece.2.1 96 = .ok (.iload_n 2, 1) := by decide +kernel
theorem dX1_readPiece_97 : decode mX1_readPiece.2.1 97 = .ok (.iconst 1, 1) := by decide +kernel
theorem dX1_readPiece_98 : decode mX1_readPiece.2.1 98 = .ok (.iadd, 1) := by decide +kernel
theorem dX1_readPiece_99 : decode mX1_readPiece.2.1 99 = .ok (.invokevirtual 89, 3) := by decide +kernel
theorem dX1_readPiece_102 : decode mX1_readPiece.2.1 102 = .ok (.aload_n 0, 1) := by decide +kernel
theorem dX1_readPiece_103 : decode mX1_readPiece.2.1 103 = .ok (.sipush 20033, 3) := by decide +kernel
theorem dX1_readPiece_106 : decode mX1_readPiece.2.1 106 = .ok (.invokevirtual 97, 3) := by decide +kernel
theorem dX1_readPiece_109 : decode mX1_readPiece.2.1 109 = .ok (.goto 70, 3) := by decide +kernel
theorem dX1_readPiece_112 : decode mX1_readPiece.2.1 112 = .ok (.aload_n 0, 1) := by decide +kernel
theorem dX1_readPiece_113 : decode mX1_readPiece.2.1 113 = .ok (.getfield 12, 3) := by decide +kernel
theorem dX1_readPiece_116 : decode mX1_readPiece.2.1 116 = .ok (.getfield 53, 3) := by decide +kernel
theorem dX1_readPiece_119 : decode mX1_readPiece.2.1 119 = .ok (.bipush 40, 2) := by decide +kernel
theorem dX1_readPiece_121 : decode mX1_readPiece.2.1 121 = .ok (.if_icmp .ne 54, 3) := by decide +kernel
theorem dX1_readPiece_124 : decode mX1_readPiece.2.1 124 = .ok (.iload_n 1, 1) := by decide +kernel
theorem dX1_readPiece_125 : decode mX1_readPiece.2.1 125 = .ok (.bipush 8, 2) := by decide +kernel
theorem dX1_readPiece_127 : decode mX1_readPiece.2.1 127 = .ok (.if_icmp .ge 48, 3) := by decide +kernel
theorem dX1_readPiece_130 : decode mX1_readPiece.2.1 130 = .ok (.aload_n 0, 1) := by decide +kernel
theorem dX1_readPiece_131 : decode mX1_readPiece.2.1 131 = .ok (.getfield 12, 3) := by decide +kernel
theorem dX1_readPiece_134 : decode mX1_readPiece.2.1 134 = .ok (.invokevirtual 46, 3) := by decide +kernel
theorem dX1_readPiece_137 : decode mX1_readPiece.2.1 137 = .ok (.aload_n 0, 1) := by decide +kernel
theorem dX1_readPiece_138 : decode mX1_readPiece.2.1 138 = .ok (.iconst 0, 1) := by decide +kernel
theorem dX1_readPiece_139 : decode mX1_readPiece.2.1 139 = .ok (.iload_n 1, 1) := by decide +kernel
theorem dX1_readPiece_140 : decode mX1_readPiece.2.1 140 = .ok (.iconst 1, 1) := by decide +kernel
theorem dX1_readPiece_141 : decode mX1_readPiece.2.1 141 = .ok (.iadd, 1) := by decide +kernel
theorem dX1_readPiece_142 : decode mX1_readPiece.2.1 142 = .ok (.iload_n 2, 1) := by decide +kernel
theorem dX1_readPiece_143 : decode mX1_readPiece.2.1 143 = .ok (.invokevirtual 49, 3) := by decide +kernel
theorem dX1_readPiece_146 : decode mX1_readPiece.2.1 146 = .ok (.aload_n 0, 1) := by decide +kernel
theorem dX1_readPiece_147 : decode mX1_readPiece.2.1 147 = .ok (.getfield 12, 3) := by decide +kernel
theorem dX1_readPiece_150 : decode mX1_readPiece.2.1 150 = .ok (.getfield 53, 3) := by decide +kernel
theorem dX1_readPiece_153 : decode mX1_readPiece.2.1 153 = .ok (.bipush 41, 2) := by decide +kernel
theorem dX1_readPiece_155 : decode mX1_readPiece.2.1 155 = .ok (.if_icmp .ne 13, 3) := by decide +kernel
theorem dX1_readPiece_158 : decode mX1_readPiece.2.1 158 = .ok (.aload_n 0, 1) := by decide +kernel
theorem dX1_readPiece_159 : decode mX1_readPiece.2.1 159 = .ok (.getfield 12, 3) := by decide +kernel
theorem dX1_readPiece_162 : decode mX1_readPiece.2.1 162 = .ok (.invokevirtual 46, 3) := by decide +kernel
theorem dX1_readPiece_165 : decode mX1_readPiece.2.1 165 = .ok (.goto 14, 3) := by decide +kernel
theorem dX1_readPiece_168 : decode mX1_readPiece.2.1 168 = .ok (.aload_n 0, 1) := by decide +kernel
theorem dX1_readPiece_169 : decode mX1_readPiece.2.1 169 = .ok (.invokevirtual 43, 3) := by decide +kernel
theorem dX1_readPiece_172 : decode mX1_readPiece.2.1 172 = .ok (.goto 7, 3) := by decide +kernel
theorem dX1_readPiece_175 : decode mX1_readPiece.2.1 175 = .ok (.aload_n 0, 1) := by decide +kernel
theorem dX1_readPiece_176 : decode mX1_readPiece.2.1 176 = .ok (.invokevirtual 43, 3) := by decide +kernel
theorem dX1_readPiece_179 : decode mX1_readPiece.2.1 179 = .ok (.return_, 1) := by decide +kernel
theorem dX1_addLeaf_0 : decode mX1_addLeaf.2.1 0 = .ok (.aload_n 0, 1) := by decide +kernel
theorem dX1_addLeaf_1 : decode mX1_addLeaf.2.1 1 = .ok (.iload_n 1, 1) := by decide +kernel
theorem dX1_addLeaf_2 : decode mX1_addLeaf.2.1 2 = .ok (.invokevirtual 97, 3) := by decide +kernel
theorem dX1_addLeaf_5 : decode mX1_addLeaf.2.1 5 = .ok (.aload_n 0, 1) := by decide +kernel
theorem dX1_addLeaf_6 : decode mX1_addLeaf.2.1 6 = .ok (.dup, 1) := by decide +kernel
theorem dX1_addLeaf_7 : decode mX1_addLeaf.2.1 7 = .ok (.getfield 26, 3) := by decide +kernel
theorem dX1_addLeaf_10 : decode mX1_addLeaf.2.1 10 = .ok (.iconst 1, 1) := by decide +kernel
theorem dX1_addLeaf_11 : decode mX1_addLeaf.2.1 11 = .ok (.iadd, 1) := by decide +kernel
theorem dX1_addLeaf_12 : decode mX1_addLeaf.2.1 12 = .ok (.putfield 26, 3) := by decide +kernel
theorem dX1_addLeaf_15 : decode mX1_addLeaf.2.1 15 = .ok (.return_, 1) := by decide +kernel
theorem dX1_add_0 : decode mX1_add.2.1 0 = .ok (.aload_n 0, 1) := by decide +kernel
theorem dX1_add_1 : decode mX1_add.2.1 1 = .ok (.getfield 22, 3) := by decide +kernel
theorem dX1_add_4 : decode mX1_add.2.1 4 = .ok (.aload_n 0, 1) := by decide +kernel
theorem dX1_add_5 : decode mX1_add.2.1 5 = .ok (.getfield 18, 3) := by decide +kernel
theorem dX1_add_8 : decode mX1_add.2.1 8 = .ok (.arraylength, 1) := by decide +kernel
theorem dX1_add_9 : decode mX1_add.2.1 9 = .ok (.if_icmp .ge 23, 3) := by decide +kernel
theorem dX1_add_12 : decode mX1_add.2.1 12 = .ok (.aload_n 0, 1) := by decide +kernel
theorem dX1_add_13 : decode mX1_add.2.1 13 = .ok (.getfield 18, 3) := by decide +kernel
theorem dX1_add_16 : decode mX1_add.2.1 16 = .ok (.aload_n 0, 1) := by decide +kernel
theorem dX1_add_17 : decode mX1_add.2.1 17 = .ok (.getfield 22, 3) := by decide +kernel
theorem dX1_add_20 : decode mX1_add.2.1 20 = .ok (.iload_n 1, 1) := by decide +kernel
theorem dX1_add_21 : decode mX1_add.2.1 21 = .ok (.iastore, 1) := by decide +kernel
theorem dX1_add_22 : decode mX1_add.2.1 22 = .ok (.aload_n 0, 1) := by decide +kernel
theorem dX1_add_23 : decode mX1_add.2.1 23 = .ok (.dup, 1) := by decide +kernel
theorem dX1_add_24 : decode mX1_add.2.1 24 = .ok (.getfield 22, 3) := by decide +kernel
theorem dX1_add_27 : decode mX1_add.2.1 27 = .ok (.iconst 1, 1) := by decide +kernel
theorem dX1_add_28 : decode mX1_add.2.1 28 = .ok (.iadd, 1) := by decide +kernel
theorem dX1_add_29 : decode mX1_add.2.1 29 = .ok (.putfield 22, 3) := by decide +kernel
theorem dX1_add_32 : decode mX1_add.2.1 32 = .ok (.return_, 1) := by decide +kernel
theorem dX2_init_0 : decode mX2_init.2.1 0 = .ok (.aload_n 0, 1) := by decide +kernel
theorem dX2_init_1 : decode mX2_init.2.1 1 = .ok (.invokespecial 3, 3) := by decide +kernel
theorem dX2_init_4 : decode mX2_init.2.1 4 = .ok (.aload_n 0, 1) := by decide +kernel
theorem dX2_init_5 : decode mX2_init.2.1 5 = .ok (.bipush 31, 2) := by decide +kernel
theorem dX2_init_7 : decode mX2_init.2.1 7 = .ok (.newarray .int, 2) := by decide +kernel
theorem dX2_init_9 : decode mX2_init.2.1 9 = .ok (.putfield 9, 3) := by decide +kernel
theorem dX2_init_12 : decode mX2_init.2.1 12 = .ok (.aload_n 0, 1) := by decide +kernel
theorem dX2_init_13 : decode mX2_init.2.1 13 = .ok (.bipush 6, 2) := by decide +kernel
theorem dX2_init_15 : decode mX2_init.2.1 15 = .ok (.bipush 31, 2) := by decide +kernel
theorem dX2_init_17 : decode mX2_init.2.1 17 = .ok (.multianewarray 15 2, 4) := by decide +kernel
theorem dX2_init_21 : decode mX2_init.2.1 21 = .ok (.putfield 17, 3) := by decide +kernel
theorem dX2_init_24 : decode mX2_init.2.1 24 = .ok (.aload_n 0, 1) := by decide +kernel
theorem dX2_init_25 : decode mX2_init.2.1 25 = .ok (.bipush 31, 2) := by decide +kernel
theorem dX2_init_27 : decode mX2_init.2.1 27 = .ok (.newarray .int, 2) := by decide +kernel
theorem dX2_init_29 : decode mX2_init.2.1 29 = .ok (.putfield 20, 3) := by decide +kernel
theorem dX2_init_32 : decode mX2_init.2.1 32 = .ok (.aload_n 0, 1) := by decide +kernel
theorem dX2_init_33 : decode mX2_init.2.1 33 = .ok (.bipush 31, 2) := by decide +kernel
theorem dX2_init_35 : decode mX2_init.2.1 35 = .ok (.newarray .int, 2) := by decide +kernel
theorem dX2_init_37 : decode mX2_init.2.1 37 = .ok (.putfield 23, 3) := by decide +kernel
theorem dX2_init_40 : decode mX2_init.2.1 40 = .ok (.aload_n 0, 1) := by decide +kernel
theorem dX2_init_41 : decode mX2_init.2.1 41 = .ok (.bipush 31, 2) := by decide +kernel
theorem dX2_init_43 : decode mX2_init.2.1 43 = .ok (.newarray .int, 2) := by decide +kernel
theorem dX2_init_45 : decode mX2_init.2.1 45 = .ok (.putfield 26, 3) := by decide +kernel
theorem dX2_init_48 : decode mX2_init.2.1 48 = .ok (.aload_n 0, 1) := by decide +kernel
theorem dX2_init_49 : decode mX2_init.2.1 49 = .ok (.bipush 31, 2) := by decide +kernel
theorem dX2_init_51 : decode mX2_init.2.1 51 = .ok (.newarray .boolean, 2) := by decide +kernel
theorem dX2_init_53 : decode mX2_init.2.1 53 = .ok (.putfield 29, 3) := by decide +kernel
theorem dX2_init_56 : decode mX2_init.2.1 56 = .ok (.aload_n 0, 1) := by decide +kernel
theorem dX2_init_57 : decode mX2_init.2.1 57 = .ok (.bipush 31, 2) := by decide +kernel
theorem dX2_init_59 : decode mX2_init.2.1 59 = .ok (.newarray .int, 2) := by decide +kernel
theorem dX2_init_61 : decode mX2_init.2.1 61 = .ok (.putfield 33, 3) := by decide +kernel
theorem dX2_init_64 : decode mX2_init.2.1 64 = .ok (.aload_n 0, 1) := by decide +kernel
theorem dX2_init_65 : decode mX2_init.2.1 65 = .ok (.bipush 31, 2) := by decide +kernel
theorem dX2_init_67 : decode mX2_init.2.1 67 = .ok (.newarray .int, 2) := by decide +kernel
theorem dX2_init_69 : decode mX2_init.2.1 69 = .ok (.putfield 36, 3) := by decide +kernel
theorem dX2_init_72 : decode mX2_init.2.1 72 = .ok (.aload_n 0, 1) := by decide +kernel
theorem dX2_init_73 : decode mX2_init.2.1 73 = .ok (.lconst 0, 1) := by decide +kernel
theorem dX2_init_74 : decode mX2_init.2.1 74 = .ok (.putfield 39, 3) := by decide +kernel
theorem dX2_init_77 : decode mX2_init.2.1 77 = .ok (.aload_n 0, 1) := by decide +kernel
theorem dX2_init_78 : decode mX2_init.2.1 78 = .ok (.lconst 0, 1) := by decide +kernel
theorem dX2_init_79 : decode mX2_init.2.1 79 = .ok (.putfield 43, 3) := by decide +kernel
theorem dX2_init_82 : decode mX2_init.2.1 82 = .ok (.aload_n 0, 1) := by decide +kernel
theorem dX2_init_83 : decode mX2_init.2.1 83 = .ok (.lconst 0, 1) := by decide +kernel
theorem dX2_init_84 : decode mX2_init.2.1 84 = .ok (.putfield 46, 3) := by decide +kernel
theorem dX2_init_87 : decode mX2_init.2.1 87 = .ok (.aload_n 0, 1) := by decide +kernel
theorem dX2_init_88 : decode mX2_init.2.1 88 = .ok (.lconst 0, 1) := by decide +kernel
theorem dX2_init_89 : decode mX2_init.2.1 89 = .ok (.putfield 49, 3) := by decide +kernel
theorem dX2_init_92 : decode mX2_init.2.1 92 = .ok (.return_, 1) := by decide +kernel
theorem dX2_take_0 : decode mX2_take.2.1 0 = .ok (.aload_n 0, 1) := by decide +kernel
theorem dX2_take_1 : decode mX2_take.2.1 1 = .ok (.aload_n 1, 1) := by decide +kernel
theorem dX2_take_2 : decode mX2_take.2.1 2 = .ok (.aload_n 1, 1) := by decide +kernel
theorem dX2_take_3 : decode mX2_take.2.1 3 = .ok (.invokevirtual 52, 3) := by decide +kernel
theorem dX2_take_6 : decode mX2_take.2.1 6 = .ok (.invokevirtual 58, 3) := by decide +kernel
theorem dX2_take_9 : decode mX2_take.2.1 9 = .ok (.aload_n 0, 1) := by decide +kernel
theorem dX2_take_10 : decode mX2_take.2.1 10 = .ok (.aload_n 1, 1) := by decide +kernel
theorem dX2_take_11 : decode mX2_take.2.1 11 = .ok (.aload_n 1, 1) := by decide +kernel
theorem dX2_take_12 : decode mX2_take.2.1 12 = .ok (.getfield 62, 3) := by decide +kernel
theorem dX2_take_15 : decode mX2_take.2.1 15 = .ok (.invokevirtual 66, 3) := by decide +kernel
theorem dX2_take_18 : decode mX2_take.2.1 18 = .ok (.return_, 1) := by decide +kernel
theorem dX2_takeRule_0 : decode mX2_takeRule.2.1 0 = .ok (.iconst 0, 1) := by decide +kernel
theorem dX2_takeRule_1 : decode mX2_takeRule.2.1 1 = .ok (.istore_n 3, 1) := by decide +kernel
theorem dX2_takeRule_2 : decode mX2_takeRule.2.1 2 = .ok (.iload_n 3, 1) := by decide +kernel
theorem dX2_takeRule_3 : decode mX2_takeRule.2.1 3 = .ok (.bipush 31, 2) := by decide +kernel
theorem dX2_takeRule_5 : decode mX2_takeRule.2.1 5 = .ok (.if_icmp .ge 21, 3) := by decide +kernel
theorem dX2_takeRule_8 : decode mX2_takeRule.2.1 8 = .ok (.aload_n 0, 1) := by decide +kernel
theorem dX2_takeRule_9 : decode mX2_takeRule.2.1 9 = .ok (.getfield 9, 3) := by decide +kernel
theorem dX2_takeRule_12 : decode mX2_takeRule.2.1 12 = .ok (.iload_n 3, 1) := by decide +kernel
theorem dX2_takeRule_13 : decode mX2_takeRule.2.1 13 = .ok (.aload_n 1, 1) := by decide +kernel
theorem dX2_takeRule_14 : decode mX2_takeRule.2.1 14 = .ok (.aload_n 2, 1) := by decide +kernel
theorem dX2_takeRule_15 : decode mX2_takeRule.2.1 15 = .ok (.iload_n 3, 1) := by decide +kernel
theorem dX2_takeRule_16 : decode mX2_takeRule.2.1 16 = .ok (.invokevirtual 70, 3) := by decide +kernel
theorem dX2_takeRule_19 : decode mX2_takeRule.2.1 19 = .ok (.iastore, 1) := by decide +kernel
theorem dX2_takeRule_20 : decode mX2_takeRule.2.1 20 = .ok (.iinc 3 1, 3) := by decide +kernel
theorem dX2_takeRule_23 : decode mX2_takeRule.2.1 23 = .ok (.goto (-21), 3) := by decide +kernel
theorem dX2_takeRule_26 : decode mX2_takeRule.2.1 26 = .ok (.return_, 1) := by decide +kernel
theorem dX2_takeCard_0 : decode mX2_takeCard.2.1 0 = .ok (.iconst 0, 1) := by decide +kernel
theorem dX2_takeCard_1 : decode mX2_takeCard.2.1 1 = .ok (.istore_n 3, 1) := by decide +kernel
theorem dX2_takeCard_2 : decode mX2_takeCard.2.1 2 = .ok (.iload_n 3, 1) := by decide +kernel
theorem dX2_takeCard_3 : decode mX2_takeCard.2.1 3 = .ok (.aload_n 1, 1) := by decide +kernel
theorem dX2_takeCard_4 : decode mX2_takeCard.2.1 4 = .ok (.getfield 74, 3) := by decide +kernel
theorem dX2_takeCard_7 : decode mX2_takeCard.2.1 7 = .ok (.if_icmp .ge 16, 3) := by decide +kernel
theorem dX2_takeCard_10 : decode mX2_takeCard.2.1 10 = .ok (.aload_n 0, 1) := by decide +kernel
theorem dX2_takeCard_11 : decode mX2_takeCard.2.1 11 = .ok (.aload_n 1, 1) := by decide +kernel
theorem dX2_takeCard_12 : decode mX2_takeCard.2.1 12 = .ok (.iload_n 3, 1) := by decide +kernel
theorem dX2_takeCard_13 : decode mX2_takeCard.2.1 13 = .ok (.iload_n 2, 1) := by decide +kernel
theorem dX2_takeCard_14 : decode mX2_takeCard.2.1 14 = .ok (.invokevirtual 77, 3) := by decide +kernel
theorem dX2_takeCard_17 : decode mX2_takeCard.2.1 17 = .ok (.iinc 3 1, 3) := by decide +kernel
theorem dX2_takeCard_20 : decode mX2_takeCard.2.1 20 = .ok (.goto (-18), 3) := by decide +kernel
theorem dX2_takeCard_23 : decode mX2_takeCard.2.1 23 = .ok (.return_, 1) := by decide +kernel
theorem dX2_forgetting_0 : decode mX2_forgetting.2.1 0 = .ok (.aload_n 1, 1) := by decide +kernel
theorem dX2_forgetting_1 : decode mX2_forgetting.2.1 1 = .ok (.iload_n 2, 1) := by decide +kernel
theorem dX2_forgetting_2 : decode mX2_forgetting.2.1 2 = .ok (.invokevirtual 81, 3) := by decide +kernel
theorem dX2_forgetting_5 : decode mX2_forgetting.2.1 5 = .ok (.ifCond .ne 4, 3) := by decide +kernel
theorem dX2_forgetting_8 : decode mX2_forgetting.2.1 8 = .ok (.return_, 1) := by decide +kernel
theorem dX2_forgetting_9 : decode mX2_forgetting.2.1 9 = .ok (.iconst 0, 1) := by decide +kernel
theorem dX2_forgetting_10 : decode mX2_forgetting.2.1 10 = .ok (.istore 4, 2) := by decide +kernel
theorem dX2_forgetting_12 : decode mX2_forgetting.2.1 12 = .ok (.iload 4, 2) := by decide +kernel
theorem dX2_forgetting_14 : decode mX2_forgetting.2.1 14 = .ok (.bipush 31, 2) := by decide +kernel
theorem dX2_forgetting_16 : decode mX2_forgetting.2.1 16 = .ok (.if_icmp .ge 33, 3) := by decide +kernel
theorem dX2_forgetting_19 : decode mX2_forgetting.2.1 19 = .ok (.aload_n 0, 1) := by decide +kernel
theorem dX2_forgetting_20 : decode mX2_forgetting.2.1 20 = .ok (.getfield 17, 3) := by decide +kernel
theorem dX2_forgetting_23 : decode mX2_forgetting.2.1 23 = .ok (.iload_n 2, 1) := by decide +kernel
theorem dX2_forgetting_24 : decode mX2_forgetting.2.1 24 = .ok (.aaload, 1) := by decide +kernel
theorem dX2_forgetting_25 : decode mX2_forgetting.2.1 25 = .ok (.iload 4, 2) := by decide +kernel
theorem dX2_forgetting_27 : decode mX2_forgetting.2.1 27 = .ok (.aload_n 1, 1) := by decide +kernel
theorem dX2_forgetting_28 : decode mX2_forgetting.2.1 28 = .ok (.iload 4, 2) := by decide +kernel
theorem dX2_forgetting_30 : decode mX2_forgetting.2.1 30 = .ok (.aload_n 1, 1) := by decide +kernel
theorem dX2_forgetting_31 : decode mX2_forgetting.2.1 31 = .ok (.getfield 85, 3) := by decide +kernel
theorem dX2_forgetting_34 : decode mX2_forgetting.2.1 34 = .ok (.iload_n 2, 1) := by decide +kernel
theorem dX2_forgetting_35 : decode mX2_forgetting.2.1 35 = .ok (.aaload, 1) := by decide +kernel
theorem dX2_forgetting_36 : decode mX2_forgetting.2.1 36 = .ok (.iconst 1, 1) := by decide +kernel
theorem dX2_forgetting_37 : decode mX2_forgetting.2.1 37 = .ok (.iaload, 1) := by decide +kernel
theorem dX2_forgetting_38 : decode mX2_forgetting.2.1 38 = .ok (.iload_n 3, 1) := by decide +kernel
theorem dX2_forgetting_39 : decode mX2_forgetting.2.1 39 = .ok (.invokevirtual 88, 3) := by decide +kernel
theorem dX2_forgetting_42 : decode mX2_forgetting.2.1 42 = .ok (.iastore, 1) := by decide +kernel
theorem dX2_forgetting_43 : decode mX2_forgetting.2.1 43 = .ok (.iinc 4 1, 3) := by decide +kernel
theorem dX2_forgetting_46 : decode mX2_forgetting.2.1 46 = .ok (.goto (-34), 3) := by decide +kernel
theorem dX2_forgetting_49 : decode mX2_forgetting.2.1 49 = .ok (.return_, 1) := by decide +kernel
theorem dX2_followOne_0 : decode mX2_followOne.2.1 0 = .ok (.aload_n 0, 1) := by decide +kernel
theorem dX2_followOne_1 : decode mX2_followOne.2.1 1 = .ok (.aload_n 1, 1) := by decide +kernel
theorem dX2_followOne_2 : decode mX2_followOne.2.1 2 = .ok (.aload_n 1, 1) := by decide +kernel
theorem dX2_followOne_3 : decode mX2_followOne.2.1 3 = .ok (.invokevirtual 52, 3) := by decide +kernel
theorem dX2_followOne_6 : decode mX2_followOne.2.1 6 = .ok (.invokevirtual 58, 3) := by decide +kernel
theorem dX2_followOne_9 : decode mX2_followOne.2.1 9 = .ok (.aload_n 0, 1) := by decide +kernel
theorem dX2_followOne_10 : decode mX2_followOne.2.1 10 = .ok (.aload_n 1, 1) := by decide +kernel
theorem dX2_followOne_11 : decode mX2_followOne.2.1 11 = .ok (.iload_n 2, 1) := by decide +kernel
theorem dX2_followOne_12 : decode mX2_followOne.2.1 12 = .ok (.aload_n 1, 1) := by decide +kernel
theorem dX2_followOne_13 : decode mX2_followOne.2.1 13 = .ok (.getfield 62, 3) := by decide +kernel
theorem dX2_followOne_16 : decode mX2_followOne.2.1 16 = .ok (.invokevirtual 77, 3) := by decide +kernel
theorem dX2_followOne_19 : decode mX2_followOne.2.1 19 = .ok (.aload_n 0, 1) := by decide +kernel
theorem dX2_followOne_20 : decode mX2_followOne.2.1 20 = .ok (.aload_n 1, 1) := by decide +kernel
theorem dX2_followOne_21 : decode mX2_followOne.2.1 21 = .ok (.iload_n 2, 1) := by decide +kernel
theorem dX2_followOne_22 : decode mX2_followOne.2.1 22 = .ok (.invokevirtual 92, 3) := by decide +kernel
theorem dX2_followOne_25 : decode mX2_followOne.2.1 25 = .ok (.return_, 1) := by decide +kernel
theorem dX2_follow_0 : decode mX2_follow.2.1 0 = .ok (.aload_n 1, 1) := by decide +kernel
theorem dX2_follow_1 : decode mX2_follow.2.1 1 = .ok (.iload_n 2, 1) := by decide +kernel
theorem dX2_follow_2 : decode mX2_follow.2.1 2 = .ok (.invokevirtual 81, 3) := by decide +kernel
theorem dX2_follow_5 : decode mX2_follow.2.1 5 = .ok (.ifCond .ne 4, 3) := by decide +kernel
theorem dX2_follow_8 : decode mX2_follow.2.1 8 = .ok (.return_, 1) := by decide +kernel
theorem dX2_follow_9 : decode mX2_follow.2.1 9 = .ok (.aload_n 0, 1) := by decide +kernel
theorem dX2_follow_10 : decode mX2_follow.2.1 10 = .ok (.aload_n 1, 1) := by decide +kernel
theorem dX2_follow_11 : decode mX2_follow.2.1 11 = .ok (.aload_n 1, 1) := by decide +kernel
theorem dX2_follow_12 : decode mX2_follow.2.1 12 = .ok (.getfield 85, 3) := by decide +kernel
theorem dX2_follow_15 : decode mX2_follow.2.1 15 = .ok (.iload_n 2, 1) := by decide +kernel
theorem dX2_follow_16 : decode mX2_follow.2.1 16 = .ok (.aaload, 1) := by decide +kernel
theorem dX2_follow_17 : decode mX2_follow.2.1 17 = .ok (.aload_n 0, 1) := by decide +kernel
theorem dX2_follow_18 : decode mX2_follow.2.1 18 = .ok (.getfield 17, 3) := by decide +kernel
theorem dX2_follow_21 : decode mX2_follow.2.1 21 = .ok (.iload_n 2, 1) := by decide +kernel
theorem dX2_follow_22 : decode mX2_follow.2.1 22 = .ok (.aaload, 1) := by decide +kernel
theorem dX2_follow_23 : decode mX2_follow.2.1 23 = .ok (.invokevirtual 95, 3) := by decide +kernel
theorem dX2_follow_26 : decode mX2_follow.2.1 26 = .ok (.aload_n 0, 1) := by decide +kernel
theorem dX2_follow_27 : decode mX2_follow.2.1 27 = .ok (.aload_n 0, 1) := by decide +kernel
theorem dX2_follow_28 : decode mX2_follow.2.1 28 = .ok (.getfield 17, 3) := by decide +kernel
theorem dX2_follow_31 : decode mX2_follow.2.1 31 = .ok (.iload_n 2, 1) := by decide +kernel
theorem dX2_follow_32 : decode mX2_follow.2.1 32 = .ok (.aaload, 1) := by decide +kernel
theorem dX2_follow_33 : decode mX2_follow.2.1 33 = .ok (.invokevirtual 99, 3) := by decide +kernel
theorem dX2_follow_36 : decode mX2_follow.2.1 36 = .ok (.return_, 1) := by decide +kernel
theorem dX2_decide_0 : decode mX2_decide.2.1 0 = .ok (.aload_n 2, 1) := by decide +kernel
theorem dX2_decide_1 : decode mX2_decide.2.1 1 = .ok (.bipush 6, 2) := by decide +kernel
theorem dX2_decide_3 : decode mX2_decide.2.1 3 = .ok (.iaload, 1) := by decide +kernel
theorem dX2_decide_4 : decode mX2_decide.2.1 4 = .ok (.istore 4, 2) := by decide +kernel
theorem dX2_decide_6 : decode mX2_decide.2.1 6 = .ok (.bipush 30, 2) := by decide +kernel
theorem dX2_decide_8 : decode mX2_decide.2.1 8 = .ok (.istore 5, 2) := by decide +kernel
theorem dX2_decide_10 : decode mX2_decide.2.1 10 = .ok (.iload 5, 2) := by decide +kernel
theorem dX2_decide_12 : decode mX2_decide.2.1 12 = .ok (.ifCond .lt 162, 3) := by decide +kernel
theorem dX2_decide_15 : decode mX2_decide.2.1 15 = .ok (.aload_n 0, 1) := by decide +kernel
theorem dX2_decide_16 : decode mX2_decide.2.1 16 = .ok (.getfield 9, 3) := by decide +kernel
theorem dX2_decide_19 : decode mX2_decide.2.1 19 = .ok (.iload 5, 2) := by decide +kernel
theorem dX2_decide_21 : decode mX2_decide.2.1 21 = .ok (.iaload, 1) := by decide +kernel
theorem dX2_decide_22 : decode mX2_decide.2.1 22 = .ok (.istore 6, 2) := by decide +kernel
theorem dX2_decide_24 : decode mX2_decide.2.1 24 = .ok (.aload_n 0, 1) := by decide +kernel
theorem dX2_decide_25 : decode mX2_decide.2.1 25 = .ok (.getfield 20, 3) := by decide +kernel
theorem dX2_decide_28 : decode mX2_decide.2.1 28 = .ok (.iload 5, 2) := by decide +kernel
theorem dX2_decide_30 : decode mX2_decide.2.1 30 = .ok (.aload_n 2, 1) := by decide +kernel
theorem dX2_decide_31 : decode mX2_decide.2.1 31 = .ok (.iconst 2, 1) := by decide +kernel
theorem dX2_decide_32 : decode mX2_decide.2.1 32 = .ok (.iaload, 1) := by decide +kernel
theorem dX2_decide_33 : decode mX2_decide.2.1 33 = .ok (.iload 6, 2) := by decide +kernel
theorem dX2_decide_35 : decode mX2_decide.2.1 35 = .ok (.iadd, 1) := by decide +kernel
theorem dX2_decide_36 : decode mX2_decide.2.1 36 = .ok (.aload_n 1, 1) := by decide +kernel
theorem dX2_decide_37 : decode mX2_decide.2.1 37 = .ok (.aload_n 2, 1) := by decide +kernel
theorem dX2_decide_38 : decode mX2_decide.2.1 38 = .ok (.iconst 3, 1) := by decide +kernel
theorem dX2_decide_39 : decode mX2_decide.2.1 39 = .ok (.iaload, 1) := by decide +kernel
theorem dX2_decide_40 : decode mX2_decide.2.1 40 = .ok (.iload 6, 2) := by decide +kernel
theorem dX2_decide_42 : decode mX2_decide.2.1 42 = .ok (.invokevirtual 103, 3) := by decide +kernel
theorem dX2_decide_45 : decode mX2_decide.2.1 45 = .ok (.iadd, 1) := by decide +kernel
theorem dX2_decide_46 : decode mX2_decide.2.1 46 = .ok (.iastore, 1) := by decide +kernel
theorem dX2_decide_47 : decode mX2_decide.2.1 47 = .ok (.aload_n 0, 1) := by decide +kernel
theorem dX2_decide_48 : decode mX2_decide.2.1 48 = .ok (.getfield 23, 3) := by decide +kernel
theorem dX2_decide_51 : decode mX2_decide.2.1 51 = .ok (.iload 5, 2) := by decide +kernel
theorem dX2_decide_53 : decode mX2_decide.2.1 53 = .ok (.iload 4, 2) := by decide +kernel
theorem dX2_decide_55 : decode mX2_decide.2.1 55 = .ok (.aload_n 2, 1) := by decide +kernel
theorem dX2_decide_56 : decode mX2_decide.2.1 56 = .ok (.iconst 5, 1) := by decide +kernel
theorem dX2_decide_57 : decode mX2_decide.2.1 57 = .ok (.iaload, 1) := by decide +kernel
theorem dX2_decide_58 : decode mX2_decide.2.1 58 = .ok (.isub, 1) := by decide +kernel
theorem dX2_decide_59 : decode mX2_decide.2.1 59 = .ok (.iastore, 1) := by decide +kernel
theorem dX2_decide_60 : decode mX2_decide.2.1 60 = .ok (.aload_n 0, 1) := by decide +kernel
theorem dX2_decide_61 : decode mX2_decide.2.1 61 = .ok (.getfield 29, 3) := by decide +kernel
theorem dX2_decide_64 : decode mX2_decide.2.1 64 = .ok (.iload 5, 2) := by decide +kernel
theorem dX2_decide_66 : decode mX2_decide.2.1 66 = .ok (.iload 6, 2) := by decide +kernel
theorem dX2_decide_68 : decode mX2_decide.2.1 68 = .ok (.aload_n 2, 1) := by decide +kernel
theorem dX2_decide_69 : decode mX2_decide.2.1 69 = .ok (.iconst 4, 1) := by decide +kernel
theorem dX2_decide_70 : decode mX2_decide.2.1 70 = .ok (.iaload, 1) := by decide +kernel
theorem dX2_decide_71 : decode mX2_decide.2.1 71 = .ok (.if_icmp .gt 24, 3) := by decide +kernel
theorem dX2_decide_74 : decode mX2_decide.2.1 74 = .ok (.aload_n 0, 1) := by decide +kernel
theorem dX2_decide_75 : decode mX2_decide.2.1 75 = .ok (.getfield 20, 3) := by decide +kernel
theorem dX2_decide_78 : decode mX2_decide.2.1 78 = .ok (.iload 5, 2) := by decide +kernel
theorem dX2_decide_80 : decode mX2_decide.2.1 80 = .ok (.iaload, 1) := by decide +kernel
theorem dX2_decide_81 : decode mX2_decide.2.1 81 = .ok (.aload_n 0, 1) := by decide +kernel
theorem dX2_decide_82 : decode mX2_decide.2.1 82 = .ok (.getfield 23, 3) := by decide +kernel
theorem dX2_decide_85 : decode mX2_decide.2.1 85 = .ok (.iload 5, 2) := by decide +kernel
theorem dX2_decide_87 : decode mX2_decide.2.1 87 = .ok (.iaload, 1) := by decide +kernel
theorem dX2_decide_88 : decode mX2_decide.2.1 88 = .ok (.if_icmp .gt 7, 3) := by decide +kernel
theorem dX2_decide_91 : decode mX2_decide.2.1 91 = .ok (.iconst 1, 1) := by decide +kernel
theorem dX2_decide_92 : decode mX2_decide.2.1 92 = .ok (.goto 4, 3) := by decide +kernel
theorem dX2_decide_95 : decode mX2_decide.2.1 95 = .ok (.iconst 0, 1) := by decide +kernel
theorem dX2_decide_96 : decode mX2_decide.2.1 96 = .ok (.bastore, 1) := by decide +kernel
theorem dX2_decide_97 : decode mX2_decide.2.1 97 = .ok (.aload_n 0, 1) := by decide +kernel
theorem dX2_decide_98 : decode mX2_decide.2.1 98 = .ok (.getfield 29, 3) := by decide +kernel
theorem dX2_decide_101 : decode mX2_decide.2.1 101 = .ok (.iload 5, 2) := by decide +kernel
theorem dX2_decide_103 : decode mX2_decide.2.1 103 = .ok (.baload, 1) := by decide +kernel
theorem dX2_decide_104 : decode mX2_decide.2.1 104 = .ok (.ifCond .eq 13, 3) := by decide +kernel
theorem dX2_decide_107 : decode mX2_decide.2.1 107 = .ok (.aload_n 0, 1) := by decide +kernel
theorem dX2_decide_108 : decode mX2_decide.2.1 108 = .ok (.getfield 20, 3) := by decide +kernel
theorem dX2_decide_111 : decode mX2_decide.2.1 111 = .ok (.iload 5, 2) := by decide +kernel
theorem dX2_decide_113 : decode mX2_decide.2.1 113 = .ok (.iaload, 1) := by decide +kernel
theorem dX2_decide_114 : decode mX2_decide.2.1 114 = .ok (.goto 10, 3) := by decide +kernel
theorem dX2_decide_117 : decode mX2_decide.2.1 117 = .ok (.aload_n 0, 1) := by decide +kernel
theorem dX2_decide_118 : decode mX2_decide.2.1 118 = .ok (.getfield 23, 3) := by decide +kernel
theorem dX2_decide_121 : decode mX2_decide.2.1 121 = .ok (.iload 5, 2) := by decide +kernel
theorem dX2_decide_123 : decode mX2_decide.2.1 123 = .ok (.iaload, 1) := by decide +kernel
theorem dX2_decide_124 : decode mX2_decide.2.1 124 = .ok (.istore 7, 2) := by decide +kernel
theorem dX2_decide_126 : decode mX2_decide.2.1 126 = .ok (.aload_n 0, 1) := by decide +kernel
theorem dX2_decide_127 : decode mX2_decide.2.1 127 = .ok (.getfield 26, 3) := by decide +kernel
theorem dX2_decide_130 : decode mX2_decide.2.1 130 = .ok (.iload 5, 2) := by decide +kernel
theorem dX2_decide_132 : decode mX2_decide.2.1 132 = .ok (.aload_n 3, 1) := by decide +kernel
theorem dX2_decide_133 : decode mX2_decide.2.1 133 = .ok (.iload 5, 2) := by decide +kernel
theorem dX2_decide_135 : decode mX2_decide.2.1 135 = .ok (.iaload, 1) := by decide +kernel
theorem dX2_decide_136 : decode mX2_decide.2.1 136 = .ok (.aload_n 0, 1) := by decide +kernel
theorem dX2_decide_137 : decode mX2_decide.2.1 137 = .ok (.getfield 23, 3) := by decide +kernel
theorem dX2_decide_140 : decode mX2_decide.2.1 140 = .ok (.iload 5, 2) := by decide +kernel
theorem dX2_decide_142 : decode mX2_decide.2.1 142 = .ok (.iaload, 1) := by decide +kernel
theorem dX2_decide_143 : decode mX2_decide.2.1 143 = .ok (.imul, 1) := by decide +kernel
theorem dX2_decide_144 : decode mX2_decide.2.1 144 = .ok (.bipush 100, 2) := by decide +kernel
theorem dX2_decide_146 : decode mX2_decide.2.1 146 = .ok (.aload_n 3, 1) := by decide +kernel
theorem dX2_decide_147 : decode mX2_decide.2.1 147 = .ok (.iload 5, 2) := by decide +kernel
theorem dX2_decide_149 : decode mX2_decide.2.1 149 = .ok (.iaload, 1) := by decide +kernel
theorem dX2_decide_150 : decode mX2_decide.2.1 150 = .ok (.isub, 1) := by decide +kernel
theorem dX2_decide_151 : decode mX2_decide.2.1 151 = .ok (.iload 7, 2) := by decide +kernel
theorem dX2_decide_153 : decode mX2_decide.2.1 153 = .ok (.imul, 1) := by decide +kernel
theorem dX2_decide_154 : decode mX2_decide.2.1 154 = .ok (.iadd, 1) := by decide +kernel
theorem dX2_decide_155 : decode mX2_decide.2.1 155 = .ok (.bipush 100, 2) := by decide +kernel
theorem dX2_decide_157 : decode mX2_decide.2.1 157 = .ok (.idiv, 1) := by decide +kernel
theorem dX2_decide_158 : decode mX2_decide.2.1 158 = .ok (.iastore, 1) := by decide +kernel
theorem dX2_decide_159 : decode mX2_decide.2.1 159 = .ok (.aload_n 0, 1) := by decide +kernel
theorem dX2_decide_160 : decode mX2_decide.2.1 160 = .ok (.getfield 26, 3) := by decide +kernel
theorem dX2_decide_163 : decode mX2_decide.2.1 163 = .ok (.iload 5, 2) := by decide +kernel
theorem dX2_decide_165 : decode mX2_decide.2.1 165 = .ok (.iaload, 1) := by decide +kernel
theorem dX2_decide_166 : decode mX2_decide.2.1 166 = .ok (.istore 4, 2) := by decide +kernel
theorem dX2_decide_168 : decode mX2_decide.2.1 168 = .ok (.iinc 5 (-1), 3) := by decide +kernel
theorem dX2_decide_171 : decode mX2_decide.2.1 171 = .ok (.goto (-161), 3) := by decide +kernel
theorem dX2_decide_174 : decode mX2_decide.2.1 174 = .ok (.return_, 1) := by decide +kernel
theorem dX2_bring_0 : decode mX2_bring.2.1 0 = .ok (.ldc 107, 2) := by decide +kernel
theorem dX2_bring_2 : decode mX2_bring.2.1 2 = .ok (.istore_n 2, 1) := by decide +kernel
theorem dX2_bring_3 : decode mX2_bring.2.1 3 = .ok (.iconst 0, 1) := by decide +kernel
theorem dX2_bring_4 : decode mX2_bring.2.1 4 = .ok (.istore_n 3, 1) := by decide +kernel
theorem dX2_bring_5 : decode mX2_bring.2.1 5 = .ok (.iload_n 3, 1) := by decide +kernel
theorem dX2_bring_6 : decode mX2_bring.2.1 6 = .ok (.bipush 31, 2) := by decide +kernel
theorem dX2_bring_8 : decode mX2_bring.2.1 8 = .ok (.if_icmp .ge 55, 3) := by decide +kernel
theorem dX2_bring_11 : decode mX2_bring.2.1 11 = .ok (.aload_n 0, 1) := by decide +kernel
theorem dX2_bring_12 : decode mX2_bring.2.1 12 = .ok (.getfield 33, 3) := by decide +kernel
theorem dX2_bring_15 : decode mX2_bring.2.1 15 = .ok (.iload_n 3, 1) := by decide +kernel
theorem dX2_bring_16 : decode mX2_bring.2.1 16 = .ok (.aload_n 0, 1) := by decide +kernel
theorem dX2_bring_17 : decode mX2_bring.2.1 17 = .ok (.getfield 29, 3) := by decide +kernel
theorem dX2_bring_20 : decode mX2_bring.2.1 20 = .ok (.iload_n 3, 1) := by decide +kernel
theorem dX2_bring_21 : decode mX2_bring.2.1 21 = .ok (.baload, 1) := by decide +kernel
theorem dX2_bring_22 : decode mX2_bring.2.1 22 = .ok (.ifCond .eq 17, 3) := by decide +kernel
theorem dX2_bring_25 : decode mX2_bring.2.1 25 = .ok (.iload_n 2, 1) := by decide +kernel
theorem dX2_bring_26 : decode mX2_bring.2.1 26 = .ok (.bipush 100, 2) := by decide +kernel
theorem dX2_bring_28 : decode mX2_bring.2.1 28 = .ok (.aload_n 1, 1) := by decide +kernel
theorem dX2_bring_29 : decode mX2_bring.2.1 29 = .ok (.iload_n 3, 1) := by decide +kernel
theorem dX2_bring_30 : decode mX2_bring.2.1 30 = .ok (.iaload, 1) := by decide +kernel
theorem dX2_bring_31 : decode mX2_bring.2.1 31 = .ok (.isub, 1) := by decide +kernel
theorem dX2_bring_32 : decode mX2_bring.2.1 32 = .ok (.imul, 1) := by decide +kernel
theorem dX2_bring_33 : decode mX2_bring.2.1 33 = .ok (.bipush 100, 2) := by decide +kernel
theorem dX2_bring_35 : decode mX2_bring.2.1 35 = .ok (.idiv, 1) := by decide +kernel
theorem dX2_bring_36 : decode mX2_bring.2.1 36 = .ok (.goto 4, 3) := by decide +kernel
theorem dX2_bring_39 : decode mX2_bring.2.1 39 = .ok (.iconst 0, 1) := by decide +kernel
theorem dX2_bring_40 : decode mX2_bring.2.1 40 = .ok (.iastore, 1) := by decide +kernel
theorem dX2_bring_41 : decode mX2_bring.2.1 41 = .ok (.iload_n 2, 1) := by decide +kernel
theorem dX2_bring_42 : decode mX2_bring.2.1 42 = .ok (.aload_n 0, 1) := by decide +kernel
theorem dX2_bring_43 : decode mX2_bring.2.1 43 = .ok (.getfield 33, 3) := by decide +kernel
theorem dX2_bring_46 : decode mX2_bring.2.1 46 = .ok (.iload_n 3, 1) := by decide +kernel
theorem dX2_bring_47 : decode mX2_bring.2.1 47 = .ok (.iaload, 1) := by decide +kernel
theorem dX2_bring_48 : decode mX2_bring.2.1 48 = .ok (.isub, 1) := by decide +kernel
theorem dX2_bring_49 : decode mX2_bring.2.1 49 = .ok (.istore_n 2, 1) := by decide +kernel
theorem dX2_bring_50 : decode mX2_bring.2.1 50 = .ok (.aload_n 0, 1) := by decide +kernel
theorem dX2_bring_51 : decode mX2_bring.2.1 51 = .ok (.getfield 36, 3) := by decide +kernel
theorem dX2_bring_54 : decode mX2_bring.2.1 54 = .ok (.iload_n 3, 1) := by decide +kernel
theorem dX2_bring_55 : decode mX2_bring.2.1 55 = .ok (.iload_n 2, 1) := by decide +kernel
theorem dX2_bring_56 : decode mX2_bring.2.1 56 = .ok (.iastore, 1) := by decide +kernel
theorem dX2_bring_57 : decode mX2_bring.2.1 57 = .ok (.iinc 3 1, 3) := by decide +kernel
theorem dX2_bring_60 : decode mX2_bring.2.1 60 = .ok (.goto (-55), 3) := by decide +kernel
theorem dX2_bring_63 : decode mX2_bring.2.1 63 = .ok (.return_, 1) := by decide +kernel
theorem dX2_partOf_0 : decode mX2_partOf.2.1 0 = .ok (.iload_n 1, 1) := by decide +kernel
theorem dX2_partOf_1 : decode mX2_partOf.2.1 1 = .ok (.iconst 0, 1) := by decide +kernel
theorem dX2_partOf_2 : decode mX2_partOf.2.1 2 = .ok (.iconst 5, 1) := by decide +kernel
theorem dX2_partOf_3 : decode mX2_partOf.2.1 3 = .ok (.invokestatic 108, 3) := by decide +kernel
theorem dX2_partOf_6 : decode mX2_partOf.2.1 6 = .ok (.ifCond .eq 10, 3) := by decide +kernel
theorem dX2_partOf_9 : decode mX2_partOf.2.1 9 = .ok (.iload_n 2, 1) := by decide +kernel
theorem dX2_partOf_10 : decode mX2_partOf.2.1 10 = .ok (.invokestatic 112, 3) := by decide +kernel
theorem dX2_partOf_13 : decode mX2_partOf.2.1 13 = .ok (.ifCond .ne 6, 3) := by decide +kernel
theorem dX2_partOf_16 : decode mX2_partOf.2.1 16 = .ok (.ldc 115, 2) := by decide +kernel
theorem dX2_partOf_18 : decode mX2_partOf.2.1 18 = .ok (.ireturn, 1) := by decide +kernel
theorem dX2_partOf_19 : decode mX2_partOf.2.1 19 = .ok (.iload_n 3, 1) := by decide +kernel
theorem dX2_partOf_20 : decode mX2_partOf.2.1 20 = .ok (.tableswitch 103 0 6 #[44, 53, 60, 67, 74, 89, 96], 44) := by decide +kernel
theorem dX2_partOf_64 : decode mX2_partOf.2.1 64 = .ok (.aload_n 0, 1) := by decide +kernel
theorem dX2_partOf_65 : decode mX2_partOf.2.1 65 = .ok (.getfield 17, 3) := by decide +kernel
theorem dX2_partOf_68 : decode mX2_partOf.2.1 68 = .ok (.iload_n 1, 1) := by decide +kernel
theorem dX2_partOf_69 : decode mX2_partOf.2.1 69 = .ok (.aaload, 1) := by decide +kernel
theorem dX2_partOf_70 : decode mX2_partOf.2.1 70 = .ok (.iload_n 2, 1) := by decide +kernel
theorem dX2_partOf_71 : decode mX2_partOf.2.1 71 = .ok (.iaload, 1) := by decide +kernel
theorem dX2_partOf_72 : decode mX2_partOf.2.1 72 = .ok (.ireturn, 1) := by decide +kernel
theorem dX2_partOf_73 : decode mX2_partOf.2.1 73 = .ok (.aload_n 0, 1) := by decide +kernel
theorem dX2_partOf_74 : decode mX2_partOf.2.1 74 = .ok (.getfield 20, 3) := by decide +kernel
theorem dX2_partOf_77 : decode mX2_partOf.2.1 77 = .ok (.iload_n 2, 1) := by decide +kernel
theorem dX2_partOf_78 : decode mX2_partOf.2.1 78 = .ok (.iaload, 1) := by decide +kernel
theorem dX2_partOf_79 : decode mX2_partOf.2.1 79 = .ok (.ireturn, 1) := by decide +kernel
theorem dX2_partOf_80 : decode mX2_partOf.2.1 80 = .ok (.aload_n 0, 1) := by decide +kernel
theorem dX2_partOf_81 : decode mX2_partOf.2.1 81 = .ok (.getfield 23, 3) := by decide +kernel
theorem dX2_partOf_84 : decode mX2_partOf.2.1 84 = .ok (.iload_n 2, 1) := by decide +kernel
theorem dX2_partOf_85 : decode mX2_partOf.2.1 85 = .ok (.iaload, 1) := by decide +kernel
theorem dX2_partOf_86 : decode mX2_partOf.2.1 86 = .ok (.ireturn, 1) := by decide +kernel
theorem dX2_partOf_87 : decode mX2_partOf.2.1 87 = .ok (.aload_n 0, 1) := by decide +kernel
theorem dX2_partOf_88 : decode mX2_partOf.2.1 88 = .ok (.getfield 26, 3) := by decide +kernel
theorem dX2_partOf_91 : decode mX2_partOf.2.1 91 = .ok (.iload_n 2, 1) := by decide +kernel
theorem dX2_partOf_92 : decode mX2_partOf.2.1 92 = .ok (.iaload, 1) := by decide +kernel
theorem dX2_partOf_93 : decode mX2_partOf.2.1 93 = .ok (.ireturn, 1) := by decide +kernel
theorem dX2_partOf_94 : decode mX2_partOf.2.1 94 = .ok (.aload_n 0, 1) := by decide +kernel
theorem dX2_partOf_95 : decode mX2_partOf.2.1 95 = .ok (.getfield 29, 3) := by decide +kernel
theorem dX2_partOf_98 : decode mX2_partOf.2.1 98 = .ok (.iload_n 2, 1) := by decide +kernel
theorem dX2_partOf_99 : decode mX2_partOf.2.1 99 = .ok (.baload, 1) := by decide +kernel
theorem dX2_partOf_100 : decode mX2_partOf.2.1 100 = .ok (.ifCond .eq 7, 3) := by decide +kernel
theorem dX2_partOf_103 : decode mX2_partOf.2.1 103 = .ok (.iconst 1, 1) := by decide +kernel
theorem dX2_partOf_104 : decode mX2_partOf.2.1 104 = .ok (.goto 4, 3) := by decide +kernel
theorem dX2_partOf_107 : decode mX2_partOf.2.1 107 = .ok (.iconst 0, 1) := by decide +kernel
theorem dX2_partOf_108 : decode mX2_partOf.2.1 108 = .ok (.ireturn, 1) := by decide +kernel
theorem dX2_partOf_109 : decode mX2_partOf.2.1 109 = .ok (.aload_n 0, 1) := by decide +kernel
theorem dX2_partOf_110 : decode mX2_partOf.2.1 110 = .ok (.getfield 33, 3) := by decide +kernel
theorem dX2_partOf_113 : decode mX2_partOf.2.1 113 = .ok (.iload_n 2, 1) := by decide +kernel
theorem dX2_partOf_114 : decode mX2_partOf.2.1 114 = .ok (.iaload, 1) := by decide +kernel
theorem dX2_partOf_115 : decode mX2_partOf.2.1 115 = .ok (.ireturn, 1) := by decide +kernel
theorem dX2_partOf_116 : decode mX2_partOf.2.1 116 = .ok (.aload_n 0, 1) := by decide +kernel
theorem dX2_partOf_117 : decode mX2_partOf.2.1 117 = .ok (.getfield 36, 3) := by decide +kernel
theorem dX2_partOf_120 : decode mX2_partOf.2.1 120 = .ok (.iload_n 2, 1) := by decide +kernel
theorem dX2_partOf_121 : decode mX2_partOf.2.1 121 = .ok (.iaload, 1) := by decide +kernel
theorem dX2_partOf_122 : decode mX2_partOf.2.1 122 = .ok (.ireturn, 1) := by decide +kernel
theorem dX2_partOf_123 : decode mX2_partOf.2.1 123 = .ok (.ldc 115, 2) := by decide +kernel
theorem dX2_partOf_125 : decode mX2_partOf.2.1 125 = .ok (.ireturn, 1) := by decide +kernel
theorem dX2_firstDay_0 : decode mX2_firstDay.2.1 0 = .ok (.iconst 0, 1) := by decide +kernel
theorem dX2_firstDay_1 : decode mX2_firstDay.2.1 1 = .ok (.istore_n 3, 1) := by decide +kernel
theorem dX2_firstDay_2 : decode mX2_firstDay.2.1 2 = .ok (.iload_n 3, 1) := by decide +kernel
theorem dX2_firstDay_3 : decode mX2_firstDay.2.1 3 = .ok (.bipush 31, 2) := by decide +kernel
theorem dX2_firstDay_5 : decode mX2_firstDay.2.1 5 = .ok (.if_icmp .ge 70, 3) := by decide +kernel
theorem dX2_firstDay_8 : decode mX2_firstDay.2.1 8 = .ok (.iload_n 1, 1) := by decide +kernel
theorem dX2_firstDay_9 : decode mX2_firstDay.2.1 9 = .ok (.ifCond .ne 12, 3) := by decide +kernel
theorem dX2_firstDay_12 : decode mX2_firstDay.2.1 12 = .ok (.aload_n 0, 1) := by decide +kernel
theorem dX2_firstDay_13 : decode mX2_firstDay.2.1 13 = .ok (.getfield 29, 3) := by decide +kernel
theorem dX2_firstDay_16 : decode mX2_firstDay.2.1 16 = .ok (.iload_n 3, 1) := by decide +kernel
theorem dX2_firstDay_17 : decode mX2_firstDay.2.1 17 = .ok (.baload, 1) := by decide +kernel
theorem dX2_firstDay_18 : decode mX2_firstDay.2.1 18 = .ok (.goto 42, 3) := by decide +kernel
theorem dX2_firstDay_21 : decode mX2_firstDay.2.1 21 = .ok (.iload_n 1, 1) := by decide +kernel
theorem dX2_firstDay_22 : decode mX2_firstDay.2.1 22 = .ok (.iconst 1, 1) := by decide +kernel
theorem dX2_firstDay_23 : decode mX2_firstDay.2.1 23 = .ok (.if_icmp .ne 21, 3) := by decide +kernel
theorem dX2_firstDay_26 : decode mX2_firstDay.2.1 26 = .ok (.aload_n 0, 1) := by decide +kernel
theorem dX2_firstDay_27 : decode mX2_firstDay.2.1 27 = .ok (.getfield 9, 3) := by decide +kernel
theorem dX2_firstDay_30 : decode mX2_firstDay.2.1 30 = .ok (.iload_n 3, 1) := by decide +kernel
theorem dX2_firstDay_31 : decode mX2_firstDay.2.1 31 = .ok (.iaload, 1) := by decide +kernel
theorem dX2_firstDay_32 : decode mX2_firstDay.2.1 32 = .ok (.iload_n 2, 1) := by decide +kernel
theorem dX2_firstDay_33 : decode mX2_firstDay.2.1 33 = .ok (.if_icmp .le 7, 3) := by decide +kernel
theorem dX2_firstDay_36 : decode mX2_firstDay.2.1 36 = .ok (.iconst 1, 1) := by decide +kernel
theorem dX2_firstDay_37 : decode mX2_firstDay.2.1 37 = .ok (.goto 23, 3) := by decide +kernel
theorem dX2_firstDay_40 : decode mX2_firstDay.2.1 40 = .ok (.iconst 0, 1) := by decide +kernel
theorem dX2_firstDay_41 : decode mX2_firstDay.2.1 41 = .ok (.goto 19, 3) := by decide +kernel
theorem dX2_firstDay_44 : decode mX2_firstDay.2.1 44 = .ok (.aload_n 0, 1) := by decide +kernel
theorem dX2_firstDay_45 : decode mX2_firstDay.2.1 45 = .ok (.getfield 36, 3) := by decide +kernel
theorem dX2_firstDay_48 : decode mX2_firstDay.2.1 48 = .ok (.iload_n 3, 1) := by decide +kernel
theorem dX2_firstDay_49 : decode mX2_firstDay.2.1 49 = .ok (.iaload, 1) := by decide +kernel
theorem dX2_firstDay_50 : decode mX2_firstDay.2.1 50 = .ok (.ldc 116, 2) := by decide +kernel
theorem dX2_firstDay_52 : decode mX2_firstDay.2.1 52 = .ok (.if_icmp .gt 7, 3) := by decide +kernel
theorem dX2_firstDay_55 : decode mX2_firstDay.2.1 55 = .ok (.iconst 1, 1) := by decide +kernel
theorem dX2_firstDay_56 : decode mX2_firstDay.2.1 56 = .ok (.goto 4, 3) := by decide +kernel
theorem dX2_firstDay_59 : decode mX2_firstDay.2.1 59 = .ok (.iconst 0, 1) := by decide +kernel
theorem dX2_firstDay_60 : decode mX2_firstDay.2.1 60 = .ok (.istore 4, 2) := by decide +kernel
theorem dX2_firstDay_62 : decode mX2_firstDay.2.1 62 = .ok (.iload 4, 2) := by decide +kernel
theorem dX2_firstDay_64 : decode mX2_firstDay.2.1 64 = .ok (.ifCond .eq 5, 3) := by decide +kernel
theorem dX2_firstDay_67 : decode mX2_firstDay.2.1 67 = .ok (.iload_n 3, 1) := by decide +kernel
theorem dX2_firstDay_68 : decode mX2_firstDay.2.1 68 = .ok (.ireturn, 1) := by decide +kernel
theorem dX2_firstDay_69 : decode mX2_firstDay.2.1 69 = .ok (.iinc 3 1, 3) := by decide +kernel
theorem dX2_firstDay_72 : decode mX2_firstDay.2.1 72 = .ok (.goto (-70), 3) := by decide +kernel
theorem dX2_firstDay_75 : decode mX2_firstDay.2.1 75 = .ok (.ldc 117, 2) := by decide +kernel
theorem dX2_firstDay_77 : decode mX2_firstDay.2.1 77 = .ok (.ireturn, 1) := by decide +kernel
theorem dX2_drawDay_0 : decode mX2_drawDay.2.1 0 = .ok (.iload_n 1, 1) := by decide +kernel
theorem dX2_drawDay_1 : decode mX2_drawDay.2.1 1 = .ok (.iconst 0, 1) := by decide +kernel
theorem dX2_drawDay_2 : decode mX2_drawDay.2.1 2 = .ok (.iconst 5, 1) := by decide +kernel
theorem dX2_drawDay_3 : decode mX2_drawDay.2.1 3 = .ok (.invokestatic 108, 3) := by decide +kernel
theorem dX2_drawDay_6 : decode mX2_drawDay.2.1 6 = .ok (.ifCond .ne 6, 3) := by decide +kernel
theorem dX2_drawDay_9 : decode mX2_drawDay.2.1 9 = .ok (.ldc 117, 2) := by decide +kernel
theorem dX2_drawDay_11 : decode mX2_drawDay.2.1 11 = .ok (.ireturn, 1) := by decide +kernel
theorem dX2_drawDay_12 : decode mX2_drawDay.2.1 12 = .ok (.iconst 0, 1) := by decide +kernel
theorem dX2_drawDay_13 : decode mX2_drawDay.2.1 13 = .ok (.istore_n 3, 1) := by decide +kernel
theorem dX2_drawDay_14 : decode mX2_drawDay.2.1 14 = .ok (.iload_n 3, 1) := by decide +kernel
theorem dX2_drawDay_15 : decode mX2_drawDay.2.1 15 = .ok (.bipush 31, 2) := by decide +kernel
theorem dX2_drawDay_17 : decode mX2_drawDay.2.1 17 = .ok (.if_icmp .ge 37, 3) := by decide +kernel
theorem dX2_drawDay_20 : decode mX2_drawDay.2.1 20 = .ok (.aload_n 2, 1) := by decide +kernel
theorem dX2_drawDay_21 : decode mX2_drawDay.2.1 21 = .ok (.bipush 100, 2) := by decide +kernel
theorem dX2_drawDay_23 : decode mX2_drawDay.2.1 23 = .ok (.invokevirtual 118, 3) := by decide +kernel
theorem dX2_drawDay_26 : decode mX2_drawDay.2.1 26 = .ok (.aload_n 0, 1) := by decide +kernel
theorem dX2_drawDay_27 : decode mX2_drawDay.2.1 27 = .ok (.getfield 17, 3) := by decide +kernel
theorem dX2_drawDay_30 : decode mX2_drawDay.2.1 30 = .ok (.iload_n 1, 1) := by decide +kernel
theorem dX2_drawDay_31 : decode mX2_drawDay.2.1 31 = .ok (.aaload, 1) := by decide +kernel
theorem dX2_drawDay_32 : decode mX2_drawDay.2.1 32 = .ok (.iload_n 3, 1) := by decide +kernel
theorem dX2_drawDay_33 : decode mX2_drawDay.2.1 33 = .ok (.iaload, 1) := by decide +kernel
theorem dX2_drawDay_34 : decode mX2_drawDay.2.1 34 = .ok (.if_icmp .lt 14, 3) := by decide +kernel
theorem dX2_drawDay_37 : decode mX2_drawDay.2.1 37 = .ok (.aload_n 0, 1) := by decide +kernel
theorem dX2_drawDay_38 : decode mX2_drawDay.2.1 38 = .ok (.getfield 29, 3) := by decide +kernel
theorem dX2_drawDay_41 : decode mX2_drawDay.2.1 41 = .ok (.iload_n 3, 1) := by decide +kernel
theorem dX2_drawDay_42 : decode mX2_drawDay.2.1 42 = .ok (.baload, 1) := by decide +kernel
theorem dX2_drawDay_43 : decode mX2_drawDay.2.1 43 = .ok (.ifCond .eq 5, 3) := by decide +kernel
theorem dX2_drawDay_46 : decode mX2_drawDay.2.1 46 = .ok (.iload_n 3, 1) := by decide +kernel
theorem dX2_drawDay_47 : decode mX2_drawDay.2.1 47 = .ok (.ireturn, 1) := by decide +kernel
theorem dX2_drawDay_48 : decode mX2_drawDay.2.1 48 = .ok (.iinc 3 1, 3) := by decide +kernel
theorem dX2_drawDay_51 : decode mX2_drawDay.2.1 51 = .ok (.goto (-37), 3) := by decide +kernel
theorem dX2_drawDay_54 : decode mX2_drawDay.2.1 54 = .ok (.ldc 117, 2) := by decide +kernel
theorem dX2_drawDay_56 : decode mX2_drawDay.2.1 56 = .ok (.ireturn, 1) := by decide +kernel
theorem dX2_owedOn_0 : decode mX2_owedOn.2.1 0 = .ok (.iload_n 1, 1) := by decide +kernel
theorem dX2_owedOn_1 : decode mX2_owedOn.2.1 1 = .ok (.invokestatic 112, 3) := by decide +kernel
theorem dX2_owedOn_4 : decode mX2_owedOn.2.1 4 = .ok (.ifCond .eq 12, 3) := by decide +kernel
theorem dX2_owedOn_7 : decode mX2_owedOn.2.1 7 = .ok (.aload_n 0, 1) := by decide +kernel
theorem dX2_owedOn_8 : decode mX2_owedOn.2.1 8 = .ok (.getfield 9, 3) := by decide +kernel
theorem dX2_owedOn_11 : decode mX2_owedOn.2.1 11 = .ok (.iload_n 1, 1) := by decide +kernel
theorem dX2_owedOn_12 : decode mX2_owedOn.2.1 12 = .ok (.iaload, 1) := by decide +kernel
theorem dX2_owedOn_13 : decode mX2_owedOn.2.1 13 = .ok (.goto 4, 3) := by decide +kernel
theorem dX2_owedOn_16 : decode mX2_owedOn.2.1 16 = .ok (.iconst 0, 1) := by decide +kernel
theorem dX2_owedOn_17 : decode mX2_owedOn.2.1 17 = .ok (.ireturn, 1) := by decide +kernel
theorem dX2_differenceFrom_0 : decode mX2_differenceFrom.2.1 0 = .ok (.iconst 0, 1) := by decide +kernel
theorem dX2_differenceFrom_1 : decode mX2_differenceFrom.2.1 1 = .ok (.istore_n 2, 1) := by decide +kernel
theorem dX2_differenceFrom_2 : decode mX2_differenceFrom.2.1 2 = .ok (.iconst 0, 1) := by decide +kernel
theorem dX2_differenceFrom_3 : decode mX2_differenceFrom.2.1 3 = .ok (.istore_n 3, 1) := by decide +kernel
theorem dX2_differenceFrom_4 : decode mX2_differenceFrom.2.1 4 = .ok (.iload_n 3, 1) := by decide +kernel
theorem dX2_differenceFrom_5 : decode mX2_differenceFrom.2.1 5 = .ok (.bipush 24, 2) := by decide +kernel
theorem dX2_differenceFrom_7 : decode mX2_differenceFrom.2.1 7 = .ok (.if_icmp .ge 40, 3) := by decide +kernel
theorem dX2_differenceFrom_10 : decode mX2_differenceFrom.2.1 10 = .ok (.aload_n 1, 1) := by decide +kernel
theorem dX2_differenceFrom_11 : decode mX2_differenceFrom.2.1 11 = .ok (.iload_n 3, 1) := by decide +kernel
theorem dX2_differenceFrom_12 : decode mX2_differenceFrom.2.1 12 = .ok (.invokevirtual 124, 3) := by decide +kernel
theorem dX2_differenceFrom_15 : decode mX2_differenceFrom.2.1 15 = .ok (.ifCond .eq 26, 3) := by decide +kernel
theorem dX2_differenceFrom_18 : decode mX2_differenceFrom.2.1 18 = .ok (.iload_n 2, 1) := by decide +kernel
theorem dX2_differenceFrom_19 : decode mX2_differenceFrom.2.1 19 = .ok (.aload_n 1, 1) := by decide +kernel
theorem dX2_differenceFrom_20 : decode mX2_differenceFrom.2.1 20 = .ok (.getfield 129, 3) := by decide +kernel
theorem dX2_differenceFrom_23 : decode mX2_differenceFrom.2.1 23 = .ok (.iload_n 3, 1) := by decide +kernel
theorem dX2_differenceFrom_24 : decode mX2_differenceFrom.2.1 24 = .ok (.iaload, 1) := by decide +kernel
theorem dX2_differenceFrom_25 : decode mX2_differenceFrom.2.1 25 = .ok (.aload_n 0, 1) := by decide +kernel
theorem dX2_differenceFrom_26 : decode mX2_differenceFrom.2.1 26 = .ok (.getfield 33, 3) := by decide +kernel
theorem dX2_differenceFrom_29 : decode mX2_differenceFrom.2.1 29 = .ok (.iload_n 3, 1) := by decide +kernel
theorem dX2_differenceFrom_30 : decode mX2_differenceFrom.2.1 30 = .ok (.iaload, 1) := by decide +kernel
theorem dX2_differenceFrom_31 : decode mX2_differenceFrom.2.1 31 = .ok (.sipush 10000, 3) := by decide +kernel
theorem dX2_differenceFrom_34 : decode mX2_differenceFrom.2.1 34 = .ok (.idiv, 1) := by decide +kernel
theorem dX2_differenceFrom_35 : decode mX2_differenceFrom.2.1 35 = .ok (.isub, 1) := by decide +kernel
theorem dX2_differenceFrom_36 : decode mX2_differenceFrom.2.1 36 = .ok (.invokestatic 132, 3) := by decide +kernel
theorem dX2_differenceFrom_39 : decode mX2_differenceFrom.2.1 39 = .ok (.iadd, 1) := by decide +kernel
theorem dX2_differenceFrom_40 : decode mX2_differenceFrom.2.1 40 = .ok (.istore_n 2, 1) := by decide +kernel
theorem dX2_differenceFrom_41 : decode mX2_differenceFrom.2.1 41 = .ok (.iinc 3 1, 3) := by decide +kernel
theorem dX2_differenceFrom_44 : decode mX2_differenceFrom.2.1 44 = .ok (.goto (-40), 3) := by decide +kernel
theorem dX2_differenceFrom_47 : decode mX2_differenceFrom.2.1 47 = .ok (.iload_n 2, 1) := by decide +kernel
theorem dX2_differenceFrom_48 : decode mX2_differenceFrom.2.1 48 = .ok (.ireturn, 1) := by decide +kernel
theorem dX2_tally_0 : decode mX2_tally.2.1 0 = .ok (.aload_n 0, 1) := by decide +kernel
theorem dX2_tally_1 : decode mX2_tally.2.1 1 = .ok (.lconst 0, 1) := by decide +kernel
theorem dX2_tally_2 : decode mX2_tally.2.1 2 = .ok (.putfield 39, 3) := by decide +kernel
theorem dX2_tally_5 : decode mX2_tally.2.1 5 = .ok (.aload_n 0, 1) := by decide +kernel
theorem dX2_tally_6 : decode mX2_tally.2.1 6 = .ok (.lconst 0, 1) := by decide +kernel
theorem dX2_tally_7 : decode mX2_tally.2.1 7 = .ok (.putfield 43, 3) := by decide +kernel
theorem dX2_tally_10 : decode mX2_tally.2.1 10 = .ok (.aload_n 0, 1) := by decide +kernel
theorem dX2_tally_11 : decode mX2_tally.2.1 11 = .ok (.lconst 0, 1) := by decide +kernel
theorem dX2_tally_12 : decode mX2_tally.2.1 12 = .ok (.putfield 46, 3) := by decide +kernel
theorem dX2_tally_15 : decode mX2_tally.2.1 15 = .ok (.aload_n 0, 1) := by decide +kernel
theorem dX2_tally_16 : decode mX2_tally.2.1 16 = .ok (.lconst 0, 1) := by decide +kernel
theorem dX2_tally_17 : decode mX2_tally.2.1 17 = .ok (.putfield 49, 3) := by decide +kernel
theorem dX2_tally_20 : decode mX2_tally.2.1 20 = .ok (.iconst 0, 1) := by decide +kernel
theorem dX2_tally_21 : decode mX2_tally.2.1 21 = .ok (.istore_n 3, 1) := by decide +kernel
theorem dX2_tally_22 : decode mX2_tally.2.1 22 = .ok (.iload_n 3, 1) := by decide +kernel
theorem dX2_tally_23 : decode mX2_tally.2.1 23 = .ok (.aload_n 1, 1) := by decide +kernel
theorem dX2_tally_24 : decode mX2_tally.2.1 24 = .ok (.getfield 74, 3) := by decide +kernel
theorem dX2_tally_27 : decode mX2_tally.2.1 27 = .ok (.if_icmp .ge 29, 3) := by decide +kernel
theorem dX2_tally_30 : decode mX2_tally.2.1 30 = .ok (.aload_n 0, 1) := by decide +kernel
theorem dX2_tally_31 : decode mX2_tally.2.1 31 = .ok (.aload_n 1, 1) := by decide +kernel
theorem dX2_tally_32 : decode mX2_tally.2.1 32 = .ok (.iload_n 3, 1) := by decide +kernel
theorem dX2_tally_33 : decode mX2_tally.2.1 33 = .ok (.invokevirtual 92, 3) := by decide +kernel
theorem dX2_tally_36 : decode mX2_tally.2.1 36 = .ok (.aload_n 0, 1) := by decide +kernel
theorem dX2_tally_37 : decode mX2_tally.2.1 37 = .ok (.aload_n 1, 1) := by decide +kernel
theorem dX2_tally_38 : decode mX2_tally.2.1 38 = .ok (.getfield 85, 3) := by decide +kernel
theorem dX2_tally_41 : decode mX2_tally.2.1 41 = .ok (.iload_n 3, 1) := by decide +kernel
theorem dX2_tally_42 : decode mX2_tally.2.1 42 = .ok (.aaload, 1) := by decide +kernel
theorem dX2_tally_43 : decode mX2_tally.2.1 43 = .ok (.iconst 0, 1) := by decide +kernel
theorem dX2_tally_44 : decode mX2_tally.2.1 44 = .ok (.iaload, 1) := by decide +kernel
theorem dX2_tally_45 : decode mX2_tally.2.1 45 = .ok (.i2l, 1) := by decide +kernel
theorem dX2_tally_46 : decode mX2_tally.2.1 46 = .ok (.iload_n 2, 1) := by decide +kernel
theorem dX2_tally_47 : decode mX2_tally.2.1 47 = .ok (.invokevirtual 137, 3) := by decide +kernel
theorem dX2_tally_50 : decode mX2_tally.2.1 50 = .ok (.iinc 3 1, 3) := by decide +kernel
theorem dX2_tally_53 : decode mX2_tally.2.1 53 = .ok (.goto (-31), 3) := by decide +kernel
theorem dX2_tally_56 : decode mX2_tally.2.1 56 = .ok (.return_, 1) := by decide +kernel
theorem dX2_addUp_0 : decode mX2_addUp.2.1 0 = .ok (.lconst 0, 1) := by decide +kernel
theorem dX2_addUp_1 : decode mX2_addUp.2.1 1 = .ok (.lstore 4, 2) := by decide +kernel
theorem dX2_addUp_3 : decode mX2_addUp.2.1 3 = .ok (.lconst 0, 1) := by decide +kernel
theorem dX2_addUp_4 : decode mX2_addUp.2.1 4 = .ok (.lstore 6, 2) := by decide +kernel
theorem dX2_addUp_6 : decode mX2_addUp.2.1 6 = .ok (.iconst 0, 1) := by decide +kernel
theorem dX2_addUp_7 : decode mX2_addUp.2.1 7 = .ok (.istore 8, 2) := by decide +kernel
theorem dX2_addUp_9 : decode mX2_addUp.2.1 9 = .ok (.iload 8, 2) := by decide +kernel
theorem dX2_addUp_11 : decode mX2_addUp.2.1 11 = .ok (.bipush 31, 2) := by decide +kernel
theorem dX2_addUp_13 : decode mX2_addUp.2.1 13 = .ok (.if_icmp .ge 44, 3) := by decide +kernel
theorem dX2_addUp_16 : decode mX2_addUp.2.1 16 = .ok (.lload 4, 2) := by decide +kernel
theorem dX2_addUp_18 : decode mX2_addUp.2.1 18 = .ok (.aload_n 0, 1) := by decide +kernel
theorem dX2_addUp_19 : decode mX2_addUp.2.1 19 = .ok (.getfield 36, 3) := by decide +kernel
theorem dX2_addUp_22 : decode mX2_addUp.2.1 22 = .ok (.iload 8, 2) := by decide +kernel
theorem dX2_addUp_24 : decode mX2_addUp.2.1 24 = .ok (.iaload, 1) := by decide +kernel
theorem dX2_addUp_25 : decode mX2_addUp.2.1 25 = .ok (.i2l, 1) := by decide +kernel
theorem dX2_addUp_26 : decode mX2_addUp.2.1 26 = .ok (.ladd, 1) := by decide +kernel
theorem dX2_addUp_27 : decode mX2_addUp.2.1 27 = .ok (.lstore 4, 2) := by decide +kernel
theorem dX2_addUp_29 : decode mX2_addUp.2.1 29 = .ok (.lload 6, 2) := by decide +kernel
theorem dX2_addUp_31 : decode mX2_addUp.2.1 31 = .ok (.aload_n 0, 1) := by decide +kernel
theorem dX2_addUp_32 : decode mX2_addUp.2.1 32 = .ok (.getfield 33, 3) := by decide +kernel
theorem dX2_addUp_35 : decode mX2_addUp.2.1 35 = .ok (.iload 8, 2) := by decide +kernel
theorem dX2_addUp_37 : decode mX2_addUp.2.1 37 = .ok (.iaload, 1) := by decide +kernel
theorem dX2_addUp_38 : decode mX2_addUp.2.1 38 = .ok (.i2l, 1) := by decide +kernel
theorem dX2_addUp_39 : decode mX2_addUp.2.1 39 = .ok (.aload_n 0, 1) := by decide +kernel
theorem dX2_addUp_40 : decode mX2_addUp.2.1 40 = .ok (.getfield 9, 3) := by decide +kernel
theorem dX2_addUp_43 : decode mX2_addUp.2.1 43 = .ok (.iload 8, 2) := by decide +kernel
theorem dX2_addUp_45 : decode mX2_addUp.2.1 45 = .ok (.iaload, 1) := by decide +kernel
theorem dX2_addUp_46 : decode mX2_addUp.2.1 46 = .ok (.i2l, 1) := by decide +kernel
theorem dX2_addUp_47 : decode mX2_addUp.2.1 47 = .ok (.lmul, 1) := by decide +kernel
theorem dX2_addUp_48 : decode mX2_addUp.2.1 48 = .ok (.ladd, 1) := by decide +kernel
theorem dX2_addUp_49 : decode mX2_addUp.2.1 49 = .ok (.lstore 6, 2) := by decide +kernel
theorem dX2_addUp_51 : decode mX2_addUp.2.1 51 = .ok (.iinc 8 1, 3) := by decide +kernel
theorem dX2_addUp_54 : decode mX2_addUp.2.1 54 = .ok (.goto (-45), 3) := by decide +kernel
theorem dX2_addUp_57 : decode mX2_addUp.2.1 57 = .ok (.aload_n 0, 1) := by decide +kernel
theorem dX2_addUp_58 : decode mX2_addUp.2.1 58 = .ok (.dup, 1) := by decide +kernel
theorem dX2_addUp_59 : decode mX2_addUp.2.1 59 = .ok (.getfield 39, 3) := by decide +kernel
theorem dX2_addUp_62 : decode mX2_addUp.2.1 62 = .ok (.lload_n 1, 1) := by decide +kernel
theorem dX2_addUp_63 : decode mX2_addUp.2.1 63 = .ok (.lload 4, 2) := by decide +kernel
theorem dX2_addUp_65 : decode mX2_addUp.2.1 65 = .ok (.lmul, 1) := by decide +kernel
theorem dX2_addUp_66 : decode mX2_addUp.2.1 66 = .ok (.ladd, 1) := by decide +kernel
theorem dX2_addUp_67 : decode mX2_addUp.2.1 67 = .ok (.putfield 39, 3) := by decide +kernel
theorem dX2_addUp_70 : decode mX2_addUp.2.1 70 = .ok (.aload_n 0, 1) := by decide +kernel
theorem dX2_addUp_71 : decode mX2_addUp.2.1 71 = .ok (.dup, 1) := by decide +kernel
theorem dX2_addUp_72 : decode mX2_addUp.2.1 72 = .ok (.getfield 43, 3) := by decide +kernel
theorem dX2_addUp_75 : decode mX2_addUp.2.1 75 = .ok (.lload_n 1, 1) := by decide +kernel
theorem dX2_addUp_76 : decode mX2_addUp.2.1 76 = .ok (.lload 6, 2) := by decide +kernel
theorem dX2_addUp_78 : decode mX2_addUp.2.1 78 = .ok (.lmul, 1) := by decide +kernel
theorem dX2_addUp_79 : decode mX2_addUp.2.1 79 = .ok (.ladd, 1) := by decide +kernel
theorem dX2_addUp_80 : decode mX2_addUp.2.1 80 = .ok (.putfield 43, 3) := by decide +kernel
theorem dX2_addUp_83 : decode mX2_addUp.2.1 83 = .ok (.aload_n 0, 1) := by decide +kernel
theorem dX2_addUp_84 : decode mX2_addUp.2.1 84 = .ok (.dup, 1) := by decide +kernel
theorem dX2_addUp_85 : decode mX2_addUp.2.1 85 = .ok (.getfield 46, 3) := by decide +kernel
theorem dX2_addUp_88 : decode mX2_addUp.2.1 88 = .ok (.lload_n 1, 1) := by decide +kernel
theorem dX2_addUp_89 : decode mX2_addUp.2.1 89 = .ok (.aload_n 0, 1) := by decide +kernel
theorem dX2_addUp_90 : decode mX2_addUp.2.1 90 = .ok (.getfield 36, 3) := by decide +kernel
theorem dX2_addUp_93 : decode mX2_addUp.2.1 93 = .ok (.bipush 30, 2) := by decide +kernel
theorem dX2_addUp_95 : decode mX2_addUp.2.1 95 = .ok (.iaload, 1) := by decide +kernel
theorem dX2_addUp_96 : decode mX2_addUp.2.1 96 = .ok (.i2l, 1) := by decide +kernel
theorem dX2_addUp_97 : decode mX2_addUp.2.1 97 = .ok (.lmul, 1) := by decide +kernel
theorem dX2_addUp_98 : decode mX2_addUp.2.1 98 = .ok (.ladd, 1) := by decide +kernel
theorem dX2_addUp_99 : decode mX2_addUp.2.1 99 = .ok (.putfield 46, 3) := by decide +kernel
theorem dX2_addUp_102 : decode mX2_addUp.2.1 102 = .ok (.iload_n 3, 1) := by decide +kernel
theorem dX2_addUp_103 : decode mX2_addUp.2.1 103 = .ok (.invokestatic 112, 3) := by decide +kernel
theorem dX2_addUp_106 : decode mX2_addUp.2.1 106 = .ok (.ifCond .eq 32, 3) := by decide +kernel
theorem dX2_addUp_109 : decode mX2_addUp.2.1 109 = .ok (.aload_n 0, 1) := by decide +kernel
theorem dX2_addUp_110 : decode mX2_addUp.2.1 110 = .ok (.dup, 1) := by decide +kernel
theorem dX2_addUp_111 : decode mX2_addUp.2.1 111 = .ok (.getfield 49, 3) := by decide +kernel
theorem dX2_addUp_114 : decode mX2_addUp.2.1 114 = .ok (.lload_n 1, 1) := by decide +kernel
theorem dX2_addUp_115 : decode mX2_addUp.2.1 115 = .ok (.iload_n 3, 1) := by decide +kernel
theorem dX2_addUp_116 : decode mX2_addUp.2.1 116 = .ok (.ifCond .ne 8, 3) := by decide +kernel
theorem dX2_addUp_119 : decode mX2_addUp.2.1 119 = .ok (.ldc 107, 2) := by decide +kernel
theorem dX2_addUp_121 : decode mX2_addUp.2.1 121 = .ok (.goto 11, 3) := by decide +kernel
theorem dX2_addUp_124 : decode mX2_addUp.2.1 124 = .ok (.aload_n 0, 1) := by decide +kernel
theorem dX2_addUp_125 : decode mX2_addUp.2.1 125 = .ok (.getfield 36, 3) := by decide +kernel
theorem dX2_addUp_128 : decode mX2_addUp.2.1 128 = .ok (.iload_n 3, 1) := by decide +kernel
theorem dX2_addUp_129 : decode mX2_addUp.2.1 129 = .ok (.iconst 1, 1) := by decide +kernel
theorem dX2_addUp_130 : decode mX2_addUp.2.1 130 = .ok (.isub, 1) := by decide +kernel
theorem dX2_addUp_131 : decode mX2_addUp.2.1 131 = .ok (.iaload, 1) := by decide +kernel
theorem dX2_addUp_132 : decode mX2_addUp.2.1 132 = .ok (.i2l, 1) := by decide +kernel
theorem dX2_addUp_133 : decode mX2_addUp.2.1 133 = .ok (.lmul, 1) := by decide +kernel
theorem dX2_addUp_134 : decode mX2_addUp.2.1 134 = .ok (.ladd, 1) := by decide +kernel
theorem dX2_addUp_135 : decode mX2_addUp.2.1 135 = .ok (.putfield 49, 3) := by decide +kernel
theorem dX2_addUp_138 : decode mX2_addUp.2.1 138 = .ok (.return_, 1) := by decide +kernel
theorem dX3_init_0 : decode mX3_init.2.1 0 = .ok (.aload_n 0, 1) := by decide +kernel
theorem dX3_init_1 : decode mX3_init.2.1 1 = .ok (.invokespecial 3, 3) := by decide +kernel
theorem dX3_init_4 : decode mX3_init.2.1 4 = .ok (.aload_n 0, 1) := by decide +kernel
theorem dX3_init_5 : decode mX3_init.2.1 5 = .ok (.iconst 0, 1) := by decide +kernel
theorem dX3_init_6 : decode mX3_init.2.1 6 = .ok (.putfield 9, 3) := by decide +kernel
theorem dX3_init_9 : decode mX3_init.2.1 9 = .ok (.aload_n 0, 1) := by decide +kernel
theorem dX3_init_10 : decode mX3_init.2.1 10 = .ok (.iconst 3, 1) := by decide +kernel
theorem dX3_init_11 : decode mX3_init.2.1 11 = .ok (.newarray .int, 2) := by decide +kernel
theorem dX3_init_13 : decode mX3_init.2.1 13 = .ok (.putfield 15, 3) := by decide +kernel
theorem dX3_init_16 : decode mX3_init.2.1 16 = .ok (.return_, 1) := by decide +kernel
theorem dX3_become_0 : decode mX3_become.2.1 0 = .ok (.aload_n 0, 1) := by decide +kernel
theorem dX3_become_1 : decode mX3_become.2.1 1 = .ok (.aload_n 1, 1) := by decide +kernel
theorem dX3_become_2 : decode mX3_become.2.1 2 = .ok (.getfield 9, 3) := by decide +kernel
theorem dX3_become_5 : decode mX3_become.2.1 5 = .ok (.putfield 9, 3) := by decide +kernel
theorem dX3_become_8 : decode mX3_become.2.1 8 = .ok (.aload_n 1, 1) := by decide +kernel
theorem dX3_become_9 : decode mX3_become.2.1 9 = .ok (.getfield 15, 3) := by decide +kernel
theorem dX3_become_12 : decode mX3_become.2.1 12 = .ok (.iconst 0, 1) := by decide +kernel
theorem dX3_become_13 : decode mX3_become.2.1 13 = .ok (.aload_n 0, 1) := by decide +kernel
theorem dX3_become_14 : decode mX3_become.2.1 14 = .ok (.getfield 15, 3) := by decide +kernel
theorem dX3_become_17 : decode mX3_become.2.1 17 = .ok (.iconst 0, 1) := by decide +kernel
theorem dX3_become_18 : decode mX3_become.2.1 18 = .ok (.iconst 3, 1) := by decide +kernel
theorem dX3_become_19 : decode mX3_become.2.1 19 = .ok (.invokestatic 19, 3) := by decide +kernel
theorem dX3_become_22 : decode mX3_become.2.1 22 = .ok (.return_, 1) := by decide +kernel
theorem dX3_worth_0 : decode mX3_worth.2.1 0 = .ok (.aload_n 0, 1) := by decide +kernel
theorem dX3_worth_1 : decode mX3_worth.2.1 1 = .ok (.getfield 9, 3) := by decide +kernel
theorem dX3_worth_4 : decode mX3_worth.2.1 4 = .ok (.tableswitch 94 1 5 #[36, 71, 50, 78, 92], 36) := by decide +kernel
theorem dX3_worth_40 : decode mX3_worth.2.1 40 = .ok (.aload_n 0, 1) := by decide +kernel
theorem dX3_worth_41 : decode mX3_worth.2.1 41 = .ok (.getfield 15, 3) := by decide +kernel
theorem dX3_worth_44 : decode mX3_worth.2.1 44 = .ok (.iconst 0, 1) := by decide +kernel
theorem dX3_worth_45 : decode mX3_worth.2.1 45 = .ok (.iaload, 1) := by decide +kernel
theorem dX3_worth_46 : decode mX3_worth.2.1 46 = .ok (.aload_n 0, 1) := by decide +kernel
theorem dX3_worth_47 : decode mX3_worth.2.1 47 = .ok (.getfield 15, 3) := by decide +kernel
theorem dX3_worth_50 : decode mX3_worth.2.1 50 = .ok (.iconst 1, 1) := by decide +kernel
theorem dX3_worth_51 : decode mX3_worth.2.1 51 = .ok (.iaload, 1) := by decide +kernel
theorem dX3_worth_52 : decode mX3_worth.2.1 52 = .ok (.iadd, 1) := by decide +kernel
theorem dX3_worth_53 : decode mX3_worth.2.1 53 = .ok (.ireturn, 1) := by decide +kernel
theorem dX3_worth_54 : decode mX3_worth.2.1 54 = .ok (.aload_n 0, 1) := by decide +kernel
theorem dX3_worth_55 : decode mX3_worth.2.1 55 = .ok (.getfield 15, 3) := by decide +kernel
theorem dX3_worth_58 : decode mX3_worth.2.1 58 = .ok (.iconst 0, 1) := by decide +kernel
theorem dX3_worth_59 : decode mX3_worth.2.1 59 = .ok (.iaload, 1) := by decide +kernel
theorem dX3_worth_60 : decode mX3_worth.2.1 60 = .ok (.aload_n 0, 1) := by decide +kernel
theorem dX3_worth_61 : decode mX3_worth.2.1 61 = .ok (.getfield 15, 3) := by decide +kernel
theorem dX3_worth_64 : decode mX3_worth.2.1 64 = .ok (.iconst 1, 1) := by decide +kernel
theorem dX3_worth_65 : decode mX3_worth.2.1 65 = .ok (.iaload, 1) := by decide +kernel
theorem dX3_worth_66 : decode mX3_worth.2.1 66 = .ok (.iadd, 1) := by decide +kernel
theorem dX3_worth_67 : decode mX3_worth.2.1 67 = .ok (.aload_n 0, 1) := by decide +kernel
theorem dX3_worth_68 : decode mX3_worth.2.1 68 = .ok (.getfield 15, 3) := by decide +kernel
theorem dX3_worth_71 : decode mX3_worth.2.1 71 = .ok (.iconst 2, 1) := by decide +kernel
theorem dX3_worth_72 : decode mX3_worth.2.1 72 = .ok (.iaload, 1) := by decide +kernel
theorem dX3_worth_73 : decode mX3_worth.2.1 73 = .ok (.isub, 1) := by decide +kernel
theorem dX3_worth_74 : decode mX3_worth.2.1 74 = .ok (.ireturn, 1) := by decide +kernel
theorem dX3_worth_75 : decode mX3_worth.2.1 75 = .ok (.aload_n 0, 1) := by decide +kernel
theorem dX3_worth_76 : decode mX3_worth.2.1 76 = .ok (.getfield 15, 3) := by decide +kernel
theorem dX3_worth_79 : decode mX3_worth.2.1 79 = .ok (.iconst 1, 1) := by decide +kernel
theorem dX3_worth_80 : decode mX3_worth.2.1 80 = .ok (.iaload, 1) := by decide +kernel
theorem dX3_worth_81 : decode mX3_worth.2.1 81 = .ok (.ireturn, 1) := by decide +kernel
theorem dX3_worth_82 : decode mX3_worth.2.1 82 = .ok (.aload_n 0, 1) := by decide +kernel
theorem dX3_worth_83 : decode mX3_worth.2.1 83 = .ok (.getfield 15, 3) := by decide +kernel
theorem dX3_worth_86 : decode mX3_worth.2.1 86 = .ok (.iconst 1, 1) := by decide +kernel
theorem dX3_worth_87 : decode mX3_worth.2.1 87 = .ok (.iaload, 1) := by decide +kernel
theorem dX3_worth_88 : decode mX3_worth.2.1 88 = .ok (.aload_n 0, 1) := by decide +kernel
theorem dX3_worth_89 : decode mX3_worth.2.1 89 = .ok (.getfield 15, 3) := by decide +kernel
theorem dX3_worth_92 : decode mX3_worth.2.1 92 = .ok (.iconst 2, 1) := by decide +kernel
theorem dX3_worth_93 : decode mX3_worth.2.1 93 = .ok (.iaload, 1) := by decide +kernel
theorem dX3_worth_94 : decode mX3_worth.2.1 94 = .ok (.iadd, 1) := by decide +kernel
theorem dX3_worth_95 : decode mX3_worth.2.1 95 = .ok (.ireturn, 1) := by decide +kernel
theorem dX3_worth_96 : decode mX3_worth.2.1 96 = .ok (.iconst 1, 1) := by decide +kernel
theorem dX3_worth_97 : decode mX3_worth.2.1 97 = .ok (.ireturn, 1) := by decide +kernel
theorem dX3_worth_98 : decode mX3_worth.2.1 98 = .ok (.aload_n 0, 1) := by decide +kernel
theorem dX3_worth_99 : decode mX3_worth.2.1 99 = .ok (.getfield 15, 3) := by decide +kernel
theorem dX3_worth_102 : decode mX3_worth.2.1 102 = .ok (.iconst 0, 1) := by decide +kernel
theorem dX3_worth_103 : decode mX3_worth.2.1 103 = .ok (.iaload, 1) := by decide +kernel
theorem dX3_worth_104 : decode mX3_worth.2.1 104 = .ok (.ireturn, 1) := by decide +kernel
theorem dX3_owedFrom_0 : decode mX3_owedFrom.2.1 0 = .ok (.aload_n 0, 1) := by decide +kernel
theorem dX3_owedFrom_1 : decode mX3_owedFrom.2.1 1 = .ok (.getfield 9, 3) := by decide +kernel
theorem dX3_owedFrom_4 : decode mX3_owedFrom.2.1 4 = .ok (.tableswitch 97 1 5 #[36, 53, 40, 62, 95], 36) := by decide +kernel
theorem dX3_owedFrom_40 : decode mX3_owedFrom.2.1 40 = .ok (.iload_n 2, 1) := by decide +kernel
theorem dX3_owedFrom_41 : decode mX3_owedFrom.2.1 41 = .ok (.iload_n 1, 1) := by decide +kernel
theorem dX3_owedFrom_42 : decode mX3_owedFrom.2.1 42 = .ok (.imul, 1) := by decide +kernel
theorem dX3_owedFrom_43 : decode mX3_owedFrom.2.1 43 = .ok (.ireturn, 1) := by decide +kernel
theorem dX3_owedFrom_44 : decode mX3_owedFrom.2.1 44 = .ok (.iload_n 2, 1) := by decide +kernel
theorem dX3_owedFrom_45 : decode mX3_owedFrom.2.1 45 = .ok (.iload_n 1, 1) := by decide +kernel
theorem dX3_owedFrom_46 : decode mX3_owedFrom.2.1 46 = .ok (.imul, 1) := by decide +kernel
theorem dX3_owedFrom_47 : decode mX3_owedFrom.2.1 47 = .ok (.aload_n 0, 1) := by decide +kernel
theorem dX3_owedFrom_48 : decode mX3_owedFrom.2.1 48 = .ok (.getfield 15, 3) := by decide +kernel
theorem dX3_owedFrom_51 : decode mX3_owedFrom.2.1 51 = .ok (.iconst 1, 1) := by decide +kernel
theorem dX3_owedFrom_52 : decode mX3_owedFrom.2.1 52 = .ok (.iaload, 1) := by decide +kernel
theorem dX3_owedFrom_53 : decode mX3_owedFrom.2.1 53 = .ok (.invokestatic 25, 3) := by decide +kernel
theorem dX3_owedFrom_56 : decode mX3_owedFrom.2.1 56 = .ok (.ireturn, 1) := by decide +kernel
theorem dX3_owedFrom_57 : decode mX3_owedFrom.2.1 57 = .ok (.iload_n 1, 1) := by decide +kernel
theorem dX3_owedFrom_58 : decode mX3_owedFrom.2.1 58 = .ok (.aload_n 0, 1) := by decide +kernel
theorem dX3_owedFrom_59 : decode mX3_owedFrom.2.1 59 = .ok (.getfield 15, 3) := by decide +kernel
theorem dX3_owedFrom_62 : decode mX3_owedFrom.2.1 62 = .ok (.iconst 1, 1) := by decide +kernel
theorem dX3_owedFrom_63 : decode mX3_owedFrom.2.1 63 = .ok (.iaload, 1) := by decide +kernel
theorem dX3_owedFrom_64 : decode mX3_owedFrom.2.1 64 = .ok (.iadd, 1) := by decide +kernel
theorem dX3_owedFrom_65 : decode mX3_owedFrom.2.1 65 = .ok (.ireturn, 1) := by decide +kernel
theorem dX3_owedFrom_66 : decode mX3_owedFrom.2.1 66 = .ok (.aload_n 0, 1) := by decide +kernel
theorem dX3_owedFrom_67 : decode mX3_owedFrom.2.1 67 = .ok (.getfield 15, 3) := by decide +kernel
theorem dX3_owedFrom_70 : decode mX3_owedFrom.2.1 70 = .ok (.iconst 2, 1) := by decide +kernel
theorem dX3_owedFrom_71 : decode mX3_owedFrom.2.1 71 = .ok (.iaload, 1) := by decide +kernel
theorem dX3_owedFrom_72 : decode mX3_owedFrom.2.1 72 = .ok (.ifCond .le 18, 3) := by decide +kernel
theorem dX3_owedFrom_75 : decode mX3_owedFrom.2.1 75 = .ok (.iload_n 2, 1) := by decide +kernel
theorem dX3_owedFrom_76 : decode mX3_owedFrom.2.1 76 = .ok (.aload_n 0, 1) := by decide +kernel
theorem dX3_owedFrom_77 : decode mX3_owedFrom.2.1 77 = .ok (.getfield 15, 3) := by decide +kernel
theorem dX3_owedFrom_80 : decode mX3_owedFrom.2.1 80 = .ok (.iconst 2, 1) := by decide +kernel
theorem dX3_owedFrom_81 : decode mX3_owedFrom.2.1 81 = .ok (.iaload, 1) := by decide +kernel
theorem dX3_owedFrom_82 : decode mX3_owedFrom.2.1 82 = .ok (.irem, 1) := by decide +kernel
theorem dX3_owedFrom_83 : decode mX3_owedFrom.2.1 83 = .ok (.ifCond .ne 7, 3) := by decide +kernel
theorem dX3_owedFrom_86 : decode mX3_owedFrom.2.1 86 = .ok (.iconst 0, 1) := by decide +kernel
theorem dX3_owedFrom_87 : decode mX3_owedFrom.2.1 87 = .ok (.goto 11, 3) := by decide +kernel
theorem dX3_owedFrom_90 : decode mX3_owedFrom.2.1 90 = .ok (.iload_n 1, 1) := by decide +kernel
theorem dX3_owedFrom_91 : decode mX3_owedFrom.2.1 91 = .ok (.aload_n 0, 1) := by decide +kernel
theorem dX3_owedFrom_92 : decode mX3_owedFrom.2.1 92 = .ok (.getfield 15, 3) := by decide +kernel
theorem dX3_owedFrom_95 : decode mX3_owedFrom.2.1 95 = .ok (.iconst 1, 1) := by decide +kernel
theorem dX3_owedFrom_96 : decode mX3_owedFrom.2.1 96 = .ok (.iaload, 1) := by decide +kernel
theorem dX3_owedFrom_97 : decode mX3_owedFrom.2.1 97 = .ok (.iadd, 1) := by decide +kernel
theorem dX3_owedFrom_98 : decode mX3_owedFrom.2.1 98 = .ok (.ireturn, 1) := by decide +kernel
theorem dX3_owedFrom_99 : decode mX3_owedFrom.2.1 99 = .ok (.iconst 0, 1) := by decide +kernel
theorem dX3_owedFrom_100 : decode mX3_owedFrom.2.1 100 = .ok (.ireturn, 1) := by decide +kernel
theorem dX3_owedFrom_101 : decode mX3_owedFrom.2.1 101 = .ok (.iload_n 1, 1) := by decide +kernel
theorem dX3_owedFrom_102 : decode mX3_owedFrom.2.1 102 = .ok (.ireturn, 1) := by decide +kernel
theorem dX4_init_0 : decode mX4_init.2.1 0 = .ok (.aload_n 0, 1) := by decide +kernel
theorem dX4_init_1 : decode mX4_init.2.1 1 = .ok (.invokespecial 3, 3) := by decide +kernel
theorem dX4_init_4 : decode mX4_init.2.1 4 = .ok (.aload_n 0, 1) := by decide +kernel
theorem dX4_init_5 : decode mX4_init.2.1 5 = .ok (.iconst (-1), 1) := by decide +kernel
theorem dX4_init_6 : decode mX4_init.2.1 6 = .ok (.putfield 9, 3) := by decide +kernel
theorem dX4_init_9 : decode mX4_init.2.1 9 = .ok (.aload_n 0, 1) := by decide +kernel
theorem dX4_init_10 : decode mX4_init.2.1 10 = .ok (.iconst 0, 1) := by decide +kernel
theorem dX4_init_11 : decode mX4_init.2.1 11 = .ok (.putfield 15, 3) := by decide +kernel
theorem dX4_init_14 : decode mX4_init.2.1 14 = .ok (.aload_n 0, 1) := by decide +kernel
theorem dX4_init_15 : decode mX4_init.2.1 15 = .ok (.bipush 24, 2) := by decide +kernel
theorem dX4_init_17 : decode mX4_init.2.1 17 = .ok (.newarray .int, 2) := by decide +kernel
theorem dX4_init_19 : decode mX4_init.2.1 19 = .ok (.putfield 18, 3) := by decide +kernel
theorem dX4_init_22 : decode mX4_init.2.1 22 = .ok (.return_, 1) := by decide +kernel
theorem dX4_renew_0 : decode mX4_renew.2.1 0 = .ok (.aload_n 0, 1) := by decide +kernel
theorem dX4_renew_1 : decode mX4_renew.2.1 1 = .ok (.iload_n 1, 1) := by decide +kernel
theorem dX4_renew_2 : decode mX4_renew.2.1 2 = .ok (.putfield 9, 3) := by decide +kernel
theorem dX4_renew_5 : decode mX4_renew.2.1 5 = .ok (.aload_n 0, 1) := by decide +kernel
theorem dX4_renew_6 : decode mX4_renew.2.1 6 = .ok (.iload_n 2, 1) := by decide +kernel
theorem dX4_renew_7 : decode mX4_renew.2.1 7 = .ok (.putfield 15, 3) := by decide +kernel
theorem dX4_renew_10 : decode mX4_renew.2.1 10 = .ok (.aload_n 0, 1) := by decide +kernel
theorem dX4_renew_11 : decode mX4_renew.2.1 11 = .ok (.getfield 18, 3) := by decide +kernel
theorem dX4_renew_14 : decode mX4_renew.2.1 14 = .ok (.iconst 0, 1) := by decide +kernel
theorem dX4_renew_15 : decode mX4_renew.2.1 15 = .ok (.invokestatic 22, 3) := by decide +kernel
theorem dX4_renew_18 : decode mX4_renew.2.1 18 = .ok (.return_, 1) := by decide +kernel
theorem dX4_become_0 : decode mX4_become.2.1 0 = .ok (.aload_n 0, 1) := by decide +kernel
theorem dX4_become_1 : decode mX4_become.2.1 1 = .ok (.aload_n 1, 1) := by decide +kernel
theorem dX4_become_2 : decode mX4_become.2.1 2 = .ok (.getfield 9, 3) := by decide +kernel
theorem dX4_become_5 : decode mX4_become.2.1 5 = .ok (.putfield 9, 3) := by decide +kernel
theorem dX4_become_8 : decode mX4_become.2.1 8 = .ok (.aload_n 0, 1) := by decide +kernel
theorem dX4_become_9 : decode mX4_become.2.1 9 = .ok (.aload_n 1, 1) := by decide +kernel
theorem dX4_become_10 : decode mX4_become.2.1 10 = .ok (.getfield 15, 3) := by decide +kernel
theorem dX4_become_13 : decode mX4_become.2.1 13 = .ok (.putfield 15, 3) := by decide +kernel
theorem dX4_become_16 : decode mX4_become.2.1 16 = .ok (.aload_n 1, 1) := by decide +kernel
theorem dX4_become_17 : decode mX4_become.2.1 17 = .ok (.getfield 18, 3) := by decide +kernel
theorem dX4_become_20 : decode mX4_become.2.1 20 = .ok (.iconst 0, 1) := by decide +kernel
theorem dX4_become_21 : decode mX4_become.2.1 21 = .ok (.aload_n 0, 1) := by decide +kernel
theorem dX4_become_22 : decode mX4_become.2.1 22 = .ok (.getfield 18, 3) := by decide +kernel
theorem dX4_become_25 : decode mX4_become.2.1 25 = .ok (.iconst 0, 1) := by decide +kernel
theorem dX4_become_26 : decode mX4_become.2.1 26 = .ok (.bipush 24, 2) := by decide +kernel
theorem dX4_become_28 : decode mX4_become.2.1 28 = .ok (.invokestatic 28, 3) := by decide +kernel
theorem dX4_become_31 : decode mX4_become.2.1 31 = .ok (.return_, 1) := by decide +kernel
theorem dX4_has_0 : decode mX4_has.2.1 0 = .ok (.iload_n 1, 1) := by decide +kernel
theorem dX4_has_1 : decode mX4_has.2.1 1 = .ok (.iconst 0, 1) := by decide +kernel
theorem dX4_has_2 : decode mX4_has.2.1 2 = .ok (.aload_n 0, 1) := by decide +kernel
theorem dX4_has_3 : decode mX4_has.2.1 3 = .ok (.getfield 15, 3) := by decide +kernel
theorem dX4_has_6 : decode mX4_has.2.1 6 = .ok (.iconst 1, 1) := by decide +kernel
theorem dX4_has_7 : decode mX4_has.2.1 7 = .ok (.isub, 1) := by decide +kernel
theorem dX4_has_8 : decode mX4_has.2.1 8 = .ok (.invokestatic 34, 3) := by decide +kernel
theorem dX4_has_11 : decode mX4_has.2.1 11 = .ok (.ifCond .eq 13, 3) := by decide +kernel
theorem dX4_has_14 : decode mX4_has.2.1 14 = .ok (.iload_n 1, 1) := by decide +kernel
theorem dX4_has_15 : decode mX4_has.2.1 15 = .ok (.bipush 24, 2) := by decide +kernel
theorem dX4_has_17 : decode mX4_has.2.1 17 = .ok (.if_icmp .ge 7, 3) := by decide +kernel
theorem dX4_has_20 : decode mX4_has.2.1 20 = .ok (.iconst 1, 1) := by decide +kernel
theorem dX4_has_21 : decode mX4_has.2.1 21 = .ok (.goto 4, 3) := by decide +kernel
theorem dX4_has_24 : decode mX4_has.2.1 24 = .ok (.iconst 0, 1) := by decide +kernel
theorem dX4_has_25 : decode mX4_has.2.1 25 = .ok (.ireturn, 1) := by decide +kernel
theorem dX4_hasNumber_0 : decode mX4_hasNumber.2.1 0 = .ok (.aload_n 0, 1) := by decide +kernel
theorem dX4_hasNumber_1 : decode mX4_hasNumber.2.1 1 = .ok (.iload_n 1, 1) := by decide +kernel
theorem dX4_hasNumber_2 : decode mX4_hasNumber.2.1 2 = .ok (.invokevirtual 38, 3) := by decide +kernel
theorem dX4_hasNumber_5 : decode mX4_hasNumber.2.1 5 = .ok (.ifCond .eq 18, 3) := by decide +kernel
theorem dX4_hasNumber_8 : decode mX4_hasNumber.2.1 8 = .ok (.aload_n 0, 1) := by decide +kernel
theorem dX4_hasNumber_9 : decode mX4_hasNumber.2.1 9 = .ok (.getfield 18, 3) := by decide +kernel
theorem dX4_hasNumber_12 : decode mX4_hasNumber.2.1 12 = .ok (.iload_n 1, 1) := by decide +kernel
theorem dX4_hasNumber_13 : decode mX4_hasNumber.2.1 13 = .ok (.iaload, 1) := by decide +kernel
theorem dX4_hasNumber_14 : decode mX4_hasNumber.2.1 14 = .ok (.ldc 42, 2) := by decide +kernel
theorem dX4_hasNumber_16 : decode mX4_hasNumber.2.1 16 = .ok (.if_icmp .eq 7, 3) := by decide +kernel
theorem dX4_hasNumber_19 : decode mX4_hasNumber.2.1 19 = .ok (.iconst 1, 1) := by decide +kernel
theorem dX4_hasNumber_20 : decode mX4_hasNumber.2.1 20 = .ok (.goto 4, 3) := by decide +kernel
theorem dX4_hasNumber_23 : decode mX4_hasNumber.2.1 23 = .ok (.iconst 0, 1) := by decide +kernel
theorem dX4_hasNumber_24 : decode mX4_hasNumber.2.1 24 = .ok (.ireturn, 1) := by decide +kernel
theorem dX4_hasRow_0 : decode mX4_hasRow.2.1 0 = .ok (.iload_n 1, 1) := by decide +kernel
theorem dX4_hasRow_1 : decode mX4_hasRow.2.1 1 = .ok (.iconst 0, 1) := by decide +kernel
theorem dX4_hasRow_2 : decode mX4_hasRow.2.1 2 = .ok (.aload_n 0, 1) := by decide +kernel
theorem dX4_hasRow_3 : decode mX4_hasRow.2.1 3 = .ok (.getfield 15, 3) := by decide +kernel
theorem dX4_hasRow_6 : decode mX4_hasRow.2.1 6 = .ok (.invokestatic 34, 3) := by decide +kernel
theorem dX4_hasRow_9 : decode mX4_hasRow.2.1 9 = .ok (.ifCond .eq 21, 3) := by decide +kernel
theorem dX4_hasRow_12 : decode mX4_hasRow.2.1 12 = .ok (.iload_n 2, 1) := by decide +kernel
theorem dX4_hasRow_13 : decode mX4_hasRow.2.1 13 = .ok (.iconst 0, 1) := by decide +kernel
theorem dX4_hasRow_14 : decode mX4_hasRow.2.1 14 = .ok (.aload_n 0, 1) := by decide +kernel
theorem dX4_hasRow_15 : decode mX4_hasRow.2.1 15 = .ok (.getfield 15, 3) := by decide +kernel
theorem dX4_hasRow_18 : decode mX4_hasRow.2.1 18 = .ok (.iload_n 1, 1) := by decide +kernel
theorem dX4_hasRow_19 : decode mX4_hasRow.2.1 19 = .ok (.isub, 1) := by decide +kernel
theorem dX4_hasRow_20 : decode mX4_hasRow.2.1 20 = .ok (.invokestatic 34, 3) := by decide +kernel
theorem dX4_hasRow_23 : decode mX4_hasRow.2.1 23 = .ok (.ifCond .eq 7, 3) := by decide +kernel
theorem dX4_hasRow_26 : decode mX4_hasRow.2.1 26 = .ok (.iconst 1, 1) := by decide +kernel
theorem dX4_hasRow_27 : decode mX4_hasRow.2.1 27 = .ok (.goto 4, 3) := by decide +kernel
theorem dX4_hasRow_30 : decode mX4_hasRow.2.1 30 = .ok (.iconst 0, 1) := by decide +kernel
theorem dX4_hasRow_31 : decode mX4_hasRow.2.1 31 = .ok (.ireturn, 1) := by decide +kernel
theorem dX5_init_0 : decode mX5_init.2.1 0 = .ok (.aload_n 0, 1) := by decide +kernel
theorem dX5_init_1 : decode mX5_init.2.1 1 = .ok (.invokespecial 3, 3) := by decide +kernel
theorem dX5_init_4 : decode mX5_init.2.1 4 = .ok (.aload_n 0, 1) := by decide +kernel
theorem dX5_init_5 : decode mX5_init.2.1 5 = .ok (.iconst 0, 1) := by decide +kernel
theorem dX5_init_6 : decode mX5_init.2.1 6 = .ok (.putfield 9, 3) := by decide +kernel
theorem dX5_init_9 : decode mX5_init.2.1 9 = .ok (.aload_n 0, 1) := by decide +kernel
theorem dX5_init_10 : decode mX5_init.2.1 10 = .ok (.new 15, 3) := by decide +kernel
theorem dX5_init_13 : decode mX5_init.2.1 13 = .ok (.dup, 1) := by decide +kernel
theorem dX5_init_14 : decode mX5_init.2.1 14 = .ok (.invokespecial 17, 3) := by decide +kernel
theorem dX5_init_17 : decode mX5_init.2.1 17 = .ok (.putfield 18, 3) := by decide +kernel
theorem dX5_init_20 : decode mX5_init.2.1 20 = .ok (.aload_n 0, 1) := by decide +kernel
theorem dX5_init_21 : decode mX5_init.2.1 21 = .ok (.new 22, 3) := by decide +kernel
theorem dX5_init_24 : decode mX5_init.2.1 24 = .ok (.dup, 1) := by decide +kernel
theorem dX5_init_25 : decode mX5_init.2.1 25 = .ok (.invokespecial 24, 3) := by decide +kernel
theorem dX5_init_28 : decode mX5_init.2.1 28 = .ok (.putfield 25, 3) := by decide +kernel
theorem dX5_init_31 : decode mX5_init.2.1 31 = .ok (.aload_n 0, 1) := by decide +kernel
theorem dX5_init_32 : decode mX5_init.2.1 32 = .ok (.iconst 0, 1) := by decide +kernel
theorem dX5_init_33 : decode mX5_init.2.1 33 = .ok (.putfield 29, 3) := by decide +kernel
theorem dX5_init_36 : decode mX5_init.2.1 36 = .ok (.return_, 1) := by decide +kernel
theorem dX5_refusalUnless_0 : decode mX5_refusalUnless.2.1 0 = .ok (.aload_n 0, 1) := by decide +kernel
theorem dX5_refusalUnless_1 : decode mX5_refusalUnless.2.1 1 = .ok (.getfield 9, 3) := by decide +kernel
theorem dX5_refusalUnless_4 : decode mX5_refusalUnless.2.1 4 = .ok (.ifCond .ne 6, 3) := by decide +kernel
theorem dX5_refusalUnless_7 : decode mX5_refusalUnless.2.1 7 = .ok (.ldc 32, 2) := by decide +kernel
theorem dX5_refusalUnless_9 : decode mX5_refusalUnless.2.1 9 = .ok (.ireturn, 1) := by decide +kernel
theorem dX5_refusalUnless_10 : decode mX5_refusalUnless.2.1 10 = .ok (.aload_n 0, 1) := by decide +kernel
theorem dX5_refusalUnless_11 : decode mX5_refusalUnless.2.1 11 = .ok (.getfield 9, 3) := by decide +kernel
theorem dX5_refusalUnless_14 : decode mX5_refusalUnless.2.1 14 = .ok (.iload_n 1, 1) := by decide +kernel
theorem dX5_refusalUnless_15 : decode mX5_refusalUnless.2.1 15 = .ok (.if_icmp .ne 8, 3) := by decide +kernel
theorem dX5_refusalUnless_18 : decode mX5_refusalUnless.2.1 18 = .ok (.ldc 33, 2) := by decide +kernel
theorem dX5_refusalUnless_20 : decode mX5_refusalUnless.2.1 20 = .ok (.goto 5, 3) := by decide +kernel
theorem dX5_refusalUnless_23 : decode mX5_refusalUnless.2.1 23 = .ok (.ldc 34, 2) := by decide +kernel
theorem dX5_refusalUnless_25 : decode mX5_refusalUnless.2.1 25 = .ok (.ireturn, 1) := by decide +kernel
theorem dX6_init_0 : decode mX6_init.2.1 0 = .ok (.aload_n 0, 1) := by decide +kernel
theorem dX6_init_1 : decode mX6_init.2.1 1 = .ok (.invokespecial 3, 3) := by decide +kernel
theorem dX6_init_4 : decode mX6_init.2.1 4 = .ok (.aload_n 0, 1) := by decide +kernel
theorem dX6_init_5 : decode mX6_init.2.1 5 = .ok (.bipush 96, 2) := by decide +kernel
theorem dX6_init_7 : decode mX6_init.2.1 7 = .ok (.newarray .int, 2) := by decide +kernel
theorem dX6_init_9 : decode mX6_init.2.1 9 = .ok (.putfield 9, 3) := by decide +kernel
theorem dX6_init_12 : decode mX6_init.2.1 12 = .ok (.aload_n 0, 1) := by decide +kernel
theorem dX6_init_13 : decode mX6_init.2.1 13 = .ok (.iconst 0, 1) := by decide +kernel
theorem dX6_init_14 : decode mX6_init.2.1 14 = .ok (.putfield 15, 3) := by decide +kernel
theorem dX6_init_17 : decode mX6_init.2.1 17 = .ok (.aload_n 0, 1) := by decide +kernel
theorem dX6_init_18 : decode mX6_init.2.1 18 = .ok (.iconst (-1), 1) := by decide +kernel
theorem dX6_init_19 : decode mX6_init.2.1 19 = .ok (.putfield 19, 3) := by decide +kernel
theorem dX6_init_22 : decode mX6_init.2.1 22 = .ok (.aload_n 0, 1) := by decide +kernel
theorem dX6_init_23 : decode mX6_init.2.1 23 = .ok (.iconst 0, 1) := by decide +kernel
theorem dX6_init_24 : decode mX6_init.2.1 24 = .ok (.putfield 22, 3) := by decide +kernel
theorem dX6_init_27 : decode mX6_init.2.1 27 = .ok (.aload_n 0, 1) := by decide +kernel
theorem dX6_init_28 : decode mX6_init.2.1 28 = .ok (.iconst 0, 1) := by decide +kernel
theorem dX6_init_29 : decode mX6_init.2.1 29 = .ok (.putfield 25, 3) := by decide +kernel
theorem dX6_init_32 : decode mX6_init.2.1 32 = .ok (.return_, 1) := by decide +kernel
theorem dX6_addFour_0 : decode mX6_addFour.2.1 0 = .ok (.bipush 24, 2) := by decide +kernel
theorem dX6_addFour_2 : decode mX6_addFour.2.1 2 = .ok (.istore_n 2, 1) := by decide +kernel
theorem dX6_addFour_3 : decode mX6_addFour.2.1 3 = .ok (.iload_n 2, 1) := by decide +kernel
theorem dX6_addFour_4 : decode mX6_addFour.2.1 4 = .ok (.ifCond .lt 44, 3) := by decide +kernel
theorem dX6_addFour_7 : decode mX6_addFour.2.1 7 = .ok (.aload_n 0, 1) := by decide +kernel
theorem dX6_addFour_8 : decode mX6_addFour.2.1 8 = .ok (.getfield 15, 3) := by decide +kernel
theorem dX6_addFour_11 : decode mX6_addFour.2.1 11 = .ok (.bipush 96, 2) := by decide +kernel
theorem dX6_addFour_13 : decode mX6_addFour.2.1 13 = .ok (.if_icmp .ge 35, 3) := by decide +kernel
theorem dX6_addFour_16 : decode mX6_addFour.2.1 16 = .ok (.aload_n 0, 1) := by decide +kernel
theorem dX6_addFour_17 : decode mX6_addFour.2.1 17 = .ok (.getfield 9, 3) := by decide +kernel
theorem dX6_addFour_20 : decode mX6_addFour.2.1 20 = .ok (.aload_n 0, 1) := by decide +kernel
theorem dX6_addFour_21 : decode mX6_addFour.2.1 21 = .ok (.getfield 15, 3) := by decide +kernel
theorem dX6_addFour_24 : decode mX6_addFour.2.1 24 = .ok (.iload_n 1, 1) := by decide +kernel
theorem dX6_addFour_25 : decode mX6_addFour.2.1 25 = .ok (.iload_n 2, 1) := by decide +kernel
theorem dX6_addFour_26 : decode mX6_addFour.2.1 26 = .ok (.iushr, 1) := by decide +kernel
theorem dX6_addFour_27 : decode mX6_addFour.2.1 27 = .ok (.sipush 255, 3) := by decide +kernel
theorem dX6_addFour_30 : decode mX6_addFour.2.1 30 = .ok (.iand, 1) := by decide +kernel
theorem dX6_addFour_31 : decode mX6_addFour.2.1 31 = .ok (.iastore, 1) := by decide +kernel
theorem dX6_addFour_32 : decode mX6_addFour.2.1 32 = .ok (.aload_n 0, 1) := by decide +kernel
theorem dX6_addFour_33 : decode mX6_addFour.2.1 33 = .ok (.dup, 1) := by decide +kernel
theorem dX6_addFour_34 : decode mX6_addFour.2.1 34 = .ok (.getfield 15, 3) := by decide +kernel
theorem dX6_addFour_37 : decode mX6_addFour.2.1 37 = .ok (.iconst 1, 1) := by decide +kernel
theorem dX6_addFour_38 : decode mX6_addFour.2.1 38 = .ok (.iadd, 1) := by decide +kernel
theorem dX6_addFour_39 : decode mX6_addFour.2.1 39 = .ok (.putfield 15, 3) := by decide +kernel
theorem dX6_addFour_42 : decode mX6_addFour.2.1 42 = .ok (.iinc 2 (-8), 3) := by decide +kernel
theorem dX6_addFour_45 : decode mX6_addFour.2.1 45 = .ok (.goto (-42), 3) := by decide +kernel
theorem dX6_addFour_48 : decode mX6_addFour.2.1 48 = .ok (.return_, 1) := by decide +kernel
theorem dX6_rewind_0 : decode mX6_rewind.2.1 0 = .ok (.aload_n 0, 1) := by decide +kernel
theorem dX6_rewind_1 : decode mX6_rewind.2.1 1 = .ok (.iconst 0, 1) := by decide +kernel
theorem dX6_rewind_2 : decode mX6_rewind.2.1 2 = .ok (.putfield 25, 3) := by decide +kernel
theorem dX6_rewind_5 : decode mX6_rewind.2.1 5 = .ok (.aload_n 0, 1) := by decide +kernel
theorem dX6_rewind_6 : decode mX6_rewind.2.1 6 = .ok (.iconst (-1), 1) := by decide +kernel
theorem dX6_rewind_7 : decode mX6_rewind.2.1 7 = .ok (.putfield 19, 3) := by decide +kernel
theorem dX6_rewind_10 : decode mX6_rewind.2.1 10 = .ok (.aload_n 0, 1) := by decide +kernel
theorem dX6_rewind_11 : decode mX6_rewind.2.1 11 = .ok (.invokevirtual 28, 3) := by decide +kernel
theorem dX6_rewind_14 : decode mX6_rewind.2.1 14 = .ok (.return_, 1) := by decide +kernel
theorem dX6_runOut_0 : decode mX6_runOut.2.1 0 = .ok (.aload_n 0, 1) := by decide +kernel
theorem dX6_runOut_1 : decode mX6_runOut.2.1 1 = .ok (.aload_n 0, 1) := by decide +kernel
theorem dX6_runOut_2 : decode mX6_runOut.2.1 2 = .ok (.getfield 15, 3) := by decide +kernel
theorem dX6_runOut_5 : decode mX6_runOut.2.1 5 = .ok (.putfield 25, 3) := by decide +kernel
theorem dX6_runOut_8 : decode mX6_runOut.2.1 8 = .ok (.aload_n 0, 1) := by decide +kernel
theorem dX6_runOut_9 : decode mX6_runOut.2.1 9 = .ok (.iconst (-1), 1) := by decide +kernel
theorem dX6_runOut_10 : decode mX6_runOut.2.1 10 = .ok (.putfield 19, 3) := by decide +kernel
theorem dX6_runOut_13 : decode mX6_runOut.2.1 13 = .ok (.return_, 1) := by decide +kernel
theorem dX6_advance_0 : decode mX6_advance.2.1 0 = .ok (.aload_n 0, 1) := by decide +kernel
theorem dX6_advance_1 : decode mX6_advance.2.1 1 = .ok (.getfield 25, 3) := by decide +kernel
theorem dX6_advance_4 : decode mX6_advance.2.1 4 = .ok (.istore_n 1, 1) := by decide +kernel
theorem dX6_advance_5 : decode mX6_advance.2.1 5 = .ok (.aload_n 0, 1) := by decide +kernel
theorem dX6_advance_6 : decode mX6_advance.2.1 6 = .ok (.invokevirtual 31, 3) := by decide +kernel
theorem dX6_advance_9 : decode mX6_advance.2.1 9 = .ok (.istore_n 2, 1) := by decide +kernel
theorem dX6_advance_10 : decode mX6_advance.2.1 10 = .ok (.aload_n 0, 1) := by decide +kernel
theorem dX6_advance_11 : decode mX6_advance.2.1 11 = .ok (.aload_n 0, 1) := by decide +kernel
theorem dX6_advance_12 : decode mX6_advance.2.1 12 = .ok (.getfield 25, 3) := by decide +kernel
theorem dX6_advance_15 : decode mX6_advance.2.1 15 = .ok (.putfield 22, 3) := by decide +kernel
theorem dX6_advance_18 : decode mX6_advance.2.1 18 = .ok (.aload_n 0, 1) := by decide +kernel
theorem dX6_advance_19 : decode mX6_advance.2.1 19 = .ok (.getfield 22, 3) := by decide +kernel
theorem dX6_advance_22 : decode mX6_advance.2.1 22 = .ok (.aload_n 0, 1) := by decide +kernel
theorem dX6_advance_23 : decode mX6_advance.2.1 23 = .ok (.getfield 15, 3) := by decide +kernel
theorem dX6_advance_26 : decode mX6_advance.2.1 26 = .ok (.if_icmp .ge 30, 3) := by decide +kernel
theorem dX6_advance_29 : decode mX6_advance.2.1 29 = .ok (.aload_n 0, 1) := by decide +kernel
theorem dX6_advance_30 : decode mX6_advance.2.1 30 = .ok (.getfield 9, 3) := by decide +kernel
theorem dX6_advance_33 : decode mX6_advance.2.1 33 = .ok (.aload_n 0, 1) := by decide +kernel
theorem dX6_advance_34 : decode mX6_advance.2.1 34 = .ok (.getfield 22, 3) := by decide +kernel
theorem dX6_advance_37 : decode mX6_advance.2.1 37 = .ok (.iaload, 1) := by decide +kernel
theorem dX6_advance_38 : decode mX6_advance.2.1 38 = .ok (.bipush 32, 2) := by decide +kernel
theorem dX6_advance_40 : decode mX6_advance.2.1 40 = .ok (.if_icmp .ne 16, 3) := by decide +kernel
theorem dX6_advance_43 : decode mX6_advance.2.1 43 = .ok (.aload_n 0, 1) := by decide +kernel
theorem dX6_advance_44 : decode mX6_advance.2.1 44 = .ok (.dup, 1) := by decide +kernel
theorem dX6_advance_45 : decode mX6_advance.2.1 45 = .ok (.getfield 22, 3) := by decide +kernel
theorem dX6_advance_48 : decode mX6_advance.2.1 48 = .ok (.iconst 1, 1) := by decide +kernel
theorem dX6_advance_49 : decode mX6_advance.2.1 49 = .ok (.iadd, 1) := by decide +kernel
theorem dX6_advance_50 : decode mX6_advance.2.1 50 = .ok (.putfield 22, 3) := by decide +kernel
theorem dX6_advance_53 : decode mX6_advance.2.1 53 = .ok (.goto (-35), 3) := by decide +kernel
theorem dX6_advance_56 : decode mX6_advance.2.1 56 = .ok (.aload_n 0, 1) := by decide +kernel
theorem dX6_advance_57 : decode mX6_advance.2.1 57 = .ok (.getfield 22, 3) := by decide +kernel
theorem dX6_advance_60 : decode mX6_advance.2.1 60 = .ok (.aload_n 0, 1) := by decide +kernel
theorem dX6_advance_61 : decode mX6_advance.2.1 61 = .ok (.getfield 15, 3) := by decide +kernel
theorem dX6_advance_64 : decode mX6_advance.2.1 64 = .ok (.if_icmp .lt 8, 3) := by decide +kernel
theorem dX6_advance_67 : decode mX6_advance.2.1 67 = .ok (.aload_n 0, 1) := by decide +kernel
theorem dX6_advance_68 : decode mX6_advance.2.1 68 = .ok (.invokevirtual 35, 3) := by decide +kernel
theorem dX6_advance_71 : decode mX6_advance.2.1 71 = .ok (.return_, 1) := by decide +kernel
theorem dX6_advance_72 : decode mX6_advance.2.1 72 = .ok (.aload_n 0, 1) := by decide +kernel
theorem dX6_advance_73 : decode mX6_advance.2.1 73 = .ok (.getfield 9, 3) := by decide +kernel
theorem dX6_advance_76 : decode mX6_advance.2.1 76 = .ok (.aload_n 0, 1) := by decide +kernel
theorem dX6_advance_77 : decode mX6_advance.2.1 77 = .ok (.getfield 22, 3) := by decide +kernel
theorem dX6_advance_80 : decode mX6_advance.2.1 80 = .ok (.iaload, 1) := by decide +kernel
theorem dX6_advance_81 : decode mX6_advance.2.1 81 = .ok (.istore_n 3, 1) := by decide +kernel
theorem dX6_advance_82 : decode mX6_advance.2.1 82 = .ok (.aload_n 0, 1) := by decide +kernel
theorem dX6_advance_83 : decode mX6_advance.2.1 83 = .ok (.aload_n 0, 1) := by decide +kernel
theorem dX6_advance_84 : decode mX6_advance.2.1 84 = .ok (.getfield 22, 3) := by decide +kernel
theorem dX6_advance_87 : decode mX6_advance.2.1 87 = .ok (.iconst 1, 1) := by decide +kernel
theorem dX6_advance_88 : decode mX6_advance.2.1 88 = .ok (.iadd, 1) := by decide +kernel
theorem dX6_advance_89 : decode mX6_advance.2.1 89 = .ok (.putfield 25, 3) := by decide +kernel
theorem dX6_advance_92 : decode mX6_advance.2.1 92 = .ok (.aload_n 0, 1) := by decide +kernel
theorem dX6_advance_93 : decode mX6_advance.2.1 93 = .ok (.iload_n 3, 1) := by decide +kernel
theorem dX6_advance_94 : decode mX6_advance.2.1 94 = .ok (.invokestatic 38, 3) := by decide +kernel
theorem dX6_advance_97 : decode mX6_advance.2.1 97 = .ok (.ifCond .eq 9, 3) := by decide +kernel
theorem dX6_advance_100 : decode mX6_advance.2.1 100 = .ok (.sipush 256, 3) := by decide +kernel
theorem dX6_advance_103 : decode mX6_advance.2.1 103 = .ok (.goto 17, 3) := by decide +kernel
theorem dX6_advance_106 : decode mX6_advance.2.1 106 = .ok (.iload_n 3, 1) := by decide +kernel
theorem dX6_advance_107 : decode mX6_advance.2.1 107 = .ok (.invokestatic 42, 3) := by decide +kernel
theorem dX6_advance_110 : decode mX6_advance.2.1 110 = .ok (.ifCond .eq 9, 3) := by decide +kernel
theorem dX6_advance_113 : decode mX6_advance.2.1 113 = .ok (.sipush 257, 3) := by decide +kernel
theorem dX6_advance_116 : decode mX6_advance.2.1 116 = .ok (.goto 4, 3) := by decide +kernel
theorem dX6_advance_119 : decode mX6_advance.2.1 119 = .ok (.iload_n 3, 1) := by decide +kernel
theorem dX6_advance_120 : decode mX6_advance.2.1 120 = .ok (.putfield 19, 3) := by decide +kernel
theorem dX6_advance_123 : decode mX6_advance.2.1 123 = .ok (.aload_n 0, 1) := by decide +kernel
theorem dX6_advance_124 : decode mX6_advance.2.1 124 = .ok (.getfield 25, 3) := by decide +kernel
theorem dX6_advance_127 : decode mX6_advance.2.1 127 = .ok (.aload_n 0, 1) := by decide +kernel
theorem dX6_advance_128 : decode mX6_advance.2.1 128 = .ok (.getfield 15, 3) := by decide +kernel
theorem dX6_advance_131 : decode mX6_advance.2.1 131 = .ok (.if_icmp .ge 32, 3) := by decide +kernel
theorem dX6_advance_134 : decode mX6_advance.2.1 134 = .ok (.aload_n 0, 1) := by decide +kernel
theorem dX6_advance_135 : decode mX6_advance.2.1 135 = .ok (.aload_n 0, 1) := by decide +kernel
theorem dX6_advance_136 : decode mX6_advance.2.1 136 = .ok (.getfield 9, 3) := by decide +kernel
theorem dX6_advance_139 : decode mX6_advance.2.1 139 = .ok (.aload_n 0, 1) := by decide +kernel
theorem dX6_advance_140 : decode mX6_advance.2.1 140 = .ok (.getfield 25, 3) := by decide +kernel
theorem dX6_advance_143 : decode mX6_advance.2.1 143 = .ok (.iaload, 1) := by decide +kernel
theorem dX6_advance_144 : decode mX6_advance.2.1 144 = .ok (.invokevirtual 45, 3) := by decide +kernel
theorem dX6_advance_147 : decode mX6_advance.2.1 147 = .ok (.ifCond .eq 16, 3) := by decide +kernel
theorem dX6_advance_150 : decode mX6_advance.2.1 150 = .ok (.aload_n 0, 1) := by decide +kernel
theorem dX6_advance_151 : decode mX6_advance.2.1 151 = .ok (.dup, 1) := by decide +kernel
theorem dX6_advance_152 : decode mX6_advance.2.1 152 = .ok (.getfield 25, 3) := by decide +kernel
theorem dX6_advance_155 : decode mX6_advance.2.1 155 = .ok (.iconst 1, 1) := by decide +kernel
theorem dX6_advance_156 : decode mX6_advance.2.1 156 = .ok (.iadd, 1) := by decide +kernel
theorem dX6_advance_157 : decode mX6_advance.2.1 157 = .ok (.putfield 25, 3) := by decide +kernel
theorem dX6_advance_160 : decode mX6_advance.2.1 160 = .ok (.goto (-37), 3) := by decide +kernel
theorem dX6_advance_163 : decode mX6_advance.2.1 163 = .ok (.aload_n 0, 1) := by decide +kernel
theorem dX6_advance_164 : decode mX6_advance.2.1 164 = .ok (.invokevirtual 31, 3) := by decide +kernel
theorem dX6_advance_167 : decode mX6_advance.2.1 167 = .ok (.ifCond .eq 15, 3) := by decide +kernel
theorem dX6_advance_170 : decode mX6_advance.2.1 170 = .ok (.iload_n 2, 1) := by decide +kernel
theorem dX6_advance_171 : decode mX6_advance.2.1 171 = .ok (.ifCond .eq 11, 3) := by decide +kernel
theorem dX6_advance_174 : decode mX6_advance.2.1 174 = .ok (.aload_n 0, 1) := by decide +kernel
theorem dX6_advance_175 : decode mX6_advance.2.1 175 = .ok (.getfield 22, 3) := by decide +kernel
theorem dX6_advance_178 : decode mX6_advance.2.1 178 = .ok (.iload_n 1, 1) := by decide +kernel
theorem dX6_advance_179 : decode mX6_advance.2.1 179 = .ok (.if_icmp .eq 26, 3) := by decide +kernel
theorem dX6_advance_182 : decode mX6_advance.2.1 182 = .ok (.aload_n 0, 1) := by decide +kernel
theorem dX6_advance_183 : decode mX6_advance.2.1 183 = .ok (.getfield 19, 3) := by decide +kernel
theorem dX6_advance_186 : decode mX6_advance.2.1 186 = .ok (.sipush 257, 3) := by decide +kernel
theorem dX6_advance_189 : decode mX6_advance.2.1 189 = .ok (.if_icmp .ne 23, 3) := by decide +kernel
theorem dX6_advance_192 : decode mX6_advance.2.1 192 = .ok (.aload_n 0, 1) := by decide +kernel
theorem dX6_advance_193 : decode mX6_advance.2.1 193 = .ok (.getfield 25, 3) := by decide +kernel
theorem dX6_advance_196 : decode mX6_advance.2.1 196 = .ok (.aload_n 0, 1) := by decide +kernel
theorem dX6_advance_197 : decode mX6_advance.2.1 197 = .ok (.getfield 22, 3) := by decide +kernel
theorem dX6_advance_200 : decode mX6_advance.2.1 200 = .ok (.isub, 1) := by decide +kernel
theorem dX6_advance_201 : decode mX6_advance.2.1 201 = .ok (.iconst 4, 1) := by decide +kernel
theorem dX6_advance_202 : decode mX6_advance.2.1 202 = .ok (.if_icmp .le 10, 3) := by decide +kernel
theorem dX6_advance_205 : decode mX6_advance.2.1 205 = .ok (.aload_n 0, 1) := by decide +kernel
theorem dX6_advance_206 : decode mX6_advance.2.1 206 = .ok (.sipush 258, 3) := by decide +kernel
theorem dX6_advance_209 : decode mX6_advance.2.1 209 = .ok (.putfield 19, 3) := by decide +kernel
theorem dX6_advance_212 : decode mX6_advance.2.1 212 = .ok (.return_, 1) := by decide +kernel
theorem dX6_hasWord_0 : decode mX6_hasWord.2.1 0 = .ok (.aload_n 0, 1) := by decide +kernel
theorem dX6_hasWord_1 : decode mX6_hasWord.2.1 1 = .ok (.getfield 19, 3) := by decide +kernel
theorem dX6_hasWord_4 : decode mX6_hasWord.2.1 4 = .ok (.sipush 256, 3) := by decide +kernel
theorem dX6_hasWord_7 : decode mX6_hasWord.2.1 7 = .ok (.if_icmp .eq 13, 3) := by decide +kernel
theorem dX6_hasWord_10 : decode mX6_hasWord.2.1 10 = .ok (.aload_n 0, 1) := by decide +kernel
theorem dX6_hasWord_11 : decode mX6_hasWord.2.1 11 = .ok (.getfield 19, 3) := by decide +kernel
theorem dX6_hasWord_14 : decode mX6_hasWord.2.1 14 = .ok (.sipush 257, 3) := by decide +kernel
theorem dX6_hasWord_17 : decode mX6_hasWord.2.1 17 = .ok (.if_icmp .ne 7, 3) := by decide +kernel
theorem dX6_hasWord_20 : decode mX6_hasWord.2.1 20 = .ok (.iconst 1, 1) := by decide +kernel
theorem dX6_hasWord_21 : decode mX6_hasWord.2.1 21 = .ok (.goto 4, 3) := by decide +kernel
theorem dX6_hasWord_24 : decode mX6_hasWord.2.1 24 = .ok (.iconst 0, 1) := by decide +kernel
theorem dX6_hasWord_25 : decode mX6_hasWord.2.1 25 = .ok (.ireturn, 1) := by decide +kernel
theorem dX6_goesOn_0 : decode mX6_goesOn.2.1 0 = .ok (.aload_n 0, 1) := by decide +kernel
theorem dX6_goesOn_1 : decode mX6_goesOn.2.1 1 = .ok (.getfield 19, 3) := by decide +kernel
theorem dX6_goesOn_4 : decode mX6_goesOn.2.1 4 = .ok (.sipush 256, 3) := by decide +kernel
theorem dX6_goesOn_7 : decode mX6_goesOn.2.1 7 = .ok (.if_icmp .ne 10, 3) := by decide +kernel
theorem dX6_goesOn_10 : decode mX6_goesOn.2.1 10 = .ok (.iload_n 1, 1) := by decide +kernel
theorem dX6_goesOn_11 : decode mX6_goesOn.2.1 11 = .ok (.invokestatic 38, 3) := by decide +kernel
theorem dX6_goesOn_14 : decode mX6_goesOn.2.1 14 = .ok (.ifCond .ne 20, 3) := by decide +kernel
theorem dX6_goesOn_17 : decode mX6_goesOn.2.1 17 = .ok (.aload_n 0, 1) := by decide +kernel
theorem dX6_goesOn_18 : decode mX6_goesOn.2.1 18 = .ok (.getfield 19, 3) := by decide +kernel
theorem dX6_goesOn_21 : decode mX6_goesOn.2.1 21 = .ok (.sipush 257, 3) := by decide +kernel
theorem dX6_goesOn_24 : decode mX6_goesOn.2.1 24 = .ok (.if_icmp .ne 14, 3) := by decide +kernel
theorem dX6_goesOn_27 : decode mX6_goesOn.2.1 27 = .ok (.iload_n 1, 1) := by decide +kernel
theorem dX6_goesOn_28 : decode mX6_goesOn.2.1 28 = .ok (.invokestatic 42, 3) := by decide +kernel
theorem dX6_goesOn_31 : decode mX6_goesOn.2.1 31 = .ok (.ifCond .eq 7, 3) := by decide +kernel
theorem dX6_goesOn_34 : decode mX6_goesOn.2.1 34 = .ok (.iconst 1, 1) := by decide +kernel
theorem dX6_goesOn_35 : decode mX6_goesOn.2.1 35 = .ok (.goto 4, 3) := by decide +kernel
theorem dX6_goesOn_38 : decode mX6_goesOn.2.1 38 = .ok (.iconst 0, 1) := by decide +kernel
theorem dX6_goesOn_39 : decode mX6_goesOn.2.1 39 = .ok (.ireturn, 1) := by decide +kernel
theorem dX6_isLetter_0 : decode mX6_isLetter.2.1 0 = .ok (.iload_n 0, 1) := by decide +kernel
theorem dX6_isLetter_1 : decode mX6_isLetter.2.1 1 = .ok (.bipush 97, 2) := by decide +kernel
theorem dX6_isLetter_3 : decode mX6_isLetter.2.1 3 = .ok (.if_icmp .lt 13, 3) := by decide +kernel
theorem dX6_isLetter_6 : decode mX6_isLetter.2.1 6 = .ok (.iload_n 0, 1) := by decide +kernel
theorem dX6_isLetter_7 : decode mX6_isLetter.2.1 7 = .ok (.bipush 122, 2) := by decide +kernel
theorem dX6_isLetter_9 : decode mX6_isLetter.2.1 9 = .ok (.if_icmp .gt 7, 3) := by decide +kernel
theorem dX6_isLetter_12 : decode mX6_isLetter.2.1 12 = .ok (.iconst 1, 1) := by decide +kernel
theorem dX6_isLetter_13 : decode mX6_isLetter.2.1 13 = .ok (.goto 4, 3) := by decide +kernel
theorem dX6_isLetter_16 : decode mX6_isLetter.2.1 16 = .ok (.iconst 0, 1) := by decide +kernel
theorem dX6_isLetter_17 : decode mX6_isLetter.2.1 17 = .ok (.ireturn, 1) := by decide +kernel
theorem dX6_isDigit_0 : decode mX6_isDigit.2.1 0 = .ok (.iload_n 0, 1) := by decide +kernel
theorem dX6_isDigit_1 : decode mX6_isDigit.2.1 1 = .ok (.bipush 48, 2) := by decide +kernel
theorem dX6_isDigit_3 : decode mX6_isDigit.2.1 3 = .ok (.if_icmp .lt 13, 3) := by decide +kernel
theorem dX6_isDigit_6 : decode mX6_isDigit.2.1 6 = .ok (.iload_n 0, 1) := by decide +kernel
theorem dX6_isDigit_7 : decode mX6_isDigit.2.1 7 = .ok (.bipush 57, 2) := by decide +kernel
theorem dX6_isDigit_9 : decode mX6_isDigit.2.1 9 = .ok (.if_icmp .gt 7, 3) := by decide +kernel
theorem dX6_isDigit_12 : decode mX6_isDigit.2.1 12 = .ok (.iconst 1, 1) := by decide +kernel
theorem dX6_isDigit_13 : decode mX6_isDigit.2.1 13 = .ok (.goto 4, 3) := by decide +kernel
theorem dX6_isDigit_16 : decode mX6_isDigit.2.1 16 = .ok (.iconst 0, 1) := by decide +kernel
theorem dX6_isDigit_17 : decode mX6_isDigit.2.1 17 = .ok (.ireturn, 1) := by decide +kernel
theorem dX6_isWord_0 : decode mX6_isWord.2.1 0 = .ok (.aload_n 0, 1) := by decide +kernel
theorem dX6_isWord_1 : decode mX6_isWord.2.1 1 = .ok (.getfield 19, 3) := by decide +kernel
theorem dX6_isWord_4 : decode mX6_isWord.2.1 4 = .ok (.sipush 256, 3) := by decide +kernel
theorem dX6_isWord_7 : decode mX6_isWord.2.1 7 = .ok (.if_icmp .ne 19, 3) := by decide +kernel
theorem dX6_isWord_10 : decode mX6_isWord.2.1 10 = .ok (.aload_n 0, 1) := by decide +kernel
theorem dX6_isWord_11 : decode mX6_isWord.2.1 11 = .ok (.getfield 25, 3) := by decide +kernel
theorem dX6_isWord_14 : decode mX6_isWord.2.1 14 = .ok (.aload_n 0, 1) := by decide +kernel
theorem dX6_isWord_15 : decode mX6_isWord.2.1 15 = .ok (.getfield 22, 3) := by decide +kernel
theorem dX6_isWord_18 : decode mX6_isWord.2.1 18 = .ok (.isub, 1) := by decide +kernel
theorem dX6_isWord_19 : decode mX6_isWord.2.1 19 = .ok (.aload_n 1, 1) := by decide +kernel
theorem dX6_isWord_20 : decode mX6_isWord.2.1 20 = .ok (.invokevirtual 48, 3) := by decide +kernel
theorem dX6_isWord_23 : decode mX6_isWord.2.1 23 = .ok (.if_icmp .eq 5, 3) := by decide +kernel
theorem dX6_isWord_26 : decode mX6_isWord.2.1 26 = .ok (.iconst 0, 1) := by decide +kernel
theorem dX6_isWord_27 : decode mX6_isWord.2.1 27 = .ok (.ireturn, 1) := by decide +kernel
theorem dX6_isWord_28 : decode mX6_isWord.2.1 28 = .ok (.iconst 0, 1) := by decide +kernel
theorem dX6_isWord_29 : decode mX6_isWord.2.1 29 = .ok (.istore_n 2, 1) := by decide +kernel
theorem dX6_isWord_30 : decode mX6_isWord.2.1 30 = .ok (.iload_n 2, 1) := by decide +kernel
theorem dX6_isWord_31 : decode mX6_isWord.2.1 31 = .ok (.aload_n 1, 1) := by decide +kernel
theorem dX6_isWord_32 : decode mX6_isWord.2.1 32 = .ok (.invokevirtual 48, 3) := by decide +kernel
theorem dX6_isWord_35 : decode mX6_isWord.2.1 35 = .ok (.if_icmp .ge 43, 3) := by decide +kernel
theorem dX6_isWord_38 : decode mX6_isWord.2.1 38 = .ok (.aload_n 0, 1) := by decide +kernel
theorem dX6_isWord_39 : decode mX6_isWord.2.1 39 = .ok (.getfield 22, 3) := by decide +kernel
theorem dX6_isWord_42 : decode mX6_isWord.2.1 42 = .ok (.iload_n 2, 1) := by decide +kernel
theorem dX6_isWord_43 : decode mX6_isWord.2.1 43 = .ok (.iadd, 1) := by decide +kernel
theorem dX6_isWord_44 : decode mX6_isWord.2.1 44 = .ok (.aload_n 0, 1) := by decide +kernel
theorem dX6_isWord_45 : decode mX6_isWord.2.1 45 = .ok (.getfield 15, 3) := by decide +kernel
theorem dX6_isWord_48 : decode mX6_isWord.2.1 48 = .ok (.if_icmp .ge 30, 3) := by decide +kernel
theorem dX6_isWord_51 : decode mX6_isWord.2.1 51 = .ok (.aload_n 0, 1) := by decide +kernel
theorem dX6_isWord_52 : decode mX6_isWord.2.1 52 = .ok (.getfield 9, 3) := by decide +kernel
theorem dX6_isWord_55 : decode mX6_isWord.2.1 55 = .ok (.aload_n 0, 1) := by decide +kernel
theorem dX6_isWord_56 : decode mX6_isWord.2.1 56 = .ok (.getfield 22, 3) := by decide +kernel
theorem dX6_isWord_59 : decode mX6_isWord.2.1 59 = .ok (.iload_n 2, 1) := by decide +kernel
theorem dX6_isWord_60 : decode mX6_isWord.2.1 60 = .ok (.iadd, 1) := by decide +kernel
theorem dX6_isWord_61 : decode mX6_isWord.2.1 61 = .ok (.iaload, 1) := by decide +kernel
theorem dX6_isWord_62 : decode mX6_isWord.2.1 62 = .ok (.aload_n 1, 1) := by decide +kernel
theorem dX6_isWord_63 : decode mX6_isWord.2.1 63 = .ok (.iload_n 2, 1) := by decide +kernel
theorem dX6_isWord_64 : decode mX6_isWord.2.1 64 = .ok (.invokevirtual 54, 3) := by decide +kernel
theorem dX6_isWord_67 : decode mX6_isWord.2.1 67 = .ok (.if_icmp .eq 5, 3) := by decide +kernel
theorem dX6_isWord_70 : decode mX6_isWord.2.1 70 = .ok (.iconst 0, 1) := by decide +kernel
theorem dX6_isWord_71 : decode mX6_isWord.2.1 71 = .ok (.ireturn, 1) := by decide +kernel
theorem dX6_isWord_72 : decode mX6_isWord.2.1 72 = .ok (.iinc 2 1, 3) := by decide +kernel
theorem dX6_isWord_75 : decode mX6_isWord.2.1 75 = .ok (.goto (-45), 3) := by decide +kernel
theorem dX6_isWord_78 : decode mX6_isWord.2.1 78 = .ok (.iconst 1, 1) := by decide +kernel
theorem dX6_isWord_79 : decode mX6_isWord.2.1 79 = .ok (.ireturn, 1) := by decide +kernel
theorem dX6_number_0 : decode mX6_number.2.1 0 = .ok (.iconst 0, 1) := by decide +kernel
theorem dX6_number_1 : decode mX6_number.2.1 1 = .ok (.istore_n 1, 1) := by decide +kernel
theorem dX6_number_2 : decode mX6_number.2.1 2 = .ok (.aload_n 0, 1) := by decide +kernel
theorem dX6_number_3 : decode mX6_number.2.1 3 = .ok (.getfield 22, 3) := by decide +kernel
theorem dX6_number_6 : decode mX6_number.2.1 6 = .ok (.istore_n 2, 1) := by decide +kernel
theorem dX6_number_7 : decode mX6_number.2.1 7 = .ok (.iload_n 2, 1) := by decide +kernel
theorem dX6_number_8 : decode mX6_number.2.1 8 = .ok (.aload_n 0, 1) := by decide +kernel
theorem dX6_number_9 : decode mX6_number.2.1 9 = .ok (.getfield 25, 3) := by decide +kernel
theorem dX6_number_12 : decode mX6_number.2.1 12 = .ok (.if_icmp .ge 32, 3) := by decide +kernel
theorem dX6_number_15 : decode mX6_number.2.1 15 = .ok (.iload_n 2, 1) := by decide +kernel
theorem dX6_number_16 : decode mX6_number.2.1 16 = .ok (.aload_n 0, 1) := by decide +kernel
theorem dX6_number_17 : decode mX6_number.2.1 17 = .ok (.getfield 15, 3) := by decide +kernel
theorem dX6_number_20 : decode mX6_number.2.1 20 = .ok (.if_icmp .ge 24, 3) := by decide +kernel
theorem dX6_number_23 : decode mX6_number.2.1 23 = .ok (.iload_n 1, 1) := by decide +kernel
theorem dX6_number_24 : decode mX6_number.2.1 24 = .ok (.bipush 10, 2) := by decide +kernel
theorem dX6_number_26 : decode mX6_number.2.1 26 = .ok (.imul, 1) := by decide +kernel
theorem dX6_number_27 : decode mX6_number.2.1 27 = .ok (.aload_n 0, 1) := by decide +kernel
theorem dX6_number_28 : decode mX6_number.2.1 28 = .ok (.getfield 9, 3) := by decide +kernel
theorem dX6_number_31 : decode mX6_number.2.1 31 = .ok (.iload_n 2, 1) := by decide +kernel
theorem dX6_number_32 : decode mX6_number.2.1 32 = .ok (.iaload, 1) := by decide +kernel
theorem dX6_number_33 : decode mX6_number.2.1 33 = .ok (.iadd, 1) := by decide +kernel
theorem dX6_number_34 : decode mX6_number.2.1 34 = .ok (.bipush 48, 2) := by decide +kernel
theorem dX6_number_36 : decode mX6_number.2.1 36 = .ok (.isub, 1) := by decide +kernel
theorem dX6_number_37 : decode mX6_number.2.1 37 = .ok (.istore_n 1, 1) := by decide +kernel
theorem dX6_number_38 : decode mX6_number.2.1 38 = .ok (.iinc 2 1, 3) := by decide +kernel
theorem dX6_number_41 : decode mX6_number.2.1 41 = .ok (.goto (-34), 3) := by decide +kernel
theorem dX6_number_44 : decode mX6_number.2.1 44 = .ok (.iload_n 1, 1) := by decide +kernel
theorem dX6_number_45 : decode mX6_number.2.1 45 = .ok (.ireturn, 1) := by decide +kernel
theorem dX6_placeIn_0 : decode mX6_placeIn.2.1 0 = .ok (.aload_n 0, 1) := by decide +kernel
theorem dX6_placeIn_1 : decode mX6_placeIn.2.1 1 = .ok (.getfield 19, 3) := by decide +kernel
theorem dX6_placeIn_4 : decode mX6_placeIn.2.1 4 = .ok (.sipush 256, 3) := by decide +kernel
theorem dX6_placeIn_7 : decode mX6_placeIn.2.1 7 = .ok (.if_icmp .ne 27, 3) := by decide +kernel
theorem dX6_placeIn_10 : decode mX6_placeIn.2.1 10 = .ok (.aload_n 0, 1) := by decide +kernel
theorem dX6_placeIn_11 : decode mX6_placeIn.2.1 11 = .ok (.getfield 25, 3) := by decide +kernel
theorem dX6_placeIn_14 : decode mX6_placeIn.2.1 14 = .ok (.aload_n 0, 1) := by decide +kernel
theorem dX6_placeIn_15 : decode mX6_placeIn.2.1 15 = .ok (.getfield 22, 3) := by decide +kernel
theorem dX6_placeIn_18 : decode mX6_placeIn.2.1 18 = .ok (.isub, 1) := by decide +kernel
theorem dX6_placeIn_19 : decode mX6_placeIn.2.1 19 = .ok (.iconst 1, 1) := by decide +kernel
theorem dX6_placeIn_20 : decode mX6_placeIn.2.1 20 = .ok (.if_icmp .ne 14, 3) := by decide +kernel
theorem dX6_placeIn_23 : decode mX6_placeIn.2.1 23 = .ok (.aload_n 0, 1) := by decide +kernel
theorem dX6_placeIn_24 : decode mX6_placeIn.2.1 24 = .ok (.getfield 22, 3) := by decide +kernel
theorem dX6_placeIn_27 : decode mX6_placeIn.2.1 27 = .ok (.aload_n 0, 1) := by decide +kernel
theorem dX6_placeIn_28 : decode mX6_placeIn.2.1 28 = .ok (.getfield 15, 3) := by decide +kernel
theorem dX6_placeIn_31 : decode mX6_placeIn.2.1 31 = .ok (.if_icmp .lt 5, 3) := by decide +kernel
theorem dX6_placeIn_34 : decode mX6_placeIn.2.1 34 = .ok (.iconst (-1), 1) := by decide +kernel
theorem dX6_placeIn_35 : decode mX6_placeIn.2.1 35 = .ok (.ireturn, 1) := by decide +kernel
theorem dX6_placeIn_36 : decode mX6_placeIn.2.1 36 = .ok (.aload_n 1, 1) := by decide +kernel
theorem dX6_placeIn_37 : decode mX6_placeIn.2.1 37 = .ok (.aload_n 0, 1) := by decide +kernel
theorem dX6_placeIn_38 : decode mX6_placeIn.2.1 38 = .ok (.getfield 9, 3) := by decide +kernel
theorem dX6_placeIn_41 : decode mX6_placeIn.2.1 41 = .ok (.aload_n 0, 1) := by decide +kernel
theorem dX6_placeIn_42 : decode mX6_placeIn.2.1 42 = .ok (.getfield 22, 3) := by decide +kernel
theorem dX6_placeIn_45 : decode mX6_placeIn.2.1 45 = .ok (.iaload, 1) := by decide +kernel
theorem dX6_placeIn_46 : decode mX6_placeIn.2.1 46 = .ok (.i2c, 1) := by decide +kernel
theorem dX6_placeIn_47 : decode mX6_placeIn.2.1 47 = .ok (.invokevirtual 58, 3) := by decide +kernel
theorem dX6_placeIn_50 : decode mX6_placeIn.2.1 50 = .ok (.ireturn, 1) := by decide +kernel
theorem dX7_init_0 : decode mX7_init.2.1 0 = .ok (.aload_n 0, 1) := by decide +kernel
theorem dX7_init_1 : decode mX7_init.2.1 1 = .ok (.invokespecial 1, 3) := by decide +kernel
theorem dX7_init_4 : decode mX7_init.2.1 4 = .ok (.aload_n 0, 1) := by decide +kernel
theorem dX7_init_5 : decode mX7_init.2.1 5 = .ok (.iload_n 1, 1) := by decide +kernel
theorem dX7_init_6 : decode mX7_init.2.1 6 = .ok (.putfield 7, 3) := by decide +kernel
theorem dX7_init_9 : decode mX7_init.2.1 9 = .ok (.aload_n 0, 1) := by decide +kernel
theorem dX7_init_10 : decode mX7_init.2.1 10 = .ok (.iload_n 2, 1) := by decide +kernel
theorem dX7_init_11 : decode mX7_init.2.1 11 = .ok (.putfield 13, 3) := by decide +kernel
theorem dX7_init_14 : decode mX7_init.2.1 14 = .ok (.aload_n 0, 1) := by decide +kernel
theorem dX7_init_15 : decode mX7_init.2.1 15 = .ok (.aload_n 3, 1) := by decide +kernel
theorem dX7_init_16 : decode mX7_init.2.1 16 = .ok (.putfield 16, 3) := by decide +kernel
theorem dX7_init_19 : decode mX7_init.2.1 19 = .ok (.return_, 1) := by decide +kernel
theorem dX7_workOut_0 : decode mX7_workOut.2.1 0 = .ok (.iconst 0, 1) := by decide +kernel
theorem dX7_workOut_1 : decode mX7_workOut.2.1 1 = .ok (.istore 5, 2) := by decide +kernel
theorem dX7_workOut_3 : decode mX7_workOut.2.1 3 = .ok (.iconst 0, 1) := by decide +kernel
theorem dX7_workOut_4 : decode mX7_workOut.2.1 4 = .ok (.istore 6, 2) := by decide +kernel
theorem dX7_workOut_6 : decode mX7_workOut.2.1 6 = .ok (.iload 6, 2) := by decide +kernel
theorem dX7_workOut_8 : decode mX7_workOut.2.1 8 = .ok (.aload_n 0, 1) := by decide +kernel
theorem dX7_workOut_9 : decode mX7_workOut.2.1 9 = .ok (.getfield 16, 3) := by decide +kernel
theorem dX7_workOut_12 : decode mX7_workOut.2.1 12 = .ok (.arraylength, 1) := by decide +kernel
theorem dX7_workOut_13 : decode mX7_workOut.2.1 13 = .ok (.if_icmp .ge 163, 3) := by decide +kernel
theorem dX7_workOut_16 : decode mX7_workOut.2.1 16 = .ok (.aload_n 0, 1) := by decide +kernel
theorem dX7_workOut_17 : decode mX7_workOut.2.1 17 = .ok (.getfield 16, 3) := by decide +kernel
theorem dX7_workOut_20 : decode mX7_workOut.2.1 20 = .ok (.iload 6, 2) := by decide +kernel
theorem dX7_workOut_22 : decode mX7_workOut.2.1 22 = .ok (.iaload, 1) := by decide +kernel
theorem dX7_workOut_23 : decode mX7_workOut.2.1 23 = .ok (.istore 7, 2) := by decide +kernel
theorem dX7_workOut_25 : decode mX7_workOut.2.1 25 = .ok (.iload 7, 2) := by decide +kernel
theorem dX7_workOut_27 : decode mX7_workOut.2.1 27 = .ok (.sipush 20000, 3) := by decide +kernel
theorem dX7_workOut_30 : decode mX7_workOut.2.1 30 = .ok (.if_icmp .ge 59, 3) := by decide +kernel
theorem dX7_workOut_33 : decode mX7_workOut.2.1 33 = .ok (.iload 5, 2) := by decide +kernel
theorem dX7_workOut_35 : decode mX7_workOut.2.1 35 = .ok (.aload_n 1, 1) := by decide +kernel
theorem dX7_workOut_36 : decode mX7_workOut.2.1 36 = .ok (.arraylength, 1) := by decide +kernel
theorem dX7_workOut_37 : decode mX7_workOut.2.1 37 = .ok (.if_icmp .ge 133, 3) := by decide +kernel
theorem dX7_workOut_40 : decode mX7_workOut.2.1 40 = .ok (.aload_n 1, 1) := by decide +kernel
theorem dX7_workOut_41 : decode mX7_workOut.2.1 41 = .ok (.iload 5, 2) := by decide +kernel
theorem dX7_workOut_43 : decode mX7_workOut.2.1 43 = .ok (.iload 7, 2) := by decide +kernel
theorem dX7_workOut_45 : decode mX7_workOut.2.1 45 = .ok (.sipush 10000, 3) := by decide +kernel
theorem dX7_workOut_48 : decode mX7_workOut.2.1 48 = .ok (.if_icmp .ge 8, 3) := by decide +kernel
theorem dX7_workOut_51 : decode mX7_workOut.2.1 51 = .ok (.iload 7, 2) := by decide +kernel
theorem dX7_workOut_53 : decode mX7_workOut.2.1 53 = .ok (.goto 29, 3) := by decide +kernel
theorem dX7_workOut_56 : decode mX7_workOut.2.1 56 = .ok (.iload 7, 2) := by decide +kernel
theorem dX7_workOut_58 : decode mX7_workOut.2.1 58 = .ok (.sipush 10000, 3) := by decide +kernel
theorem dX7_workOut_61 : decode mX7_workOut.2.1 61 = .ok (.if_icmp .ne 7, 3) := by decide +kernel
theorem dX7_workOut_64 : decode mX7_workOut.2.1 64 = .ok (.iload_n 2, 1) := by decide +kernel
theorem dX7_workOut_65 : decode mX7_workOut.2.1 65 = .ok (.goto 17, 3) := by decide +kernel
theorem dX7_workOut_68 : decode mX7_workOut.2.1 68 = .ok (.iload 7, 2) := by decide +kernel
theorem dX7_workOut_70 : decode mX7_workOut.2.1 70 = .ok (.sipush 10001, 3) := by decide +kernel
theorem dX7_workOut_73 : decode mX7_workOut.2.1 73 = .ok (.if_icmp .ne 7, 3) := by decide +kernel
theorem dX7_workOut_76 : decode mX7_workOut.2.1 76 = .ok (.iload_n 3, 1) := by decide +kernel
theorem dX7_workOut_77 : decode mX7_workOut.2.1 77 = .ok (.goto 5, 3) := by decide +kernel
theorem dX7_workOut_80 : decode mX7_workOut.2.1 80 = .ok (.iload 4, 2) := by decide +kernel
theorem dX7_workOut_82 : decode mX7_workOut.2.1 82 = .ok (.iastore, 1) := by decide +kernel
theorem dX7_workOut_83 : decode mX7_workOut.2.1 83 = .ok (.iinc 5 1, 3) := by decide +kernel
theorem dX7_workOut_86 : decode mX7_workOut.2.1 86 = .ok (.goto 84, 3) := by decide +kernel
theorem dX7_workOut_89 : decode mX7_workOut.2.1 89 = .ok (.iload 7, 2) := by decide +kernel
theorem dX7_workOut_91 : decode mX7_workOut.2.1 91 = .ok (.sipush 20033, 3) := by decide +kernel
theorem dX7_workOut_94 : decode mX7_workOut.2.1 94 = .ok (.if_icmp .ne 37, 3) := by decide +kernel
theorem dX7_workOut_97 : decode mX7_workOut.2.1 97 = .ok (.iload 5, 2) := by decide +kernel
theorem dX7_workOut_99 : decode mX7_workOut.2.1 99 = .ok (.iconst 1, 1) := by decide +kernel
theorem dX7_workOut_100 : decode mX7_workOut.2.1 100 = .ok (.aload_n 1, 1) := by decide +kernel
theorem dX7_workOut_101 : decode mX7_workOut.2.1 101 = .ok (.arraylength, 1) := by decide +kernel
theorem dX7_workOut_102 : decode mX7_workOut.2.1 102 = .ok (.invokestatic 20, 3) := by decide +kernel
theorem dX7_workOut_105 : decode mX7_workOut.2.1 105 = .ok (.ifCond .eq 65, 3) := by decide +kernel
theorem dX7_workOut_108 : decode mX7_workOut.2.1 108 = .ok (.aload_n 1, 1) := by decide +kernel
theorem dX7_workOut_109 : decode mX7_workOut.2.1 109 = .ok (.iload 5, 2) := by decide +kernel
theorem dX7_workOut_111 : decode mX7_workOut.2.1 111 = .ok (.iconst 1, 1) := by decide +kernel
theorem dX7_workOut_112 : decode mX7_workOut.2.1 112 = .ok (.isub, 1) := by decide +kernel
theorem dX7_workOut_113 : decode mX7_workOut.2.1 113 = .ok (.aload_n 1, 1) := by decide +kernel
theorem dX7_workOut_114 : decode mX7_workOut.2.1 114 = .ok (.iload 5, 2) := by decide +kernel
theorem dX7_workOut_116 : decode mX7_workOut.2.1 116 = .ok (.iconst 1, 1) := by decide +kernel
theorem dX7_workOut_117 : decode mX7_workOut.2.1 117 = .ok (.isub, 1) := by decide +kernel
theorem dX7_workOut_118 : decode mX7_workOut.2.1 118 = .ok (.iaload, 1) := by decide +kernel
theorem dX7_workOut_119 : decode mX7_workOut.2.1 119 = .ok (.ifCond .ne 7, 3) := by decide +kernel
theorem dX7_workOut_122 : decode mX7_workOut.2.1 122 = .ok (.iconst 1, 1) := by decide +kernel
theorem dX7_workOut_123 : decode mX7_workOut.2.1 123 = .ok (.goto 4, 3) := by decide +kernel
theorem dX7_workOut_126 : decode mX7_workOut.2.1 126 = .ok (.iconst 0, 1) := by decide +kernel
theorem dX7_workOut_127 : decode mX7_workOut.2.1 127 = .ok (.iastore, 1) := by decide +kernel
theorem dX7_workOut_128 : decode mX7_workOut.2.1 128 = .ok (.goto 42, 3) := by decide +kernel
theorem dX7_workOut_131 : decode mX7_workOut.2.1 131 = .ok (.iload 5, 2) := by decide +kernel
theorem dX7_workOut_133 : decode mX7_workOut.2.1 133 = .ok (.iconst 2, 1) := by decide +kernel
theorem dX7_workOut_134 : decode mX7_workOut.2.1 134 = .ok (.aload_n 1, 1) := by decide +kernel
theorem dX7_workOut_135 : decode mX7_workOut.2.1 135 = .ok (.arraylength, 1) := by decide +kernel
theorem dX7_workOut_136 : decode mX7_workOut.2.1 136 = .ok (.invokestatic 20, 3) := by decide +kernel
theorem dX7_workOut_139 : decode mX7_workOut.2.1 139 = .ok (.ifCond .eq 31, 3) := by decide +kernel
theorem dX7_workOut_142 : decode mX7_workOut.2.1 142 = .ok (.iinc 5 (-1), 3) := by decide +kernel
theorem dX7_workOut_145 : decode mX7_workOut.2.1 145 = .ok (.aload_n 1, 1) := by decide +kernel
theorem dX7_workOut_146 : decode mX7_workOut.2.1 146 = .ok (.iload 5, 2) := by decide +kernel
theorem dX7_workOut_148 : decode mX7_workOut.2.1 148 = .ok (.iconst 1, 1) := by decide +kernel
theorem dX7_workOut_149 : decode mX7_workOut.2.1 149 = .ok (.isub, 1) := by decide +kernel
theorem dX7_workOut_150 : decode mX7_workOut.2.1 150 = .ok (.iload 7, 2) := by decide +kernel
theorem dX7_workOut_152 : decode mX7_workOut.2.1 152 = .ok (.sipush 20000, 3) := by decide +kernel
theorem dX7_workOut_155 : decode mX7_workOut.2.1 155 = .ok (.isub, 1) := by decide +kernel
theorem dX7_workOut_156 : decode mX7_workOut.2.1 156 = .ok (.aload_n 1, 1) := by decide +kernel
theorem dX7_workOut_157 : decode mX7_workOut.2.1 157 = .ok (.iload 5, 2) := by decide +kernel
theorem dX7_workOut_159 : decode mX7_workOut.2.1 159 = .ok (.iconst 1, 1) := by decide +kernel
theorem dX7_workOut_160 : decode mX7_workOut.2.1 160 = .ok (.isub, 1) := by decide +kernel
theorem dX7_workOut_161 : decode mX7_workOut.2.1 161 = .ok (.iaload, 1) := by decide +kernel
theorem dX7_workOut_162 : decode mX7_workOut.2.1 162 = .ok (.aload_n 1, 1) := by decide +kernel
theorem dX7_workOut_163 : decode mX7_workOut.2.1 163 = .ok (.iload 5, 2) := by decide +kernel
theorem dX7_workOut_165 : decode mX7_workOut.2.1 165 = .ok (.iaload, 1) := by decide +kernel
theorem dX7_workOut_166 : decode mX7_workOut.2.1 166 = .ok (.invokestatic 26, 3) := by decide +kernel
theorem dX7_workOut_169 : decode mX7_workOut.2.1 169 = .ok (.iastore, 1) := by decide +kernel
theorem dX7_workOut_170 : decode mX7_workOut.2.1 170 = .ok (.iinc 6 1, 3) := by decide +kernel
theorem dX7_workOut_173 : decode mX7_workOut.2.1 173 = .ok (.goto (-167), 3) := by decide +kernel
theorem dX7_workOut_176 : decode mX7_workOut.2.1 176 = .ok (.iload 5, 2) := by decide +kernel
theorem dX7_workOut_178 : decode mX7_workOut.2.1 178 = .ok (.iconst 1, 1) := by decide +kernel
theorem dX7_workOut_179 : decode mX7_workOut.2.1 179 = .ok (.aload_n 1, 1) := by decide +kernel
theorem dX7_workOut_180 : decode mX7_workOut.2.1 180 = .ok (.arraylength, 1) := by decide +kernel
theorem dX7_workOut_181 : decode mX7_workOut.2.1 181 = .ok (.invokestatic 20, 3) := by decide +kernel
theorem dX7_workOut_184 : decode mX7_workOut.2.1 184 = .ok (.ifCond .eq 12, 3) := by decide +kernel
theorem dX7_workOut_187 : decode mX7_workOut.2.1 187 = .ok (.aload_n 1, 1) := by decide +kernel
theorem dX7_workOut_188 : decode mX7_workOut.2.1 188 = .ok (.iload 5, 2) := by decide +kernel
theorem dX7_workOut_190 : decode mX7_workOut.2.1 190 = .ok (.iconst 1, 1) := by decide +kernel
theorem dX7_workOut_191 : decode mX7_workOut.2.1 191 = .ok (.isub, 1) := by decide +kernel
theorem dX7_workOut_192 : decode mX7_workOut.2.1 192 = .ok (.iaload, 1) := by decide +kernel
theorem dX7_workOut_193 : decode mX7_workOut.2.1 193 = .ok (.goto 4, 3) := by decide +kernel
theorem dX7_workOut_196 : decode mX7_workOut.2.1 196 = .ok (.iconst 0, 1) := by decide +kernel
theorem dX7_workOut_197 : decode mX7_workOut.2.1 197 = .ok (.ireturn, 1) := by decide +kernel
theorem dX7_joined_0 : decode mX7_joined.2.1 0 = .ok (.iload_n 0, 1) := by decide +kernel
theorem dX7_joined_1 : decode mX7_joined.2.1 1 = .ok (.tableswitch 186 38 62 #[172, 186, 186, 186, 123, 115, 186, 119, 186, 127, 186, 186, 186, 186, 186, 186, 186, 186, 186, 186, 186, 186, 139, 150, 161], 115) := by decide +kernel
theorem dX7_joined_116 : decode mX7_joined.2.1 116 = .ok (.iload_n 1, 1) := by decide +kernel
theorem dX7_joined_117 : decode mX7_joined.2.1 117 = .ok (.iload_n 2, 1) := by decide +kernel
theorem dX7_joined_118 : decode mX7_joined.2.1 118 = .ok (.iadd, 1) := by decide +kernel
theorem dX7_joined_119 : decode mX7_joined.2.1 119 = .ok (.ireturn, 1) := by decide +kernel
theorem dX7_joined_120 : decode mX7_joined.2.1 120 = .ok (.iload_n 1, 1) := by decide +kernel
theorem dX7_joined_121 : decode mX7_joined.2.1 121 = .ok (.iload_n 2, 1) := by decide +kernel
theorem dX7_joined_122 : decode mX7_joined.2.1 122 = .ok (.isub, 1) := by decide +kernel
theorem dX7_joined_123 : decode mX7_joined.2.1 123 = .ok (.ireturn, 1) := by decide +kernel
theorem dX7_joined_124 : decode mX7_joined.2.1 124 = .ok (.iload_n 1, 1) := by decide +kernel
theorem dX7_joined_125 : decode mX7_joined.2.1 125 = .ok (.iload_n 2, 1) := by decide +kernel
theorem dX7_joined_126 : decode mX7_joined.2.1 126 = .ok (.imul, 1) := by decide +kernel
theorem dX7_joined_127 : decode mX7_joined.2.1 127 = .ok (.ireturn, 1) := by decide +kernel
theorem dX7_joined_128 : decode mX7_joined.2.1 128 = .ok (.iload_n 2, 1) := by decide +kernel
theorem dX7_joined_129 : decode mX7_joined.2.1 129 = .ok (.ifCond .ne 7, 3) := by decide +kernel
theorem dX7_joined_132 : decode mX7_joined.2.1 132 = .ok (.iconst 0, 1) := by decide +kernel
theorem dX7_joined_133 : decode mX7_joined.2.1 133 = .ok (.goto 6, 3) := by decide +kernel
theorem dX7_joined_136 : decode mX7_joined.2.1 136 = .ok (.iload_n 1, 1) := by decide +kernel
theorem dX7_joined_137 : decode mX7_joined.2.1 137 = .ok (.iload_n 2, 1) := by decide +kernel
theorem dX7_joined_138 : decode mX7_joined.2.1 138 = .ok (.idiv, 1) := by decide +kernel
theorem dX7_joined_139 : decode mX7_joined.2.1 139 = .ok (.ireturn, 1) := by decide +kernel
theorem dX7_joined_140 : decode mX7_joined.2.1 140 = .ok (.iload_n 1, 1) := by decide +kernel
theorem dX7_joined_141 : decode mX7_joined.2.1 141 = .ok (.iload_n 2, 1) := by decide +kernel
theorem dX7_joined_142 : decode mX7_joined.2.1 142 = .ok (.if_icmp .ge 7, 3) := by decide +kernel
theorem dX7_joined_145 : decode mX7_joined.2.1 145 = .ok (.iconst 1, 1) := by decide +kernel
theorem dX7_joined_146 : decode mX7_joined.2.1 146 = .ok (.goto 4, 3) := by decide +kernel
theorem dX7_joined_149 : decode mX7_joined.2.1 149 = .ok (.iconst 0, 1) := by decide +kernel
theorem dX7_joined_150 : decode mX7_joined.2.1 150 = .ok (.ireturn, 1) := by decide +kernel
theorem dX7_joined_151 : decode mX7_joined.2.1 151 = .ok (.iload_n 1, 1) := by decide +kernel
theorem dX7_joined_152 : decode mX7_joined.2.1 152 = .ok (.iload_n 2, 1) := by decide +kernel
theorem dX7_joined_153 : decode mX7_joined.2.1 153 = .ok (.if_icmp .ne 7, 3) := by decide +kernel
theorem dX7_joined_156 : decode mX7_joined.2.1 156 = .ok (.iconst 1, 1) := by decide +kernel
theorem dX7_joined_157 : decode mX7_joined.2.1 157 = .ok (.goto 4, 3) := by decide +kernel
theorem dX7_joined_160 : decode mX7_joined.2.1 160 = .ok (.iconst 0, 1) := by decide +kernel
theorem dX7_joined_161 : decode mX7_joined.2.1 161 = .ok (.ireturn, 1) := by decide +kernel
theorem dX7_joined_162 : decode mX7_joined.2.1 162 = .ok (.iload_n 1, 1) := by decide +kernel
theorem dX7_joined_163 : decode mX7_joined.2.1 163 = .ok (.iload_n 2, 1) := by decide +kernel
theorem dX7_joined_164 : decode mX7_joined.2.1 164 = .ok (.if_icmp .le 7, 3) := by decide +kernel
theorem dX7_joined_167 : decode mX7_joined.2.1 167 = .ok (.iconst 1, 1) := by decide +kernel
theorem dX7_joined_168 : decode mX7_joined.2.1 168 = .ok (.goto 4, 3) := by decide +kernel
theorem dX7_joined_171 : decode mX7_joined.2.1 171 = .ok (.iconst 0, 1) := by decide +kernel
theorem dX7_joined_172 : decode mX7_joined.2.1 172 = .ok (.ireturn, 1) := by decide +kernel
theorem dX7_joined_173 : decode mX7_joined.2.1 173 = .ok (.iload_n 1, 1) := by decide +kernel
theorem dX7_joined_174 : decode mX7_joined.2.1 174 = .ok (.ifCond .eq 11, 3) := by decide +kernel
theorem dX7_joined_177 : decode mX7_joined.2.1 177 = .ok (.iload_n 2, 1) := by decide +kernel
theorem dX7_joined_178 : decode mX7_joined.2.1 178 = .ok (.ifCond .eq 7, 3) := by decide +kernel
theorem dX7_joined_181 : decode mX7_joined.2.1 181 = .ok (.iconst 1, 1) := by decide +kernel
theorem dX7_joined_182 : decode mX7_joined.2.1 182 = .ok (.goto 4, 3) := by decide +kernel
theorem dX7_joined_185 : decode mX7_joined.2.1 185 = .ok (.iconst 0, 1) := by decide +kernel
theorem dX7_joined_186 : decode mX7_joined.2.1 186 = .ok (.ireturn, 1) := by decide +kernel
theorem dX7_joined_187 : decode mX7_joined.2.1 187 = .ok (.iload_n 1, 1) := by decide +kernel
theorem dX7_joined_188 : decode mX7_joined.2.1 188 = .ok (.ifCond .ne 7, 3) := by decide +kernel
theorem dX7_joined_191 : decode mX7_joined.2.1 191 = .ok (.iload_n 2, 1) := by decide +kernel
theorem dX7_joined_192 : decode mX7_joined.2.1 192 = .ok (.ifCond .eq 7, 3) := by decide +kernel
theorem dX7_joined_195 : decode mX7_joined.2.1 195 = .ok (.iconst 1, 1) := by decide +kernel
theorem dX7_joined_196 : decode mX7_joined.2.1 196 = .ok (.goto 4, 3) := by decide +kernel
theorem dX7_joined_199 : decode mX7_joined.2.1 199 = .ok (.iconst 0, 1) := by decide +kernel
theorem dX7_joined_200 : decode mX7_joined.2.1 200 = .ok (.ireturn, 1) := by decide +kernel
theorem dX8_init_0 : decode mX8_init.2.1 0 = .ok (.aload_n 0, 1) := by decide +kernel
theorem dX8_init_1 : decode mX8_init.2.1 1 = .ok (.invokespecial 3, 3) := by decide +kernel
theorem dX8_init_4 : decode mX8_init.2.1 4 = .ok (.aload_n 0, 1) := by decide +kernel
theorem dX8_init_5 : decode mX8_init.2.1 5 = .ok (.bipush 6, 2) := by decide +kernel
theorem dX8_init_7 : decode mX8_init.2.1 7 = .ok (.bipush 7, 2) := by decide +kernel
theorem dX8_init_9 : decode mX8_init.2.1 9 = .ok (.multianewarray 9 2, 4) := by decide +kernel
theorem dX8_init_13 : decode mX8_init.2.1 13 = .ok (.putfield 11, 3) := by decide +kernel
theorem dX8_init_16 : decode mX8_init.2.1 16 = .ok (.aload_n 0, 1) := by decide +kernel
theorem dX8_init_17 : decode mX8_init.2.1 17 = .ok (.iconst 0, 1) := by decide +kernel
theorem dX8_init_18 : decode mX8_init.2.1 18 = .ok (.putfield 16, 3) := by decide +kernel
theorem dX8_init_21 : decode mX8_init.2.1 21 = .ok (.aload_n 0, 1) := by decide +kernel
theorem dX8_init_22 : decode mX8_init.2.1 22 = .ok (.bipush 8, 2) := by decide +kernel
theorem dX8_init_24 : decode mX8_init.2.1 24 = .ok (.anewarray 20, 3) := by decide +kernel
theorem dX8_init_27 : decode mX8_init.2.1 27 = .ok (.putfield 22, 3) := by decide +kernel
theorem dX8_init_30 : decode mX8_init.2.1 30 = .ok (.aload_n 0, 1) := by decide +kernel
theorem dX8_init_31 : decode mX8_init.2.1 31 = .ok (.iconst 0, 1) := by decide +kernel
theorem dX8_init_32 : decode mX8_init.2.1 32 = .ok (.putfield 26, 3) := by decide +kernel
theorem dX8_init_35 : decode mX8_init.2.1 35 = .ok (.aload_n 0, 1) := by decide +kernel
theorem dX8_init_36 : decode mX8_init.2.1 36 = .ok (.ldc 29, 2) := by decide +kernel
theorem dX8_init_38 : decode mX8_init.2.1 38 = .ok (.putfield 30, 3) := by decide +kernel
theorem dX8_init_41 : decode mX8_init.2.1 41 = .ok (.aload_n 0, 1) := by decide +kernel
theorem dX8_init_42 : decode mX8_init.2.1 42 = .ok (.ldc 29, 2) := by decide +kernel
theorem dX8_init_44 : decode mX8_init.2.1 44 = .ok (.putfield 33, 3) := by decide +kernel
theorem dX8_init_47 : decode mX8_init.2.1 47 = .ok (.aload_n 0, 1) := by decide +kernel
theorem dX8_init_48 : decode mX8_init.2.1 48 = .ok (.bipush 14, 2) := by decide +kernel
theorem dX8_init_50 : decode mX8_init.2.1 50 = .ok (.anewarray 36, 3) := by decide +kernel
theorem dX8_init_53 : decode mX8_init.2.1 53 = .ok (.putfield 38, 3) := by decide +kernel
theorem dX8_init_56 : decode mX8_init.2.1 56 = .ok (.aload_n 0, 1) := by decide +kernel
theorem dX8_init_57 : decode mX8_init.2.1 57 = .ok (.iconst 0, 1) := by decide +kernel
theorem dX8_init_58 : decode mX8_init.2.1 58 = .ok (.putfield 42, 3) := by decide +kernel
theorem dX8_init_61 : decode mX8_init.2.1 61 = .ok (.aload_n 0, 1) := by decide +kernel
theorem dX8_init_62 : decode mX8_init.2.1 62 = .ok (.iconst 3, 1) := by decide +kernel
theorem dX8_init_63 : decode mX8_init.2.1 63 = .ok (.newarray .int, 2) := by decide +kernel
theorem dX8_init_65 : decode mX8_init.2.1 65 = .ok (.dup, 1) := by decide +kernel
theorem dX8_init_66 : decode mX8_init.2.1 66 = .ok (.iconst 0, 1) := by decide +kernel
theorem dX8_init_67 : decode mX8_init.2.1 67 = .ok (.ldc 29, 2) := by decide +kernel
theorem dX8_init_69 : decode mX8_init.2.1 69 = .ok (.iastore, 1) := by decide +kernel
theorem dX8_init_70 : decode mX8_init.2.1 70 = .ok (.dup, 1) := by decide +kernel
theorem dX8_init_71 : decode mX8_init.2.1 71 = .ok (.iconst 1, 1) := by decide +kernel
theorem dX8_init_72 : decode mX8_init.2.1 72 = .ok (.ldc 29, 2) := by decide +kernel
theorem dX8_init_74 : decode mX8_init.2.1 74 = .ok (.iastore, 1) := by decide +kernel
theorem dX8_init_75 : decode mX8_init.2.1 75 = .ok (.dup, 1) := by decide +kernel
theorem dX8_init_76 : decode mX8_init.2.1 76 = .ok (.iconst 2, 1) := by decide +kernel
theorem dX8_init_77 : decode mX8_init.2.1 77 = .ok (.ldc 29, 2) := by decide +kernel
theorem dX8_init_79 : decode mX8_init.2.1 79 = .ok (.iastore, 1) := by decide +kernel
theorem dX8_init_80 : decode mX8_init.2.1 80 = .ok (.putfield 45, 3) := by decide +kernel
theorem dX8_init_83 : decode mX8_init.2.1 83 = .ok (.aload_n 0, 1) := by decide +kernel
theorem dX8_init_84 : decode mX8_init.2.1 84 = .ok (.new 49, 3) := by decide +kernel
theorem dX8_init_87 : decode mX8_init.2.1 87 = .ok (.dup, 1) := by decide +kernel
theorem dX8_init_88 : decode mX8_init.2.1 88 = .ok (.invokespecial 51, 3) := by decide +kernel
theorem dX8_init_91 : decode mX8_init.2.1 91 = .ok (.putfield 52, 3) := by decide +kernel
theorem dX8_init_94 : decode mX8_init.2.1 94 = .ok (.aload_n 0, 1) := by decide +kernel
theorem dX8_init_95 : decode mX8_init.2.1 95 = .ok (.bipush 96, 2) := by decide +kernel
theorem dX8_init_97 : decode mX8_init.2.1 97 = .ok (.newarray .int, 2) := by decide +kernel
theorem dX8_init_99 : decode mX8_init.2.1 99 = .ok (.putfield 56, 3) := by decide +kernel
theorem dX8_init_102 : decode mX8_init.2.1 102 = .ok (.iconst 0, 1) := by decide +kernel
theorem dX8_init_103 : decode mX8_init.2.1 103 = .ok (.istore_n 1, 1) := by decide +kernel
theorem dX8_init_104 : decode mX8_init.2.1 104 = .ok (.iload_n 1, 1) := by decide +kernel
theorem dX8_init_105 : decode mX8_init.2.1 105 = .ok (.bipush 8, 2) := by decide +kernel
theorem dX8_init_107 : decode mX8_init.2.1 107 = .ok (.if_icmp .ge 22, 3) := by decide +kernel
theorem dX8_init_110 : decode mX8_init.2.1 110 = .ok (.aload_n 0, 1) := by decide +kernel
theorem dX8_init_111 : decode mX8_init.2.1 111 = .ok (.getfield 22, 3) := by decide +kernel
theorem dX8_init_114 : decode mX8_init.2.1 114 = .ok (.iload_n 1, 1) := by decide +kernel
theorem dX8_init_115 : decode mX8_init.2.1 115 = .ok (.new 20, 3) := by decide +kernel
theorem dX8_init_118 : decode mX8_init.2.1 118 = .ok (.dup, 1) := by decide +kernel
theorem dX8_init_119 : decode mX8_init.2.1 119 = .ok (.invokespecial 59, 3) := by decide +kernel
theorem dX8_init_122 : decode mX8_init.2.1 122 = .ok (.aastore, 1) := by decide +kernel
theorem dX8_init_123 : decode mX8_init.2.1 123 = .ok (.iinc 1 1, 3) := by decide +kernel
theorem dX8_init_126 : decode mX8_init.2.1 126 = .ok (.goto (-22), 3) := by decide +kernel
theorem dX8_init_129 : decode mX8_init.2.1 129 = .ok (.return_, 1) := by decide +kernel
theorem dX8_become_0 : decode mX8_become.2.1 0 = .ok (.iconst 0, 1) := by decide +kernel
theorem dX8_become_1 : decode mX8_become.2.1 1 = .ok (.istore_n 2, 1) := by decide +kernel
theorem dX8_become_2 : decode mX8_become.2.1 2 = .ok (.iload_n 2, 1) := by decide +kernel
theorem dX8_become_3 : decode mX8_become.2.1 3 = .ok (.bipush 6, 2) := by decide +kernel
theorem dX8_become_5 : decode mX8_become.2.1 5 = .ok (.if_icmp .ge 28, 3) := by decide +kernel
theorem dX8_become_8 : decode mX8_become.2.1 8 = .ok (.aload_n 1, 1) := by decide +kernel
theorem dX8_become_9 : decode mX8_become.2.1 9 = .ok (.getfield 11, 3) := by decide +kernel
theorem dX8_become_12 : decode mX8_become.2.1 12 = .ok (.iload_n 2, 1) := by decide +kernel
theorem dX8_become_13 : decode mX8_become.2.1 13 = .ok (.aaload, 1) := by decide +kernel
theorem dX8_become_14 : decode mX8_become.2.1 14 = .ok (.iconst 0, 1) := by decide +kernel
theorem dX8_become_15 : decode mX8_become.2.1 15 = .ok (.aload_n 0, 1) := by decide +kernel
theorem dX8_become_16 : decode mX8_become.2.1 16 = .ok (.getfield 11, 3) := by decide +kernel
theorem dX8_become_19 : decode mX8_become.2.1 19 = .ok (.iload_n 2, 1) := by decide +kernel
theorem dX8_become_20 : decode mX8_become.2.1 20 = .ok (.aaload, 1) := by decide +kernel
theorem dX8_become_21 : decode mX8_become.2.1 21 = .ok (.iconst 0, 1) := by decide +kernel
theorem dX8_become_22 : decode mX8_become.2.1 22 = .ok (.bipush 7, 2) := by decide +kernel
theorem dX8_become_24 : decode mX8_become.2.1 24 = .ok (.invokestatic 60, 3) := by decide +kernel
theorem dX8_become_27 : decode mX8_become.2.1 27 = .ok (.iinc 2 1, 3) := by decide +kernel
theorem dX8_become_30 : decode mX8_become.2.1 30 = .ok (.goto (-28), 3) := by decide +kernel
theorem dX8_become_33 : decode mX8_become.2.1 33 = .ok (.aload_n 0, 1) := by decide +kernel
theorem dX8_become_34 : decode mX8_become.2.1 34 = .ok (.aload_n 1, 1) := by decide +kernel
theorem dX8_become_35 : decode mX8_become.2.1 35 = .ok (.getfield 16, 3) := by decide +kernel
theorem dX8_become_38 : decode mX8_become.2.1 38 = .ok (.putfield 16, 3) := by decide +kernel
theorem dX8_become_41 : decode mX8_become.2.1 41 = .ok (.iconst 0, 1) := by decide +kernel
theorem dX8_become_42 : decode mX8_become.2.1 42 = .ok (.istore_n 2, 1) := by decide +kernel
theorem dX8_become_43 : decode mX8_become.2.1 43 = .ok (.iload_n 2, 1) := by decide +kernel
theorem dX8_become_44 : decode mX8_become.2.1 44 = .ok (.bipush 8, 2) := by decide +kernel
theorem dX8_become_46 : decode mX8_become.2.1 46 = .ok (.if_icmp .ge 24, 3) := by decide +kernel
theorem dX8_become_49 : decode mX8_become.2.1 49 = .ok (.aload_n 0, 1) := by decide +kernel
theorem dX8_become_50 : decode mX8_become.2.1 50 = .ok (.getfield 22, 3) := by decide +kernel
theorem dX8_become_53 : decode mX8_become.2.1 53 = .ok (.iload_n 2, 1) := by decide +kernel
theorem dX8_become_54 : decode mX8_become.2.1 54 = .ok (.aaload, 1) := by decide +kernel
theorem dX8_become_55 : decode mX8_become.2.1 55 = .ok (.aload_n 1, 1) := by decide +kernel
theorem dX8_become_56 : decode mX8_become.2.1 56 = .ok (.getfield 22, 3) := by decide +kernel
theorem dX8_become_59 : decode mX8_become.2.1 59 = .ok (.iload_n 2, 1) := by decide +kernel
theorem dX8_become_60 : decode mX8_become.2.1 60 = .ok (.aaload, 1) := by decide +kernel
theorem dX8_become_61 : decode mX8_become.2.1 61 = .ok (.invokevirtual 66, 3) := by decide +kernel
theorem dX8_become_64 : decode mX8_become.2.1 64 = .ok (.iinc 2 1, 3) := by decide +kernel
theorem dX8_become_67 : decode mX8_become.2.1 67 = .ok (.goto (-24), 3) := by decide +kernel
theorem dX8_become_70 : decode mX8_become.2.1 70 = .ok (.aload_n 0, 1) := by decide +kernel
theorem dX8_become_71 : decode mX8_become.2.1 71 = .ok (.aload_n 1, 1) := by decide +kernel
theorem dX8_become_72 : decode mX8_become.2.1 72 = .ok (.getfield 26, 3) := by decide +kernel
theorem dX8_become_75 : decode mX8_become.2.1 75 = .ok (.putfield 26, 3) := by decide +kernel
theorem dX8_become_78 : decode mX8_become.2.1 78 = .ok (.aload_n 0, 1) := by decide +kernel
theorem dX8_become_79 : decode mX8_become.2.1 79 = .ok (.aload_n 1, 1) := by decide +kernel
theorem dX8_become_80 : decode mX8_become.2.1 80 = .ok (.getfield 30, 3) := by decide +kernel
theorem dX8_become_83 : decode mX8_become.2.1 83 = .ok (.putfield 30, 3) := by decide +kernel
theorem dX8_become_86 : decode mX8_become.2.1 86 = .ok (.aload_n 0, 1) := by decide +kernel
theorem dX8_become_87 : decode mX8_become.2.1 87 = .ok (.aload_n 1, 1) := by decide +kernel
theorem dX8_become_88 : decode mX8_become.2.1 88 = .ok (.getfield 33, 3) := by decide +kernel
theorem dX8_become_91 : decode mX8_become.2.1 91 = .ok (.putfield 33, 3) := by decide +kernel
theorem dX8_become_94 : decode mX8_become.2.1 94 = .ok (.iconst 0, 1) := by decide +kernel
theorem dX8_become_95 : decode mX8_become.2.1 95 = .ok (.istore_n 2, 1) := by decide +kernel
theorem dX8_become_96 : decode mX8_become.2.1 96 = .ok (.iload_n 2, 1) := by decide +kernel
theorem dX8_become_97 : decode mX8_become.2.1 97 = .ok (.bipush 14, 2) := by decide +kernel
theorem dX8_become_99 : decode mX8_become.2.1 99 = .ok (.if_icmp .ge 21, 3) := by decide +kernel
theorem dX8_become_102 : decode mX8_become.2.1 102 = .ok (.aload_n 0, 1) := by decide +kernel
theorem dX8_become_103 : decode mX8_become.2.1 103 = .ok (.getfield 38, 3) := by decide +kernel
theorem dX8_become_106 : decode mX8_become.2.1 106 = .ok (.iload_n 2, 1) := by decide +kernel
theorem dX8_become_107 : decode mX8_become.2.1 107 = .ok (.aload_n 1, 1) := by decide +kernel
theorem dX8_become_108 : decode mX8_become.2.1 108 = .ok (.getfield 38, 3) := by decide +kernel
theorem dX8_become_111 : decode mX8_become.2.1 111 = .ok (.iload_n 2, 1) := by decide +kernel
theorem dX8_become_112 : decode mX8_become.2.1 112 = .ok (.aaload, 1) := by decide +kernel
theorem dX8_become_113 : decode mX8_become.2.1 113 = .ok (.aastore, 1) := by decide +kernel
theorem dX8_become_114 : decode mX8_become.2.1 114 = .ok (.iinc 2 1, 3) := by decide +kernel
theorem dX8_become_117 : decode mX8_become.2.1 117 = .ok (.goto (-21), 3) := by decide +kernel
theorem dX8_become_120 : decode mX8_become.2.1 120 = .ok (.aload_n 0, 1) := by decide +kernel
theorem dX8_become_121 : decode mX8_become.2.1 121 = .ok (.aload_n 1, 1) := by decide +kernel
theorem dX8_become_122 : decode mX8_become.2.1 122 = .ok (.getfield 42, 3) := by decide +kernel
theorem dX8_become_125 : decode mX8_become.2.1 125 = .ok (.putfield 42, 3) := by decide +kernel
theorem dX8_become_128 : decode mX8_become.2.1 128 = .ok (.aload_n 1, 1) := by decide +kernel
theorem dX8_become_129 : decode mX8_become.2.1 129 = .ok (.getfield 45, 3) := by decide +kernel
theorem dX8_become_132 : decode mX8_become.2.1 132 = .ok (.iconst 0, 1) := by decide +kernel
theorem dX8_become_133 : decode mX8_become.2.1 133 = .ok (.aload_n 0, 1) := by decide +kernel
theorem dX8_become_134 : decode mX8_become.2.1 134 = .ok (.getfield 45, 3) := by decide +kernel
theorem dX8_become_137 : decode mX8_become.2.1 137 = .ok (.iconst 0, 1) := by decide +kernel
theorem dX8_become_138 : decode mX8_become.2.1 138 = .ok (.iconst 3, 1) := by decide +kernel
theorem dX8_become_139 : decode mX8_become.2.1 139 = .ok (.invokestatic 60, 3) := by decide +kernel
theorem dX8_become_142 : decode mX8_become.2.1 142 = .ok (.aload_n 0, 1) := by decide +kernel
theorem dX8_become_143 : decode mX8_become.2.1 143 = .ok (.getfield 52, 3) := by decide +kernel
theorem dX8_become_146 : decode mX8_become.2.1 146 = .ok (.aload_n 1, 1) := by decide +kernel
theorem dX8_become_147 : decode mX8_become.2.1 147 = .ok (.getfield 52, 3) := by decide +kernel
theorem dX8_become_150 : decode mX8_become.2.1 150 = .ok (.getfield 70, 3) := by decide +kernel
theorem dX8_become_153 : decode mX8_become.2.1 153 = .ok (.putfield 70, 3) := by decide +kernel
theorem dX8_become_156 : decode mX8_become.2.1 156 = .ok (.return_, 1) := by decide +kernel
theorem dX8_hasSort_0 : decode mX8_hasSort.2.1 0 = .ok (.iload_n 1, 1) := by decide +kernel
theorem dX8_hasSort_1 : decode mX8_hasSort.2.1 1 = .ok (.iconst 0, 1) := by decide +kernel
theorem dX8_hasSort_2 : decode mX8_hasSort.2.1 2 = .ok (.aload_n 0, 1) := by decide +kernel
theorem dX8_hasSort_3 : decode mX8_hasSort.2.1 3 = .ok (.getfield 16, 3) := by decide +kernel
theorem dX8_hasSort_6 : decode mX8_hasSort.2.1 6 = .ok (.iconst 1, 1) := by decide +kernel
theorem dX8_hasSort_7 : decode mX8_hasSort.2.1 7 = .ok (.isub, 1) := by decide +kernel
theorem dX8_hasSort_8 : decode mX8_hasSort.2.1 8 = .ok (.invokestatic 73, 3) := by decide +kernel
theorem dX8_hasSort_11 : decode mX8_hasSort.2.1 11 = .ok (.ireturn, 1) := by decide +kernel
theorem dX8_addSort_0 : decode mX8_addSort.2.1 0 = .ok (.aload_n 0, 1) := by decide +kernel
theorem dX8_addSort_1 : decode mX8_addSort.2.1 1 = .ok (.getfield 16, 3) := by decide +kernel
theorem dX8_addSort_4 : decode mX8_addSort.2.1 4 = .ok (.bipush 6, 2) := by decide +kernel
theorem dX8_addSort_6 : decode mX8_addSort.2.1 6 = .ok (.if_icmp .lt 6, 3) := by decide +kernel
theorem dX8_addSort_9 : decode mX8_addSort.2.1 9 = .ok (.ldc 77, 2) := by decide +kernel
theorem dX8_addSort_11 : decode mX8_addSort.2.1 11 = .ok (.ireturn, 1) := by decide +kernel
theorem dX8_addSort_12 : decode mX8_addSort.2.1 12 = .ok (.aload_n 0, 1) := by decide +kernel
theorem dX8_addSort_13 : decode mX8_addSort.2.1 13 = .ok (.getfield 11, 3) := by decide +kernel
theorem dX8_addSort_16 : decode mX8_addSort.2.1 16 = .ok (.aload_n 0, 1) := by decide +kernel
theorem dX8_addSort_17 : decode mX8_addSort.2.1 17 = .ok (.getfield 16, 3) := by decide +kernel
theorem dX8_addSort_20 : decode mX8_addSort.2.1 20 = .ok (.aaload, 1) := by decide +kernel
theorem dX8_addSort_21 : decode mX8_addSort.2.1 21 = .ok (.astore 4, 2) := by decide +kernel
theorem dX8_addSort_23 : decode mX8_addSort.2.1 23 = .ok (.aload 4, 2) := by decide +kernel
theorem dX8_addSort_25 : decode mX8_addSort.2.1 25 = .ok (.iconst 0, 1) := by decide +kernel
theorem dX8_addSort_26 : decode mX8_addSort.2.1 26 = .ok (.iload_n 1, 1) := by decide +kernel
theorem dX8_addSort_27 : decode mX8_addSort.2.1 27 = .ok (.iastore, 1) := by decide +kernel
theorem dX8_addSort_28 : decode mX8_addSort.2.1 28 = .ok (.aload 4, 2) := by decide +kernel
theorem dX8_addSort_30 : decode mX8_addSort.2.1 30 = .ok (.iconst 1, 1) := by decide +kernel
theorem dX8_addSort_31 : decode mX8_addSort.2.1 31 = .ok (.iload_n 2, 1) := by decide +kernel
theorem dX8_addSort_32 : decode mX8_addSort.2.1 32 = .ok (.iastore, 1) := by decide +kernel
theorem dX8_addSort_33 : decode mX8_addSort.2.1 33 = .ok (.aload 4, 2) := by decide +kernel
theorem dX8_addSort_35 : decode mX8_addSort.2.1 35 = .ok (.iconst 2, 1) := by decide +kernel
theorem dX8_addSort_36 : decode mX8_addSort.2.1 36 = .ok (.iload_n 3, 1) := by decide +kernel
theorem dX8_addSort_37 : decode mX8_addSort.2.1 37 = .ok (.iastore, 1) := by decide +kernel
theorem dX8_addSort_38 : decode mX8_addSort.2.1 38 = .ok (.aload 4, 2) := by decide +kernel
theorem dX8_addSort_40 : decode mX8_addSort.2.1 40 = .ok (.iconst 3, 1) := by decide +kernel
theorem dX8_addSort_41 : decode mX8_addSort.2.1 41 = .ok (.iconst 0, 1) := by decide +kernel
theorem dX8_addSort_42 : decode mX8_addSort.2.1 42 = .ok (.iastore, 1) := by decide +kernel
theorem dX8_addSort_43 : decode mX8_addSort.2.1 43 = .ok (.aload 4, 2) := by decide +kernel
theorem dX8_addSort_45 : decode mX8_addSort.2.1 45 = .ok (.iconst 4, 1) := by decide +kernel
theorem dX8_addSort_46 : decode mX8_addSort.2.1 46 = .ok (.sipush 9999, 3) := by decide +kernel
theorem dX8_addSort_49 : decode mX8_addSort.2.1 49 = .ok (.iastore, 1) := by decide +kernel
theorem dX8_addSort_50 : decode mX8_addSort.2.1 50 = .ok (.aload 4, 2) := by decide +kernel
theorem dX8_addSort_52 : decode mX8_addSort.2.1 52 = .ok (.iconst 5, 1) := by decide +kernel
theorem dX8_addSort_53 : decode mX8_addSort.2.1 53 = .ok (.iconst 0, 1) := by decide +kernel
theorem dX8_addSort_54 : decode mX8_addSort.2.1 54 = .ok (.iastore, 1) := by decide +kernel
theorem dX8_addSort_55 : decode mX8_addSort.2.1 55 = .ok (.aload 4, 2) := by decide +kernel
theorem dX8_addSort_57 : decode mX8_addSort.2.1 57 = .ok (.bipush 6, 2) := by decide +kernel
theorem dX8_addSort_59 : decode mX8_addSort.2.1 59 = .ok (.sipush 500, 3) := by decide +kernel
theorem dX8_addSort_62 : decode mX8_addSort.2.1 62 = .ok (.iastore, 1) := by decide +kernel
theorem dX8_addSort_63 : decode mX8_addSort.2.1 63 = .ok (.aload_n 0, 1) := by decide +kernel
theorem dX8_addSort_64 : decode mX8_addSort.2.1 64 = .ok (.dup, 1) := by decide +kernel
theorem dX8_addSort_65 : decode mX8_addSort.2.1 65 = .ok (.getfield 16, 3) := by decide +kernel
theorem dX8_addSort_68 : decode mX8_addSort.2.1 68 = .ok (.iconst 1, 1) := by decide +kernel
theorem dX8_addSort_69 : decode mX8_addSort.2.1 69 = .ok (.iadd, 1) := by decide +kernel
theorem dX8_addSort_70 : decode mX8_addSort.2.1 70 = .ok (.putfield 16, 3) := by decide +kernel
theorem dX8_addSort_73 : decode mX8_addSort.2.1 73 = .ok (.aload_n 0, 1) := by decide +kernel
theorem dX8_addSort_74 : decode mX8_addSort.2.1 74 = .ok (.getfield 16, 3) := by decide +kernel
theorem dX8_addSort_77 : decode mX8_addSort.2.1 77 = .ok (.iconst 1, 1) := by decide +kernel
theorem dX8_addSort_78 : decode mX8_addSort.2.1 78 = .ok (.isub, 1) := by decide +kernel
theorem dX8_addSort_79 : decode mX8_addSort.2.1 79 = .ok (.ireturn, 1) := by decide +kernel
theorem dX8_drawSort_0 : decode mX8_drawSort.2.1 0 = .ok (.aload_n 0, 1) := by decide +kernel
theorem dX8_drawSort_1 : decode mX8_drawSort.2.1 1 = .ok (.getfield 52, 3) := by decide +kernel
theorem dX8_drawSort_4 : decode mX8_drawSort.2.1 4 = .ok (.bipush 100, 2) := by decide +kernel
theorem dX8_drawSort_6 : decode mX8_drawSort.2.1 6 = .ok (.invokevirtual 78, 3) := by decide +kernel
theorem dX8_drawSort_9 : decode mX8_drawSort.2.1 9 = .ok (.istore_n 1, 1) := by decide +kernel
theorem dX8_drawSort_10 : decode mX8_drawSort.2.1 10 = .ok (.aload_n 0, 1) := by decide +kernel
theorem dX8_drawSort_11 : decode mX8_drawSort.2.1 11 = .ok (.getfield 52, 3) := by decide +kernel
theorem dX8_drawSort_14 : decode mX8_drawSort.2.1 14 = .ok (.bipush 101, 2) := by decide +kernel
theorem dX8_drawSort_16 : decode mX8_drawSort.2.1 16 = .ok (.invokevirtual 78, 3) := by decide +kernel
theorem dX8_drawSort_19 : decode mX8_drawSort.2.1 19 = .ok (.istore_n 2, 1) := by decide +kernel
theorem dX8_drawSort_20 : decode mX8_drawSort.2.1 20 = .ok (.aload_n 0, 1) := by decide +kernel
theorem dX8_drawSort_21 : decode mX8_drawSort.2.1 21 = .ok (.getfield 52, 3) := by decide +kernel
theorem dX8_drawSort_24 : decode mX8_drawSort.2.1 24 = .ok (.bipush 100, 2) := by decide +kernel
theorem dX8_drawSort_26 : decode mX8_drawSort.2.1 26 = .ok (.invokevirtual 78, 3) := by decide +kernel
theorem dX8_drawSort_29 : decode mX8_drawSort.2.1 29 = .ok (.istore_n 3, 1) := by decide +kernel
theorem dX8_drawSort_30 : decode mX8_drawSort.2.1 30 = .ok (.aload_n 0, 1) := by decide +kernel
theorem dX8_drawSort_31 : decode mX8_drawSort.2.1 31 = .ok (.iload_n 1, 1) := by decide +kernel
theorem dX8_drawSort_32 : decode mX8_drawSort.2.1 32 = .ok (.iload_n 2, 1) := by decide +kernel
theorem dX8_drawSort_33 : decode mX8_drawSort.2.1 33 = .ok (.iload_n 3, 1) := by decide +kernel
theorem dX8_drawSort_34 : decode mX8_drawSort.2.1 34 = .ok (.invokevirtual 82, 3) := by decide +kernel
theorem dX8_drawSort_37 : decode mX8_drawSort.2.1 37 = .ok (.istore 4, 2) := by decide +kernel
theorem dX8_drawSort_39 : decode mX8_drawSort.2.1 39 = .ok (.aload_n 0, 1) := by decide +kernel
theorem dX8_drawSort_40 : decode mX8_drawSort.2.1 40 = .ok (.iload 4, 2) := by decide +kernel
theorem dX8_drawSort_42 : decode mX8_drawSort.2.1 42 = .ok (.invokevirtual 86, 3) := by decide +kernel
theorem dX8_drawSort_45 : decode mX8_drawSort.2.1 45 = .ok (.ifCond .eq 39, 3) := by decide +kernel
theorem dX8_drawSort_48 : decode mX8_drawSort.2.1 48 = .ok (.aload_n 0, 1) := by decide +kernel
theorem dX8_drawSort_49 : decode mX8_drawSort.2.1 49 = .ok (.getfield 11, 3) := by decide +kernel
theorem dX8_drawSort_52 : decode mX8_drawSort.2.1 52 = .ok (.iload 4, 2) := by decide +kernel
theorem dX8_drawSort_54 : decode mX8_drawSort.2.1 54 = .ok (.aaload, 1) := by decide +kernel
theorem dX8_drawSort_55 : decode mX8_drawSort.2.1 55 = .ok (.iconst 3, 1) := by decide +kernel
theorem dX8_drawSort_56 : decode mX8_drawSort.2.1 56 = .ok (.aload_n 0, 1) := by decide +kernel
theorem dX8_drawSort_57 : decode mX8_drawSort.2.1 57 = .ok (.getfield 52, 3) := by decide +kernel
theorem dX8_drawSort_60 : decode mX8_drawSort.2.1 60 = .ok (.bipush 10, 2) := by decide +kernel
theorem dX8_drawSort_62 : decode mX8_drawSort.2.1 62 = .ok (.invokevirtual 78, 3) := by decide +kernel
theorem dX8_drawSort_65 : decode mX8_drawSort.2.1 65 = .ok (.iastore, 1) := by decide +kernel
theorem dX8_drawSort_66 : decode mX8_drawSort.2.1 66 = .ok (.aload_n 0, 1) := by decide +kernel
theorem dX8_drawSort_67 : decode mX8_drawSort.2.1 67 = .ok (.getfield 11, 3) := by decide +kernel
theorem dX8_drawSort_70 : decode mX8_drawSort.2.1 70 = .ok (.iload 4, 2) := by decide +kernel
theorem dX8_drawSort_72 : decode mX8_drawSort.2.1 72 = .ok (.aaload, 1) := by decide +kernel
theorem dX8_drawSort_73 : decode mX8_drawSort.2.1 73 = .ok (.iconst 5, 1) := by decide +kernel
theorem dX8_drawSort_74 : decode mX8_drawSort.2.1 74 = .ok (.aload_n 0, 1) := by decide +kernel
theorem dX8_drawSort_75 : decode mX8_drawSort.2.1 75 = .ok (.getfield 52, 3) := by decide +kernel
theorem dX8_drawSort_78 : decode mX8_drawSort.2.1 78 = .ok (.bipush 20, 2) := by decide +kernel
theorem dX8_drawSort_80 : decode mX8_drawSort.2.1 80 = .ok (.invokevirtual 78, 3) := by decide +kernel
theorem dX8_drawSort_83 : decode mX8_drawSort.2.1 83 = .ok (.iastore, 1) := by decide +kernel
theorem dX8_drawSort_84 : decode mX8_drawSort.2.1 84 = .ok (.return_, 1) := by decide +kernel
theorem dX8_addRule_0 : decode mX8_addRule.2.1 0 = .ok (.aload_n 0, 1) := by decide +kernel
theorem dX8_addRule_1 : decode mX8_addRule.2.1 1 = .ok (.getfield 26, 3) := by decide +kernel
theorem dX8_addRule_4 : decode mX8_addRule.2.1 4 = .ok (.bipush 8, 2) := by decide +kernel
theorem dX8_addRule_6 : decode mX8_addRule.2.1 6 = .ok (.if_icmp .lt 6, 3) := by decide +kernel
theorem dX8_addRule_9 : decode mX8_addRule.2.1 9 = .ok (.ldc 77, 2) := by decide +kernel
theorem dX8_addRule_11 : decode mX8_addRule.2.1 11 = .ok (.ireturn, 1) := by decide +kernel
theorem dX8_addRule_12 : decode mX8_addRule.2.1 12 = .ok (.aload_n 0, 1) := by decide +kernel
theorem dX8_addRule_13 : decode mX8_addRule.2.1 13 = .ok (.getfield 22, 3) := by decide +kernel
theorem dX8_addRule_16 : decode mX8_addRule.2.1 16 = .ok (.aload_n 0, 1) := by decide +kernel
theorem dX8_addRule_17 : decode mX8_addRule.2.1 17 = .ok (.getfield 26, 3) := by decide +kernel
theorem dX8_addRule_20 : decode mX8_addRule.2.1 20 = .ok (.aaload, 1) := by decide +kernel
theorem dX8_addRule_21 : decode mX8_addRule.2.1 21 = .ok (.astore 5, 2) := by decide +kernel
theorem dX8_addRule_23 : decode mX8_addRule.2.1 23 = .ok (.aload 5, 2) := by decide +kernel
theorem dX8_addRule_25 : decode mX8_addRule.2.1 25 = .ok (.iload_n 1, 1) := by decide +kernel
theorem dX8_addRule_26 : decode mX8_addRule.2.1 26 = .ok (.putfield 90, 3) := by decide +kernel
theorem dX8_addRule_29 : decode mX8_addRule.2.1 29 = .ok (.aload 5, 2) := by decide +kernel
theorem dX8_addRule_31 : decode mX8_addRule.2.1 31 = .ok (.getfield 93, 3) := by decide +kernel
theorem dX8_addRule_34 : decode mX8_addRule.2.1 34 = .ok (.iconst 0, 1) := by decide +kernel
theorem dX8_addRule_35 : decode mX8_addRule.2.1 35 = .ok (.iload_n 2, 1) := by decide +kernel
theorem dX8_addRule_36 : decode mX8_addRule.2.1 36 = .ok (.iastore, 1) := by decide +kernel
theorem dX8_addRule_37 : decode mX8_addRule.2.1 37 = .ok (.aload 5, 2) := by decide +kernel
theorem dX8_addRule_39 : decode mX8_addRule.2.1 39 = .ok (.getfield 93, 3) := by decide +kernel
theorem dX8_addRule_42 : decode mX8_addRule.2.1 42 = .ok (.iconst 1, 1) := by decide +kernel
theorem dX8_addRule_43 : decode mX8_addRule.2.1 43 = .ok (.iload_n 3, 1) := by decide +kernel
theorem dX8_addRule_44 : decode mX8_addRule.2.1 44 = .ok (.iastore, 1) := by decide +kernel
theorem dX8_addRule_45 : decode mX8_addRule.2.1 45 = .ok (.aload 5, 2) := by decide +kernel
theorem dX8_addRule_47 : decode mX8_addRule.2.1 47 = .ok (.getfield 93, 3) := by decide +kernel
theorem dX8_addRule_50 : decode mX8_addRule.2.1 50 = .ok (.iconst 2, 1) := by decide +kernel
theorem dX8_addRule_51 : decode mX8_addRule.2.1 51 = .ok (.iload 4, 2) := by decide +kernel
theorem dX8_addRule_53 : decode mX8_addRule.2.1 53 = .ok (.iastore, 1) := by decide +kernel
theorem dX8_addRule_54 : decode mX8_addRule.2.1 54 = .ok (.aload_n 0, 1) := by decide +kernel
theorem dX8_addRule_55 : decode mX8_addRule.2.1 55 = .ok (.dup, 1) := by decide +kernel
theorem dX8_addRule_56 : decode mX8_addRule.2.1 56 = .ok (.getfield 26, 3) := by decide +kernel
theorem dX8_addRule_59 : decode mX8_addRule.2.1 59 = .ok (.iconst 1, 1) := by decide +kernel
theorem dX8_addRule_60 : decode mX8_addRule.2.1 60 = .ok (.iadd, 1) := by decide +kernel
theorem dX8_addRule_61 : decode mX8_addRule.2.1 61 = .ok (.putfield 26, 3) := by decide +kernel
theorem dX8_addRule_64 : decode mX8_addRule.2.1 64 = .ok (.aload_n 0, 1) := by decide +kernel
theorem dX8_addRule_65 : decode mX8_addRule.2.1 65 = .ok (.getfield 26, 3) := by decide +kernel
theorem dX8_addRule_68 : decode mX8_addRule.2.1 68 = .ok (.iconst 1, 1) := by decide +kernel
theorem dX8_addRule_69 : decode mX8_addRule.2.1 69 = .ok (.isub, 1) := by decide +kernel
theorem dX8_addRule_70 : decode mX8_addRule.2.1 70 = .ok (.ireturn, 1) := by decide +kernel
theorem dX8_ruleAt_0 : decode mX8_ruleAt.2.1 0 = .ok (.iload_n 1, 1) := by decide +kernel
theorem dX8_ruleAt_1 : decode mX8_ruleAt.2.1 1 = .ok (.iconst 0, 1) := by decide +kernel
theorem dX8_ruleAt_2 : decode mX8_ruleAt.2.1 2 = .ok (.aload_n 0, 1) := by decide +kernel
theorem dX8_ruleAt_3 : decode mX8_ruleAt.2.1 3 = .ok (.getfield 26, 3) := by decide +kernel
theorem dX8_ruleAt_6 : decode mX8_ruleAt.2.1 6 = .ok (.iconst 1, 1) := by decide +kernel
theorem dX8_ruleAt_7 : decode mX8_ruleAt.2.1 7 = .ok (.isub, 1) := by decide +kernel
theorem dX8_ruleAt_8 : decode mX8_ruleAt.2.1 8 = .ok (.invokestatic 73, 3) := by decide +kernel
theorem dX8_ruleAt_11 : decode mX8_ruleAt.2.1 11 = .ok (.ifCond .eq 12, 3) := by decide +kernel
theorem dX8_ruleAt_14 : decode mX8_ruleAt.2.1 14 = .ok (.aload_n 0, 1) := by decide +kernel
theorem dX8_ruleAt_15 : decode mX8_ruleAt.2.1 15 = .ok (.getfield 22, 3) := by decide +kernel
theorem dX8_ruleAt_18 : decode mX8_ruleAt.2.1 18 = .ok (.iload_n 1, 1) := by decide +kernel
theorem dX8_ruleAt_19 : decode mX8_ruleAt.2.1 19 = .ok (.aaload, 1) := by decide +kernel
theorem dX8_ruleAt_20 : decode mX8_ruleAt.2.1 20 = .ok (.goto 4, 3) := by decide +kernel
theorem dX8_ruleAt_23 : decode mX8_ruleAt.2.1 23 = .ok (.aconst_null, 1) := by decide +kernel
theorem dX8_ruleAt_24 : decode mX8_ruleAt.2.1 24 = .ok (.areturn, 1) := by decide +kernel
theorem dX8_ruleInForce_0 : decode mX8_ruleInForce.2.1 0 = .ok (.aload_n 0, 1) := by decide +kernel
theorem dX8_ruleInForce_1 : decode mX8_ruleInForce.2.1 1 = .ok (.aload_n 0, 1) := by decide +kernel
theorem dX8_ruleInForce_2 : decode mX8_ruleInForce.2.1 2 = .ok (.getfield 30, 3) := by decide +kernel
theorem dX8_ruleInForce_5 : decode mX8_ruleInForce.2.1 5 = .ok (.invokevirtual 96, 3) := by decide +kernel
theorem dX8_ruleInForce_8 : decode mX8_ruleInForce.2.1 8 = .ok (.areturn, 1) := by decide +kernel
theorem dX8_addText_0 : decode mX8_addText.2.1 0 = .ok (.aload_n 0, 1) := by decide +kernel
theorem dX8_addText_1 : decode mX8_addText.2.1 1 = .ok (.getfield 42, 3) := by decide +kernel
theorem dX8_addText_4 : decode mX8_addText.2.1 4 = .ok (.bipush 14, 2) := by decide +kernel
theorem dX8_addText_6 : decode mX8_addText.2.1 6 = .ok (.if_icmp .ge 15, 3) := by decide +kernel
theorem dX8_addText_9 : decode mX8_addText.2.1 9 = .ok (.aload_n 1, 1) := by decide +kernel
theorem dX8_addText_10 : decode mX8_addText.2.1 10 = .ok (.getfield 100, 3) := by decide +kernel
theorem dX8_addText_13 : decode mX8_addText.2.1 13 = .ok (.iconst 0, 1) := by decide +kernel
theorem dX8_addText_14 : decode mX8_addText.2.1 14 = .ok (.iconst 2, 1) := by decide +kernel
theorem dX8_addText_15 : decode mX8_addText.2.1 15 = .ok (.invokestatic 73, 3) := by decide +kernel
theorem dX8_addText_18 : decode mX8_addText.2.1 18 = .ok (.ifCond .ne 6, 3) := by decide +kernel
theorem dX8_addText_21 : decode mX8_addText.2.1 21 = .ok (.ldc 77, 2) := by decide +kernel
theorem dX8_addText_23 : decode mX8_addText.2.1 23 = .ok (.ireturn, 1) := by decide +kernel
theorem dX8_addText_24 : decode mX8_addText.2.1 24 = .ok (.aload_n 0, 1) := by decide +kernel
theorem dX8_addText_25 : decode mX8_addText.2.1 25 = .ok (.getfield 38, 3) := by decide +kernel
theorem dX8_addText_28 : decode mX8_addText.2.1 28 = .ok (.aload_n 0, 1) := by decide +kernel
theorem dX8_addText_29 : decode mX8_addText.2.1 29 = .ok (.getfield 42, 3) := by decide +kernel
theorem dX8_addText_32 : decode mX8_addText.2.1 32 = .ok (.aload_n 1, 1) := by decide +kernel
theorem dX8_addText_33 : decode mX8_addText.2.1 33 = .ok (.aastore, 1) := by decide +kernel
theorem dX8_addText_34 : decode mX8_addText.2.1 34 = .ok (.aload_n 0, 1) := by decide +kernel
theorem dX8_addText_35 : decode mX8_addText.2.1 35 = .ok (.getfield 45, 3) := by decide +kernel
theorem dX8_addText_38 : decode mX8_addText.2.1 38 = .ok (.aload_n 1, 1) := by decide +kernel
theorem dX8_addText_39 : decode mX8_addText.2.1 39 = .ok (.getfield 100, 3) := by decide +kernel
theorem dX8_addText_42 : decode mX8_addText.2.1 42 = .ok (.aload_n 0, 1) := by decide +kernel
theorem dX8_addText_43 : decode mX8_addText.2.1 43 = .ok (.getfield 42, 3) := by decide +kernel
theorem dX8_addText_46 : decode mX8_addText.2.1 46 = .ok (.iastore, 1) := by decide +kernel
theorem dX8_addText_47 : decode mX8_addText.2.1 47 = .ok (.aload_n 0, 1) := by decide +kernel
theorem dX8_addText_48 : decode mX8_addText.2.1 48 = .ok (.dup, 1) := by decide +kernel
theorem dX8_addText_49 : decode mX8_addText.2.1 49 = .ok (.getfield 42, 3) := by decide +kernel
theorem dX8_addText_52 : decode mX8_addText.2.1 52 = .ok (.iconst 1, 1) := by decide +kernel
theorem dX8_addText_53 : decode mX8_addText.2.1 53 = .ok (.iadd, 1) := by decide +kernel
theorem dX8_addText_54 : decode mX8_addText.2.1 54 = .ok (.putfield 42, 3) := by decide +kernel
theorem dX8_addText_57 : decode mX8_addText.2.1 57 = .ok (.aload_n 0, 1) := by decide +kernel
theorem dX8_addText_58 : decode mX8_addText.2.1 58 = .ok (.getfield 42, 3) := by decide +kernel
theorem dX8_addText_61 : decode mX8_addText.2.1 61 = .ok (.iconst 1, 1) := by decide +kernel
theorem dX8_addText_62 : decode mX8_addText.2.1 62 = .ok (.isub, 1) := by decide +kernel
theorem dX8_addText_63 : decode mX8_addText.2.1 63 = .ok (.ireturn, 1) := by decide +kernel
theorem dX8_textAt_0 : decode mX8_textAt.2.1 0 = .ok (.iload_n 1, 1) := by decide +kernel
theorem dX8_textAt_1 : decode mX8_textAt.2.1 1 = .ok (.iconst 0, 1) := by decide +kernel
theorem dX8_textAt_2 : decode mX8_textAt.2.1 2 = .ok (.aload_n 0, 1) := by decide +kernel
theorem dX8_textAt_3 : decode mX8_textAt.2.1 3 = .ok (.getfield 42, 3) := by decide +kernel
theorem dX8_textAt_6 : decode mX8_textAt.2.1 6 = .ok (.iconst 1, 1) := by decide +kernel
theorem dX8_textAt_7 : decode mX8_textAt.2.1 7 = .ok (.isub, 1) := by decide +kernel
theorem dX8_textAt_8 : decode mX8_textAt.2.1 8 = .ok (.invokestatic 73, 3) := by decide +kernel
theorem dX8_textAt_11 : decode mX8_textAt.2.1 11 = .ok (.ifCond .eq 12, 3) := by decide +kernel
theorem dX8_textAt_14 : decode mX8_textAt.2.1 14 = .ok (.aload_n 0, 1) := by decide +kernel
theorem dX8_textAt_15 : decode mX8_textAt.2.1 15 = .ok (.getfield 38, 3) := by decide +kernel
theorem dX8_textAt_18 : decode mX8_textAt.2.1 18 = .ok (.iload_n 1, 1) := by decide +kernel
theorem dX8_textAt_19 : decode mX8_textAt.2.1 19 = .ok (.aaload, 1) := by decide +kernel
theorem dX8_textAt_20 : decode mX8_textAt.2.1 20 = .ok (.goto 4, 3) := by decide +kernel
theorem dX8_textAt_23 : decode mX8_textAt.2.1 23 = .ok (.aconst_null, 1) := by decide +kernel
theorem dX8_textAt_24 : decode mX8_textAt.2.1 24 = .ok (.areturn, 1) := by decide +kernel
theorem dX8_owedBy_0 : decode mX8_owedBy.2.1 0 = .ok (.aload_n 1, 1) := by decide +kernel
theorem dX8_owedBy_1 : decode mX8_owedBy.2.1 1 = .ok (.ifnonnull 5, 3) := by decide +kernel
theorem dX8_owedBy_4 : decode mX8_owedBy.2.1 4 = .ok (.iconst 0, 1) := by decide +kernel
theorem dX8_owedBy_5 : decode mX8_owedBy.2.1 5 = .ok (.ireturn, 1) := by decide +kernel
theorem dX8_owedBy_6 : decode mX8_owedBy.2.1 6 = .ok (.aload_n 0, 1) := by decide +kernel
theorem dX8_owedBy_7 : decode mX8_owedBy.2.1 7 = .ok (.aload_n 0, 1) := by decide +kernel
theorem dX8_owedBy_8 : decode mX8_owedBy.2.1 8 = .ok (.getfield 45, 3) := by decide +kernel
theorem dX8_owedBy_11 : decode mX8_owedBy.2.1 11 = .ok (.iconst 0, 1) := by decide +kernel
theorem dX8_owedBy_12 : decode mX8_owedBy.2.1 12 = .ok (.iaload, 1) := by decide +kernel
theorem dX8_owedBy_13 : decode mX8_owedBy.2.1 13 = .ok (.invokevirtual 103, 3) := by decide +kernel
theorem dX8_owedBy_16 : decode mX8_owedBy.2.1 16 = .ok (.astore_n 3, 1) := by decide +kernel
theorem dX8_owedBy_17 : decode mX8_owedBy.2.1 17 = .ok (.aload_n 3, 1) := by decide +kernel
theorem dX8_owedBy_18 : decode mX8_owedBy.2.1 18 = .ok (.ifnonnull 15, 3) := by decide +kernel
theorem dX8_owedBy_21 : decode mX8_owedBy.2.1 21 = .ok (.aload_n 1, 1) := by decide +kernel
theorem dX8_owedBy_22 : decode mX8_owedBy.2.1 22 = .ok (.aload_n 1, 1) := by decide +kernel
theorem dX8_owedBy_23 : decode mX8_owedBy.2.1 23 = .ok (.getfield 93, 3) := by decide +kernel
theorem dX8_owedBy_26 : decode mX8_owedBy.2.1 26 = .ok (.iconst 0, 1) := by decide +kernel
theorem dX8_owedBy_27 : decode mX8_owedBy.2.1 27 = .ok (.iaload, 1) := by decide +kernel
theorem dX8_owedBy_28 : decode mX8_owedBy.2.1 28 = .ok (.iload_n 2, 1) := by decide +kernel
theorem dX8_owedBy_29 : decode mX8_owedBy.2.1 29 = .ok (.invokevirtual 107, 3) := by decide +kernel
theorem dX8_owedBy_32 : decode mX8_owedBy.2.1 32 = .ok (.ireturn, 1) := by decide +kernel
theorem dX8_owedBy_33 : decode mX8_owedBy.2.1 33 = .ok (.aload_n 1, 1) := by decide +kernel
theorem dX8_owedBy_34 : decode mX8_owedBy.2.1 34 = .ok (.aload_n 3, 1) := by decide +kernel
theorem dX8_owedBy_35 : decode mX8_owedBy.2.1 35 = .ok (.aload_n 0, 1) := by decide +kernel
theorem dX8_owedBy_36 : decode mX8_owedBy.2.1 36 = .ok (.getfield 56, 3) := by decide +kernel
theorem dX8_owedBy_39 : decode mX8_owedBy.2.1 39 = .ok (.iload_n 2, 1) := by decide +kernel
theorem dX8_owedBy_40 : decode mX8_owedBy.2.1 40 = .ok (.aload_n 1, 1) := by decide +kernel
theorem dX8_owedBy_41 : decode mX8_owedBy.2.1 41 = .ok (.getfield 93, 3) := by decide +kernel
theorem dX8_owedBy_44 : decode mX8_owedBy.2.1 44 = .ok (.iconst 0, 1) := by decide +kernel
theorem dX8_owedBy_45 : decode mX8_owedBy.2.1 45 = .ok (.iaload, 1) := by decide +kernel
theorem dX8_owedBy_46 : decode mX8_owedBy.2.1 46 = .ok (.aload_n 1, 1) := by decide +kernel
theorem dX8_owedBy_47 : decode mX8_owedBy.2.1 47 = .ok (.getfield 93, 3) := by decide +kernel
theorem dX8_owedBy_50 : decode mX8_owedBy.2.1 50 = .ok (.iconst 1, 1) := by decide +kernel
theorem dX8_owedBy_51 : decode mX8_owedBy.2.1 51 = .ok (.iaload, 1) := by decide +kernel
theorem dX8_owedBy_52 : decode mX8_owedBy.2.1 52 = .ok (.invokevirtual 111, 3) := by decide +kernel
theorem dX8_owedBy_55 : decode mX8_owedBy.2.1 55 = .ok (.iconst 0, 1) := by decide +kernel
theorem dX8_owedBy_56 : decode mX8_owedBy.2.1 56 = .ok (.sipush 999, 3) := by decide +kernel
theorem dX8_owedBy_59 : decode mX8_owedBy.2.1 59 = .ok (.invokestatic 115, 3) := by decide +kernel
theorem dX8_owedBy_62 : decode mX8_owedBy.2.1 62 = .ok (.iload_n 2, 1) := by decide +kernel
theorem dX8_owedBy_63 : decode mX8_owedBy.2.1 63 = .ok (.invokevirtual 107, 3) := by decide +kernel
theorem dX8_owedBy_66 : decode mX8_owedBy.2.1 66 = .ok (.ireturn, 1) := by decide +kernel
theorem dX8_shameOf_0 : decode mX8_shameOf.2.1 0 = .ok (.aload_n 0, 1) := by decide +kernel
theorem dX8_shameOf_1 : decode mX8_shameOf.2.1 1 = .ok (.aload_n 0, 1) := by decide +kernel
theorem dX8_shameOf_2 : decode mX8_shameOf.2.1 2 = .ok (.getfield 45, 3) := by decide +kernel
theorem dX8_shameOf_5 : decode mX8_shameOf.2.1 5 = .ok (.iconst 1, 1) := by decide +kernel
theorem dX8_shameOf_6 : decode mX8_shameOf.2.1 6 = .ok (.iaload, 1) := by decide +kernel
theorem dX8_shameOf_7 : decode mX8_shameOf.2.1 7 = .ok (.invokevirtual 103, 3) := by decide +kernel
theorem dX8_shameOf_10 : decode mX8_shameOf.2.1 10 = .ok (.astore_n 3, 1) := by decide +kernel
theorem dX8_shameOf_11 : decode mX8_shameOf.2.1 11 = .ok (.aload_n 3, 1) := by decide +kernel
theorem dX8_shameOf_12 : decode mX8_shameOf.2.1 12 = .ok (.ifnonnull 12, 3) := by decide +kernel
theorem dX8_shameOf_15 : decode mX8_shameOf.2.1 15 = .ok (.iload_n 1, 1) := by decide +kernel
theorem dX8_shameOf_16 : decode mX8_shameOf.2.1 16 = .ok (.iload_n 2, 1) := by decide +kernel
theorem dX8_shameOf_17 : decode mX8_shameOf.2.1 17 = .ok (.imul, 1) := by decide +kernel
theorem dX8_shameOf_18 : decode mX8_shameOf.2.1 18 = .ok (.bipush 10, 2) := by decide +kernel
theorem dX8_shameOf_20 : decode mX8_shameOf.2.1 20 = .ok (.idiv, 1) := by decide +kernel
theorem dX8_shameOf_21 : decode mX8_shameOf.2.1 21 = .ok (.goto 21, 3) := by decide +kernel
theorem dX8_shameOf_24 : decode mX8_shameOf.2.1 24 = .ok (.aload_n 3, 1) := by decide +kernel
theorem dX8_shameOf_25 : decode mX8_shameOf.2.1 25 = .ok (.aload_n 0, 1) := by decide +kernel
theorem dX8_shameOf_26 : decode mX8_shameOf.2.1 26 = .ok (.getfield 56, 3) := by decide +kernel
theorem dX8_shameOf_29 : decode mX8_shameOf.2.1 29 = .ok (.iload_n 2, 1) := by decide +kernel
theorem dX8_shameOf_30 : decode mX8_shameOf.2.1 30 = .ok (.iload_n 1, 1) := by decide +kernel
theorem dX8_shameOf_31 : decode mX8_shameOf.2.1 31 = .ok (.iconst 0, 1) := by decide +kernel
theorem dX8_shameOf_32 : decode mX8_shameOf.2.1 32 = .ok (.invokevirtual 111, 3) := by decide +kernel
theorem dX8_shameOf_35 : decode mX8_shameOf.2.1 35 = .ok (.iconst 0, 1) := by decide +kernel
theorem dX8_shameOf_36 : decode mX8_shameOf.2.1 36 = .ok (.sipush 9999, 3) := by decide +kernel
theorem dX8_shameOf_39 : decode mX8_shameOf.2.1 39 = .ok (.invokestatic 115, 3) := by decide +kernel
theorem dX8_shameOf_42 : decode mX8_shameOf.2.1 42 = .ok (.ireturn, 1) := by decide +kernel
theorem dX8_forgetsOn_0 : decode mX8_forgetsOn.2.1 0 = .ok (.aload_n 0, 1) := by decide +kernel
theorem dX8_forgetsOn_1 : decode mX8_forgetsOn.2.1 1 = .ok (.aload_n 0, 1) := by decide +kernel
theorem dX8_forgetsOn_2 : decode mX8_forgetsOn.2.1 2 = .ok (.getfield 45, 3) := by decide +kernel
theorem dX8_forgetsOn_5 : decode mX8_forgetsOn.2.1 5 = .ok (.iconst 2, 1) := by decide +kernel
theorem dX8_forgetsOn_6 : decode mX8_forgetsOn.2.1 6 = .ok (.iaload, 1) := by decide +kernel
theorem dX8_forgetsOn_7 : decode mX8_forgetsOn.2.1 7 = .ok (.invokevirtual 103, 3) := by decide +kernel
theorem dX8_forgetsOn_10 : decode mX8_forgetsOn.2.1 10 = .ok (.astore 4, 2) := by decide +kernel
theorem dX8_forgetsOn_12 : decode mX8_forgetsOn.2.1 12 = .ok (.aload 4, 2) := by decide +kernel
theorem dX8_forgetsOn_14 : decode mX8_forgetsOn.2.1 14 = .ok (.ifnull 22, 3) := by decide +kernel
theorem dX8_forgetsOn_17 : decode mX8_forgetsOn.2.1 17 = .ok (.aload 4, 2) := by decide +kernel
theorem dX8_forgetsOn_19 : decode mX8_forgetsOn.2.1 19 = .ok (.aload_n 0, 1) := by decide +kernel
theorem dX8_forgetsOn_20 : decode mX8_forgetsOn.2.1 20 = .ok (.getfield 56, 3) := by decide +kernel
theorem dX8_forgetsOn_23 : decode mX8_forgetsOn.2.1 23 = .ok (.iload_n 1, 1) := by decide +kernel
theorem dX8_forgetsOn_24 : decode mX8_forgetsOn.2.1 24 = .ok (.iload_n 2, 1) := by decide +kernel
theorem dX8_forgetsOn_25 : decode mX8_forgetsOn.2.1 25 = .ok (.iconst 0, 1) := by decide +kernel
theorem dX8_forgetsOn_26 : decode mX8_forgetsOn.2.1 26 = .ok (.invokevirtual 111, 3) := by decide +kernel
theorem dX8_forgetsOn_29 : decode mX8_forgetsOn.2.1 29 = .ok (.iconst 0, 1) := by decide +kernel
theorem dX8_forgetsOn_30 : decode mX8_forgetsOn.2.1 30 = .ok (.bipush 100, 2) := by decide +kernel
theorem dX8_forgetsOn_32 : decode mX8_forgetsOn.2.1 32 = .ok (.invokestatic 115, 3) := by decide +kernel
theorem dX8_forgetsOn_35 : decode mX8_forgetsOn.2.1 35 = .ok (.ireturn, 1) := by decide +kernel
theorem dX8_forgetsOn_36 : decode mX8_forgetsOn.2.1 36 = .ok (.iload_n 3, 1) := by decide +kernel
theorem dX8_forgetsOn_37 : decode mX8_forgetsOn.2.1 37 = .ok (.ldc 29, 2) := by decide +kernel
theorem dX8_forgetsOn_39 : decode mX8_forgetsOn.2.1 39 = .ok (.if_icmp .eq 14, 3) := by decide +kernel
theorem dX8_forgetsOn_42 : decode mX8_forgetsOn.2.1 42 = .ok (.iload_n 1, 1) := by decide +kernel
theorem dX8_forgetsOn_43 : decode mX8_forgetsOn.2.1 43 = .ok (.iload_n 3, 1) := by decide +kernel
theorem dX8_forgetsOn_44 : decode mX8_forgetsOn.2.1 44 = .ok (.if_icmp .lt 9, 3) := by decide +kernel
theorem dX8_forgetsOn_47 : decode mX8_forgetsOn.2.1 47 = .ok (.iload_n 2, 1) := by decide +kernel
theorem dX8_forgetsOn_48 : decode mX8_forgetsOn.2.1 48 = .ok (.iconst 2, 1) := by decide +kernel
theorem dX8_forgetsOn_49 : decode mX8_forgetsOn.2.1 49 = .ok (.idiv, 1) := by decide +kernel
theorem dX8_forgetsOn_50 : decode mX8_forgetsOn.2.1 50 = .ok (.goto 4, 3) := by decide +kernel
theorem dX8_forgetsOn_53 : decode mX8_forgetsOn.2.1 53 = .ok (.iload_n 2, 1) := by decide +kernel
theorem dX8_forgetsOn_54 : decode mX8_forgetsOn.2.1 54 = .ok (.ireturn, 1) := by decide +kernel
theorem dX9_init_0 : decode mX9_init.2.1 0 = .ok (.aload_n 0, 1) := by decide +kernel
theorem dX9_init_1 : decode mX9_init.2.1 1 = .ok (.invokespecial 1, 3) := by decide +kernel
theorem dX9_init_4 : decode mX9_init.2.1 4 = .ok (.aload_n 0, 1) := by decide +kernel
theorem dX9_init_5 : decode mX9_init.2.1 5 = .ok (.new 7, 3) := by decide +kernel
theorem dX9_init_8 : decode mX9_init.2.1 8 = .ok (.dup, 1) := by decide +kernel
theorem dX9_init_9 : decode mX9_init.2.1 9 = .ok (.invokespecial 9, 3) := by decide +kernel
theorem dX9_init_12 : decode mX9_init.2.1 12 = .ok (.putfield 10, 3) := by decide +kernel
theorem dX9_init_15 : decode mX9_init.2.1 15 = .ok (.aload_n 0, 1) := by decide +kernel
theorem dX9_init_16 : decode mX9_init.2.1 16 = .ok (.new 7, 3) := by decide +kernel
theorem dX9_init_19 : decode mX9_init.2.1 19 = .ok (.dup, 1) := by decide +kernel
theorem dX9_init_20 : decode mX9_init.2.1 20 = .ok (.invokespecial 9, 3) := by decide +kernel
theorem dX9_init_23 : decode mX9_init.2.1 23 = .ok (.putfield 16, 3) := by decide +kernel
theorem dX9_init_26 : decode mX9_init.2.1 26 = .ok (.aload_n 0, 1) := by decide +kernel
theorem dX9_init_27 : decode mX9_init.2.1 27 = .ok (.iconst 0, 1) := by decide +kernel
theorem dX9_init_28 : decode mX9_init.2.1 28 = .ok (.putfield 19, 3) := by decide +kernel
theorem dX9_init_31 : decode mX9_init.2.1 31 = .ok (.aload_n 0, 1) := by decide +kernel
theorem dX9_init_32 : decode mX9_init.2.1 32 = .ok (.new 23, 3) := by decide +kernel
theorem dX9_init_35 : decode mX9_init.2.1 35 = .ok (.dup, 1) := by decide +kernel
theorem dX9_init_36 : decode mX9_init.2.1 36 = .ok (.invokespecial 25, 3) := by decide +kernel
theorem dX9_init_39 : decode mX9_init.2.1 39 = .ok (.putfield 26, 3) := by decide +kernel
theorem dX9_init_42 : decode mX9_init.2.1 42 = .ok (.aload_n 0, 1) := by decide +kernel
theorem dX9_init_43 : decode mX9_init.2.1 43 = .ok (.new 30, 3) := by decide +kernel
theorem dX9_init_46 : decode mX9_init.2.1 46 = .ok (.dup, 1) := by decide +kernel
theorem dX9_init_47 : decode mX9_init.2.1 47 = .ok (.invokespecial 32, 3) := by decide +kernel
theorem dX9_init_50 : decode mX9_init.2.1 50 = .ok (.putfield 33, 3) := by decide +kernel
theorem dX9_init_53 : decode mX9_init.2.1 53 = .ok (.aload_n 0, 1) := by decide +kernel
theorem dX9_init_54 : decode mX9_init.2.1 54 = .ok (.new 37, 3) := by decide +kernel
theorem dX9_init_57 : decode mX9_init.2.1 57 = .ok (.dup, 1) := by decide +kernel
theorem dX9_init_58 : decode mX9_init.2.1 58 = .ok (.invokespecial 39, 3) := by decide +kernel
theorem dX9_init_61 : decode mX9_init.2.1 61 = .ok (.putfield 40, 3) := by decide +kernel
theorem dX9_init_64 : decode mX9_init.2.1 64 = .ok (.aload_n 0, 1) := by decide +kernel
theorem dX9_init_65 : decode mX9_init.2.1 65 = .ok (.new 44, 3) := by decide +kernel
theorem dX9_init_68 : decode mX9_init.2.1 68 = .ok (.dup, 1) := by decide +kernel
theorem dX9_init_69 : decode mX9_init.2.1 69 = .ok (.invokespecial 46, 3) := by decide +kernel
theorem dX9_init_72 : decode mX9_init.2.1 72 = .ok (.putfield 47, 3) := by decide +kernel
theorem dX9_init_75 : decode mX9_init.2.1 75 = .ok (.aload_n 0, 1) := by decide +kernel
theorem dX9_init_76 : decode mX9_init.2.1 76 = .ok (.iconst 4, 1) := by decide +kernel
theorem dX9_init_77 : decode mX9_init.2.1 77 = .ok (.anewarray 51, 3) := by decide +kernel
theorem dX9_init_80 : decode mX9_init.2.1 80 = .ok (.putfield 53, 3) := by decide +kernel
theorem dX9_init_83 : decode mX9_init.2.1 83 = .ok (.aload_n 0, 1) := by decide +kernel
theorem dX9_init_84 : decode mX9_init.2.1 84 = .ok (.iconst 5, 1) := by decide +kernel
theorem dX9_init_85 : decode mX9_init.2.1 85 = .ok (.anewarray 57, 3) := by decide +kernel
theorem dX9_init_88 : decode mX9_init.2.1 88 = .ok (.putfield 59, 3) := by decide +kernel
theorem dX9_init_91 : decode mX9_init.2.1 91 = .ok (.aload_n 0, 1) := by decide +kernel
theorem dX9_init_92 : decode mX9_init.2.1 92 = .ok (.bipush 60, 2) := by decide +kernel
theorem dX9_init_94 : decode mX9_init.2.1 94 = .ok (.newarray .int, 2) := by decide +kernel
theorem dX9_init_96 : decode mX9_init.2.1 96 = .ok (.putfield 63, 3) := by decide +kernel
theorem dX9_init_99 : decode mX9_init.2.1 99 = .ok (.aload_n 0, 1) := by decide +kernel
theorem dX9_init_100 : decode mX9_init.2.1 100 = .ok (.iconst 0, 1) := by decide +kernel
theorem dX9_init_101 : decode mX9_init.2.1 101 = .ok (.putfield 67, 3) := by decide +kernel
theorem dX9_init_104 : decode mX9_init.2.1 104 = .ok (.iconst 0, 1) := by decide +kernel
theorem dX9_init_105 : decode mX9_init.2.1 105 = .ok (.istore_n 1, 1) := by decide +kernel
theorem dX9_init_106 : decode mX9_init.2.1 106 = .ok (.iload_n 1, 1) := by decide +kernel
theorem dX9_init_107 : decode mX9_init.2.1 107 = .ok (.iconst 4, 1) := by decide +kernel
theorem dX9_init_108 : decode mX9_init.2.1 108 = .ok (.if_icmp .ge 22, 3) := by decide +kernel
theorem dX9_init_111 : decode mX9_init.2.1 111 = .ok (.aload_n 0, 1) := by decide +kernel
theorem dX9_init_112 : decode mX9_init.2.1 112 = .ok (.getfield 53, 3) := by decide +kernel
theorem dX9_init_115 : decode mX9_init.2.1 115 = .ok (.iload_n 1, 1) := by decide +kernel
theorem dX9_init_116 : decode mX9_init.2.1 116 = .ok (.new 51, 3) := by decide +kernel
theorem dX9_init_119 : decode mX9_init.2.1 119 = .ok (.dup, 1) := by decide +kernel
theorem dX9_init_120 : decode mX9_init.2.1 120 = .ok (.invokespecial 71, 3) := by decide +kernel
theorem dX9_init_123 : decode mX9_init.2.1 123 = .ok (.aastore, 1) := by decide +kernel
theorem dX9_init_124 : decode mX9_init.2.1 124 = .ok (.iinc 1 1, 3) := by decide +kernel
theorem dX9_init_127 : decode mX9_init.2.1 127 = .ok (.goto (-21), 3) := by decide +kernel
theorem dX9_init_130 : decode mX9_init.2.1 130 = .ok (.iconst 0, 1) := by decide +kernel
theorem dX9_init_131 : decode mX9_init.2.1 131 = .ok (.istore_n 1, 1) := by decide +kernel
theorem dX9_init_132 : decode mX9_init.2.1 132 = .ok (.iload_n 1, 1) := by decide +kernel
theorem dX9_init_133 : decode mX9_init.2.1 133 = .ok (.iconst 5, 1) := by decide +kernel
theorem dX9_init_134 : decode mX9_init.2.1 134 = .ok (.if_icmp .ge 22, 3) := by decide +kernel
theorem dX9_init_137 : decode mX9_init.2.1 137 = .ok (.aload_n 0, 1) := by decide +kernel
theorem dX9_init_138 : decode mX9_init.2.1 138 = .ok (.getfield 59, 3) := by decide +kernel
theorem dX9_init_141 : decode mX9_init.2.1 141 = .ok (.iload_n 1, 1) := by decide +kernel
theorem dX9_init_142 : decode mX9_init.2.1 142 = .ok (.new 57, 3) := by decide +kernel
theorem dX9_init_145 : decode mX9_init.2.1 145 = .ok (.dup, 1) := by decide +kernel
theorem dX9_init_146 : decode mX9_init.2.1 146 = .ok (.invokespecial 72, 3) := by decide +kernel
theorem dX9_init_149 : decode mX9_init.2.1 149 = .ok (.aastore, 1) := by decide +kernel
theorem dX9_init_150 : decode mX9_init.2.1 150 = .ok (.iinc 1 1, 3) := by decide +kernel
theorem dX9_init_153 : decode mX9_init.2.1 153 = .ok (.goto (-21), 3) := by decide +kernel
theorem dX9_init_156 : decode mX9_init.2.1 156 = .ok (.return_, 1) := by decide +kernel
theorem dX9_sort_0 : decode mX9_sort.2.1 0 = .ok (.iconst 0, 1) := by decide +kernel
theorem dX9_sort_1 : decode mX9_sort.2.1 1 = .ok (.iload_n 1, 1) := by decide +kernel
theorem dX9_sort_2 : decode mX9_sort.2.1 2 = .ok (.invokestatic 73, 3) := by decide +kernel
theorem dX9_sort_5 : decode mX9_sort.2.1 5 = .ok (.ifCond .eq 19, 3) := by decide +kernel
theorem dX9_sort_8 : decode mX9_sort.2.1 8 = .ok (.iconst 1, 1) := by decide +kernel
theorem dX9_sort_9 : decode mX9_sort.2.1 9 = .ok (.iload_n 2, 1) := by decide +kernel
theorem dX9_sort_10 : decode mX9_sort.2.1 10 = .ok (.invokestatic 73, 3) := by decide +kernel
theorem dX9_sort_13 : decode mX9_sort.2.1 13 = .ok (.ifCond .eq 11, 3) := by decide +kernel
theorem dX9_sort_16 : decode mX9_sort.2.1 16 = .ok (.iconst 2, 1) := by decide +kernel
theorem dX9_sort_17 : decode mX9_sort.2.1 17 = .ok (.iload_n 3, 1) := by decide +kernel
theorem dX9_sort_18 : decode mX9_sort.2.1 18 = .ok (.invokestatic 73, 3) := by decide +kernel
theorem dX9_sort_21 : decode mX9_sort.2.1 21 = .ok (.ifCond .ne 6, 3) := by decide +kernel
theorem dX9_sort_24 : decode mX9_sort.2.1 24 = .ok (.ldc 77, 2) := by decide +kernel
theorem dX9_sort_26 : decode mX9_sort.2.1 26 = .ok (.ireturn, 1) := by decide +kernel
theorem dX9_sort_27 : decode mX9_sort.2.1 27 = .ok (.aload_n 0, 1) := by decide +kernel
theorem dX9_sort_28 : decode mX9_sort.2.1 28 = .ok (.getfield 10, 3) := by decide +kernel
theorem dX9_sort_31 : decode mX9_sort.2.1 31 = .ok (.iload_n 1, 1) := by decide +kernel
theorem dX9_sort_32 : decode mX9_sort.2.1 32 = .ok (.iload_n 2, 1) := by decide +kernel
theorem dX9_sort_33 : decode mX9_sort.2.1 33 = .ok (.iload_n 3, 1) := by decide +kernel
theorem dX9_sort_34 : decode mX9_sort.2.1 34 = .ok (.invokevirtual 78, 3) := by decide +kernel
theorem dX9_sort_37 : decode mX9_sort.2.1 37 = .ok (.ireturn, 1) := by decide +kernel
theorem dX9_sortTold_0 : decode mX9_sortTold.2.1 0 = .ok (.aload_n 0, 1) := by decide +kernel
theorem dX9_sortTold_1 : decode mX9_sortTold.2.1 1 = .ok (.getfield 10, 3) := by decide +kernel
theorem dX9_sortTold_4 : decode mX9_sortTold.2.1 4 = .ok (.iload_n 1, 1) := by decide +kernel
theorem dX9_sortTold_5 : decode mX9_sortTold.2.1 5 = .ok (.invokevirtual 82, 3) := by decide +kernel
theorem dX9_sortTold_8 : decode mX9_sortTold.2.1 8 = .ok (.ifCond .eq 13, 3) := by decide +kernel
theorem dX9_sortTold_11 : decode mX9_sortTold.2.1 11 = .ok (.iload_n 2, 1) := by decide +kernel
theorem dX9_sortTold_12 : decode mX9_sortTold.2.1 12 = .ok (.iconst 0, 1) := by decide +kernel
theorem dX9_sortTold_13 : decode mX9_sortTold.2.1 13 = .ok (.bipush 6, 2) := by decide +kernel
theorem dX9_sortTold_15 : decode mX9_sortTold.2.1 15 = .ok (.invokestatic 86, 3) := by decide +kernel
theorem dX9_sortTold_18 : decode mX9_sortTold.2.1 18 = .ok (.ifCond .ne 6, 3) := by decide +kernel
theorem dX9_sortTold_21 : decode mX9_sortTold.2.1 21 = .ok (.ldc 77, 2) := by decide +kernel
theorem dX9_sortTold_23 : decode mX9_sortTold.2.1 23 = .ok (.ireturn, 1) := by decide +kernel
theorem dX9_sortTold_24 : decode mX9_sortTold.2.1 24 = .ok (.aload_n 0, 1) := by decide +kernel
theorem dX9_sortTold_25 : decode mX9_sortTold.2.1 25 = .ok (.getfield 10, 3) := by decide +kernel
theorem dX9_sortTold_28 : decode mX9_sortTold.2.1 28 = .ok (.getfield 90, 3) := by decide +kernel
theorem dX9_sortTold_31 : decode mX9_sortTold.2.1 31 = .ok (.iload_n 1, 1) := by decide +kernel
theorem dX9_sortTold_32 : decode mX9_sortTold.2.1 32 = .ok (.aaload, 1) := by decide +kernel
theorem dX9_sortTold_33 : decode mX9_sortTold.2.1 33 = .ok (.iload_n 2, 1) := by decide +kernel
theorem dX9_sortTold_34 : decode mX9_sortTold.2.1 34 = .ok (.iaload, 1) := by decide +kernel
theorem dX9_sortTold_35 : decode mX9_sortTold.2.1 35 = .ok (.ireturn, 1) := by decide +kernel
theorem dX9_change_0 : decode mX9_change.2.1 0 = .ok (.aload_n 0, 1) := by decide +kernel
theorem dX9_change_1 : decode mX9_change.2.1 1 = .ok (.getfield 10, 3) := by decide +kernel
theorem dX9_change_4 : decode mX9_change.2.1 4 = .ok (.iload_n 1, 1) := by decide +kernel
theorem dX9_change_5 : decode mX9_change.2.1 5 = .ok (.invokevirtual 82, 3) := by decide +kernel
theorem dX9_change_8 : decode mX9_change.2.1 8 = .ok (.ifCond .eq 11, 3) := by decide +kernel
theorem dX9_change_11 : decode mX9_change.2.1 11 = .ok (.iload_n 2, 1) := by decide +kernel
theorem dX9_change_12 : decode mX9_change.2.1 12 = .ok (.iload_n 3, 1) := by decide +kernel
theorem dX9_change_13 : decode mX9_change.2.1 13 = .ok (.invokestatic 73, 3) := by decide +kernel
theorem dX9_change_16 : decode mX9_change.2.1 16 = .ok (.ifCond .ne 6, 3) := by decide +kernel
theorem dX9_change_19 : decode mX9_change.2.1 19 = .ok (.ldc 77, 2) := by decide +kernel
theorem dX9_change_21 : decode mX9_change.2.1 21 = .ok (.ireturn, 1) := by decide +kernel
theorem dX9_change_22 : decode mX9_change.2.1 22 = .ok (.aload_n 0, 1) := by decide +kernel
theorem dX9_change_23 : decode mX9_change.2.1 23 = .ok (.getfield 10, 3) := by decide +kernel
theorem dX9_change_26 : decode mX9_change.2.1 26 = .ok (.getfield 90, 3) := by decide +kernel
theorem dX9_change_29 : decode mX9_change.2.1 29 = .ok (.iload_n 1, 1) := by decide +kernel
theorem dX9_change_30 : decode mX9_change.2.1 30 = .ok (.aaload, 1) := by decide +kernel
theorem dX9_change_31 : decode mX9_change.2.1 31 = .ok (.iload_n 2, 1) := by decide +kernel
theorem dX9_change_32 : decode mX9_change.2.1 32 = .ok (.iaload, 1) := by decide +kernel
theorem dX9_change_33 : decode mX9_change.2.1 33 = .ok (.istore 4, 2) := by decide +kernel
theorem dX9_change_35 : decode mX9_change.2.1 35 = .ok (.aload_n 0, 1) := by decide +kernel
theorem dX9_change_36 : decode mX9_change.2.1 36 = .ok (.getfield 10, 3) := by decide +kernel
theorem dX9_change_39 : decode mX9_change.2.1 39 = .ok (.getfield 90, 3) := by decide +kernel
theorem dX9_change_42 : decode mX9_change.2.1 42 = .ok (.iload_n 1, 1) := by decide +kernel
theorem dX9_change_43 : decode mX9_change.2.1 43 = .ok (.aaload, 1) := by decide +kernel
theorem dX9_change_44 : decode mX9_change.2.1 44 = .ok (.iload_n 2, 1) := by decide +kernel
theorem dX9_change_45 : decode mX9_change.2.1 45 = .ok (.iload_n 3, 1) := by decide +kernel
theorem dX9_change_46 : decode mX9_change.2.1 46 = .ok (.iastore, 1) := by decide +kernel
theorem dX9_change_47 : decode mX9_change.2.1 47 = .ok (.iload 4, 2) := by decide +kernel
theorem dX9_change_49 : decode mX9_change.2.1 49 = .ok (.ireturn, 1) := by decide +kernel
theorem dX9_deal_0 : decode mX9_deal.2.1 0 = .ok (.iload_n 1, 1) := by decide +kernel
theorem dX9_deal_1 : decode mX9_deal.2.1 1 = .ok (.iconst 1, 1) := by decide +kernel
theorem dX9_deal_2 : decode mX9_deal.2.1 2 = .ok (.bipush 6, 2) := by decide +kernel
theorem dX9_deal_4 : decode mX9_deal.2.1 4 = .ok (.invokestatic 86, 3) := by decide +kernel
theorem dX9_deal_7 : decode mX9_deal.2.1 7 = .ok (.ifCond .ne 6, 3) := by decide +kernel
theorem dX9_deal_10 : decode mX9_deal.2.1 10 = .ok (.ldc 77, 2) := by decide +kernel
theorem dX9_deal_12 : decode mX9_deal.2.1 12 = .ok (.ireturn, 1) := by decide +kernel
theorem dX9_deal_13 : decode mX9_deal.2.1 13 = .ok (.iload_n 1, 1) := by decide +kernel
theorem dX9_deal_14 : decode mX9_deal.2.1 14 = .ok (.bipush 6, 2) := by decide +kernel
theorem dX9_deal_16 : decode mX9_deal.2.1 16 = .ok (.aload_n 0, 1) := by decide +kernel
theorem dX9_deal_17 : decode mX9_deal.2.1 17 = .ok (.getfield 10, 3) := by decide +kernel
theorem dX9_deal_20 : decode mX9_deal.2.1 20 = .ok (.getfield 94, 3) := by decide +kernel
theorem dX9_deal_23 : decode mX9_deal.2.1 23 = .ok (.isub, 1) := by decide +kernel
theorem dX9_deal_24 : decode mX9_deal.2.1 24 = .ok (.invokestatic 97, 3) := by decide +kernel
theorem dX9_deal_27 : decode mX9_deal.2.1 27 = .ok (.istore_n 2, 1) := by decide +kernel
theorem dX9_deal_28 : decode mX9_deal.2.1 28 = .ok (.iconst 0, 1) := by decide +kernel
theorem dX9_deal_29 : decode mX9_deal.2.1 29 = .ok (.istore_n 3, 1) := by decide +kernel
theorem dX9_deal_30 : decode mX9_deal.2.1 30 = .ok (.iload_n 3, 1) := by decide +kernel
theorem dX9_deal_31 : decode mX9_deal.2.1 31 = .ok (.iload_n 2, 1) := by decide +kernel
theorem dX9_deal_32 : decode mX9_deal.2.1 32 = .ok (.if_icmp .ge 16, 3) := by decide +kernel
theorem dX9_deal_35 : decode mX9_deal.2.1 35 = .ok (.aload_n 0, 1) := by decide +kernel
theorem dX9_deal_36 : decode mX9_deal.2.1 36 = .ok (.getfield 10, 3) := by decide +kernel
theorem dX9_deal_39 : decode mX9_deal.2.1 39 = .ok (.invokevirtual 103, 3) := by decide +kernel
theorem dX9_deal_42 : decode mX9_deal.2.1 42 = .ok (.iinc 3 1, 3) := by decide +kernel
theorem dX9_deal_45 : decode mX9_deal.2.1 45 = .ok (.goto (-15), 3) := by decide +kernel
theorem dX9_deal_48 : decode mX9_deal.2.1 48 = .ok (.iload_n 2, 1) := by decide +kernel
theorem dX9_deal_49 : decode mX9_deal.2.1 49 = .ok (.ireturn, 1) := by decide +kernel
theorem dX9_rule_0 : decode mX9_rule.2.1 0 = .ok (.iload_n 1, 1) := by decide +kernel
theorem dX9_rule_1 : decode mX9_rule.2.1 1 = .ok (.invokestatic 106, 3) := by decide +kernel
theorem dX9_rule_4 : decode mX9_rule.2.1 4 = .ok (.ifCond .eq 28, 3) := by decide +kernel
theorem dX9_rule_7 : decode mX9_rule.2.1 7 = .ok (.iconst 0, 1) := by decide +kernel
theorem dX9_rule_8 : decode mX9_rule.2.1 8 = .ok (.iload_n 2, 1) := by decide +kernel
theorem dX9_rule_9 : decode mX9_rule.2.1 9 = .ok (.invokestatic 109, 3) := by decide +kernel
theorem dX9_rule_12 : decode mX9_rule.2.1 12 = .ok (.ifCond .eq 20, 3) := by decide +kernel
theorem dX9_rule_15 : decode mX9_rule.2.1 15 = .ok (.iconst 1, 1) := by decide +kernel
theorem dX9_rule_16 : decode mX9_rule.2.1 16 = .ok (.iload_n 3, 1) := by decide +kernel
theorem dX9_rule_17 : decode mX9_rule.2.1 17 = .ok (.invokestatic 109, 3) := by decide +kernel
theorem dX9_rule_20 : decode mX9_rule.2.1 20 = .ok (.ifCond .eq 12, 3) := by decide +kernel
theorem dX9_rule_23 : decode mX9_rule.2.1 23 = .ok (.iconst 2, 1) := by decide +kernel
theorem dX9_rule_24 : decode mX9_rule.2.1 24 = .ok (.iload 4, 2) := by decide +kernel
theorem dX9_rule_26 : decode mX9_rule.2.1 26 = .ok (.invokestatic 109, 3) := by decide +kernel
theorem dX9_rule_29 : decode mX9_rule.2.1 29 = .ok (.ifCond .ne 6, 3) := by decide +kernel
theorem dX9_rule_32 : decode mX9_rule.2.1 32 = .ok (.ldc 77, 2) := by decide +kernel
theorem dX9_rule_34 : decode mX9_rule.2.1 34 = .ok (.ireturn, 1) := by decide +kernel
theorem dX9_rule_35 : decode mX9_rule.2.1 35 = .ok (.aload_n 0, 1) := by decide +kernel
theorem dX9_rule_36 : decode mX9_rule.2.1 36 = .ok (.getfield 10, 3) := by decide +kernel
theorem dX9_rule_39 : decode mX9_rule.2.1 39 = .ok (.iload_n 1, 1) := by decide +kernel
theorem dX9_rule_40 : decode mX9_rule.2.1 40 = .ok (.iload_n 2, 1) := by decide +kernel
theorem dX9_rule_41 : decode mX9_rule.2.1 41 = .ok (.iload_n 3, 1) := by decide +kernel
theorem dX9_rule_42 : decode mX9_rule.2.1 42 = .ok (.iload 4, 2) := by decide +kernel
theorem dX9_rule_44 : decode mX9_rule.2.1 44 = .ok (.invokevirtual 112, 3) := by decide +kernel
theorem dX9_rule_47 : decode mX9_rule.2.1 47 = .ok (.ireturn, 1) := by decide +kernel
theorem dX9_told_0 : decode mX9_told.2.1 0 = .ok (.aload_n 0, 1) := by decide +kernel
theorem dX9_told_1 : decode mX9_told.2.1 1 = .ok (.getfield 10, 3) := by decide +kernel
theorem dX9_told_4 : decode mX9_told.2.1 4 = .ok (.iload_n 1, 1) := by decide +kernel
theorem dX9_told_5 : decode mX9_told.2.1 5 = .ok (.invokevirtual 116, 3) := by decide +kernel
theorem dX9_told_8 : decode mX9_told.2.1 8 = .ok (.astore_n 3, 1) := by decide +kernel
theorem dX9_told_9 : decode mX9_told.2.1 9 = .ok (.aload_n 3, 1) := by decide +kernel
theorem dX9_told_10 : decode mX9_told.2.1 10 = .ok (.ifnull 12, 3) := by decide +kernel
theorem dX9_told_13 : decode mX9_told.2.1 13 = .ok (.iload_n 2, 1) := by decide +kernel
theorem dX9_told_14 : decode mX9_told.2.1 14 = .ok (.iconst 0, 1) := by decide +kernel
theorem dX9_told_15 : decode mX9_told.2.1 15 = .ok (.iconst 4, 1) := by decide +kernel
theorem dX9_told_16 : decode mX9_told.2.1 16 = .ok (.invokestatic 86, 3) := by decide +kernel
theorem dX9_told_19 : decode mX9_told.2.1 19 = .ok (.ifCond .ne 6, 3) := by decide +kernel
theorem dX9_told_22 : decode mX9_told.2.1 22 = .ok (.ldc 77, 2) := by decide +kernel
theorem dX9_told_24 : decode mX9_told.2.1 24 = .ok (.ireturn, 1) := by decide +kernel
theorem dX9_told_25 : decode mX9_told.2.1 25 = .ok (.iload_n 2, 1) := by decide +kernel
theorem dX9_told_26 : decode mX9_told.2.1 26 = .ok (.ifCond .ne 8, 3) := by decide +kernel
theorem dX9_told_29 : decode mX9_told.2.1 29 = .ok (.aload_n 3, 1) := by decide +kernel
theorem dX9_told_30 : decode mX9_told.2.1 30 = .ok (.getfield 120, 3) := by decide +kernel
theorem dX9_told_33 : decode mX9_told.2.1 33 = .ok (.ireturn, 1) := by decide +kernel
theorem dX9_told_34 : decode mX9_told.2.1 34 = .ok (.iload_n 2, 1) := by decide +kernel
theorem dX9_told_35 : decode mX9_told.2.1 35 = .ok (.iconst 4, 1) := by decide +kernel
theorem dX9_told_36 : decode mX9_told.2.1 36 = .ok (.if_icmp .ne 10, 3) := by decide +kernel
theorem dX9_told_39 : decode mX9_told.2.1 39 = .ok (.aload_n 3, 1) := by decide +kernel
theorem dX9_told_40 : decode mX9_told.2.1 40 = .ok (.invokevirtual 123, 3) := by decide +kernel
theorem dX9_told_43 : decode mX9_told.2.1 43 = .ok (.goto 11, 3) := by decide +kernel
theorem dX9_told_46 : decode mX9_told.2.1 46 = .ok (.aload_n 3, 1) := by decide +kernel
theorem dX9_told_47 : decode mX9_told.2.1 47 = .ok (.getfield 127, 3) := by decide +kernel
theorem dX9_told_50 : decode mX9_told.2.1 50 = .ok (.iload_n 2, 1) := by decide +kernel
theorem dX9_told_51 : decode mX9_told.2.1 51 = .ok (.iconst 1, 1) := by decide +kernel
theorem dX9_told_52 : decode mX9_told.2.1 52 = .ok (.isub, 1) := by decide +kernel
theorem dX9_told_53 : decode mX9_told.2.1 53 = .ok (.iaload, 1) := by decide +kernel
theorem dX9_told_54 : decode mX9_told.2.1 54 = .ok (.ireturn, 1) := by decide +kernel
theorem dX9_as_0 : decode mX9_as.2.1 0 = .ok (.aload_n 0, 1) := by decide +kernel
theorem dX9_as_1 : decode mX9_as.2.1 1 = .ok (.getfield 10, 3) := by decide +kernel
theorem dX9_as_4 : decode mX9_as.2.1 4 = .ok (.iload_n 1, 1) := by decide +kernel
theorem dX9_as_5 : decode mX9_as.2.1 5 = .ok (.invokevirtual 116, 3) := by decide +kernel
theorem dX9_as_8 : decode mX9_as.2.1 8 = .ok (.astore_n 3, 1) := by decide +kernel
theorem dX9_as_9 : decode mX9_as.2.1 9 = .ok (.aload_n 3, 1) := by decide +kernel
theorem dX9_as_10 : decode mX9_as.2.1 10 = .ok (.ifnull 10, 3) := by decide +kernel
theorem dX9_as_13 : decode mX9_as.2.1 13 = .ok (.iload_n 2, 1) := by decide +kernel
theorem dX9_as_14 : decode mX9_as.2.1 14 = .ok (.invokestatic 106, 3) := by decide +kernel
theorem dX9_as_17 : decode mX9_as.2.1 17 = .ok (.ifCond .ne 6, 3) := by decide +kernel
theorem dX9_as_20 : decode mX9_as.2.1 20 = .ok (.ldc 77, 2) := by decide +kernel
theorem dX9_as_22 : decode mX9_as.2.1 22 = .ok (.ireturn, 1) := by decide +kernel
theorem dX9_as_23 : decode mX9_as.2.1 23 = .ok (.aload_n 3, 1) := by decide +kernel
theorem dX9_as_24 : decode mX9_as.2.1 24 = .ok (.getfield 120, 3) := by decide +kernel
theorem dX9_as_27 : decode mX9_as.2.1 27 = .ok (.iload_n 2, 1) := by decide +kernel
theorem dX9_as_28 : decode mX9_as.2.1 28 = .ok (.invokestatic 130, 3) := by decide +kernel
theorem dX9_as_31 : decode mX9_as.2.1 31 = .ok (.ifCond .eq 12, 3) := by decide +kernel
theorem dX9_as_34 : decode mX9_as.2.1 34 = .ok (.aload_n 3, 1) := by decide +kernel
theorem dX9_as_35 : decode mX9_as.2.1 35 = .ok (.getfield 127, 3) := by decide +kernel
theorem dX9_as_38 : decode mX9_as.2.1 38 = .ok (.iconst 0, 1) := by decide +kernel
theorem dX9_as_39 : decode mX9_as.2.1 39 = .ok (.iaload, 1) := by decide +kernel
theorem dX9_as_40 : decode mX9_as.2.1 40 = .ok (.goto 5, 3) := by decide +kernel
theorem dX9_as_43 : decode mX9_as.2.1 43 = .ok (.ldc 133, 2) := by decide +kernel
theorem dX9_as_45 : decode mX9_as.2.1 45 = .ok (.ireturn, 1) := by decide +kernel
theorem dX9_turns_0 : decode mX9_turns.2.1 0 = .ok (.aload_n 0, 1) := by decide +kernel
theorem dX9_turns_1 : decode mX9_turns.2.1 1 = .ok (.getfield 10, 3) := by decide +kernel
theorem dX9_turns_4 : decode mX9_turns.2.1 4 = .ok (.iload_n 1, 1) := by decide +kernel
theorem dX9_turns_5 : decode mX9_turns.2.1 5 = .ok (.invokevirtual 116, 3) := by decide +kernel
theorem dX9_turns_8 : decode mX9_turns.2.1 8 = .ok (.astore_n 3, 1) := by decide +kernel
theorem dX9_turns_9 : decode mX9_turns.2.1 9 = .ok (.aload_n 3, 1) := by decide +kernel
theorem dX9_turns_10 : decode mX9_turns.2.1 10 = .ok (.ifnull 10, 3) := by decide +kernel
theorem dX9_turns_13 : decode mX9_turns.2.1 13 = .ok (.iload_n 2, 1) := by decide +kernel
theorem dX9_turns_14 : decode mX9_turns.2.1 14 = .ok (.invokestatic 106, 3) := by decide +kernel
theorem dX9_turns_17 : decode mX9_turns.2.1 17 = .ok (.ifCond .ne 6, 3) := by decide +kernel
theorem dX9_turns_20 : decode mX9_turns.2.1 20 = .ok (.ldc 77, 2) := by decide +kernel
theorem dX9_turns_22 : decode mX9_turns.2.1 22 = .ok (.ireturn, 1) := by decide +kernel
theorem dX9_turns_23 : decode mX9_turns.2.1 23 = .ok (.aload_n 3, 1) := by decide +kernel
theorem dX9_turns_24 : decode mX9_turns.2.1 24 = .ok (.getfield 120, 3) := by decide +kernel
theorem dX9_turns_27 : decode mX9_turns.2.1 27 = .ok (.istore 4, 2) := by decide +kernel
theorem dX9_turns_29 : decode mX9_turns.2.1 29 = .ok (.aload_n 3, 1) := by decide +kernel
theorem dX9_turns_30 : decode mX9_turns.2.1 30 = .ok (.iload_n 2, 1) := by decide +kernel
theorem dX9_turns_31 : decode mX9_turns.2.1 31 = .ok (.putfield 120, 3) := by decide +kernel
theorem dX9_turns_34 : decode mX9_turns.2.1 34 = .ok (.iload 4, 2) := by decide +kernel
theorem dX9_turns_36 : decode mX9_turns.2.1 36 = .ok (.ireturn, 1) := by decide +kernel
theorem dX9_set_0 : decode mX9_set.2.1 0 = .ok (.aload_n 0, 1) := by decide +kernel
theorem dX9_set_1 : decode mX9_set.2.1 1 = .ok (.getfield 10, 3) := by decide +kernel
theorem dX9_set_4 : decode mX9_set.2.1 4 = .ok (.iload_n 1, 1) := by decide +kernel
theorem dX9_set_5 : decode mX9_set.2.1 5 = .ok (.invokevirtual 116, 3) := by decide +kernel
theorem dX9_set_8 : decode mX9_set.2.1 8 = .ok (.astore 4, 2) := by decide +kernel
theorem dX9_set_10 : decode mX9_set.2.1 10 = .ok (.aload 4, 2) := by decide +kernel
theorem dX9_set_12 : decode mX9_set.2.1 12 = .ok (.ifnull 11, 3) := by decide +kernel
theorem dX9_set_15 : decode mX9_set.2.1 15 = .ok (.iload_n 2, 1) := by decide +kernel
theorem dX9_set_16 : decode mX9_set.2.1 16 = .ok (.iload_n 3, 1) := by decide +kernel
theorem dX9_set_17 : decode mX9_set.2.1 17 = .ok (.invokestatic 109, 3) := by decide +kernel
theorem dX9_set_20 : decode mX9_set.2.1 20 = .ok (.ifCond .ne 6, 3) := by decide +kernel
theorem dX9_set_23 : decode mX9_set.2.1 23 = .ok (.ldc 77, 2) := by decide +kernel
theorem dX9_set_25 : decode mX9_set.2.1 25 = .ok (.ireturn, 1) := by decide +kernel
theorem dX9_set_26 : decode mX9_set.2.1 26 = .ok (.aload 4, 2) := by decide +kernel
theorem dX9_set_28 : decode mX9_set.2.1 28 = .ok (.getfield 127, 3) := by decide +kernel
theorem dX9_set_31 : decode mX9_set.2.1 31 = .ok (.iload_n 2, 1) := by decide +kernel
theorem dX9_set_32 : decode mX9_set.2.1 32 = .ok (.iaload, 1) := by decide +kernel
theorem dX9_set_33 : decode mX9_set.2.1 33 = .ok (.istore 5, 2) := by decide +kernel
theorem dX9_set_35 : decode mX9_set.2.1 35 = .ok (.aload 4, 2) := by decide +kernel
theorem dX9_set_37 : decode mX9_set.2.1 37 = .ok (.getfield 127, 3) := by decide +kernel
theorem dX9_set_40 : decode mX9_set.2.1 40 = .ok (.iload_n 2, 1) := by decide +kernel
theorem dX9_set_41 : decode mX9_set.2.1 41 = .ok (.iload_n 3, 1) := by decide +kernel
theorem dX9_set_42 : decode mX9_set.2.1 42 = .ok (.iastore, 1) := by decide +kernel
theorem dX9_set_43 : decode mX9_set.2.1 43 = .ok (.iload 5, 2) := by decide +kernel
theorem dX9_set_45 : decode mX9_set.2.1 45 = .ok (.ireturn, 1) := by decide +kernel
theorem dX9_owes_0 : decode mX9_owes.2.1 0 = .ok (.aload_n 0, 1) := by decide +kernel
theorem dX9_owes_1 : decode mX9_owes.2.1 1 = .ok (.getfield 10, 3) := by decide +kernel
theorem dX9_owes_4 : decode mX9_owes.2.1 4 = .ok (.iload_n 1, 1) := by decide +kernel
theorem dX9_owes_5 : decode mX9_owes.2.1 5 = .ok (.invokevirtual 116, 3) := by decide +kernel
theorem dX9_owes_8 : decode mX9_owes.2.1 8 = .ok (.astore_n 3, 1) := by decide +kernel
theorem dX9_owes_9 : decode mX9_owes.2.1 9 = .ok (.aload_n 3, 1) := by decide +kernel
theorem dX9_owes_10 : decode mX9_owes.2.1 10 = .ok (.ifnull 10, 3) := by decide +kernel
theorem dX9_owes_13 : decode mX9_owes.2.1 13 = .ok (.iload_n 2, 1) := by decide +kernel
theorem dX9_owes_14 : decode mX9_owes.2.1 14 = .ok (.invokestatic 134, 3) := by decide +kernel
theorem dX9_owes_17 : decode mX9_owes.2.1 17 = .ok (.ifCond .ne 6, 3) := by decide +kernel
theorem dX9_owes_20 : decode mX9_owes.2.1 20 = .ok (.ldc 77, 2) := by decide +kernel
theorem dX9_owes_22 : decode mX9_owes.2.1 22 = .ok (.ireturn, 1) := by decide +kernel
theorem dX9_owes_23 : decode mX9_owes.2.1 23 = .ok (.aload_n 0, 1) := by decide +kernel
theorem dX9_owes_24 : decode mX9_owes.2.1 24 = .ok (.getfield 10, 3) := by decide +kernel
theorem dX9_owes_27 : decode mX9_owes.2.1 27 = .ok (.aload_n 3, 1) := by decide +kernel
theorem dX9_owes_28 : decode mX9_owes.2.1 28 = .ok (.iload_n 2, 1) := by decide +kernel
theorem dX9_owes_29 : decode mX9_owes.2.1 29 = .ok (.invokevirtual 137, 3) := by decide +kernel
theorem dX9_owes_32 : decode mX9_owes.2.1 32 = .ok (.ireturn, 1) := by decide +kernel
theorem dX9_force_0 : decode mX9_force.2.1 0 = .ok (.iload_n 1, 1) := by decide +kernel
theorem dX9_force_1 : decode mX9_force.2.1 1 = .ok (.ldc 141, 2) := by decide +kernel
theorem dX9_force_3 : decode mX9_force.2.1 3 = .ok (.if_icmp .eq 17, 3) := by decide +kernel
theorem dX9_force_6 : decode mX9_force.2.1 6 = .ok (.aload_n 0, 1) := by decide +kernel
theorem dX9_force_7 : decode mX9_force.2.1 7 = .ok (.getfield 10, 3) := by decide +kernel
theorem dX9_force_10 : decode mX9_force.2.1 10 = .ok (.iload_n 1, 1) := by decide +kernel
theorem dX9_force_11 : decode mX9_force.2.1 11 = .ok (.invokevirtual 116, 3) := by decide +kernel
theorem dX9_force_14 : decode mX9_force.2.1 14 = .ok (.ifnonnull 6, 3) := by decide +kernel
theorem dX9_force_17 : decode mX9_force.2.1 17 = .ok (.ldc 77, 2) := by decide +kernel
theorem dX9_force_19 : decode mX9_force.2.1 19 = .ok (.ireturn, 1) := by decide +kernel
theorem dX9_force_20 : decode mX9_force.2.1 20 = .ok (.aload_n 0, 1) := by decide +kernel
theorem dX9_force_21 : decode mX9_force.2.1 21 = .ok (.getfield 10, 3) := by decide +kernel
theorem dX9_force_24 : decode mX9_force.2.1 24 = .ok (.getfield 142, 3) := by decide +kernel
theorem dX9_force_27 : decode mX9_force.2.1 27 = .ok (.istore_n 2, 1) := by decide +kernel
theorem dX9_force_28 : decode mX9_force.2.1 28 = .ok (.aload_n 0, 1) := by decide +kernel
theorem dX9_force_29 : decode mX9_force.2.1 29 = .ok (.getfield 10, 3) := by decide +kernel
theorem dX9_force_32 : decode mX9_force.2.1 32 = .ok (.iload_n 1, 1) := by decide +kernel
theorem dX9_force_33 : decode mX9_force.2.1 33 = .ok (.putfield 142, 3) := by decide +kernel
theorem dX9_force_36 : decode mX9_force.2.1 36 = .ok (.iload_n 2, 1) := by decide +kernel
theorem dX9_force_37 : decode mX9_force.2.1 37 = .ok (.ireturn, 1) := by decide +kernel
theorem dX9_card_0 : decode mX9_card.2.1 0 = .ok (.iload_n 1, 1) := by decide +kernel
theorem dX9_card_1 : decode mX9_card.2.1 1 = .ok (.ldc 141, 2) := by decide +kernel
theorem dX9_card_3 : decode mX9_card.2.1 3 = .ok (.if_icmp .eq 13, 3) := by decide +kernel
theorem dX9_card_6 : decode mX9_card.2.1 6 = .ok (.iload_n 1, 1) := by decide +kernel
theorem dX9_card_7 : decode mX9_card.2.1 7 = .ok (.invokestatic 134, 3) := by decide +kernel
theorem dX9_card_10 : decode mX9_card.2.1 10 = .ok (.ifCond .ne 6, 3) := by decide +kernel
theorem dX9_card_13 : decode mX9_card.2.1 13 = .ok (.ldc 77, 2) := by decide +kernel
theorem dX9_card_15 : decode mX9_card.2.1 15 = .ok (.ireturn, 1) := by decide +kernel
theorem dX9_card_16 : decode mX9_card.2.1 16 = .ok (.aload_n 0, 1) := by decide +kernel
theorem dX9_card_17 : decode mX9_card.2.1 17 = .ok (.getfield 10, 3) := by decide +kernel
theorem dX9_card_20 : decode mX9_card.2.1 20 = .ok (.getfield 145, 3) := by decide +kernel
theorem dX9_card_23 : decode mX9_card.2.1 23 = .ok (.istore_n 2, 1) := by decide +kernel
theorem dX9_card_24 : decode mX9_card.2.1 24 = .ok (.aload_n 0, 1) := by decide +kernel
theorem dX9_card_25 : decode mX9_card.2.1 25 = .ok (.getfield 10, 3) := by decide +kernel
theorem dX9_card_28 : decode mX9_card.2.1 28 = .ok (.iload_n 1, 1) := by decide +kernel
theorem dX9_card_29 : decode mX9_card.2.1 29 = .ok (.putfield 145, 3) := by decide +kernel
theorem dX9_card_32 : decode mX9_card.2.1 32 = .ok (.iload_n 2, 1) := by decide +kernel
theorem dX9_card_33 : decode mX9_card.2.1 33 = .ok (.ireturn, 1) := by decide +kernel
theorem dX9_reader_0 : decode mX9_reader.2.1 0 = .ok (.aload_n 0, 1) := by decide +kernel
theorem dX9_reader_1 : decode mX9_reader.2.1 1 = .ok (.getfield 10, 3) := by decide +kernel
theorem dX9_reader_4 : decode mX9_reader.2.1 4 = .ok (.iload_n 1, 1) := by decide +kernel
theorem dX9_reader_5 : decode mX9_reader.2.1 5 = .ok (.invokevirtual 82, 3) := by decide +kernel
theorem dX9_reader_8 : decode mX9_reader.2.1 8 = .ok (.ifCond .eq 20, 3) := by decide +kernel
theorem dX9_reader_11 : decode mX9_reader.2.1 11 = .ok (.iload_n 2, 1) := by decide +kernel
theorem dX9_reader_12 : decode mX9_reader.2.1 12 = .ok (.invokestatic 134, 3) := by decide +kernel
theorem dX9_reader_15 : decode mX9_reader.2.1 15 = .ok (.ifCond .eq 13, 3) := by decide +kernel
theorem dX9_reader_18 : decode mX9_reader.2.1 18 = .ok (.iload_n 3, 1) := by decide +kernel
theorem dX9_reader_19 : decode mX9_reader.2.1 19 = .ok (.iconst 0, 1) := by decide +kernel
theorem dX9_reader_20 : decode mX9_reader.2.1 20 = .ok (.bipush 6, 2) := by decide +kernel
theorem dX9_reader_22 : decode mX9_reader.2.1 22 = .ok (.invokestatic 86, 3) := by decide +kernel
theorem dX9_reader_25 : decode mX9_reader.2.1 25 = .ok (.ifCond .ne 6, 3) := by decide +kernel
theorem dX9_reader_28 : decode mX9_reader.2.1 28 = .ok (.ldc 77, 2) := by decide +kernel
theorem dX9_reader_30 : decode mX9_reader.2.1 30 = .ok (.ireturn, 1) := by decide +kernel
theorem dX9_reader_31 : decode mX9_reader.2.1 31 = .ok (.aload_n 0, 1) := by decide +kernel
theorem dX9_reader_32 : decode mX9_reader.2.1 32 = .ok (.getfield 26, 3) := by decide +kernel
theorem dX9_reader_35 : decode mX9_reader.2.1 35 = .ok (.aload_n 0, 1) := by decide +kernel
theorem dX9_reader_36 : decode mX9_reader.2.1 36 = .ok (.getfield 10, 3) := by decide +kernel
theorem dX9_reader_39 : decode mX9_reader.2.1 39 = .ok (.iload_n 1, 1) := by decide +kernel
theorem dX9_reader_40 : decode mX9_reader.2.1 40 = .ok (.invokevirtual 148, 3) := by decide +kernel
theorem dX9_reader_43 : decode mX9_reader.2.1 43 = .ok (.aload_n 0, 1) := by decide +kernel
theorem dX9_reader_44 : decode mX9_reader.2.1 44 = .ok (.getfield 26, 3) := by decide +kernel
theorem dX9_reader_47 : decode mX9_reader.2.1 47 = .ok (.iload_n 1, 1) := by decide +kernel
theorem dX9_reader_48 : decode mX9_reader.2.1 48 = .ok (.iload_n 2, 1) := by decide +kernel
theorem dX9_reader_49 : decode mX9_reader.2.1 49 = .ok (.iload_n 3, 1) := by decide +kernel
theorem dX9_reader_50 : decode mX9_reader.2.1 50 = .ok (.invokevirtual 152, 3) := by decide +kernel
theorem dX9_reader_53 : decode mX9_reader.2.1 53 = .ok (.ireturn, 1) := by decide +kernel
theorem dX9_first_0 : decode mX9_first.2.1 0 = .ok (.aload_n 0, 1) := by decide +kernel
theorem dX9_first_1 : decode mX9_first.2.1 1 = .ok (.getfield 10, 3) := by decide +kernel
theorem dX9_first_4 : decode mX9_first.2.1 4 = .ok (.iload_n 1, 1) := by decide +kernel
theorem dX9_first_5 : decode mX9_first.2.1 5 = .ok (.invokevirtual 82, 3) := by decide +kernel
theorem dX9_first_8 : decode mX9_first.2.1 8 = .ok (.ifCond .eq 12, 3) := by decide +kernel
theorem dX9_first_11 : decode mX9_first.2.1 11 = .ok (.iload_n 2, 1) := by decide +kernel
theorem dX9_first_12 : decode mX9_first.2.1 12 = .ok (.iconst 0, 1) := by decide +kernel
theorem dX9_first_13 : decode mX9_first.2.1 13 = .ok (.iconst 2, 1) := by decide +kernel
theorem dX9_first_14 : decode mX9_first.2.1 14 = .ok (.invokestatic 86, 3) := by decide +kernel
theorem dX9_first_17 : decode mX9_first.2.1 17 = .ok (.ifCond .ne 6, 3) := by decide +kernel
theorem dX9_first_20 : decode mX9_first.2.1 20 = .ok (.ldc 77, 2) := by decide +kernel
theorem dX9_first_22 : decode mX9_first.2.1 22 = .ok (.ireturn, 1) := by decide +kernel
theorem dX9_first_23 : decode mX9_first.2.1 23 = .ok (.aload_n 0, 1) := by decide +kernel
theorem dX9_first_24 : decode mX9_first.2.1 24 = .ok (.getfield 26, 3) := by decide +kernel
theorem dX9_first_27 : decode mX9_first.2.1 27 = .ok (.aload_n 0, 1) := by decide +kernel
theorem dX9_first_28 : decode mX9_first.2.1 28 = .ok (.getfield 10, 3) := by decide +kernel
theorem dX9_first_31 : decode mX9_first.2.1 31 = .ok (.iload_n 1, 1) := by decide +kernel
theorem dX9_first_32 : decode mX9_first.2.1 32 = .ok (.invokevirtual 148, 3) := by decide +kernel
theorem dX9_first_35 : decode mX9_first.2.1 35 = .ok (.aload_n 0, 1) := by decide +kernel
theorem dX9_first_36 : decode mX9_first.2.1 36 = .ok (.getfield 26, 3) := by decide +kernel
theorem dX9_first_39 : decode mX9_first.2.1 39 = .ok (.iload_n 2, 1) := by decide +kernel
theorem dX9_first_40 : decode mX9_first.2.1 40 = .ok (.aload_n 0, 1) := by decide +kernel
theorem dX9_first_41 : decode mX9_first.2.1 41 = .ok (.getfield 10, 3) := by decide +kernel
theorem dX9_first_44 : decode mX9_first.2.1 44 = .ok (.getfield 90, 3) := by decide +kernel
theorem dX9_first_47 : decode mX9_first.2.1 47 = .ok (.iload_n 1, 1) := by decide +kernel
theorem dX9_first_48 : decode mX9_first.2.1 48 = .ok (.aaload, 1) := by decide +kernel
theorem dX9_first_49 : decode mX9_first.2.1 49 = .ok (.iconst 4, 1) := by decide +kernel
theorem dX9_first_50 : decode mX9_first.2.1 50 = .ok (.iaload, 1) := by decide +kernel
theorem dX9_first_51 : decode mX9_first.2.1 51 = .ok (.invokevirtual 155, 3) := by decide +kernel
theorem dX9_first_54 : decode mX9_first.2.1 54 = .ok (.ireturn, 1) := by decide +kernel
theorem dX9_run_0 : decode mX9_run.2.1 0 = .ok (.aload_n 0, 1) := by decide +kernel
theorem dX9_run_1 : decode mX9_run.2.1 1 = .ok (.getfield 10, 3) := by decide +kernel
theorem dX9_run_4 : decode mX9_run.2.1 4 = .ok (.iload_n 1, 1) := by decide +kernel
theorem dX9_run_5 : decode mX9_run.2.1 5 = .ok (.invokevirtual 82, 3) := by decide +kernel
theorem dX9_run_8 : decode mX9_run.2.1 8 = .ok (.ifCond .ne 6, 3) := by decide +kernel
theorem dX9_run_11 : decode mX9_run.2.1 11 = .ok (.ldc 77, 2) := by decide +kernel
theorem dX9_run_13 : decode mX9_run.2.1 13 = .ok (.ireturn, 1) := by decide +kernel
theorem dX9_run_14 : decode mX9_run.2.1 14 = .ok (.aload_n 0, 1) := by decide +kernel
theorem dX9_run_15 : decode mX9_run.2.1 15 = .ok (.getfield 26, 3) := by decide +kernel
theorem dX9_run_18 : decode mX9_run.2.1 18 = .ok (.aload_n 0, 1) := by decide +kernel
theorem dX9_run_19 : decode mX9_run.2.1 19 = .ok (.getfield 10, 3) := by decide +kernel
theorem dX9_run_22 : decode mX9_run.2.1 22 = .ok (.iload_n 1, 1) := by decide +kernel
theorem dX9_run_23 : decode mX9_run.2.1 23 = .ok (.invokevirtual 148, 3) := by decide +kernel
theorem dX9_run_26 : decode mX9_run.2.1 26 = .ok (.aload_n 0, 1) := by decide +kernel
theorem dX9_run_27 : decode mX9_run.2.1 27 = .ok (.getfield 26, 3) := by decide +kernel
theorem dX9_run_30 : decode mX9_run.2.1 30 = .ok (.iload_n 1, 1) := by decide +kernel
theorem dX9_run_31 : decode mX9_run.2.1 31 = .ok (.aload_n 0, 1) := by decide +kernel
theorem dX9_run_32 : decode mX9_run.2.1 32 = .ok (.getfield 10, 3) := by decide +kernel
theorem dX9_run_35 : decode mX9_run.2.1 35 = .ok (.getfield 158, 3) := by decide +kernel
theorem dX9_run_38 : decode mX9_run.2.1 38 = .ok (.invokevirtual 161, 3) := by decide +kernel
theorem dX9_run_41 : decode mX9_run.2.1 41 = .ok (.ireturn, 1) := by decide +kernel
theorem dX9_year_0 : decode mX9_year.2.1 0 = .ok (.aload_n 0, 1) := by decide +kernel
theorem dX9_year_1 : decode mX9_year.2.1 1 = .ok (.getfield 26, 3) := by decide +kernel
theorem dX9_year_4 : decode mX9_year.2.1 4 = .ok (.aload_n 0, 1) := by decide +kernel
theorem dX9_year_5 : decode mX9_year.2.1 5 = .ok (.getfield 10, 3) := by decide +kernel
theorem dX9_year_8 : decode mX9_year.2.1 8 = .ok (.invokevirtual 165, 3) := by decide +kernel
theorem dX9_year_11 : decode mX9_year.2.1 11 = .ok (.iconst 0, 1) := by decide +kernel
theorem dX9_year_12 : decode mX9_year.2.1 12 = .ok (.istore_n 1, 1) := by decide +kernel
theorem dX9_year_13 : decode mX9_year.2.1 13 = .ok (.iconst 0, 1) := by decide +kernel
theorem dX9_year_14 : decode mX9_year.2.1 14 = .ok (.istore_n 2, 1) := by decide +kernel
theorem dX9_year_15 : decode mX9_year.2.1 15 = .ok (.iload_n 2, 1) := by decide +kernel
theorem dX9_year_16 : decode mX9_year.2.1 16 = .ok (.aload_n 0, 1) := by decide +kernel
theorem dX9_year_17 : decode mX9_year.2.1 17 = .ok (.getfield 10, 3) := by decide +kernel
theorem dX9_year_20 : decode mX9_year.2.1 20 = .ok (.getfield 94, 3) := by decide +kernel
theorem dX9_year_23 : decode mX9_year.2.1 23 = .ok (.if_icmp .ge 71, 3) := by decide +kernel
theorem dX9_year_26 : decode mX9_year.2.1 26 = .ok (.aload_n 0, 1) := by decide +kernel
theorem dX9_year_27 : decode mX9_year.2.1 27 = .ok (.getfield 26, 3) := by decide +kernel
theorem dX9_year_30 : decode mX9_year.2.1 30 = .ok (.aload_n 0, 1) := by decide +kernel
theorem dX9_year_31 : decode mX9_year.2.1 31 = .ok (.getfield 10, 3) := by decide +kernel
theorem dX9_year_34 : decode mX9_year.2.1 34 = .ok (.iload_n 2, 1) := by decide +kernel
theorem dX9_year_35 : decode mX9_year.2.1 35 = .ok (.invokevirtual 169, 3) := by decide +kernel
theorem dX9_year_38 : decode mX9_year.2.1 38 = .ok (.aload_n 0, 1) := by decide +kernel
theorem dX9_year_39 : decode mX9_year.2.1 39 = .ok (.getfield 10, 3) := by decide +kernel
theorem dX9_year_42 : decode mX9_year.2.1 42 = .ok (.getfield 90, 3) := by decide +kernel
theorem dX9_year_45 : decode mX9_year.2.1 45 = .ok (.iload_n 2, 1) := by decide +kernel
theorem dX9_year_46 : decode mX9_year.2.1 46 = .ok (.aaload, 1) := by decide +kernel
theorem dX9_year_47 : decode mX9_year.2.1 47 = .ok (.iconst 0, 1) := by decide +kernel
theorem dX9_year_48 : decode mX9_year.2.1 48 = .ok (.iaload, 1) := by decide +kernel
theorem dX9_year_49 : decode mX9_year.2.1 49 = .ok (.istore_n 3, 1) := by decide +kernel
theorem dX9_year_50 : decode mX9_year.2.1 50 = .ok (.iconst 0, 1) := by decide +kernel
theorem dX9_year_51 : decode mX9_year.2.1 51 = .ok (.istore 4, 2) := by decide +kernel
theorem dX9_year_53 : decode mX9_year.2.1 53 = .ok (.iload 4, 2) := by decide +kernel
theorem dX9_year_55 : decode mX9_year.2.1 55 = .ok (.iload_n 3, 1) := by decide +kernel
theorem dX9_year_56 : decode mX9_year.2.1 56 = .ok (.if_icmp .ge 32, 3) := by decide +kernel
theorem dX9_year_59 : decode mX9_year.2.1 59 = .ok (.aload_n 0, 1) := by decide +kernel
theorem dX9_year_60 : decode mX9_year.2.1 60 = .ok (.getfield 26, 3) := by decide +kernel
theorem dX9_year_63 : decode mX9_year.2.1 63 = .ok (.iload_n 2, 1) := by decide +kernel
theorem dX9_year_64 : decode mX9_year.2.1 64 = .ok (.aload_n 0, 1) := by decide +kernel
theorem dX9_year_65 : decode mX9_year.2.1 65 = .ok (.getfield 10, 3) := by decide +kernel
theorem dX9_year_68 : decode mX9_year.2.1 68 = .ok (.getfield 158, 3) := by decide +kernel
theorem dX9_year_71 : decode mX9_year.2.1 71 = .ok (.invokevirtual 161, 3) := by decide +kernel
theorem dX9_year_74 : decode mX9_year.2.1 74 = .ok (.ldc 141, 2) := by decide +kernel
theorem dX9_year_76 : decode mX9_year.2.1 76 = .ok (.if_icmp .eq 6, 3) := by decide +kernel
theorem dX9_year_79 : decode mX9_year.2.1 79 = .ok (.iinc 1 1, 3) := by decide +kernel
theorem dX9_year_82 : decode mX9_year.2.1 82 = .ok (.iinc 4 1, 3) := by decide +kernel
theorem dX9_year_85 : decode mX9_year.2.1 85 = .ok (.goto (-32), 3) := by decide +kernel
theorem dX9_year_88 : decode mX9_year.2.1 88 = .ok (.iinc 2 1, 3) := by decide +kernel
theorem dX9_year_91 : decode mX9_year.2.1 91 = .ok (.goto (-76), 3) := by decide +kernel
theorem dX9_year_94 : decode mX9_year.2.1 94 = .ok (.iload_n 1, 1) := by decide +kernel
theorem dX9_year_95 : decode mX9_year.2.1 95 = .ok (.ireturn, 1) := by decide +kernel
theorem dX9_seed_0 : decode mX9_seed.2.1 0 = .ok (.aload_n 0, 1) := by decide +kernel
theorem dX9_seed_1 : decode mX9_seed.2.1 1 = .ok (.getfield 10, 3) := by decide +kernel
theorem dX9_seed_4 : decode mX9_seed.2.1 4 = .ok (.getfield 158, 3) := by decide +kernel
theorem dX9_seed_7 : decode mX9_seed.2.1 7 = .ok (.getfield 172, 3) := by decide +kernel
theorem dX9_seed_10 : decode mX9_seed.2.1 10 = .ok (.istore_n 2, 1) := by decide +kernel
theorem dX9_seed_11 : decode mX9_seed.2.1 11 = .ok (.aload_n 0, 1) := by decide +kernel
theorem dX9_seed_12 : decode mX9_seed.2.1 12 = .ok (.getfield 10, 3) := by decide +kernel
theorem dX9_seed_15 : decode mX9_seed.2.1 15 = .ok (.getfield 158, 3) := by decide +kernel
theorem dX9_seed_18 : decode mX9_seed.2.1 18 = .ok (.iload_n 1, 1) := by decide +kernel
theorem dX9_seed_19 : decode mX9_seed.2.1 19 = .ok (.putfield 172, 3) := by decide +kernel
theorem dX9_seed_22 : decode mX9_seed.2.1 22 = .ok (.iload_n 2, 1) := by decide +kernel
theorem dX9_seed_23 : decode mX9_seed.2.1 23 = .ok (.ireturn, 1) := by decide +kernel
theorem dX9_library_0 : decode mX9_library.2.1 0 = .ok (.iload_n 1, 1) := by decide +kernel
theorem dX9_library_1 : decode mX9_library.2.1 1 = .ok (.iconst 0, 1) := by decide +kernel
theorem dX9_library_2 : decode mX9_library.2.1 2 = .ok (.iconst 3, 1) := by decide +kernel
theorem dX9_library_3 : decode mX9_library.2.1 3 = .ok (.invokestatic 86, 3) := by decide +kernel
theorem dX9_library_6 : decode mX9_library.2.1 6 = .ok (.ifCond .ne 7, 3) := by decide +kernel
theorem dX9_library_9 : decode mX9_library.2.1 9 = .ok (.ldc2_w 175, 3) := by decide +kernel
theorem dX9_library_12 : decode mX9_library.2.1 12 = .ok (.lreturn, 1) := by decide +kernel
theorem dX9_library_13 : decode mX9_library.2.1 13 = .ok (.aload_n 0, 1) := by decide +kernel
theorem dX9_library_14 : decode mX9_library.2.1 14 = .ok (.getfield 26, 3) := by decide +kernel
theorem dX9_library_17 : decode mX9_library.2.1 17 = .ok (.aload_n 0, 1) := by decide +kernel
theorem dX9_library_18 : decode mX9_library.2.1 18 = .ok (.getfield 10, 3) := by decide +kernel
theorem dX9_library_21 : decode mX9_library.2.1 21 = .ok (.invokevirtual 165, 3) := by decide +kernel
theorem dX9_library_24 : decode mX9_library.2.1 24 = .ok (.aload_n 0, 1) := by decide +kernel
theorem dX9_library_25 : decode mX9_library.2.1 25 = .ok (.getfield 26, 3) := by decide +kernel
theorem dX9_library_28 : decode mX9_library.2.1 28 = .ok (.aload_n 0, 1) := by decide +kernel
theorem dX9_library_29 : decode mX9_library.2.1 29 = .ok (.getfield 10, 3) := by decide +kernel
theorem dX9_library_32 : decode mX9_library.2.1 32 = .ok (.aload_n 0, 1) := by decide +kernel
theorem dX9_library_33 : decode mX9_library.2.1 33 = .ok (.getfield 10, 3) := by decide +kernel
theorem dX9_library_36 : decode mX9_library.2.1 36 = .ok (.getfield 145, 3) := by decide +kernel
theorem dX9_library_39 : decode mX9_library.2.1 39 = .ok (.invokevirtual 177, 3) := by decide +kernel
theorem dX9_library_42 : decode mX9_library.2.1 42 = .ok (.iload_n 1, 1) := by decide +kernel
theorem dX9_library_43 : decode mX9_library.2.1 43 = .ok (.ifCond .ne 11, 3) := by decide +kernel
theorem dX9_library_46 : decode mX9_library.2.1 46 = .ok (.aload_n 0, 1) := by decide +kernel
theorem dX9_library_47 : decode mX9_library.2.1 47 = .ok (.getfield 26, 3) := by decide +kernel
theorem dX9_library_50 : decode mX9_library.2.1 50 = .ok (.getfield 180, 3) := by decide +kernel
theorem dX9_library_53 : decode mX9_library.2.1 53 = .ok (.lreturn, 1) := by decide +kernel
theorem dX9_library_54 : decode mX9_library.2.1 54 = .ok (.iload_n 1, 1) := by decide +kernel
theorem dX9_library_55 : decode mX9_library.2.1 55 = .ok (.iconst 1, 1) := by decide +kernel
theorem dX9_library_56 : decode mX9_library.2.1 56 = .ok (.if_icmp .ne 11, 3) := by decide +kernel
theorem dX9_library_59 : decode mX9_library.2.1 59 = .ok (.aload_n 0, 1) := by decide +kernel
theorem dX9_library_60 : decode mX9_library.2.1 60 = .ok (.getfield 26, 3) := by decide +kernel
theorem dX9_library_63 : decode mX9_library.2.1 63 = .ok (.getfield 184, 3) := by decide +kernel
theorem dX9_library_66 : decode mX9_library.2.1 66 = .ok (.lreturn, 1) := by decide +kernel
theorem dX9_library_67 : decode mX9_library.2.1 67 = .ok (.iload_n 1, 1) := by decide +kernel
theorem dX9_library_68 : decode mX9_library.2.1 68 = .ok (.iconst 2, 1) := by decide +kernel
theorem dX9_library_69 : decode mX9_library.2.1 69 = .ok (.if_icmp .ne 13, 3) := by decide +kernel
theorem dX9_library_72 : decode mX9_library.2.1 72 = .ok (.aload_n 0, 1) := by decide +kernel
theorem dX9_library_73 : decode mX9_library.2.1 73 = .ok (.getfield 26, 3) := by decide +kernel
theorem dX9_library_76 : decode mX9_library.2.1 76 = .ok (.getfield 187, 3) := by decide +kernel
theorem dX9_library_79 : decode mX9_library.2.1 79 = .ok (.goto 10, 3) := by decide +kernel
theorem dX9_library_82 : decode mX9_library.2.1 82 = .ok (.aload_n 0, 1) := by decide +kernel
theorem dX9_library_83 : decode mX9_library.2.1 83 = .ok (.getfield 26, 3) := by decide +kernel
theorem dX9_library_86 : decode mX9_library.2.1 86 = .ok (.getfield 190, 3) := by decide +kernel
theorem dX9_library_89 : decode mX9_library.2.1 89 = .ok (.lreturn, 1) := by decide +kernel
theorem dX9_find_0 : decode mX9_find.2.1 0 = .ok (.aload_n 0, 1) := by decide +kernel
theorem dX9_find_1 : decode mX9_find.2.1 1 = .ok (.getfield 10, 3) := by decide +kernel
theorem dX9_find_4 : decode mX9_find.2.1 4 = .ok (.invokevirtual 193, 3) := by decide +kernel
theorem dX9_find_7 : decode mX9_find.2.1 7 = .ok (.astore_n 1, 1) := by decide +kernel
theorem dX9_find_8 : decode mX9_find.2.1 8 = .ok (.aload_n 1, 1) := by decide +kernel
theorem dX9_find_9 : decode mX9_find.2.1 9 = .ok (.ifnonnull 6, 3) := by decide +kernel
theorem dX9_find_12 : decode mX9_find.2.1 12 = .ok (.ldc 197, 2) := by decide +kernel
theorem dX9_find_14 : decode mX9_find.2.1 14 = .ok (.ireturn, 1) := by decide +kernel
theorem dX9_find_15 : decode mX9_find.2.1 15 = .ok (.aload_n 0, 1) := by decide +kernel
theorem dX9_find_16 : decode mX9_find.2.1 16 = .ok (.getfield 33, 3) := by decide +kernel
theorem dX9_find_19 : decode mX9_find.2.1 19 = .ok (.aload_n 1, 1) := by decide +kernel
theorem dX9_find_20 : decode mX9_find.2.1 20 = .ok (.invokevirtual 198, 3) := by decide +kernel
theorem dX9_find_23 : decode mX9_find.2.1 23 = .ok (.aload_n 0, 1) := by decide +kernel
theorem dX9_find_24 : decode mX9_find.2.1 24 = .ok (.getfield 26, 3) := by decide +kernel
theorem dX9_find_27 : decode mX9_find.2.1 27 = .ok (.aload_n 0, 1) := by decide +kernel
theorem dX9_find_28 : decode mX9_find.2.1 28 = .ok (.getfield 10, 3) := by decide +kernel
theorem dX9_find_31 : decode mX9_find.2.1 31 = .ok (.aload_n 0, 1) := by decide +kernel
theorem dX9_find_32 : decode mX9_find.2.1 32 = .ok (.getfield 10, 3) := by decide +kernel
theorem dX9_find_35 : decode mX9_find.2.1 35 = .ok (.getfield 145, 3) := by decide +kernel
theorem dX9_find_38 : decode mX9_find.2.1 38 = .ok (.invokevirtual 202, 3) := by decide +kernel
theorem dX9_find_41 : decode mX9_find.2.1 41 = .ok (.ldc 141, 2) := by decide +kernel
theorem dX9_find_43 : decode mX9_find.2.1 43 = .ok (.istore_n 2, 1) := by decide +kernel
theorem dX9_find_44 : decode mX9_find.2.1 44 = .ok (.lconst 0, 1) := by decide +kernel
theorem dX9_find_45 : decode mX9_find.2.1 45 = .ok (.lstore_n 3, 1) := by decide +kernel
theorem dX9_find_46 : decode mX9_find.2.1 46 = .ok (.iconst 0, 1) := by decide +kernel
theorem dX9_find_47 : decode mX9_find.2.1 47 = .ok (.istore 5, 2) := by decide +kernel
theorem dX9_find_49 : decode mX9_find.2.1 49 = .ok (.iload 5, 2) := by decide +kernel
theorem dX9_find_51 : decode mX9_find.2.1 51 = .ok (.bipush 40, 2) := by decide +kernel
theorem dX9_find_53 : decode mX9_find.2.1 53 = .ok (.if_icmp .gt 82, 3) := by decide +kernel
theorem dX9_find_56 : decode mX9_find.2.1 56 = .ok (.aload_n 0, 1) := by decide +kernel
theorem dX9_find_57 : decode mX9_find.2.1 57 = .ok (.getfield 33, 3) := by decide +kernel
theorem dX9_find_60 : decode mX9_find.2.1 60 = .ok (.getfield 127, 3) := by decide +kernel
theorem dX9_find_63 : decode mX9_find.2.1 63 = .ok (.iconst 0, 1) := by decide +kernel
theorem dX9_find_64 : decode mX9_find.2.1 64 = .ok (.iload 5, 2) := by decide +kernel
theorem dX9_find_66 : decode mX9_find.2.1 66 = .ok (.iastore, 1) := by decide +kernel
theorem dX9_find_67 : decode mX9_find.2.1 67 = .ok (.aload_n 0, 1) := by decide +kernel
theorem dX9_find_68 : decode mX9_find.2.1 68 = .ok (.getfield 26, 3) := by decide +kernel
theorem dX9_find_71 : decode mX9_find.2.1 71 = .ok (.aload_n 0, 1) := by decide +kernel
theorem dX9_find_72 : decode mX9_find.2.1 72 = .ok (.getfield 10, 3) := by decide +kernel
theorem dX9_find_75 : decode mX9_find.2.1 75 = .ok (.aload_n 0, 1) := by decide +kernel
theorem dX9_find_76 : decode mX9_find.2.1 76 = .ok (.getfield 33, 3) := by decide +kernel
theorem dX9_find_79 : decode mX9_find.2.1 79 = .ok (.invokevirtual 205, 3) := by decide +kernel
theorem dX9_find_82 : decode mX9_find.2.1 82 = .ok (.aload_n 0, 1) := by decide +kernel
theorem dX9_find_83 : decode mX9_find.2.1 83 = .ok (.getfield 26, 3) := by decide +kernel
theorem dX9_find_86 : decode mX9_find.2.1 86 = .ok (.aload_n 0, 1) := by decide +kernel
theorem dX9_find_87 : decode mX9_find.2.1 87 = .ok (.getfield 10, 3) := by decide +kernel
theorem dX9_find_90 : decode mX9_find.2.1 90 = .ok (.aload_n 0, 1) := by decide +kernel
theorem dX9_find_91 : decode mX9_find.2.1 91 = .ok (.getfield 10, 3) := by decide +kernel
theorem dX9_find_94 : decode mX9_find.2.1 94 = .ok (.getfield 145, 3) := by decide +kernel
theorem dX9_find_97 : decode mX9_find.2.1 97 = .ok (.invokevirtual 177, 3) := by decide +kernel
theorem dX9_find_100 : decode mX9_find.2.1 100 = .ok (.iload_n 2, 1) := by decide +kernel
theorem dX9_find_101 : decode mX9_find.2.1 101 = .ok (.ldc 141, 2) := by decide +kernel
theorem dX9_find_103 : decode mX9_find.2.1 103 = .ok (.if_icmp .eq 15, 3) := by decide +kernel
theorem dX9_find_106 : decode mX9_find.2.1 106 = .ok (.aload_n 0, 1) := by decide +kernel
theorem dX9_find_107 : decode mX9_find.2.1 107 = .ok (.getfield 26, 3) := by decide +kernel
theorem dX9_find_110 : decode mX9_find.2.1 110 = .ok (.getfield 180, 3) := by decide +kernel
theorem dX9_find_113 : decode mX9_find.2.1 113 = .ok (.lload_n 3, 1) := by decide +kernel
theorem dX9_find_114 : decode mX9_find.2.1 114 = .ok (.lcmp, 1) := by decide +kernel
theorem dX9_find_115 : decode mX9_find.2.1 115 = .ok (.ifCond .ge 14, 3) := by decide +kernel
theorem dX9_find_118 : decode mX9_find.2.1 118 = .ok (.iload 5, 2) := by decide +kernel
theorem dX9_find_120 : decode mX9_find.2.1 120 = .ok (.istore_n 2, 1) := by decide +kernel
theorem dX9_find_121 : decode mX9_find.2.1 121 = .ok (.aload_n 0, 1) := by decide +kernel
theorem dX9_find_122 : decode mX9_find.2.1 122 = .ok (.getfield 26, 3) := by decide +kernel
theorem dX9_find_125 : decode mX9_find.2.1 125 = .ok (.getfield 180, 3) := by decide +kernel
theorem dX9_find_128 : decode mX9_find.2.1 128 = .ok (.lstore_n 3, 1) := by decide +kernel
theorem dX9_find_129 : decode mX9_find.2.1 129 = .ok (.iinc 5 1, 3) := by decide +kernel
theorem dX9_find_132 : decode mX9_find.2.1 132 = .ok (.goto (-83), 3) := by decide +kernel
theorem dX9_find_135 : decode mX9_find.2.1 135 = .ok (.iload_n 2, 1) := by decide +kernel
theorem dX9_find_136 : decode mX9_find.2.1 136 = .ok (.ireturn, 1) := by decide +kernel
theorem dX9_edge_0 : decode mX9_edge.2.1 0 = .ok (.aload_n 0, 1) := by decide +kernel
theorem dX9_edge_1 : decode mX9_edge.2.1 1 = .ok (.getfield 10, 3) := by decide +kernel
theorem dX9_edge_4 : decode mX9_edge.2.1 4 = .ok (.iload_n 1, 1) := by decide +kernel
theorem dX9_edge_5 : decode mX9_edge.2.1 5 = .ok (.invokevirtual 82, 3) := by decide +kernel
theorem dX9_edge_8 : decode mX9_edge.2.1 8 = .ok (.ifCond .ne 6, 3) := by decide +kernel
theorem dX9_edge_11 : decode mX9_edge.2.1 11 = .ok (.ldc 77, 2) := by decide +kernel
theorem dX9_edge_13 : decode mX9_edge.2.1 13 = .ok (.ireturn, 1) := by decide +kernel
theorem dX9_edge_14 : decode mX9_edge.2.1 14 = .ok (.aload_n 0, 1) := by decide +kernel
theorem dX9_edge_15 : decode mX9_edge.2.1 15 = .ok (.getfield 10, 3) := by decide +kernel
theorem dX9_edge_18 : decode mX9_edge.2.1 18 = .ok (.invokevirtual 193, 3) := by decide +kernel
theorem dX9_edge_21 : decode mX9_edge.2.1 21 = .ok (.astore_n 2, 1) := by decide +kernel
theorem dX9_edge_22 : decode mX9_edge.2.1 22 = .ok (.aload_n 2, 1) := by decide +kernel
theorem dX9_edge_23 : decode mX9_edge.2.1 23 = .ok (.ifnonnull 6, 3) := by decide +kernel
theorem dX9_edge_26 : decode mX9_edge.2.1 26 = .ok (.ldc 197, 2) := by decide +kernel
theorem dX9_edge_28 : decode mX9_edge.2.1 28 = .ok (.ireturn, 1) := by decide +kernel
theorem dX9_edge_29 : decode mX9_edge.2.1 29 = .ok (.aload_n 0, 1) := by decide +kernel
theorem dX9_edge_30 : decode mX9_edge.2.1 30 = .ok (.getfield 33, 3) := by decide +kernel
theorem dX9_edge_33 : decode mX9_edge.2.1 33 = .ok (.aload_n 2, 1) := by decide +kernel
theorem dX9_edge_34 : decode mX9_edge.2.1 34 = .ok (.invokevirtual 198, 3) := by decide +kernel
theorem dX9_edge_37 : decode mX9_edge.2.1 37 = .ok (.aload_n 0, 1) := by decide +kernel
theorem dX9_edge_38 : decode mX9_edge.2.1 38 = .ok (.getfield 26, 3) := by decide +kernel
theorem dX9_edge_41 : decode mX9_edge.2.1 41 = .ok (.aload_n 0, 1) := by decide +kernel
theorem dX9_edge_42 : decode mX9_edge.2.1 42 = .ok (.getfield 10, 3) := by decide +kernel
theorem dX9_edge_45 : decode mX9_edge.2.1 45 = .ok (.iload_n 1, 1) := by decide +kernel
theorem dX9_edge_46 : decode mX9_edge.2.1 46 = .ok (.aload_n 0, 1) := by decide +kernel
theorem dX9_edge_47 : decode mX9_edge.2.1 47 = .ok (.getfield 10, 3) := by decide +kernel
theorem dX9_edge_50 : decode mX9_edge.2.1 50 = .ok (.getfield 145, 3) := by decide +kernel
theorem dX9_edge_53 : decode mX9_edge.2.1 53 = .ok (.invokevirtual 209, 3) := by decide +kernel
theorem dX9_edge_56 : decode mX9_edge.2.1 56 = .ok (.aload_n 0, 1) := by decide +kernel
theorem dX9_edge_57 : decode mX9_edge.2.1 57 = .ok (.iload_n 1, 1) := by decide +kernel
theorem dX9_edge_58 : decode mX9_edge.2.1 58 = .ok (.iconst 0, 1) := by decide +kernel
theorem dX9_edge_59 : decode mX9_edge.2.1 59 = .ok (.invokevirtual 213, 3) := by decide +kernel
theorem dX9_edge_62 : decode mX9_edge.2.1 62 = .ok (.istore_n 3, 1) := by decide +kernel
theorem dX9_edge_63 : decode mX9_edge.2.1 63 = .ok (.iconst 1, 1) := by decide +kernel
theorem dX9_edge_64 : decode mX9_edge.2.1 64 = .ok (.istore 4, 2) := by decide +kernel
theorem dX9_edge_66 : decode mX9_edge.2.1 66 = .ok (.iload 4, 2) := by decide +kernel
theorem dX9_edge_68 : decode mX9_edge.2.1 68 = .ok (.bipush 99, 2) := by decide +kernel
theorem dX9_edge_70 : decode mX9_edge.2.1 70 = .ok (.if_icmp .gt 23, 3) := by decide +kernel
theorem dX9_edge_73 : decode mX9_edge.2.1 73 = .ok (.aload_n 0, 1) := by decide +kernel
theorem dX9_edge_74 : decode mX9_edge.2.1 74 = .ok (.iload_n 1, 1) := by decide +kernel
theorem dX9_edge_75 : decode mX9_edge.2.1 75 = .ok (.iload 4, 2) := by decide +kernel
theorem dX9_edge_77 : decode mX9_edge.2.1 77 = .ok (.invokevirtual 213, 3) := by decide +kernel
theorem dX9_edge_80 : decode mX9_edge.2.1 80 = .ok (.iload_n 3, 1) := by decide +kernel
theorem dX9_edge_81 : decode mX9_edge.2.1 81 = .ok (.if_icmp .le 6, 3) := by decide +kernel
theorem dX9_edge_84 : decode mX9_edge.2.1 84 = .ok (.iload 4, 2) := by decide +kernel
theorem dX9_edge_86 : decode mX9_edge.2.1 86 = .ok (.ireturn, 1) := by decide +kernel
theorem dX9_edge_87 : decode mX9_edge.2.1 87 = .ok (.iinc 4 1, 3) := by decide +kernel
theorem dX9_edge_90 : decode mX9_edge.2.1 90 = .ok (.goto (-24), 3) := by decide +kernel
theorem dX9_edge_93 : decode mX9_edge.2.1 93 = .ok (.ldc 141, 2) := by decide +kernel
theorem dX9_edge_95 : decode mX9_edge.2.1 95 = .ok (.ireturn, 1) := by decide +kernel
theorem dX9_write_0 : decode mX9_write.2.1 0 = .ok (.aload_n 0, 1) := by decide +kernel
theorem dX9_write_1 : decode mX9_write.2.1 1 = .ok (.getfield 26, 3) := by decide +kernel
theorem dX9_write_4 : decode mX9_write.2.1 4 = .ok (.aload_n 0, 1) := by decide +kernel
theorem dX9_write_5 : decode mX9_write.2.1 5 = .ok (.getfield 10, 3) := by decide +kernel
theorem dX9_write_8 : decode mX9_write.2.1 8 = .ok (.aload_n 0, 1) := by decide +kernel
theorem dX9_write_9 : decode mX9_write.2.1 9 = .ok (.getfield 10, 3) := by decide +kernel
theorem dX9_write_12 : decode mX9_write.2.1 12 = .ok (.invokevirtual 193, 3) := by decide +kernel
theorem dX9_write_15 : decode mX9_write.2.1 15 = .ok (.invokevirtual 205, 3) := by decide +kernel
theorem dX9_write_18 : decode mX9_write.2.1 18 = .ok (.ldc 141, 2) := by decide +kernel
theorem dX9_write_20 : decode mX9_write.2.1 20 = .ok (.istore_n 1, 1) := by decide +kernel
theorem dX9_write_21 : decode mX9_write.2.1 21 = .ok (.lconst 0, 1) := by decide +kernel
theorem dX9_write_22 : decode mX9_write.2.1 22 = .ok (.lstore_n 2, 1) := by decide +kernel
theorem dX9_write_23 : decode mX9_write.2.1 23 = .ok (.iconst (-1), 1) := by decide +kernel
theorem dX9_write_24 : decode mX9_write.2.1 24 = .ok (.istore 4, 2) := by decide +kernel
theorem dX9_write_26 : decode mX9_write.2.1 26 = .ok (.iload 4, 2) := by decide +kernel
theorem dX9_write_28 : decode mX9_write.2.1 28 = .ok (.bipush 31, 2) := by decide +kernel
theorem dX9_write_30 : decode mX9_write.2.1 30 = .ok (.if_icmp .ge 79, 3) := by decide +kernel
theorem dX9_write_33 : decode mX9_write.2.1 33 = .ok (.iload 4, 2) := by decide +kernel
theorem dX9_write_35 : decode mX9_write.2.1 35 = .ok (.ifCond .ge 8, 3) := by decide +kernel
theorem dX9_write_38 : decode mX9_write.2.1 38 = .ok (.ldc 141, 2) := by decide +kernel
theorem dX9_write_40 : decode mX9_write.2.1 40 = .ok (.goto 5, 3) := by decide +kernel
theorem dX9_write_43 : decode mX9_write.2.1 43 = .ok (.iload 4, 2) := by decide +kernel
theorem dX9_write_45 : decode mX9_write.2.1 45 = .ok (.istore 5, 2) := by decide +kernel
theorem dX9_write_47 : decode mX9_write.2.1 47 = .ok (.aload_n 0, 1) := by decide +kernel
theorem dX9_write_48 : decode mX9_write.2.1 48 = .ok (.getfield 26, 3) := by decide +kernel
theorem dX9_write_51 : decode mX9_write.2.1 51 = .ok (.aload_n 0, 1) := by decide +kernel
theorem dX9_write_52 : decode mX9_write.2.1 52 = .ok (.getfield 10, 3) := by decide +kernel
theorem dX9_write_55 : decode mX9_write.2.1 55 = .ok (.iload 5, 2) := by decide +kernel
theorem dX9_write_57 : decode mX9_write.2.1 57 = .ok (.invokevirtual 202, 3) := by decide +kernel
theorem dX9_write_60 : decode mX9_write.2.1 60 = .ok (.aload_n 0, 1) := by decide +kernel
theorem dX9_write_61 : decode mX9_write.2.1 61 = .ok (.getfield 26, 3) := by decide +kernel
theorem dX9_write_64 : decode mX9_write.2.1 64 = .ok (.aload_n 0, 1) := by decide +kernel
theorem dX9_write_65 : decode mX9_write.2.1 65 = .ok (.getfield 10, 3) := by decide +kernel
theorem dX9_write_68 : decode mX9_write.2.1 68 = .ok (.iload 5, 2) := by decide +kernel
theorem dX9_write_70 : decode mX9_write.2.1 70 = .ok (.invokevirtual 177, 3) := by decide +kernel
theorem dX9_write_73 : decode mX9_write.2.1 73 = .ok (.iload 5, 2) := by decide +kernel
theorem dX9_write_75 : decode mX9_write.2.1 75 = .ok (.ldc 141, 2) := by decide +kernel
theorem dX9_write_77 : decode mX9_write.2.1 77 = .ok (.if_icmp .eq 15, 3) := by decide +kernel
theorem dX9_write_80 : decode mX9_write.2.1 80 = .ok (.aload_n 0, 1) := by decide +kernel
theorem dX9_write_81 : decode mX9_write.2.1 81 = .ok (.getfield 26, 3) := by decide +kernel
theorem dX9_write_84 : decode mX9_write.2.1 84 = .ok (.getfield 180, 3) := by decide +kernel
theorem dX9_write_87 : decode mX9_write.2.1 87 = .ok (.lload_n 2, 1) := by decide +kernel
theorem dX9_write_88 : decode mX9_write.2.1 88 = .ok (.lcmp, 1) := by decide +kernel
theorem dX9_write_89 : decode mX9_write.2.1 89 = .ok (.ifCond .ge 14, 3) := by decide +kernel
theorem dX9_write_92 : decode mX9_write.2.1 92 = .ok (.iload 5, 2) := by decide +kernel
theorem dX9_write_94 : decode mX9_write.2.1 94 = .ok (.istore_n 1, 1) := by decide +kernel
theorem dX9_write_95 : decode mX9_write.2.1 95 = .ok (.aload_n 0, 1) := by decide +kernel
theorem dX9_write_96 : decode mX9_write.2.1 96 = .ok (.getfield 26, 3) := by decide +kernel
theorem dX9_write_99 : decode mX9_write.2.1 99 = .ok (.getfield 180, 3) := by decide +kernel
theorem dX9_write_102 : decode mX9_write.2.1 102 = .ok (.lstore_n 2, 1) := by decide +kernel
theorem dX9_write_103 : decode mX9_write.2.1 103 = .ok (.iinc 4 1, 3) := by decide +kernel
theorem dX9_write_106 : decode mX9_write.2.1 106 = .ok (.goto (-80), 3) := by decide +kernel
theorem dX9_write_109 : decode mX9_write.2.1 109 = .ok (.iload_n 1, 1) := by decide +kernel
theorem dX9_write_110 : decode mX9_write.2.1 110 = .ok (.ireturn, 1) := by decide +kernel
theorem dX9_least_0 : decode mX9_least.2.1 0 = .ok (.aload_n 0, 1) := by decide +kernel
theorem dX9_least_1 : decode mX9_least.2.1 1 = .ok (.getfield 26, 3) := by decide +kernel
theorem dX9_least_4 : decode mX9_least.2.1 4 = .ok (.aload_n 0, 1) := by decide +kernel
theorem dX9_least_5 : decode mX9_least.2.1 5 = .ok (.getfield 10, 3) := by decide +kernel
theorem dX9_least_8 : decode mX9_least.2.1 8 = .ok (.aload_n 0, 1) := by decide +kernel
theorem dX9_least_9 : decode mX9_least.2.1 9 = .ok (.getfield 10, 3) := by decide +kernel
theorem dX9_least_12 : decode mX9_least.2.1 12 = .ok (.getfield 145, 3) := by decide +kernel
theorem dX9_least_15 : decode mX9_least.2.1 15 = .ok (.invokevirtual 202, 3) := by decide +kernel
theorem dX9_least_18 : decode mX9_least.2.1 18 = .ok (.ldc 141, 2) := by decide +kernel
theorem dX9_least_20 : decode mX9_least.2.1 20 = .ok (.istore_n 1, 1) := by decide +kernel
theorem dX9_least_21 : decode mX9_least.2.1 21 = .ok (.lconst 0, 1) := by decide +kernel
theorem dX9_least_22 : decode mX9_least.2.1 22 = .ok (.lstore_n 2, 1) := by decide +kernel
theorem dX9_least_23 : decode mX9_least.2.1 23 = .ok (.lconst 0, 1) := by decide +kernel
theorem dX9_least_24 : decode mX9_least.2.1 24 = .ok (.lstore 4, 2) := by decide +kernel
theorem dX9_least_26 : decode mX9_least.2.1 26 = .ok (.iconst 0, 1) := by decide +kernel
theorem dX9_least_27 : decode mX9_least.2.1 27 = .ok (.istore 6, 2) := by decide +kernel
theorem dX9_least_29 : decode mX9_least.2.1 29 = .ok (.iload 6, 2) := by decide +kernel
theorem dX9_least_31 : decode mX9_least.2.1 31 = .ok (.aload_n 0, 1) := by decide +kernel
theorem dX9_least_32 : decode mX9_least.2.1 32 = .ok (.getfield 10, 3) := by decide +kernel
theorem dX9_least_35 : decode mX9_least.2.1 35 = .ok (.getfield 216, 3) := by decide +kernel
theorem dX9_least_38 : decode mX9_least.2.1 38 = .ok (.if_icmp .ge 110, 3) := by decide +kernel
theorem dX9_least_41 : decode mX9_least.2.1 41 = .ok (.aload_n 0, 1) := by decide +kernel
theorem dX9_least_42 : decode mX9_least.2.1 42 = .ok (.getfield 26, 3) := by decide +kernel
theorem dX9_least_45 : decode mX9_least.2.1 45 = .ok (.aload_n 0, 1) := by decide +kernel
theorem dX9_least_46 : decode mX9_least.2.1 46 = .ok (.getfield 10, 3) := by decide +kernel
theorem dX9_least_49 : decode mX9_least.2.1 49 = .ok (.aload_n 0, 1) := by decide +kernel
theorem dX9_least_50 : decode mX9_least.2.1 50 = .ok (.getfield 10, 3) := by decide +kernel
theorem dX9_least_53 : decode mX9_least.2.1 53 = .ok (.iload 6, 2) := by decide +kernel
theorem dX9_least_55 : decode mX9_least.2.1 55 = .ok (.invokevirtual 116, 3) := by decide +kernel
theorem dX9_least_58 : decode mX9_least.2.1 58 = .ok (.invokevirtual 205, 3) := by decide +kernel
theorem dX9_least_61 : decode mX9_least.2.1 61 = .ok (.aload_n 0, 1) := by decide +kernel
theorem dX9_least_62 : decode mX9_least.2.1 62 = .ok (.getfield 26, 3) := by decide +kernel
theorem dX9_least_65 : decode mX9_least.2.1 65 = .ok (.aload_n 0, 1) := by decide +kernel
theorem dX9_least_66 : decode mX9_least.2.1 66 = .ok (.getfield 10, 3) := by decide +kernel
theorem dX9_least_69 : decode mX9_least.2.1 69 = .ok (.aload_n 0, 1) := by decide +kernel
theorem dX9_least_70 : decode mX9_least.2.1 70 = .ok (.getfield 10, 3) := by decide +kernel
theorem dX9_least_73 : decode mX9_least.2.1 73 = .ok (.getfield 145, 3) := by decide +kernel
theorem dX9_least_76 : decode mX9_least.2.1 76 = .ok (.invokevirtual 177, 3) := by decide +kernel
theorem dX9_least_79 : decode mX9_least.2.1 79 = .ok (.iload_n 1, 1) := by decide +kernel
theorem dX9_least_80 : decode mX9_least.2.1 80 = .ok (.ldc 141, 2) := by decide +kernel
theorem dX9_least_82 : decode mX9_least.2.1 82 = .ok (.if_icmp .eq 40, 3) := by decide +kernel
theorem dX9_least_85 : decode mX9_least.2.1 85 = .ok (.aload_n 0, 1) := by decide +kernel
theorem dX9_least_86 : decode mX9_least.2.1 86 = .ok (.getfield 26, 3) := by decide +kernel
theorem dX9_least_89 : decode mX9_least.2.1 89 = .ok (.getfield 180, 3) := by decide +kernel
theorem dX9_least_92 : decode mX9_least.2.1 92 = .ok (.lload_n 2, 1) := by decide +kernel
theorem dX9_least_93 : decode mX9_least.2.1 93 = .ok (.lcmp, 1) := by decide +kernel
theorem dX9_least_94 : decode mX9_least.2.1 94 = .ok (.ifCond .lt 28, 3) := by decide +kernel
theorem dX9_least_97 : decode mX9_least.2.1 97 = .ok (.aload_n 0, 1) := by decide +kernel
theorem dX9_least_98 : decode mX9_least.2.1 98 = .ok (.getfield 26, 3) := by decide +kernel
theorem dX9_least_101 : decode mX9_least.2.1 101 = .ok (.getfield 180, 3) := by decide +kernel
theorem dX9_least_104 : decode mX9_least.2.1 104 = .ok (.lload_n 2, 1) := by decide +kernel
theorem dX9_least_105 : decode mX9_least.2.1 105 = .ok (.lcmp, 1) := by decide +kernel
theorem dX9_least_106 : decode mX9_least.2.1 106 = .ok (.ifCond .ne 36, 3) := by decide +kernel
theorem dX9_least_109 : decode mX9_least.2.1 109 = .ok (.aload_n 0, 1) := by decide +kernel
theorem dX9_least_110 : decode mX9_least.2.1 110 = .ok (.getfield 26, 3) := by decide +kernel
theorem dX9_least_113 : decode mX9_least.2.1 113 = .ok (.getfield 184, 3) := by decide +kernel
theorem dX9_least_116 : decode mX9_least.2.1 116 = .ok (.lload 4, 2) := by decide +kernel
theorem dX9_least_118 : decode mX9_least.2.1 118 = .ok (.lcmp, 1) := by decide +kernel
theorem dX9_least_119 : decode mX9_least.2.1 119 = .ok (.ifCond .le 23, 3) := by decide +kernel
theorem dX9_least_122 : decode mX9_least.2.1 122 = .ok (.iload 6, 2) := by decide +kernel
theorem dX9_least_124 : decode mX9_least.2.1 124 = .ok (.istore_n 1, 1) := by decide +kernel
theorem dX9_least_125 : decode mX9_least.2.1 125 = .ok (.aload_n 0, 1) := by decide +kernel
theorem dX9_least_126 : decode mX9_least.2.1 126 = .ok (.getfield 26, 3) := by decide +kernel
theorem dX9_least_129 : decode mX9_least.2.1 129 = .ok (.getfield 180, 3) := by decide +kernel
theorem dX9_least_132 : decode mX9_least.2.1 132 = .ok (.lstore_n 2, 1) := by decide +kernel
theorem dX9_least_133 : decode mX9_least.2.1 133 = .ok (.aload_n 0, 1) := by decide +kernel
theorem dX9_least_134 : decode mX9_least.2.1 134 = .ok (.getfield 26, 3) := by decide +kernel
theorem dX9_least_137 : decode mX9_least.2.1 137 = .ok (.getfield 184, 3) := by decide +kernel
theorem dX9_least_140 : decode mX9_least.2.1 140 = .ok (.lstore 4, 2) := by decide +kernel
theorem dX9_least_142 : decode mX9_least.2.1 142 = .ok (.iinc 6 1, 3) := by decide +kernel
theorem dX9_least_145 : decode mX9_least.2.1 145 = .ok (.goto (-116), 3) := by decide +kernel
theorem dX9_least_148 : decode mX9_least.2.1 148 = .ok (.iload_n 1, 1) := by decide +kernel
theorem dX9_least_149 : decode mX9_least.2.1 149 = .ok (.ireturn, 1) := by decide +kernel
theorem dX9_feed_0 : decode mX9_feed.2.1 0 = .ok (.aload_n 0, 1) := by decide +kernel
theorem dX9_feed_1 : decode mX9_feed.2.1 1 = .ok (.getfield 47, 3) := by decide +kernel
theorem dX9_feed_4 : decode mX9_feed.2.1 4 = .ok (.getfield 219, 3) := by decide +kernel
theorem dX9_feed_7 : decode mX9_feed.2.1 7 = .ok (.getfield 223, 3) := by decide +kernel
theorem dX9_feed_10 : decode mX9_feed.2.1 10 = .ok (.bipush 84, 2) := by decide +kernel
theorem dX9_feed_12 : decode mX9_feed.2.1 12 = .ok (.if_icmp .le 6, 3) := by decide +kernel
theorem dX9_feed_15 : decode mX9_feed.2.1 15 = .ok (.ldc 228, 2) := by decide +kernel
theorem dX9_feed_17 : decode mX9_feed.2.1 17 = .ok (.ireturn, 1) := by decide +kernel
theorem dX9_feed_18 : decode mX9_feed.2.1 18 = .ok (.aload_n 0, 1) := by decide +kernel
theorem dX9_feed_19 : decode mX9_feed.2.1 19 = .ok (.getfield 47, 3) := by decide +kernel
theorem dX9_feed_22 : decode mX9_feed.2.1 22 = .ok (.getfield 219, 3) := by decide +kernel
theorem dX9_feed_25 : decode mX9_feed.2.1 25 = .ok (.iload_n 1, 1) := by decide +kernel
theorem dX9_feed_26 : decode mX9_feed.2.1 26 = .ok (.invokevirtual 229, 3) := by decide +kernel
theorem dX9_feed_29 : decode mX9_feed.2.1 29 = .ok (.aload_n 0, 1) := by decide +kernel
theorem dX9_feed_30 : decode mX9_feed.2.1 30 = .ok (.getfield 47, 3) := by decide +kernel
theorem dX9_feed_33 : decode mX9_feed.2.1 33 = .ok (.getfield 219, 3) := by decide +kernel
theorem dX9_feed_36 : decode mX9_feed.2.1 36 = .ok (.iload_n 2, 1) := by decide +kernel
theorem dX9_feed_37 : decode mX9_feed.2.1 37 = .ok (.invokevirtual 229, 3) := by decide +kernel
theorem dX9_feed_40 : decode mX9_feed.2.1 40 = .ok (.aload_n 0, 1) := by decide +kernel
theorem dX9_feed_41 : decode mX9_feed.2.1 41 = .ok (.getfield 47, 3) := by decide +kernel
theorem dX9_feed_44 : decode mX9_feed.2.1 44 = .ok (.getfield 219, 3) := by decide +kernel
theorem dX9_feed_47 : decode mX9_feed.2.1 47 = .ok (.iload_n 3, 1) := by decide +kernel
theorem dX9_feed_48 : decode mX9_feed.2.1 48 = .ok (.invokevirtual 229, 3) := by decide +kernel
theorem dX9_feed_51 : decode mX9_feed.2.1 51 = .ok (.aload_n 0, 1) := by decide +kernel
theorem dX9_feed_52 : decode mX9_feed.2.1 52 = .ok (.getfield 47, 3) := by decide +kernel
theorem dX9_feed_55 : decode mX9_feed.2.1 55 = .ok (.getfield 219, 3) := by decide +kernel
theorem dX9_feed_58 : decode mX9_feed.2.1 58 = .ok (.getfield 223, 3) := by decide +kernel
theorem dX9_feed_61 : decode mX9_feed.2.1 61 = .ok (.ireturn, 1) := by decide +kernel
theorem dX9_trim_0 : decode mX9_trim.2.1 0 = .ok (.iload_n 1, 1) := by decide +kernel
theorem dX9_trim_1 : decode mX9_trim.2.1 1 = .ok (.iconst 0, 1) := by decide +kernel
theorem dX9_trim_2 : decode mX9_trim.2.1 2 = .ok (.aload_n 0, 1) := by decide +kernel
theorem dX9_trim_3 : decode mX9_trim.2.1 3 = .ok (.getfield 47, 3) := by decide +kernel
theorem dX9_trim_6 : decode mX9_trim.2.1 6 = .ok (.getfield 219, 3) := by decide +kernel
theorem dX9_trim_9 : decode mX9_trim.2.1 9 = .ok (.getfield 223, 3) := by decide +kernel
theorem dX9_trim_12 : decode mX9_trim.2.1 12 = .ok (.invokestatic 86, 3) := by decide +kernel
theorem dX9_trim_15 : decode mX9_trim.2.1 15 = .ok (.ifCond .ne 6, 3) := by decide +kernel
theorem dX9_trim_18 : decode mX9_trim.2.1 18 = .ok (.ldc 77, 2) := by decide +kernel
theorem dX9_trim_20 : decode mX9_trim.2.1 20 = .ok (.ireturn, 1) := by decide +kernel
theorem dX9_trim_21 : decode mX9_trim.2.1 21 = .ok (.aload_n 0, 1) := by decide +kernel
theorem dX9_trim_22 : decode mX9_trim.2.1 22 = .ok (.getfield 47, 3) := by decide +kernel
theorem dX9_trim_25 : decode mX9_trim.2.1 25 = .ok (.getfield 219, 3) := by decide +kernel
theorem dX9_trim_28 : decode mX9_trim.2.1 28 = .ok (.iload_n 1, 1) := by decide +kernel
theorem dX9_trim_29 : decode mX9_trim.2.1 29 = .ok (.putfield 223, 3) := by decide +kernel
theorem dX9_trim_32 : decode mX9_trim.2.1 32 = .ok (.iload_n 1, 1) := by decide +kernel
theorem dX9_trim_33 : decode mX9_trim.2.1 33 = .ok (.ireturn, 1) := by decide +kernel
theorem dX9_text_0 : decode mX9_text.2.1 0 = .ok (.aload_n 0, 1) := by decide +kernel
theorem dX9_text_1 : decode mX9_text.2.1 1 = .ok (.getfield 47, 3) := by decide +kernel
theorem dX9_text_4 : decode mX9_text.2.1 4 = .ok (.invokevirtual 233, 3) := by decide +kernel
theorem dX9_text_7 : decode mX9_text.2.1 7 = .ok (.istore_n 1, 1) := by decide +kernel
theorem dX9_text_8 : decode mX9_text.2.1 8 = .ok (.aload_n 0, 1) := by decide +kernel
theorem dX9_text_9 : decode mX9_text.2.1 9 = .ok (.getfield 47, 3) := by decide +kernel
theorem dX9_text_12 : decode mX9_text.2.1 12 = .ok (.getfield 219, 3) := by decide +kernel
theorem dX9_text_15 : decode mX9_text.2.1 15 = .ok (.iconst 0, 1) := by decide +kernel
theorem dX9_text_16 : decode mX9_text.2.1 16 = .ok (.putfield 223, 3) := by decide +kernel
theorem dX9_text_19 : decode mX9_text.2.1 19 = .ok (.iload_n 1, 1) := by decide +kernel
theorem dX9_text_20 : decode mX9_text.2.1 20 = .ok (.ldc 141, 2) := by decide +kernel
theorem dX9_text_22 : decode mX9_text.2.1 22 = .ok (.if_icmp .eq 8, 3) := by decide +kernel
theorem dX9_text_25 : decode mX9_text.2.1 25 = .ok (.bipush (-100), 2) := by decide +kernel
theorem dX9_text_27 : decode mX9_text.2.1 27 = .ok (.iload_n 1, 1) := by decide +kernel
theorem dX9_text_28 : decode mX9_text.2.1 28 = .ok (.isub, 1) := by decide +kernel
theorem dX9_text_29 : decode mX9_text.2.1 29 = .ok (.ireturn, 1) := by decide +kernel
theorem dX9_text_30 : decode mX9_text.2.1 30 = .ok (.aload_n 0, 1) := by decide +kernel
theorem dX9_text_31 : decode mX9_text.2.1 31 = .ok (.getfield 10, 3) := by decide +kernel
theorem dX9_text_34 : decode mX9_text.2.1 34 = .ok (.getfield 236, 3) := by decide +kernel
theorem dX9_text_37 : decode mX9_text.2.1 37 = .ok (.bipush 14, 2) := by decide +kernel
theorem dX9_text_39 : decode mX9_text.2.1 39 = .ok (.if_icmp .lt 6, 3) := by decide +kernel
theorem dX9_text_42 : decode mX9_text.2.1 42 = .ok (.ldc 228, 2) := by decide +kernel
theorem dX9_text_44 : decode mX9_text.2.1 44 = .ok (.ireturn, 1) := by decide +kernel
theorem dX9_text_45 : decode mX9_text.2.1 45 = .ok (.aload_n 0, 1) := by decide +kernel
theorem dX9_text_46 : decode mX9_text.2.1 46 = .ok (.getfield 10, 3) := by decide +kernel
theorem dX9_text_49 : decode mX9_text.2.1 49 = .ok (.aload_n 0, 1) := by decide +kernel
theorem dX9_text_50 : decode mX9_text.2.1 50 = .ok (.getfield 47, 3) := by decide +kernel
theorem dX9_text_53 : decode mX9_text.2.1 53 = .ok (.invokevirtual 239, 3) := by decide +kernel
theorem dX9_text_56 : decode mX9_text.2.1 56 = .ok (.invokevirtual 243, 3) := by decide +kernel
theorem dX9_text_59 : decode mX9_text.2.1 59 = .ok (.ireturn, 1) := by decide +kernel
theorem dX9_textTold_0 : decode mX9_textTold.2.1 0 = .ok (.aload_n 0, 1) := by decide +kernel
