theorem dX0_init_0 : decode cX0_init 0 = .ok (.aload_n 0, 1) := by decide +kernel
theorem dX0_init_1 : decode cX0_init 1 = .ok (.invokespecial 3, 3) := by decide +kernel
theorem dX0_init_4 : decode cX0_init 4 = .ok (.aload_n 0, 1) := by decide +kernel
theorem dX0_init_5 : decode cX0_init 5 = .ok (.sipush 500, 3) := by decide +kernel
theorem dX0_init_8 : decode cX0_init 8 = .ok (.newarray .int, 2) := by decide +kernel
theorem dX0_init_10 : decode cX0_init 10 = .ok (.putfield 11, 3) := by decide +kernel
theorem dX0_init_13 : decode cX0_init 13 = .ok (.aload_n 0, 1) := by decide +kernel
theorem dX0_init_14 : decode cX0_init 14 = .ok (.iconst 0, 1) := by decide +kernel
theorem dX0_init_15 : decode cX0_init 15 = .ok (.putfield 15, 3) := by decide +kernel
theorem dX0_init_18 : decode cX0_init 18 = .ok (.aload_n 0, 1) := by decide +kernel
theorem dX0_init_19 : decode cX0_init 19 = .ok (.aload_n 1, 1) := by decide +kernel
theorem dX0_init_20 : decode cX0_init 20 = .ok (.putfield 19, 3) := by decide +kernel
theorem dX0_init_23 : decode cX0_init 23 = .ok (.return_, 1) := by decide +kernel
theorem dX0_read_0 : decode cX0_read 0 = .ok (.aload_n 0, 1) := by decide +kernel
theorem dX0_read_1 : decode cX0_read 1 = .ok (.getfield 19, 3) := by decide +kernel
theorem dX0_read_4 : decode cX0_read 4 = .ok (.invokevirtual 23, 3) := by decide +kernel
theorem dX0_read_7 : decode cX0_read 7 = .ok (.aload_n 0, 1) := by decide +kernel
theorem dX0_read_8 : decode cX0_read 8 = .ok (.iconst 0, 1) := by decide +kernel
theorem dX0_read_9 : decode cX0_read 9 = .ok (.putfield 15, 3) := by decide +kernel
theorem dX0_read_12 : decode cX0_read 12 = .ok (.aload_n 0, 1) := by decide +kernel
theorem dX0_read_13 : decode cX0_read 13 = .ok (.aload_n 1, 1) := by decide +kernel
theorem dX0_read_14 : decode cX0_read 14 = .ok (.invokevirtual 28, 3) := by decide +kernel
theorem dX0_read_17 : decode cX0_read 17 = .ok (.ifCond .ne 5, 3) := by decide +kernel
theorem dX0_read_20 : decode cX0_read 20 = .ok (.iconst 0, 1) := by decide +kernel
theorem dX0_read_21 : decode cX0_read 21 = .ok (.ireturn, 1) := by decide +kernel
theorem dX0_read_22 : decode cX0_read 22 = .ok (.iconst 1, 1) := by decide +kernel
theorem dX0_read_23 : decode cX0_read 23 = .ok (.istore_n 2, 1) := by decide +kernel
theorem dX0_read_24 : decode cX0_read 24 = .ok (.iload_n 2, 1) := by decide +kernel
theorem dX0_read_25 : decode cX0_read 25 = .ok (.bipush 100, 2) := by decide +kernel
theorem dX0_read_27 : decode cX0_read 27 = .ok (.if_icmp .ge 29, 3) := by decide +kernel
theorem dX0_read_30 : decode cX0_read 30 = .ok (.aload_n 0, 1) := by decide +kernel
theorem dX0_read_31 : decode cX0_read 31 = .ok (.getfield 19, 3) := by decide +kernel
theorem dX0_read_34 : decode cX0_read 34 = .ok (.invokevirtual 32, 3) := by decide +kernel
theorem dX0_read_37 : decode cX0_read 37 = .ok (.ifCond .eq 19, 3) := by decide +kernel
theorem dX0_read_40 : decode cX0_read 40 = .ok (.aload_n 0, 1) := by decide +kernel
theorem dX0_read_41 : decode cX0_read 41 = .ok (.aload_n 1, 1) := by decide +kernel
theorem dX0_read_42 : decode cX0_read 42 = .ok (.invokevirtual 28, 3) := by decide +kernel
theorem dX0_read_45 : decode cX0_read 45 = .ok (.ifCond .ne 5, 3) := by decide +kernel
theorem dX0_read_48 : decode cX0_read 48 = .ok (.iconst 0, 1) := by decide +kernel
theorem dX0_read_49 : decode cX0_read 49 = .ok (.ireturn, 1) := by decide +kernel
theorem dX0_read_50 : decode cX0_read 50 = .ok (.iinc 2 1, 3) := by decide +kernel
theorem dX0_read_53 : decode cX0_read 53 = .ok (.goto (-29), 3) := by decide +kernel
theorem dX0_read_56 : decode cX0_read 56 = .ok (.aload_n 0, 1) := by decide +kernel
theorem dX0_read_57 : decode cX0_read 57 = .ok (.getfield 19, 3) := by decide +kernel
theorem dX0_read_60 : decode cX0_read 60 = .ok (.invokevirtual 36, 3) := by decide +kernel
theorem dX0_read_63 : decode cX0_read 63 = .ok (.ireturn, 1) := by decide +kernel
theorem dX0_carryOut_0 : decode cX0_carryOut 0 = .ok (.iconst 0, 1) := by decide +kernel
theorem dX0_carryOut_1 : decode cX0_carryOut 1 = .ok (.istore_n 2, 1) := by decide +kernel
theorem dX0_carryOut_2 : decode cX0_carryOut 2 = .ok (.iload_n 2, 1) := by decide +kernel
theorem dX0_carryOut_3 : decode cX0_carryOut 3 = .ok (.aload_n 0, 1) := by decide +kernel
theorem dX0_carryOut_4 : decode cX0_carryOut 4 = .ok (.getfield 15, 3) := by decide +kernel
theorem dX0_carryOut_7 : decode cX0_carryOut 7 = .ok (.if_icmp .ge 22, 3) := by decide +kernel
theorem dX0_carryOut_10 : decode cX0_carryOut 10 = .ok (.aload_n 0, 1) := by decide +kernel
theorem dX0_carryOut_11 : decode cX0_carryOut 11 = .ok (.iload_n 2, 1) := by decide +kernel
theorem dX0_carryOut_12 : decode cX0_carryOut 12 = .ok (.iconst 5, 1) := by decide +kernel
theorem dX0_carryOut_13 : decode cX0_carryOut 13 = .ok (.imul, 1) := by decide +kernel
theorem dX0_carryOut_14 : decode cX0_carryOut 14 = .ok (.aload_n 1, 1) := by decide +kernel
theorem dX0_carryOut_15 : decode cX0_carryOut 15 = .ok (.invokevirtual 39, 3) := by decide +kernel
theorem dX0_carryOut_18 : decode cX0_carryOut 18 = .ok (.ifCond .ge 5, 3) := by decide +kernel
theorem dX0_carryOut_21 : decode cX0_carryOut 21 = .ok (.iload_n 2, 1) := by decide +kernel
theorem dX0_carryOut_22 : decode cX0_carryOut 22 = .ok (.ireturn, 1) := by decide +kernel
theorem dX0_carryOut_23 : decode cX0_carryOut 23 = .ok (.iinc 2 1, 3) := by decide +kernel
theorem dX0_carryOut_26 : decode cX0_carryOut 26 = .ok (.goto (-24), 3) := by decide +kernel
theorem dX0_carryOut_29 : decode cX0_carryOut 29 = .ok (.aload_n 0, 1) := by decide +kernel
theorem dX0_carryOut_30 : decode cX0_carryOut 30 = .ok (.getfield 15, 3) := by decide +kernel
theorem dX0_carryOut_33 : decode cX0_carryOut 33 = .ok (.ireturn, 1) := by decide +kernel
theorem dX0_readCommand_0 : decode cX0_readCommand 0 = .ok (.aload_n 0, 1) := by decide +kernel
theorem dX0_readCommand_1 : decode cX0_readCommand 1 = .ok (.getfield 19, 3) := by decide +kernel
theorem dX0_readCommand_4 : decode cX0_readCommand 4 = .ok (.invokevirtual 43, 3) := by decide +kernel
theorem dX0_readCommand_7 : decode cX0_readCommand 7 = .ok (.ifCond .ne 5, 3) := by decide +kernel
theorem dX0_readCommand_10 : decode cX0_readCommand 10 = .ok (.iconst 0, 1) := by decide +kernel
theorem dX0_readCommand_11 : decode cX0_readCommand 11 = .ok (.ireturn, 1) := by decide +kernel
theorem dX0_readCommand_12 : decode cX0_readCommand 12 = .ok (.aload_n 0, 1) := by decide +kernel
theorem dX0_readCommand_13 : decode cX0_readCommand 13 = .ok (.getfield 19, 3) := by decide +kernel
theorem dX0_readCommand_16 : decode cX0_readCommand 16 = .ok (.ldc 46, 2) := by decide +kernel
theorem dX0_readCommand_18 : decode cX0_readCommand 18 = .ok (.invokevirtual 48, 3) := by decide +kernel
theorem dX0_readCommand_21 : decode cX0_readCommand 21 = .ok (.ifCond .eq 13, 3) := by decide +kernel
theorem dX0_readCommand_24 : decode cX0_readCommand 24 = .ok (.aload_n 0, 1) := by decide +kernel
theorem dX0_readCommand_25 : decode cX0_readCommand 25 = .ok (.iconst 0, 1) := by decide +kernel
theorem dX0_readCommand_26 : decode cX0_readCommand 26 = .ok (.aload_n 1, 1) := by decide +kernel
theorem dX0_readCommand_27 : decode cX0_readCommand 27 = .ok (.iconst 0, 1) := by decide +kernel
theorem dX0_readCommand_28 : decode cX0_readCommand 28 = .ok (.bipush 9, 2) := by decide +kernel
theorem dX0_readCommand_30 : decode cX0_readCommand 30 = .ok (.invokevirtual 52, 3) := by decide +kernel
theorem dX0_readCommand_33 : decode cX0_readCommand 33 = .ok (.ireturn, 1) := by decide +kernel
theorem dX0_readCommand_34 : decode cX0_readCommand 34 = .ok (.aload_n 0, 1) := by decide +kernel
theorem dX0_readCommand_35 : decode cX0_readCommand 35 = .ok (.getfield 19, 3) := by decide +kernel
theorem dX0_readCommand_38 : decode cX0_readCommand 38 = .ok (.ldc 56, 2) := by decide +kernel
theorem dX0_readCommand_40 : decode cX0_readCommand 40 = .ok (.invokevirtual 48, 3) := by decide +kernel
theorem dX0_readCommand_43 : decode cX0_readCommand 43 = .ok (.ifCond .eq 14, 3) := by decide +kernel
theorem dX0_readCommand_46 : decode cX0_readCommand 46 = .ok (.aload_n 0, 1) := by decide +kernel
theorem dX0_readCommand_47 : decode cX0_readCommand 47 = .ok (.iconst 1, 1) := by decide +kernel
theorem dX0_readCommand_48 : decode cX0_readCommand 48 = .ok (.aload_n 1, 1) := by decide +kernel
theorem dX0_readCommand_49 : decode cX0_readCommand 49 = .ok (.iconst 1, 1) := by decide +kernel
theorem dX0_readCommand_50 : decode cX0_readCommand 50 = .ok (.sipush 1000, 3) := by decide +kernel
theorem dX0_readCommand_53 : decode cX0_readCommand 53 = .ok (.invokevirtual 52, 3) := by decide +kernel
theorem dX0_readCommand_56 : decode cX0_readCommand 56 = .ok (.ireturn, 1) := by decide +kernel
theorem dX0_readCommand_57 : decode cX0_readCommand 57 = .ok (.aload_n 0, 1) := by decide +kernel
theorem dX0_readCommand_58 : decode cX0_readCommand 58 = .ok (.getfield 19, 3) := by decide +kernel
theorem dX0_readCommand_61 : decode cX0_readCommand 61 = .ok (.ldc 58, 2) := by decide +kernel
theorem dX0_readCommand_63 : decode cX0_readCommand 63 = .ok (.invokevirtual 48, 3) := by decide +kernel
theorem dX0_readCommand_66 : decode cX0_readCommand 66 = .ok (.ifCond .eq 13, 3) := by decide +kernel
theorem dX0_readCommand_69 : decode cX0_readCommand 69 = .ok (.aload_n 0, 1) := by decide +kernel
theorem dX0_readCommand_70 : decode cX0_readCommand 70 = .ok (.iconst 2, 1) := by decide +kernel
theorem dX0_readCommand_71 : decode cX0_readCommand 71 = .ok (.iconst 1, 1) := by decide +kernel
theorem dX0_readCommand_72 : decode cX0_readCommand 72 = .ok (.sipush 1000, 3) := by decide +kernel
theorem dX0_readCommand_75 : decode cX0_readCommand 75 = .ok (.invokevirtual 60, 3) := by decide +kernel
theorem dX0_readCommand_78 : decode cX0_readCommand 78 = .ok (.ireturn, 1) := by decide +kernel
theorem dX0_readCommand_79 : decode cX0_readCommand 79 = .ok (.aload_n 0, 1) := by decide +kernel
theorem dX0_readCommand_80 : decode cX0_readCommand 80 = .ok (.getfield 19, 3) := by decide +kernel
theorem dX0_readCommand_83 : decode cX0_readCommand 83 = .ok (.ldc 64, 2) := by decide +kernel
theorem dX0_readCommand_85 : decode cX0_readCommand 85 = .ok (.invokevirtual 48, 3) := by decide +kernel
theorem dX0_readCommand_88 : decode cX0_readCommand 88 = .ok (.ifCond .eq 13, 3) := by decide +kernel
theorem dX0_readCommand_91 : decode cX0_readCommand 91 = .ok (.aload_n 0, 1) := by decide +kernel
theorem dX0_readCommand_92 : decode cX0_readCommand 92 = .ok (.iconst 3, 1) := by decide +kernel
theorem dX0_readCommand_93 : decode cX0_readCommand 93 = .ok (.iconst 0, 1) := by decide +kernel
theorem dX0_readCommand_94 : decode cX0_readCommand 94 = .ok (.sipush 299, 3) := by decide +kernel
theorem dX0_readCommand_97 : decode cX0_readCommand 97 = .ok (.invokevirtual 60, 3) := by decide +kernel
theorem dX0_readCommand_100 : decode cX0_readCommand 100 = .ok (.ireturn, 1) := by decide +kernel
theorem dX0_readCommand_101 : decode cX0_readCommand 101 = .ok (.aload_n 0, 1) := by decide +kernel
theorem dX0_readCommand_102 : decode cX0_readCommand 102 = .ok (.getfield 19, 3) := by decide +kernel
theorem dX0_readCommand_105 : decode cX0_readCommand 105 = .ok (.iconst 1, 1) := by decide +kernel
theorem dX0_readCommand_106 : decode cX0_readCommand 106 = .ok (.invokevirtual 66, 3) := by decide +kernel
theorem dX0_readCommand_109 : decode cX0_readCommand 109 = .ok (.ireturn, 1) := by decide +kernel
theorem dX0_readLong_0 : decode cX0_readLong 0 = .ok (.aload_n 0, 1) := by decide +kernel
theorem dX0_readLong_1 : decode cX0_readLong 1 = .ok (.getfield 19, 3) := by decide +kernel
theorem dX0_readLong_4 : decode cX0_readLong 4 = .ok (.iconst 1, 1) := by decide +kernel
theorem dX0_readLong_5 : decode cX0_readLong 5 = .ok (.sipush 200, 3) := by decide +kernel
theorem dX0_readLong_8 : decode cX0_readLong 8 = .ok (.invokevirtual 70, 3) := by decide +kernel
theorem dX0_readLong_11 : decode cX0_readLong 11 = .ok (.istore 5, 2) := by decide +kernel
theorem dX0_readLong_13 : decode cX0_readLong 13 = .ok (.iload 5, 2) := by decide +kernel
theorem dX0_readLong_15 : decode cX0_readLong 15 = .ok (.iconst (-1), 1) := by decide +kernel
theorem dX0_readLong_16 : decode cX0_readLong 16 = .ok (.if_icmp .ne 5, 3) := by decide +kernel
theorem dX0_readLong_19 : decode cX0_readLong 19 = .ok (.iconst 0, 1) := by decide +kernel
theorem dX0_readLong_20 : decode cX0_readLong 20 = .ok (.ireturn, 1) := by decide +kernel
theorem dX0_readLong_21 : decode cX0_readLong 21 = .ok (.aload_n 0, 1) := by decide +kernel
theorem dX0_readLong_22 : decode cX0_readLong 22 = .ok (.iconst (-1), 1) := by decide +kernel
theorem dX0_readLong_23 : decode cX0_readLong 23 = .ok (.aload_n 2, 1) := by decide +kernel
theorem dX0_readLong_24 : decode cX0_readLong 24 = .ok (.invokevirtual 74, 3) := by decide +kernel
theorem dX0_readLong_27 : decode cX0_readLong 27 = .ok (.istore 6, 2) := by decide +kernel
theorem dX0_readLong_29 : decode cX0_readLong 29 = .ok (.iload 6, 2) := by decide +kernel
theorem dX0_readLong_31 : decode cX0_readLong 31 = .ok (.iconst (-1), 1) := by decide +kernel
theorem dX0_readLong_32 : decode cX0_readLong 32 = .ok (.if_icmp .ne 5, 3) := by decide +kernel
theorem dX0_readLong_35 : decode cX0_readLong 35 = .ok (.iconst 0, 1) := by decide +kernel
theorem dX0_readLong_36 : decode cX0_readLong 36 = .ok (.ireturn, 1) := by decide +kernel
theorem dX0_readLong_37 : decode cX0_readLong 37 = .ok (.aload_n 0, 1) := by decide +kernel
theorem dX0_readLong_38 : decode cX0_readLong 38 = .ok (.iload 6, 2) := by decide +kernel
theorem dX0_readLong_40 : decode cX0_readLong 40 = .ok (.aload_n 2, 1) := by decide +kernel
theorem dX0_readLong_41 : decode cX0_readLong 41 = .ok (.invokevirtual 74, 3) := by decide +kernel
theorem dX0_readLong_44 : decode cX0_readLong 44 = .ok (.istore 7, 2) := by decide +kernel
theorem dX0_readLong_46 : decode cX0_readLong 46 = .ok (.iload 7, 2) := by decide +kernel
theorem dX0_readLong_48 : decode cX0_readLong 48 = .ok (.iconst (-1), 1) := by decide +kernel
theorem dX0_readLong_49 : decode cX0_readLong 49 = .ok (.if_icmp .ne 5, 3) := by decide +kernel
theorem dX0_readLong_52 : decode cX0_readLong 52 = .ok (.iconst 0, 1) := by decide +kernel
theorem dX0_readLong_53 : decode cX0_readLong 53 = .ok (.ireturn, 1) := by decide +kernel
theorem dX0_readLong_54 : decode cX0_readLong 54 = .ok (.aload_n 0, 1) := by decide +kernel
theorem dX0_readLong_55 : decode cX0_readLong 55 = .ok (.getfield 19, 3) := by decide +kernel
theorem dX0_readLong_58 : decode cX0_readLong 58 = .ok (.iload_n 3, 1) := by decide +kernel
theorem dX0_readLong_59 : decode cX0_readLong 59 = .ok (.iload 4, 2) := by decide +kernel
theorem dX0_readLong_61 : decode cX0_readLong 61 = .ok (.invokevirtual 70, 3) := by decide +kernel
theorem dX0_readLong_64 : decode cX0_readLong 64 = .ok (.istore 8, 2) := by decide +kernel
theorem dX0_readLong_66 : decode cX0_readLong 66 = .ok (.iload 8, 2) := by decide +kernel
theorem dX0_readLong_68 : decode cX0_readLong 68 = .ok (.iconst (-1), 1) := by decide +kernel
theorem dX0_readLong_69 : decode cX0_readLong 69 = .ok (.if_icmp .ne 5, 3) := by decide +kernel
theorem dX0_readLong_72 : decode cX0_readLong 72 = .ok (.iconst 0, 1) := by decide +kernel
theorem dX0_readLong_73 : decode cX0_readLong 73 = .ok (.ireturn, 1) := by decide +kernel
theorem dX0_readLong_74 : decode cX0_readLong 74 = .ok (.aload_n 0, 1) := by decide +kernel
theorem dX0_readLong_75 : decode cX0_readLong 75 = .ok (.iload_n 1, 1) := by decide +kernel
theorem dX0_readLong_76 : decode cX0_readLong 76 = .ok (.iload 5, 2) := by decide +kernel
theorem dX0_readLong_78 : decode cX0_readLong 78 = .ok (.iload 6, 2) := by decide +kernel
theorem dX0_readLong_80 : decode cX0_readLong 80 = .ok (.iload 7, 2) := by decide +kernel
theorem dX0_readLong_82 : decode cX0_readLong 82 = .ok (.iload 8, 2) := by decide +kernel
theorem dX0_readLong_84 : decode cX0_readLong 84 = .ok (.invokevirtual 78, 3) := by decide +kernel
theorem dX0_readLong_87 : decode cX0_readLong 87 = .ok (.iconst 1, 1) := by decide +kernel
theorem dX0_readLong_88 : decode cX0_readLong 88 = .ok (.ireturn, 1) := by decide +kernel
theorem dX0_readShort_0 : decode cX0_readShort 0 = .ok (.aload_n 0, 1) := by decide +kernel
theorem dX0_readShort_1 : decode cX0_readShort 1 = .ok (.getfield 19, 3) := by decide +kernel
theorem dX0_readShort_4 : decode cX0_readShort 4 = .ok (.iload_n 2, 1) := by decide +kernel
theorem dX0_readShort_5 : decode cX0_readShort 5 = .ok (.iload_n 3, 1) := by decide +kernel
theorem dX0_readShort_6 : decode cX0_readShort 6 = .ok (.invokevirtual 70, 3) := by decide +kernel
theorem dX0_readShort_9 : decode cX0_readShort 9 = .ok (.istore 4, 2) := by decide +kernel
theorem dX0_readShort_11 : decode cX0_readShort 11 = .ok (.iload 4, 2) := by decide +kernel
theorem dX0_readShort_13 : decode cX0_readShort 13 = .ok (.iconst (-1), 1) := by decide +kernel
theorem dX0_readShort_14 : decode cX0_readShort 14 = .ok (.if_icmp .ne 5, 3) := by decide +kernel
theorem dX0_readShort_17 : decode cX0_readShort 17 = .ok (.iconst 0, 1) := by decide +kernel
theorem dX0_readShort_18 : decode cX0_readShort 18 = .ok (.ireturn, 1) := by decide +kernel
theorem dX0_readShort_19 : decode cX0_readShort 19 = .ok (.aload_n 0, 1) := by decide +kernel
theorem dX0_readShort_20 : decode cX0_readShort 20 = .ok (.iload_n 1, 1) := by decide +kernel
theorem dX0_readShort_21 : decode cX0_readShort 21 = .ok (.iload 4, 2) := by decide +kernel
theorem dX0_readShort_23 : decode cX0_readShort 23 = .ok (.iconst (-1), 1) := by decide +kernel
theorem dX0_readShort_24 : decode cX0_readShort 24 = .ok (.iconst (-1), 1) := by decide +kernel
theorem dX0_readShort_25 : decode cX0_readShort 25 = .ok (.iconst (-1), 1) := by decide +kernel
theorem dX0_readShort_26 : decode cX0_readShort 26 = .ok (.invokevirtual 78, 3) := by decide +kernel
theorem dX0_readShort_29 : decode cX0_readShort 29 = .ok (.iconst 1, 1) := by decide +kernel
theorem dX0_readShort_30 : decode cX0_readShort 30 = .ok (.ireturn, 1) := by decide +kernel
theorem dX0_readPoolOtherThan_0 : decode cX0_readPoolOtherThan 0 = .ok (.aload_n 0, 1) := by decide +kernel
theorem dX0_readPoolOtherThan_1 : decode cX0_readPoolOtherThan 1 = .ok (.getfield 19, 3) := by decide +kernel
theorem dX0_readPoolOtherThan_4 : decode cX0_readPoolOtherThan 4 = .ok (.invokevirtual 43, 3) := by decide +kernel
theorem dX0_readPoolOtherThan_7 : decode cX0_readPoolOtherThan 7 = .ok (.ifCond .ne 5, 3) := by decide +kernel
theorem dX0_readPoolOtherThan_10 : decode cX0_readPoolOtherThan 10 = .ok (.iconst (-1), 1) := by decide +kernel
theorem dX0_readPoolOtherThan_11 : decode cX0_readPoolOtherThan 11 = .ok (.ireturn, 1) := by decide +kernel
theorem dX0_readPoolOtherThan_12 : decode cX0_readPoolOtherThan 12 = .ok (.aload_n 2, 1) := by decide +kernel
theorem dX0_readPoolOtherThan_13 : decode cX0_readPoolOtherThan 13 = .ok (.aload_n 0, 1) := by decide +kernel
theorem dX0_readPoolOtherThan_14 : decode cX0_readPoolOtherThan 14 = .ok (.getfield 19, 3) := by decide +kernel
theorem dX0_readPoolOtherThan_17 : decode cX0_readPoolOtherThan 17 = .ok (.getfield 82, 3) := by decide +kernel
theorem dX0_readPoolOtherThan_20 : decode cX0_readPoolOtherThan 20 = .ok (.aload_n 0, 1) := by decide +kernel
theorem dX0_readPoolOtherThan_21 : decode cX0_readPoolOtherThan 21 = .ok (.getfield 19, 3) := by decide +kernel
theorem dX0_readPoolOtherThan_24 : decode cX0_readPoolOtherThan 24 = .ok (.getfield 85, 3) := by decide +kernel
theorem dX0_readPoolOtherThan_27 : decode cX0_readPoolOtherThan 27 = .ok (.aload_n 0, 1) := by decide +kernel
theorem dX0_readPoolOtherThan_28 : decode cX0_readPoolOtherThan 28 = .ok (.getfield 19, 3) := by decide +kernel
theorem dX0_readPoolOtherThan_31 : decode cX0_readPoolOtherThan 31 = .ok (.invokevirtual 88, 3) := by decide +kernel
theorem dX0_readPoolOtherThan_34 : decode cX0_readPoolOtherThan 34 = .ok (.invokevirtual 92, 3) := by decide +kernel
theorem dX0_readPoolOtherThan_37 : decode cX0_readPoolOtherThan 37 = .ok (.istore_n 3, 1) := by decide +kernel
theorem dX0_readPoolOtherThan_38 : decode cX0_readPoolOtherThan 38 = .ok (.iload_n 3, 1) := by decide +kernel
theorem dX0_readPoolOtherThan_39 : decode cX0_readPoolOtherThan 39 = .ok (.iconst (-1), 1) := by decide +kernel
theorem dX0_readPoolOtherThan_40 : decode cX0_readPoolOtherThan 40 = .ok (.if_icmp .eq 8, 3) := by decide +kernel
theorem dX0_readPoolOtherThan_43 : decode cX0_readPoolOtherThan 43 = .ok (.iload_n 3, 1) := by decide +kernel
theorem dX0_readPoolOtherThan_44 : decode cX0_readPoolOtherThan 44 = .ok (.iload_n 1, 1) := by decide +kernel
theorem dX0_readPoolOtherThan_45 : decode cX0_readPoolOtherThan 45 = .ok (.if_icmp .ne 14, 3) := by decide +kernel
theorem dX0_readPoolOtherThan_48 : decode cX0_readPoolOtherThan 48 = .ok (.aload_n 0, 1) := by decide +kernel
theorem dX0_readPoolOtherThan_49 : decode cX0_readPoolOtherThan 49 = .ok (.getfield 19, 3) := by decide +kernel
theorem dX0_readPoolOtherThan_52 : decode cX0_readPoolOtherThan 52 = .ok (.iconst 3, 1) := by decide +kernel
theorem dX0_readPoolOtherThan_53 : decode cX0_readPoolOtherThan 53 = .ok (.invokevirtual 66, 3) := by decide +kernel
theorem dX0_readPoolOtherThan_56 : decode cX0_readPoolOtherThan 56 = .ok (.pop, 1) := by decide +kernel
theorem dX0_readPoolOtherThan_57 : decode cX0_readPoolOtherThan 57 = .ok (.iconst (-1), 1) := by decide +kernel
theorem dX0_readPoolOtherThan_58 : decode cX0_readPoolOtherThan 58 = .ok (.ireturn, 1) := by decide +kernel
theorem dX0_readPoolOtherThan_59 : decode cX0_readPoolOtherThan 59 = .ok (.iload_n 3, 1) := by decide +kernel
theorem dX0_readPoolOtherThan_60 : decode cX0_readPoolOtherThan 60 = .ok (.ireturn, 1) := by decide +kernel
theorem dX0_addRow_0 : decode cX0_addRow 0 = .ok (.aload_n 0, 1) := by decide +kernel
theorem dX0_addRow_1 : decode cX0_addRow 1 = .ok (.getfield 15, 3) := by decide +kernel
theorem dX0_addRow_4 : decode cX0_addRow 4 = .ok (.iconst 5, 1) := by decide +kernel
theorem dX0_addRow_5 : decode cX0_addRow 5 = .ok (.imul, 1) := by decide +kernel
theorem dX0_addRow_6 : decode cX0_addRow 6 = .ok (.istore 6, 2) := by decide +kernel
theorem dX0_addRow_8 : decode cX0_addRow 8 = .ok (.aload_n 0, 1) := by decide +kernel
theorem dX0_addRow_9 : decode cX0_addRow 9 = .ok (.getfield 11, 3) := by decide +kernel
theorem dX0_addRow_12 : decode cX0_addRow 12 = .ok (.iload 6, 2) := by decide +kernel
theorem dX0_addRow_14 : decode cX0_addRow 14 = .ok (.iload_n 1, 1) := by decide +kernel
theorem dX0_addRow_15 : decode cX0_addRow 15 = .ok (.iastore, 1) := by decide +kernel
theorem dX0_addRow_16 : decode cX0_addRow 16 = .ok (.aload_n 0, 1) := by decide +kernel
theorem dX0_addRow_17 : decode cX0_addRow 17 = .ok (.getfield 11, 3) := by decide +kernel
theorem dX0_addRow_20 : decode cX0_addRow 20 = .ok (.iload 6, 2) := by decide +kernel
theorem dX0_addRow_22 : decode cX0_addRow 22 = .ok (.iconst 1, 1) := by decide +kernel
theorem dX0_addRow_23 : decode cX0_addRow 23 = .ok (.iadd, 1) := by decide +kernel
theorem dX0_addRow_24 : decode cX0_addRow 24 = .ok (.iload_n 2, 1) := by decide +kernel
theorem dX0_addRow_25 : decode cX0_addRow 25 = .ok (.iastore, 1) := by decide +kernel
theorem dX0_addRow_26 : decode cX0_addRow 26 = .ok (.aload_n 0, 1) := by decide +kernel
theorem dX0_addRow_27 : decode cX0_addRow 27 = .ok (.getfield 11, 3) := by decide +kernel
theorem dX0_addRow_30 : decode cX0_addRow 30 = .ok (.iload 6, 2) := by decide +kernel
theorem dX0_addRow_32 : decode cX0_addRow 32 = .ok (.iconst 2, 1) := by decide +kernel
theorem dX0_addRow_33 : decode cX0_addRow 33 = .ok (.iadd, 1) := by decide +kernel
theorem dX0_addRow_34 : decode cX0_addRow 34 = .ok (.iload_n 3, 1) := by decide +kernel
theorem dX0_addRow_35 : decode cX0_addRow 35 = .ok (.iastore, 1) := by decide +kernel
theorem dX0_addRow_36 : decode cX0_addRow 36 = .ok (.aload_n 0, 1) := by decide +kernel
theorem dX0_addRow_37 : decode cX0_addRow 37 = .ok (.getfield 11, 3) := by decide +kernel
theorem dX0_addRow_40 : decode cX0_addRow 40 = .ok (.iload 6, 2) := by decide +kernel
theorem dX0_addRow_42 : decode cX0_addRow 42 = .ok (.iconst 3, 1) := by decide +kernel
theorem dX0_addRow_43 : decode cX0_addRow 43 = .ok (.iadd, 1) := by decide +kernel
theorem dX0_addRow_44 : decode cX0_addRow 44 = .ok (.iload 4, 2) := by decide +kernel
theorem dX0_addRow_46 : decode cX0_addRow 46 = .ok (.iastore, 1) := by decide +kernel
theorem dX0_addRow_47 : decode cX0_addRow 47 = .ok (.aload_n 0, 1) := by decide +kernel
theorem dX0_addRow_48 : decode cX0_addRow 48 = .ok (.getfield 11, 3) := by decide +kernel
theorem dX0_addRow_51 : decode cX0_addRow 51 = .ok (.iload 6, 2) := by decide +kernel
theorem dX0_addRow_53 : decode cX0_addRow 53 = .ok (.iconst 4, 1) := by decide +kernel
theorem dX0_addRow_54 : decode cX0_addRow 54 = .ok (.iadd, 1) := by decide +kernel
theorem dX0_addRow_55 : decode cX0_addRow 55 = .ok (.iload 5, 2) := by decide +kernel
theorem dX0_addRow_57 : decode cX0_addRow 57 = .ok (.iastore, 1) := by decide +kernel
theorem dX0_addRow_58 : decode cX0_addRow 58 = .ok (.aload_n 0, 1) := by decide +kernel
theorem dX0_addRow_59 : decode cX0_addRow 59 = .ok (.dup, 1) := by decide +kernel
theorem dX0_addRow_60 : decode cX0_addRow 60 = .ok (.getfield 15, 3) := by decide +kernel
theorem dX0_addRow_63 : decode cX0_addRow 63 = .ok (.iconst 1, 1) := by decide +kernel
theorem dX0_addRow_64 : decode cX0_addRow 64 = .ok (.iadd, 1) := by decide +kernel
theorem dX0_addRow_65 : decode cX0_addRow 65 = .ok (.putfield 15, 3) := by decide +kernel
theorem dX0_addRow_68 : decode cX0_addRow 68 = .ok (.return_, 1) := by decide +kernel
theorem dX0_carryOutOne_0 : decode cX0_carryOutOne 0 = .ok (.aload_n 0, 1) := by decide +kernel
theorem dX0_carryOutOne_1 : decode cX0_carryOutOne 1 = .ok (.getfield 11, 3) := by decide +kernel
theorem dX0_carryOutOne_4 : decode cX0_carryOutOne 4 = .ok (.iload_n 1, 1) := by decide +kernel
theorem dX0_carryOutOne_5 : decode cX0_carryOutOne 5 = .ok (.iconst 1, 1) := by decide +kernel
theorem dX0_carryOutOne_6 : decode cX0_carryOutOne 6 = .ok (.iadd, 1) := by decide +kernel
theorem dX0_carryOutOne_7 : decode cX0_carryOutOne 7 = .ok (.iaload, 1) := by decide +kernel
theorem dX0_carryOutOne_8 : decode cX0_carryOutOne 8 = .ok (.istore_n 3, 1) := by decide +kernel
theorem dX0_carryOutOne_9 : decode cX0_carryOutOne 9 = .ok (.aload_n 0, 1) := by decide +kernel
theorem dX0_carryOutOne_10 : decode cX0_carryOutOne 10 = .ok (.getfield 11, 3) := by decide +kernel
theorem dX0_carryOutOne_13 : decode cX0_carryOutOne 13 = .ok (.iload_n 1, 1) := by decide +kernel
theorem dX0_carryOutOne_14 : decode cX0_carryOutOne 14 = .ok (.iconst 2, 1) := by decide +kernel
theorem dX0_carryOutOne_15 : decode cX0_carryOutOne 15 = .ok (.iadd, 1) := by decide +kernel
theorem dX0_carryOutOne_16 : decode cX0_carryOutOne 16 = .ok (.iaload, 1) := by decide +kernel
theorem dX0_carryOutOne_17 : decode cX0_carryOutOne 17 = .ok (.istore 4, 2) := by decide +kernel
theorem dX0_carryOutOne_19 : decode cX0_carryOutOne 19 = .ok (.aload_n 0, 1) := by decide +kernel
theorem dX0_carryOutOne_20 : decode cX0_carryOutOne 20 = .ok (.getfield 11, 3) := by decide +kernel
theorem dX0_carryOutOne_23 : decode cX0_carryOutOne 23 = .ok (.iload_n 1, 1) := by decide +kernel
theorem dX0_carryOutOne_24 : decode cX0_carryOutOne 24 = .ok (.iconst 3, 1) := by decide +kernel
theorem dX0_carryOutOne_25 : decode cX0_carryOutOne 25 = .ok (.iadd, 1) := by decide +kernel
theorem dX0_carryOutOne_26 : decode cX0_carryOutOne 26 = .ok (.iaload, 1) := by decide +kernel
theorem dX0_carryOutOne_27 : decode cX0_carryOutOne 27 = .ok (.istore 5, 2) := by decide +kernel
theorem dX0_carryOutOne_29 : decode cX0_carryOutOne 29 = .ok (.aload_n 0, 1) := by decide +kernel
theorem dX0_carryOutOne_30 : decode cX0_carryOutOne 30 = .ok (.getfield 11, 3) := by decide +kernel
theorem dX0_carryOutOne_33 : decode cX0_carryOutOne 33 = .ok (.iload_n 1, 1) := by decide +kernel
theorem dX0_carryOutOne_34 : decode cX0_carryOutOne 34 = .ok (.iconst 4, 1) := by decide +kernel
theorem dX0_carryOutOne_35 : decode cX0_carryOutOne 35 = .ok (.iadd, 1) := by decide +kernel
theorem dX0_carryOutOne_36 : decode cX0_carryOutOne 36 = .ok (.iaload, 1) := by decide +kernel
theorem dX0_carryOutOne_37 : decode cX0_carryOutOne 37 = .ok (.istore 6, 2) := by decide +kernel
theorem dX0_carryOutOne_39 : decode cX0_carryOutOne 39 = .ok (.aload_n 0, 1) := by decide +kernel
theorem dX0_carryOutOne_40 : decode cX0_carryOutOne 40 = .ok (.getfield 11, 3) := by decide +kernel
theorem dX0_carryOutOne_43 : decode cX0_carryOutOne 43 = .ok (.iload_n 1, 1) := by decide +kernel
theorem dX0_carryOutOne_44 : decode cX0_carryOutOne 44 = .ok (.iaload, 1) := by decide +kernel
theorem dX0_carryOutOne_45 : decode cX0_carryOutOne 45 = .ok (.tableswitch 57 0 2 #[27, 39, 51], 27) := by decide +kernel
theorem dX0_carryOutOne_72 : decode cX0_carryOutOne 72 = .ok (.aload_n 2, 1) := by decide +kernel
theorem dX0_carryOutOne_73 : decode cX0_carryOutOne 73 = .ok (.iload 4, 2) := by decide +kernel
theorem dX0_carryOutOne_75 : decode cX0_carryOutOne 75 = .ok (.iload 5, 2) := by decide +kernel
theorem dX0_carryOutOne_77 : decode cX0_carryOutOne 77 = .ok (.iload_n 3, 1) := by decide +kernel
theorem dX0_carryOutOne_78 : decode cX0_carryOutOne 78 = .ok (.iload 6, 2) := by decide +kernel
theorem dX0_carryOutOne_80 : decode cX0_carryOutOne 80 = .ok (.invokevirtual 98, 3) := by decide +kernel
theorem dX0_carryOutOne_83 : decode cX0_carryOutOne 83 = .ok (.ireturn, 1) := by decide +kernel
theorem dX0_carryOutOne_84 : decode cX0_carryOutOne 84 = .ok (.aload_n 2, 1) := by decide +kernel
theorem dX0_carryOutOne_85 : decode cX0_carryOutOne 85 = .ok (.iload 4, 2) := by decide +kernel
theorem dX0_carryOutOne_87 : decode cX0_carryOutOne 87 = .ok (.iload 5, 2) := by decide +kernel
theorem dX0_carryOutOne_89 : decode cX0_carryOutOne 89 = .ok (.iload_n 3, 1) := by decide +kernel
theorem dX0_carryOutOne_90 : decode cX0_carryOutOne 90 = .ok (.iload 6, 2) := by decide +kernel
theorem dX0_carryOutOne_92 : decode cX0_carryOutOne 92 = .ok (.invokevirtual 103, 3) := by decide +kernel
theorem dX0_carryOutOne_95 : decode cX0_carryOutOne 95 = .ok (.ireturn, 1) := by decide +kernel
theorem dX0_carryOutOne_96 : decode cX0_carryOutOne 96 = .ok (.aload_n 2, 1) := by decide +kernel
theorem dX0_carryOutOne_97 : decode cX0_carryOutOne 97 = .ok (.iload_n 3, 1) := by decide +kernel
theorem dX0_carryOutOne_98 : decode cX0_carryOutOne 98 = .ok (.invokevirtual 105, 3) := by decide +kernel
theorem dX0_carryOutOne_101 : decode cX0_carryOutOne 101 = .ok (.ireturn, 1) := by decide +kernel
theorem dX0_carryOutOne_102 : decode cX0_carryOutOne 102 = .ok (.iload_n 3, 1) := by decide +kernel
theorem dX0_carryOutOne_103 : decode cX0_carryOutOne 103 = .ok (.aload_n 2, 1) := by decide +kernel
theorem dX0_carryOutOne_104 : decode cX0_carryOutOne 104 = .ok (.getfield 109, 3) := by decide +kernel
theorem dX0_carryOutOne_107 : decode cX0_carryOutOne 107 = .ok (.getfield 113, 3) := by decide +kernel
theorem dX0_carryOutOne_110 : decode cX0_carryOutOne 110 = .ok (.if_icmp .ge 11, 3) := by decide +kernel
theorem dX0_carryOutOne_113 : decode cX0_carryOutOne 113 = .ok (.aload_n 2, 1) := by decide +kernel
theorem dX0_carryOutOne_114 : decode cX0_carryOutOne 114 = .ok (.iload_n 3, 1) := by decide +kernel
theorem dX0_carryOutOne_115 : decode cX0_carryOutOne 115 = .ok (.invokevirtual 116, 3) := by decide +kernel
theorem dX0_carryOutOne_118 : decode cX0_carryOutOne 118 = .ok (.goto 4, 3) := by decide +kernel
theorem dX0_carryOutOne_121 : decode cX0_carryOutOne 121 = .ok (.iconst (-1), 1) := by decide +kernel
theorem dX0_carryOutOne_122 : decode cX0_carryOutOne 122 = .ok (.ireturn, 1) := by decide +kernel
theorem dX1_init_0 : decode cX1_init 0 = .ok (.aload_n 0, 1) := by decide +kernel
theorem dX1_init_1 : decode cX1_init 1 = .ok (.invokespecial 3, 3) := by decide +kernel
theorem dX1_init_4 : decode cX1_init 4 = .ok (.aload_n 0, 1) := by decide +kernel
theorem dX1_init_5 : decode cX1_init 5 = .ok (.iconst 0, 1) := by decide +kernel
theorem dX1_init_6 : decode cX1_init 6 = .ok (.putfield 9, 3) := by decide +kernel
theorem dX1_init_9 : decode cX1_init 9 = .ok (.aload_n 0, 1) := by decide +kernel
theorem dX1_init_10 : decode cX1_init 10 = .ok (.sipush 200, 3) := by decide +kernel
theorem dX1_init_13 : decode cX1_init 13 = .ok (.newarray .int, 2) := by decide +kernel
theorem dX1_init_15 : decode cX1_init 15 = .ok (.putfield 15, 3) := by decide +kernel
theorem dX1_init_18 : decode cX1_init 18 = .ok (.aload_n 0, 1) := by decide +kernel
theorem dX1_init_19 : decode cX1_init 19 = .ok (.sipush 200, 3) := by decide +kernel
theorem dX1_init_22 : decode cX1_init 22 = .ok (.newarray .int, 2) := by decide +kernel
theorem dX1_init_24 : decode cX1_init 24 = .ok (.putfield 19, 3) := by decide +kernel
theorem dX1_init_27 : decode cX1_init 27 = .ok (.aload_n 0, 1) := by decide +kernel
theorem dX1_init_28 : decode cX1_init 28 = .ok (.sipush 200, 3) := by decide +kernel
theorem dX1_init_31 : decode cX1_init 31 = .ok (.newarray .boolean, 2) := by decide +kernel
theorem dX1_init_33 : decode cX1_init 33 = .ok (.putfield 22, 3) := by decide +kernel
theorem dX1_init_36 : decode cX1_init 36 = .ok (.return_, 1) := by decide +kernel
theorem dX1_begin_0 : decode cX1_begin 0 = .ok (.aload_n 0, 1) := by decide +kernel
theorem dX1_begin_1 : decode cX1_begin 1 = .ok (.iload_n 1, 1) := by decide +kernel
theorem dX1_begin_2 : decode cX1_begin 2 = .ok (.putfield 9, 3) := by decide +kernel
theorem dX1_begin_5 : decode cX1_begin 5 = .ok (.iconst 0, 1) := by decide +kernel
theorem dX1_begin_6 : decode cX1_begin 6 = .ok (.istore_n 2, 1) := by decide +kernel
theorem dX1_begin_7 : decode cX1_begin 7 = .ok (.iload_n 2, 1) := by decide +kernel
theorem dX1_begin_8 : decode cX1_begin 8 = .ok (.sipush 200, 3) := by decide +kernel
theorem dX1_begin_11 : decode cX1_begin 11 = .ok (.if_icmp .ge 16, 3) := by decide +kernel
theorem dX1_begin_14 : decode cX1_begin 14 = .ok (.aload_n 0, 1) := by decide +kernel
theorem dX1_begin_15 : decode cX1_begin 15 = .ok (.iload_n 2, 1) := by decide +kernel
theorem dX1_begin_16 : decode cX1_begin 16 = .ok (.iconst 0, 1) := by decide +kernel
theorem dX1_begin_17 : decode cX1_begin 17 = .ok (.iconst 0, 1) := by decide +kernel
theorem dX1_begin_18 : decode cX1_begin 18 = .ok (.invokevirtual 26, 3) := by decide +kernel
theorem dX1_begin_21 : decode cX1_begin 21 = .ok (.iinc 2 1, 3) := by decide +kernel
theorem dX1_begin_24 : decode cX1_begin 24 = .ok (.goto (-17), 3) := by decide +kernel
theorem dX1_begin_27 : decode cX1_begin 27 = .ok (.return_, 1) := by decide +kernel
theorem dX1_copyFrom_0 : decode cX1_copyFrom 0 = .ok (.aload_n 0, 1) := by decide +kernel
theorem dX1_copyFrom_1 : decode cX1_copyFrom 1 = .ok (.aload_n 1, 1) := by decide +kernel
theorem dX1_copyFrom_2 : decode cX1_copyFrom 2 = .ok (.getfield 9, 3) := by decide +kernel
theorem dX1_copyFrom_5 : decode cX1_copyFrom 5 = .ok (.putfield 9, 3) := by decide +kernel
theorem dX1_copyFrom_8 : decode cX1_copyFrom 8 = .ok (.aload_n 1, 1) := by decide +kernel
theorem dX1_copyFrom_9 : decode cX1_copyFrom 9 = .ok (.getfield 15, 3) := by decide +kernel
theorem dX1_copyFrom_12 : decode cX1_copyFrom 12 = .ok (.iconst 0, 1) := by decide +kernel
theorem dX1_copyFrom_13 : decode cX1_copyFrom 13 = .ok (.aload_n 0, 1) := by decide +kernel
theorem dX1_copyFrom_14 : decode cX1_copyFrom 14 = .ok (.getfield 15, 3) := by decide +kernel
theorem dX1_copyFrom_17 : decode cX1_copyFrom 17 = .ok (.iconst 0, 1) := by decide +kernel
theorem dX1_copyFrom_18 : decode cX1_copyFrom 18 = .ok (.sipush 200, 3) := by decide +kernel
theorem dX1_copyFrom_21 : decode cX1_copyFrom 21 = .ok (.invokestatic 30, 3) := by decide +kernel
theorem dX1_copyFrom_24 : decode cX1_copyFrom 24 = .ok (.aload_n 1, 1) := by decide +kernel
theorem dX1_copyFrom_25 : decode cX1_copyFrom 25 = .ok (.getfield 19, 3) := by decide +kernel
theorem dX1_copyFrom_28 : decode cX1_copyFrom 28 = .ok (.iconst 0, 1) := by decide +kernel
theorem dX1_copyFrom_29 : decode cX1_copyFrom 29 = .ok (.aload_n 0, 1) := by decide +kernel
theorem dX1_copyFrom_30 : decode cX1_copyFrom 30 = .ok (.getfield 19, 3) := by decide +kernel
theorem dX1_copyFrom_33 : decode cX1_copyFrom 33 = .ok (.iconst 0, 1) := by decide +kernel
theorem dX1_copyFrom_34 : decode cX1_copyFrom 34 = .ok (.sipush 200, 3) := by decide +kernel
theorem dX1_copyFrom_37 : decode cX1_copyFrom 37 = .ok (.invokestatic 30, 3) := by decide +kernel
theorem dX1_copyFrom_40 : decode cX1_copyFrom 40 = .ok (.return_, 1) := by decide +kernel
theorem dX1_put_0 : decode cX1_put 0 = .ok (.aload_n 0, 1) := by decide +kernel
theorem dX1_put_1 : decode cX1_put 1 = .ok (.getfield 15, 3) := by decide +kernel
theorem dX1_put_4 : decode cX1_put 4 = .ok (.iload_n 1, 1) := by decide +kernel
theorem dX1_put_5 : decode cX1_put 5 = .ok (.iload_n 2, 1) := by decide +kernel
theorem dX1_put_6 : decode cX1_put 6 = .ok (.iastore, 1) := by decide +kernel
theorem dX1_put_7 : decode cX1_put 7 = .ok (.aload_n 0, 1) := by decide +kernel
theorem dX1_put_8 : decode cX1_put 8 = .ok (.getfield 19, 3) := by decide +kernel
theorem dX1_put_11 : decode cX1_put 11 = .ok (.iload_n 1, 1) := by decide +kernel
theorem dX1_put_12 : decode cX1_put 12 = .ok (.iload_n 3, 1) := by decide +kernel
theorem dX1_put_13 : decode cX1_put 13 = .ok (.iastore, 1) := by decide +kernel
theorem dX1_put_14 : decode cX1_put 14 = .ok (.return_, 1) := by decide +kernel
theorem dX1_countIn_0 : decode cX1_countIn 0 = .ok (.iconst 0, 1) := by decide +kernel
theorem dX1_countIn_1 : decode cX1_countIn 1 = .ok (.istore_n 2, 1) := by decide +kernel
theorem dX1_countIn_2 : decode cX1_countIn 2 = .ok (.iconst 0, 1) := by decide +kernel
theorem dX1_countIn_3 : decode cX1_countIn 3 = .ok (.istore_n 3, 1) := by decide +kernel
theorem dX1_countIn_4 : decode cX1_countIn 4 = .ok (.iload_n 3, 1) := by decide +kernel
theorem dX1_countIn_5 : decode cX1_countIn 5 = .ok (.aload_n 0, 1) := by decide +kernel
theorem dX1_countIn_6 : decode cX1_countIn 6 = .ok (.getfield 9, 3) := by decide +kernel
theorem dX1_countIn_9 : decode cX1_countIn 9 = .ok (.if_icmp .ge 22, 3) := by decide +kernel
theorem dX1_countIn_12 : decode cX1_countIn 12 = .ok (.aload_n 0, 1) := by decide +kernel
theorem dX1_countIn_13 : decode cX1_countIn 13 = .ok (.getfield 15, 3) := by decide +kernel
theorem dX1_countIn_16 : decode cX1_countIn 16 = .ok (.iload_n 3, 1) := by decide +kernel
theorem dX1_countIn_17 : decode cX1_countIn 17 = .ok (.iaload, 1) := by decide +kernel
theorem dX1_countIn_18 : decode cX1_countIn 18 = .ok (.iload_n 1, 1) := by decide +kernel
theorem dX1_countIn_19 : decode cX1_countIn 19 = .ok (.if_icmp .ne 6, 3) := by decide +kernel
theorem dX1_countIn_22 : decode cX1_countIn 22 = .ok (.iinc 2 1, 3) := by decide +kernel
theorem dX1_countIn_25 : decode cX1_countIn 25 = .ok (.iinc 3 1, 3) := by decide +kernel
theorem dX1_countIn_28 : decode cX1_countIn 28 = .ok (.goto (-24), 3) := by decide +kernel
theorem dX1_countIn_31 : decode cX1_countIn 31 = .ok (.iload_n 2, 1) := by decide +kernel
theorem dX1_countIn_32 : decode cX1_countIn 32 = .ok (.ireturn, 1) := by decide +kernel
theorem dX1_memberAt_0 : decode cX1_memberAt 0 = .ok (.iconst 0, 1) := by decide +kernel
theorem dX1_memberAt_1 : decode cX1_memberAt 1 = .ok (.istore_n 3, 1) := by decide +kernel
theorem dX1_memberAt_2 : decode cX1_memberAt 2 = .ok (.iconst 0, 1) := by decide +kernel
theorem dX1_memberAt_3 : decode cX1_memberAt 3 = .ok (.istore 4, 2) := by decide +kernel
theorem dX1_memberAt_5 : decode cX1_memberAt 5 = .ok (.iload 4, 2) := by decide +kernel
theorem dX1_memberAt_7 : decode cX1_memberAt 7 = .ok (.aload_n 0, 1) := by decide +kernel
theorem dX1_memberAt_8 : decode cX1_memberAt 8 = .ok (.getfield 9, 3) := by decide +kernel
theorem dX1_memberAt_11 : decode cX1_memberAt 11 = .ok (.if_icmp .ge 31, 3) := by decide +kernel
theorem dX1_memberAt_14 : decode cX1_memberAt 14 = .ok (.aload_n 0, 1) := by decide +kernel
theorem dX1_memberAt_15 : decode cX1_memberAt 15 = .ok (.getfield 15, 3) := by decide +kernel
theorem dX1_memberAt_18 : decode cX1_memberAt 18 = .ok (.iload 4, 2) := by decide +kernel
theorem dX1_memberAt_20 : decode cX1_memberAt 20 = .ok (.iaload, 1) := by decide +kernel
theorem dX1_memberAt_21 : decode cX1_memberAt 21 = .ok (.iload_n 1, 1) := by decide +kernel
theorem dX1_memberAt_22 : decode cX1_memberAt 22 = .ok (.if_icmp .ne 14, 3) := by decide +kernel
theorem dX1_memberAt_25 : decode cX1_memberAt 25 = .ok (.iload_n 3, 1) := by decide +kernel
theorem dX1_memberAt_26 : decode cX1_memberAt 26 = .ok (.iload_n 2, 1) := by decide +kernel
theorem dX1_memberAt_27 : decode cX1_memberAt 27 = .ok (.if_icmp .ne 6, 3) := by decide +kernel
theorem dX1_memberAt_30 : decode cX1_memberAt 30 = .ok (.iload 4, 2) := by decide +kernel
theorem dX1_memberAt_32 : decode cX1_memberAt 32 = .ok (.ireturn, 1) := by decide +kernel
theorem dX1_memberAt_33 : decode cX1_memberAt 33 = .ok (.iinc 3 1, 3) := by decide +kernel
theorem dX1_memberAt_36 : decode cX1_memberAt 36 = .ok (.iinc 4 1, 3) := by decide +kernel
theorem dX1_memberAt_39 : decode cX1_memberAt 39 = .ok (.goto (-34), 3) := by decide +kernel
theorem dX1_memberAt_42 : decode cX1_memberAt 42 = .ok (.iconst (-1), 1) := by decide +kernel
theorem dX1_memberAt_43 : decode cX1_memberAt 43 = .ok (.ireturn, 1) := by decide +kernel
theorem dX1_exchange_0 : decode cX1_exchange 0 = .ok (.aload_n 0, 1) := by decide +kernel
theorem dX1_exchange_1 : decode cX1_exchange 1 = .ok (.getfield 15, 3) := by decide +kernel
theorem dX1_exchange_4 : decode cX1_exchange 4 = .ok (.iload_n 1, 1) := by decide +kernel
theorem dX1_exchange_5 : decode cX1_exchange 5 = .ok (.iaload, 1) := by decide +kernel
theorem dX1_exchange_6 : decode cX1_exchange 6 = .ok (.istore_n 3, 1) := by decide +kernel
theorem dX1_exchange_7 : decode cX1_exchange 7 = .ok (.aload_n 0, 1) := by decide +kernel
theorem dX1_exchange_8 : decode cX1_exchange 8 = .ok (.getfield 19, 3) := by decide +kernel
theorem dX1_exchange_11 : decode cX1_exchange 11 = .ok (.iload_n 1, 1) := by decide +kernel
theorem dX1_exchange_12 : decode cX1_exchange 12 = .ok (.iaload, 1) := by decide +kernel
theorem dX1_exchange_13 : decode cX1_exchange 13 = .ok (.istore 4, 2) := by decide +kernel
theorem dX1_exchange_15 : decode cX1_exchange 15 = .ok (.aload_n 0, 1) := by decide +kernel
theorem dX1_exchange_16 : decode cX1_exchange 16 = .ok (.iload_n 1, 1) := by decide +kernel
theorem dX1_exchange_17 : decode cX1_exchange 17 = .ok (.aload_n 0, 1) := by decide +kernel
theorem dX1_exchange_18 : decode cX1_exchange 18 = .ok (.getfield 15, 3) := by decide +kernel
theorem dX1_exchange_21 : decode cX1_exchange 21 = .ok (.iload_n 2, 1) := by decide +kernel
theorem dX1_exchange_22 : decode cX1_exchange 22 = .ok (.iaload, 1) := by decide +kernel
theorem dX1_exchange_23 : decode cX1_exchange 23 = .ok (.aload_n 0, 1) := by decide +kernel
theorem dX1_exchange_24 : decode cX1_exchange 24 = .ok (.getfield 19, 3) := by decide +kernel
theorem dX1_exchange_27 : decode cX1_exchange 27 = .ok (.iload_n 2, 1) := by decide +kernel
theorem dX1_exchange_28 : decode cX1_exchange 28 = .ok (.iaload, 1) := by decide +kernel
theorem dX1_exchange_29 : decode cX1_exchange 29 = .ok (.invokevirtual 26, 3) := by decide +kernel
theorem dX1_exchange_32 : decode cX1_exchange 32 = .ok (.aload_n 0, 1) := by decide +kernel
theorem dX1_exchange_33 : decode cX1_exchange 33 = .ok (.iload_n 2, 1) := by decide +kernel
theorem dX1_exchange_34 : decode cX1_exchange 34 = .ok (.iload_n 3, 1) := by decide +kernel
theorem dX1_exchange_35 : decode cX1_exchange 35 = .ok (.iload 4, 2) := by decide +kernel
theorem dX1_exchange_37 : decode cX1_exchange 37 = .ok (.invokevirtual 26, 3) := by decide +kernel
theorem dX1_exchange_40 : decode cX1_exchange 40 = .ok (.aload_n 0, 1) := by decide +kernel
theorem dX1_exchange_41 : decode cX1_exchange 41 = .ok (.getfield 15, 3) := by decide +kernel
theorem dX1_exchange_44 : decode cX1_exchange 44 = .ok (.iload_n 1, 1) := by decide +kernel
theorem dX1_exchange_45 : decode cX1_exchange 45 = .ok (.iaload, 1) := by decide +kernel
theorem dX1_exchange_46 : decode cX1_exchange 46 = .ok (.iload_n 3, 1) := by decide +kernel
theorem dX1_exchange_47 : decode cX1_exchange 47 = .ok (.if_icmp .eq 7, 3) := by decide +kernel
theorem dX1_exchange_50 : decode cX1_exchange 50 = .ok (.iconst 1, 1) := by decide +kernel
theorem dX1_exchange_51 : decode cX1_exchange 51 = .ok (.goto 4, 3) := by decide +kernel
theorem dX1_exchange_54 : decode cX1_exchange 54 = .ok (.iconst 0, 1) := by decide +kernel
theorem dX1_exchange_55 : decode cX1_exchange 55 = .ok (.ireturn, 1) := by decide +kernel
theorem dX1_pick_0 : decode cX1_pick 0 = .ok (.aload_n 0, 1) := by decide +kernel
theorem dX1_pick_1 : decode cX1_pick 1 = .ok (.invokevirtual 36, 3) := by decide +kernel
theorem dX1_pick_4 : decode cX1_pick 4 = .ok (.iload_n 1, 1) := by decide +kernel
theorem dX1_pick_5 : decode cX1_pick 5 = .ok (.tableswitch 60 1 3 #[27, 36, 45], 27) := by decide +kernel
theorem dX1_pick_32 : decode cX1_pick 32 = .ok (.aload_n 0, 1) := by decide +kernel
theorem dX1_pick_33 : decode cX1_pick 33 = .ok (.iload_n 2, 1) := by decide +kernel
theorem dX1_pick_34 : decode cX1_pick 34 = .ok (.iload_n 3, 1) := by decide +kernel
theorem dX1_pick_35 : decode cX1_pick 35 = .ok (.invokevirtual 39, 3) := by decide +kernel
theorem dX1_pick_38 : decode cX1_pick 38 = .ok (.goto 34, 3) := by decide +kernel
theorem dX1_pick_41 : decode cX1_pick 41 = .ok (.aload_n 0, 1) := by decide +kernel
theorem dX1_pick_42 : decode cX1_pick 42 = .ok (.iload_n 2, 1) := by decide +kernel
theorem dX1_pick_43 : decode cX1_pick 43 = .ok (.iload_n 3, 1) := by decide +kernel
theorem dX1_pick_44 : decode cX1_pick 44 = .ok (.invokevirtual 43, 3) := by decide +kernel
theorem dX1_pick_47 : decode cX1_pick 47 = .ok (.goto 25, 3) := by decide +kernel
theorem dX1_pick_50 : decode cX1_pick 50 = .ok (.aload_n 0, 1) := by decide +kernel
theorem dX1_pick_51 : decode cX1_pick 51 = .ok (.iload_n 2, 1) := by decide +kernel
theorem dX1_pick_52 : decode cX1_pick 52 = .ok (.iload_n 3, 1) := by decide +kernel
theorem dX1_pick_53 : decode cX1_pick 53 = .ok (.aload_n 0, 1) := by decide +kernel
theorem dX1_pick_54 : decode cX1_pick 54 = .ok (.iload_n 2, 1) := by decide +kernel
theorem dX1_pick_55 : decode cX1_pick 55 = .ok (.iload_n 3, 1) := by decide +kernel
theorem dX1_pick_56 : decode cX1_pick 56 = .ok (.invokevirtual 46, 3) := by decide +kernel
theorem dX1_pick_59 : decode cX1_pick 59 = .ok (.invokevirtual 50, 3) := by decide +kernel
theorem dX1_pick_62 : decode cX1_pick 62 = .ok (.goto 10, 3) := by decide +kernel
theorem dX1_pick_65 : decode cX1_pick 65 = .ok (.aload_n 0, 1) := by decide +kernel
theorem dX1_pick_66 : decode cX1_pick 66 = .ok (.iload_n 2, 1) := by decide +kernel
theorem dX1_pick_67 : decode cX1_pick 67 = .ok (.iload_n 3, 1) := by decide +kernel
theorem dX1_pick_68 : decode cX1_pick 68 = .ok (.iconst 0, 1) := by decide +kernel
theorem dX1_pick_69 : decode cX1_pick 69 = .ok (.invokevirtual 50, 3) := by decide +kernel
theorem dX1_pick_72 : decode cX1_pick 72 = .ok (.return_, 1) := by decide +kernel
theorem dX1_pickOne_0 : decode cX1_pickOne 0 = .ok (.aload_n 0, 1) := by decide +kernel
theorem dX1_pickOne_1 : decode cX1_pickOne 1 = .ok (.invokevirtual 36, 3) := by decide +kernel
theorem dX1_pickOne_4 : decode cX1_pickOne 4 = .ok (.aload_n 0, 1) := by decide +kernel
theorem dX1_pickOne_5 : decode cX1_pickOne 5 = .ok (.getfield 22, 3) := by decide +kernel
theorem dX1_pickOne_8 : decode cX1_pickOne 8 = .ok (.iload_n 1, 1) := by decide +kernel
theorem dX1_pickOne_9 : decode cX1_pickOne 9 = .ok (.iconst 1, 1) := by decide +kernel
theorem dX1_pickOne_10 : decode cX1_pickOne 10 = .ok (.bastore, 1) := by decide +kernel
theorem dX1_pickOne_11 : decode cX1_pickOne 11 = .ok (.return_, 1) := by decide +kernel
theorem dX1_pickNothing_0 : decode cX1_pickNothing 0 = .ok (.iconst 0, 1) := by decide +kernel
theorem dX1_pickNothing_1 : decode cX1_pickNothing 1 = .ok (.istore_n 1, 1) := by decide +kernel
theorem dX1_pickNothing_2 : decode cX1_pickNothing 2 = .ok (.iload_n 1, 1) := by decide +kernel
theorem dX1_pickNothing_3 : decode cX1_pickNothing 3 = .ok (.sipush 200, 3) := by decide +kernel
theorem dX1_pickNothing_6 : decode cX1_pickNothing 6 = .ok (.if_icmp .ge 16, 3) := by decide +kernel
theorem dX1_pickNothing_9 : decode cX1_pickNothing 9 = .ok (.aload_n 0, 1) := by decide +kernel
theorem dX1_pickNothing_10 : decode cX1_pickNothing 10 = .ok (.getfield 22, 3) := by decide +kernel
theorem dX1_pickNothing_13 : decode cX1_pickNothing 13 = .ok (.iload_n 1, 1) := by decide +kernel
theorem dX1_pickNothing_14 : decode cX1_pickNothing 14 = .ok (.iconst 0, 1) := by decide +kernel
theorem dX1_pickNothing_15 : decode cX1_pickNothing 15 = .ok (.bastore, 1) := by decide +kernel
theorem dX1_pickNothing_16 : decode cX1_pickNothing 16 = .ok (.iinc 1 1, 3) := by decide +kernel
theorem dX1_pickNothing_19 : decode cX1_pickNothing 19 = .ok (.goto (-17), 3) := by decide +kernel
theorem dX1_pickNothing_22 : decode cX1_pickNothing 22 = .ok (.return_, 1) := by decide +kernel
theorem dX1_pickLowest_0 : decode cX1_pickLowest 0 = .ok (.iload_n 2, 1) := by decide +kernel
theorem dX1_pickLowest_1 : decode cX1_pickLowest 1 = .ok (.istore 4, 2) := by decide +kernel
theorem dX1_pickLowest_3 : decode cX1_pickLowest 3 = .ok (.iload_n 3, 1) := by decide +kernel
theorem dX1_pickLowest_4 : decode cX1_pickLowest 4 = .ok (.istore 5, 2) := by decide +kernel
theorem dX1_pickLowest_6 : decode cX1_pickLowest 6 = .ok (.iload 5, 2) := by decide +kernel
theorem dX1_pickLowest_8 : decode cX1_pickLowest 8 = .ok (.aload_n 0, 1) := by decide +kernel
theorem dX1_pickLowest_9 : decode cX1_pickLowest 9 = .ok (.getfield 9, 3) := by decide +kernel
theorem dX1_pickLowest_12 : decode cX1_pickLowest 12 = .ok (.if_icmp .ge 36, 3) := by decide +kernel
theorem dX1_pickLowest_15 : decode cX1_pickLowest 15 = .ok (.iload 4, 2) := by decide +kernel
theorem dX1_pickLowest_17 : decode cX1_pickLowest 17 = .ok (.ifCond .le 31, 3) := by decide +kernel
theorem dX1_pickLowest_20 : decode cX1_pickLowest 20 = .ok (.aload_n 0, 1) := by decide +kernel
theorem dX1_pickLowest_21 : decode cX1_pickLowest 21 = .ok (.getfield 15, 3) := by decide +kernel
theorem dX1_pickLowest_24 : decode cX1_pickLowest 24 = .ok (.iload 5, 2) := by decide +kernel
theorem dX1_pickLowest_26 : decode cX1_pickLowest 26 = .ok (.iaload, 1) := by decide +kernel
theorem dX1_pickLowest_27 : decode cX1_pickLowest 27 = .ok (.iload_n 1, 1) := by decide +kernel
theorem dX1_pickLowest_28 : decode cX1_pickLowest 28 = .ok (.if_icmp .ne 14, 3) := by decide +kernel
theorem dX1_pickLowest_31 : decode cX1_pickLowest 31 = .ok (.aload_n 0, 1) := by decide +kernel
theorem dX1_pickLowest_32 : decode cX1_pickLowest 32 = .ok (.getfield 22, 3) := by decide +kernel
theorem dX1_pickLowest_35 : decode cX1_pickLowest 35 = .ok (.iload 5, 2) := by decide +kernel
theorem dX1_pickLowest_37 : decode cX1_pickLowest 37 = .ok (.iconst 1, 1) := by decide +kernel
theorem dX1_pickLowest_38 : decode cX1_pickLowest 38 = .ok (.bastore, 1) := by decide +kernel
theorem dX1_pickLowest_39 : decode cX1_pickLowest 39 = .ok (.iinc 4 (-1), 3) := by decide +kernel
theorem dX1_pickLowest_42 : decode cX1_pickLowest 42 = .ok (.iinc 5 1, 3) := by decide +kernel
theorem dX1_pickLowest_45 : decode cX1_pickLowest 45 = .ok (.goto (-39), 3) := by decide +kernel
theorem dX1_pickLowest_48 : decode cX1_pickLowest 48 = .ok (.return_, 1) := by decide +kernel
theorem dX1_pickHighest_0 : decode cX1_pickHighest 0 = .ok (.iload_n 2, 1) := by decide +kernel
theorem dX1_pickHighest_1 : decode cX1_pickHighest 1 = .ok (.istore_n 3, 1) := by decide +kernel
theorem dX1_pickHighest_2 : decode cX1_pickHighest 2 = .ok (.aload_n 0, 1) := by decide +kernel
theorem dX1_pickHighest_3 : decode cX1_pickHighest 3 = .ok (.getfield 9, 3) := by decide +kernel
theorem dX1_pickHighest_6 : decode cX1_pickHighest 6 = .ok (.iconst 1, 1) := by decide +kernel
theorem dX1_pickHighest_7 : decode cX1_pickHighest 7 = .ok (.isub, 1) := by decide +kernel
theorem dX1_pickHighest_8 : decode cX1_pickHighest 8 = .ok (.istore 4, 2) := by decide +kernel
theorem dX1_pickHighest_10 : decode cX1_pickHighest 10 = .ok (.iload 4, 2) := by decide +kernel
theorem dX1_pickHighest_12 : decode cX1_pickHighest 12 = .ok (.ifCond .lt 35, 3) := by decide +kernel
theorem dX1_pickHighest_15 : decode cX1_pickHighest 15 = .ok (.iload_n 3, 1) := by decide +kernel
theorem dX1_pickHighest_16 : decode cX1_pickHighest 16 = .ok (.ifCond .le 31, 3) := by decide +kernel
theorem dX1_pickHighest_19 : decode cX1_pickHighest 19 = .ok (.aload_n 0, 1) := by decide +kernel
theorem dX1_pickHighest_20 : decode cX1_pickHighest 20 = .ok (.getfield 15, 3) := by decide +kernel
theorem dX1_pickHighest_23 : decode cX1_pickHighest 23 = .ok (.iload 4, 2) := by decide +kernel
theorem dX1_pickHighest_25 : decode cX1_pickHighest 25 = .ok (.iaload, 1) := by decide +kernel
theorem dX1_pickHighest_26 : decode cX1_pickHighest 26 = .ok (.iload_n 1, 1) := by decide +kernel
theorem dX1_pickHighest_27 : decode cX1_pickHighest 27 = .ok (.if_icmp .ne 14, 3) := by decide +kernel
theorem dX1_pickHighest_30 : decode cX1_pickHighest 30 = .ok (.aload_n 0, 1) := by decide +kernel
theorem dX1_pickHighest_31 : decode cX1_pickHighest 31 = .ok (.getfield 22, 3) := by decide +kernel
theorem dX1_pickHighest_34 : decode cX1_pickHighest 34 = .ok (.iload 4, 2) := by decide +kernel
theorem dX1_pickHighest_36 : decode cX1_pickHighest 36 = .ok (.iconst 1, 1) := by decide +kernel
theorem dX1_pickHighest_37 : decode cX1_pickHighest 37 = .ok (.bastore, 1) := by decide +kernel
theorem dX1_pickHighest_38 : decode cX1_pickHighest 38 = .ok (.iinc 3 (-1), 3) := by decide +kernel
theorem dX1_pickHighest_41 : decode cX1_pickHighest 41 = .ok (.iinc 4 (-1), 3) := by decide +kernel
theorem dX1_pickHighest_44 : decode cX1_pickHighest 44 = .ok (.goto (-34), 3) := by decide +kernel
theorem dX1_pickHighest_47 : decode cX1_pickHighest 47 = .ok (.return_, 1) := by decide +kernel
theorem dX1_pickOldest_0 : decode cX1_pickOldest 0 = .ok (.iload_n 2, 1) := by decide +kernel
theorem dX1_pickOldest_1 : decode cX1_pickOldest 1 = .ok (.istore_n 3, 1) := by decide +kernel
theorem dX1_pickOldest_2 : decode cX1_pickOldest 2 = .ok (.aload_n 0, 1) := by decide +kernel
theorem dX1_pickOldest_3 : decode cX1_pickOldest 3 = .ok (.iload_n 1, 1) := by decide +kernel
theorem dX1_pickOldest_4 : decode cX1_pickOldest 4 = .ok (.iconst (-1), 1) := by decide +kernel
theorem dX1_pickOldest_5 : decode cX1_pickOldest 5 = .ok (.invokevirtual 53, 3) := by decide +kernel
theorem dX1_pickOldest_8 : decode cX1_pickOldest 8 = .ok (.istore 4, 2) := by decide +kernel
theorem dX1_pickOldest_10 : decode cX1_pickOldest 10 = .ok (.iconst 0, 1) := by decide +kernel
theorem dX1_pickOldest_11 : decode cX1_pickOldest 11 = .ok (.istore 5, 2) := by decide +kernel
theorem dX1_pickOldest_13 : decode cX1_pickOldest 13 = .ok (.iload 5, 2) := by decide +kernel
theorem dX1_pickOldest_15 : decode cX1_pickOldest 15 = .ok (.sipush 200, 3) := by decide +kernel
theorem dX1_pickOldest_18 : decode cX1_pickOldest 18 = .ok (.if_icmp .ge 84, 3) := by decide +kernel
theorem dX1_pickOldest_21 : decode cX1_pickOldest 21 = .ok (.iload_n 3, 1) := by decide +kernel
theorem dX1_pickOldest_22 : decode cX1_pickOldest 22 = .ok (.ifCond .le 80, 3) := by decide +kernel
theorem dX1_pickOldest_25 : decode cX1_pickOldest 25 = .ok (.iload 4, 2) := by decide +kernel
theorem dX1_pickOldest_27 : decode cX1_pickOldest 27 = .ok (.iconst (-1), 1) := by decide +kernel
theorem dX1_pickOldest_28 : decode cX1_pickOldest 28 = .ok (.if_icmp .eq 74, 3) := by decide +kernel
theorem dX1_pickOldest_31 : decode cX1_pickOldest 31 = .ok (.iconst 0, 1) := by decide +kernel
theorem dX1_pickOldest_32 : decode cX1_pickOldest 32 = .ok (.istore 6, 2) := by decide +kernel
theorem dX1_pickOldest_34 : decode cX1_pickOldest 34 = .ok (.iload 6, 2) := by decide +kernel
theorem dX1_pickOldest_36 : decode cX1_pickOldest 36 = .ok (.aload_n 0, 1) := by decide +kernel
theorem dX1_pickOldest_37 : decode cX1_pickOldest 37 = .ok (.getfield 9, 3) := by decide +kernel
theorem dX1_pickOldest_40 : decode cX1_pickOldest 40 = .ok (.if_icmp .ge 47, 3) := by decide +kernel
theorem dX1_pickOldest_43 : decode cX1_pickOldest 43 = .ok (.iload_n 3, 1) := by decide +kernel
theorem dX1_pickOldest_44 : decode cX1_pickOldest 44 = .ok (.ifCond .le 43, 3) := by decide +kernel
theorem dX1_pickOldest_47 : decode cX1_pickOldest 47 = .ok (.aload_n 0, 1) := by decide +kernel
theorem dX1_pickOldest_48 : decode cX1_pickOldest 48 = .ok (.getfield 15, 3) := by decide +kernel
theorem dX1_pickOldest_51 : decode cX1_pickOldest 51 = .ok (.iload 6, 2) := by decide +kernel
theorem dX1_pickOldest_53 : decode cX1_pickOldest 53 = .ok (.iaload, 1) := by decide +kernel
theorem dX1_pickOldest_54 : decode cX1_pickOldest 54 = .ok (.iload_n 1, 1) := by decide +kernel
theorem dX1_pickOldest_55 : decode cX1_pickOldest 55 = .ok (.if_icmp .ne 26, 3) := by decide +kernel
theorem dX1_pickOldest_58 : decode cX1_pickOldest 58 = .ok (.aload_n 0, 1) := by decide +kernel
theorem dX1_pickOldest_59 : decode cX1_pickOldest 59 = .ok (.getfield 19, 3) := by decide +kernel
theorem dX1_pickOldest_62 : decode cX1_pickOldest 62 = .ok (.iload 6, 2) := by decide +kernel
theorem dX1_pickOldest_64 : decode cX1_pickOldest 64 = .ok (.iaload, 1) := by decide +kernel
theorem dX1_pickOldest_65 : decode cX1_pickOldest 65 = .ok (.iload 4, 2) := by decide +kernel
theorem dX1_pickOldest_67 : decode cX1_pickOldest 67 = .ok (.if_icmp .ne 14, 3) := by decide +kernel
theorem dX1_pickOldest_70 : decode cX1_pickOldest 70 = .ok (.aload_n 0, 1) := by decide +kernel
theorem dX1_pickOldest_71 : decode cX1_pickOldest 71 = .ok (.getfield 22, 3) := by decide +kernel
theorem dX1_pickOldest_74 : decode cX1_pickOldest 74 = .ok (.iload 6, 2) := by decide +kernel
theorem dX1_pickOldest_76 : decode cX1_pickOldest 76 = .ok (.iconst 1, 1) := by decide +kernel
theorem dX1_pickOldest_77 : decode cX1_pickOldest 77 = .ok (.bastore, 1) := by decide +kernel
theorem dX1_pickOldest_78 : decode cX1_pickOldest 78 = .ok (.iinc 3 (-1), 3) := by decide +kernel
theorem dX1_pickOldest_81 : decode cX1_pickOldest 81 = .ok (.iinc 6 1, 3) := by decide +kernel
theorem dX1_pickOldest_84 : decode cX1_pickOldest 84 = .ok (.goto (-50), 3) := by decide +kernel
theorem dX1_pickOldest_87 : decode cX1_pickOldest 87 = .ok (.aload_n 0, 1) := by decide +kernel
theorem dX1_pickOldest_88 : decode cX1_pickOldest 88 = .ok (.iload_n 1, 1) := by decide +kernel
theorem dX1_pickOldest_89 : decode cX1_pickOldest 89 = .ok (.iload 4, 2) := by decide +kernel
theorem dX1_pickOldest_91 : decode cX1_pickOldest 91 = .ok (.invokevirtual 53, 3) := by decide +kernel
theorem dX1_pickOldest_94 : decode cX1_pickOldest 94 = .ok (.istore 4, 2) := by decide +kernel
theorem dX1_pickOldest_96 : decode cX1_pickOldest 96 = .ok (.iinc 5 1, 3) := by decide +kernel
theorem dX1_pickOldest_99 : decode cX1_pickOldest 99 = .ok (.goto (-86), 3) := by decide +kernel
theorem dX1_pickOldest_102 : decode cX1_pickOldest 102 = .ok (.return_, 1) := by decide +kernel
theorem dX1_nextTime_0 : decode cX1_nextTime 0 = .ok (.iconst (-1), 1) := by decide +kernel
theorem dX1_nextTime_1 : decode cX1_nextTime 1 = .ok (.istore_n 3, 1) := by decide +kernel
theorem dX1_nextTime_2 : decode cX1_nextTime 2 = .ok (.iconst 0, 1) := by decide +kernel
theorem dX1_nextTime_3 : decode cX1_nextTime 3 = .ok (.istore 4, 2) := by decide +kernel
theorem dX1_nextTime_5 : decode cX1_nextTime 5 = .ok (.iload 4, 2) := by decide +kernel
theorem dX1_nextTime_7 : decode cX1_nextTime 7 = .ok (.aload_n 0, 1) := by decide +kernel
theorem dX1_nextTime_8 : decode cX1_nextTime 8 = .ok (.getfield 9, 3) := by decide +kernel
theorem dX1_nextTime_11 : decode cX1_nextTime 11 = .ok (.if_icmp .ge 67, 3) := by decide +kernel
theorem dX1_nextTime_14 : decode cX1_nextTime 14 = .ok (.aload_n 0, 1) := by decide +kernel
theorem dX1_nextTime_15 : decode cX1_nextTime 15 = .ok (.getfield 15, 3) := by decide +kernel
theorem dX1_nextTime_18 : decode cX1_nextTime 18 = .ok (.iload 4, 2) := by decide +kernel
theorem dX1_nextTime_20 : decode cX1_nextTime 20 = .ok (.iaload, 1) := by decide +kernel
theorem dX1_nextTime_21 : decode cX1_nextTime 21 = .ok (.iload_n 1, 1) := by decide +kernel
theorem dX1_nextTime_22 : decode cX1_nextTime 22 = .ok (.if_icmp .ne 18, 3) := by decide +kernel
theorem dX1_nextTime_25 : decode cX1_nextTime 25 = .ok (.aload_n 0, 1) := by decide +kernel
theorem dX1_nextTime_26 : decode cX1_nextTime 26 = .ok (.getfield 19, 3) := by decide +kernel
theorem dX1_nextTime_29 : decode cX1_nextTime 29 = .ok (.iload 4, 2) := by decide +kernel
theorem dX1_nextTime_31 : decode cX1_nextTime 31 = .ok (.iaload, 1) := by decide +kernel
theorem dX1_nextTime_32 : decode cX1_nextTime 32 = .ok (.iload_n 2, 1) := by decide +kernel
theorem dX1_nextTime_33 : decode cX1_nextTime 33 = .ok (.if_icmp .le 7, 3) := by decide +kernel
theorem dX1_nextTime_36 : decode cX1_nextTime 36 = .ok (.iconst 1, 1) := by decide +kernel
theorem dX1_nextTime_37 : decode cX1_nextTime 37 = .ok (.goto 4, 3) := by decide +kernel
theorem dX1_nextTime_40 : decode cX1_nextTime 40 = .ok (.iconst 0, 1) := by decide +kernel
theorem dX1_nextTime_41 : decode cX1_nextTime 41 = .ok (.istore 5, 2) := by decide +kernel
theorem dX1_nextTime_43 : decode cX1_nextTime 43 = .ok (.iload 5, 2) := by decide +kernel
theorem dX1_nextTime_45 : decode cX1_nextTime 45 = .ok (.ifCond .eq 27, 3) := by decide +kernel
theorem dX1_nextTime_48 : decode cX1_nextTime 48 = .ok (.iload_n 3, 1) := by decide +kernel
theorem dX1_nextTime_49 : decode cX1_nextTime 49 = .ok (.iconst (-1), 1) := by decide +kernel
theorem dX1_nextTime_50 : decode cX1_nextTime 50 = .ok (.if_icmp .eq 14, 3) := by decide +kernel
theorem dX1_nextTime_53 : decode cX1_nextTime 53 = .ok (.aload_n 0, 1) := by decide +kernel
theorem dX1_nextTime_54 : decode cX1_nextTime 54 = .ok (.getfield 19, 3) := by decide +kernel
theorem dX1_nextTime_57 : decode cX1_nextTime 57 = .ok (.iload 4, 2) := by decide +kernel
theorem dX1_nextTime_59 : decode cX1_nextTime 59 = .ok (.iaload, 1) := by decide +kernel
theorem dX1_nextTime_60 : decode cX1_nextTime 60 = .ok (.iload_n 3, 1) := by decide +kernel
theorem dX1_nextTime_61 : decode cX1_nextTime 61 = .ok (.if_icmp .ge 11, 3) := by decide +kernel
theorem dX1_nextTime_64 : decode cX1_nextTime 64 = .ok (.aload_n 0, 1) := by decide +kernel
theorem dX1_nextTime_65 : decode cX1_nextTime 65 = .ok (.getfield 19, 3) := by decide +kernel
theorem dX1_nextTime_68 : decode cX1_nextTime 68 = .ok (.iload 4, 2) := by decide +kernel
theorem dX1_nextTime_70 : decode cX1_nextTime 70 = .ok (.iaload, 1) := by decide +kernel
theorem dX1_nextTime_71 : decode cX1_nextTime 71 = .ok (.istore_n 3, 1) := by decide +kernel
theorem dX1_nextTime_72 : decode cX1_nextTime 72 = .ok (.iinc 4 1, 3) := by decide +kernel
theorem dX1_nextTime_75 : decode cX1_nextTime 75 = .ok (.goto (-70), 3) := by decide +kernel
theorem dX1_nextTime_78 : decode cX1_nextTime 78 = .ok (.iload_n 3, 1) := by decide +kernel
theorem dX1_nextTime_79 : decode cX1_nextTime 79 = .ok (.ireturn, 1) := by decide +kernel
theorem dX1_fittingStart_0 : decode cX1_fittingStart 0 = .ok (.iconst 0, 1) := by decide +kernel
theorem dX1_fittingStart_1 : decode cX1_fittingStart 1 = .ok (.istore_n 3, 1) := by decide +kernel
theorem dX1_fittingStart_2 : decode cX1_fittingStart 2 = .ok (.sipush 201, 3) := by decide +kernel
theorem dX1_fittingStart_5 : decode cX1_fittingStart 5 = .ok (.istore 4, 2) := by decide +kernel
theorem dX1_fittingStart_7 : decode cX1_fittingStart 7 = .ok (.iconst 0, 1) := by decide +kernel
theorem dX1_fittingStart_8 : decode cX1_fittingStart 8 = .ok (.istore 5, 2) := by decide +kernel
theorem dX1_fittingStart_10 : decode cX1_fittingStart 10 = .ok (.iconst 0, 1) := by decide +kernel
theorem dX1_fittingStart_11 : decode cX1_fittingStart 11 = .ok (.istore 6, 2) := by decide +kernel
theorem dX1_fittingStart_13 : decode cX1_fittingStart 13 = .ok (.iload 6, 2) := by decide +kernel
theorem dX1_fittingStart_15 : decode cX1_fittingStart 15 = .ok (.aload_n 0, 1) := by decide +kernel
theorem dX1_fittingStart_16 : decode cX1_fittingStart 16 = .ok (.getfield 9, 3) := by decide +kernel
theorem dX1_fittingStart_19 : decode cX1_fittingStart 19 = .ok (.if_icmp .ge 65, 3) := by decide +kernel
theorem dX1_fittingStart_22 : decode cX1_fittingStart 22 = .ok (.aload_n 0, 1) := by decide +kernel
theorem dX1_fittingStart_23 : decode cX1_fittingStart 23 = .ok (.getfield 15, 3) := by decide +kernel
theorem dX1_fittingStart_26 : decode cX1_fittingStart 26 = .ok (.iload 6, 2) := by decide +kernel
theorem dX1_fittingStart_28 : decode cX1_fittingStart 28 = .ok (.iaload, 1) := by decide +kernel
theorem dX1_fittingStart_29 : decode cX1_fittingStart 29 = .ok (.iload_n 1, 1) := by decide +kernel
theorem dX1_fittingStart_30 : decode cX1_fittingStart 30 = .ok (.if_icmp .ne 10, 3) := by decide +kernel
theorem dX1_fittingStart_33 : decode cX1_fittingStart 33 = .ok (.iload 5, 2) := by decide +kernel
theorem dX1_fittingStart_35 : decode cX1_fittingStart 35 = .ok (.iconst 1, 1) := by decide +kernel
theorem dX1_fittingStart_36 : decode cX1_fittingStart 36 = .ok (.iadd, 1) := by decide +kernel
theorem dX1_fittingStart_37 : decode cX1_fittingStart 37 = .ok (.goto 4, 3) := by decide +kernel
theorem dX1_fittingStart_40 : decode cX1_fittingStart 40 = .ok (.iconst 0, 1) := by decide +kernel
theorem dX1_fittingStart_41 : decode cX1_fittingStart 41 = .ok (.istore 5, 2) := by decide +kernel
theorem dX1_fittingStart_43 : decode cX1_fittingStart 43 = .ok (.aload_n 0, 1) := by decide +kernel
theorem dX1_fittingStart_44 : decode cX1_fittingStart 44 = .ok (.iload_n 1, 1) := by decide +kernel
theorem dX1_fittingStart_45 : decode cX1_fittingStart 45 = .ok (.iload 6, 2) := by decide +kernel
theorem dX1_fittingStart_47 : decode cX1_fittingStart 47 = .ok (.invokevirtual 56, 3) := by decide +kernel
theorem dX1_fittingStart_50 : decode cX1_fittingStart 50 = .ok (.ifCond .eq 28, 3) := by decide +kernel
theorem dX1_fittingStart_53 : decode cX1_fittingStart 53 = .ok (.iload 5, 2) := by decide +kernel
theorem dX1_fittingStart_55 : decode cX1_fittingStart 55 = .ok (.iload_n 2, 1) := by decide +kernel
theorem dX1_fittingStart_56 : decode cX1_fittingStart 56 = .ok (.if_icmp .lt 22, 3) := by decide +kernel
theorem dX1_fittingStart_59 : decode cX1_fittingStart 59 = .ok (.iload 5, 2) := by decide +kernel
theorem dX1_fittingStart_61 : decode cX1_fittingStart 61 = .ok (.iload 4, 2) := by decide +kernel
theorem dX1_fittingStart_63 : decode cX1_fittingStart 63 = .ok (.if_icmp .ge 15, 3) := by decide +kernel
theorem dX1_fittingStart_66 : decode cX1_fittingStart 66 = .ok (.iload 5, 2) := by decide +kernel
theorem dX1_fittingStart_68 : decode cX1_fittingStart 68 = .ok (.istore 4, 2) := by decide +kernel
theorem dX1_fittingStart_70 : decode cX1_fittingStart 70 = .ok (.iload 6, 2) := by decide +kernel
theorem dX1_fittingStart_72 : decode cX1_fittingStart 72 = .ok (.iconst 1, 1) := by decide +kernel
theorem dX1_fittingStart_73 : decode cX1_fittingStart 73 = .ok (.iadd, 1) := by decide +kernel
theorem dX1_fittingStart_74 : decode cX1_fittingStart 74 = .ok (.iload 5, 2) := by decide +kernel
theorem dX1_fittingStart_76 : decode cX1_fittingStart 76 = .ok (.isub, 1) := by decide +kernel
theorem dX1_fittingStart_77 : decode cX1_fittingStart 77 = .ok (.istore_n 3, 1) := by decide +kernel
theorem dX1_fittingStart_78 : decode cX1_fittingStart 78 = .ok (.iinc 6 1, 3) := by decide +kernel
theorem dX1_fittingStart_81 : decode cX1_fittingStart 81 = .ok (.goto (-68), 3) := by decide +kernel
theorem dX1_fittingStart_84 : decode cX1_fittingStart 84 = .ok (.iload_n 3, 1) := by decide +kernel
theorem dX1_fittingStart_85 : decode cX1_fittingStart 85 = .ok (.ireturn, 1) := by decide +kernel
theorem dX1_pickedAt_0 : decode cX1_pickedAt 0 = .ok (.iconst 0, 1) := by decide +kernel
theorem dX1_pickedAt_1 : decode cX1_pickedAt 1 = .ok (.istore_n 2, 1) := by decide +kernel
theorem dX1_pickedAt_2 : decode cX1_pickedAt 2 = .ok (.iconst 0, 1) := by decide +kernel
theorem dX1_pickedAt_3 : decode cX1_pickedAt 3 = .ok (.istore_n 3, 1) := by decide +kernel
theorem dX1_pickedAt_4 : decode cX1_pickedAt 4 = .ok (.iload_n 3, 1) := by decide +kernel
theorem dX1_pickedAt_5 : decode cX1_pickedAt 5 = .ok (.aload_n 0, 1) := by decide +kernel
theorem dX1_pickedAt_6 : decode cX1_pickedAt 6 = .ok (.getfield 9, 3) := by decide +kernel
theorem dX1_pickedAt_9 : decode cX1_pickedAt 9 = .ok (.if_icmp .ge 28, 3) := by decide +kernel
theorem dX1_pickedAt_12 : decode cX1_pickedAt 12 = .ok (.aload_n 0, 1) := by decide +kernel
theorem dX1_pickedAt_13 : decode cX1_pickedAt 13 = .ok (.getfield 22, 3) := by decide +kernel
theorem dX1_pickedAt_16 : decode cX1_pickedAt 16 = .ok (.iload_n 3, 1) := by decide +kernel
theorem dX1_pickedAt_17 : decode cX1_pickedAt 17 = .ok (.baload, 1) := by decide +kernel
theorem dX1_pickedAt_18 : decode cX1_pickedAt 18 = .ok (.ifCond .eq 13, 3) := by decide +kernel
theorem dX1_pickedAt_21 : decode cX1_pickedAt 21 = .ok (.iload_n 2, 1) := by decide +kernel
theorem dX1_pickedAt_22 : decode cX1_pickedAt 22 = .ok (.iload_n 1, 1) := by decide +kernel
theorem dX1_pickedAt_23 : decode cX1_pickedAt 23 = .ok (.if_icmp .ne 5, 3) := by decide +kernel
theorem dX1_pickedAt_26 : decode cX1_pickedAt 26 = .ok (.iload_n 3, 1) := by decide +kernel
theorem dX1_pickedAt_27 : decode cX1_pickedAt 27 = .ok (.ireturn, 1) := by decide +kernel
theorem dX1_pickedAt_28 : decode cX1_pickedAt 28 = .ok (.iinc 2 1, 3) := by decide +kernel
theorem dX1_pickedAt_31 : decode cX1_pickedAt 31 = .ok (.iinc 3 1, 3) := by decide +kernel
theorem dX1_pickedAt_34 : decode cX1_pickedAt 34 = .ok (.goto (-30), 3) := by decide +kernel
theorem dX1_pickedAt_37 : decode cX1_pickedAt 37 = .ok (.iconst (-1), 1) := by decide +kernel
theorem dX1_pickedAt_38 : decode cX1_pickedAt 38 = .ok (.ireturn, 1) := by decide +kernel
theorem dX1_allPickedAreIn_0 : decode cX1_allPickedAreIn 0 = .ok (.iconst 0, 1) := by decide +kernel
theorem dX1_allPickedAreIn_1 : decode cX1_allPickedAreIn 1 = .ok (.istore_n 2, 1) := by decide +kernel
theorem dX1_allPickedAreIn_2 : decode cX1_allPickedAreIn 2 = .ok (.iload_n 2, 1) := by decide +kernel
theorem dX1_allPickedAreIn_3 : decode cX1_allPickedAreIn 3 = .ok (.aload_n 0, 1) := by decide +kernel
theorem dX1_allPickedAreIn_4 : decode cX1_allPickedAreIn 4 = .ok (.getfield 9, 3) := by decide +kernel
theorem dX1_allPickedAreIn_7 : decode cX1_allPickedAreIn 7 = .ok (.if_icmp .ge 30, 3) := by decide +kernel
theorem dX1_allPickedAreIn_10 : decode cX1_allPickedAreIn 10 = .ok (.aload_n 0, 1) := by decide +kernel
theorem dX1_allPickedAreIn_11 : decode cX1_allPickedAreIn 11 = .ok (.getfield 22, 3) := by decide +kernel
theorem dX1_allPickedAreIn_14 : decode cX1_allPickedAreIn 14 = .ok (.iload_n 2, 1) := by decide +kernel
theorem dX1_allPickedAreIn_15 : decode cX1_allPickedAreIn 15 = .ok (.baload, 1) := by decide +kernel
theorem dX1_allPickedAreIn_16 : decode cX1_allPickedAreIn 16 = .ok (.ifCond .eq 15, 3) := by decide +kernel
theorem dX1_allPickedAreIn_19 : decode cX1_allPickedAreIn 19 = .ok (.aload_n 0, 1) := by decide +kernel
theorem dX1_allPickedAreIn_20 : decode cX1_allPickedAreIn 20 = .ok (.getfield 15, 3) := by decide +kernel
theorem dX1_allPickedAreIn_23 : decode cX1_allPickedAreIn 23 = .ok (.iload_n 2, 1) := by decide +kernel
theorem dX1_allPickedAreIn_24 : decode cX1_allPickedAreIn 24 = .ok (.iaload, 1) := by decide +kernel
theorem dX1_allPickedAreIn_25 : decode cX1_allPickedAreIn 25 = .ok (.iload_n 1, 1) := by decide +kernel
theorem dX1_allPickedAreIn_26 : decode cX1_allPickedAreIn 26 = .ok (.if_icmp .eq 5, 3) := by decide +kernel
theorem dX1_allPickedAreIn_29 : decode cX1_allPickedAreIn 29 = .ok (.iconst 0, 1) := by decide +kernel
theorem dX1_allPickedAreIn_30 : decode cX1_allPickedAreIn 30 = .ok (.ireturn, 1) := by decide +kernel
theorem dX1_allPickedAreIn_31 : decode cX1_allPickedAreIn 31 = .ok (.iinc 2 1, 3) := by decide +kernel
theorem dX1_allPickedAreIn_34 : decode cX1_allPickedAreIn 34 = .ok (.goto (-32), 3) := by decide +kernel
theorem dX1_allPickedAreIn_37 : decode cX1_allPickedAreIn 37 = .ok (.iconst 1, 1) := by decide +kernel
theorem dX1_allPickedAreIn_38 : decode cX1_allPickedAreIn 38 = .ok (.ireturn, 1) := by decide +kernel
theorem dX1_putPicked_0 : decode cX1_putPicked 0 = .ok (.iconst 0, 1) := by decide +kernel
theorem dX1_putPicked_1 : decode cX1_putPicked 1 = .ok (.istore_n 3, 1) := by decide +kernel
theorem dX1_putPicked_2 : decode cX1_putPicked 2 = .ok (.iload_n 3, 1) := by decide +kernel
theorem dX1_putPicked_3 : decode cX1_putPicked 3 = .ok (.aload_n 0, 1) := by decide +kernel
theorem dX1_putPicked_4 : decode cX1_putPicked 4 = .ok (.getfield 9, 3) := by decide +kernel
theorem dX1_putPicked_7 : decode cX1_putPicked 7 = .ok (.if_icmp .ge 32, 3) := by decide +kernel
theorem dX1_putPicked_10 : decode cX1_putPicked 10 = .ok (.aload_n 0, 1) := by decide +kernel
theorem dX1_putPicked_11 : decode cX1_putPicked 11 = .ok (.getfield 22, 3) := by decide +kernel
theorem dX1_putPicked_14 : decode cX1_putPicked 14 = .ok (.iload_n 3, 1) := by decide +kernel
theorem dX1_putPicked_15 : decode cX1_putPicked 15 = .ok (.baload, 1) := by decide +kernel
theorem dX1_putPicked_16 : decode cX1_putPicked 16 = .ok (.ifCond .eq 17, 3) := by decide +kernel
theorem dX1_putPicked_19 : decode cX1_putPicked 19 = .ok (.aload_n 0, 1) := by decide +kernel
theorem dX1_putPicked_20 : decode cX1_putPicked 20 = .ok (.getfield 15, 3) := by decide +kernel
theorem dX1_putPicked_23 : decode cX1_putPicked 23 = .ok (.iload_n 3, 1) := by decide +kernel
theorem dX1_putPicked_24 : decode cX1_putPicked 24 = .ok (.iload_n 1, 1) := by decide +kernel
theorem dX1_putPicked_25 : decode cX1_putPicked 25 = .ok (.iastore, 1) := by decide +kernel
theorem dX1_putPicked_26 : decode cX1_putPicked 26 = .ok (.aload_n 0, 1) := by decide +kernel
theorem dX1_putPicked_27 : decode cX1_putPicked 27 = .ok (.getfield 19, 3) := by decide +kernel
theorem dX1_putPicked_30 : decode cX1_putPicked 30 = .ok (.iload_n 3, 1) := by decide +kernel
theorem dX1_putPicked_31 : decode cX1_putPicked 31 = .ok (.iload_n 2, 1) := by decide +kernel
theorem dX1_putPicked_32 : decode cX1_putPicked 32 = .ok (.iastore, 1) := by decide +kernel
theorem dX1_putPicked_33 : decode cX1_putPicked 33 = .ok (.iinc 3 1, 3) := by decide +kernel
theorem dX1_putPicked_36 : decode cX1_putPicked 36 = .ok (.goto (-34), 3) := by decide +kernel
theorem dX1_putPicked_39 : decode cX1_putPicked 39 = .ok (.return_, 1) := by decide +kernel
theorem dX1_endsRun_0 : decode cX1_endsRun 0 = .ok (.aload_n 0, 1) := by decide +kernel
theorem dX1_endsRun_1 : decode cX1_endsRun 1 = .ok (.getfield 15, 3) := by decide +kernel
theorem dX1_endsRun_4 : decode cX1_endsRun 4 = .ok (.iload_n 2, 1) := by decide +kernel
theorem dX1_endsRun_5 : decode cX1_endsRun 5 = .ok (.iaload, 1) := by decide +kernel
theorem dX1_endsRun_6 : decode cX1_endsRun 6 = .ok (.iload_n 1, 1) := by decide +kernel
theorem dX1_endsRun_7 : decode cX1_endsRun 7 = .ok (.if_icmp .ne 29, 3) := by decide +kernel
theorem dX1_endsRun_10 : decode cX1_endsRun 10 = .ok (.iload_n 2, 1) := by decide +kernel
theorem dX1_endsRun_11 : decode cX1_endsRun 11 = .ok (.iconst 1, 1) := by decide +kernel
theorem dX1_endsRun_12 : decode cX1_endsRun 12 = .ok (.iadd, 1) := by decide +kernel
theorem dX1_endsRun_13 : decode cX1_endsRun 13 = .ok (.aload_n 0, 1) := by decide +kernel
theorem dX1_endsRun_14 : decode cX1_endsRun 14 = .ok (.getfield 9, 3) := by decide +kernel
theorem dX1_endsRun_17 : decode cX1_endsRun 17 = .ok (.if_icmp .ge 15, 3) := by decide +kernel
theorem dX1_endsRun_20 : decode cX1_endsRun 20 = .ok (.aload_n 0, 1) := by decide +kernel
theorem dX1_endsRun_21 : decode cX1_endsRun 21 = .ok (.getfield 15, 3) := by decide +kernel
theorem dX1_endsRun_24 : decode cX1_endsRun 24 = .ok (.iload_n 2, 1) := by decide +kernel
theorem dX1_endsRun_25 : decode cX1_endsRun 25 = .ok (.iconst 1, 1) := by decide +kernel
theorem dX1_endsRun_26 : decode cX1_endsRun 26 = .ok (.iadd, 1) := by decide +kernel
theorem dX1_endsRun_27 : decode cX1_endsRun 27 = .ok (.iaload, 1) := by decide +kernel
theorem dX1_endsRun_28 : decode cX1_endsRun 28 = .ok (.iload_n 1, 1) := by decide +kernel
theorem dX1_endsRun_29 : decode cX1_endsRun 29 = .ok (.if_icmp .eq 7, 3) := by decide +kernel
theorem dX1_endsRun_32 : decode cX1_endsRun 32 = .ok (.iconst 1, 1) := by decide +kernel
theorem dX1_endsRun_33 : decode cX1_endsRun 33 = .ok (.goto 4, 3) := by decide +kernel
theorem dX1_endsRun_36 : decode cX1_endsRun 36 = .ok (.iconst 0, 1) := by decide +kernel
theorem dX1_endsRun_37 : decode cX1_endsRun 37 = .ok (.ireturn, 1) := by decide +kernel
theorem dX1_runsOf_0 : decode cX1_runsOf 0 = .ok (.iconst 0, 1) := by decide +kernel
theorem dX1_runsOf_1 : decode cX1_runsOf 1 = .ok (.istore_n 2, 1) := by decide +kernel
theorem dX1_runsOf_2 : decode cX1_runsOf 2 = .ok (.iconst 0, 1) := by decide +kernel
theorem dX1_runsOf_3 : decode cX1_runsOf 3 = .ok (.istore_n 3, 1) := by decide +kernel
theorem dX1_runsOf_4 : decode cX1_runsOf 4 = .ok (.iload_n 3, 1) := by decide +kernel
theorem dX1_runsOf_5 : decode cX1_runsOf 5 = .ok (.aload_n 0, 1) := by decide +kernel
theorem dX1_runsOf_6 : decode cX1_runsOf 6 = .ok (.getfield 9, 3) := by decide +kernel
theorem dX1_runsOf_9 : decode cX1_runsOf 9 = .ok (.if_icmp .ge 21, 3) := by decide +kernel
theorem dX1_runsOf_12 : decode cX1_runsOf 12 = .ok (.aload_n 0, 1) := by decide +kernel
theorem dX1_runsOf_13 : decode cX1_runsOf 13 = .ok (.iload_n 1, 1) := by decide +kernel
theorem dX1_runsOf_14 : decode cX1_runsOf 14 = .ok (.iload_n 3, 1) := by decide +kernel
theorem dX1_runsOf_15 : decode cX1_runsOf 15 = .ok (.invokevirtual 56, 3) := by decide +kernel
theorem dX1_runsOf_18 : decode cX1_runsOf 18 = .ok (.ifCond .eq 6, 3) := by decide +kernel
theorem dX1_runsOf_21 : decode cX1_runsOf 21 = .ok (.iinc 2 1, 3) := by decide +kernel
theorem dX1_runsOf_24 : decode cX1_runsOf 24 = .ok (.iinc 3 1, 3) := by decide +kernel
theorem dX1_runsOf_27 : decode cX1_runsOf 27 = .ok (.goto (-23), 3) := by decide +kernel
theorem dX1_runsOf_30 : decode cX1_runsOf 30 = .ok (.iload_n 2, 1) := by decide +kernel
theorem dX1_runsOf_31 : decode cX1_runsOf 31 = .ok (.ireturn, 1) := by decide +kernel
theorem dX1_longestOf_0 : decode cX1_longestOf 0 = .ok (.iconst 0, 1) := by decide +kernel
theorem dX1_longestOf_1 : decode cX1_longestOf 1 = .ok (.istore_n 2, 1) := by decide +kernel
theorem dX1_longestOf_2 : decode cX1_longestOf 2 = .ok (.iconst 0, 1) := by decide +kernel
theorem dX1_longestOf_3 : decode cX1_longestOf 3 = .ok (.istore_n 3, 1) := by decide +kernel
theorem dX1_longestOf_4 : decode cX1_longestOf 4 = .ok (.iconst 0, 1) := by decide +kernel
theorem dX1_longestOf_5 : decode cX1_longestOf 5 = .ok (.istore 4, 2) := by decide +kernel
theorem dX1_longestOf_7 : decode cX1_longestOf 7 = .ok (.iload 4, 2) := by decide +kernel
theorem dX1_longestOf_9 : decode cX1_longestOf 9 = .ok (.aload_n 0, 1) := by decide +kernel
theorem dX1_longestOf_10 : decode cX1_longestOf 10 = .ok (.getfield 9, 3) := by decide +kernel
theorem dX1_longestOf_13 : decode cX1_longestOf 13 = .ok (.if_icmp .ge 34, 3) := by decide +kernel
theorem dX1_longestOf_16 : decode cX1_longestOf 16 = .ok (.aload_n 0, 1) := by decide +kernel
theorem dX1_longestOf_17 : decode cX1_longestOf 17 = .ok (.getfield 15, 3) := by decide +kernel
theorem dX1_longestOf_20 : decode cX1_longestOf 20 = .ok (.iload 4, 2) := by decide +kernel
theorem dX1_longestOf_22 : decode cX1_longestOf 22 = .ok (.iaload, 1) := by decide +kernel
theorem dX1_longestOf_23 : decode cX1_longestOf 23 = .ok (.iload_n 1, 1) := by decide +kernel
theorem dX1_longestOf_24 : decode cX1_longestOf 24 = .ok (.if_icmp .ne 9, 3) := by decide +kernel
theorem dX1_longestOf_27 : decode cX1_longestOf 27 = .ok (.iload_n 3, 1) := by decide +kernel
theorem dX1_longestOf_28 : decode cX1_longestOf 28 = .ok (.iconst 1, 1) := by decide +kernel
theorem dX1_longestOf_29 : decode cX1_longestOf 29 = .ok (.iadd, 1) := by decide +kernel
theorem dX1_longestOf_30 : decode cX1_longestOf 30 = .ok (.goto 4, 3) := by decide +kernel
theorem dX1_longestOf_33 : decode cX1_longestOf 33 = .ok (.iconst 0, 1) := by decide +kernel
theorem dX1_longestOf_34 : decode cX1_longestOf 34 = .ok (.istore_n 3, 1) := by decide +kernel
theorem dX1_longestOf_35 : decode cX1_longestOf 35 = .ok (.iload_n 2, 1) := by decide +kernel
theorem dX1_longestOf_36 : decode cX1_longestOf 36 = .ok (.iload_n 3, 1) := by decide +kernel
theorem dX1_longestOf_37 : decode cX1_longestOf 37 = .ok (.invokestatic 60, 3) := by decide +kernel
theorem dX1_longestOf_40 : decode cX1_longestOf 40 = .ok (.istore_n 2, 1) := by decide +kernel
theorem dX1_longestOf_41 : decode cX1_longestOf 41 = .ok (.iinc 4 1, 3) := by decide +kernel
theorem dX1_longestOf_44 : decode cX1_longestOf 44 = .ok (.goto (-37), 3) := by decide +kernel
theorem dX1_longestOf_47 : decode cX1_longestOf 47 = .ok (.iload_n 2, 1) := by decide +kernel
theorem dX1_longestOf_48 : decode cX1_longestOf 48 = .ok (.ireturn, 1) := by decide +kernel
theorem dX1_bestExchange_0 : decode cX1_bestExchange 0 = .ok (.iconst (-1), 1) := by decide +kernel
theorem dX1_bestExchange_1 : decode cX1_bestExchange 1 = .ok (.istore_n 2, 1) := by decide +kernel
theorem dX1_bestExchange_2 : decode cX1_bestExchange 2 = .ok (.aload_n 0, 1) := by decide +kernel
theorem dX1_bestExchange_3 : decode cX1_bestExchange 3 = .ok (.iload_n 1, 1) := by decide +kernel
theorem dX1_bestExchange_4 : decode cX1_bestExchange 4 = .ok (.invokevirtual 65, 3) := by decide +kernel
theorem dX1_bestExchange_7 : decode cX1_bestExchange 7 = .ok (.istore_n 3, 1) := by decide +kernel
theorem dX1_bestExchange_8 : decode cX1_bestExchange 8 = .ok (.iconst 0, 1) := by decide +kernel
theorem dX1_bestExchange_9 : decode cX1_bestExchange 9 = .ok (.istore 4, 2) := by decide +kernel
theorem dX1_bestExchange_11 : decode cX1_bestExchange 11 = .ok (.iload 4, 2) := by decide +kernel
theorem dX1_bestExchange_13 : decode cX1_bestExchange 13 = .ok (.aload_n 0, 1) := by decide +kernel
theorem dX1_bestExchange_14 : decode cX1_bestExchange 14 = .ok (.getfield 9, 3) := by decide +kernel
theorem dX1_bestExchange_17 : decode cX1_bestExchange 17 = .ok (.if_icmp .ge 86, 3) := by decide +kernel
theorem dX1_bestExchange_20 : decode cX1_bestExchange 20 = .ok (.aload_n 0, 1) := by decide +kernel
theorem dX1_bestExchange_21 : decode cX1_bestExchange 21 = .ok (.getfield 15, 3) := by decide +kernel
theorem dX1_bestExchange_24 : decode cX1_bestExchange 24 = .ok (.iload 4, 2) := by decide +kernel
theorem dX1_bestExchange_26 : decode cX1_bestExchange 26 = .ok (.iaload, 1) := by decide +kernel
theorem dX1_bestExchange_27 : decode cX1_bestExchange 27 = .ok (.iload_n 1, 1) := by decide +kernel
theorem dX1_bestExchange_28 : decode cX1_bestExchange 28 = .ok (.if_icmp .eq 6, 3) := by decide +kernel
theorem dX1_bestExchange_31 : decode cX1_bestExchange 31 = .ok (.goto 66, 3) := by decide +kernel
theorem dX1_bestExchange_34 : decode cX1_bestExchange 34 = .ok (.iconst 0, 1) := by decide +kernel
theorem dX1_bestExchange_35 : decode cX1_bestExchange 35 = .ok (.istore 5, 2) := by decide +kernel
theorem dX1_bestExchange_37 : decode cX1_bestExchange 37 = .ok (.iload 5, 2) := by decide +kernel
theorem dX1_bestExchange_39 : decode cX1_bestExchange 39 = .ok (.aload_n 0, 1) := by decide +kernel
theorem dX1_bestExchange_40 : decode cX1_bestExchange 40 = .ok (.getfield 9, 3) := by decide +kernel
theorem dX1_bestExchange_43 : decode cX1_bestExchange 43 = .ok (.if_icmp .ge 54, 3) := by decide +kernel
theorem dX1_bestExchange_46 : decode cX1_bestExchange 46 = .ok (.aload_n 0, 1) := by decide +kernel
theorem dX1_bestExchange_47 : decode cX1_bestExchange 47 = .ok (.getfield 15, 3) := by decide +kernel
theorem dX1_bestExchange_50 : decode cX1_bestExchange 50 = .ok (.iload 5, 2) := by decide +kernel
theorem dX1_bestExchange_52 : decode cX1_bestExchange 52 = .ok (.iaload, 1) := by decide +kernel
theorem dX1_bestExchange_53 : decode cX1_bestExchange 53 = .ok (.iload_n 1, 1) := by decide +kernel
theorem dX1_bestExchange_54 : decode cX1_bestExchange 54 = .ok (.if_icmp .ne 7, 3) := by decide +kernel
theorem dX1_bestExchange_57 : decode cX1_bestExchange 57 = .ok (.iconst 0, 1) := by decide +kernel
theorem dX1_bestExchange_58 : decode cX1_bestExchange 58 = .ok (.goto 12, 3) := by decide +kernel
theorem dX1_bestExchange_61 : decode cX1_bestExchange 61 = .ok (.aload_n 0, 1) := by decide +kernel
theorem dX1_bestExchange_62 : decode cX1_bestExchange 62 = .ok (.iload_n 1, 1) := by decide +kernel
theorem dX1_bestExchange_63 : decode cX1_bestExchange 63 = .ok (.iload 4, 2) := by decide +kernel
theorem dX1_bestExchange_65 : decode cX1_bestExchange 65 = .ok (.iload 5, 2) := by decide +kernel
theorem dX1_bestExchange_67 : decode cX1_bestExchange 67 = .ok (.invokevirtual 69, 3) := by decide +kernel
theorem dX1_bestExchange_70 : decode cX1_bestExchange 70 = .ok (.istore 6, 2) := by decide +kernel
theorem dX1_bestExchange_72 : decode cX1_bestExchange 72 = .ok (.iload 6, 2) := by decide +kernel
theorem dX1_bestExchange_74 : decode cX1_bestExchange 74 = .ok (.iload_n 3, 1) := by decide +kernel
theorem dX1_bestExchange_75 : decode cX1_bestExchange 75 = .ok (.if_icmp .le 16, 3) := by decide +kernel
theorem dX1_bestExchange_78 : decode cX1_bestExchange 78 = .ok (.iload 6, 2) := by decide +kernel
theorem dX1_bestExchange_80 : decode cX1_bestExchange 80 = .ok (.istore_n 3, 1) := by decide +kernel
theorem dX1_bestExchange_81 : decode cX1_bestExchange 81 = .ok (.sipush 1000, 3) := by decide +kernel
theorem dX1_bestExchange_84 : decode cX1_bestExchange 84 = .ok (.iload 4, 2) := by decide +kernel
theorem dX1_bestExchange_86 : decode cX1_bestExchange 86 = .ok (.imul, 1) := by decide +kernel
theorem dX1_bestExchange_87 : decode cX1_bestExchange 87 = .ok (.iload 5, 2) := by decide +kernel
theorem dX1_bestExchange_89 : decode cX1_bestExchange 89 = .ok (.iadd, 1) := by decide +kernel
theorem dX1_bestExchange_90 : decode cX1_bestExchange 90 = .ok (.istore_n 2, 1) := by decide +kernel
theorem dX1_bestExchange_91 : decode cX1_bestExchange 91 = .ok (.iinc 5 1, 3) := by decide +kernel
theorem dX1_bestExchange_94 : decode cX1_bestExchange 94 = .ok (.goto (-57), 3) := by decide +kernel
theorem dX1_bestExchange_97 : decode cX1_bestExchange 97 = .ok (.iinc 4 1, 3) := by decide +kernel
theorem dX1_bestExchange_100 : decode cX1_bestExchange 100 = .ok (.goto (-89), 3) := by decide +kernel
theorem dX1_bestExchange_103 : decode cX1_bestExchange 103 = .ok (.iload_n 2, 1) := by decide +kernel
theorem dX1_bestExchange_104 : decode cX1_bestExchange 104 = .ok (.ireturn, 1) := by decide +kernel
theorem dX1_joinedLength_0 : decode cX1_joinedLength 0 = .ok (.iconst 1, 1) := by decide +kernel
theorem dX1_joinedLength_1 : decode cX1_joinedLength 1 = .ok (.istore 4, 2) := by decide +kernel
theorem dX1_joinedLength_3 : decode cX1_joinedLength 3 = .ok (.iload_n 3, 1) := by decide +kernel
theorem dX1_joinedLength_4 : decode cX1_joinedLength 4 = .ok (.iconst 1, 1) := by decide +kernel
theorem dX1_joinedLength_5 : decode cX1_joinedLength 5 = .ok (.isub, 1) := by decide +kernel
theorem dX1_joinedLength_6 : decode cX1_joinedLength 6 = .ok (.istore 5, 2) := by decide +kernel
theorem dX1_joinedLength_8 : decode cX1_joinedLength 8 = .ok (.iload 5, 2) := by decide +kernel
theorem dX1_joinedLength_10 : decode cX1_joinedLength 10 = .ok (.ifCond .lt 29, 3) := by decide +kernel
theorem dX1_joinedLength_13 : decode cX1_joinedLength 13 = .ok (.aload_n 0, 1) := by decide +kernel
theorem dX1_joinedLength_14 : decode cX1_joinedLength 14 = .ok (.getfield 15, 3) := by decide +kernel
theorem dX1_joinedLength_17 : decode cX1_joinedLength 17 = .ok (.iload 5, 2) := by decide +kernel
theorem dX1_joinedLength_19 : decode cX1_joinedLength 19 = .ok (.iaload, 1) := by decide +kernel
theorem dX1_joinedLength_20 : decode cX1_joinedLength 20 = .ok (.iload_n 1, 1) := by decide +kernel
theorem dX1_joinedLength_21 : decode cX1_joinedLength 21 = .ok (.if_icmp .ne 18, 3) := by decide +kernel
theorem dX1_joinedLength_24 : decode cX1_joinedLength 24 = .ok (.iload 5, 2) := by decide +kernel
theorem dX1_joinedLength_26 : decode cX1_joinedLength 26 = .ok (.iload_n 2, 1) := by decide +kernel
theorem dX1_joinedLength_27 : decode cX1_joinedLength 27 = .ok (.if_icmp .eq 12, 3) := by decide +kernel
theorem dX1_joinedLength_30 : decode cX1_joinedLength 30 = .ok (.iinc 4 1, 3) := by decide +kernel
theorem dX1_joinedLength_33 : decode cX1_joinedLength 33 = .ok (.iinc 5 (-1), 3) := by decide +kernel
theorem dX1_joinedLength_36 : decode cX1_joinedLength 36 = .ok (.goto (-28), 3) := by decide +kernel
theorem dX1_joinedLength_39 : decode cX1_joinedLength 39 = .ok (.iload_n 3, 1) := by decide +kernel
theorem dX1_joinedLength_40 : decode cX1_joinedLength 40 = .ok (.iconst 1, 1) := by decide +kernel
theorem dX1_joinedLength_41 : decode cX1_joinedLength 41 = .ok (.iadd, 1) := by decide +kernel
theorem dX1_joinedLength_42 : decode cX1_joinedLength 42 = .ok (.istore 5, 2) := by decide +kernel
theorem dX1_joinedLength_44 : decode cX1_joinedLength 44 = .ok (.iload 5, 2) := by decide +kernel
theorem dX1_joinedLength_46 : decode cX1_joinedLength 46 = .ok (.aload_n 0, 1) := by decide +kernel
theorem dX1_joinedLength_47 : decode cX1_joinedLength 47 = .ok (.getfield 9, 3) := by decide +kernel
theorem dX1_joinedLength_50 : decode cX1_joinedLength 50 = .ok (.if_icmp .ge 29, 3) := by decide +kernel
theorem dX1_joinedLength_53 : decode cX1_joinedLength 53 = .ok (.aload_n 0, 1) := by decide +kernel
theorem dX1_joinedLength_54 : decode cX1_joinedLength 54 = .ok (.getfield 15, 3) := by decide +kernel
theorem dX1_joinedLength_57 : decode cX1_joinedLength 57 = .ok (.iload 5, 2) := by decide +kernel
theorem dX1_joinedLength_59 : decode cX1_joinedLength 59 = .ok (.iaload, 1) := by decide +kernel
theorem dX1_joinedLength_60 : decode cX1_joinedLength 60 = .ok (.iload_n 1, 1) := by decide +kernel
theorem dX1_joinedLength_61 : decode cX1_joinedLength 61 = .ok (.if_icmp .ne 18, 3) := by decide +kernel
theorem dX1_joinedLength_64 : decode cX1_joinedLength 64 = .ok (.iload 5, 2) := by decide +kernel
theorem dX1_joinedLength_66 : decode cX1_joinedLength 66 = .ok (.iload_n 2, 1) := by decide +kernel
theorem dX1_joinedLength_67 : decode cX1_joinedLength 67 = .ok (.if_icmp .eq 12, 3) := by decide +kernel
theorem dX1_joinedLength_70 : decode cX1_joinedLength 70 = .ok (.iinc 4 1, 3) := by decide +kernel
theorem dX1_joinedLength_73 : decode cX1_joinedLength 73 = .ok (.iinc 5 1, 3) := by decide +kernel
theorem dX1_joinedLength_76 : decode cX1_joinedLength 76 = .ok (.goto (-32), 3) := by decide +kernel
theorem dX1_joinedLength_79 : decode cX1_joinedLength 79 = .ok (.iload 4, 2) := by decide +kernel
theorem dX1_joinedLength_81 : decode cX1_joinedLength 81 = .ok (.ireturn, 1) := by decide +kernel
theorem dX2_init_0 : decode cX2_init 0 = .ok (.aload_n 0, 1) := by decide +kernel
theorem dX2_init_1 : decode cX2_init 1 = .ok (.invokespecial 3, 3) := by decide +kernel
theorem dX2_init_4 : decode cX2_init 4 = .ok (.aload_n 0, 1) := by decide +kernel
theorem dX2_init_5 : decode cX2_init 5 = .ok (.iconst 0, 1) := by decide +kernel
theorem dX2_init_6 : decode cX2_init 6 = .ok (.putfield 9, 3) := by decide +kernel
theorem dX2_init_9 : decode cX2_init 9 = .ok (.aload_n 0, 1) := by decide +kernel
theorem dX2_init_10 : decode cX2_init 10 = .ok (.bipush 90, 2) := by decide +kernel
theorem dX2_init_12 : decode cX2_init 12 = .ok (.newarray .int, 2) := by decide +kernel
theorem dX2_init_14 : decode cX2_init 14 = .ok (.putfield 15, 3) := by decide +kernel
theorem dX2_init_17 : decode cX2_init 17 = .ok (.return_, 1) := by decide +kernel
theorem dX2_add_0 : decode cX2_add 0 = .ok (.aload_n 0, 1) := by decide +kernel
theorem dX2_add_1 : decode cX2_add 1 = .ok (.getfield 9, 3) := by decide +kernel
theorem dX2_add_4 : decode cX2_add 4 = .ok (.istore_n 2, 1) := by decide +kernel
theorem dX2_add_5 : decode cX2_add 5 = .ok (.aload_n 0, 1) := by decide +kernel
theorem dX2_add_6 : decode cX2_add 6 = .ok (.getfield 15, 3) := by decide +kernel
theorem dX2_add_9 : decode cX2_add 9 = .ok (.iload_n 2, 1) := by decide +kernel
theorem dX2_add_10 : decode cX2_add 10 = .ok (.bipush 9, 2) := by decide +kernel
theorem dX2_add_12 : decode cX2_add 12 = .ok (.imul, 1) := by decide +kernel
theorem dX2_add_13 : decode cX2_add 13 = .ok (.bipush 8, 2) := by decide +kernel
theorem dX2_add_15 : decode cX2_add 15 = .ok (.iadd, 1) := by decide +kernel
theorem dX2_add_16 : decode cX2_add 16 = .ok (.iload_n 1, 1) := by decide +kernel
theorem dX2_add_17 : decode cX2_add 17 = .ok (.iastore, 1) := by decide +kernel
theorem dX2_add_18 : decode cX2_add 18 = .ok (.aload_n 0, 1) := by decide +kernel
theorem dX2_add_19 : decode cX2_add 19 = .ok (.dup, 1) := by decide +kernel
theorem dX2_add_20 : decode cX2_add 20 = .ok (.getfield 9, 3) := by decide +kernel
theorem dX2_add_23 : decode cX2_add 23 = .ok (.iconst 1, 1) := by decide +kernel
theorem dX2_add_24 : decode cX2_add 24 = .ok (.iadd, 1) := by decide +kernel
theorem dX2_add_25 : decode cX2_add 25 = .ok (.putfield 9, 3) := by decide +kernel
theorem dX2_add_28 : decode cX2_add 28 = .ok (.iload_n 2, 1) := by decide +kernel
theorem dX2_add_29 : decode cX2_add 29 = .ok (.ireturn, 1) := by decide +kernel
theorem dX2_setBlocks_0 : decode cX2_setBlocks 0 = .ok (.aload_n 0, 1) := by decide +kernel
theorem dX2_setBlocks_1 : decode cX2_setBlocks 1 = .ok (.getfield 15, 3) := by decide +kernel
theorem dX2_setBlocks_4 : decode cX2_setBlocks 4 = .ok (.iload_n 1, 1) := by decide +kernel
theorem dX2_setBlocks_5 : decode cX2_setBlocks 5 = .ok (.bipush 9, 2) := by decide +kernel
theorem dX2_setBlocks_7 : decode cX2_setBlocks 7 = .ok (.imul, 1) := by decide +kernel
theorem dX2_setBlocks_8 : decode cX2_setBlocks 8 = .ok (.iload_n 2, 1) := by decide +kernel
theorem dX2_setBlocks_9 : decode cX2_setBlocks 9 = .ok (.iadd, 1) := by decide +kernel
theorem dX2_setBlocks_10 : decode cX2_setBlocks 10 = .ok (.iload_n 3, 1) := by decide +kernel
theorem dX2_setBlocks_11 : decode cX2_setBlocks 11 = .ok (.iastore, 1) := by decide +kernel
theorem dX2_setBlocks_12 : decode cX2_setBlocks 12 = .ok (.return_, 1) := by decide +kernel
theorem dX2_blocksOf_0 : decode cX2_blocksOf 0 = .ok (.aload_n 0, 1) := by decide +kernel
theorem dX2_blocksOf_1 : decode cX2_blocksOf 1 = .ok (.getfield 15, 3) := by decide +kernel
theorem dX2_blocksOf_4 : decode cX2_blocksOf 4 = .ok (.iload_n 1, 1) := by decide +kernel
theorem dX2_blocksOf_5 : decode cX2_blocksOf 5 = .ok (.bipush 9, 2) := by decide +kernel
theorem dX2_blocksOf_7 : decode cX2_blocksOf 7 = .ok (.imul, 1) := by decide +kernel
theorem dX2_blocksOf_8 : decode cX2_blocksOf 8 = .ok (.iload_n 2, 1) := by decide +kernel
theorem dX2_blocksOf_9 : decode cX2_blocksOf 9 = .ok (.iadd, 1) := by decide +kernel
theorem dX2_blocksOf_10 : decode cX2_blocksOf 10 = .ok (.iaload, 1) := by decide +kernel
theorem dX2_blocksOf_11 : decode cX2_blocksOf 11 = .ok (.ireturn, 1) := by decide +kernel
theorem dX2_entriesOf_0 : decode cX2_entriesOf 0 = .ok (.aload_n 0, 1) := by decide +kernel
theorem dX2_entriesOf_1 : decode cX2_entriesOf 1 = .ok (.getfield 15, 3) := by decide +kernel
theorem dX2_entriesOf_4 : decode cX2_entriesOf 4 = .ok (.iload_n 1, 1) := by decide +kernel
theorem dX2_entriesOf_5 : decode cX2_entriesOf 5 = .ok (.bipush 9, 2) := by decide +kernel
theorem dX2_entriesOf_7 : decode cX2_entriesOf 7 = .ok (.imul, 1) := by decide +kernel
theorem dX2_entriesOf_8 : decode cX2_entriesOf 8 = .ok (.bipush 8, 2) := by decide +kernel
theorem dX2_entriesOf_10 : decode cX2_entriesOf 10 = .ok (.iadd, 1) := by decide +kernel
theorem dX2_entriesOf_11 : decode cX2_entriesOf 11 = .ok (.iaload, 1) := by decide +kernel
theorem dX2_entriesOf_12 : decode cX2_entriesOf 12 = .ok (.ireturn, 1) := by decide +kernel
theorem dX2_copyFrom_0 : decode cX2_copyFrom 0 = .ok (.aload_n 0, 1) := by decide +kernel
theorem dX2_copyFrom_1 : decode cX2_copyFrom 1 = .ok (.aload_n 1, 1) := by decide +kernel
theorem dX2_copyFrom_2 : decode cX2_copyFrom 2 = .ok (.getfield 9, 3) := by decide +kernel
theorem dX2_copyFrom_5 : decode cX2_copyFrom 5 = .ok (.putfield 9, 3) := by decide +kernel
theorem dX2_copyFrom_8 : decode cX2_copyFrom 8 = .ok (.aload_n 1, 1) := by decide +kernel
theorem dX2_copyFrom_9 : decode cX2_copyFrom 9 = .ok (.getfield 15, 3) := by decide +kernel
theorem dX2_copyFrom_12 : decode cX2_copyFrom 12 = .ok (.iconst 0, 1) := by decide +kernel
theorem dX2_copyFrom_13 : decode cX2_copyFrom 13 = .ok (.aload_n 0, 1) := by decide +kernel
theorem dX2_copyFrom_14 : decode cX2_copyFrom 14 = .ok (.getfield 15, 3) := by decide +kernel
theorem dX2_copyFrom_17 : decode cX2_copyFrom 17 = .ok (.iconst 0, 1) := by decide +kernel
theorem dX2_copyFrom_18 : decode cX2_copyFrom 18 = .ok (.bipush 90, 2) := by decide +kernel
theorem dX2_copyFrom_20 : decode cX2_copyFrom 20 = .ok (.invokestatic 19, 3) := by decide +kernel
theorem dX2_copyFrom_23 : decode cX2_copyFrom 23 = .ok (.return_, 1) := by decide +kernel
theorem dX3_init_0 : decode cX3_init 0 = .ok (.aload_n 0, 1) := by decide +kernel
theorem dX3_init_1 : decode cX3_init 1 = .ok (.invokespecial 3, 3) := by decide +kernel
theorem dX3_init_4 : decode cX3_init 4 = .ok (.aload_n 0, 1) := by decide +kernel
theorem dX3_init_5 : decode cX3_init 5 = .ok (.aload_n 1, 1) := by decide +kernel
theorem dX3_init_6 : decode cX3_init 6 = .ok (.putfield 9, 3) := by decide +kernel
theorem dX3_init_9 : decode cX3_init 9 = .ok (.return_, 1) := by decide +kernel
theorem dX3_readInto_0 : decode cX3_readInto 0 = .ok (.aload_n 0, 1) := by decide +kernel
theorem dX3_readInto_1 : decode cX3_readInto 1 = .ok (.getfield 9, 3) := by decide +kernel
theorem dX3_readInto_4 : decode cX3_readInto 4 = .ok (.invokevirtual 15, 3) := by decide +kernel
theorem dX3_readInto_7 : decode cX3_readInto 7 = .ok (.aload_n 0, 1) := by decide +kernel
theorem dX3_readInto_8 : decode cX3_readInto 8 = .ok (.aload_n 1, 1) := by decide +kernel
theorem dX3_readInto_9 : decode cX3_readInto 9 = .ok (.invokevirtual 20, 3) := by decide +kernel
theorem dX3_readInto_12 : decode cX3_readInto 12 = .ok (.ifCond .ne 5, 3) := by decide +kernel
theorem dX3_readInto_15 : decode cX3_readInto 15 = .ok (.iconst 0, 1) := by decide +kernel
theorem dX3_readInto_16 : decode cX3_readInto 16 = .ok (.ireturn, 1) := by decide +kernel
theorem dX3_readInto_17 : decode cX3_readInto 17 = .ok (.iconst 1, 1) := by decide +kernel
theorem dX3_readInto_18 : decode cX3_readInto 18 = .ok (.istore_n 2, 1) := by decide +kernel
theorem dX3_readInto_19 : decode cX3_readInto 19 = .ok (.iload_n 2, 1) := by decide +kernel
theorem dX3_readInto_20 : decode cX3_readInto 20 = .ok (.sipush 500, 3) := by decide +kernel
theorem dX3_readInto_23 : decode cX3_readInto 23 = .ok (.if_icmp .ge 29, 3) := by decide +kernel
theorem dX3_readInto_26 : decode cX3_readInto 26 = .ok (.aload_n 0, 1) := by decide +kernel
theorem dX3_readInto_27 : decode cX3_readInto 27 = .ok (.getfield 9, 3) := by decide +kernel
theorem dX3_readInto_30 : decode cX3_readInto 30 = .ok (.invokevirtual 24, 3) := by decide +kernel
theorem dX3_readInto_33 : decode cX3_readInto 33 = .ok (.ifCond .eq 19, 3) := by decide +kernel
theorem dX3_readInto_36 : decode cX3_readInto 36 = .ok (.aload_n 0, 1) := by decide +kernel
theorem dX3_readInto_37 : decode cX3_readInto 37 = .ok (.aload_n 1, 1) := by decide +kernel
theorem dX3_readInto_38 : decode cX3_readInto 38 = .ok (.invokevirtual 28, 3) := by decide +kernel
theorem dX3_readInto_41 : decode cX3_readInto 41 = .ok (.ifCond .ne 5, 3) := by decide +kernel
theorem dX3_readInto_44 : decode cX3_readInto 44 = .ok (.iconst 0, 1) := by decide +kernel
theorem dX3_readInto_45 : decode cX3_readInto 45 = .ok (.ireturn, 1) := by decide +kernel
theorem dX3_readInto_46 : decode cX3_readInto 46 = .ok (.iinc 2 1, 3) := by decide +kernel
theorem dX3_readInto_49 : decode cX3_readInto 49 = .ok (.goto (-30), 3) := by decide +kernel
theorem dX3_readInto_52 : decode cX3_readInto 52 = .ok (.aload_n 0, 1) := by decide +kernel
theorem dX3_readInto_53 : decode cX3_readInto 53 = .ok (.getfield 9, 3) := by decide +kernel
theorem dX3_readInto_56 : decode cX3_readInto 56 = .ok (.invokevirtual 31, 3) := by decide +kernel
theorem dX3_readInto_59 : decode cX3_readInto 59 = .ok (.ireturn, 1) := by decide +kernel
theorem dX3_readBlocks_0 : decode cX3_readBlocks 0 = .ok (.aload_n 0, 1) := by decide +kernel
theorem dX3_readBlocks_1 : decode cX3_readBlocks 1 = .ok (.getfield 9, 3) := by decide +kernel
theorem dX3_readBlocks_4 : decode cX3_readBlocks 4 = .ok (.invokevirtual 34, 3) := by decide +kernel
theorem dX3_readBlocks_7 : decode cX3_readBlocks 7 = .ok (.ifCond .ne 5, 3) := by decide +kernel
theorem dX3_readBlocks_10 : decode cX3_readBlocks 10 = .ok (.iconst 0, 1) := by decide +kernel
theorem dX3_readBlocks_11 : decode cX3_readBlocks 11 = .ok (.ireturn, 1) := by decide +kernel
theorem dX3_readBlocks_12 : decode cX3_readBlocks 12 = .ok (.aload_n 0, 1) := by decide +kernel
theorem dX3_readBlocks_13 : decode cX3_readBlocks 13 = .ok (.getfield 9, 3) := by decide +kernel
theorem dX3_readBlocks_16 : decode cX3_readBlocks 16 = .ok (.ldc 37, 2) := by decide +kernel
theorem dX3_readBlocks_18 : decode cX3_readBlocks 18 = .ok (.invokevirtual 39, 3) := by decide +kernel
theorem dX3_readBlocks_21 : decode cX3_readBlocks 21 = .ok (.ifCond .ne 12, 3) := by decide +kernel
theorem dX3_readBlocks_24 : decode cX3_readBlocks 24 = .ok (.aload_n 0, 1) := by decide +kernel
theorem dX3_readBlocks_25 : decode cX3_readBlocks 25 = .ok (.getfield 9, 3) := by decide +kernel
theorem dX3_readBlocks_28 : decode cX3_readBlocks 28 = .ok (.iconst 1, 1) := by decide +kernel
theorem dX3_readBlocks_29 : decode cX3_readBlocks 29 = .ok (.invokevirtual 43, 3) := by decide +kernel
theorem dX3_readBlocks_32 : decode cX3_readBlocks 32 = .ok (.ireturn, 1) := by decide +kernel
theorem dX3_readBlocks_33 : decode cX3_readBlocks 33 = .ok (.aload_n 0, 1) := by decide +kernel
theorem dX3_readBlocks_34 : decode cX3_readBlocks 34 = .ok (.getfield 9, 3) := by decide +kernel
theorem dX3_readBlocks_37 : decode cX3_readBlocks 37 = .ok (.iconst 1, 1) := by decide +kernel
theorem dX3_readBlocks_38 : decode cX3_readBlocks 38 = .ok (.sipush 200, 3) := by decide +kernel
theorem dX3_readBlocks_41 : decode cX3_readBlocks 41 = .ok (.invokevirtual 47, 3) := by decide +kernel
theorem dX3_readBlocks_44 : decode cX3_readBlocks 44 = .ok (.istore_n 2, 1) := by decide +kernel
theorem dX3_readBlocks_45 : decode cX3_readBlocks 45 = .ok (.iload_n 2, 1) := by decide +kernel
theorem dX3_readBlocks_46 : decode cX3_readBlocks 46 = .ok (.iconst (-1), 1) := by decide +kernel
theorem dX3_readBlocks_47 : decode cX3_readBlocks 47 = .ok (.if_icmp .ne 5, 3) := by decide +kernel
theorem dX3_readBlocks_50 : decode cX3_readBlocks 50 = .ok (.iconst 0, 1) := by decide +kernel
theorem dX3_readBlocks_51 : decode cX3_readBlocks 51 = .ok (.ireturn, 1) := by decide +kernel
theorem dX3_readBlocks_52 : decode cX3_readBlocks 52 = .ok (.aload_n 1, 1) := by decide +kernel
theorem dX3_readBlocks_53 : decode cX3_readBlocks 53 = .ok (.iload_n 2, 1) := by decide +kernel
theorem dX3_readBlocks_54 : decode cX3_readBlocks 54 = .ok (.invokevirtual 51, 3) := by decide +kernel
theorem dX3_readBlocks_57 : decode cX3_readBlocks 57 = .ok (.iconst 1, 1) := by decide +kernel
theorem dX3_readBlocks_58 : decode cX3_readBlocks 58 = .ok (.ireturn, 1) := by decide +kernel
theorem dX3_readStatement_0 : decode cX3_readStatement 0 = .ok (.aload_n 0, 1) := by decide +kernel
theorem dX3_readStatement_1 : decode cX3_readStatement 1 = .ok (.getfield 9, 3) := by decide +kernel
theorem dX3_readStatement_4 : decode cX3_readStatement 4 = .ok (.invokevirtual 34, 3) := by decide +kernel
theorem dX3_readStatement_7 : decode cX3_readStatement 7 = .ok (.ifCond .ne 5, 3) := by decide +kernel
theorem dX3_readStatement_10 : decode cX3_readStatement 10 = .ok (.iconst 0, 1) := by decide +kernel
theorem dX3_readStatement_11 : decode cX3_readStatement 11 = .ok (.ireturn, 1) := by decide +kernel
theorem dX3_readStatement_12 : decode cX3_readStatement 12 = .ok (.aload_n 0, 1) := by decide +kernel
theorem dX3_readStatement_13 : decode cX3_readStatement 13 = .ok (.getfield 9, 3) := by decide +kernel
theorem dX3_readStatement_16 : decode cX3_readStatement 16 = .ok (.ldc 57, 2) := by decide +kernel
theorem dX3_readStatement_18 : decode cX3_readStatement 18 = .ok (.invokevirtual 39, 3) := by decide +kernel
theorem dX3_readStatement_21 : decode cX3_readStatement 21 = .ok (.ifCond .eq 12, 3) := by decide +kernel
theorem dX3_readStatement_24 : decode cX3_readStatement 24 = .ok (.aload_n 0, 1) := by decide +kernel
theorem dX3_readStatement_25 : decode cX3_readStatement 25 = .ok (.aload_n 1, 1) := by decide +kernel
theorem dX3_readStatement_26 : decode cX3_readStatement 26 = .ok (.getfield 59, 3) := by decide +kernel
theorem dX3_readStatement_29 : decode cX3_readStatement 29 = .ok (.invokevirtual 63, 3) := by decide +kernel
theorem dX3_readStatement_32 : decode cX3_readStatement 32 = .ok (.ireturn, 1) := by decide +kernel
theorem dX3_readStatement_33 : decode cX3_readStatement 33 = .ok (.aload_n 0, 1) := by decide +kernel
theorem dX3_readStatement_34 : decode cX3_readStatement 34 = .ok (.getfield 9, 3) := by decide +kernel
theorem dX3_readStatement_37 : decode cX3_readStatement 37 = .ok (.ldc 67, 2) := by decide +kernel
theorem dX3_readStatement_39 : decode cX3_readStatement 39 = .ok (.invokevirtual 39, 3) := by decide +kernel
theorem dX3_readStatement_42 : decode cX3_readStatement 42 = .ok (.ifCond .eq 9, 3) := by decide +kernel
theorem dX3_readStatement_45 : decode cX3_readStatement 45 = .ok (.aload_n 0, 1) := by decide +kernel
theorem dX3_readStatement_46 : decode cX3_readStatement 46 = .ok (.aload_n 1, 1) := by decide +kernel
theorem dX3_readStatement_47 : decode cX3_readStatement 47 = .ok (.invokevirtual 69, 3) := by decide +kernel
theorem dX3_readStatement_50 : decode cX3_readStatement 50 = .ok (.ireturn, 1) := by decide +kernel
theorem dX3_readStatement_51 : decode cX3_readStatement 51 = .ok (.aload_n 0, 1) := by decide +kernel
theorem dX3_readStatement_52 : decode cX3_readStatement 52 = .ok (.getfield 9, 3) := by decide +kernel
theorem dX3_readStatement_55 : decode cX3_readStatement 55 = .ok (.ldc 72, 2) := by decide +kernel
theorem dX3_readStatement_57 : decode cX3_readStatement 57 = .ok (.invokevirtual 39, 3) := by decide +kernel
theorem dX3_readStatement_60 : decode cX3_readStatement 60 = .ok (.ifCond .eq 9, 3) := by decide +kernel
theorem dX3_readStatement_63 : decode cX3_readStatement 63 = .ok (.aload_n 0, 1) := by decide +kernel
theorem dX3_readStatement_64 : decode cX3_readStatement 64 = .ok (.aload_n 1, 1) := by decide +kernel
theorem dX3_readStatement_65 : decode cX3_readStatement 65 = .ok (.invokevirtual 74, 3) := by decide +kernel
theorem dX3_readStatement_68 : decode cX3_readStatement 68 = .ok (.ireturn, 1) := by decide +kernel
theorem dX3_readStatement_69 : decode cX3_readStatement 69 = .ok (.aload_n 0, 1) := by decide +kernel
theorem dX3_readStatement_70 : decode cX3_readStatement 70 = .ok (.getfield 9, 3) := by decide +kernel
theorem dX3_readStatement_73 : decode cX3_readStatement 73 = .ok (.iconst 1, 1) := by decide +kernel
theorem dX3_readStatement_74 : decode cX3_readStatement 74 = .ok (.invokevirtual 43, 3) := by decide +kernel
theorem dX3_readStatement_77 : decode cX3_readStatement 77 = .ok (.ireturn, 1) := by decide +kernel
theorem dX3_readPool_0 : decode cX3_readPool 0 = .ok (.aload_n 1, 1) := by decide +kernel
theorem dX3_readPool_1 : decode cX3_readPool 1 = .ok (.getfield 77, 3) := by decide +kernel
theorem dX3_readPool_4 : decode cX3_readPool 4 = .ok (.bipush 8, 2) := by decide +kernel
theorem dX3_readPool_6 : decode cX3_readPool 6 = .ok (.if_icmp .lt 12, 3) := by decide +kernel
theorem dX3_readPool_9 : decode cX3_readPool 9 = .ok (.aload_n 0, 1) := by decide +kernel
theorem dX3_readPool_10 : decode cX3_readPool 10 = .ok (.getfield 9, 3) := by decide +kernel
theorem dX3_readPool_13 : decode cX3_readPool 13 = .ok (.iconst 4, 1) := by decide +kernel
theorem dX3_readPool_14 : decode cX3_readPool 14 = .ok (.invokevirtual 43, 3) := by decide +kernel
theorem dX3_readPool_17 : decode cX3_readPool 17 = .ok (.ireturn, 1) := by decide +kernel
theorem dX3_readPool_18 : decode cX3_readPool 18 = .ok (.aload_n 0, 1) := by decide +kernel
theorem dX3_readPool_19 : decode cX3_readPool 19 = .ok (.getfield 9, 3) := by decide +kernel
theorem dX3_readPool_22 : decode cX3_readPool 22 = .ok (.invokevirtual 34, 3) := by decide +kernel
theorem dX3_readPool_25 : decode cX3_readPool 25 = .ok (.ifCond .ne 5, 3) := by decide +kernel
theorem dX3_readPool_28 : decode cX3_readPool 28 = .ok (.iconst 0, 1) := by decide +kernel
theorem dX3_readPool_29 : decode cX3_readPool 29 = .ok (.ireturn, 1) := by decide +kernel
theorem dX3_readPool_30 : decode cX3_readPool 30 = .ok (.aload_n 0, 1) := by decide +kernel
theorem dX3_readPool_31 : decode cX3_readPool 31 = .ok (.getfield 9, 3) := by decide +kernel
theorem dX3_readPool_34 : decode cX3_readPool 34 = .ok (.invokevirtual 83, 3) := by decide +kernel
theorem dX3_readPool_37 : decode cX3_readPool 37 = .ok (.bipush 6, 2) := by decide +kernel
theorem dX3_readPool_39 : decode cX3_readPool 39 = .ok (.if_icmp .gt 15, 3) := by decide +kernel
theorem dX3_readPool_42 : decode cX3_readPool 42 = .ok (.aload_n 0, 1) := by decide +kernel
theorem dX3_readPool_43 : decode cX3_readPool 43 = .ok (.getfield 9, 3) := by decide +kernel
theorem dX3_readPool_46 : decode cX3_readPool 46 = .ok (.ldc 87, 2) := by decide +kernel
theorem dX3_readPool_48 : decode cX3_readPool 48 = .ok (.invokevirtual 39, 3) := by decide +kernel
theorem dX3_readPool_51 : decode cX3_readPool 51 = .ok (.ifCond .eq 12, 3) := by decide +kernel
theorem dX3_readPool_54 : decode cX3_readPool 54 = .ok (.aload_n 0, 1) := by decide +kernel
theorem dX3_readPool_55 : decode cX3_readPool 55 = .ok (.getfield 9, 3) := by decide +kernel
theorem dX3_readPool_58 : decode cX3_readPool 58 = .ok (.iconst 1, 1) := by decide +kernel
theorem dX3_readPool_59 : decode cX3_readPool 59 = .ok (.invokevirtual 43, 3) := by decide +kernel
theorem dX3_readPool_62 : decode cX3_readPool 62 = .ok (.ireturn, 1) := by decide +kernel
theorem dX3_readPool_63 : decode cX3_readPool 63 = .ok (.aload_n 1, 1) := by decide +kernel
theorem dX3_readPool_64 : decode cX3_readPool 64 = .ok (.aload_n 0, 1) := by decide +kernel
theorem dX3_readPool_65 : decode cX3_readPool 65 = .ok (.getfield 9, 3) := by decide +kernel
theorem dX3_readPool_68 : decode cX3_readPool 68 = .ok (.getfield 89, 3) := by decide +kernel
theorem dX3_readPool_71 : decode cX3_readPool 71 = .ok (.aload_n 0, 1) := by decide +kernel
theorem dX3_readPool_72 : decode cX3_readPool 72 = .ok (.getfield 9, 3) := by decide +kernel
theorem dX3_readPool_75 : decode cX3_readPool 75 = .ok (.getfield 93, 3) := by decide +kernel
theorem dX3_readPool_78 : decode cX3_readPool 78 = .ok (.aload_n 0, 1) := by decide +kernel
theorem dX3_readPool_79 : decode cX3_readPool 79 = .ok (.getfield 9, 3) := by decide +kernel
theorem dX3_readPool_82 : decode cX3_readPool 82 = .ok (.invokevirtual 83, 3) := by decide +kernel
theorem dX3_readPool_85 : decode cX3_readPool 85 = .ok (.invokevirtual 96, 3) := by decide +kernel
theorem dX3_readPool_88 : decode cX3_readPool 88 = .ok (.iconst (-1), 1) := by decide +kernel
theorem dX3_readPool_89 : decode cX3_readPool 89 = .ok (.if_icmp .eq 12, 3) := by decide +kernel
theorem dX3_readPool_92 : decode cX3_readPool 92 = .ok (.aload_n 0, 1) := by decide +kernel
theorem dX3_readPool_93 : decode cX3_readPool 93 = .ok (.getfield 9, 3) := by decide +kernel
theorem dX3_readPool_96 : decode cX3_readPool 96 = .ok (.iconst 3, 1) := by decide +kernel
theorem dX3_readPool_97 : decode cX3_readPool 97 = .ok (.invokevirtual 43, 3) := by decide +kernel
theorem dX3_readPool_100 : decode cX3_readPool 100 = .ok (.ireturn, 1) := by decide +kernel
theorem dX3_readPool_101 : decode cX3_readPool 101 = .ok (.aload_n 1, 1) := by decide +kernel
theorem dX3_readPool_102 : decode cX3_readPool 102 = .ok (.aload_n 0, 1) := by decide +kernel
theorem dX3_readPool_103 : decode cX3_readPool 103 = .ok (.getfield 9, 3) := by decide +kernel
theorem dX3_readPool_106 : decode cX3_readPool 106 = .ok (.getfield 89, 3) := by decide +kernel
theorem dX3_readPool_109 : decode cX3_readPool 109 = .ok (.aload_n 0, 1) := by decide +kernel
theorem dX3_readPool_110 : decode cX3_readPool 110 = .ok (.getfield 9, 3) := by decide +kernel
theorem dX3_readPool_113 : decode cX3_readPool 113 = .ok (.getfield 93, 3) := by decide +kernel
theorem dX3_readPool_116 : decode cX3_readPool 116 = .ok (.aload_n 0, 1) := by decide +kernel
theorem dX3_readPool_117 : decode cX3_readPool 117 = .ok (.getfield 9, 3) := by decide +kernel
theorem dX3_readPool_120 : decode cX3_readPool 120 = .ok (.invokevirtual 83, 3) := by decide +kernel
theorem dX3_readPool_123 : decode cX3_readPool 123 = .ok (.invokevirtual 100, 3) := by decide +kernel
theorem dX3_readPool_126 : decode cX3_readPool 126 = .ok (.istore_n 2, 1) := by decide +kernel
theorem dX3_readPool_127 : decode cX3_readPool 127 = .ok (.aload_n 0, 1) := by decide +kernel
theorem dX3_readPool_128 : decode cX3_readPool 128 = .ok (.getfield 9, 3) := by decide +kernel
theorem dX3_readPool_131 : decode cX3_readPool 131 = .ok (.iconst 0, 1) := by decide +kernel
theorem dX3_readPool_132 : decode cX3_readPool 132 = .ok (.sipush 200, 3) := by decide +kernel
theorem dX3_readPool_135 : decode cX3_readPool 135 = .ok (.invokevirtual 47, 3) := by decide +kernel
theorem dX3_readPool_138 : decode cX3_readPool 138 = .ok (.istore_n 3, 1) := by decide +kernel
theorem dX3_readPool_139 : decode cX3_readPool 139 = .ok (.iload_n 3, 1) := by decide +kernel
theorem dX3_readPool_140 : decode cX3_readPool 140 = .ok (.iconst (-1), 1) := by decide +kernel
theorem dX3_readPool_141 : decode cX3_readPool 141 = .ok (.if_icmp .ne 5, 3) := by decide +kernel
theorem dX3_readPool_144 : decode cX3_readPool 144 = .ok (.iconst 0, 1) := by decide +kernel
theorem dX3_readPool_145 : decode cX3_readPool 145 = .ok (.ireturn, 1) := by decide +kernel
theorem dX3_readPool_146 : decode cX3_readPool 146 = .ok (.aload_n 0, 1) := by decide +kernel
theorem dX3_readPool_147 : decode cX3_readPool 147 = .ok (.getfield 9, 3) := by decide +kernel
theorem dX3_readPool_150 : decode cX3_readPool 150 = .ok (.iconst 0, 1) := by decide +kernel
theorem dX3_readPool_151 : decode cX3_readPool 151 = .ok (.sipush 9999, 3) := by decide +kernel
theorem dX3_readPool_154 : decode cX3_readPool 154 = .ok (.invokevirtual 47, 3) := by decide +kernel
theorem dX3_readPool_157 : decode cX3_readPool 157 = .ok (.istore 4, 2) := by decide +kernel
theorem dX3_readPool_159 : decode cX3_readPool 159 = .ok (.iload 4, 2) := by decide +kernel
theorem dX3_readPool_161 : decode cX3_readPool 161 = .ok (.iconst (-1), 1) := by decide +kernel
theorem dX3_readPool_162 : decode cX3_readPool 162 = .ok (.if_icmp .ne 5, 3) := by decide +kernel
theorem dX3_readPool_165 : decode cX3_readPool 165 = .ok (.iconst 0, 1) := by decide +kernel
theorem dX3_readPool_166 : decode cX3_readPool 166 = .ok (.ireturn, 1) := by decide +kernel
theorem dX3_readPool_167 : decode cX3_readPool 167 = .ok (.aload_n 1, 1) := by decide +kernel
theorem dX3_readPool_168 : decode cX3_readPool 168 = .ok (.iload_n 2, 1) := by decide +kernel
theorem dX3_readPool_169 : decode cX3_readPool 169 = .ok (.iload_n 3, 1) := by decide +kernel
theorem dX3_readPool_170 : decode cX3_readPool 170 = .ok (.iload 4, 2) := by decide +kernel
theorem dX3_readPool_172 : decode cX3_readPool 172 = .ok (.invokevirtual 103, 3) := by decide +kernel
theorem dX3_readPool_175 : decode cX3_readPool 175 = .ok (.iconst 1, 1) := by decide +kernel
theorem dX3_readPool_176 : decode cX3_readPool 176 = .ok (.ireturn, 1) := by decide +kernel
theorem dX3_readPick_0 : decode cX3_readPick 0 = .ok (.aload_n 0, 1) := by decide +kernel
theorem dX3_readPick_1 : decode cX3_readPick 1 = .ok (.getfield 9, 3) := by decide +kernel
theorem dX3_readPick_4 : decode cX3_readPick 4 = .ok (.invokevirtual 34, 3) := by decide +kernel
theorem dX3_readPick_7 : decode cX3_readPick 7 = .ok (.ifCond .ne 5, 3) := by decide +kernel
theorem dX3_readPick_10 : decode cX3_readPick 10 = .ok (.iconst 0, 1) := by decide +kernel
theorem dX3_readPick_11 : decode cX3_readPick 11 = .ok (.ireturn, 1) := by decide +kernel
theorem dX3_readPick_12 : decode cX3_readPick 12 = .ok (.aload_n 0, 1) := by decide +kernel
theorem dX3_readPick_13 : decode cX3_readPick 13 = .ok (.getfield 9, 3) := by decide +kernel
theorem dX3_readPick_16 : decode cX3_readPick 16 = .ok (.ldc 107, 2) := by decide +kernel
theorem dX3_readPick_18 : decode cX3_readPick 18 = .ok (.invokevirtual 39, 3) := by decide +kernel
theorem dX3_readPick_21 : decode cX3_readPick 21 = .ok (.ifCond .eq 11, 3) := by decide +kernel
theorem dX3_readPick_24 : decode cX3_readPick 24 = .ok (.aload_n 1, 1) := by decide +kernel
theorem dX3_readPick_25 : decode cX3_readPick 25 = .ok (.iconst 0, 1) := by decide +kernel
theorem dX3_readPick_26 : decode cX3_readPick 26 = .ok (.putfield 109, 3) := by decide +kernel
theorem dX3_readPick_29 : decode cX3_readPick 29 = .ok (.goto 72, 3) := by decide +kernel
theorem dX3_readPick_32 : decode cX3_readPick 32 = .ok (.aload_n 0, 1) := by decide +kernel
theorem dX3_readPick_33 : decode cX3_readPick 33 = .ok (.getfield 9, 3) := by decide +kernel
theorem dX3_readPick_36 : decode cX3_readPick 36 = .ok (.ldc 112, 2) := by decide +kernel
theorem dX3_readPick_38 : decode cX3_readPick 38 = .ok (.invokevirtual 39, 3) := by decide +kernel
theorem dX3_readPick_41 : decode cX3_readPick 41 = .ok (.ifCond .eq 11, 3) := by decide +kernel
theorem dX3_readPick_44 : decode cX3_readPick 44 = .ok (.aload_n 1, 1) := by decide +kernel
theorem dX3_readPick_45 : decode cX3_readPick 45 = .ok (.iconst 1, 1) := by decide +kernel
theorem dX3_readPick_46 : decode cX3_readPick 46 = .ok (.putfield 109, 3) := by decide +kernel
theorem dX3_readPick_49 : decode cX3_readPick 49 = .ok (.goto 52, 3) := by decide +kernel
theorem dX3_readPick_52 : decode cX3_readPick 52 = .ok (.aload_n 0, 1) := by decide +kernel
theorem dX3_readPick_53 : decode cX3_readPick 53 = .ok (.getfield 9, 3) := by decide +kernel
theorem dX3_readPick_56 : decode cX3_readPick 56 = .ok (.ldc 114, 2) := by decide +kernel
theorem dX3_readPick_58 : decode cX3_readPick 58 = .ok (.invokevirtual 39, 3) := by decide +kernel
theorem dX3_readPick_61 : decode cX3_readPick 61 = .ok (.ifCond .eq 11, 3) := by decide +kernel
theorem dX3_readPick_64 : decode cX3_readPick 64 = .ok (.aload_n 1, 1) := by decide +kernel
theorem dX3_readPick_65 : decode cX3_readPick 65 = .ok (.iconst 2, 1) := by decide +kernel
theorem dX3_readPick_66 : decode cX3_readPick 66 = .ok (.putfield 109, 3) := by decide +kernel
theorem dX3_readPick_69 : decode cX3_readPick 69 = .ok (.goto 32, 3) := by decide +kernel
theorem dX3_readPick_72 : decode cX3_readPick 72 = .ok (.aload_n 0, 1) := by decide +kernel
theorem dX3_readPick_73 : decode cX3_readPick 73 = .ok (.getfield 9, 3) := by decide +kernel
theorem dX3_readPick_76 : decode cX3_readPick 76 = .ok (.ldc 116, 2) := by decide +kernel
theorem dX3_readPick_78 : decode cX3_readPick 78 = .ok (.invokevirtual 39, 3) := by decide +kernel
theorem dX3_readPick_81 : decode cX3_readPick 81 = .ok (.ifCond .eq 11, 3) := by decide +kernel
theorem dX3_readPick_84 : decode cX3_readPick 84 = .ok (.aload_n 1, 1) := by decide +kernel
theorem dX3_readPick_85 : decode cX3_readPick 85 = .ok (.iconst 3, 1) := by decide +kernel
theorem dX3_readPick_86 : decode cX3_readPick 86 = .ok (.putfield 109, 3) := by decide +kernel
theorem dX3_readPick_89 : decode cX3_readPick 89 = .ok (.goto 12, 3) := by decide +kernel
theorem dX3_readPick_92 : decode cX3_readPick 92 = .ok (.aload_n 0, 1) := by decide +kernel
theorem dX3_readPick_93 : decode cX3_readPick 93 = .ok (.getfield 9, 3) := by decide +kernel
theorem dX3_readPick_96 : decode cX3_readPick 96 = .ok (.iconst 1, 1) := by decide +kernel
theorem dX3_readPick_97 : decode cX3_readPick 97 = .ok (.invokevirtual 43, 3) := by decide +kernel
theorem dX3_readPick_100 : decode cX3_readPick 100 = .ok (.ireturn, 1) := by decide +kernel
theorem dX3_readPick_101 : decode cX3_readPick 101 = .ok (.iconst 1, 1) := by decide +kernel
theorem dX3_readPick_102 : decode cX3_readPick 102 = .ok (.ireturn, 1) := by decide +kernel
theorem dX3_readGrant_0 : decode cX3_readGrant 0 = .ok (.aload_n 0, 1) := by decide +kernel
theorem dX3_readGrant_1 : decode cX3_readGrant 1 = .ok (.getfield 9, 3) := by decide +kernel
theorem dX3_readGrant_4 : decode cX3_readGrant 4 = .ok (.invokevirtual 34, 3) := by decide +kernel
theorem dX3_readGrant_7 : decode cX3_readGrant 7 = .ok (.ifCond .ne 5, 3) := by decide +kernel
theorem dX3_readGrant_10 : decode cX3_readGrant 10 = .ok (.iconst 0, 1) := by decide +kernel
theorem dX3_readGrant_11 : decode cX3_readGrant 11 = .ok (.ireturn, 1) := by decide +kernel
theorem dX3_readGrant_12 : decode cX3_readGrant 12 = .ok (.aload_n 1, 1) := by decide +kernel
theorem dX3_readGrant_13 : decode cX3_readGrant 13 = .ok (.getfield 59, 3) := by decide +kernel
theorem dX3_readGrant_16 : decode cX3_readGrant 16 = .ok (.aload_n 0, 1) := by decide +kernel
theorem dX3_readGrant_17 : decode cX3_readGrant 17 = .ok (.getfield 9, 3) := by decide +kernel
theorem dX3_readGrant_20 : decode cX3_readGrant 20 = .ok (.getfield 89, 3) := by decide +kernel
theorem dX3_readGrant_23 : decode cX3_readGrant 23 = .ok (.aload_n 0, 1) := by decide +kernel
theorem dX3_readGrant_24 : decode cX3_readGrant 24 = .ok (.getfield 9, 3) := by decide +kernel
theorem dX3_readGrant_27 : decode cX3_readGrant 27 = .ok (.getfield 93, 3) := by decide +kernel
theorem dX3_readGrant_30 : decode cX3_readGrant 30 = .ok (.aload_n 0, 1) := by decide +kernel
theorem dX3_readGrant_31 : decode cX3_readGrant 31 = .ok (.getfield 9, 3) := by decide +kernel
theorem dX3_readGrant_34 : decode cX3_readGrant 34 = .ok (.invokevirtual 83, 3) := by decide +kernel
theorem dX3_readGrant_37 : decode cX3_readGrant 37 = .ok (.invokevirtual 96, 3) := by decide +kernel
theorem dX3_readGrant_40 : decode cX3_readGrant 40 = .ok (.istore_n 2, 1) := by decide +kernel
theorem dX3_readGrant_41 : decode cX3_readGrant 41 = .ok (.iload_n 2, 1) := by decide +kernel
theorem dX3_readGrant_42 : decode cX3_readGrant 42 = .ok (.iconst (-1), 1) := by decide +kernel
theorem dX3_readGrant_43 : decode cX3_readGrant 43 = .ok (.if_icmp .eq 7, 3) := by decide +kernel
theorem dX3_readGrant_46 : decode cX3_readGrant 46 = .ok (.iload_n 2, 1) := by decide +kernel
theorem dX3_readGrant_47 : decode cX3_readGrant 47 = .ok (.ifCond .ne 12, 3) := by decide +kernel
theorem dX3_readGrant_50 : decode cX3_readGrant 50 = .ok (.aload_n 0, 1) := by decide +kernel
theorem dX3_readGrant_51 : decode cX3_readGrant 51 = .ok (.getfield 9, 3) := by decide +kernel
theorem dX3_readGrant_54 : decode cX3_readGrant 54 = .ok (.iconst 3, 1) := by decide +kernel
theorem dX3_readGrant_55 : decode cX3_readGrant 55 = .ok (.invokevirtual 43, 3) := by decide +kernel
theorem dX3_readGrant_58 : decode cX3_readGrant 58 = .ok (.ireturn, 1) := by decide +kernel
theorem dX3_readGrant_59 : decode cX3_readGrant 59 = .ok (.aload_n 1, 1) := by decide +kernel
theorem dX3_readGrant_60 : decode cX3_readGrant 60 = .ok (.iconst 0, 1) := by decide +kernel
theorem dX3_readGrant_61 : decode cX3_readGrant 61 = .ok (.invokevirtual 118, 3) := by decide +kernel
theorem dX3_readGrant_64 : decode cX3_readGrant 64 = .ok (.aload_n 1, 1) := by decide +kernel
theorem dX3_readGrant_65 : decode cX3_readGrant 65 = .ok (.iload_n 2, 1) := by decide +kernel
theorem dX3_readGrant_66 : decode cX3_readGrant 66 = .ok (.invokevirtual 122, 3) := by decide +kernel
theorem dX3_readGrant_69 : decode cX3_readGrant 69 = .ok (.invokestatic 125, 3) := by decide +kernel
theorem dX3_readGrant_72 : decode cX3_readGrant 72 = .ok (.istore_n 3, 1) := by decide +kernel
theorem dX3_readGrant_73 : decode cX3_readGrant 73 = .ok (.aload_n 0, 1) := by decide +kernel
theorem dX3_readGrant_74 : decode cX3_readGrant 74 = .ok (.getfield 9, 3) := by decide +kernel
theorem dX3_readGrant_77 : decode cX3_readGrant 77 = .ok (.iconst 1, 1) := by decide +kernel
theorem dX3_readGrant_78 : decode cX3_readGrant 78 = .ok (.iload_n 3, 1) := by decide +kernel
theorem dX3_readGrant_79 : decode cX3_readGrant 79 = .ok (.invokevirtual 47, 3) := by decide +kernel
theorem dX3_readGrant_82 : decode cX3_readGrant 82 = .ok (.istore 4, 2) := by decide +kernel
theorem dX3_readGrant_84 : decode cX3_readGrant 84 = .ok (.iload 4, 2) := by decide +kernel
theorem dX3_readGrant_86 : decode cX3_readGrant 86 = .ok (.iconst (-1), 1) := by decide +kernel
theorem dX3_readGrant_87 : decode cX3_readGrant 87 = .ok (.if_icmp .ne 5, 3) := by decide +kernel
theorem dX3_readGrant_90 : decode cX3_readGrant 90 = .ok (.iconst 0, 1) := by decide +kernel
theorem dX3_readGrant_91 : decode cX3_readGrant 91 = .ok (.ireturn, 1) := by decide +kernel
theorem dX3_readGrant_92 : decode cX3_readGrant 92 = .ok (.aload_n 1, 1) := by decide +kernel
theorem dX3_readGrant_93 : decode cX3_readGrant 93 = .ok (.iload_n 2, 1) := by decide +kernel
theorem dX3_readGrant_94 : decode cX3_readGrant 94 = .ok (.iload 4, 2) := by decide +kernel
theorem dX3_readGrant_96 : decode cX3_readGrant 96 = .ok (.invokevirtual 130, 3) := by decide +kernel
theorem dX3_readGrant_99 : decode cX3_readGrant 99 = .ok (.iconst 1, 1) := by decide +kernel
theorem dX3_readGrant_100 : decode cX3_readGrant 100 = .ok (.ireturn, 1) := by decide +kernel
theorem dX4_init_0 : decode cX4_init 0 = .ok (.aload_n 0, 1) := by decide +kernel
theorem dX4_init_1 : decode cX4_init 1 = .ok (.invokespecial 3, 3) := by decide +kernel
theorem dX4_init_4 : decode cX4_init 4 = .ok (.aload_n 0, 1) := by decide +kernel
theorem dX4_init_5 : decode cX4_init 5 = .ok (.iconst 0, 1) := by decide +kernel
theorem dX4_init_6 : decode cX4_init 6 = .ok (.putfield 9, 3) := by decide +kernel
theorem dX4_init_9 : decode cX4_init 9 = .ok (.aload_n 0, 1) := by decide +kernel
theorem dX4_init_10 : decode cX4_init 10 = .ok (.sipush 2100, 3) := by decide +kernel
theorem dX4_init_13 : decode cX4_init 13 = .ok (.newarray .int, 2) := by decide +kernel
theorem dX4_init_15 : decode cX4_init 15 = .ok (.putfield 15, 3) := by decide +kernel
theorem dX4_init_18 : decode cX4_init 18 = .ok (.aload_n 0, 1) := by decide +kernel
theorem dX4_init_19 : decode cX4_init 19 = .ok (.sipush 1200, 3) := by decide +kernel
theorem dX4_init_22 : decode cX4_init 22 = .ok (.newarray .long, 2) := by decide +kernel
theorem dX4_init_24 : decode cX4_init 24 = .ok (.putfield 19, 3) := by decide +kernel
theorem dX4_init_27 : decode cX4_init 27 = .ok (.return_, 1) := by decide +kernel
theorem dX4_isFull_0 : decode cX4_isFull 0 = .ok (.aload_n 0, 1) := by decide +kernel
theorem dX4_isFull_1 : decode cX4_isFull 1 = .ok (.getfield 9, 3) := by decide +kernel
theorem dX4_isFull_4 : decode cX4_isFull 4 = .ok (.sipush 300, 3) := by decide +kernel
theorem dX4_isFull_7 : decode cX4_isFull 7 = .ok (.if_icmp .lt 7, 3) := by decide +kernel
theorem dX4_isFull_10 : decode cX4_isFull 10 = .ok (.iconst 1, 1) := by decide +kernel
theorem dX4_isFull_11 : decode cX4_isFull 11 = .ok (.goto 4, 3) := by decide +kernel
theorem dX4_isFull_14 : decode cX4_isFull 14 = .ok (.iconst 0, 1) := by decide +kernel
theorem dX4_isFull_15 : decode cX4_isFull 15 = .ok (.ireturn, 1) := by decide +kernel
theorem dX4_add_0 : decode cX4_add 0 = .ok (.aload_n 0, 1) := by decide +kernel
theorem dX4_add_1 : decode cX4_add 1 = .ok (.getfield 9, 3) := by decide +kernel
theorem dX4_add_4 : decode cX4_add 4 = .ok (.istore 7, 2) := by decide +kernel
theorem dX4_add_6 : decode cX4_add 6 = .ok (.iload 7, 2) := by decide +kernel
theorem dX4_add_8 : decode cX4_add 8 = .ok (.bipush 7, 2) := by decide +kernel
theorem dX4_add_10 : decode cX4_add 10 = .ok (.imul, 1) := by decide +kernel
theorem dX4_add_11 : decode cX4_add 11 = .ok (.istore 8, 2) := by decide +kernel
theorem dX4_add_13 : decode cX4_add 13 = .ok (.aload_n 0, 1) := by decide +kernel
theorem dX4_add_14 : decode cX4_add 14 = .ok (.getfield 15, 3) := by decide +kernel
theorem dX4_add_17 : decode cX4_add 17 = .ok (.iload 8, 2) := by decide +kernel
theorem dX4_add_19 : decode cX4_add 19 = .ok (.iconst 0, 1) := by decide +kernel
theorem dX4_add_20 : decode cX4_add 20 = .ok (.iadd, 1) := by decide +kernel
theorem dX4_add_21 : decode cX4_add 21 = .ok (.iload_n 1, 1) := by decide +kernel
theorem dX4_add_22 : decode cX4_add 22 = .ok (.iastore, 1) := by decide +kernel
theorem dX4_add_23 : decode cX4_add 23 = .ok (.aload_n 0, 1) := by decide +kernel
theorem dX4_add_24 : decode cX4_add 24 = .ok (.getfield 15, 3) := by decide +kernel
theorem dX4_add_27 : decode cX4_add 27 = .ok (.iload 8, 2) := by decide +kernel
theorem dX4_add_29 : decode cX4_add 29 = .ok (.iconst 1, 1) := by decide +kernel
theorem dX4_add_30 : decode cX4_add 30 = .ok (.iadd, 1) := by decide +kernel
theorem dX4_add_31 : decode cX4_add 31 = .ok (.iload_n 2, 1) := by decide +kernel
theorem dX4_add_32 : decode cX4_add 32 = .ok (.iastore, 1) := by decide +kernel
theorem dX4_add_33 : decode cX4_add 33 = .ok (.aload_n 0, 1) := by decide +kernel
theorem dX4_add_34 : decode cX4_add 34 = .ok (.getfield 15, 3) := by decide +kernel
theorem dX4_add_37 : decode cX4_add 37 = .ok (.iload 8, 2) := by decide +kernel
theorem dX4_add_39 : decode cX4_add 39 = .ok (.iconst 2, 1) := by decide +kernel
theorem dX4_add_40 : decode cX4_add 40 = .ok (.iadd, 1) := by decide +kernel
theorem dX4_add_41 : decode cX4_add 41 = .ok (.iload_n 3, 1) := by decide +kernel
theorem dX4_add_42 : decode cX4_add 42 = .ok (.iastore, 1) := by decide +kernel
theorem dX4_add_43 : decode cX4_add 43 = .ok (.aload_n 0, 1) := by decide +kernel
theorem dX4_add_44 : decode cX4_add 44 = .ok (.getfield 15, 3) := by decide +kernel
theorem dX4_add_47 : decode cX4_add 47 = .ok (.iload 8, 2) := by decide +kernel
theorem dX4_add_49 : decode cX4_add 49 = .ok (.iconst 3, 1) := by decide +kernel
theorem dX4_add_50 : decode cX4_add 50 = .ok (.iadd, 1) := by decide +kernel
theorem dX4_add_51 : decode cX4_add 51 = .ok (.iload 4, 2) := by decide +kernel
theorem dX4_add_53 : decode cX4_add 53 = .ok (.iastore, 1) := by decide +kernel
theorem dX4_add_54 : decode cX4_add 54 = .ok (.aload_n 0, 1) := by decide +kernel
theorem dX4_add_55 : decode cX4_add 55 = .ok (.getfield 15, 3) := by decide +kernel
theorem dX4_add_58 : decode cX4_add 58 = .ok (.iload 8, 2) := by decide +kernel
theorem dX4_add_60 : decode cX4_add 60 = .ok (.iconst 4, 1) := by decide +kernel
theorem dX4_add_61 : decode cX4_add 61 = .ok (.iadd, 1) := by decide +kernel
theorem dX4_add_62 : decode cX4_add 62 = .ok (.iload 5, 2) := by decide +kernel
theorem dX4_add_64 : decode cX4_add 64 = .ok (.iastore, 1) := by decide +kernel
theorem dX4_add_65 : decode cX4_add 65 = .ok (.aload_n 0, 1) := by decide +kernel
theorem dX4_add_66 : decode cX4_add 66 = .ok (.getfield 15, 3) := by decide +kernel
theorem dX4_add_69 : decode cX4_add 69 = .ok (.iload 8, 2) := by decide +kernel
theorem dX4_add_71 : decode cX4_add 71 = .ok (.iconst 5, 1) := by decide +kernel
theorem dX4_add_72 : decode cX4_add 72 = .ok (.iadd, 1) := by decide +kernel
theorem dX4_add_73 : decode cX4_add 73 = .ok (.iload 6, 2) := by decide +kernel
theorem dX4_add_75 : decode cX4_add 75 = .ok (.iastore, 1) := by decide +kernel
theorem dX4_add_76 : decode cX4_add 76 = .ok (.aload_n 0, 1) := by decide +kernel
theorem dX4_add_77 : decode cX4_add 77 = .ok (.getfield 15, 3) := by decide +kernel
theorem dX4_add_80 : decode cX4_add 80 = .ok (.iload 8, 2) := by decide +kernel
theorem dX4_add_82 : decode cX4_add 82 = .ok (.bipush 6, 2) := by decide +kernel
theorem dX4_add_84 : decode cX4_add 84 = .ok (.iadd, 1) := by decide +kernel
theorem dX4_add_85 : decode cX4_add 85 = .ok (.iconst (-1), 1) := by decide +kernel
theorem dX4_add_86 : decode cX4_add 86 = .ok (.iastore, 1) := by decide +kernel
theorem dX4_add_87 : decode cX4_add 87 = .ok (.iconst 0, 1) := by decide +kernel
theorem dX4_add_88 : decode cX4_add 88 = .ok (.istore 9, 2) := by decide +kernel
theorem dX4_add_90 : decode cX4_add 90 = .ok (.iload 9, 2) := by decide +kernel
theorem dX4_add_92 : decode cX4_add 92 = .ok (.iconst 4, 1) := by decide +kernel
theorem dX4_add_93 : decode cX4_add 93 = .ok (.if_icmp .ge 22, 3) := by decide +kernel
theorem dX4_add_96 : decode cX4_add 96 = .ok (.aload_n 0, 1) := by decide +kernel
theorem dX4_add_97 : decode cX4_add 97 = .ok (.getfield 19, 3) := by decide +kernel
theorem dX4_add_100 : decode cX4_add 100 = .ok (.iload 7, 2) := by decide +kernel
theorem dX4_add_102 : decode cX4_add 102 = .ok (.iconst 4, 1) := by decide +kernel
theorem dX4_add_103 : decode cX4_add 103 = .ok (.imul, 1) := by decide +kernel
theorem dX4_add_104 : decode cX4_add 104 = .ok (.iload 9, 2) := by decide +kernel
theorem dX4_add_106 : decode cX4_add 106 = .ok (.iadd, 1) := by decide +kernel
theorem dX4_add_107 : decode cX4_add 107 = .ok (.lconst 0, 1) := by decide +kernel
theorem dX4_add_108 : decode cX4_add 108 = .ok (.lastore, 1) := by decide +kernel
theorem dX4_add_109 : decode cX4_add 109 = .ok (.iinc 9 1, 3) := by decide +kernel
theorem dX4_add_112 : decode cX4_add 112 = .ok (.goto (-22), 3) := by decide +kernel
theorem dX4_add_115 : decode cX4_add 115 = .ok (.aload_n 0, 1) := by decide +kernel
theorem dX4_add_116 : decode cX4_add 116 = .ok (.dup, 1) := by decide +kernel
theorem dX4_add_117 : decode cX4_add 117 = .ok (.getfield 9, 3) := by decide +kernel
theorem dX4_add_120 : decode cX4_add 120 = .ok (.iconst 1, 1) := by decide +kernel
theorem dX4_add_121 : decode cX4_add 121 = .ok (.iadd, 1) := by decide +kernel
theorem dX4_add_122 : decode cX4_add 122 = .ok (.putfield 9, 3) := by decide +kernel
theorem dX4_add_125 : decode cX4_add 125 = .ok (.iload 7, 2) := by decide +kernel
theorem dX4_add_127 : decode cX4_add 127 = .ok (.ireturn, 1) := by decide +kernel
theorem dX4_value_0 : decode cX4_value 0 = .ok (.aload_n 0, 1) := by decide +kernel
theorem dX4_value_1 : decode cX4_value 1 = .ok (.getfield 15, 3) := by decide +kernel
theorem dX4_value_4 : decode cX4_value 4 = .ok (.iload_n 1, 1) := by decide +kernel
theorem dX4_value_5 : decode cX4_value 5 = .ok (.bipush 7, 2) := by decide +kernel
theorem dX4_value_7 : decode cX4_value 7 = .ok (.imul, 1) := by decide +kernel
theorem dX4_value_8 : decode cX4_value 8 = .ok (.iload_n 2, 1) := by decide +kernel
theorem dX4_value_9 : decode cX4_value 9 = .ok (.iadd, 1) := by decide +kernel
theorem dX4_value_10 : decode cX4_value 10 = .ok (.iaload, 1) := by decide +kernel
theorem dX4_value_11 : decode cX4_value 11 = .ok (.ireturn, 1) := by decide +kernel
theorem dX4_link_0 : decode cX4_link 0 = .ok (.aload_n 0, 1) := by decide +kernel
theorem dX4_link_1 : decode cX4_link 1 = .ok (.getfield 15, 3) := by decide +kernel
theorem dX4_link_4 : decode cX4_link 4 = .ok (.iload_n 1, 1) := by decide +kernel
theorem dX4_link_5 : decode cX4_link 5 = .ok (.bipush 7, 2) := by decide +kernel
theorem dX4_link_7 : decode cX4_link 7 = .ok (.imul, 1) := by decide +kernel
theorem dX4_link_8 : decode cX4_link 8 = .ok (.bipush 6, 2) := by decide +kernel
theorem dX4_link_10 : decode cX4_link 10 = .ok (.iadd, 1) := by decide +kernel
theorem dX4_link_11 : decode cX4_link 11 = .ok (.iload_n 2, 1) := by decide +kernel
theorem dX4_link_12 : decode cX4_link 12 = .ok (.iastore, 1) := by decide +kernel
theorem dX4_link_13 : decode cX4_link 13 = .ok (.aload_n 0, 1) := by decide +kernel
theorem dX4_link_14 : decode cX4_link 14 = .ok (.getfield 15, 3) := by decide +kernel
theorem dX4_link_17 : decode cX4_link 17 = .ok (.iload_n 2, 1) := by decide +kernel
theorem dX4_link_18 : decode cX4_link 18 = .ok (.bipush 7, 2) := by decide +kernel
theorem dX4_link_20 : decode cX4_link 20 = .ok (.imul, 1) := by decide +kernel
theorem dX4_link_21 : decode cX4_link 21 = .ok (.bipush 6, 2) := by decide +kernel
theorem dX4_link_23 : decode cX4_link 23 = .ok (.iadd, 1) := by decide +kernel
theorem dX4_link_24 : decode cX4_link 24 = .ok (.iload_n 1, 1) := by decide +kernel
theorem dX4_link_25 : decode cX4_link 25 = .ok (.iastore, 1) := by decide +kernel
theorem dX4_link_26 : decode cX4_link 26 = .ok (.return_, 1) := by decide +kernel
theorem dX4_isReversible_0 : decode cX4_isReversible 0 = .ok (.aload_n 0, 1) := by decide +kernel
theorem dX4_isReversible_1 : decode cX4_isReversible 1 = .ok (.iload_n 1, 1) := by decide +kernel
theorem dX4_isReversible_2 : decode cX4_isReversible 2 = .ok (.iconst 5, 1) := by decide +kernel
theorem dX4_isReversible_3 : decode cX4_isReversible 3 = .ok (.invokevirtual 23, 3) := by decide +kernel
theorem dX4_isReversible_6 : decode cX4_isReversible 6 = .ok (.ifCond .ne 18, 3) := by decide +kernel
theorem dX4_isReversible_9 : decode cX4_isReversible 9 = .ok (.aload_n 0, 1) := by decide +kernel
theorem dX4_isReversible_10 : decode cX4_isReversible 10 = .ok (.iload_n 1, 1) := by decide +kernel
theorem dX4_isReversible_11 : decode cX4_isReversible 11 = .ok (.bipush 6, 2) := by decide +kernel
theorem dX4_isReversible_13 : decode cX4_isReversible 13 = .ok (.invokevirtual 23, 3) := by decide +kernel
theorem dX4_isReversible_16 : decode cX4_isReversible 16 = .ok (.iconst (-1), 1) := by decide +kernel
theorem dX4_isReversible_17 : decode cX4_isReversible 17 = .ok (.if_icmp .ne 7, 3) := by decide +kernel
theorem dX4_isReversible_20 : decode cX4_isReversible 20 = .ok (.iconst 1, 1) := by decide +kernel
theorem dX4_isReversible_21 : decode cX4_isReversible 21 = .ok (.goto 4, 3) := by decide +kernel
theorem dX4_isReversible_24 : decode cX4_isReversible 24 = .ok (.iconst 0, 1) := by decide +kernel
theorem dX4_isReversible_25 : decode cX4_isReversible 25 = .ok (.ireturn, 1) := by decide +kernel
theorem dX4_copyFrom_0 : decode cX4_copyFrom 0 = .ok (.aload_n 0, 1) := by decide +kernel
theorem dX4_copyFrom_1 : decode cX4_copyFrom 1 = .ok (.aload_n 1, 1) := by decide +kernel
theorem dX4_copyFrom_2 : decode cX4_copyFrom 2 = .ok (.getfield 9, 3) := by decide +kernel
theorem dX4_copyFrom_5 : decode cX4_copyFrom 5 = .ok (.putfield 9, 3) := by decide +kernel
theorem dX4_copyFrom_8 : decode cX4_copyFrom 8 = .ok (.aload_n 1, 1) := by decide +kernel
theorem dX4_copyFrom_9 : decode cX4_copyFrom 9 = .ok (.getfield 15, 3) := by decide +kernel
theorem dX4_copyFrom_12 : decode cX4_copyFrom 12 = .ok (.iconst 0, 1) := by decide +kernel
theorem dX4_copyFrom_13 : decode cX4_copyFrom 13 = .ok (.aload_n 0, 1) := by decide +kernel
theorem dX4_copyFrom_14 : decode cX4_copyFrom 14 = .ok (.getfield 15, 3) := by decide +kernel
theorem dX4_copyFrom_17 : decode cX4_copyFrom 17 = .ok (.iconst 0, 1) := by decide +kernel
theorem dX4_copyFrom_18 : decode cX4_copyFrom 18 = .ok (.sipush 2100, 3) := by decide +kernel
theorem dX4_copyFrom_21 : decode cX4_copyFrom 21 = .ok (.invokestatic 27, 3) := by decide +kernel
theorem dX4_copyFrom_24 : decode cX4_copyFrom 24 = .ok (.aload_n 1, 1) := by decide +kernel
theorem dX4_copyFrom_25 : decode cX4_copyFrom 25 = .ok (.getfield 19, 3) := by decide +kernel
theorem dX4_copyFrom_28 : decode cX4_copyFrom 28 = .ok (.iconst 0, 1) := by decide +kernel
theorem dX4_copyFrom_29 : decode cX4_copyFrom 29 = .ok (.aload_n 0, 1) := by decide +kernel
theorem dX4_copyFrom_30 : decode cX4_copyFrom 30 = .ok (.getfield 19, 3) := by decide +kernel
theorem dX4_copyFrom_33 : decode cX4_copyFrom 33 = .ok (.iconst 0, 1) := by decide +kernel
theorem dX4_copyFrom_34 : decode cX4_copyFrom 34 = .ok (.sipush 1200, 3) := by decide +kernel
theorem dX4_copyFrom_37 : decode cX4_copyFrom 37 = .ok (.invokestatic 27, 3) := by decide +kernel
theorem dX4_copyFrom_40 : decode cX4_copyFrom 40 = .ok (.return_, 1) := by decide +kernel
theorem dX4_keepBlocks_0 : decode cX4_keepBlocks 0 = .ok (.iconst 0, 1) := by decide +kernel
theorem dX4_keepBlocks_1 : decode cX4_keepBlocks 1 = .ok (.istore_n 3, 1) := by decide +kernel
theorem dX4_keepBlocks_2 : decode cX4_keepBlocks 2 = .ok (.iload_n 3, 1) := by decide +kernel
theorem dX4_keepBlocks_3 : decode cX4_keepBlocks 3 = .ok (.sipush 200, 3) := by decide +kernel
theorem dX4_keepBlocks_6 : decode cX4_keepBlocks 6 = .ok (.if_icmp .ge 37, 3) := by decide +kernel
theorem dX4_keepBlocks_9 : decode cX4_keepBlocks 9 = .ok (.aload_n 2, 1) := by decide +kernel
theorem dX4_keepBlocks_10 : decode cX4_keepBlocks 10 = .ok (.iload_n 3, 1) := by decide +kernel
theorem dX4_keepBlocks_11 : decode cX4_keepBlocks 11 = .ok (.baload, 1) := by decide +kernel
theorem dX4_keepBlocks_12 : decode cX4_keepBlocks 12 = .ok (.ifCond .eq 25, 3) := by decide +kernel
theorem dX4_keepBlocks_15 : decode cX4_keepBlocks 15 = .ok (.aload_n 0, 1) := by decide +kernel
theorem dX4_keepBlocks_16 : decode cX4_keepBlocks 16 = .ok (.getfield 19, 3) := by decide +kernel
theorem dX4_keepBlocks_19 : decode cX4_keepBlocks 19 = .ok (.iload_n 1, 1) := by decide +kernel
theorem dX4_keepBlocks_20 : decode cX4_keepBlocks 20 = .ok (.iconst 4, 1) := by decide +kernel
theorem dX4_keepBlocks_21 : decode cX4_keepBlocks 21 = .ok (.imul, 1) := by decide +kernel
theorem dX4_keepBlocks_22 : decode cX4_keepBlocks 22 = .ok (.iload_n 3, 1) := by decide +kernel
theorem dX4_keepBlocks_23 : decode cX4_keepBlocks 23 = .ok (.bipush 64, 2) := by decide +kernel
theorem dX4_keepBlocks_25 : decode cX4_keepBlocks 25 = .ok (.idiv, 1) := by decide +kernel
theorem dX4_keepBlocks_26 : decode cX4_keepBlocks 26 = .ok (.iadd, 1) := by decide +kernel
theorem dX4_keepBlocks_27 : decode cX4_keepBlocks 27 = .ok (.dup2, 1) := by decide +kernel
theorem dX4_keepBlocks_28 : decode cX4_keepBlocks 28 = .ok (.laload, 1) := by decide +kernel
theorem dX4_keepBlocks_29 : decode cX4_keepBlocks 29 = .ok (.lconst 1, 1) := by decide +kernel
theorem dX4_keepBlocks_30 : decode cX4_keepBlocks 30 = .ok (.iload_n 3, 1) := by decide +kernel
theorem dX4_keepBlocks_31 : decode cX4_keepBlocks 31 = .ok (.bipush 64, 2) := by decide +kernel
theorem dX4_keepBlocks_33 : decode cX4_keepBlocks 33 = .ok (.irem, 1) := by decide +kernel
theorem dX4_keepBlocks_34 : decode cX4_keepBlocks 34 = .ok (.lshl, 1) := by decide +kernel
theorem dX4_keepBlocks_35 : decode cX4_keepBlocks 35 = .ok (.lor, 1) := by decide +kernel
theorem dX4_keepBlocks_36 : decode cX4_keepBlocks 36 = .ok (.lastore, 1) := by decide +kernel
theorem dX4_keepBlocks_37 : decode cX4_keepBlocks 37 = .ok (.iinc 3 1, 3) := by decide +kernel
theorem dX4_keepBlocks_40 : decode cX4_keepBlocks 40 = .ok (.goto (-38), 3) := by decide +kernel
theorem dX4_keepBlocks_43 : decode cX4_keepBlocks 43 = .ok (.return_, 1) := by decide +kernel
theorem dX4_pickBlocks_0 : decode cX4_pickBlocks 0 = .ok (.iconst 0, 1) := by decide +kernel
theorem dX4_pickBlocks_1 : decode cX4_pickBlocks 1 = .ok (.istore_n 3, 1) := by decide +kernel
theorem dX4_pickBlocks_2 : decode cX4_pickBlocks 2 = .ok (.iload_n 3, 1) := by decide +kernel
theorem dX4_pickBlocks_3 : decode cX4_pickBlocks 3 = .ok (.sipush 200, 3) := by decide +kernel
theorem dX4_pickBlocks_6 : decode cX4_pickBlocks 6 = .ok (.if_icmp .ge 46, 3) := by decide +kernel
theorem dX4_pickBlocks_9 : decode cX4_pickBlocks 9 = .ok (.aload_n 0, 1) := by decide +kernel
theorem dX4_pickBlocks_10 : decode cX4_pickBlocks 10 = .ok (.getfield 19, 3) := by decide +kernel
theorem dX4_pickBlocks_13 : decode cX4_pickBlocks 13 = .ok (.iload_n 1, 1) := by decide +kernel
theorem dX4_pickBlocks_14 : decode cX4_pickBlocks 14 = .ok (.iconst 4, 1) := by decide +kernel
theorem dX4_pickBlocks_15 : decode cX4_pickBlocks 15 = .ok (.imul, 1) := by decide +kernel
theorem dX4_pickBlocks_16 : decode cX4_pickBlocks 16 = .ok (.iload_n 3, 1) := by decide +kernel
theorem dX4_pickBlocks_17 : decode cX4_pickBlocks 17 = .ok (.bipush 64, 2) := by decide +kernel
theorem dX4_pickBlocks_19 : decode cX4_pickBlocks 19 = .ok (.idiv, 1) := by decide +kernel
theorem dX4_pickBlocks_20 : decode cX4_pickBlocks 20 = .ok (.iadd, 1) := by decide +kernel
theorem dX4_pickBlocks_21 : decode cX4_pickBlocks 21 = .ok (.laload, 1) := by decide +kernel
theorem dX4_pickBlocks_22 : decode cX4_pickBlocks 22 = .ok (.lstore 4, 2) := by decide +kernel
theorem dX4_pickBlocks_24 : decode cX4_pickBlocks 24 = .ok (.aload_n 2, 1) := by decide +kernel
theorem dX4_pickBlocks_25 : decode cX4_pickBlocks 25 = .ok (.iload_n 3, 1) := by decide +kernel
theorem dX4_pickBlocks_26 : decode cX4_pickBlocks 26 = .ok (.lload 4, 2) := by decide +kernel
theorem dX4_pickBlocks_28 : decode cX4_pickBlocks 28 = .ok (.iload_n 3, 1) := by decide +kernel
theorem dX4_pickBlocks_29 : decode cX4_pickBlocks 29 = .ok (.bipush 64, 2) := by decide +kernel
theorem dX4_pickBlocks_31 : decode cX4_pickBlocks 31 = .ok (.irem, 1) := by decide +kernel
theorem dX4_pickBlocks_32 : decode cX4_pickBlocks 32 = .ok (.lushr, 1) := by decide +kernel
theorem dX4_pickBlocks_33 : decode cX4_pickBlocks 33 = .ok (.lconst 1, 1) := by decide +kernel
theorem dX4_pickBlocks_34 : decode cX4_pickBlocks 34 = .ok (.land, 1) := by decide +kernel
theorem dX4_pickBlocks_35 : decode cX4_pickBlocks 35 = .ok (.lconst 0, 1) := by decide +kernel
theorem dX4_pickBlocks_36 : decode cX4_pickBlocks 36 = .ok (.lcmp, 1) := by decide +kernel
theorem dX4_pickBlocks_37 : decode cX4_pickBlocks 37 = .ok (.ifCond .eq 7, 3) := by decide +kernel
theorem dX4_pickBlocks_40 : decode cX4_pickBlocks 40 = .ok (.iconst 1, 1) := by decide +kernel
theorem dX4_pickBlocks_41 : decode cX4_pickBlocks 41 = .ok (.goto 4, 3) := by decide +kernel
theorem dX4_pickBlocks_44 : decode cX4_pickBlocks 44 = .ok (.iconst 0, 1) := by decide +kernel
theorem dX4_pickBlocks_45 : decode cX4_pickBlocks 45 = .ok (.bastore, 1) := by decide +kernel
theorem dX4_pickBlocks_46 : decode cX4_pickBlocks 46 = .ok (.iinc 3 1, 3) := by decide +kernel
theorem dX4_pickBlocks_49 : decode cX4_pickBlocks 49 = .ok (.goto (-47), 3) := by decide +kernel
theorem dX4_pickBlocks_52 : decode cX4_pickBlocks 52 = .ok (.return_, 1) := by decide +kernel
theorem dX4_change_0 : decode cX4_change 0 = .ok (.iconst 0, 1) := by decide +kernel
theorem dX4_change_1 : decode cX4_change 1 = .ok (.istore_n 3, 1) := by decide +kernel
theorem dX4_change_2 : decode cX4_change 2 = .ok (.aload_n 0, 1) := by decide +kernel
theorem dX4_change_3 : decode cX4_change 3 = .ok (.iload_n 1, 1) := by decide +kernel
theorem dX4_change_4 : decode cX4_change 4 = .ok (.iconst 1, 1) := by decide +kernel
theorem dX4_change_5 : decode cX4_change 5 = .ok (.invokevirtual 23, 3) := by decide +kernel
theorem dX4_change_8 : decode cX4_change 8 = .ok (.iload_n 2, 1) := by decide +kernel
theorem dX4_change_9 : decode cX4_change 9 = .ok (.if_icmp .ne 12, 3) := by decide +kernel
theorem dX4_change_12 : decode cX4_change 12 = .ok (.iload_n 3, 1) := by decide +kernel
theorem dX4_change_13 : decode cX4_change 13 = .ok (.aload_n 0, 1) := by decide +kernel
theorem dX4_change_14 : decode cX4_change 14 = .ok (.iload_n 1, 1) := by decide +kernel
theorem dX4_change_15 : decode cX4_change 15 = .ok (.iconst 2, 1) := by decide +kernel
theorem dX4_change_16 : decode cX4_change 16 = .ok (.invokevirtual 23, 3) := by decide +kernel
theorem dX4_change_19 : decode cX4_change 19 = .ok (.iadd, 1) := by decide +kernel
theorem dX4_change_20 : decode cX4_change 20 = .ok (.istore_n 3, 1) := by decide +kernel
theorem dX4_change_21 : decode cX4_change 21 = .ok (.aload_n 0, 1) := by decide +kernel
theorem dX4_change_22 : decode cX4_change 22 = .ok (.iload_n 1, 1) := by decide +kernel
theorem dX4_change_23 : decode cX4_change 23 = .ok (.iconst 0, 1) := by decide +kernel
theorem dX4_change_24 : decode cX4_change 24 = .ok (.invokevirtual 23, 3) := by decide +kernel
theorem dX4_change_27 : decode cX4_change 27 = .ok (.iload_n 2, 1) := by decide +kernel
theorem dX4_change_28 : decode cX4_change 28 = .ok (.if_icmp .ne 12, 3) := by decide +kernel
theorem dX4_change_31 : decode cX4_change 31 = .ok (.iload_n 3, 1) := by decide +kernel
theorem dX4_change_32 : decode cX4_change 32 = .ok (.aload_n 0, 1) := by decide +kernel
theorem dX4_change_33 : decode cX4_change 33 = .ok (.iload_n 1, 1) := by decide +kernel
theorem dX4_change_34 : decode cX4_change 34 = .ok (.iconst 2, 1) := by decide +kernel
theorem dX4_change_35 : decode cX4_change 35 = .ok (.invokevirtual 23, 3) := by decide +kernel
theorem dX4_change_38 : decode cX4_change 38 = .ok (.isub, 1) := by decide +kernel
theorem dX4_change_39 : decode cX4_change 39 = .ok (.istore_n 3, 1) := by decide +kernel
theorem dX4_change_40 : decode cX4_change 40 = .ok (.iload_n 3, 1) := by decide +kernel
theorem dX4_change_41 : decode cX4_change 41 = .ok (.ireturn, 1) := by decide +kernel
theorem dX4_isWithin_0 : decode cX4_isWithin 0 = .ok (.aload_n 0, 1) := by decide +kernel
theorem dX4_isWithin_1 : decode cX4_isWithin 1 = .ok (.iload_n 1, 1) := by decide +kernel
theorem dX4_isWithin_2 : decode cX4_isWithin 2 = .ok (.iconst 4, 1) := by decide +kernel
theorem dX4_isWithin_3 : decode cX4_isWithin 3 = .ok (.invokevirtual 23, 3) := by decide +kernel
theorem dX4_isWithin_6 : decode cX4_isWithin 6 = .ok (.istore 4, 2) := by decide +kernel
theorem dX4_isWithin_8 : decode cX4_isWithin 8 = .ok (.iload_n 2, 1) := by decide +kernel
theorem dX4_isWithin_9 : decode cX4_isWithin 9 = .ok (.iload 4, 2) := by decide +kernel
theorem dX4_isWithin_11 : decode cX4_isWithin 11 = .ok (.if_icmp .gt 13, 3) := by decide +kernel
theorem dX4_isWithin_14 : decode cX4_isWithin 14 = .ok (.iload 4, 2) := by decide +kernel
theorem dX4_isWithin_16 : decode cX4_isWithin 16 = .ok (.iload_n 3, 1) := by decide +kernel
theorem dX4_isWithin_17 : decode cX4_isWithin 17 = .ok (.if_icmp .gt 7, 3) := by decide +kernel
theorem dX4_isWithin_20 : decode cX4_isWithin 20 = .ok (.iconst 1, 1) := by decide +kernel
theorem dX4_isWithin_21 : decode cX4_isWithin 21 = .ok (.goto 4, 3) := by decide +kernel
theorem dX4_isWithin_24 : decode cX4_isWithin 24 = .ok (.iconst 0, 1) := by decide +kernel
theorem dX4_isWithin_25 : decode cX4_isWithin 25 = .ok (.ireturn, 1) := by decide +kernel
theorem dX4_net_0 : decode cX4_net 0 = .ok (.iconst 0, 1) := by decide +kernel
theorem dX4_net_1 : decode cX4_net 1 = .ok (.istore 4, 2) := by decide +kernel
theorem dX4_net_3 : decode cX4_net 3 = .ok (.iload_n 2, 1) := by decide +kernel
theorem dX4_net_4 : decode cX4_net 4 = .ok (.istore 5, 2) := by decide +kernel
theorem dX4_net_6 : decode cX4_net 6 = .ok (.iload 5, 2) := by decide +kernel
theorem dX4_net_8 : decode cX4_net 8 = .ok (.iload_n 3, 1) := by decide +kernel
theorem dX4_net_9 : decode cX4_net 9 = .ok (.if_icmp .ge 21, 3) := by decide +kernel
theorem dX4_net_12 : decode cX4_net 12 = .ok (.iload 4, 2) := by decide +kernel
theorem dX4_net_14 : decode cX4_net 14 = .ok (.aload_n 0, 1) := by decide +kernel
theorem dX4_net_15 : decode cX4_net 15 = .ok (.iload 5, 2) := by decide +kernel
theorem dX4_net_17 : decode cX4_net 17 = .ok (.iload_n 1, 1) := by decide +kernel
theorem dX4_net_18 : decode cX4_net 18 = .ok (.invokevirtual 33, 3) := by decide +kernel
theorem dX4_net_21 : decode cX4_net 21 = .ok (.iadd, 1) := by decide +kernel
theorem dX4_net_22 : decode cX4_net 22 = .ok (.istore 4, 2) := by decide +kernel
theorem dX4_net_24 : decode cX4_net 24 = .ok (.iinc 5 1, 3) := by decide +kernel
theorem dX4_net_27 : decode cX4_net 27 = .ok (.goto (-21), 3) := by decide +kernel
theorem dX4_net_30 : decode cX4_net 30 = .ok (.iload 4, 2) := by decide +kernel
theorem dX4_net_32 : decode cX4_net 32 = .ok (.ireturn, 1) := by decide +kernel
theorem dX4_netUntil_0 : decode cX4_netUntil 0 = .ok (.iconst 0, 1) := by decide +kernel
theorem dX4_netUntil_1 : decode cX4_netUntil 1 = .ok (.istore_n 3, 1) := by decide +kernel
theorem dX4_netUntil_2 : decode cX4_netUntil 2 = .ok (.iconst 0, 1) := by decide +kernel
theorem dX4_netUntil_3 : decode cX4_netUntil 3 = .ok (.istore 4, 2) := by decide +kernel
theorem dX4_netUntil_5 : decode cX4_netUntil 5 = .ok (.iload 4, 2) := by decide +kernel
theorem dX4_netUntil_7 : decode cX4_netUntil 7 = .ok (.aload_n 0, 1) := by decide +kernel
theorem dX4_netUntil_8 : decode cX4_netUntil 8 = .ok (.getfield 9, 3) := by decide +kernel
theorem dX4_netUntil_11 : decode cX4_netUntil 11 = .ok (.if_icmp .ge 30, 3) := by decide +kernel
theorem dX4_netUntil_14 : decode cX4_netUntil 14 = .ok (.aload_n 0, 1) := by decide +kernel
theorem dX4_netUntil_15 : decode cX4_netUntil 15 = .ok (.iload 4, 2) := by decide +kernel
theorem dX4_netUntil_17 : decode cX4_netUntil 17 = .ok (.iconst 4, 1) := by decide +kernel
theorem dX4_netUntil_18 : decode cX4_netUntil 18 = .ok (.invokevirtual 23, 3) := by decide +kernel
theorem dX4_netUntil_21 : decode cX4_netUntil 21 = .ok (.iload_n 2, 1) := by decide +kernel
theorem dX4_netUntil_22 : decode cX4_netUntil 22 = .ok (.if_icmp .gt 13, 3) := by decide +kernel
theorem dX4_netUntil_25 : decode cX4_netUntil 25 = .ok (.iload_n 3, 1) := by decide +kernel
theorem dX4_netUntil_26 : decode cX4_netUntil 26 = .ok (.aload_n 0, 1) := by decide +kernel
theorem dX4_netUntil_27 : decode cX4_netUntil 27 = .ok (.iload 4, 2) := by decide +kernel
theorem dX4_netUntil_29 : decode cX4_netUntil 29 = .ok (.iload_n 1, 1) := by decide +kernel
theorem dX4_netUntil_30 : decode cX4_netUntil 30 = .ok (.invokevirtual 33, 3) := by decide +kernel
theorem dX4_netUntil_33 : decode cX4_netUntil 33 = .ok (.iadd, 1) := by decide +kernel
theorem dX4_netUntil_34 : decode cX4_netUntil 34 = .ok (.istore_n 3, 1) := by decide +kernel
theorem dX4_netUntil_35 : decode cX4_netUntil 35 = .ok (.iinc 4 1, 3) := by decide +kernel
theorem dX4_netUntil_38 : decode cX4_netUntil 38 = .ok (.goto (-33), 3) := by decide +kernel
theorem dX4_netUntil_41 : decode cX4_netUntil 41 = .ok (.iload_n 3, 1) := by decide +kernel
theorem dX4_netUntil_42 : decode cX4_netUntil 42 = .ok (.ireturn, 1) := by decide +kernel
theorem dX4_greatest_0 : decode cX4_greatest 0 = .ok (.iload_n 2, 1) := by decide +kernel
theorem dX4_greatest_1 : decode cX4_greatest 1 = .ok (.istore 5, 2) := by decide +kernel
theorem dX4_greatest_3 : decode cX4_greatest 3 = .ok (.iload_n 2, 1) := by decide +kernel
theorem dX4_greatest_4 : decode cX4_greatest 4 = .ok (.istore 6, 2) := by decide +kernel
theorem dX4_greatest_6 : decode cX4_greatest 6 = .ok (.iconst 0, 1) := by decide +kernel
theorem dX4_greatest_7 : decode cX4_greatest 7 = .ok (.istore 7, 2) := by decide +kernel
theorem dX4_greatest_9 : decode cX4_greatest 9 = .ok (.iload 7, 2) := by decide +kernel
theorem dX4_greatest_11 : decode cX4_greatest 11 = .ok (.aload_n 0, 1) := by decide +kernel
theorem dX4_greatest_12 : decode cX4_greatest 12 = .ok (.getfield 9, 3) := by decide +kernel
theorem dX4_greatest_15 : decode cX4_greatest 15 = .ok (.if_icmp .ge 58, 3) := by decide +kernel
theorem dX4_greatest_18 : decode cX4_greatest 18 = .ok (.aload_n 0, 1) := by decide +kernel
theorem dX4_greatest_19 : decode cX4_greatest 19 = .ok (.iload 7, 2) := by decide +kernel
theorem dX4_greatest_21 : decode cX4_greatest 21 = .ok (.iconst 4, 1) := by decide +kernel
theorem dX4_greatest_22 : decode cX4_greatest 22 = .ok (.invokevirtual 23, 3) := by decide +kernel
theorem dX4_greatest_25 : decode cX4_greatest 25 = .ok (.iload 4, 2) := by decide +kernel
theorem dX4_greatest_27 : decode cX4_greatest 27 = .ok (.if_icmp .gt 46, 3) := by decide +kernel
theorem dX4_greatest_30 : decode cX4_greatest 30 = .ok (.iload 5, 2) := by decide +kernel
theorem dX4_greatest_32 : decode cX4_greatest 32 = .ok (.aload_n 0, 1) := by decide +kernel
theorem dX4_greatest_33 : decode cX4_greatest 33 = .ok (.iload 7, 2) := by decide +kernel
theorem dX4_greatest_35 : decode cX4_greatest 35 = .ok (.iload_n 1, 1) := by decide +kernel
theorem dX4_greatest_36 : decode cX4_greatest 36 = .ok (.invokevirtual 33, 3) := by decide +kernel
theorem dX4_greatest_39 : decode cX4_greatest 39 = .ok (.iadd, 1) := by decide +kernel
theorem dX4_greatest_40 : decode cX4_greatest 40 = .ok (.istore 5, 2) := by decide +kernel
theorem dX4_greatest_42 : decode cX4_greatest 42 = .ok (.aload_n 0, 1) := by decide +kernel
theorem dX4_greatest_43 : decode cX4_greatest 43 = .ok (.iload 7, 2) := by decide +kernel
theorem dX4_greatest_45 : decode cX4_greatest 45 = .ok (.iconst 4, 1) := by decide +kernel
theorem dX4_greatest_46 : decode cX4_greatest 46 = .ok (.invokevirtual 23, 3) := by decide +kernel
theorem dX4_greatest_49 : decode cX4_greatest 49 = .ok (.iload_n 3, 1) := by decide +kernel
theorem dX4_greatest_50 : decode cX4_greatest 50 = .ok (.if_icmp .ge 8, 3) := by decide +kernel
theorem dX4_greatest_53 : decode cX4_greatest 53 = .ok (.iload 5, 2) := by decide +kernel
theorem dX4_greatest_55 : decode cX4_greatest 55 = .ok (.goto 10, 3) := by decide +kernel
theorem dX4_greatest_58 : decode cX4_greatest 58 = .ok (.iload 6, 2) := by decide +kernel
theorem dX4_greatest_60 : decode cX4_greatest 60 = .ok (.iload 5, 2) := by decide +kernel
theorem dX4_greatest_62 : decode cX4_greatest 62 = .ok (.invokestatic 36, 3) := by decide +kernel
theorem dX4_greatest_65 : decode cX4_greatest 65 = .ok (.istore 6, 2) := by decide +kernel
theorem dX4_greatest_67 : decode cX4_greatest 67 = .ok (.iinc 7 1, 3) := by decide +kernel
theorem dX4_greatest_70 : decode cX4_greatest 70 = .ok (.goto (-61), 3) := by decide +kernel
theorem dX4_greatest_73 : decode cX4_greatest 73 = .ok (.iload 6, 2) := by decide +kernel
theorem dX4_greatest_75 : decode cX4_greatest 75 = .ok (.ireturn, 1) := by decide +kernel
theorem dX4_sumBetween_0 : decode cX4_sumBetween 0 = .ok (.iconst 0, 1) := by decide +kernel
theorem dX4_sumBetween_1 : decode cX4_sumBetween 1 = .ok (.istore 5, 2) := by decide +kernel
theorem dX4_sumBetween_3 : decode cX4_sumBetween 3 = .ok (.iconst 0, 1) := by decide +kernel
theorem dX4_sumBetween_4 : decode cX4_sumBetween 4 = .ok (.istore 6, 2) := by decide +kernel
theorem dX4_sumBetween_6 : decode cX4_sumBetween 6 = .ok (.iload 6, 2) := by decide +kernel
theorem dX4_sumBetween_8 : decode cX4_sumBetween 8 = .ok (.aload_n 0, 1) := by decide +kernel
theorem dX4_sumBetween_9 : decode cX4_sumBetween 9 = .ok (.getfield 9, 3) := by decide +kernel
theorem dX4_sumBetween_12 : decode cX4_sumBetween 12 = .ok (.if_icmp .ge 67, 3) := by decide +kernel
theorem dX4_sumBetween_15 : decode cX4_sumBetween 15 = .ok (.aload_n 0, 1) := by decide +kernel
theorem dX4_sumBetween_16 : decode cX4_sumBetween 16 = .ok (.iload 6, 2) := by decide +kernel
theorem dX4_sumBetween_18 : decode cX4_sumBetween 18 = .ok (.iconst 0, 1) := by decide +kernel
theorem dX4_sumBetween_19 : decode cX4_sumBetween 19 = .ok (.invokevirtual 23, 3) := by decide +kernel
theorem dX4_sumBetween_22 : decode cX4_sumBetween 22 = .ok (.iload_n 1, 1) := by decide +kernel
theorem dX4_sumBetween_23 : decode cX4_sumBetween 23 = .ok (.if_icmp .ne 18, 3) := by decide +kernel
theorem dX4_sumBetween_26 : decode cX4_sumBetween 26 = .ok (.aload_n 0, 1) := by decide +kernel
theorem dX4_sumBetween_27 : decode cX4_sumBetween 27 = .ok (.iload 6, 2) := by decide +kernel
theorem dX4_sumBetween_29 : decode cX4_sumBetween 29 = .ok (.iconst 1, 1) := by decide +kernel
theorem dX4_sumBetween_30 : decode cX4_sumBetween 30 = .ok (.invokevirtual 23, 3) := by decide +kernel
theorem dX4_sumBetween_33 : decode cX4_sumBetween 33 = .ok (.iload_n 2, 1) := by decide +kernel
theorem dX4_sumBetween_34 : decode cX4_sumBetween 34 = .ok (.if_icmp .ne 7, 3) := by decide +kernel
theorem dX4_sumBetween_37 : decode cX4_sumBetween 37 = .ok (.iconst 1, 1) := by decide +kernel
theorem dX4_sumBetween_38 : decode cX4_sumBetween 38 = .ok (.goto 4, 3) := by decide +kernel
theorem dX4_sumBetween_41 : decode cX4_sumBetween 41 = .ok (.iconst 0, 1) := by decide +kernel
theorem dX4_sumBetween_42 : decode cX4_sumBetween 42 = .ok (.istore 7, 2) := by decide +kernel
theorem dX4_sumBetween_44 : decode cX4_sumBetween 44 = .ok (.iload 7, 2) := by decide +kernel
theorem dX4_sumBetween_46 : decode cX4_sumBetween 46 = .ok (.ifCond .eq 27, 3) := by decide +kernel
theorem dX4_sumBetween_49 : decode cX4_sumBetween 49 = .ok (.aload_n 0, 1) := by decide +kernel
theorem dX4_sumBetween_50 : decode cX4_sumBetween 50 = .ok (.iload 6, 2) := by decide +kernel
theorem dX4_sumBetween_52 : decode cX4_sumBetween 52 = .ok (.iload_n 3, 1) := by decide +kernel
theorem dX4_sumBetween_53 : decode cX4_sumBetween 53 = .ok (.iload 4, 2) := by decide +kernel
theorem dX4_sumBetween_55 : decode cX4_sumBetween 55 = .ok (.invokevirtual 41, 3) := by decide +kernel
theorem dX4_sumBetween_58 : decode cX4_sumBetween 58 = .ok (.ifCond .eq 15, 3) := by decide +kernel
theorem dX4_sumBetween_61 : decode cX4_sumBetween 61 = .ok (.iload 5, 2) := by decide +kernel
theorem dX4_sumBetween_63 : decode cX4_sumBetween 63 = .ok (.aload_n 0, 1) := by decide +kernel
theorem dX4_sumBetween_64 : decode cX4_sumBetween 64 = .ok (.iload 6, 2) := by decide +kernel
theorem dX4_sumBetween_66 : decode cX4_sumBetween 66 = .ok (.iconst 2, 1) := by decide +kernel
theorem dX4_sumBetween_67 : decode cX4_sumBetween 67 = .ok (.invokevirtual 23, 3) := by decide +kernel
theorem dX4_sumBetween_70 : decode cX4_sumBetween 70 = .ok (.iadd, 1) := by decide +kernel
theorem dX4_sumBetween_71 : decode cX4_sumBetween 71 = .ok (.istore 5, 2) := by decide +kernel
theorem dX4_sumBetween_73 : decode cX4_sumBetween 73 = .ok (.iinc 6 1, 3) := by decide +kernel
theorem dX4_sumBetween_76 : decode cX4_sumBetween 76 = .ok (.goto (-70), 3) := by decide +kernel
theorem dX4_sumBetween_79 : decode cX4_sumBetween 79 = .ok (.iload 5, 2) := by decide +kernel
theorem dX4_sumBetween_81 : decode cX4_sumBetween 81 = .ok (.ireturn, 1) := by decide +kernel
theorem dX4_sumOfReason_0 : decode cX4_sumOfReason 0 = .ok (.iconst 0, 1) := by decide +kernel
theorem dX4_sumOfReason_1 : decode cX4_sumOfReason 1 = .ok (.istore 4, 2) := by decide +kernel
theorem dX4_sumOfReason_3 : decode cX4_sumOfReason 3 = .ok (.iconst 0, 1) := by decide +kernel
theorem dX4_sumOfReason_4 : decode cX4_sumOfReason 4 = .ok (.istore 5, 2) := by decide +kernel
theorem dX4_sumOfReason_6 : decode cX4_sumOfReason 6 = .ok (.iload 5, 2) := by decide +kernel
theorem dX4_sumOfReason_8 : decode cX4_sumOfReason 8 = .ok (.aload_n 0, 1) := by decide +kernel
theorem dX4_sumOfReason_9 : decode cX4_sumOfReason 9 = .ok (.getfield 9, 3) := by decide +kernel
theorem dX4_sumOfReason_12 : decode cX4_sumOfReason 12 = .ok (.if_icmp .ge 42, 3) := by decide +kernel
theorem dX4_sumOfReason_15 : decode cX4_sumOfReason 15 = .ok (.aload_n 0, 1) := by decide +kernel
theorem dX4_sumOfReason_16 : decode cX4_sumOfReason 16 = .ok (.iload 5, 2) := by decide +kernel
theorem dX4_sumOfReason_18 : decode cX4_sumOfReason 18 = .ok (.iconst 3, 1) := by decide +kernel
theorem dX4_sumOfReason_19 : decode cX4_sumOfReason 19 = .ok (.invokevirtual 23, 3) := by decide +kernel
theorem dX4_sumOfReason_22 : decode cX4_sumOfReason 22 = .ok (.iload_n 1, 1) := by decide +kernel
theorem dX4_sumOfReason_23 : decode cX4_sumOfReason 23 = .ok (.if_icmp .ne 25, 3) := by decide +kernel
theorem dX4_sumOfReason_26 : decode cX4_sumOfReason 26 = .ok (.aload_n 0, 1) := by decide +kernel
theorem dX4_sumOfReason_27 : decode cX4_sumOfReason 27 = .ok (.iload 5, 2) := by decide +kernel
theorem dX4_sumOfReason_29 : decode cX4_sumOfReason 29 = .ok (.iload_n 2, 1) := by decide +kernel
theorem dX4_sumOfReason_30 : decode cX4_sumOfReason 30 = .ok (.iload_n 3, 1) := by decide +kernel
theorem dX4_sumOfReason_31 : decode cX4_sumOfReason 31 = .ok (.invokevirtual 41, 3) := by decide +kernel
theorem dX4_sumOfReason_34 : decode cX4_sumOfReason 34 = .ok (.ifCond .eq 14, 3) := by decide +kernel
theorem dX4_sumOfReason_37 : decode cX4_sumOfReason 37 = .ok (.iload 4, 2) := by decide +kernel
theorem dX4_sumOfReason_39 : decode cX4_sumOfReason 39 = .ok (.aload_n 0, 1) := by decide +kernel
theorem dX4_sumOfReason_40 : decode cX4_sumOfReason 40 = .ok (.iload 5, 2) := by decide +kernel
theorem dX4_sumOfReason_42 : decode cX4_sumOfReason 42 = .ok (.invokevirtual 45, 3) := by decide +kernel
theorem dX4_sumOfReason_45 : decode cX4_sumOfReason 45 = .ok (.iadd, 1) := by decide +kernel
theorem dX4_sumOfReason_46 : decode cX4_sumOfReason 46 = .ok (.istore 4, 2) := by decide +kernel
theorem dX4_sumOfReason_48 : decode cX4_sumOfReason 48 = .ok (.iinc 5 1, 3) := by decide +kernel
theorem dX4_sumOfReason_51 : decode cX4_sumOfReason 51 = .ok (.goto (-45), 3) := by decide +kernel
theorem dX4_sumOfReason_54 : decode cX4_sumOfReason 54 = .ok (.iload 4, 2) := by decide +kernel
theorem dX4_sumOfReason_56 : decode cX4_sumOfReason 56 = .ok (.ireturn, 1) := by decide +kernel
theorem dX4_signed_0 : decode cX4_signed 0 = .ok (.aload_n 0, 1) := by decide +kernel
theorem dX4_signed_1 : decode cX4_signed 1 = .ok (.iload_n 1, 1) := by decide +kernel
theorem dX4_signed_2 : decode cX4_signed 2 = .ok (.iconst 2, 1) := by decide +kernel
theorem dX4_signed_3 : decode cX4_signed 3 = .ok (.invokevirtual 23, 3) := by decide +kernel
theorem dX4_signed_6 : decode cX4_signed 6 = .ok (.istore_n 2, 1) := by decide +kernel
theorem dX4_signed_7 : decode cX4_signed 7 = .ok (.aload_n 0, 1) := by decide +kernel
theorem dX4_signed_8 : decode cX4_signed 8 = .ok (.iload_n 1, 1) := by decide +kernel
theorem dX4_signed_9 : decode cX4_signed 9 = .ok (.iconst 5, 1) := by decide +kernel
theorem dX4_signed_10 : decode cX4_signed 10 = .ok (.invokevirtual 23, 3) := by decide +kernel
theorem dX4_signed_13 : decode cX4_signed 13 = .ok (.lookupswitch 32 #[(0, 27), (1, 29)], 27) := by decide +kernel
theorem dX4_signed_40 : decode cX4_signed 40 = .ok (.iload_n 2, 1) := by decide +kernel
theorem dX4_signed_41 : decode cX4_signed 41 = .ok (.ireturn, 1) := by decide +kernel
theorem dX4_signed_42 : decode cX4_signed 42 = .ok (.iload_n 2, 1) := by decide +kernel
theorem dX4_signed_43 : decode cX4_signed 43 = .ok (.ineg, 1) := by decide +kernel
theorem dX4_signed_44 : decode cX4_signed 44 = .ok (.ireturn, 1) := by decide +kernel
theorem dX4_signed_45 : decode cX4_signed 45 = .ok (.iconst 0, 1) := by decide +kernel
theorem dX4_signed_46 : decode cX4_signed 46 = .ok (.ireturn, 1) := by decide +kernel
theorem dX4_turnover_0 : decode cX4_turnover 0 = .ok (.iconst 0, 1) := by decide +kernel
theorem dX4_turnover_1 : decode cX4_turnover 1 = .ok (.istore 4, 2) := by decide +kernel
theorem dX4_turnover_3 : decode cX4_turnover 3 = .ok (.iconst 0, 1) := by decide +kernel
theorem dX4_turnover_4 : decode cX4_turnover 4 = .ok (.istore 5, 2) := by decide +kernel
theorem dX4_turnover_6 : decode cX4_turnover 6 = .ok (.iload 5, 2) := by decide +kernel
theorem dX4_turnover_8 : decode cX4_turnover 8 = .ok (.aload_n 0, 1) := by decide +kernel
theorem dX4_turnover_9 : decode cX4_turnover 9 = .ok (.getfield 9, 3) := by decide +kernel
theorem dX4_turnover_12 : decode cX4_turnover 12 = .ok (.if_icmp .ge 66, 3) := by decide +kernel
theorem dX4_turnover_15 : decode cX4_turnover 15 = .ok (.aload_n 0, 1) := by decide +kernel
theorem dX4_turnover_16 : decode cX4_turnover 16 = .ok (.iload 5, 2) := by decide +kernel
theorem dX4_turnover_18 : decode cX4_turnover 18 = .ok (.iconst 0, 1) := by decide +kernel
theorem dX4_turnover_19 : decode cX4_turnover 19 = .ok (.invokevirtual 23, 3) := by decide +kernel
theorem dX4_turnover_22 : decode cX4_turnover 22 = .ok (.iload_n 1, 1) := by decide +kernel
theorem dX4_turnover_23 : decode cX4_turnover 23 = .ok (.if_icmp .eq 14, 3) := by decide +kernel
theorem dX4_turnover_26 : decode cX4_turnover 26 = .ok (.aload_n 0, 1) := by decide +kernel
theorem dX4_turnover_27 : decode cX4_turnover 27 = .ok (.iload 5, 2) := by decide +kernel
theorem dX4_turnover_29 : decode cX4_turnover 29 = .ok (.iconst 1, 1) := by decide +kernel
theorem dX4_turnover_30 : decode cX4_turnover 30 = .ok (.invokevirtual 23, 3) := by decide +kernel
theorem dX4_turnover_33 : decode cX4_turnover 33 = .ok (.iload_n 1, 1) := by decide +kernel
theorem dX4_turnover_34 : decode cX4_turnover 34 = .ok (.if_icmp .ne 7, 3) := by decide +kernel
theorem dX4_turnover_37 : decode cX4_turnover 37 = .ok (.iconst 1, 1) := by decide +kernel
theorem dX4_turnover_38 : decode cX4_turnover 38 = .ok (.goto 4, 3) := by decide +kernel
theorem dX4_turnover_41 : decode cX4_turnover 41 = .ok (.iconst 0, 1) := by decide +kernel
theorem dX4_turnover_42 : decode cX4_turnover 42 = .ok (.istore 6, 2) := by decide +kernel
theorem dX4_turnover_44 : decode cX4_turnover 44 = .ok (.iload 6, 2) := by decide +kernel
theorem dX4_turnover_46 : decode cX4_turnover 46 = .ok (.ifCond .eq 26, 3) := by decide +kernel
theorem dX4_turnover_49 : decode cX4_turnover 49 = .ok (.aload_n 0, 1) := by decide +kernel
theorem dX4_turnover_50 : decode cX4_turnover 50 = .ok (.iload 5, 2) := by decide +kernel
theorem dX4_turnover_52 : decode cX4_turnover 52 = .ok (.iload_n 2, 1) := by decide +kernel
theorem dX4_turnover_53 : decode cX4_turnover 53 = .ok (.iload_n 3, 1) := by decide +kernel
theorem dX4_turnover_54 : decode cX4_turnover 54 = .ok (.invokevirtual 41, 3) := by decide +kernel
theorem dX4_turnover_57 : decode cX4_turnover 57 = .ok (.ifCond .eq 15, 3) := by decide +kernel
theorem dX4_turnover_60 : decode cX4_turnover 60 = .ok (.iload 4, 2) := by decide +kernel
theorem dX4_turnover_62 : decode cX4_turnover 62 = .ok (.aload_n 0, 1) := by decide +kernel
theorem dX4_turnover_63 : decode cX4_turnover 63 = .ok (.iload 5, 2) := by decide +kernel
theorem dX4_turnover_65 : decode cX4_turnover 65 = .ok (.iconst 2, 1) := by decide +kernel
theorem dX4_turnover_66 : decode cX4_turnover 66 = .ok (.invokevirtual 23, 3) := by decide +kernel
theorem dX4_turnover_69 : decode cX4_turnover 69 = .ok (.iadd, 1) := by decide +kernel
theorem dX4_turnover_70 : decode cX4_turnover 70 = .ok (.istore 4, 2) := by decide +kernel
theorem dX4_turnover_72 : decode cX4_turnover 72 = .ok (.iinc 5 1, 3) := by decide +kernel
theorem dX4_turnover_75 : decode cX4_turnover 75 = .ok (.goto (-69), 3) := by decide +kernel
theorem dX4_turnover_78 : decode cX4_turnover 78 = .ok (.iload 4, 2) := by decide +kernel
theorem dX4_turnover_80 : decode cX4_turnover 80 = .ok (.ireturn, 1) := by decide +kernel
theorem dX5_init_0 : decode cX5_init 0 = .ok (.aload_n 0, 1) := by decide +kernel
theorem dX5_init_1 : decode cX5_init 1 = .ok (.invokespecial 3, 3) := by decide +kernel
theorem dX5_init_4 : decode cX5_init 4 = .ok (.aload_n 0, 1) := by decide +kernel
theorem dX5_init_5 : decode cX5_init 5 = .ok (.new 9, 3) := by decide +kernel
theorem dX5_init_8 : decode cX5_init 8 = .ok (.dup, 1) := by decide +kernel
theorem dX5_init_9 : decode cX5_init 9 = .ok (.invokespecial 11, 3) := by decide +kernel
theorem dX5_init_12 : decode cX5_init 12 = .ok (.putfield 12, 3) := by decide +kernel
theorem dX5_init_15 : decode cX5_init 15 = .ok (.aload_n 0, 1) := by decide +kernel
theorem dX5_init_16 : decode cX5_init 16 = .ok (.new 18, 3) := by decide +kernel
theorem dX5_init_19 : decode cX5_init 19 = .ok (.dup, 1) := by decide +kernel
theorem dX5_init_20 : decode cX5_init 20 = .ok (.invokespecial 20, 3) := by decide +kernel
theorem dX5_init_23 : decode cX5_init 23 = .ok (.putfield 21, 3) := by decide +kernel
theorem dX5_init_26 : decode cX5_init 26 = .ok (.aload_n 0, 1) := by decide +kernel
theorem dX5_init_27 : decode cX5_init 27 = .ok (.new 25, 3) := by decide +kernel
theorem dX5_init_30 : decode cX5_init 30 = .ok (.dup, 1) := by decide +kernel
theorem dX5_init_31 : decode cX5_init 31 = .ok (.invokespecial 27, 3) := by decide +kernel
theorem dX5_init_34 : decode cX5_init 34 = .ok (.putfield 28, 3) := by decide +kernel
theorem dX5_init_37 : decode cX5_init 37 = .ok (.aload_n 0, 1) := by decide +kernel
theorem dX5_init_38 : decode cX5_init 38 = .ok (.new 32, 3) := by decide +kernel
theorem dX5_init_41 : decode cX5_init 41 = .ok (.dup, 1) := by decide +kernel
theorem dX5_init_42 : decode cX5_init 42 = .ok (.invokespecial 34, 3) := by decide +kernel
theorem dX5_init_45 : decode cX5_init 45 = .ok (.putfield 35, 3) := by decide +kernel
theorem dX5_init_48 : decode cX5_init 48 = .ok (.aload_n 0, 1) := by decide +kernel
theorem dX5_init_49 : decode cX5_init 49 = .ok (.new 39, 3) := by decide +kernel
theorem dX5_init_52 : decode cX5_init 52 = .ok (.dup, 1) := by decide +kernel
theorem dX5_init_53 : decode cX5_init 53 = .ok (.invokespecial 41, 3) := by decide +kernel
theorem dX5_init_56 : decode cX5_init 56 = .ok (.putfield 42, 3) := by decide +kernel
theorem dX5_init_59 : decode cX5_init 59 = .ok (.aload_n 0, 1) := by decide +kernel
theorem dX5_init_60 : decode cX5_init 60 = .ok (.iconst 0, 1) := by decide +kernel
theorem dX5_init_61 : decode cX5_init 61 = .ok (.putfield 46, 3) := by decide +kernel
theorem dX5_init_64 : decode cX5_init 64 = .ok (.aload_n 0, 1) := by decide +kernel
theorem dX5_init_65 : decode cX5_init 65 = .ok (.iconst 0, 1) := by decide +kernel
theorem dX5_init_66 : decode cX5_init 66 = .ok (.putfield 50, 3) := by decide +kernel
theorem dX5_init_69 : decode cX5_init 69 = .ok (.aload_n 0, 1) := by decide +kernel
theorem dX5_init_70 : decode cX5_init 70 = .ok (.bipush 8, 2) := by decide +kernel
theorem dX5_init_72 : decode cX5_init 72 = .ok (.newarray .int, 2) := by decide +kernel
theorem dX5_init_74 : decode cX5_init 74 = .ok (.putfield 53, 3) := by decide +kernel
theorem dX5_init_77 : decode cX5_init 77 = .ok (.return_, 1) := by decide +kernel
theorem dX5_begin_0 : decode cX5_begin 0 = .ok (.aload_n 0, 1) := by decide +kernel
theorem dX5_begin_1 : decode cX5_begin 1 = .ok (.getfield 12, 3) := by decide +kernel
theorem dX5_begin_4 : decode cX5_begin 4 = .ok (.iload_n 1, 1) := by decide +kernel
theorem dX5_begin_5 : decode cX5_begin 5 = .ok (.invokevirtual 57, 3) := by decide +kernel
theorem dX5_begin_8 : decode cX5_begin 8 = .ok (.aload_n 0, 1) := by decide +kernel
theorem dX5_begin_9 : decode cX5_begin 9 = .ok (.getfield 21, 3) := by decide +kernel
theorem dX5_begin_12 : decode cX5_begin 12 = .ok (.iload_n 1, 1) := by decide +kernel
theorem dX5_begin_13 : decode cX5_begin 13 = .ok (.invokevirtual 61, 3) := by decide +kernel
theorem dX5_begin_16 : decode cX5_begin 16 = .ok (.aload_n 0, 1) := by decide +kernel
theorem dX5_begin_17 : decode cX5_begin 17 = .ok (.getfield 28, 3) := by decide +kernel
theorem dX5_begin_20 : decode cX5_begin 20 = .ok (.iconst 0, 1) := by decide +kernel
theorem dX5_begin_21 : decode cX5_begin 21 = .ok (.putfield 62, 3) := by decide +kernel
theorem dX5_begin_24 : decode cX5_begin 24 = .ok (.aload_n 0, 1) := by decide +kernel
theorem dX5_begin_25 : decode cX5_begin 25 = .ok (.getfield 35, 3) := by decide +kernel
theorem dX5_begin_28 : decode cX5_begin 28 = .ok (.iconst 0, 1) := by decide +kernel
theorem dX5_begin_29 : decode cX5_begin 29 = .ok (.putfield 65, 3) := by decide +kernel
theorem dX5_begin_32 : decode cX5_begin 32 = .ok (.aload_n 0, 1) := by decide +kernel
theorem dX5_begin_33 : decode cX5_begin 33 = .ok (.getfield 42, 3) := by decide +kernel
theorem dX5_begin_36 : decode cX5_begin 36 = .ok (.iconst 0, 1) := by decide +kernel
theorem dX5_begin_37 : decode cX5_begin 37 = .ok (.putfield 66, 3) := by decide +kernel
theorem dX5_begin_40 : decode cX5_begin 40 = .ok (.aload_n 0, 1) := by decide +kernel
theorem dX5_begin_41 : decode cX5_begin 41 = .ok (.iconst 0, 1) := by decide +kernel
theorem dX5_begin_42 : decode cX5_begin 42 = .ok (.putfield 46, 3) := by decide +kernel
theorem dX5_begin_45 : decode cX5_begin 45 = .ok (.aload_n 0, 1) := by decide +kernel
theorem dX5_begin_46 : decode cX5_begin 46 = .ok (.iconst 0, 1) := by decide +kernel
theorem dX5_begin_47 : decode cX5_begin 47 = .ok (.putfield 50, 3) := by decide +kernel
theorem dX5_begin_50 : decode cX5_begin 50 = .ok (.return_, 1) := by decide +kernel
theorem dX5_copyFrom_0 : decode cX5_copyFrom 0 = .ok (.aload_n 0, 1) := by decide +kernel
theorem dX5_copyFrom_1 : decode cX5_copyFrom 1 = .ok (.getfield 12, 3) := by decide +kernel
theorem dX5_copyFrom_4 : decode cX5_copyFrom 4 = .ok (.aload_n 1, 1) := by decide +kernel
theorem dX5_copyFrom_5 : decode cX5_copyFrom 5 = .ok (.getfield 12, 3) := by decide +kernel
theorem dX5_copyFrom_8 : decode cX5_copyFrom 8 = .ok (.invokevirtual 67, 3) := by decide +kernel
theorem dX5_copyFrom_11 : decode cX5_copyFrom 11 = .ok (.aload_n 0, 1) := by decide +kernel
theorem dX5_copyFrom_12 : decode cX5_copyFrom 12 = .ok (.getfield 21, 3) := by decide +kernel
theorem dX5_copyFrom_15 : decode cX5_copyFrom 15 = .ok (.aload_n 1, 1) := by decide +kernel
theorem dX5_copyFrom_16 : decode cX5_copyFrom 16 = .ok (.getfield 21, 3) := by decide +kernel
theorem dX5_copyFrom_19 : decode cX5_copyFrom 19 = .ok (.invokevirtual 71, 3) := by decide +kernel
theorem dX5_copyFrom_22 : decode cX5_copyFrom 22 = .ok (.aload_n 0, 1) := by decide +kernel
theorem dX5_copyFrom_23 : decode cX5_copyFrom 23 = .ok (.getfield 28, 3) := by decide +kernel
theorem dX5_copyFrom_26 : decode cX5_copyFrom 26 = .ok (.aload_n 1, 1) := by decide +kernel
theorem dX5_copyFrom_27 : decode cX5_copyFrom 27 = .ok (.getfield 28, 3) := by decide +kernel
theorem dX5_copyFrom_30 : decode cX5_copyFrom 30 = .ok (.invokevirtual 74, 3) := by decide +kernel
theorem dX5_copyFrom_33 : decode cX5_copyFrom 33 = .ok (.aload_n 0, 1) := by decide +kernel
theorem dX5_copyFrom_34 : decode cX5_copyFrom 34 = .ok (.getfield 35, 3) := by decide +kernel
theorem dX5_copyFrom_37 : decode cX5_copyFrom 37 = .ok (.aload_n 1, 1) := by decide +kernel
theorem dX5_copyFrom_38 : decode cX5_copyFrom 38 = .ok (.getfield 35, 3) := by decide +kernel
theorem dX5_copyFrom_41 : decode cX5_copyFrom 41 = .ok (.invokevirtual 77, 3) := by decide +kernel
theorem dX5_copyFrom_44 : decode cX5_copyFrom 44 = .ok (.aload_n 0, 1) := by decide +kernel
theorem dX5_copyFrom_45 : decode cX5_copyFrom 45 = .ok (.getfield 42, 3) := by decide +kernel
theorem dX5_copyFrom_48 : decode cX5_copyFrom 48 = .ok (.aload_n 1, 1) := by decide +kernel
theorem dX5_copyFrom_49 : decode cX5_copyFrom 49 = .ok (.getfield 42, 3) := by decide +kernel
theorem dX5_copyFrom_52 : decode cX5_copyFrom 52 = .ok (.invokevirtual 80, 3) := by decide +kernel
theorem dX5_copyFrom_55 : decode cX5_copyFrom 55 = .ok (.aload_n 0, 1) := by decide +kernel
theorem dX5_copyFrom_56 : decode cX5_copyFrom 56 = .ok (.aload_n 1, 1) := by decide +kernel
theorem dX5_copyFrom_57 : decode cX5_copyFrom 57 = .ok (.getfield 46, 3) := by decide +kernel
theorem dX5_copyFrom_60 : decode cX5_copyFrom 60 = .ok (.putfield 46, 3) := by decide +kernel
theorem dX5_copyFrom_63 : decode cX5_copyFrom 63 = .ok (.aload_n 0, 1) := by decide +kernel
theorem dX5_copyFrom_64 : decode cX5_copyFrom 64 = .ok (.aload_n 1, 1) := by decide +kernel
theorem dX5_copyFrom_65 : decode cX5_copyFrom 65 = .ok (.getfield 50, 3) := by decide +kernel
theorem dX5_copyFrom_68 : decode cX5_copyFrom 68 = .ok (.putfield 50, 3) := by decide +kernel
theorem dX5_copyFrom_71 : decode cX5_copyFrom 71 = .ok (.return_, 1) := by decide +kernel
theorem dX5_availableIn_0 : decode cX5_availableIn 0 = .ok (.aload_n 0, 1) := by decide +kernel
theorem dX5_availableIn_1 : decode cX5_availableIn 1 = .ok (.getfield 21, 3) := by decide +kernel
theorem dX5_availableIn_4 : decode cX5_availableIn 4 = .ok (.iload_n 1, 1) := by decide +kernel
theorem dX5_availableIn_5 : decode cX5_availableIn 5 = .ok (.invokevirtual 83, 3) := by decide +kernel
theorem dX5_availableIn_8 : decode cX5_availableIn 8 = .ok (.aload_n 0, 1) := by decide +kernel
theorem dX5_availableIn_9 : decode cX5_availableIn 9 = .ok (.getfield 35, 3) := by decide +kernel
theorem dX5_availableIn_12 : decode cX5_availableIn 12 = .ok (.iconst 0, 1) := by decide +kernel
theorem dX5_availableIn_13 : decode cX5_availableIn 13 = .ok (.iload_n 1, 1) := by decide +kernel
theorem dX5_availableIn_14 : decode cX5_availableIn 14 = .ok (.invokevirtual 87, 3) := by decide +kernel
theorem dX5_availableIn_17 : decode cX5_availableIn 17 = .ok (.isub, 1) := by decide +kernel
theorem dX5_availableIn_18 : decode cX5_availableIn 18 = .ok (.ireturn, 1) := by decide +kernel
theorem dX5_roomIn_0 : decode cX5_roomIn 0 = .ok (.aload_n 0, 1) := by decide +kernel
theorem dX5_roomIn_1 : decode cX5_roomIn 1 = .ok (.getfield 12, 3) := by decide +kernel
theorem dX5_roomIn_4 : decode cX5_roomIn 4 = .ok (.getfield 91, 3) := by decide +kernel
theorem dX5_roomIn_7 : decode cX5_roomIn 7 = .ok (.iload_n 1, 1) := by decide +kernel
theorem dX5_roomIn_8 : decode cX5_roomIn 8 = .ok (.iaload, 1) := by decide +kernel
theorem dX5_roomIn_9 : decode cX5_roomIn 9 = .ok (.aload_n 0, 1) := by decide +kernel
theorem dX5_roomIn_10 : decode cX5_roomIn 10 = .ok (.getfield 21, 3) := by decide +kernel
theorem dX5_roomIn_13 : decode cX5_roomIn 13 = .ok (.iload_n 1, 1) := by decide +kernel
theorem dX5_roomIn_14 : decode cX5_roomIn 14 = .ok (.invokevirtual 83, 3) := by decide +kernel
theorem dX5_roomIn_17 : decode cX5_roomIn 17 = .ok (.isub, 1) := by decide +kernel
theorem dX5_roomIn_18 : decode cX5_roomIn 18 = .ok (.aload_n 0, 1) := by decide +kernel
theorem dX5_roomIn_19 : decode cX5_roomIn 19 = .ok (.getfield 35, 3) := by decide +kernel
theorem dX5_roomIn_22 : decode cX5_roomIn 22 = .ok (.iconst 1, 1) := by decide +kernel
theorem dX5_roomIn_23 : decode cX5_roomIn 23 = .ok (.iload_n 1, 1) := by decide +kernel
theorem dX5_roomIn_24 : decode cX5_roomIn 24 = .ok (.invokevirtual 87, 3) := by decide +kernel
theorem dX5_roomIn_27 : decode cX5_roomIn 27 = .ok (.isub, 1) := by decide +kernel
theorem dX5_roomIn_28 : decode cX5_roomIn 28 = .ok (.ireturn, 1) := by decide +kernel
theorem dX5_opening_0 : decode cX5_opening 0 = .ok (.iload_n 1, 1) := by decide +kernel
theorem dX5_opening_1 : decode cX5_opening 1 = .ok (.ifCond .ne 13, 3) := by decide +kernel
theorem dX5_opening_4 : decode cX5_opening 4 = .ok (.aload_n 0, 1) := by decide +kernel
theorem dX5_opening_5 : decode cX5_opening 5 = .ok (.getfield 21, 3) := by decide +kernel
theorem dX5_opening_8 : decode cX5_opening 8 = .ok (.getfield 94, 3) := by decide +kernel
theorem dX5_opening_11 : decode cX5_opening 11 = .ok (.goto 4, 3) := by decide +kernel
theorem dX5_opening_14 : decode cX5_opening 14 = .ok (.iconst 0, 1) := by decide +kernel
theorem dX5_opening_15 : decode cX5_opening 15 = .ok (.ireturn, 1) := by decide +kernel
theorem dX5_bookedIn_0 : decode cX5_bookedIn 0 = .ok (.aload_n 0, 1) := by decide +kernel
theorem dX5_bookedIn_1 : decode cX5_bookedIn 1 = .ok (.iload_n 1, 1) := by decide +kernel
theorem dX5_bookedIn_2 : decode cX5_bookedIn 2 = .ok (.invokevirtual 95, 3) := by decide +kernel
theorem dX5_bookedIn_5 : decode cX5_bookedIn 5 = .ok (.aload_n 0, 1) := by decide +kernel
theorem dX5_bookedIn_6 : decode cX5_bookedIn 6 = .ok (.getfield 28, 3) := by decide +kernel
theorem dX5_bookedIn_9 : decode cX5_bookedIn 9 = .ok (.iload_n 1, 1) := by decide +kernel
theorem dX5_bookedIn_10 : decode cX5_bookedIn 10 = .ok (.iconst 0, 1) := by decide +kernel
theorem dX5_bookedIn_11 : decode cX5_bookedIn 11 = .ok (.aload_n 0, 1) := by decide +kernel
theorem dX5_bookedIn_12 : decode cX5_bookedIn 12 = .ok (.getfield 28, 3) := by decide +kernel
theorem dX5_bookedIn_15 : decode cX5_bookedIn 15 = .ok (.getfield 62, 3) := by decide +kernel
theorem dX5_bookedIn_18 : decode cX5_bookedIn 18 = .ok (.invokevirtual 98, 3) := by decide +kernel
theorem dX5_bookedIn_21 : decode cX5_bookedIn 21 = .ok (.iadd, 1) := by decide +kernel
theorem dX5_bookedIn_22 : decode cX5_bookedIn 22 = .ok (.ireturn, 1) := by decide +kernel
theorem dX5_grant_0 : decode cX5_grant 0 = .ok (.aload_n 0, 1) := by decide +kernel
theorem dX5_grant_1 : decode cX5_grant 1 = .ok (.getfield 21, 3) := by decide +kernel
theorem dX5_grant_4 : decode cX5_grant 4 = .ok (.invokevirtual 102, 3) := by decide +kernel
theorem dX5_grant_7 : decode cX5_grant 7 = .ok (.aload_n 0, 1) := by decide +kernel
theorem dX5_grant_8 : decode cX5_grant 8 = .ok (.getfield 21, 3) := by decide +kernel
theorem dX5_grant_11 : decode cX5_grant 11 = .ok (.iconst 0, 1) := by decide +kernel
theorem dX5_grant_12 : decode cX5_grant 12 = .ok (.iload_n 2, 1) := by decide +kernel
theorem dX5_grant_13 : decode cX5_grant 13 = .ok (.iconst 0, 1) := by decide +kernel
theorem dX5_grant_14 : decode cX5_grant 14 = .ok (.invokevirtual 105, 3) := by decide +kernel
theorem dX5_grant_17 : decode cX5_grant 17 = .ok (.aload_n 0, 1) := by decide +kernel
theorem dX5_grant_18 : decode cX5_grant 18 = .ok (.iconst 0, 1) := by decide +kernel
theorem dX5_grant_19 : decode cX5_grant 19 = .ok (.iload_n 1, 1) := by decide +kernel
theorem dX5_grant_20 : decode cX5_grant 20 = .ok (.iload_n 2, 1) := by decide +kernel
theorem dX5_grant_21 : decode cX5_grant 21 = .ok (.iconst 0, 1) := by decide +kernel
theorem dX5_grant_22 : decode cX5_grant 22 = .ok (.iconst 0, 1) := by decide +kernel
theorem dX5_grant_23 : decode cX5_grant 23 = .ok (.invokevirtual 109, 3) := by decide +kernel
theorem dX5_grant_26 : decode cX5_grant 26 = .ok (.pop, 1) := by decide +kernel
theorem dX5_grant_27 : decode cX5_grant 27 = .ok (.return_, 1) := by decide +kernel
theorem dX5_move_0 : decode cX5_move 0 = .ok (.aload_n 0, 1) := by decide +kernel
theorem dX5_move_1 : decode cX5_move 1 = .ok (.getfield 28, 3) := by decide +kernel
theorem dX5_move_4 : decode cX5_move 4 = .ok (.invokevirtual 113, 3) := by decide +kernel
theorem dX5_move_7 : decode cX5_move 7 = .ok (.ifCond .eq 6, 3) := by decide +kernel
theorem dX5_move_10 : decode cX5_move 10 = .ok (.bipush (-2), 2) := by decide +kernel
theorem dX5_move_12 : decode cX5_move 12 = .ok (.ireturn, 1) := by decide +kernel
theorem dX5_move_13 : decode cX5_move 13 = .ok (.aload_n 0, 1) := by decide +kernel
theorem dX5_move_14 : decode cX5_move 14 = .ok (.iload_n 1, 1) := by decide +kernel
theorem dX5_move_15 : decode cX5_move 15 = .ok (.iload_n 2, 1) := by decide +kernel
theorem dX5_move_16 : decode cX5_move 16 = .ok (.iload_n 3, 1) := by decide +kernel
theorem dX5_move_17 : decode cX5_move 17 = .ok (.iconst 0, 1) := by decide +kernel
theorem dX5_move_18 : decode cX5_move 18 = .ok (.invokevirtual 117, 3) := by decide +kernel
theorem dX5_move_21 : decode cX5_move 21 = .ok (.istore 5, 2) := by decide +kernel
theorem dX5_move_23 : decode cX5_move 23 = .ok (.iload 5, 2) := by decide +kernel
theorem dX5_move_25 : decode cX5_move 25 = .ok (.ifCond .ge 6, 3) := by decide +kernel
theorem dX5_move_28 : decode cX5_move 28 = .ok (.iload 5, 2) := by decide +kernel
theorem dX5_move_30 : decode cX5_move 30 = .ok (.ireturn, 1) := by decide +kernel
theorem dX5_move_31 : decode cX5_move 31 = .ok (.aload_n 0, 1) := by decide +kernel
theorem dX5_move_32 : decode cX5_move 32 = .ok (.getfield 21, 3) := by decide +kernel
theorem dX5_move_35 : decode cX5_move 35 = .ok (.aload_n 0, 1) := by decide +kernel
theorem dX5_move_36 : decode cX5_move 36 = .ok (.getfield 50, 3) := by decide +kernel
theorem dX5_move_39 : decode cX5_move 39 = .ok (.iload_n 1, 1) := by decide +kernel
theorem dX5_move_40 : decode cX5_move 40 = .ok (.iload_n 3, 1) := by decide +kernel
theorem dX5_move_41 : decode cX5_move 41 = .ok (.invokevirtual 121, 3) := by decide +kernel
theorem dX5_move_44 : decode cX5_move 44 = .ok (.aload_n 0, 1) := by decide +kernel
theorem dX5_move_45 : decode cX5_move 45 = .ok (.iload_n 1, 1) := by decide +kernel
theorem dX5_move_46 : decode cX5_move 46 = .ok (.iload_n 2, 1) := by decide +kernel
theorem dX5_move_47 : decode cX5_move 47 = .ok (.iload_n 3, 1) := by decide +kernel
theorem dX5_move_48 : decode cX5_move 48 = .ok (.iload 4, 2) := by decide +kernel
theorem dX5_move_50 : decode cX5_move 50 = .ok (.iconst 0, 1) := by decide +kernel
theorem dX5_move_51 : decode cX5_move 51 = .ok (.invokevirtual 109, 3) := by decide +kernel
theorem dX5_move_54 : decode cX5_move 54 = .ok (.ireturn, 1) := by decide +kernel
theorem dX5_moveBlock_0 : decode cX5_moveBlock 0 = .ok (.aload_n 0, 1) := by decide +kernel
theorem dX5_moveBlock_1 : decode cX5_moveBlock 1 = .ok (.getfield 28, 3) := by decide +kernel
theorem dX5_moveBlock_4 : decode cX5_moveBlock 4 = .ok (.invokevirtual 113, 3) := by decide +kernel
theorem dX5_moveBlock_7 : decode cX5_moveBlock 7 = .ok (.ifCond .eq 6, 3) := by decide +kernel
theorem dX5_moveBlock_10 : decode cX5_moveBlock 10 = .ok (.bipush (-2), 2) := by decide +kernel
theorem dX5_moveBlock_12 : decode cX5_moveBlock 12 = .ok (.ireturn, 1) := by decide +kernel
theorem dX5_moveBlock_13 : decode cX5_moveBlock 13 = .ok (.aload_n 0, 1) := by decide +kernel
theorem dX5_moveBlock_14 : decode cX5_moveBlock 14 = .ok (.getfield 21, 3) := by decide +kernel
theorem dX5_moveBlock_17 : decode cX5_moveBlock 17 = .ok (.getfield 124, 3) := by decide +kernel
theorem dX5_moveBlock_20 : decode cX5_moveBlock 20 = .ok (.iload_n 1, 1) := by decide +kernel
theorem dX5_moveBlock_21 : decode cX5_moveBlock 21 = .ok (.iaload, 1) := by decide +kernel
theorem dX5_moveBlock_22 : decode cX5_moveBlock 22 = .ok (.istore 4, 2) := by decide +kernel
theorem dX5_moveBlock_24 : decode cX5_moveBlock 24 = .ok (.iload 4, 2) := by decide +kernel
theorem dX5_moveBlock_26 : decode cX5_moveBlock 26 = .ok (.iload_n 2, 1) := by decide +kernel
theorem dX5_moveBlock_27 : decode cX5_moveBlock 27 = .ok (.if_icmp .ne 6, 3) := by decide +kernel
theorem dX5_moveBlock_30 : decode cX5_moveBlock 30 = .ok (.bipush (-5), 2) := by decide +kernel
theorem dX5_moveBlock_32 : decode cX5_moveBlock 32 = .ok (.ireturn, 1) := by decide +kernel
theorem dX5_moveBlock_33 : decode cX5_moveBlock 33 = .ok (.aload_n 0, 1) := by decide +kernel
theorem dX5_moveBlock_34 : decode cX5_moveBlock 34 = .ok (.iload 4, 2) := by decide +kernel
theorem dX5_moveBlock_36 : decode cX5_moveBlock 36 = .ok (.iload_n 2, 1) := by decide +kernel
theorem dX5_moveBlock_37 : decode cX5_moveBlock 37 = .ok (.iconst 1, 1) := by decide +kernel
theorem dX5_moveBlock_38 : decode cX5_moveBlock 38 = .ok (.iconst 0, 1) := by decide +kernel
theorem dX5_moveBlock_39 : decode cX5_moveBlock 39 = .ok (.invokevirtual 117, 3) := by decide +kernel
theorem dX5_moveBlock_42 : decode cX5_moveBlock 42 = .ok (.istore 5, 2) := by decide +kernel
theorem dX5_moveBlock_44 : decode cX5_moveBlock 44 = .ok (.iload 5, 2) := by decide +kernel
theorem dX5_moveBlock_46 : decode cX5_moveBlock 46 = .ok (.ifCond .ge 6, 3) := by decide +kernel
theorem dX5_moveBlock_49 : decode cX5_moveBlock 49 = .ok (.iload 5, 2) := by decide +kernel
theorem dX5_moveBlock_51 : decode cX5_moveBlock 51 = .ok (.ireturn, 1) := by decide +kernel
theorem dX5_moveBlock_52 : decode cX5_moveBlock 52 = .ok (.aload_n 0, 1) := by decide +kernel
theorem dX5_moveBlock_53 : decode cX5_moveBlock 53 = .ok (.getfield 21, 3) := by decide +kernel
theorem dX5_moveBlock_56 : decode cX5_moveBlock 56 = .ok (.iload_n 1, 1) := by decide +kernel
theorem dX5_moveBlock_57 : decode cX5_moveBlock 57 = .ok (.invokevirtual 126, 3) := by decide +kernel
theorem dX5_moveBlock_60 : decode cX5_moveBlock 60 = .ok (.aload_n 0, 1) := by decide +kernel
theorem dX5_moveBlock_61 : decode cX5_moveBlock 61 = .ok (.iload 4, 2) := by decide +kernel
theorem dX5_moveBlock_63 : decode cX5_moveBlock 63 = .ok (.iload_n 2, 1) := by decide +kernel
theorem dX5_moveBlock_64 : decode cX5_moveBlock 64 = .ok (.iconst 1, 1) := by decide +kernel
theorem dX5_moveBlock_65 : decode cX5_moveBlock 65 = .ok (.iload_n 3, 1) := by decide +kernel
theorem dX5_moveBlock_66 : decode cX5_moveBlock 66 = .ok (.iconst 0, 1) := by decide +kernel
theorem dX5_moveBlock_67 : decode cX5_moveBlock 67 = .ok (.invokevirtual 109, 3) := by decide +kernel
theorem dX5_moveBlock_70 : decode cX5_moveBlock 70 = .ok (.ireturn, 1) := by decide +kernel
theorem dX5_moveBack_0 : decode cX5_moveBack 0 = .ok (.aload_n 0, 1) := by decide +kernel
theorem dX5_moveBack_1 : decode cX5_moveBack 1 = .ok (.getfield 28, 3) := by decide +kernel
theorem dX5_moveBack_4 : decode cX5_moveBack 4 = .ok (.invokevirtual 113, 3) := by decide +kernel
theorem dX5_moveBack_7 : decode cX5_moveBack 7 = .ok (.ifCond .eq 6, 3) := by decide +kernel
theorem dX5_moveBack_10 : decode cX5_moveBack 10 = .ok (.bipush (-2), 2) := by decide +kernel
theorem dX5_moveBack_12 : decode cX5_moveBack 12 = .ok (.ireturn, 1) := by decide +kernel
theorem dX5_moveBack_13 : decode cX5_moveBack 13 = .ok (.aload_n 0, 1) := by decide +kernel
theorem dX5_moveBack_14 : decode cX5_moveBack 14 = .ok (.getfield 28, 3) := by decide +kernel
theorem dX5_moveBack_17 : decode cX5_moveBack 17 = .ok (.iload_n 1, 1) := by decide +kernel
theorem dX5_moveBack_18 : decode cX5_moveBack 18 = .ok (.invokevirtual 129, 3) := by decide +kernel
theorem dX5_moveBack_21 : decode cX5_moveBack 21 = .ok (.ifCond .ne 6, 3) := by decide +kernel
theorem dX5_moveBack_24 : decode cX5_moveBack 24 = .ok (.bipush (-5), 2) := by decide +kernel
theorem dX5_moveBack_26 : decode cX5_moveBack 26 = .ok (.ireturn, 1) := by decide +kernel
theorem dX5_moveBack_27 : decode cX5_moveBack 27 = .ok (.aload_n 0, 1) := by decide +kernel
theorem dX5_moveBack_28 : decode cX5_moveBack 28 = .ok (.getfield 28, 3) := by decide +kernel
theorem dX5_moveBack_31 : decode cX5_moveBack 31 = .ok (.iload_n 1, 1) := by decide +kernel
theorem dX5_moveBack_32 : decode cX5_moveBack 32 = .ok (.iconst 0, 1) := by decide +kernel
theorem dX5_moveBack_33 : decode cX5_moveBack 33 = .ok (.invokevirtual 133, 3) := by decide +kernel
theorem dX5_moveBack_36 : decode cX5_moveBack 36 = .ok (.istore_n 2, 1) := by decide +kernel
theorem dX5_moveBack_37 : decode cX5_moveBack 37 = .ok (.aload_n 0, 1) := by decide +kernel
theorem dX5_moveBack_38 : decode cX5_moveBack 38 = .ok (.getfield 28, 3) := by decide +kernel
theorem dX5_moveBack_41 : decode cX5_moveBack 41 = .ok (.iload_n 1, 1) := by decide +kernel
theorem dX5_moveBack_42 : decode cX5_moveBack 42 = .ok (.iconst 1, 1) := by decide +kernel
theorem dX5_moveBack_43 : decode cX5_moveBack 43 = .ok (.invokevirtual 133, 3) := by decide +kernel
theorem dX5_moveBack_46 : decode cX5_moveBack 46 = .ok (.istore_n 3, 1) := by decide +kernel
theorem dX5_moveBack_47 : decode cX5_moveBack 47 = .ok (.aload_n 0, 1) := by decide +kernel
theorem dX5_moveBack_48 : decode cX5_moveBack 48 = .ok (.getfield 28, 3) := by decide +kernel
theorem dX5_moveBack_51 : decode cX5_moveBack 51 = .ok (.iload_n 1, 1) := by decide +kernel
theorem dX5_moveBack_52 : decode cX5_moveBack 52 = .ok (.iconst 2, 1) := by decide +kernel
theorem dX5_moveBack_53 : decode cX5_moveBack 53 = .ok (.invokevirtual 133, 3) := by decide +kernel
theorem dX5_moveBack_56 : decode cX5_moveBack 56 = .ok (.istore 4, 2) := by decide +kernel
theorem dX5_moveBack_58 : decode cX5_moveBack 58 = .ok (.aload_n 0, 1) := by decide +kernel
theorem dX5_moveBack_59 : decode cX5_moveBack 59 = .ok (.getfield 28, 3) := by decide +kernel
theorem dX5_moveBack_62 : decode cX5_moveBack 62 = .ok (.iload_n 1, 1) := by decide +kernel
theorem dX5_moveBack_63 : decode cX5_moveBack 63 = .ok (.aload_n 0, 1) := by decide +kernel
theorem dX5_moveBack_64 : decode cX5_moveBack 64 = .ok (.getfield 21, 3) := by decide +kernel
theorem dX5_moveBack_67 : decode cX5_moveBack 67 = .ok (.getfield 136, 3) := by decide +kernel
theorem dX5_moveBack_70 : decode cX5_moveBack 70 = .ok (.invokevirtual 140, 3) := by decide +kernel
theorem dX5_moveBack_73 : decode cX5_moveBack 73 = .ok (.aload_n 0, 1) := by decide +kernel
theorem dX5_moveBack_74 : decode cX5_moveBack 74 = .ok (.getfield 21, 3) := by decide +kernel
theorem dX5_moveBack_77 : decode cX5_moveBack 77 = .ok (.iload_n 3, 1) := by decide +kernel
theorem dX5_moveBack_78 : decode cX5_moveBack 78 = .ok (.invokevirtual 144, 3) := by decide +kernel
theorem dX5_moveBack_81 : decode cX5_moveBack 81 = .ok (.ifCond .ne 6, 3) := by decide +kernel
theorem dX5_moveBack_84 : decode cX5_moveBack 84 = .ok (.bipush (-6), 2) := by decide +kernel
theorem dX5_moveBack_86 : decode cX5_moveBack 86 = .ok (.ireturn, 1) := by decide +kernel
theorem dX5_moveBack_87 : decode cX5_moveBack 87 = .ok (.aload_n 0, 1) := by decide +kernel
theorem dX5_moveBack_88 : decode cX5_moveBack 88 = .ok (.iload_n 3, 1) := by decide +kernel
theorem dX5_moveBack_89 : decode cX5_moveBack 89 = .ok (.iload_n 2, 1) := by decide +kernel
theorem dX5_moveBack_90 : decode cX5_moveBack 90 = .ok (.iload 4, 2) := by decide +kernel
theorem dX5_moveBack_92 : decode cX5_moveBack 92 = .ok (.iconst 0, 1) := by decide +kernel
theorem dX5_moveBack_93 : decode cX5_moveBack 93 = .ok (.invokevirtual 117, 3) := by decide +kernel
theorem dX5_moveBack_96 : decode cX5_moveBack 96 = .ok (.istore 5, 2) := by decide +kernel
theorem dX5_moveBack_98 : decode cX5_moveBack 98 = .ok (.iload 5, 2) := by decide +kernel
theorem dX5_moveBack_100 : decode cX5_moveBack 100 = .ok (.ifCond .ge 6, 3) := by decide +kernel
theorem dX5_moveBack_103 : decode cX5_moveBack 103 = .ok (.iload 5, 2) := by decide +kernel
theorem dX5_moveBack_105 : decode cX5_moveBack 105 = .ok (.ireturn, 1) := by decide +kernel
theorem dX5_moveBack_106 : decode cX5_moveBack 106 = .ok (.aload_n 0, 1) := by decide +kernel
theorem dX5_moveBack_107 : decode cX5_moveBack 107 = .ok (.getfield 28, 3) := by decide +kernel
theorem dX5_moveBack_110 : decode cX5_moveBack 110 = .ok (.iload_n 1, 1) := by decide +kernel
theorem dX5_moveBack_111 : decode cX5_moveBack 111 = .ok (.iconst 3, 1) := by decide +kernel
theorem dX5_moveBack_112 : decode cX5_moveBack 112 = .ok (.invokevirtual 133, 3) := by decide +kernel
theorem dX5_moveBack_115 : decode cX5_moveBack 115 = .ok (.istore 6, 2) := by decide +kernel
theorem dX5_moveBack_117 : decode cX5_moveBack 117 = .ok (.aload_n 0, 1) := by decide +kernel
theorem dX5_moveBack_118 : decode cX5_moveBack 118 = .ok (.iload_n 3, 1) := by decide +kernel
theorem dX5_moveBack_119 : decode cX5_moveBack 119 = .ok (.iload_n 2, 1) := by decide +kernel
theorem dX5_moveBack_120 : decode cX5_moveBack 120 = .ok (.iload 4, 2) := by decide +kernel
theorem dX5_moveBack_122 : decode cX5_moveBack 122 = .ok (.iload 6, 2) := by decide +kernel
theorem dX5_moveBack_124 : decode cX5_moveBack 124 = .ok (.iconst 1, 1) := by decide +kernel
theorem dX5_moveBack_125 : decode cX5_moveBack 125 = .ok (.invokevirtual 109, 3) := by decide +kernel
theorem dX5_moveBack_128 : decode cX5_moveBack 128 = .ok (.istore 7, 2) := by decide +kernel
theorem dX5_moveBack_130 : decode cX5_moveBack 130 = .ok (.aload_n 0, 1) := by decide +kernel
theorem dX5_moveBack_131 : decode cX5_moveBack 131 = .ok (.getfield 28, 3) := by decide +kernel
theorem dX5_moveBack_134 : decode cX5_moveBack 134 = .ok (.iload_n 1, 1) := by decide +kernel
theorem dX5_moveBack_135 : decode cX5_moveBack 135 = .ok (.iload 7, 2) := by decide +kernel
theorem dX5_moveBack_137 : decode cX5_moveBack 137 = .ok (.invokevirtual 147, 3) := by decide +kernel
theorem dX5_moveBack_140 : decode cX5_moveBack 140 = .ok (.iload 7, 2) := by decide +kernel
theorem dX5_moveBack_142 : decode cX5_moveBack 142 = .ok (.ireturn, 1) := by decide +kernel
theorem dX5_obstacle_0 : decode cX5_obstacle 0 = .ok (.aload_n 0, 1) := by decide +kernel
theorem dX5_obstacle_1 : decode cX5_obstacle 1 = .ok (.iload_n 1, 1) := by decide +kernel
theorem dX5_obstacle_2 : decode cX5_obstacle 2 = .ok (.invokevirtual 151, 3) := by decide +kernel
theorem dX5_obstacle_5 : decode cX5_obstacle 5 = .ok (.iload 4, 2) := by decide +kernel
theorem dX5_obstacle_7 : decode cX5_obstacle 7 = .ok (.iadd, 1) := by decide +kernel
theorem dX5_obstacle_8 : decode cX5_obstacle 8 = .ok (.iload_n 3, 1) := by decide +kernel
theorem dX5_obstacle_9 : decode cX5_obstacle 9 = .ok (.if_icmp .ge 6, 3) := by decide +kernel
theorem dX5_obstacle_12 : decode cX5_obstacle 12 = .ok (.bipush (-3), 2) := by decide +kernel
theorem dX5_obstacle_14 : decode cX5_obstacle 14 = .ok (.ireturn, 1) := by decide +kernel
theorem dX5_obstacle_15 : decode cX5_obstacle 15 = .ok (.aload_n 0, 1) := by decide +kernel
theorem dX5_obstacle_16 : decode cX5_obstacle 16 = .ok (.iload_n 2, 1) := by decide +kernel
theorem dX5_obstacle_17 : decode cX5_obstacle 17 = .ok (.invokevirtual 154, 3) := by decide +kernel
theorem dX5_obstacle_20 : decode cX5_obstacle 20 = .ok (.iload 4, 2) := by decide +kernel
theorem dX5_obstacle_22 : decode cX5_obstacle 22 = .ok (.iadd, 1) := by decide +kernel
theorem dX5_obstacle_23 : decode cX5_obstacle 23 = .ok (.iload_n 3, 1) := by decide +kernel
theorem dX5_obstacle_24 : decode cX5_obstacle 24 = .ok (.if_icmp .ge 6, 3) := by decide +kernel
theorem dX5_obstacle_27 : decode cX5_obstacle 27 = .ok (.bipush (-4), 2) := by decide +kernel
theorem dX5_obstacle_29 : decode cX5_obstacle 29 = .ok (.ireturn, 1) := by decide +kernel
theorem dX5_obstacle_30 : decode cX5_obstacle 30 = .ok (.iconst 0, 1) := by decide +kernel
theorem dX5_obstacle_31 : decode cX5_obstacle 31 = .ok (.ireturn, 1) := by decide +kernel
theorem dX5_book_0 : decode cX5_book 0 = .ok (.aload_n 0, 1) := by decide +kernel
theorem dX5_book_1 : decode cX5_book 1 = .ok (.getfield 28, 3) := by decide +kernel
theorem dX5_book_4 : decode cX5_book 4 = .ok (.iload_n 1, 1) := by decide +kernel
theorem dX5_book_5 : decode cX5_book 5 = .ok (.iload_n 2, 1) := by decide +kernel
theorem dX5_book_6 : decode cX5_book 6 = .ok (.iload_n 3, 1) := by decide +kernel
theorem dX5_book_7 : decode cX5_book 7 = .ok (.iload 4, 2) := by decide +kernel
theorem dX5_book_9 : decode cX5_book 9 = .ok (.aload_n 0, 1) := by decide +kernel
theorem dX5_book_10 : decode cX5_book 10 = .ok (.getfield 46, 3) := by decide +kernel
theorem dX5_book_13 : decode cX5_book 13 = .ok (.iload 5, 2) := by decide +kernel
theorem dX5_book_15 : decode cX5_book 15 = .ok (.invokevirtual 157, 3) := by decide +kernel
theorem dX5_book_18 : decode cX5_book 18 = .ok (.istore 6, 2) := by decide +kernel
theorem dX5_book_20 : decode cX5_book 20 = .ok (.aload_n 0, 1) := by decide +kernel
theorem dX5_book_21 : decode cX5_book 21 = .ok (.getfield 28, 3) := by decide +kernel
theorem dX5_book_24 : decode cX5_book 24 = .ok (.iload 6, 2) := by decide +kernel
theorem dX5_book_26 : decode cX5_book 26 = .ok (.aload_n 0, 1) := by decide +kernel
theorem dX5_book_27 : decode cX5_book 27 = .ok (.getfield 21, 3) := by decide +kernel
theorem dX5_book_30 : decode cX5_book 30 = .ok (.getfield 136, 3) := by decide +kernel
theorem dX5_book_33 : decode cX5_book 33 = .ok (.invokevirtual 161, 3) := by decide +kernel
theorem dX5_book_36 : decode cX5_book 36 = .ok (.aload_n 0, 1) := by decide +kernel
theorem dX5_book_37 : decode cX5_book 37 = .ok (.getfield 21, 3) := by decide +kernel
theorem dX5_book_40 : decode cX5_book 40 = .ok (.iload_n 2, 1) := by decide +kernel
theorem dX5_book_41 : decode cX5_book 41 = .ok (.aload_n 0, 1) := by decide +kernel
theorem dX5_book_42 : decode cX5_book 42 = .ok (.getfield 46, 3) := by decide +kernel
theorem dX5_book_45 : decode cX5_book 45 = .ok (.invokevirtual 164, 3) := by decide +kernel
theorem dX5_book_48 : decode cX5_book 48 = .ok (.iload 6, 2) := by decide +kernel
theorem dX5_book_50 : decode cX5_book 50 = .ok (.ireturn, 1) := by decide +kernel
theorem dX5_mostMoved_0 : decode cX5_mostMoved 0 = .ok (.iconst 0, 1) := by decide +kernel
theorem dX5_mostMoved_1 : decode cX5_mostMoved 1 = .ok (.istore_n 3, 1) := by decide +kernel
theorem dX5_mostMoved_2 : decode cX5_mostMoved 2 = .ok (.iconst (-1), 1) := by decide +kernel
theorem dX5_mostMoved_3 : decode cX5_mostMoved 3 = .ok (.istore 4, 2) := by decide +kernel
theorem dX5_mostMoved_5 : decode cX5_mostMoved 5 = .ok (.iconst 0, 1) := by decide +kernel
theorem dX5_mostMoved_6 : decode cX5_mostMoved 6 = .ok (.istore 5, 2) := by decide +kernel
theorem dX5_mostMoved_8 : decode cX5_mostMoved 8 = .ok (.iload 5, 2) := by decide +kernel
theorem dX5_mostMoved_10 : decode cX5_mostMoved 10 = .ok (.aload_n 0, 1) := by decide +kernel
theorem dX5_mostMoved_11 : decode cX5_mostMoved 11 = .ok (.getfield 12, 3) := by decide +kernel
theorem dX5_mostMoved_14 : decode cX5_mostMoved 14 = .ok (.getfield 167, 3) := by decide +kernel
theorem dX5_mostMoved_17 : decode cX5_mostMoved 17 = .ok (.if_icmp .ge 35, 3) := by decide +kernel
theorem dX5_mostMoved_20 : decode cX5_mostMoved 20 = .ok (.aload_n 0, 1) := by decide +kernel
theorem dX5_mostMoved_21 : decode cX5_mostMoved 21 = .ok (.getfield 28, 3) := by decide +kernel
theorem dX5_mostMoved_24 : decode cX5_mostMoved 24 = .ok (.iload 5, 2) := by decide +kernel
theorem dX5_mostMoved_26 : decode cX5_mostMoved 26 = .ok (.iload_n 1, 1) := by decide +kernel
theorem dX5_mostMoved_27 : decode cX5_mostMoved 27 = .ok (.iload_n 2, 1) := by decide +kernel
theorem dX5_mostMoved_28 : decode cX5_mostMoved 28 = .ok (.invokevirtual 168, 3) := by decide +kernel
theorem dX5_mostMoved_31 : decode cX5_mostMoved 31 = .ok (.istore 6, 2) := by decide +kernel
theorem dX5_mostMoved_33 : decode cX5_mostMoved 33 = .ok (.iload 6, 2) := by decide +kernel
theorem dX5_mostMoved_35 : decode cX5_mostMoved 35 = .ok (.iload_n 3, 1) := by decide +kernel
theorem dX5_mostMoved_36 : decode cX5_mostMoved 36 = .ok (.if_icmp .le 10, 3) := by decide +kernel
theorem dX5_mostMoved_39 : decode cX5_mostMoved 39 = .ok (.iload 6, 2) := by decide +kernel
theorem dX5_mostMoved_41 : decode cX5_mostMoved 41 = .ok (.istore_n 3, 1) := by decide +kernel
theorem dX5_mostMoved_42 : decode cX5_mostMoved 42 = .ok (.iload 5, 2) := by decide +kernel
theorem dX5_mostMoved_44 : decode cX5_mostMoved 44 = .ok (.istore 4, 2) := by decide +kernel
theorem dX5_mostMoved_46 : decode cX5_mostMoved 46 = .ok (.iinc 5 1, 3) := by decide +kernel
theorem dX5_mostMoved_49 : decode cX5_mostMoved 49 = .ok (.goto (-41), 3) := by decide +kernel
theorem dX5_mostMoved_52 : decode cX5_mostMoved 52 = .ok (.iload 4, 2) := by decide +kernel
theorem dX5_mostMoved_54 : decode cX5_mostMoved 54 = .ok (.ireturn, 1) := by decide +kernel
theorem dX5_hold_0 : decode cX5_hold 0 = .ok (.aload_n 0, 1) := by decide +kernel
theorem dX5_hold_1 : decode cX5_hold 1 = .ok (.getfield 35, 3) := by decide +kernel
theorem dX5_hold_4 : decode cX5_hold 4 = .ok (.invokevirtual 171, 3) := by decide +kernel
theorem dX5_hold_7 : decode cX5_hold 7 = .ok (.ifCond .eq 6, 3) := by decide +kernel
theorem dX5_hold_10 : decode cX5_hold 10 = .ok (.bipush (-2), 2) := by decide +kernel
theorem dX5_hold_12 : decode cX5_hold 12 = .ok (.ireturn, 1) := by decide +kernel
theorem dX5_hold_13 : decode cX5_hold 13 = .ok (.aload_n 0, 1) := by decide +kernel
theorem dX5_hold_14 : decode cX5_hold 14 = .ok (.iload_n 1, 1) := by decide +kernel
theorem dX5_hold_15 : decode cX5_hold 15 = .ok (.iload_n 2, 1) := by decide +kernel
theorem dX5_hold_16 : decode cX5_hold 16 = .ok (.iload_n 3, 1) := by decide +kernel
theorem dX5_hold_17 : decode cX5_hold 17 = .ok (.iconst 0, 1) := by decide +kernel
theorem dX5_hold_18 : decode cX5_hold 18 = .ok (.invokevirtual 117, 3) := by decide +kernel
theorem dX5_hold_21 : decode cX5_hold 21 = .ok (.istore 5, 2) := by decide +kernel
theorem dX5_hold_23 : decode cX5_hold 23 = .ok (.iload 5, 2) := by decide +kernel
theorem dX5_hold_25 : decode cX5_hold 25 = .ok (.ifCond .ge 6, 3) := by decide +kernel
theorem dX5_hold_28 : decode cX5_hold 28 = .ok (.iload 5, 2) := by decide +kernel
theorem dX5_hold_30 : decode cX5_hold 30 = .ok (.ireturn, 1) := by decide +kernel
theorem dX5_hold_31 : decode cX5_hold 31 = .ok (.aload_n 0, 1) := by decide +kernel
theorem dX5_hold_32 : decode cX5_hold 32 = .ok (.getfield 35, 3) := by decide +kernel
theorem dX5_hold_35 : decode cX5_hold 35 = .ok (.iload_n 1, 1) := by decide +kernel
theorem dX5_hold_36 : decode cX5_hold 36 = .ok (.iload_n 2, 1) := by decide +kernel
theorem dX5_hold_37 : decode cX5_hold 37 = .ok (.iload_n 3, 1) := by decide +kernel
theorem dX5_hold_38 : decode cX5_hold 38 = .ok (.aload_n 0, 1) := by decide +kernel
theorem dX5_hold_39 : decode cX5_hold 39 = .ok (.getfield 46, 3) := by decide +kernel
theorem dX5_hold_42 : decode cX5_hold 42 = .ok (.iload 4, 2) := by decide +kernel
theorem dX5_hold_44 : decode cX5_hold 44 = .ok (.iadd, 1) := by decide +kernel
theorem dX5_hold_45 : decode cX5_hold 45 = .ok (.invokevirtual 172, 3) := by decide +kernel
theorem dX5_hold_48 : decode cX5_hold 48 = .ok (.ireturn, 1) := by decide +kernel
theorem dX5_fulfil_0 : decode cX5_fulfil 0 = .ok (.aload_n 0, 1) := by decide +kernel
theorem dX5_fulfil_1 : decode cX5_fulfil 1 = .ok (.getfield 35, 3) := by decide +kernel
theorem dX5_fulfil_4 : decode cX5_fulfil 4 = .ok (.iload_n 1, 1) := by decide +kernel
theorem dX5_fulfil_5 : decode cX5_fulfil 5 = .ok (.invokevirtual 174, 3) := by decide +kernel
theorem dX5_fulfil_8 : decode cX5_fulfil 8 = .ok (.ifCond .ne 6, 3) := by decide +kernel
theorem dX5_fulfil_11 : decode cX5_fulfil 11 = .ok (.bipush (-5), 2) := by decide +kernel
theorem dX5_fulfil_13 : decode cX5_fulfil 13 = .ok (.ireturn, 1) := by decide +kernel
theorem dX5_fulfil_14 : decode cX5_fulfil 14 = .ok (.aload_n 0, 1) := by decide +kernel
theorem dX5_fulfil_15 : decode cX5_fulfil 15 = .ok (.getfield 28, 3) := by decide +kernel
theorem dX5_fulfil_18 : decode cX5_fulfil 18 = .ok (.invokevirtual 113, 3) := by decide +kernel
theorem dX5_fulfil_21 : decode cX5_fulfil 21 = .ok (.ifCond .eq 6, 3) := by decide +kernel
theorem dX5_fulfil_24 : decode cX5_fulfil 24 = .ok (.bipush (-2), 2) := by decide +kernel
theorem dX5_fulfil_26 : decode cX5_fulfil 26 = .ok (.ireturn, 1) := by decide +kernel
theorem dX5_fulfil_27 : decode cX5_fulfil 27 = .ok (.aload_n 0, 1) := by decide +kernel
theorem dX5_fulfil_28 : decode cX5_fulfil 28 = .ok (.getfield 35, 3) := by decide +kernel
theorem dX5_fulfil_31 : decode cX5_fulfil 31 = .ok (.iload_n 1, 1) := by decide +kernel
theorem dX5_fulfil_32 : decode cX5_fulfil 32 = .ok (.iconst 0, 1) := by decide +kernel
theorem dX5_fulfil_33 : decode cX5_fulfil 33 = .ok (.invokevirtual 177, 3) := by decide +kernel
theorem dX5_fulfil_36 : decode cX5_fulfil 36 = .ok (.istore_n 3, 1) := by decide +kernel
theorem dX5_fulfil_37 : decode cX5_fulfil 37 = .ok (.aload_n 0, 1) := by decide +kernel
theorem dX5_fulfil_38 : decode cX5_fulfil 38 = .ok (.getfield 35, 3) := by decide +kernel
theorem dX5_fulfil_41 : decode cX5_fulfil 41 = .ok (.iload_n 1, 1) := by decide +kernel
theorem dX5_fulfil_42 : decode cX5_fulfil 42 = .ok (.iconst 1, 1) := by decide +kernel
theorem dX5_fulfil_43 : decode cX5_fulfil 43 = .ok (.invokevirtual 177, 3) := by decide +kernel
theorem dX5_fulfil_46 : decode cX5_fulfil 46 = .ok (.istore 4, 2) := by decide +kernel
theorem dX5_fulfil_48 : decode cX5_fulfil 48 = .ok (.aload_n 0, 1) := by decide +kernel
theorem dX5_fulfil_49 : decode cX5_fulfil 49 = .ok (.getfield 35, 3) := by decide +kernel
theorem dX5_fulfil_52 : decode cX5_fulfil 52 = .ok (.iload_n 1, 1) := by decide +kernel
theorem dX5_fulfil_53 : decode cX5_fulfil 53 = .ok (.iconst 2, 1) := by decide +kernel
theorem dX5_fulfil_54 : decode cX5_fulfil 54 = .ok (.invokevirtual 177, 3) := by decide +kernel
theorem dX5_fulfil_57 : decode cX5_fulfil 57 = .ok (.istore 5, 2) := by decide +kernel
theorem dX5_fulfil_59 : decode cX5_fulfil 59 = .ok (.aload_n 0, 1) := by decide +kernel
theorem dX5_fulfil_60 : decode cX5_fulfil 60 = .ok (.iload_n 3, 1) := by decide +kernel
theorem dX5_fulfil_61 : decode cX5_fulfil 61 = .ok (.iload 4, 2) := by decide +kernel
theorem dX5_fulfil_63 : decode cX5_fulfil 63 = .ok (.iload 5, 2) := by decide +kernel
theorem dX5_fulfil_65 : decode cX5_fulfil 65 = .ok (.iload 5, 2) := by decide +kernel
theorem dX5_fulfil_67 : decode cX5_fulfil 67 = .ok (.invokevirtual 117, 3) := by decide +kernel
theorem dX5_fulfil_70 : decode cX5_fulfil 70 = .ok (.istore 6, 2) := by decide +kernel
theorem dX5_fulfil_72 : decode cX5_fulfil 72 = .ok (.iload 6, 2) := by decide +kernel
theorem dX5_fulfil_74 : decode cX5_fulfil 74 = .ok (.ifCond .ge 6, 3) := by decide +kernel
theorem dX5_fulfil_77 : decode cX5_fulfil 77 = .ok (.iload 6, 2) := by decide +kernel
theorem dX5_fulfil_79 : decode cX5_fulfil 79 = .ok (.ireturn, 1) := by decide +kernel
theorem dX5_fulfil_80 : decode cX5_fulfil 80 = .ok (.aload_n 0, 1) := by decide +kernel
theorem dX5_fulfil_81 : decode cX5_fulfil 81 = .ok (.getfield 35, 3) := by decide +kernel
theorem dX5_fulfil_84 : decode cX5_fulfil 84 = .ok (.iload_n 1, 1) := by decide +kernel
theorem dX5_fulfil_85 : decode cX5_fulfil 85 = .ok (.iconst 1, 1) := by decide +kernel
theorem dX5_fulfil_86 : decode cX5_fulfil 86 = .ok (.invokevirtual 178, 3) := by decide +kernel
theorem dX5_fulfil_89 : decode cX5_fulfil 89 = .ok (.aload_n 0, 1) := by decide +kernel
theorem dX5_fulfil_90 : decode cX5_fulfil 90 = .ok (.getfield 21, 3) := by decide +kernel
theorem dX5_fulfil_93 : decode cX5_fulfil 93 = .ok (.aload_n 0, 1) := by decide +kernel
theorem dX5_fulfil_94 : decode cX5_fulfil 94 = .ok (.getfield 50, 3) := by decide +kernel
theorem dX5_fulfil_97 : decode cX5_fulfil 97 = .ok (.iload_n 3, 1) := by decide +kernel
theorem dX5_fulfil_98 : decode cX5_fulfil 98 = .ok (.iload 5, 2) := by decide +kernel
theorem dX5_fulfil_100 : decode cX5_fulfil 100 = .ok (.invokevirtual 121, 3) := by decide +kernel
theorem dX5_fulfil_103 : decode cX5_fulfil 103 = .ok (.aload_n 0, 1) := by decide +kernel
theorem dX5_fulfil_104 : decode cX5_fulfil 104 = .ok (.iload_n 3, 1) := by decide +kernel
theorem dX5_fulfil_105 : decode cX5_fulfil 105 = .ok (.iload 4, 2) := by decide +kernel
theorem dX5_fulfil_107 : decode cX5_fulfil 107 = .ok (.iload 5, 2) := by decide +kernel
theorem dX5_fulfil_109 : decode cX5_fulfil 109 = .ok (.iload_n 2, 1) := by decide +kernel
theorem dX5_fulfil_110 : decode cX5_fulfil 110 = .ok (.iconst 0, 1) := by decide +kernel
theorem dX5_fulfil_111 : decode cX5_fulfil 111 = .ok (.invokevirtual 109, 3) := by decide +kernel
theorem dX5_fulfil_114 : decode cX5_fulfil 114 = .ok (.ireturn, 1) := by decide +kernel
theorem dX5_timeOfAvailable_0 : decode cX5_timeOfAvailable 0 = .ok (.aload_n 0, 1) := by decide +kernel
theorem dX5_timeOfAvailable_1 : decode cX5_timeOfAvailable 1 = .ok (.iload_n 1, 1) := by decide +kernel
theorem dX5_timeOfAvailable_2 : decode cX5_timeOfAvailable 2 = .ok (.invokevirtual 151, 3) := by decide +kernel
theorem dX5_timeOfAvailable_5 : decode cX5_timeOfAvailable 5 = .ok (.iload_n 2, 1) := by decide +kernel
theorem dX5_timeOfAvailable_6 : decode cX5_timeOfAvailable 6 = .ok (.if_icmp .lt 8, 3) := by decide +kernel
theorem dX5_timeOfAvailable_9 : decode cX5_timeOfAvailable 9 = .ok (.aload_n 0, 1) := by decide +kernel
theorem dX5_timeOfAvailable_10 : decode cX5_timeOfAvailable 10 = .ok (.getfield 46, 3) := by decide +kernel
theorem dX5_timeOfAvailable_13 : decode cX5_timeOfAvailable 13 = .ok (.ireturn, 1) := by decide +kernel
theorem dX5_timeOfAvailable_14 : decode cX5_timeOfAvailable 14 = .ok (.aload_n 0, 1) := by decide +kernel
theorem dX5_timeOfAvailable_15 : decode cX5_timeOfAvailable 15 = .ok (.getfield 35, 3) := by decide +kernel
theorem dX5_timeOfAvailable_18 : decode cX5_timeOfAvailable 18 = .ok (.iload_n 1, 1) := by decide +kernel
theorem dX5_timeOfAvailable_19 : decode cX5_timeOfAvailable 19 = .ok (.aload_n 0, 1) := by decide +kernel
theorem dX5_timeOfAvailable_20 : decode cX5_timeOfAvailable 20 = .ok (.getfield 21, 3) := by decide +kernel
theorem dX5_timeOfAvailable_23 : decode cX5_timeOfAvailable 23 = .ok (.iload_n 1, 1) := by decide +kernel
theorem dX5_timeOfAvailable_24 : decode cX5_timeOfAvailable 24 = .ok (.invokevirtual 83, 3) := by decide +kernel
theorem dX5_timeOfAvailable_27 : decode cX5_timeOfAvailable 27 = .ok (.iload_n 2, 1) := by decide +kernel
theorem dX5_timeOfAvailable_28 : decode cX5_timeOfAvailable 28 = .ok (.isub, 1) := by decide +kernel
theorem dX5_timeOfAvailable_29 : decode cX5_timeOfAvailable 29 = .ok (.invokevirtual 181, 3) := by decide +kernel
theorem dX5_timeOfAvailable_32 : decode cX5_timeOfAvailable 32 = .ok (.ireturn, 1) := by decide +kernel
theorem dX5_pass_0 : decode cX5_pass 0 = .ok (.aload_n 0, 1) := by decide +kernel
theorem dX5_pass_1 : decode cX5_pass 1 = .ok (.getfield 46, 3) := by decide +kernel
theorem dX5_pass_4 : decode cX5_pass 4 = .ok (.iload_n 1, 1) := by decide +kernel
theorem dX5_pass_5 : decode cX5_pass 5 = .ok (.iadd, 1) := by decide +kernel
theorem dX5_pass_6 : decode cX5_pass 6 = .ok (.ldc 184, 2) := by decide +kernel
theorem dX5_pass_8 : decode cX5_pass 8 = .ok (.if_icmp .le 6, 3) := by decide +kernel
theorem dX5_pass_11 : decode cX5_pass 11 = .ok (.bipush (-2), 2) := by decide +kernel
theorem dX5_pass_13 : decode cX5_pass 13 = .ok (.ireturn, 1) := by decide +kernel
theorem dX5_pass_14 : decode cX5_pass 14 = .ok (.iconst 0, 1) := by decide +kernel
theorem dX5_pass_15 : decode cX5_pass 15 = .ok (.istore_n 2, 1) := by decide +kernel
theorem dX5_pass_16 : decode cX5_pass 16 = .ok (.iload_n 2, 1) := by decide +kernel
theorem dX5_pass_17 : decode cX5_pass 17 = .ok (.aload_n 0, 1) := by decide +kernel
theorem dX5_pass_18 : decode cX5_pass 18 = .ok (.getfield 12, 3) := by decide +kernel
theorem dX5_pass_21 : decode cX5_pass 21 = .ok (.getfield 167, 3) := by decide +kernel
theorem dX5_pass_24 : decode cX5_pass 24 = .ok (.if_icmp .ge 24, 3) := by decide +kernel
theorem dX5_pass_27 : decode cX5_pass 27 = .ok (.aload_n 0, 1) := by decide +kernel
theorem dX5_pass_28 : decode cX5_pass 28 = .ok (.getfield 12, 3) := by decide +kernel
theorem dX5_pass_31 : decode cX5_pass 31 = .ok (.getfield 185, 3) := by decide +kernel
theorem dX5_pass_34 : decode cX5_pass 34 = .ok (.iload_n 2, 1) := by decide +kernel
theorem dX5_pass_35 : decode cX5_pass 35 = .ok (.aload_n 0, 1) := by decide +kernel
theorem dX5_pass_36 : decode cX5_pass 36 = .ok (.iload_n 2, 1) := by decide +kernel
theorem dX5_pass_37 : decode cX5_pass 37 = .ok (.iload_n 1, 1) := by decide +kernel
theorem dX5_pass_38 : decode cX5_pass 38 = .ok (.invokevirtual 189, 3) := by decide +kernel
theorem dX5_pass_41 : decode cX5_pass 41 = .ok (.fastore, 1) := by decide +kernel
theorem dX5_pass_42 : decode cX5_pass 42 = .ok (.iinc 2 1, 3) := by decide +kernel
theorem dX5_pass_45 : decode cX5_pass 45 = .ok (.goto (-29), 3) := by decide +kernel
theorem dX5_pass_48 : decode cX5_pass 48 = .ok (.aload_n 0, 1) := by decide +kernel
theorem dX5_pass_49 : decode cX5_pass 49 = .ok (.dup, 1) := by decide +kernel
theorem dX5_pass_50 : decode cX5_pass 50 = .ok (.getfield 46, 3) := by decide +kernel
theorem dX5_pass_53 : decode cX5_pass 53 = .ok (.iload_n 1, 1) := by decide +kernel
theorem dX5_pass_54 : decode cX5_pass 54 = .ok (.iadd, 1) := by decide +kernel
theorem dX5_pass_55 : decode cX5_pass 55 = .ok (.putfield 46, 3) := by decide +kernel
theorem dX5_pass_58 : decode cX5_pass 58 = .ok (.aload_n 0, 1) := by decide +kernel
theorem dX5_pass_59 : decode cX5_pass 59 = .ok (.getfield 35, 3) := by decide +kernel
theorem dX5_pass_62 : decode cX5_pass 62 = .ok (.aload_n 0, 1) := by decide +kernel
theorem dX5_pass_63 : decode cX5_pass 63 = .ok (.getfield 46, 3) := by decide +kernel
theorem dX5_pass_66 : decode cX5_pass 66 = .ok (.invokevirtual 193, 3) := by decide +kernel
theorem dX5_pass_69 : decode cX5_pass 69 = .ok (.ireturn, 1) := by decide +kernel
theorem dX5_rentAfter_0 : decode cX5_rentAfter 0 = .ok (.aload_n 0, 1) := by decide +kernel
theorem dX5_rentAfter_1 : decode cX5_rentAfter 1 = .ok (.getfield 12, 3) := by decide +kernel
theorem dX5_rentAfter_4 : decode cX5_rentAfter 4 = .ok (.getfield 185, 3) := by decide +kernel
theorem dX5_rentAfter_7 : decode cX5_rentAfter 7 = .ok (.iload_n 1, 1) := by decide +kernel
theorem dX5_rentAfter_8 : decode cX5_rentAfter 8 = .ok (.faload, 1) := by decide +kernel
theorem dX5_rentAfter_9 : decode cX5_rentAfter 9 = .ok (.aload_n 0, 1) := by decide +kernel
theorem dX5_rentAfter_10 : decode cX5_rentAfter 10 = .ok (.getfield 12, 3) := by decide +kernel
theorem dX5_rentAfter_13 : decode cX5_rentAfter 13 = .ok (.getfield 196, 3) := by decide +kernel
theorem dX5_rentAfter_16 : decode cX5_rentAfter 16 = .ok (.iload_n 1, 1) := by decide +kernel
theorem dX5_rentAfter_17 : decode cX5_rentAfter 17 = .ok (.iaload, 1) := by decide +kernel
theorem dX5_rentAfter_18 : decode cX5_rentAfter 18 = .ok (.i2f, 1) := by decide +kernel
theorem dX5_rentAfter_19 : decode cX5_rentAfter 19 = .ok (.ldc 199, 2) := by decide +kernel
theorem dX5_rentAfter_21 : decode cX5_rentAfter 21 = .ok (.fdiv, 1) := by decide +kernel
theorem dX5_rentAfter_22 : decode cX5_rentAfter 22 = .ok (.aload_n 0, 1) := by decide +kernel
theorem dX5_rentAfter_23 : decode cX5_rentAfter 23 = .ok (.getfield 21, 3) := by decide +kernel
theorem dX5_rentAfter_26 : decode cX5_rentAfter 26 = .ok (.iload_n 1, 1) := by decide +kernel
theorem dX5_rentAfter_27 : decode cX5_rentAfter 27 = .ok (.invokevirtual 83, 3) := by decide +kernel
theorem dX5_rentAfter_30 : decode cX5_rentAfter 30 = .ok (.iload_n 2, 1) := by decide +kernel
theorem dX5_rentAfter_31 : decode cX5_rentAfter 31 = .ok (.imul, 1) := by decide +kernel
theorem dX5_rentAfter_32 : decode cX5_rentAfter 32 = .ok (.i2f, 1) := by decide +kernel
theorem dX5_rentAfter_33 : decode cX5_rentAfter 33 = .ok (.fmul, 1) := by decide +kernel
theorem dX5_rentAfter_34 : decode cX5_rentAfter 34 = .ok (.fadd, 1) := by decide +kernel
theorem dX5_rentAfter_35 : decode cX5_rentAfter 35 = .ok (.freturn, 1) := by decide +kernel
theorem dX5_unequalPools_0 : decode cX5_unequalPools 0 = .ok (.iconst 0, 1) := by decide +kernel
theorem dX5_unequalPools_1 : decode cX5_unequalPools 1 = .ok (.istore_n 1, 1) := by decide +kernel
theorem dX5_unequalPools_2 : decode cX5_unequalPools 2 = .ok (.iconst 0, 1) := by decide +kernel
theorem dX5_unequalPools_3 : decode cX5_unequalPools 3 = .ok (.istore_n 2, 1) := by decide +kernel
theorem dX5_unequalPools_4 : decode cX5_unequalPools 4 = .ok (.iload_n 2, 1) := by decide +kernel
theorem dX5_unequalPools_5 : decode cX5_unequalPools 5 = .ok (.aload_n 0, 1) := by decide +kernel
theorem dX5_unequalPools_6 : decode cX5_unequalPools 6 = .ok (.getfield 12, 3) := by decide +kernel
theorem dX5_unequalPools_9 : decode cX5_unequalPools 9 = .ok (.getfield 167, 3) := by decide +kernel
theorem dX5_unequalPools_12 : decode cX5_unequalPools 12 = .ok (.if_icmp .ge 31, 3) := by decide +kernel
theorem dX5_unequalPools_15 : decode cX5_unequalPools 15 = .ok (.aload_n 0, 1) := by decide +kernel
theorem dX5_unequalPools_16 : decode cX5_unequalPools 16 = .ok (.iload_n 2, 1) := by decide +kernel
theorem dX5_unequalPools_17 : decode cX5_unequalPools 17 = .ok (.invokevirtual 200, 3) := by decide +kernel
theorem dX5_unequalPools_20 : decode cX5_unequalPools 20 = .ok (.aload_n 0, 1) := by decide +kernel
theorem dX5_unequalPools_21 : decode cX5_unequalPools 21 = .ok (.getfield 21, 3) := by decide +kernel
theorem dX5_unequalPools_24 : decode cX5_unequalPools 24 = .ok (.iload_n 2, 1) := by decide +kernel
theorem dX5_unequalPools_25 : decode cX5_unequalPools 25 = .ok (.invokevirtual 83, 3) := by decide +kernel
theorem dX5_unequalPools_28 : decode cX5_unequalPools 28 = .ok (.if_icmp .eq 9, 3) := by decide +kernel
theorem dX5_unequalPools_31 : decode cX5_unequalPools 31 = .ok (.iload_n 1, 1) := by decide +kernel
theorem dX5_unequalPools_32 : decode cX5_unequalPools 32 = .ok (.iconst 1, 1) := by decide +kernel
theorem dX5_unequalPools_33 : decode cX5_unequalPools 33 = .ok (.iload_n 2, 1) := by decide +kernel
theorem dX5_unequalPools_34 : decode cX5_unequalPools 34 = .ok (.ishl, 1) := by decide +kernel
theorem dX5_unequalPools_35 : decode cX5_unequalPools 35 = .ok (.ior, 1) := by decide +kernel
theorem dX5_unequalPools_36 : decode cX5_unequalPools 36 = .ok (.istore_n 1, 1) := by decide +kernel
theorem dX5_unequalPools_37 : decode cX5_unequalPools 37 = .ok (.iinc 2 1, 3) := by decide +kernel
theorem dX5_unequalPools_40 : decode cX5_unequalPools 40 = .ok (.goto (-36), 3) := by decide +kernel
theorem dX5_unequalPools_43 : decode cX5_unequalPools 43 = .ok (.iload_n 1, 1) := by decide +kernel
theorem dX5_unequalPools_44 : decode cX5_unequalPools 44 = .ok (.ireturn, 1) := by decide +kernel
theorem dX5_adjust_0 : decode cX5_adjust 0 = .ok (.aload_n 0, 1) := by decide +kernel
theorem dX5_adjust_1 : decode cX5_adjust 1 = .ok (.getfield 28, 3) := by decide +kernel
theorem dX5_adjust_4 : decode cX5_adjust 4 = .ok (.getfield 62, 3) := by decide +kernel
theorem dX5_adjust_7 : decode cX5_adjust 7 = .ok (.istore_n 1, 1) := by decide +kernel
theorem dX5_adjust_8 : decode cX5_adjust 8 = .ok (.iconst 0, 1) := by decide +kernel
theorem dX5_adjust_9 : decode cX5_adjust 9 = .ok (.istore_n 2, 1) := by decide +kernel
theorem dX5_adjust_10 : decode cX5_adjust 10 = .ok (.iload_n 2, 1) := by decide +kernel
theorem dX5_adjust_11 : decode cX5_adjust 11 = .ok (.aload_n 0, 1) := by decide +kernel
theorem dX5_adjust_12 : decode cX5_adjust 12 = .ok (.getfield 12, 3) := by decide +kernel
theorem dX5_adjust_15 : decode cX5_adjust 15 = .ok (.getfield 167, 3) := by decide +kernel
theorem dX5_adjust_18 : decode cX5_adjust 18 = .ok (.if_icmp .ge 29, 3) := by decide +kernel
theorem dX5_adjust_21 : decode cX5_adjust 21 = .ok (.aload_n 0, 1) := by decide +kernel
theorem dX5_adjust_22 : decode cX5_adjust 22 = .ok (.getfield 53, 3) := by decide +kernel
theorem dX5_adjust_25 : decode cX5_adjust 25 = .ok (.iload_n 2, 1) := by decide +kernel
theorem dX5_adjust_26 : decode cX5_adjust 26 = .ok (.aload_n 0, 1) := by decide +kernel
theorem dX5_adjust_27 : decode cX5_adjust 27 = .ok (.iload_n 2, 1) := by decide +kernel
theorem dX5_adjust_28 : decode cX5_adjust 28 = .ok (.invokevirtual 200, 3) := by decide +kernel
theorem dX5_adjust_31 : decode cX5_adjust 31 = .ok (.aload_n 0, 1) := by decide +kernel
theorem dX5_adjust_32 : decode cX5_adjust 32 = .ok (.getfield 21, 3) := by decide +kernel
theorem dX5_adjust_35 : decode cX5_adjust 35 = .ok (.iload_n 2, 1) := by decide +kernel
theorem dX5_adjust_36 : decode cX5_adjust 36 = .ok (.invokevirtual 83, 3) := by decide +kernel
theorem dX5_adjust_39 : decode cX5_adjust 39 = .ok (.isub, 1) := by decide +kernel
theorem dX5_adjust_40 : decode cX5_adjust 40 = .ok (.iastore, 1) := by decide +kernel
theorem dX5_adjust_41 : decode cX5_adjust 41 = .ok (.iinc 2 1, 3) := by decide +kernel
theorem dX5_adjust_44 : decode cX5_adjust 44 = .ok (.goto (-34), 3) := by decide +kernel
theorem dX5_adjust_47 : decode cX5_adjust 47 = .ok (.iconst 0, 1) := by decide +kernel
theorem dX5_adjust_48 : decode cX5_adjust 48 = .ok (.istore_n 2, 1) := by decide +kernel
theorem dX5_adjust_49 : decode cX5_adjust 49 = .ok (.iload_n 2, 1) := by decide +kernel
theorem dX5_adjust_50 : decode cX5_adjust 50 = .ok (.bipush 8, 2) := by decide +kernel
theorem dX5_adjust_52 : decode cX5_adjust 52 = .ok (.if_icmp .ge 118, 3) := by decide +kernel
theorem dX5_adjust_55 : decode cX5_adjust 55 = .ok (.aload_n 0, 1) := by decide +kernel
theorem dX5_adjust_56 : decode cX5_adjust 56 = .ok (.iconst 1, 1) := by decide +kernel
theorem dX5_adjust_57 : decode cX5_adjust 57 = .ok (.invokevirtual 203, 3) := by decide +kernel
theorem dX5_adjust_60 : decode cX5_adjust 60 = .ok (.istore_n 3, 1) := by decide +kernel
theorem dX5_adjust_61 : decode cX5_adjust 61 = .ok (.aload_n 0, 1) := by decide +kernel
theorem dX5_adjust_62 : decode cX5_adjust 62 = .ok (.iconst (-1), 1) := by decide +kernel
theorem dX5_adjust_63 : decode cX5_adjust 63 = .ok (.invokevirtual 203, 3) := by decide +kernel
theorem dX5_adjust_66 : decode cX5_adjust 66 = .ok (.istore 4, 2) := by decide +kernel
theorem dX5_adjust_68 : decode cX5_adjust 68 = .ok (.iload_n 3, 1) := by decide +kernel
theorem dX5_adjust_69 : decode cX5_adjust 69 = .ok (.iconst (-1), 1) := by decide +kernel
theorem dX5_adjust_70 : decode cX5_adjust 70 = .ok (.if_icmp .eq 100, 3) := by decide +kernel
theorem dX5_adjust_73 : decode cX5_adjust 73 = .ok (.iload 4, 2) := by decide +kernel
theorem dX5_adjust_75 : decode cX5_adjust 75 = .ok (.iconst (-1), 1) := by decide +kernel
theorem dX5_adjust_76 : decode cX5_adjust 76 = .ok (.if_icmp .ne 6, 3) := by decide +kernel
theorem dX5_adjust_79 : decode cX5_adjust 79 = .ok (.goto 91, 3) := by decide +kernel
theorem dX5_adjust_82 : decode cX5_adjust 82 = .ok (.aload_n 0, 1) := by decide +kernel
theorem dX5_adjust_83 : decode cX5_adjust 83 = .ok (.getfield 28, 3) := by decide +kernel
theorem dX5_adjust_86 : decode cX5_adjust 86 = .ok (.invokevirtual 113, 3) := by decide +kernel
theorem dX5_adjust_89 : decode cX5_adjust 89 = .ok (.ifCond .eq 14, 3) := by decide +kernel
theorem dX5_adjust_92 : decode cX5_adjust 92 = .ok (.aload_n 0, 1) := by decide +kernel
theorem dX5_adjust_93 : decode cX5_adjust 93 = .ok (.getfield 28, 3) := by decide +kernel
theorem dX5_adjust_96 : decode cX5_adjust 96 = .ok (.iload_n 1, 1) := by decide +kernel
theorem dX5_adjust_97 : decode cX5_adjust 97 = .ok (.putfield 62, 3) := by decide +kernel
theorem dX5_adjust_100 : decode cX5_adjust 100 = .ok (.bipush (-2), 2) := by decide +kernel
theorem dX5_adjust_102 : decode cX5_adjust 102 = .ok (.ireturn, 1) := by decide +kernel
theorem dX5_adjust_103 : decode cX5_adjust 103 = .ok (.aload_n 0, 1) := by decide +kernel
theorem dX5_adjust_104 : decode cX5_adjust 104 = .ok (.getfield 53, 3) := by decide +kernel
theorem dX5_adjust_107 : decode cX5_adjust 107 = .ok (.iload_n 3, 1) := by decide +kernel
theorem dX5_adjust_108 : decode cX5_adjust 108 = .ok (.iaload, 1) := by decide +kernel
theorem dX5_adjust_109 : decode cX5_adjust 109 = .ok (.aload_n 0, 1) := by decide +kernel
theorem dX5_adjust_110 : decode cX5_adjust 110 = .ok (.getfield 53, 3) := by decide +kernel
theorem dX5_adjust_113 : decode cX5_adjust 113 = .ok (.iload 4, 2) := by decide +kernel
theorem dX5_adjust_115 : decode cX5_adjust 115 = .ok (.iaload, 1) := by decide +kernel
theorem dX5_adjust_116 : decode cX5_adjust 116 = .ok (.ineg, 1) := by decide +kernel
theorem dX5_adjust_117 : decode cX5_adjust 117 = .ok (.invokestatic 206, 3) := by decide +kernel
theorem dX5_adjust_120 : decode cX5_adjust 120 = .ok (.istore 5, 2) := by decide +kernel
theorem dX5_adjust_122 : decode cX5_adjust 122 = .ok (.aload_n 0, 1) := by decide +kernel
theorem dX5_adjust_123 : decode cX5_adjust 123 = .ok (.getfield 53, 3) := by decide +kernel
theorem dX5_adjust_126 : decode cX5_adjust 126 = .ok (.iload_n 3, 1) := by decide +kernel
theorem dX5_adjust_127 : decode cX5_adjust 127 = .ok (.dup2, 1) := by decide +kernel
theorem dX5_adjust_128 : decode cX5_adjust 128 = .ok (.iaload, 1) := by decide +kernel
theorem dX5_adjust_129 : decode cX5_adjust 129 = .ok (.iload 5, 2) := by decide +kernel
theorem dX5_adjust_131 : decode cX5_adjust 131 = .ok (.isub, 1) := by decide +kernel
theorem dX5_adjust_132 : decode cX5_adjust 132 = .ok (.iastore, 1) := by decide +kernel
theorem dX5_adjust_133 : decode cX5_adjust 133 = .ok (.aload_n 0, 1) := by decide +kernel
theorem dX5_adjust_134 : decode cX5_adjust 134 = .ok (.getfield 53, 3) := by decide +kernel
theorem dX5_adjust_137 : decode cX5_adjust 137 = .ok (.iload 4, 2) := by decide +kernel
theorem dX5_adjust_139 : decode cX5_adjust 139 = .ok (.dup2, 1) := by decide +kernel
theorem dX5_adjust_140 : decode cX5_adjust 140 = .ok (.iaload, 1) := by decide +kernel
theorem dX5_adjust_141 : decode cX5_adjust 141 = .ok (.iload 5, 2) := by decide +kernel
theorem dX5_adjust_143 : decode cX5_adjust 143 = .ok (.iadd, 1) := by decide +kernel
theorem dX5_adjust_144 : decode cX5_adjust 144 = .ok (.iastore, 1) := by decide +kernel
theorem dX5_adjust_145 : decode cX5_adjust 145 = .ok (.aload_n 0, 1) := by decide +kernel
theorem dX5_adjust_146 : decode cX5_adjust 146 = .ok (.getfield 28, 3) := by decide +kernel
theorem dX5_adjust_149 : decode cX5_adjust 149 = .ok (.iload_n 3, 1) := by decide +kernel
theorem dX5_adjust_150 : decode cX5_adjust 150 = .ok (.iload 4, 2) := by decide +kernel
theorem dX5_adjust_152 : decode cX5_adjust 152 = .ok (.iload 5, 2) := by decide +kernel
theorem dX5_adjust_154 : decode cX5_adjust 154 = .ok (.iconst 0, 1) := by decide +kernel
theorem dX5_adjust_155 : decode cX5_adjust 155 = .ok (.aload_n 0, 1) := by decide +kernel
theorem dX5_adjust_156 : decode cX5_adjust 156 = .ok (.getfield 46, 3) := by decide +kernel
theorem dX5_adjust_159 : decode cX5_adjust 159 = .ok (.iconst 2, 1) := by decide +kernel
theorem dX5_adjust_160 : decode cX5_adjust 160 = .ok (.invokevirtual 157, 3) := by decide +kernel
theorem dX5_adjust_163 : decode cX5_adjust 163 = .ok (.pop, 1) := by decide +kernel
theorem dX5_adjust_164 : decode cX5_adjust 164 = .ok (.iinc 2 1, 3) := by decide +kernel
theorem dX5_adjust_167 : decode cX5_adjust 167 = .ok (.goto (-118), 3) := by decide +kernel
theorem dX5_adjust_170 : decode cX5_adjust 170 = .ok (.aload_n 0, 1) := by decide +kernel
theorem dX5_adjust_171 : decode cX5_adjust 171 = .ok (.getfield 28, 3) := by decide +kernel
theorem dX5_adjust_174 : decode cX5_adjust 174 = .ok (.getfield 62, 3) := by decide +kernel
theorem dX5_adjust_177 : decode cX5_adjust 177 = .ok (.iload_n 1, 1) := by decide +kernel
theorem dX5_adjust_178 : decode cX5_adjust 178 = .ok (.isub, 1) := by decide +kernel
theorem dX5_adjust_179 : decode cX5_adjust 179 = .ok (.ireturn, 1) := by decide +kernel
theorem dX5_firstWithSurplus_0 : decode cX5_firstWithSurplus 0 = .ok (.iconst 0, 1) := by decide +kernel
theorem dX5_firstWithSurplus_1 : decode cX5_firstWithSurplus 1 = .ok (.istore_n 2, 1) := by decide +kernel
theorem dX5_firstWithSurplus_2 : decode cX5_firstWithSurplus 2 = .ok (.iload_n 2, 1) := by decide +kernel
theorem dX5_firstWithSurplus_3 : decode cX5_firstWithSurplus 3 = .ok (.aload_n 0, 1) := by decide +kernel
theorem dX5_firstWithSurplus_4 : decode cX5_firstWithSurplus 4 = .ok (.getfield 12, 3) := by decide +kernel
theorem dX5_firstWithSurplus_7 : decode cX5_firstWithSurplus 7 = .ok (.getfield 167, 3) := by decide +kernel
theorem dX5_firstWithSurplus_10 : decode cX5_firstWithSurplus 10 = .ok (.if_icmp .ge 22, 3) := by decide +kernel
theorem dX5_firstWithSurplus_13 : decode cX5_firstWithSurplus 13 = .ok (.aload_n 0, 1) := by decide +kernel
theorem dX5_firstWithSurplus_14 : decode cX5_firstWithSurplus 14 = .ok (.getfield 53, 3) := by decide +kernel
theorem dX5_firstWithSurplus_17 : decode cX5_firstWithSurplus 17 = .ok (.iload_n 2, 1) := by decide +kernel
theorem dX5_firstWithSurplus_18 : decode cX5_firstWithSurplus 18 = .ok (.iaload, 1) := by decide +kernel
theorem dX5_firstWithSurplus_19 : decode cX5_firstWithSurplus 19 = .ok (.iload_n 1, 1) := by decide +kernel
theorem dX5_firstWithSurplus_20 : decode cX5_firstWithSurplus 20 = .ok (.imul, 1) := by decide +kernel
theorem dX5_firstWithSurplus_21 : decode cX5_firstWithSurplus 21 = .ok (.ifCond .le 5, 3) := by decide +kernel
theorem dX5_firstWithSurplus_24 : decode cX5_firstWithSurplus 24 = .ok (.iload_n 2, 1) := by decide +kernel
theorem dX5_firstWithSurplus_25 : decode cX5_firstWithSurplus 25 = .ok (.ireturn, 1) := by decide +kernel
theorem dX5_firstWithSurplus_26 : decode cX5_firstWithSurplus 26 = .ok (.iinc 2 1, 3) := by decide +kernel
theorem dX5_firstWithSurplus_29 : decode cX5_firstWithSurplus 29 = .ok (.goto (-27), 3) := by decide +kernel
theorem dX5_firstWithSurplus_32 : decode cX5_firstWithSurplus 32 = .ok (.iconst (-1), 1) := by decide +kernel
theorem dX5_firstWithSurplus_33 : decode cX5_firstWithSurplus 33 = .ok (.ireturn, 1) := by decide +kernel
theorem dX5_mark_0 : decode cX5_mark 0 = .ok (.aload_n 0, 1) := by decide +kernel
theorem dX5_mark_1 : decode cX5_mark 1 = .ok (.getfield 42, 3) := by decide +kernel
theorem dX5_mark_4 : decode cX5_mark 4 = .ok (.getfield 66, 3) := by decide +kernel
theorem dX5_mark_7 : decode cX5_mark 7 = .ok (.bipush 10, 2) := by decide +kernel
theorem dX5_mark_9 : decode cX5_mark 9 = .ok (.if_icmp .lt 6, 3) := by decide +kernel
theorem dX5_mark_12 : decode cX5_mark 12 = .ok (.bipush (-2), 2) := by decide +kernel
theorem dX5_mark_14 : decode cX5_mark 14 = .ok (.ireturn, 1) := by decide +kernel
theorem dX5_mark_15 : decode cX5_mark 15 = .ok (.aload_n 0, 1) := by decide +kernel
theorem dX5_mark_16 : decode cX5_mark 16 = .ok (.getfield 42, 3) := by decide +kernel
theorem dX5_mark_19 : decode cX5_mark 19 = .ok (.aload_n 0, 1) := by decide +kernel
theorem dX5_mark_20 : decode cX5_mark 20 = .ok (.getfield 28, 3) := by decide +kernel
theorem dX5_mark_23 : decode cX5_mark 23 = .ok (.getfield 62, 3) := by decide +kernel
theorem dX5_mark_26 : decode cX5_mark 26 = .ok (.invokevirtual 211, 3) := by decide +kernel
theorem dX5_mark_29 : decode cX5_mark 29 = .ok (.istore_n 1, 1) := by decide +kernel
theorem dX5_mark_30 : decode cX5_mark 30 = .ok (.iconst 0, 1) := by decide +kernel
theorem dX5_mark_31 : decode cX5_mark 31 = .ok (.istore_n 2, 1) := by decide +kernel
theorem dX5_mark_32 : decode cX5_mark 32 = .ok (.iload_n 2, 1) := by decide +kernel
theorem dX5_mark_33 : decode cX5_mark 33 = .ok (.aload_n 0, 1) := by decide +kernel
theorem dX5_mark_34 : decode cX5_mark 34 = .ok (.getfield 12, 3) := by decide +kernel
theorem dX5_mark_37 : decode cX5_mark 37 = .ok (.getfield 167, 3) := by decide +kernel
theorem dX5_mark_40 : decode cX5_mark 40 = .ok (.if_icmp .ge 26, 3) := by decide +kernel
theorem dX5_mark_43 : decode cX5_mark 43 = .ok (.aload_n 0, 1) := by decide +kernel
theorem dX5_mark_44 : decode cX5_mark 44 = .ok (.getfield 42, 3) := by decide +kernel
theorem dX5_mark_47 : decode cX5_mark 47 = .ok (.iload_n 1, 1) := by decide +kernel
theorem dX5_mark_48 : decode cX5_mark 48 = .ok (.iload_n 2, 1) := by decide +kernel
theorem dX5_mark_49 : decode cX5_mark 49 = .ok (.aload_n 0, 1) := by decide +kernel
theorem dX5_mark_50 : decode cX5_mark 50 = .ok (.getfield 21, 3) := by decide +kernel
theorem dX5_mark_53 : decode cX5_mark 53 = .ok (.iload_n 2, 1) := by decide +kernel
theorem dX5_mark_54 : decode cX5_mark 54 = .ok (.invokevirtual 83, 3) := by decide +kernel
theorem dX5_mark_57 : decode cX5_mark 57 = .ok (.invokevirtual 213, 3) := by decide +kernel
theorem dX5_mark_60 : decode cX5_mark 60 = .ok (.iinc 2 1, 3) := by decide +kernel
theorem dX5_mark_63 : decode cX5_mark 63 = .ok (.goto (-31), 3) := by decide +kernel
theorem dX5_mark_66 : decode cX5_mark 66 = .ok (.iload_n 1, 1) := by decide +kernel
theorem dX5_mark_67 : decode cX5_mark 67 = .ok (.ireturn, 1) := by decide +kernel
theorem dX5_auditedPools_0 : decode cX5_auditedPools 0 = .ok (.iconst 0, 1) := by decide +kernel
theorem dX5_auditedPools_1 : decode cX5_auditedPools 1 = .ok (.istore_n 3, 1) := by decide +kernel
theorem dX5_auditedPools_2 : decode cX5_auditedPools 2 = .ok (.iconst 0, 1) := by decide +kernel
theorem dX5_auditedPools_3 : decode cX5_auditedPools 3 = .ok (.istore 4, 2) := by decide +kernel
theorem dX5_auditedPools_5 : decode cX5_auditedPools 5 = .ok (.iload 4, 2) := by decide +kernel
theorem dX5_auditedPools_7 : decode cX5_auditedPools 7 = .ok (.aload_n 0, 1) := by decide +kernel
theorem dX5_auditedPools_8 : decode cX5_auditedPools 8 = .ok (.getfield 12, 3) := by decide +kernel
theorem dX5_auditedPools_11 : decode cX5_auditedPools 11 = .ok (.getfield 167, 3) := by decide +kernel
theorem dX5_auditedPools_14 : decode cX5_auditedPools 14 = .ok (.if_icmp .ge 27, 3) := by decide +kernel
theorem dX5_auditedPools_17 : decode cX5_auditedPools 17 = .ok (.aload_n 0, 1) := by decide +kernel
theorem dX5_auditedPools_18 : decode cX5_auditedPools 18 = .ok (.iload_n 1, 1) := by decide +kernel
theorem dX5_auditedPools_19 : decode cX5_auditedPools 19 = .ok (.iload_n 2, 1) := by decide +kernel
theorem dX5_auditedPools_20 : decode cX5_auditedPools 20 = .ok (.iload 4, 2) := by decide +kernel
theorem dX5_auditedPools_22 : decode cX5_auditedPools 22 = .ok (.invokevirtual 216, 3) := by decide +kernel
theorem dX5_auditedPools_25 : decode cX5_auditedPools 25 = .ok (.ifCond .eq 10, 3) := by decide +kernel
theorem dX5_auditedPools_28 : decode cX5_auditedPools 28 = .ok (.iload_n 3, 1) := by decide +kernel
theorem dX5_auditedPools_29 : decode cX5_auditedPools 29 = .ok (.iconst 1, 1) := by decide +kernel
theorem dX5_auditedPools_30 : decode cX5_auditedPools 30 = .ok (.iload 4, 2) := by decide +kernel
theorem dX5_auditedPools_32 : decode cX5_auditedPools 32 = .ok (.ishl, 1) := by decide +kernel
theorem dX5_auditedPools_33 : decode cX5_auditedPools 33 = .ok (.ior, 1) := by decide +kernel
theorem dX5_auditedPools_34 : decode cX5_auditedPools 34 = .ok (.istore_n 3, 1) := by decide +kernel
theorem dX5_auditedPools_35 : decode cX5_auditedPools 35 = .ok (.iinc 4 1, 3) := by decide +kernel
theorem dX5_auditedPools_38 : decode cX5_auditedPools 38 = .ok (.goto (-33), 3) := by decide +kernel
theorem dX5_auditedPools_41 : decode cX5_auditedPools 41 = .ok (.iload_n 3, 1) := by decide +kernel
theorem dX5_auditedPools_42 : decode cX5_auditedPools 42 = .ok (.ireturn, 1) := by decide +kernel
theorem dX5_auditedChange_0 : decode cX5_auditedChange 0 = .ok (.aload_n 0, 1) := by decide +kernel
theorem dX5_auditedChange_1 : decode cX5_auditedChange 1 = .ok (.getfield 42, 3) := by decide +kernel
theorem dX5_auditedChange_4 : decode cX5_auditedChange 4 = .ok (.iload_n 2, 1) := by decide +kernel
theorem dX5_auditedChange_5 : decode cX5_auditedChange 5 = .ok (.iload_n 3, 1) := by decide +kernel
theorem dX5_auditedChange_6 : decode cX5_auditedChange 6 = .ok (.invokevirtual 219, 3) := by decide +kernel
theorem dX5_auditedChange_9 : decode cX5_auditedChange 9 = .ok (.aload_n 0, 1) := by decide +kernel
theorem dX5_auditedChange_10 : decode cX5_auditedChange 10 = .ok (.getfield 42, 3) := by decide +kernel
theorem dX5_auditedChange_13 : decode cX5_auditedChange 13 = .ok (.iload_n 1, 1) := by decide +kernel
theorem dX5_auditedChange_14 : decode cX5_auditedChange 14 = .ok (.iload_n 3, 1) := by decide +kernel
theorem dX5_auditedChange_15 : decode cX5_auditedChange 15 = .ok (.invokevirtual 219, 3) := by decide +kernel
theorem dX5_auditedChange_18 : decode cX5_auditedChange 18 = .ok (.isub, 1) := by decide +kernel
theorem dX5_auditedChange_19 : decode cX5_auditedChange 19 = .ok (.istore 4, 2) := by decide +kernel
theorem dX5_auditedChange_21 : decode cX5_auditedChange 21 = .ok (.aload_n 0, 1) := by decide +kernel
theorem dX5_auditedChange_22 : decode cX5_auditedChange 22 = .ok (.getfield 28, 3) := by decide +kernel
theorem dX5_auditedChange_25 : decode cX5_auditedChange 25 = .ok (.iload_n 3, 1) := by decide +kernel
theorem dX5_auditedChange_26 : decode cX5_auditedChange 26 = .ok (.aload_n 0, 1) := by decide +kernel
theorem dX5_auditedChange_27 : decode cX5_auditedChange 27 = .ok (.getfield 42, 3) := by decide +kernel
theorem dX5_auditedChange_30 : decode cX5_auditedChange 30 = .ok (.iload_n 1, 1) := by decide +kernel
theorem dX5_auditedChange_31 : decode cX5_auditedChange 31 = .ok (.invokevirtual 222, 3) := by decide +kernel
theorem dX5_auditedChange_34 : decode cX5_auditedChange 34 = .ok (.aload_n 0, 1) := by decide +kernel
theorem dX5_auditedChange_35 : decode cX5_auditedChange 35 = .ok (.getfield 42, 3) := by decide +kernel
theorem dX5_auditedChange_38 : decode cX5_auditedChange 38 = .ok (.iload_n 2, 1) := by decide +kernel
theorem dX5_auditedChange_39 : decode cX5_auditedChange 39 = .ok (.invokevirtual 222, 3) := by decide +kernel
theorem dX5_auditedChange_42 : decode cX5_auditedChange 42 = .ok (.invokevirtual 98, 3) := by decide +kernel
theorem dX5_auditedChange_45 : decode cX5_auditedChange 45 = .ok (.istore 5, 2) := by decide +kernel
theorem dX5_auditedChange_47 : decode cX5_auditedChange 47 = .ok (.iload 4, 2) := by decide +kernel
theorem dX5_auditedChange_49 : decode cX5_auditedChange 49 = .ok (.iload 5, 2) := by decide +kernel
theorem dX5_auditedChange_51 : decode cX5_auditedChange 51 = .ok (.isub, 1) := by decide +kernel
theorem dX5_auditedChange_52 : decode cX5_auditedChange 52 = .ok (.ireturn, 1) := by decide +kernel
theorem dX6_init_0 : decode cX6_init 0 = .ok (.aload_n 0, 1) := by decide +kernel
theorem dX6_init_1 : decode cX6_init 1 = .ok (.invokespecial 3, 3) := by decide +kernel
theorem dX6_init_4 : decode cX6_init 4 = .ok (.aload_n 0, 1) := by decide +kernel
theorem dX6_init_5 : decode cX6_init 5 = .ok (.iconst 0, 1) := by decide +kernel
theorem dX6_init_6 : decode cX6_init 6 = .ok (.putfield 9, 3) := by decide +kernel
theorem dX6_init_9 : decode cX6_init 9 = .ok (.aload_n 0, 1) := by decide +kernel
theorem dX6_init_10 : decode cX6_init 10 = .ok (.bipush 8, 2) := by decide +kernel
theorem dX6_init_12 : decode cX6_init 12 = .ok (.newarray .int, 2) := by decide +kernel
theorem dX6_init_14 : decode cX6_init 14 = .ok (.putfield 15, 3) := by decide +kernel
theorem dX6_init_17 : decode cX6_init 17 = .ok (.aload_n 0, 1) := by decide +kernel
theorem dX6_init_18 : decode cX6_init 18 = .ok (.bipush 8, 2) := by decide +kernel
theorem dX6_init_20 : decode cX6_init 20 = .ok (.newarray .int, 2) := by decide +kernel
theorem dX6_init_22 : decode cX6_init 22 = .ok (.putfield 19, 3) := by decide +kernel
theorem dX6_init_25 : decode cX6_init 25 = .ok (.aload_n 0, 1) := by decide +kernel
theorem dX6_init_26 : decode cX6_init 26 = .ok (.bipush 8, 2) := by decide +kernel
theorem dX6_init_28 : decode cX6_init 28 = .ok (.newarray .float, 2) := by decide +kernel
theorem dX6_init_30 : decode cX6_init 30 = .ok (.putfield 22, 3) := by decide +kernel
theorem dX6_init_33 : decode cX6_init 33 = .ok (.aload_n 0, 1) := by decide +kernel
theorem dX6_init_34 : decode cX6_init 34 = .ok (.bipush 48, 2) := by decide +kernel
theorem dX6_init_36 : decode cX6_init 36 = .ok (.newarray .int, 2) := by decide +kernel
theorem dX6_init_38 : decode cX6_init 38 = .ok (.putfield 26, 3) := by decide +kernel
theorem dX6_init_41 : decode cX6_init 41 = .ok (.aload_n 0, 1) := by decide +kernel
theorem dX6_init_42 : decode cX6_init 42 = .ok (.bipush 8, 2) := by decide +kernel
theorem dX6_init_44 : decode cX6_init 44 = .ok (.newarray .int, 2) := by decide +kernel
theorem dX6_init_46 : decode cX6_init 46 = .ok (.putfield 29, 3) := by decide +kernel
theorem dX6_init_49 : decode cX6_init 49 = .ok (.return_, 1) := by decide +kernel
theorem dX6_begin_0 : decode cX6_begin 0 = .ok (.aload_n 0, 1) := by decide +kernel
theorem dX6_begin_1 : decode cX6_begin 1 = .ok (.iconst 0, 1) := by decide +kernel
theorem dX6_begin_2 : decode cX6_begin 2 = .ok (.putfield 9, 3) := by decide +kernel
theorem dX6_begin_5 : decode cX6_begin 5 = .ok (.aload_n 0, 1) := by decide +kernel
theorem dX6_begin_6 : decode cX6_begin 6 = .ok (.getstatic 32, 3) := by decide +kernel
theorem dX6_begin_9 : decode cX6_begin 9 = .ok (.iconst 0, 1) := by decide +kernel
theorem dX6_begin_10 : decode cX6_begin 10 = .ok (.getstatic 32, 3) := by decide +kernel
theorem dX6_begin_13 : decode cX6_begin 13 = .ok (.arraylength, 1) := by decide +kernel
theorem dX6_begin_14 : decode cX6_begin 14 = .ok (.invokevirtual 35, 3) := by decide +kernel
theorem dX6_begin_17 : decode cX6_begin 17 = .ok (.istore_n 2, 1) := by decide +kernel
theorem dX6_begin_18 : decode cX6_begin 18 = .ok (.aload_n 0, 1) := by decide +kernel
theorem dX6_begin_19 : decode cX6_begin 19 = .ok (.iload_n 2, 1) := by decide +kernel
theorem dX6_begin_20 : decode cX6_begin 20 = .ok (.iload_n 1, 1) := by decide +kernel
theorem dX6_begin_21 : decode cX6_begin 21 = .ok (.iconst 0, 1) := by decide +kernel
theorem dX6_begin_22 : decode cX6_begin 22 = .ok (.invokevirtual 39, 3) := by decide +kernel
theorem dX6_begin_25 : decode cX6_begin 25 = .ok (.return_, 1) := by decide +kernel
theorem dX6_open_0 : decode cX6_open 0 = .ok (.aload_n 0, 1) := by decide +kernel
theorem dX6_open_1 : decode cX6_open 1 = .ok (.getfield 9, 3) := by decide +kernel
theorem dX6_open_4 : decode cX6_open 4 = .ok (.istore 4, 2) := by decide +kernel
theorem dX6_open_6 : decode cX6_open 6 = .ok (.iconst 0, 1) := by decide +kernel
theorem dX6_open_7 : decode cX6_open 7 = .ok (.istore 5, 2) := by decide +kernel
theorem dX6_open_9 : decode cX6_open 9 = .ok (.iload 5, 2) := by decide +kernel
theorem dX6_open_11 : decode cX6_open 11 = .ok (.iload_n 3, 1) := by decide +kernel
theorem dX6_open_12 : decode cX6_open 12 = .ok (.if_icmp .ge 35, 3) := by decide +kernel
theorem dX6_open_15 : decode cX6_open 15 = .ok (.iload 5, 2) := by decide +kernel
theorem dX6_open_17 : decode cX6_open 17 = .ok (.bipush 6, 2) := by decide +kernel
theorem dX6_open_19 : decode cX6_open 19 = .ok (.if_icmp .ge 28, 3) := by decide +kernel
theorem dX6_open_22 : decode cX6_open 22 = .ok (.aload_n 0, 1) := by decide +kernel
theorem dX6_open_23 : decode cX6_open 23 = .ok (.getfield 26, 3) := by decide +kernel
theorem dX6_open_26 : decode cX6_open 26 = .ok (.iload 4, 2) := by decide +kernel
theorem dX6_open_28 : decode cX6_open 28 = .ok (.bipush 6, 2) := by decide +kernel
theorem dX6_open_30 : decode cX6_open 30 = .ok (.imul, 1) := by decide +kernel
theorem dX6_open_31 : decode cX6_open 31 = .ok (.iload 5, 2) := by decide +kernel
theorem dX6_open_33 : decode cX6_open 33 = .ok (.iadd, 1) := by decide +kernel
theorem dX6_open_34 : decode cX6_open 34 = .ok (.aload_n 1, 1) := by decide +kernel
theorem dX6_open_35 : decode cX6_open 35 = .ok (.iload_n 2, 1) := by decide +kernel
theorem dX6_open_36 : decode cX6_open 36 = .ok (.iload 5, 2) := by decide +kernel
theorem dX6_open_38 : decode cX6_open 38 = .ok (.iadd, 1) := by decide +kernel
theorem dX6_open_39 : decode cX6_open 39 = .ok (.iaload, 1) := by decide +kernel
theorem dX6_open_40 : decode cX6_open 40 = .ok (.iastore, 1) := by decide +kernel
theorem dX6_open_41 : decode cX6_open 41 = .ok (.iinc 5 1, 3) := by decide +kernel
theorem dX6_open_44 : decode cX6_open 44 = .ok (.goto (-35), 3) := by decide +kernel
theorem dX6_open_47 : decode cX6_open 47 = .ok (.aload_n 0, 1) := by decide +kernel
theorem dX6_open_48 : decode cX6_open 48 = .ok (.getfield 29, 3) := by decide +kernel
theorem dX6_open_51 : decode cX6_open 51 = .ok (.iload 4, 2) := by decide +kernel
theorem dX6_open_53 : decode cX6_open 53 = .ok (.iload_n 3, 1) := by decide +kernel
theorem dX6_open_54 : decode cX6_open 54 = .ok (.iastore, 1) := by decide +kernel
theorem dX6_open_55 : decode cX6_open 55 = .ok (.aload_n 0, 1) := by decide +kernel
theorem dX6_open_56 : decode cX6_open 56 = .ok (.getfield 22, 3) := by decide +kernel
theorem dX6_open_59 : decode cX6_open 59 = .ok (.iload 4, 2) := by decide +kernel
theorem dX6_open_61 : decode cX6_open 61 = .ok (.fconst 0, 1) := by decide +kernel
theorem dX6_open_62 : decode cX6_open 62 = .ok (.fastore, 1) := by decide +kernel
theorem dX6_open_63 : decode cX6_open 63 = .ok (.aload_n 0, 1) := by decide +kernel
theorem dX6_open_64 : decode cX6_open 64 = .ok (.dup, 1) := by decide +kernel
theorem dX6_open_65 : decode cX6_open 65 = .ok (.getfield 9, 3) := by decide +kernel
theorem dX6_open_68 : decode cX6_open 68 = .ok (.iconst 1, 1) := by decide +kernel
theorem dX6_open_69 : decode cX6_open 69 = .ok (.iadd, 1) := by decide +kernel
theorem dX6_open_70 : decode cX6_open 70 = .ok (.putfield 9, 3) := by decide +kernel
theorem dX6_open_73 : decode cX6_open 73 = .ok (.iload 4, 2) := by decide +kernel
theorem dX6_open_75 : decode cX6_open 75 = .ok (.ireturn, 1) := by decide +kernel
theorem dX6_setTerms_0 : decode cX6_setTerms 0 = .ok (.aload_n 0, 1) := by decide +kernel
theorem dX6_setTerms_1 : decode cX6_setTerms 1 = .ok (.getfield 15, 3) := by decide +kernel
theorem dX6_setTerms_4 : decode cX6_setTerms 4 = .ok (.iload_n 1, 1) := by decide +kernel
theorem dX6_setTerms_5 : decode cX6_setTerms 5 = .ok (.iload_n 2, 1) := by decide +kernel
theorem dX6_setTerms_6 : decode cX6_setTerms 6 = .ok (.iastore, 1) := by decide +kernel
theorem dX6_setTerms_7 : decode cX6_setTerms 7 = .ok (.aload_n 0, 1) := by decide +kernel
theorem dX6_setTerms_8 : decode cX6_setTerms 8 = .ok (.getfield 19, 3) := by decide +kernel
theorem dX6_setTerms_11 : decode cX6_setTerms 11 = .ok (.iload_n 1, 1) := by decide +kernel
theorem dX6_setTerms_12 : decode cX6_setTerms 12 = .ok (.iload_n 3, 1) := by decide +kernel
theorem dX6_setTerms_13 : decode cX6_setTerms 13 = .ok (.iastore, 1) := by decide +kernel
theorem dX6_setTerms_14 : decode cX6_setTerms 14 = .ok (.return_, 1) := by decide +kernel
theorem dX6_letter_0 : decode cX6_letter 0 = .ok (.iload_n 2, 1) := by decide +kernel
theorem dX6_letter_1 : decode cX6_letter 1 = .ok (.ifCond .lt 13, 3) := by decide +kernel
theorem dX6_letter_4 : decode cX6_letter 4 = .ok (.iload_n 2, 1) := by decide +kernel
theorem dX6_letter_5 : decode cX6_letter 5 = .ok (.aload_n 0, 1) := by decide +kernel
theorem dX6_letter_6 : decode cX6_letter 6 = .ok (.getfield 29, 3) := by decide +kernel
theorem dX6_letter_9 : decode cX6_letter 9 = .ok (.iload_n 1, 1) := by decide +kernel
theorem dX6_letter_10 : decode cX6_letter 10 = .ok (.iaload, 1) := by decide +kernel
theorem dX6_letter_11 : decode cX6_letter 11 = .ok (.if_icmp .lt 5, 3) := by decide +kernel
theorem dX6_letter_14 : decode cX6_letter 14 = .ok (.iconst (-1), 1) := by decide +kernel
theorem dX6_letter_15 : decode cX6_letter 15 = .ok (.ireturn, 1) := by decide +kernel
theorem dX6_letter_16 : decode cX6_letter 16 = .ok (.aload_n 0, 1) := by decide +kernel
theorem dX6_letter_17 : decode cX6_letter 17 = .ok (.getfield 26, 3) := by decide +kernel
theorem dX6_letter_20 : decode cX6_letter 20 = .ok (.iload_n 1, 1) := by decide +kernel
theorem dX6_letter_21 : decode cX6_letter 21 = .ok (.bipush 6, 2) := by decide +kernel
theorem dX6_letter_23 : decode cX6_letter 23 = .ok (.imul, 1) := by decide +kernel
theorem dX6_letter_24 : decode cX6_letter 24 = .ok (.iload_n 2, 1) := by decide +kernel
theorem dX6_letter_25 : decode cX6_letter 25 = .ok (.iadd, 1) := by decide +kernel
theorem dX6_letter_26 : decode cX6_letter 26 = .ok (.iaload, 1) := by decide +kernel
theorem dX6_letter_27 : decode cX6_letter 27 = .ok (.ireturn, 1) := by decide +kernel
theorem dX6_find_0 : decode cX6_find 0 = .ok (.iconst 0, 1) := by decide +kernel
theorem dX6_find_1 : decode cX6_find 1 = .ok (.istore 4, 2) := by decide +kernel
theorem dX6_find_3 : decode cX6_find 3 = .ok (.iload 4, 2) := by decide +kernel
theorem dX6_find_5 : decode cX6_find 5 = .ok (.aload_n 0, 1) := by decide +kernel
theorem dX6_find_6 : decode cX6_find 6 = .ok (.getfield 9, 3) := by decide +kernel
theorem dX6_find_9 : decode cX6_find 9 = .ok (.if_icmp .ge 34, 3) := by decide +kernel
theorem dX6_find_12 : decode cX6_find 12 = .ok (.aload_n 0, 1) := by decide +kernel
theorem dX6_find_13 : decode cX6_find 13 = .ok (.getfield 29, 3) := by decide +kernel
theorem dX6_find_16 : decode cX6_find 16 = .ok (.iload 4, 2) := by decide +kernel
theorem dX6_find_18 : decode cX6_find 18 = .ok (.iaload, 1) := by decide +kernel
theorem dX6_find_19 : decode cX6_find 19 = .ok (.iload_n 3, 1) := by decide +kernel
theorem dX6_find_20 : decode cX6_find 20 = .ok (.if_icmp .ne 17, 3) := by decide +kernel
theorem dX6_find_23 : decode cX6_find 23 = .ok (.aload_n 0, 1) := by decide +kernel
theorem dX6_find_24 : decode cX6_find 24 = .ok (.iload 4, 2) := by decide +kernel
theorem dX6_find_26 : decode cX6_find 26 = .ok (.aload_n 1, 1) := by decide +kernel
theorem dX6_find_27 : decode cX6_find 27 = .ok (.iload_n 2, 1) := by decide +kernel
theorem dX6_find_28 : decode cX6_find 28 = .ok (.invokevirtual 43, 3) := by decide +kernel
theorem dX6_find_31 : decode cX6_find 31 = .ok (.ifCond .eq 6, 3) := by decide +kernel
theorem dX6_find_34 : decode cX6_find 34 = .ok (.iload 4, 2) := by decide +kernel
theorem dX6_find_36 : decode cX6_find 36 = .ok (.ireturn, 1) := by decide +kernel
theorem dX6_find_37 : decode cX6_find 37 = .ok (.iinc 4 1, 3) := by decide +kernel
theorem dX6_find_40 : decode cX6_find 40 = .ok (.goto (-37), 3) := by decide +kernel
theorem dX6_find_43 : decode cX6_find 43 = .ok (.iconst (-1), 1) := by decide +kernel
theorem dX6_find_44 : decode cX6_find 44 = .ok (.ireturn, 1) := by decide +kernel
theorem dX6_hasName_0 : decode cX6_hasName 0 = .ok (.iconst 0, 1) := by decide +kernel
theorem dX6_hasName_1 : decode cX6_hasName 1 = .ok (.istore 4, 2) := by decide +kernel
theorem dX6_hasName_3 : decode cX6_hasName 3 = .ok (.iload 4, 2) := by decide +kernel
theorem dX6_hasName_5 : decode cX6_hasName 5 = .ok (.aload_n 0, 1) := by decide +kernel
theorem dX6_hasName_6 : decode cX6_hasName 6 = .ok (.getfield 29, 3) := by decide +kernel
theorem dX6_hasName_9 : decode cX6_hasName 9 = .ok (.iload_n 1, 1) := by decide +kernel
theorem dX6_hasName_10 : decode cX6_hasName 10 = .ok (.iaload, 1) := by decide +kernel
theorem dX6_hasName_11 : decode cX6_hasName 11 = .ok (.if_icmp .ge 32, 3) := by decide +kernel
theorem dX6_hasName_14 : decode cX6_hasName 14 = .ok (.aload_n 0, 1) := by decide +kernel
theorem dX6_hasName_15 : decode cX6_hasName 15 = .ok (.getfield 26, 3) := by decide +kernel
theorem dX6_hasName_18 : decode cX6_hasName 18 = .ok (.iload_n 1, 1) := by decide +kernel
theorem dX6_hasName_19 : decode cX6_hasName 19 = .ok (.bipush 6, 2) := by decide +kernel
theorem dX6_hasName_21 : decode cX6_hasName 21 = .ok (.imul, 1) := by decide +kernel
theorem dX6_hasName_22 : decode cX6_hasName 22 = .ok (.iload 4, 2) := by decide +kernel
theorem dX6_hasName_24 : decode cX6_hasName 24 = .ok (.iadd, 1) := by decide +kernel
theorem dX6_hasName_25 : decode cX6_hasName 25 = .ok (.iaload, 1) := by decide +kernel
theorem dX6_hasName_26 : decode cX6_hasName 26 = .ok (.aload_n 2, 1) := by decide +kernel
theorem dX6_hasName_27 : decode cX6_hasName 27 = .ok (.iload_n 3, 1) := by decide +kernel
theorem dX6_hasName_28 : decode cX6_hasName 28 = .ok (.iload 4, 2) := by decide +kernel
theorem dX6_hasName_30 : decode cX6_hasName 30 = .ok (.iadd, 1) := by decide +kernel
theorem dX6_hasName_31 : decode cX6_hasName 31 = .ok (.iaload, 1) := by decide +kernel
theorem dX6_hasName_32 : decode cX6_hasName 32 = .ok (.if_icmp .eq 5, 3) := by decide +kernel
theorem dX6_hasName_35 : decode cX6_hasName 35 = .ok (.iconst 0, 1) := by decide +kernel
theorem dX6_hasName_36 : decode cX6_hasName 36 = .ok (.ireturn, 1) := by decide +kernel
theorem dX6_hasName_37 : decode cX6_hasName 37 = .ok (.iinc 4 1, 3) := by decide +kernel
theorem dX6_hasName_40 : decode cX6_hasName 40 = .ok (.goto (-37), 3) := by decide +kernel
theorem dX6_hasName_43 : decode cX6_hasName 43 = .ok (.iconst 1, 1) := by decide +kernel
theorem dX6_hasName_44 : decode cX6_hasName 44 = .ok (.ireturn, 1) := by decide +kernel
theorem dX6_sumOfRents_0 : decode cX6_sumOfRents 0 = .ok (.fconst 0, 1) := by decide +kernel
theorem dX6_sumOfRents_1 : decode cX6_sumOfRents 1 = .ok (.fstore_n 1, 1) := by decide +kernel
theorem dX6_sumOfRents_2 : decode cX6_sumOfRents 2 = .ok (.iconst 0, 1) := by decide +kernel
theorem dX6_sumOfRents_3 : decode cX6_sumOfRents 3 = .ok (.istore_n 2, 1) := by decide +kernel
theorem dX6_sumOfRents_4 : decode cX6_sumOfRents 4 = .ok (.iload_n 2, 1) := by decide +kernel
theorem dX6_sumOfRents_5 : decode cX6_sumOfRents 5 = .ok (.aload_n 0, 1) := by decide +kernel
theorem dX6_sumOfRents_6 : decode cX6_sumOfRents 6 = .ok (.getfield 9, 3) := by decide +kernel
theorem dX6_sumOfRents_9 : decode cX6_sumOfRents 9 = .ok (.if_icmp .ge 18, 3) := by decide +kernel
theorem dX6_sumOfRents_12 : decode cX6_sumOfRents 12 = .ok (.fload_n 1, 1) := by decide +kernel
theorem dX6_sumOfRents_13 : decode cX6_sumOfRents 13 = .ok (.aload_n 0, 1) := by decide +kernel
theorem dX6_sumOfRents_14 : decode cX6_sumOfRents 14 = .ok (.getfield 22, 3) := by decide +kernel
theorem dX6_sumOfRents_17 : decode cX6_sumOfRents 17 = .ok (.iload_n 2, 1) := by decide +kernel
theorem dX6_sumOfRents_18 : decode cX6_sumOfRents 18 = .ok (.faload, 1) := by decide +kernel
theorem dX6_sumOfRents_19 : decode cX6_sumOfRents 19 = .ok (.fadd, 1) := by decide +kernel
theorem dX6_sumOfRents_20 : decode cX6_sumOfRents 20 = .ok (.fstore_n 1, 1) := by decide +kernel
theorem dX6_sumOfRents_21 : decode cX6_sumOfRents 21 = .ok (.iinc 2 1, 3) := by decide +kernel
theorem dX6_sumOfRents_24 : decode cX6_sumOfRents 24 = .ok (.goto (-20), 3) := by decide +kernel
theorem dX6_sumOfRents_27 : decode cX6_sumOfRents 27 = .ok (.fload_n 1, 1) := by decide +kernel
theorem dX6_sumOfRents_28 : decode cX6_sumOfRents 28 = .ok (.freturn, 1) := by decide +kernel
theorem dX6_copyFrom_0 : decode cX6_copyFrom 0 = .ok (.aload_n 0, 1) := by decide +kernel
theorem dX6_copyFrom_1 : decode cX6_copyFrom 1 = .ok (.aload_n 1, 1) := by decide +kernel
theorem dX6_copyFrom_2 : decode cX6_copyFrom 2 = .ok (.getfield 9, 3) := by decide +kernel
theorem dX6_copyFrom_5 : decode cX6_copyFrom 5 = .ok (.putfield 9, 3) := by decide +kernel
theorem dX6_copyFrom_8 : decode cX6_copyFrom 8 = .ok (.aload_n 1, 1) := by decide +kernel
theorem dX6_copyFrom_9 : decode cX6_copyFrom 9 = .ok (.getfield 15, 3) := by decide +kernel
theorem dX6_copyFrom_12 : decode cX6_copyFrom 12 = .ok (.iconst 0, 1) := by decide +kernel
theorem dX6_copyFrom_13 : decode cX6_copyFrom 13 = .ok (.aload_n 0, 1) := by decide +kernel
theorem dX6_copyFrom_14 : decode cX6_copyFrom 14 = .ok (.getfield 15, 3) := by decide +kernel
theorem dX6_copyFrom_17 : decode cX6_copyFrom 17 = .ok (.iconst 0, 1) := by decide +kernel
theorem dX6_copyFrom_18 : decode cX6_copyFrom 18 = .ok (.bipush 8, 2) := by decide +kernel
theorem dX6_copyFrom_20 : decode cX6_copyFrom 20 = .ok (.invokestatic 47, 3) := by decide +kernel
theorem dX6_copyFrom_23 : decode cX6_copyFrom 23 = .ok (.aload_n 1, 1) := by decide +kernel
theorem dX6_copyFrom_24 : decode cX6_copyFrom 24 = .ok (.getfield 19, 3) := by decide +kernel
theorem dX6_copyFrom_27 : decode cX6_copyFrom 27 = .ok (.iconst 0, 1) := by decide +kernel
theorem dX6_copyFrom_28 : decode cX6_copyFrom 28 = .ok (.aload_n 0, 1) := by decide +kernel
theorem dX6_copyFrom_29 : decode cX6_copyFrom 29 = .ok (.getfield 19, 3) := by decide +kernel
theorem dX6_copyFrom_32 : decode cX6_copyFrom 32 = .ok (.iconst 0, 1) := by decide +kernel
theorem dX6_copyFrom_33 : decode cX6_copyFrom 33 = .ok (.bipush 8, 2) := by decide +kernel
theorem dX6_copyFrom_35 : decode cX6_copyFrom 35 = .ok (.invokestatic 47, 3) := by decide +kernel
theorem dX6_copyFrom_38 : decode cX6_copyFrom 38 = .ok (.aload_n 1, 1) := by decide +kernel
theorem dX6_copyFrom_39 : decode cX6_copyFrom 39 = .ok (.getfield 22, 3) := by decide +kernel
theorem dX6_copyFrom_42 : decode cX6_copyFrom 42 = .ok (.iconst 0, 1) := by decide +kernel
theorem dX6_copyFrom_43 : decode cX6_copyFrom 43 = .ok (.aload_n 0, 1) := by decide +kernel
theorem dX6_copyFrom_44 : decode cX6_copyFrom 44 = .ok (.getfield 22, 3) := by decide +kernel
theorem dX6_copyFrom_47 : decode cX6_copyFrom 47 = .ok (.iconst 0, 1) := by decide +kernel
theorem dX6_copyFrom_48 : decode cX6_copyFrom 48 = .ok (.bipush 8, 2) := by decide +kernel
theorem dX6_copyFrom_50 : decode cX6_copyFrom 50 = .ok (.invokestatic 47, 3) := by decide +kernel
theorem dX6_copyFrom_53 : decode cX6_copyFrom 53 = .ok (.aload_n 1, 1) := by decide +kernel
theorem dX6_copyFrom_54 : decode cX6_copyFrom 54 = .ok (.getfield 26, 3) := by decide +kernel
theorem dX6_copyFrom_57 : decode cX6_copyFrom 57 = .ok (.iconst 0, 1) := by decide +kernel
theorem dX6_copyFrom_58 : decode cX6_copyFrom 58 = .ok (.aload_n 0, 1) := by decide +kernel
theorem dX6_copyFrom_59 : decode cX6_copyFrom 59 = .ok (.getfield 26, 3) := by decide +kernel
theorem dX6_copyFrom_62 : decode cX6_copyFrom 62 = .ok (.iconst 0, 1) := by decide +kernel
theorem dX6_copyFrom_63 : decode cX6_copyFrom 63 = .ok (.bipush 48, 2) := by decide +kernel
theorem dX6_copyFrom_65 : decode cX6_copyFrom 65 = .ok (.invokestatic 47, 3) := by decide +kernel
theorem dX6_copyFrom_68 : decode cX6_copyFrom 68 = .ok (.aload_n 1, 1) := by decide +kernel
theorem dX6_copyFrom_69 : decode cX6_copyFrom 69 = .ok (.getfield 29, 3) := by decide +kernel
theorem dX6_copyFrom_72 : decode cX6_copyFrom 72 = .ok (.iconst 0, 1) := by decide +kernel
theorem dX6_copyFrom_73 : decode cX6_copyFrom 73 = .ok (.aload_n 0, 1) := by decide +kernel
theorem dX6_copyFrom_74 : decode cX6_copyFrom 74 = .ok (.getfield 29, 3) := by decide +kernel
theorem dX6_copyFrom_77 : decode cX6_copyFrom 77 = .ok (.iconst 0, 1) := by decide +kernel
theorem dX6_copyFrom_78 : decode cX6_copyFrom 78 = .ok (.bipush 8, 2) := by decide +kernel
theorem dX6_copyFrom_80 : decode cX6_copyFrom 80 = .ok (.invokestatic 47, 3) := by decide +kernel
theorem dX6_copyFrom_83 : decode cX6_copyFrom 83 = .ok (.return_, 1) := by decide +kernel
theorem dX7_init_0 : decode cX7_init 0 = .ok (.aload_n 0, 1) := by decide +kernel
theorem dX7_init_1 : decode cX7_init 1 = .ok (.invokespecial 3, 3) := by decide +kernel
theorem dX7_init_4 : decode cX7_init 4 = .ok (.aload_n 0, 1) := by decide +kernel
theorem dX7_init_5 : decode cX7_init 5 = .ok (.iconst 0, 1) := by decide +kernel
theorem dX7_init_6 : decode cX7_init 6 = .ok (.putfield 9, 3) := by decide +kernel
theorem dX7_init_9 : decode cX7_init 9 = .ok (.aload_n 0, 1) := by decide +kernel
theorem dX7_init_10 : decode cX7_init 10 = .ok (.sipush 300, 3) := by decide +kernel
theorem dX7_init_13 : decode cX7_init 13 = .ok (.newarray .int, 2) := by decide +kernel
theorem dX7_init_15 : decode cX7_init 15 = .ok (.putfield 15, 3) := by decide +kernel
theorem dX7_init_18 : decode cX7_init 18 = .ok (.return_, 1) := by decide +kernel
theorem dX7_isFull_0 : decode cX7_isFull 0 = .ok (.aload_n 0, 1) := by decide +kernel
theorem dX7_isFull_1 : decode cX7_isFull 1 = .ok (.getfield 9, 3) := by decide +kernel
theorem dX7_isFull_4 : decode cX7_isFull 4 = .ok (.bipush 60, 2) := by decide +kernel
theorem dX7_isFull_6 : decode cX7_isFull 6 = .ok (.if_icmp .lt 7, 3) := by decide +kernel
theorem dX7_isFull_9 : decode cX7_isFull 9 = .ok (.iconst 1, 1) := by decide +kernel
theorem dX7_isFull_10 : decode cX7_isFull 10 = .ok (.goto 4, 3) := by decide +kernel
theorem dX7_isFull_13 : decode cX7_isFull 13 = .ok (.iconst 0, 1) := by decide +kernel
theorem dX7_isFull_14 : decode cX7_isFull 14 = .ok (.ireturn, 1) := by decide +kernel
theorem dX7_add_0 : decode cX7_add 0 = .ok (.aload_n 0, 1) := by decide +kernel
theorem dX7_add_1 : decode cX7_add 1 = .ok (.getfield 9, 3) := by decide +kernel
theorem dX7_add_4 : decode cX7_add 4 = .ok (.istore 5, 2) := by decide +kernel
theorem dX7_add_6 : decode cX7_add 6 = .ok (.iload 5, 2) := by decide +kernel
theorem dX7_add_8 : decode cX7_add 8 = .ok (.iconst 5, 1) := by decide +kernel
theorem dX7_add_9 : decode cX7_add 9 = .ok (.imul, 1) := by decide +kernel
theorem dX7_add_10 : decode cX7_add 10 = .ok (.istore 6, 2) := by decide +kernel
theorem dX7_add_12 : decode cX7_add 12 = .ok (.aload_n 0, 1) := by decide +kernel
theorem dX7_add_13 : decode cX7_add 13 = .ok (.getfield 15, 3) := by decide +kernel
theorem dX7_add_16 : decode cX7_add 16 = .ok (.iload 6, 2) := by decide +kernel
theorem dX7_add_18 : decode cX7_add 18 = .ok (.iconst 0, 1) := by decide +kernel
theorem dX7_add_19 : decode cX7_add 19 = .ok (.iadd, 1) := by decide +kernel
theorem dX7_add_20 : decode cX7_add 20 = .ok (.iload_n 1, 1) := by decide +kernel
theorem dX7_add_21 : decode cX7_add 21 = .ok (.iastore, 1) := by decide +kernel
theorem dX7_add_22 : decode cX7_add 22 = .ok (.aload_n 0, 1) := by decide +kernel
theorem dX7_add_23 : decode cX7_add 23 = .ok (.getfield 15, 3) := by decide +kernel
theorem dX7_add_26 : decode cX7_add 26 = .ok (.iload 6, 2) := by decide +kernel
theorem dX7_add_28 : decode cX7_add 28 = .ok (.iconst 1, 1) := by decide +kernel
theorem dX7_add_29 : decode cX7_add 29 = .ok (.iadd, 1) := by decide +kernel
theorem dX7_add_30 : decode cX7_add 30 = .ok (.iload_n 2, 1) := by decide +kernel
theorem dX7_add_31 : decode cX7_add 31 = .ok (.iastore, 1) := by decide +kernel
theorem dX7_add_32 : decode cX7_add 32 = .ok (.aload_n 0, 1) := by decide +kernel
theorem dX7_add_33 : decode cX7_add 33 = .ok (.getfield 15, 3) := by decide +kernel
theorem dX7_add_36 : decode cX7_add 36 = .ok (.iload 6, 2) := by decide +kernel
theorem dX7_add_38 : decode cX7_add 38 = .ok (.iconst 2, 1) := by decide +kernel
theorem dX7_add_39 : decode cX7_add 39 = .ok (.iadd, 1) := by decide +kernel
theorem dX7_add_40 : decode cX7_add 40 = .ok (.iload_n 3, 1) := by decide +kernel
theorem dX7_add_41 : decode cX7_add 41 = .ok (.iastore, 1) := by decide +kernel
theorem dX7_add_42 : decode cX7_add 42 = .ok (.aload_n 0, 1) := by decide +kernel
theorem dX7_add_43 : decode cX7_add 43 = .ok (.getfield 15, 3) := by decide +kernel
theorem dX7_add_46 : decode cX7_add 46 = .ok (.iload 6, 2) := by decide +kernel
theorem dX7_add_48 : decode cX7_add 48 = .ok (.iconst 3, 1) := by decide +kernel
theorem dX7_add_49 : decode cX7_add 49 = .ok (.iadd, 1) := by decide +kernel
theorem dX7_add_50 : decode cX7_add 50 = .ok (.iload 4, 2) := by decide +kernel
theorem dX7_add_52 : decode cX7_add 52 = .ok (.iastore, 1) := by decide +kernel
theorem dX7_add_53 : decode cX7_add 53 = .ok (.aload_n 0, 1) := by decide +kernel
theorem dX7_add_54 : decode cX7_add 54 = .ok (.getfield 15, 3) := by decide +kernel
theorem dX7_add_57 : decode cX7_add 57 = .ok (.iload 6, 2) := by decide +kernel
theorem dX7_add_59 : decode cX7_add 59 = .ok (.iconst 4, 1) := by decide +kernel
theorem dX7_add_60 : decode cX7_add 60 = .ok (.iadd, 1) := by decide +kernel
theorem dX7_add_61 : decode cX7_add 61 = .ok (.iconst 0, 1) := by decide +kernel
theorem dX7_add_62 : decode cX7_add 62 = .ok (.iastore, 1) := by decide +kernel
theorem dX7_add_63 : decode cX7_add 63 = .ok (.aload_n 0, 1) := by decide +kernel
theorem dX7_add_64 : decode cX7_add 64 = .ok (.dup, 1) := by decide +kernel
theorem dX7_add_65 : decode cX7_add 65 = .ok (.getfield 9, 3) := by decide +kernel
theorem dX7_add_68 : decode cX7_add 68 = .ok (.iconst 1, 1) := by decide +kernel
theorem dX7_add_69 : decode cX7_add 69 = .ok (.iadd, 1) := by decide +kernel
theorem dX7_add_70 : decode cX7_add 70 = .ok (.putfield 9, 3) := by decide +kernel
theorem dX7_add_73 : decode cX7_add 73 = .ok (.iload 5, 2) := by decide +kernel
theorem dX7_add_75 : decode cX7_add 75 = .ok (.ireturn, 1) := by decide +kernel
theorem dX7_value_0 : decode cX7_value 0 = .ok (.aload_n 0, 1) := by decide +kernel
theorem dX7_value_1 : decode cX7_value 1 = .ok (.getfield 15, 3) := by decide +kernel
theorem dX7_value_4 : decode cX7_value 4 = .ok (.iload_n 1, 1) := by decide +kernel
theorem dX7_value_5 : decode cX7_value 5 = .ok (.iconst 5, 1) := by decide +kernel
theorem dX7_value_6 : decode cX7_value 6 = .ok (.imul, 1) := by decide +kernel
theorem dX7_value_7 : decode cX7_value 7 = .ok (.iload_n 2, 1) := by decide +kernel
theorem dX7_value_8 : decode cX7_value 8 = .ok (.iadd, 1) := by decide +kernel
theorem dX7_value_9 : decode cX7_value 9 = .ok (.iaload, 1) := by decide +kernel
theorem dX7_value_10 : decode cX7_value 10 = .ok (.ireturn, 1) := by decide +kernel
theorem dX7_isPending_0 : decode cX7_isPending 0 = .ok (.aload_n 0, 1) := by decide +kernel
theorem dX7_isPending_1 : decode cX7_isPending 1 = .ok (.iload_n 1, 1) := by decide +kernel
theorem dX7_isPending_2 : decode cX7_isPending 2 = .ok (.iconst 4, 1) := by decide +kernel
theorem dX7_isPending_3 : decode cX7_isPending 3 = .ok (.invokevirtual 19, 3) := by decide +kernel
theorem dX7_isPending_6 : decode cX7_isPending 6 = .ok (.ifCond .ne 7, 3) := by decide +kernel
theorem dX7_isPending_9 : decode cX7_isPending 9 = .ok (.iconst 1, 1) := by decide +kernel
theorem dX7_isPending_10 : decode cX7_isPending 10 = .ok (.goto 4, 3) := by decide +kernel
theorem dX7_isPending_13 : decode cX7_isPending 13 = .ok (.iconst 0, 1) := by decide +kernel
theorem dX7_isPending_14 : decode cX7_isPending 14 = .ok (.ireturn, 1) := by decide +kernel
theorem dX7_end_0 : decode cX7_end 0 = .ok (.aload_n 0, 1) := by decide +kernel
theorem dX7_end_1 : decode cX7_end 1 = .ok (.getfield 15, 3) := by decide +kernel
theorem dX7_end_4 : decode cX7_end 4 = .ok (.iload_n 1, 1) := by decide +kernel
theorem dX7_end_5 : decode cX7_end 5 = .ok (.iconst 5, 1) := by decide +kernel
theorem dX7_end_6 : decode cX7_end 6 = .ok (.imul, 1) := by decide +kernel
theorem dX7_end_7 : decode cX7_end 7 = .ok (.iconst 4, 1) := by decide +kernel
theorem dX7_end_8 : decode cX7_end 8 = .ok (.iadd, 1) := by decide +kernel
theorem dX7_end_9 : decode cX7_end 9 = .ok (.iload_n 2, 1) := by decide +kernel
theorem dX7_end_10 : decode cX7_end 10 = .ok (.iastore, 1) := by decide +kernel
theorem dX7_end_11 : decode cX7_end 11 = .ok (.return_, 1) := by decide +kernel
theorem dX7_drop_0 : decode cX7_drop 0 = .ok (.aload_n 0, 1) := by decide +kernel
theorem dX7_drop_1 : decode cX7_drop 1 = .ok (.iload_n 1, 1) := by decide +kernel
theorem dX7_drop_2 : decode cX7_drop 2 = .ok (.invokevirtual 23, 3) := by decide +kernel
theorem dX7_drop_5 : decode cX7_drop 5 = .ok (.ifCond .ne 6, 3) := by decide +kernel
theorem dX7_drop_8 : decode cX7_drop 8 = .ok (.bipush (-5), 2) := by decide +kernel
theorem dX7_drop_10 : decode cX7_drop 10 = .ok (.ireturn, 1) := by decide +kernel
theorem dX7_drop_11 : decode cX7_drop 11 = .ok (.aload_n 0, 1) := by decide +kernel
theorem dX7_drop_12 : decode cX7_drop 12 = .ok (.iload_n 1, 1) := by decide +kernel
theorem dX7_drop_13 : decode cX7_drop 13 = .ok (.iconst 2, 1) := by decide +kernel
theorem dX7_drop_14 : decode cX7_drop 14 = .ok (.invokevirtual 27, 3) := by decide +kernel
theorem dX7_drop_17 : decode cX7_drop 17 = .ok (.aload_n 0, 1) := by decide +kernel
theorem dX7_drop_18 : decode cX7_drop 18 = .ok (.invokevirtual 31, 3) := by decide +kernel
theorem dX7_drop_21 : decode cX7_drop 21 = .ok (.ireturn, 1) := by decide +kernel
theorem dX7_prolong_0 : decode cX7_prolong 0 = .ok (.aload_n 0, 1) := by decide +kernel
theorem dX7_prolong_1 : decode cX7_prolong 1 = .ok (.iload_n 1, 1) := by decide +kernel
theorem dX7_prolong_2 : decode cX7_prolong 2 = .ok (.invokevirtual 23, 3) := by decide +kernel
theorem dX7_prolong_5 : decode cX7_prolong 5 = .ok (.ifCond .ne 6, 3) := by decide +kernel
theorem dX7_prolong_8 : decode cX7_prolong 8 = .ok (.bipush (-5), 2) := by decide +kernel
theorem dX7_prolong_10 : decode cX7_prolong 10 = .ok (.ireturn, 1) := by decide +kernel
theorem dX7_prolong_11 : decode cX7_prolong 11 = .ok (.aload_n 0, 1) := by decide +kernel
theorem dX7_prolong_12 : decode cX7_prolong 12 = .ok (.iload_n 1, 1) := by decide +kernel
theorem dX7_prolong_13 : decode cX7_prolong 13 = .ok (.iconst 3, 1) := by decide +kernel
theorem dX7_prolong_14 : decode cX7_prolong 14 = .ok (.invokevirtual 19, 3) := by decide +kernel
theorem dX7_prolong_17 : decode cX7_prolong 17 = .ok (.iload_n 2, 1) := by decide +kernel
theorem dX7_prolong_18 : decode cX7_prolong 18 = .ok (.iadd, 1) := by decide +kernel
theorem dX7_prolong_19 : decode cX7_prolong 19 = .ok (.istore_n 3, 1) := by decide +kernel
theorem dX7_prolong_20 : decode cX7_prolong 20 = .ok (.aload_n 0, 1) := by decide +kernel
theorem dX7_prolong_21 : decode cX7_prolong 21 = .ok (.getfield 15, 3) := by decide +kernel
theorem dX7_prolong_24 : decode cX7_prolong 24 = .ok (.iload_n 1, 1) := by decide +kernel
theorem dX7_prolong_25 : decode cX7_prolong 25 = .ok (.iconst 5, 1) := by decide +kernel
theorem dX7_prolong_26 : decode cX7_prolong 26 = .ok (.imul, 1) := by decide +kernel
theorem dX7_prolong_27 : decode cX7_prolong 27 = .ok (.iconst 3, 1) := by decide +kernel
theorem dX7_prolong_28 : decode cX7_prolong 28 = .ok (.iadd, 1) := by decide +kernel
theorem dX7_prolong_29 : decode cX7_prolong 29 = .ok (.iload_n 3, 1) := by decide +kernel
theorem dX7_prolong_30 : decode cX7_prolong 30 = .ok (.iastore, 1) := by decide +kernel
theorem dX7_prolong_31 : decode cX7_prolong 31 = .ok (.iload_n 3, 1) := by decide +kernel
theorem dX7_prolong_32 : decode cX7_prolong 32 = .ok (.ireturn, 1) := by decide +kernel
theorem dX7_expire_0 : decode cX7_expire 0 = .ok (.iconst 0, 1) := by decide +kernel
theorem dX7_expire_1 : decode cX7_expire 1 = .ok (.istore_n 2, 1) := by decide +kernel
theorem dX7_expire_2 : decode cX7_expire 2 = .ok (.iconst 0, 1) := by decide +kernel
theorem dX7_expire_3 : decode cX7_expire 3 = .ok (.istore_n 3, 1) := by decide +kernel
theorem dX7_expire_4 : decode cX7_expire 4 = .ok (.iload_n 3, 1) := by decide +kernel
theorem dX7_expire_5 : decode cX7_expire 5 = .ok (.aload_n 0, 1) := by decide +kernel
theorem dX7_expire_6 : decode cX7_expire 6 = .ok (.getfield 9, 3) := by decide +kernel
theorem dX7_expire_9 : decode cX7_expire 9 = .ok (.if_icmp .ge 36, 3) := by decide +kernel
theorem dX7_expire_12 : decode cX7_expire 12 = .ok (.aload_n 0, 1) := by decide +kernel
theorem dX7_expire_13 : decode cX7_expire 13 = .ok (.iload_n 3, 1) := by decide +kernel
theorem dX7_expire_14 : decode cX7_expire 14 = .ok (.invokevirtual 23, 3) := by decide +kernel
theorem dX7_expire_17 : decode cX7_expire 17 = .ok (.ifCond .eq 22, 3) := by decide +kernel
theorem dX7_expire_20 : decode cX7_expire 20 = .ok (.aload_n 0, 1) := by decide +kernel
theorem dX7_expire_21 : decode cX7_expire 21 = .ok (.iload_n 3, 1) := by decide +kernel
theorem dX7_expire_22 : decode cX7_expire 22 = .ok (.iconst 3, 1) := by decide +kernel
theorem dX7_expire_23 : decode cX7_expire 23 = .ok (.invokevirtual 19, 3) := by decide +kernel
theorem dX7_expire_26 : decode cX7_expire 26 = .ok (.iload_n 1, 1) := by decide +kernel
theorem dX7_expire_27 : decode cX7_expire 27 = .ok (.if_icmp .gt 12, 3) := by decide +kernel
theorem dX7_expire_30 : decode cX7_expire 30 = .ok (.aload_n 0, 1) := by decide +kernel
theorem dX7_expire_31 : decode cX7_expire 31 = .ok (.iload_n 3, 1) := by decide +kernel
theorem dX7_expire_32 : decode cX7_expire 32 = .ok (.iconst 3, 1) := by decide +kernel
theorem dX7_expire_33 : decode cX7_expire 33 = .ok (.invokevirtual 27, 3) := by decide +kernel
theorem dX7_expire_36 : decode cX7_expire 36 = .ok (.iinc 2 1, 3) := by decide +kernel
theorem dX7_expire_39 : decode cX7_expire 39 = .ok (.iinc 3 1, 3) := by decide +kernel
theorem dX7_expire_42 : decode cX7_expire 42 = .ok (.goto (-38), 3) := by decide +kernel
theorem dX7_expire_45 : decode cX7_expire 45 = .ok (.iload_n 2, 1) := by decide +kernel
theorem dX7_expire_46 : decode cX7_expire 46 = .ok (.ireturn, 1) := by decide +kernel
theorem dX7_pendingCount_0 : decode cX7_pendingCount 0 = .ok (.iconst 0, 1) := by decide +kernel
theorem dX7_pendingCount_1 : decode cX7_pendingCount 1 = .ok (.istore_n 1, 1) := by decide +kernel
theorem dX7_pendingCount_2 : decode cX7_pendingCount 2 = .ok (.iconst 0, 1) := by decide +kernel
theorem dX7_pendingCount_3 : decode cX7_pendingCount 3 = .ok (.istore_n 2, 1) := by decide +kernel
theorem dX7_pendingCount_4 : decode cX7_pendingCount 4 = .ok (.iload_n 2, 1) := by decide +kernel
theorem dX7_pendingCount_5 : decode cX7_pendingCount 5 = .ok (.aload_n 0, 1) := by decide +kernel
theorem dX7_pendingCount_6 : decode cX7_pendingCount 6 = .ok (.getfield 9, 3) := by decide +kernel
theorem dX7_pendingCount_9 : decode cX7_pendingCount 9 = .ok (.if_icmp .ge 20, 3) := by decide +kernel
theorem dX7_pendingCount_12 : decode cX7_pendingCount 12 = .ok (.aload_n 0, 1) := by decide +kernel
theorem dX7_pendingCount_13 : decode cX7_pendingCount 13 = .ok (.iload_n 2, 1) := by decide +kernel
theorem dX7_pendingCount_14 : decode cX7_pendingCount 14 = .ok (.invokevirtual 23, 3) := by decide +kernel
theorem dX7_pendingCount_17 : decode cX7_pendingCount 17 = .ok (.ifCond .eq 6, 3) := by decide +kernel
theorem dX7_pendingCount_20 : decode cX7_pendingCount 20 = .ok (.iinc 1 1, 3) := by decide +kernel
theorem dX7_pendingCount_23 : decode cX7_pendingCount 23 = .ok (.iinc 2 1, 3) := by decide +kernel
theorem dX7_pendingCount_26 : decode cX7_pendingCount 26 = .ok (.goto (-22), 3) := by decide +kernel
theorem dX7_pendingCount_29 : decode cX7_pendingCount 29 = .ok (.iload_n 1, 1) := by decide +kernel
theorem dX7_pendingCount_30 : decode cX7_pendingCount 30 = .ok (.ireturn, 1) := by decide +kernel
theorem dX7_pendingSum_0 : decode cX7_pendingSum 0 = .ok (.iconst 0, 1) := by decide +kernel
theorem dX7_pendingSum_1 : decode cX7_pendingSum 1 = .ok (.istore_n 3, 1) := by decide +kernel
theorem dX7_pendingSum_2 : decode cX7_pendingSum 2 = .ok (.iconst 0, 1) := by decide +kernel
theorem dX7_pendingSum_3 : decode cX7_pendingSum 3 = .ok (.istore 4, 2) := by decide +kernel
theorem dX7_pendingSum_5 : decode cX7_pendingSum 5 = .ok (.iload 4, 2) := by decide +kernel
theorem dX7_pendingSum_7 : decode cX7_pendingSum 7 = .ok (.aload_n 0, 1) := by decide +kernel
theorem dX7_pendingSum_8 : decode cX7_pendingSum 8 = .ok (.getfield 9, 3) := by decide +kernel
theorem dX7_pendingSum_11 : decode cX7_pendingSum 11 = .ok (.if_icmp .ge 52, 3) := by decide +kernel
theorem dX7_pendingSum_14 : decode cX7_pendingSum 14 = .ok (.iload 4, 2) := by decide +kernel
theorem dX7_pendingSum_16 : decode cX7_pendingSum 16 = .ok (.iconst 5, 1) := by decide +kernel
theorem dX7_pendingSum_17 : decode cX7_pendingSum 17 = .ok (.imul, 1) := by decide +kernel
theorem dX7_pendingSum_18 : decode cX7_pendingSum 18 = .ok (.istore 5, 2) := by decide +kernel
theorem dX7_pendingSum_20 : decode cX7_pendingSum 20 = .ok (.aload_n 0, 1) := by decide +kernel
theorem dX7_pendingSum_21 : decode cX7_pendingSum 21 = .ok (.getfield 15, 3) := by decide +kernel
theorem dX7_pendingSum_24 : decode cX7_pendingSum 24 = .ok (.iload 5, 2) := by decide +kernel
theorem dX7_pendingSum_26 : decode cX7_pendingSum 26 = .ok (.iconst 4, 1) := by decide +kernel
theorem dX7_pendingSum_27 : decode cX7_pendingSum 27 = .ok (.iadd, 1) := by decide +kernel
theorem dX7_pendingSum_28 : decode cX7_pendingSum 28 = .ok (.iaload, 1) := by decide +kernel
theorem dX7_pendingSum_29 : decode cX7_pendingSum 29 = .ok (.ifCond .ne 28, 3) := by decide +kernel
theorem dX7_pendingSum_32 : decode cX7_pendingSum 32 = .ok (.aload_n 0, 1) := by decide +kernel
theorem dX7_pendingSum_33 : decode cX7_pendingSum 33 = .ok (.getfield 15, 3) := by decide +kernel
theorem dX7_pendingSum_36 : decode cX7_pendingSum 36 = .ok (.iload 5, 2) := by decide +kernel
theorem dX7_pendingSum_38 : decode cX7_pendingSum 38 = .ok (.iload_n 1, 1) := by decide +kernel
theorem dX7_pendingSum_39 : decode cX7_pendingSum 39 = .ok (.iadd, 1) := by decide +kernel
theorem dX7_pendingSum_40 : decode cX7_pendingSum 40 = .ok (.iaload, 1) := by decide +kernel
theorem dX7_pendingSum_41 : decode cX7_pendingSum 41 = .ok (.iload_n 2, 1) := by decide +kernel
theorem dX7_pendingSum_42 : decode cX7_pendingSum 42 = .ok (.if_icmp .ne 15, 3) := by decide +kernel
theorem dX7_pendingSum_45 : decode cX7_pendingSum 45 = .ok (.iload_n 3, 1) := by decide +kernel
theorem dX7_pendingSum_46 : decode cX7_pendingSum 46 = .ok (.aload_n 0, 1) := by decide +kernel
theorem dX7_pendingSum_47 : decode cX7_pendingSum 47 = .ok (.getfield 15, 3) := by decide +kernel
theorem dX7_pendingSum_50 : decode cX7_pendingSum 50 = .ok (.iload 5, 2) := by decide +kernel
theorem dX7_pendingSum_52 : decode cX7_pendingSum 52 = .ok (.iconst 2, 1) := by decide +kernel
theorem dX7_pendingSum_53 : decode cX7_pendingSum 53 = .ok (.iadd, 1) := by decide +kernel
theorem dX7_pendingSum_54 : decode cX7_pendingSum 54 = .ok (.iaload, 1) := by decide +kernel
theorem dX7_pendingSum_55 : decode cX7_pendingSum 55 = .ok (.iadd, 1) := by decide +kernel
theorem dX7_pendingSum_56 : decode cX7_pendingSum 56 = .ok (.istore_n 3, 1) := by decide +kernel
theorem dX7_pendingSum_57 : decode cX7_pendingSum 57 = .ok (.iinc 4 1, 3) := by decide +kernel
theorem dX7_pendingSum_60 : decode cX7_pendingSum 60 = .ok (.goto (-55), 3) := by decide +kernel
theorem dX7_pendingSum_63 : decode cX7_pendingSum 63 = .ok (.iload_n 3, 1) := by decide +kernel
theorem dX7_pendingSum_64 : decode cX7_pendingSum 64 = .ok (.ireturn, 1) := by decide +kernel
theorem dX7_pendingAfter_0 : decode cX7_pendingAfter 0 = .ok (.iconst 0, 1) := by decide +kernel
theorem dX7_pendingAfter_1 : decode cX7_pendingAfter 1 = .ok (.istore_n 3, 1) := by decide +kernel
theorem dX7_pendingAfter_2 : decode cX7_pendingAfter 2 = .ok (.iconst 0, 1) := by decide +kernel
theorem dX7_pendingAfter_3 : decode cX7_pendingAfter 3 = .ok (.istore 4, 2) := by decide +kernel
theorem dX7_pendingAfter_5 : decode cX7_pendingAfter 5 = .ok (.iload 4, 2) := by decide +kernel
theorem dX7_pendingAfter_7 : decode cX7_pendingAfter 7 = .ok (.aload_n 0, 1) := by decide +kernel
theorem dX7_pendingAfter_8 : decode cX7_pendingAfter 8 = .ok (.getfield 9, 3) := by decide +kernel
theorem dX7_pendingAfter_11 : decode cX7_pendingAfter 11 = .ok (.if_icmp .ge 62, 3) := by decide +kernel
theorem dX7_pendingAfter_14 : decode cX7_pendingAfter 14 = .ok (.aload_n 0, 1) := by decide +kernel
theorem dX7_pendingAfter_15 : decode cX7_pendingAfter 15 = .ok (.iload 4, 2) := by decide +kernel
theorem dX7_pendingAfter_17 : decode cX7_pendingAfter 17 = .ok (.invokevirtual 23, 3) := by decide +kernel
theorem dX7_pendingAfter_20 : decode cX7_pendingAfter 20 = .ok (.ifCond .eq 18, 3) := by decide +kernel
theorem dX7_pendingAfter_23 : decode cX7_pendingAfter 23 = .ok (.aload_n 0, 1) := by decide +kernel
theorem dX7_pendingAfter_24 : decode cX7_pendingAfter 24 = .ok (.iload 4, 2) := by decide +kernel
theorem dX7_pendingAfter_26 : decode cX7_pendingAfter 26 = .ok (.iconst 3, 1) := by decide +kernel
theorem dX7_pendingAfter_27 : decode cX7_pendingAfter 27 = .ok (.invokevirtual 19, 3) := by decide +kernel
theorem dX7_pendingAfter_30 : decode cX7_pendingAfter 30 = .ok (.iload_n 2, 1) := by decide +kernel
theorem dX7_pendingAfter_31 : decode cX7_pendingAfter 31 = .ok (.if_icmp .le 7, 3) := by decide +kernel
theorem dX7_pendingAfter_34 : decode cX7_pendingAfter 34 = .ok (.iconst 1, 1) := by decide +kernel
theorem dX7_pendingAfter_35 : decode cX7_pendingAfter 35 = .ok (.goto 4, 3) := by decide +kernel
theorem dX7_pendingAfter_38 : decode cX7_pendingAfter 38 = .ok (.iconst 0, 1) := by decide +kernel
theorem dX7_pendingAfter_39 : decode cX7_pendingAfter 39 = .ok (.istore 5, 2) := by decide +kernel
theorem dX7_pendingAfter_41 : decode cX7_pendingAfter 41 = .ok (.iload 5, 2) := by decide +kernel
theorem dX7_pendingAfter_43 : decode cX7_pendingAfter 43 = .ok (.ifCond .eq 24, 3) := by decide +kernel
theorem dX7_pendingAfter_46 : decode cX7_pendingAfter 46 = .ok (.aload_n 0, 1) := by decide +kernel
theorem dX7_pendingAfter_47 : decode cX7_pendingAfter 47 = .ok (.iload 4, 2) := by decide +kernel
theorem dX7_pendingAfter_49 : decode cX7_pendingAfter 49 = .ok (.iconst 0, 1) := by decide +kernel
theorem dX7_pendingAfter_50 : decode cX7_pendingAfter 50 = .ok (.invokevirtual 19, 3) := by decide +kernel
theorem dX7_pendingAfter_53 : decode cX7_pendingAfter 53 = .ok (.iload_n 1, 1) := by decide +kernel
theorem dX7_pendingAfter_54 : decode cX7_pendingAfter 54 = .ok (.if_icmp .ne 13, 3) := by decide +kernel
theorem dX7_pendingAfter_57 : decode cX7_pendingAfter 57 = .ok (.iload_n 3, 1) := by decide +kernel
theorem dX7_pendingAfter_58 : decode cX7_pendingAfter 58 = .ok (.aload_n 0, 1) := by decide +kernel
theorem dX7_pendingAfter_59 : decode cX7_pendingAfter 59 = .ok (.iload 4, 2) := by decide +kernel
theorem dX7_pendingAfter_61 : decode cX7_pendingAfter 61 = .ok (.iconst 2, 1) := by decide +kernel
theorem dX7_pendingAfter_62 : decode cX7_pendingAfter 62 = .ok (.invokevirtual 19, 3) := by decide +kernel
theorem dX7_pendingAfter_65 : decode cX7_pendingAfter 65 = .ok (.iadd, 1) := by decide +kernel
theorem dX7_pendingAfter_66 : decode cX7_pendingAfter 66 = .ok (.istore_n 3, 1) := by decide +kernel
theorem dX7_pendingAfter_67 : decode cX7_pendingAfter 67 = .ok (.iinc 4 1, 3) := by decide +kernel
theorem dX7_pendingAfter_70 : decode cX7_pendingAfter 70 = .ok (.goto (-65), 3) := by decide +kernel
theorem dX7_pendingAfter_73 : decode cX7_pendingAfter 73 = .ok (.iload_n 3, 1) := by decide +kernel
theorem dX7_pendingAfter_74 : decode cX7_pendingAfter 74 = .ok (.ireturn, 1) := by decide +kernel
theorem dX7_firstToExpire_0 : decode cX7_firstToExpire 0 = .ok (.iconst (-1), 1) := by decide +kernel
theorem dX7_firstToExpire_1 : decode cX7_firstToExpire 1 = .ok (.istore_n 1, 1) := by decide +kernel
theorem dX7_firstToExpire_2 : decode cX7_firstToExpire 2 = .ok (.iconst 0, 1) := by decide +kernel
theorem dX7_firstToExpire_3 : decode cX7_firstToExpire 3 = .ok (.istore_n 2, 1) := by decide +kernel
theorem dX7_firstToExpire_4 : decode cX7_firstToExpire 4 = .ok (.iload_n 2, 1) := by decide +kernel
theorem dX7_firstToExpire_5 : decode cX7_firstToExpire 5 = .ok (.aload_n 0, 1) := by decide +kernel
theorem dX7_firstToExpire_6 : decode cX7_firstToExpire 6 = .ok (.getfield 9, 3) := by decide +kernel
theorem dX7_firstToExpire_9 : decode cX7_firstToExpire 9 = .ok (.if_icmp .ge 49, 3) := by decide +kernel
theorem dX7_firstToExpire_12 : decode cX7_firstToExpire 12 = .ok (.iload_n 1, 1) := by decide +kernel
theorem dX7_firstToExpire_13 : decode cX7_firstToExpire 13 = .ok (.iconst (-1), 1) := by decide +kernel
theorem dX7_firstToExpire_14 : decode cX7_firstToExpire 14 = .ok (.if_icmp .eq 18, 3) := by decide +kernel
theorem dX7_firstToExpire_17 : decode cX7_firstToExpire 17 = .ok (.aload_n 0, 1) := by decide +kernel
theorem dX7_firstToExpire_18 : decode cX7_firstToExpire 18 = .ok (.iload_n 2, 1) := by decide +kernel
theorem dX7_firstToExpire_19 : decode cX7_firstToExpire 19 = .ok (.iconst 3, 1) := by decide +kernel
theorem dX7_firstToExpire_20 : decode cX7_firstToExpire 20 = .ok (.invokevirtual 19, 3) := by decide +kernel
theorem dX7_firstToExpire_23 : decode cX7_firstToExpire 23 = .ok (.aload_n 0, 1) := by decide +kernel
theorem dX7_firstToExpire_24 : decode cX7_firstToExpire 24 = .ok (.iload_n 1, 1) := by decide +kernel
theorem dX7_firstToExpire_25 : decode cX7_firstToExpire 25 = .ok (.iconst 3, 1) := by decide +kernel
theorem dX7_firstToExpire_26 : decode cX7_firstToExpire 26 = .ok (.invokevirtual 19, 3) := by decide +kernel
theorem dX7_firstToExpire_29 : decode cX7_firstToExpire 29 = .ok (.if_icmp .ge 7, 3) := by decide +kernel
theorem dX7_firstToExpire_32 : decode cX7_firstToExpire 32 = .ok (.iconst 1, 1) := by decide +kernel
theorem dX7_firstToExpire_33 : decode cX7_firstToExpire 33 = .ok (.goto 4, 3) := by decide +kernel
theorem dX7_firstToExpire_36 : decode cX7_firstToExpire 36 = .ok (.iconst 0, 1) := by decide +kernel
theorem dX7_firstToExpire_37 : decode cX7_firstToExpire 37 = .ok (.istore_n 3, 1) := by decide +kernel
theorem dX7_firstToExpire_38 : decode cX7_firstToExpire 38 = .ok (.aload_n 0, 1) := by decide +kernel
theorem dX7_firstToExpire_39 : decode cX7_firstToExpire 39 = .ok (.iload_n 2, 1) := by decide +kernel
theorem dX7_firstToExpire_40 : decode cX7_firstToExpire 40 = .ok (.invokevirtual 23, 3) := by decide +kernel
theorem dX7_firstToExpire_43 : decode cX7_firstToExpire 43 = .ok (.ifCond .eq 9, 3) := by decide +kernel
theorem dX7_firstToExpire_46 : decode cX7_firstToExpire 46 = .ok (.iload_n 3, 1) := by decide +kernel
theorem dX7_firstToExpire_47 : decode cX7_firstToExpire 47 = .ok (.ifCond .eq 5, 3) := by decide +kernel
theorem dX7_firstToExpire_50 : decode cX7_firstToExpire 50 = .ok (.iload_n 2, 1) := by decide +kernel
theorem dX7_firstToExpire_51 : decode cX7_firstToExpire 51 = .ok (.istore_n 1, 1) := by decide +kernel
theorem dX7_firstToExpire_52 : decode cX7_firstToExpire 52 = .ok (.iinc 2 1, 3) := by decide +kernel
theorem dX7_firstToExpire_55 : decode cX7_firstToExpire 55 = .ok (.goto (-51), 3) := by decide +kernel
theorem dX7_firstToExpire_58 : decode cX7_firstToExpire 58 = .ok (.iload_n 1, 1) := by decide +kernel
theorem dX7_firstToExpire_59 : decode cX7_firstToExpire 59 = .ok (.ireturn, 1) := by decide +kernel
theorem dX7_timeOfSum_0 : decode cX7_timeOfSum 0 = .ok (.iconst (-1), 1) := by decide +kernel
theorem dX7_timeOfSum_1 : decode cX7_timeOfSum 1 = .ok (.istore_n 3, 1) := by decide +kernel
theorem dX7_timeOfSum_2 : decode cX7_timeOfSum 2 = .ok (.iconst 0, 1) := by decide +kernel
theorem dX7_timeOfSum_3 : decode cX7_timeOfSum 3 = .ok (.istore 4, 2) := by decide +kernel
theorem dX7_timeOfSum_5 : decode cX7_timeOfSum 5 = .ok (.iload 4, 2) := by decide +kernel
theorem dX7_timeOfSum_7 : decode cX7_timeOfSum 7 = .ok (.aload_n 0, 1) := by decide +kernel
theorem dX7_timeOfSum_8 : decode cX7_timeOfSum 8 = .ok (.getfield 9, 3) := by decide +kernel
theorem dX7_timeOfSum_11 : decode cX7_timeOfSum 11 = .ok (.if_icmp .ge 64, 3) := by decide +kernel
theorem dX7_timeOfSum_14 : decode cX7_timeOfSum 14 = .ok (.aload_n 0, 1) := by decide +kernel
theorem dX7_timeOfSum_15 : decode cX7_timeOfSum 15 = .ok (.iload 4, 2) := by decide +kernel
theorem dX7_timeOfSum_17 : decode cX7_timeOfSum 17 = .ok (.iconst 3, 1) := by decide +kernel
theorem dX7_timeOfSum_18 : decode cX7_timeOfSum 18 = .ok (.invokevirtual 19, 3) := by decide +kernel
theorem dX7_timeOfSum_21 : decode cX7_timeOfSum 21 = .ok (.istore 5, 2) := by decide +kernel
theorem dX7_timeOfSum_23 : decode cX7_timeOfSum 23 = .ok (.iload_n 3, 1) := by decide +kernel
theorem dX7_timeOfSum_24 : decode cX7_timeOfSum 24 = .ok (.iconst (-1), 1) := by decide +kernel
theorem dX7_timeOfSum_25 : decode cX7_timeOfSum 25 = .ok (.if_icmp .eq 9, 3) := by decide +kernel
theorem dX7_timeOfSum_28 : decode cX7_timeOfSum 28 = .ok (.iload 5, 2) := by decide +kernel
theorem dX7_timeOfSum_30 : decode cX7_timeOfSum 30 = .ok (.iload_n 3, 1) := by decide +kernel
theorem dX7_timeOfSum_31 : decode cX7_timeOfSum 31 = .ok (.if_icmp .ge 7, 3) := by decide +kernel
theorem dX7_timeOfSum_34 : decode cX7_timeOfSum 34 = .ok (.iconst 1, 1) := by decide +kernel
theorem dX7_timeOfSum_35 : decode cX7_timeOfSum 35 = .ok (.goto 4, 3) := by decide +kernel
theorem dX7_timeOfSum_38 : decode cX7_timeOfSum 38 = .ok (.iconst 0, 1) := by decide +kernel
theorem dX7_timeOfSum_39 : decode cX7_timeOfSum 39 = .ok (.istore 6, 2) := by decide +kernel
theorem dX7_timeOfSum_41 : decode cX7_timeOfSum 41 = .ok (.aload_n 0, 1) := by decide +kernel
theorem dX7_timeOfSum_42 : decode cX7_timeOfSum 42 = .ok (.iload 4, 2) := by decide +kernel
theorem dX7_timeOfSum_44 : decode cX7_timeOfSum 44 = .ok (.invokevirtual 23, 3) := by decide +kernel
theorem dX7_timeOfSum_47 : decode cX7_timeOfSum 47 = .ok (.ifCond .eq 22, 3) := by decide +kernel
theorem dX7_timeOfSum_50 : decode cX7_timeOfSum 50 = .ok (.iload 6, 2) := by decide +kernel
theorem dX7_timeOfSum_52 : decode cX7_timeOfSum 52 = .ok (.ifCond .eq 17, 3) := by decide +kernel
theorem dX7_timeOfSum_55 : decode cX7_timeOfSum 55 = .ok (.aload_n 0, 1) := by decide +kernel
theorem dX7_timeOfSum_56 : decode cX7_timeOfSum 56 = .ok (.iload_n 1, 1) := by decide +kernel
theorem dX7_timeOfSum_57 : decode cX7_timeOfSum 57 = .ok (.iload 5, 2) := by decide +kernel
theorem dX7_timeOfSum_59 : decode cX7_timeOfSum 59 = .ok (.invokevirtual 35, 3) := by decide +kernel
theorem dX7_timeOfSum_62 : decode cX7_timeOfSum 62 = .ok (.iload_n 2, 1) := by decide +kernel
theorem dX7_timeOfSum_63 : decode cX7_timeOfSum 63 = .ok (.if_icmp .gt 6, 3) := by decide +kernel
theorem dX7_timeOfSum_66 : decode cX7_timeOfSum 66 = .ok (.iload 5, 2) := by decide +kernel
theorem dX7_timeOfSum_68 : decode cX7_timeOfSum 68 = .ok (.istore_n 3, 1) := by decide +kernel
theorem dX7_timeOfSum_69 : decode cX7_timeOfSum 69 = .ok (.iinc 4 1, 3) := by decide +kernel
theorem dX7_timeOfSum_72 : decode cX7_timeOfSum 72 = .ok (.goto (-67), 3) := by decide +kernel
theorem dX7_timeOfSum_75 : decode cX7_timeOfSum 75 = .ok (.iload_n 3, 1) := by decide +kernel
theorem dX7_timeOfSum_76 : decode cX7_timeOfSum 76 = .ok (.ireturn, 1) := by decide +kernel
theorem dX7_copyFrom_0 : decode cX7_copyFrom 0 = .ok (.aload_n 0, 1) := by decide +kernel
theorem dX7_copyFrom_1 : decode cX7_copyFrom 1 = .ok (.aload_n 1, 1) := by decide +kernel
theorem dX7_copyFrom_2 : decode cX7_copyFrom 2 = .ok (.getfield 9, 3) := by decide +kernel
theorem dX7_copyFrom_5 : decode cX7_copyFrom 5 = .ok (.putfield 9, 3) := by decide +kernel
theorem dX7_copyFrom_8 : decode cX7_copyFrom 8 = .ok (.aload_n 1, 1) := by decide +kernel
theorem dX7_copyFrom_9 : decode cX7_copyFrom 9 = .ok (.getfield 15, 3) := by decide +kernel
theorem dX7_copyFrom_12 : decode cX7_copyFrom 12 = .ok (.iconst 0, 1) := by decide +kernel
theorem dX7_copyFrom_13 : decode cX7_copyFrom 13 = .ok (.aload_n 0, 1) := by decide +kernel
theorem dX7_copyFrom_14 : decode cX7_copyFrom 14 = .ok (.getfield 15, 3) := by decide +kernel
theorem dX7_copyFrom_17 : decode cX7_copyFrom 17 = .ok (.iconst 0, 1) := by decide +kernel
theorem dX7_copyFrom_18 : decode cX7_copyFrom 18 = .ok (.sipush 300, 3) := by decide +kernel
theorem dX7_copyFrom_21 : decode cX7_copyFrom 21 = .ok (.invokestatic 38, 3) := by decide +kernel
theorem dX7_copyFrom_24 : decode cX7_copyFrom 24 = .ok (.return_, 1) := by decide +kernel
theorem dX8_init_0 : decode cX8_init 0 = .ok (.aload_n 0, 1) := by decide +kernel
theorem dX8_init_1 : decode cX8_init 1 = .ok (.invokespecial 3, 3) := by decide +kernel
theorem dX8_init_4 : decode cX8_init 4 = .ok (.aload_n 0, 1) := by decide +kernel
theorem dX8_init_5 : decode cX8_init 5 = .ok (.sipush 500, 3) := by decide +kernel
theorem dX8_init_8 : decode cX8_init 8 = .ok (.newarray .int, 2) := by decide +kernel
theorem dX8_init_10 : decode cX8_init 10 = .ok (.putfield 9, 3) := by decide +kernel
theorem dX8_init_13 : decode cX8_init 13 = .ok (.aload_n 0, 1) := by decide +kernel
theorem dX8_init_14 : decode cX8_init 14 = .ok (.iconst 0, 1) := by decide +kernel
theorem dX8_init_15 : decode cX8_init 15 = .ok (.putfield 15, 3) := by decide +kernel
theorem dX8_init_18 : decode cX8_init 18 = .ok (.aload_n 0, 1) := by decide +kernel
theorem dX8_init_19 : decode cX8_init 19 = .ok (.iconst 0, 1) := by decide +kernel
theorem dX8_init_20 : decode cX8_init 20 = .ok (.putfield 19, 3) := by decide +kernel
theorem dX8_init_23 : decode cX8_init 23 = .ok (.aload_n 0, 1) := by decide +kernel
theorem dX8_init_24 : decode cX8_init 24 = .ok (.iconst 0, 1) := by decide +kernel
theorem dX8_init_25 : decode cX8_init 25 = .ok (.putfield 22, 3) := by decide +kernel
theorem dX8_init_28 : decode cX8_init 28 = .ok (.aload_n 0, 1) := by decide +kernel
theorem dX8_init_29 : decode cX8_init 29 = .ok (.iconst 0, 1) := by decide +kernel
theorem dX8_init_30 : decode cX8_init 30 = .ok (.putfield 25, 3) := by decide +kernel
theorem dX8_init_33 : decode cX8_init 33 = .ok (.aload_n 0, 1) := by decide +kernel
theorem dX8_init_34 : decode cX8_init 34 = .ok (.iconst 0, 1) := by decide +kernel
theorem dX8_init_35 : decode cX8_init 35 = .ok (.putfield 28, 3) := by decide +kernel
theorem dX8_init_38 : decode cX8_init 38 = .ok (.aload_n 0, 1) := by decide +kernel
theorem dX8_init_39 : decode cX8_init 39 = .ok (.iconst 0, 1) := by decide +kernel
theorem dX8_init_40 : decode cX8_init 40 = .ok (.putfield 31, 3) := by decide +kernel
theorem dX8_init_43 : decode cX8_init 43 = .ok (.return_, 1) := by decide +kernel
theorem dX8_append_0 : decode cX8_append 0 = .ok (.aload_n 0, 1) := by decide +kernel
theorem dX8_append_1 : decode cX8_append 1 = .ok (.getfield 15, 3) := by decide +kernel
theorem dX8_append_4 : decode cX8_append 4 = .ok (.sipush 500, 3) := by decide +kernel
theorem dX8_append_7 : decode cX8_append 7 = .ok (.if_icmp .lt 6, 3) := by decide +kernel
theorem dX8_append_10 : decode cX8_append 10 = .ok (.bipush (-2), 2) := by decide +kernel
theorem dX8_append_12 : decode cX8_append 12 = .ok (.ireturn, 1) := by decide +kernel
theorem dX8_append_13 : decode cX8_append 13 = .ok (.aload_n 0, 1) := by decide +kernel
theorem dX8_append_14 : decode cX8_append 14 = .ok (.getfield 9, 3) := by decide +kernel
theorem dX8_append_17 : decode cX8_append 17 = .ok (.aload_n 0, 1) := by decide +kernel
theorem dX8_append_18 : decode cX8_append 18 = .ok (.getfield 15, 3) := by decide +kernel
theorem dX8_append_21 : decode cX8_append 21 = .ok (.iload_n 1, 1) := by decide +kernel
theorem dX8_append_22 : decode cX8_append 22 = .ok (.iastore, 1) := by decide +kernel
theorem dX8_append_23 : decode cX8_append 23 = .ok (.aload_n 0, 1) := by decide +kernel
theorem dX8_append_24 : decode cX8_append 24 = .ok (.dup, 1) := by decide +kernel
theorem dX8_append_25 : decode cX8_append 25 = .ok (.getfield 15, 3) := by decide +kernel
theorem dX8_append_28 : decode cX8_append 28 = .ok (.iconst 1, 1) := by decide +kernel
theorem dX8_append_29 : decode cX8_append 29 = .ok (.iadd, 1) := by decide +kernel
theorem dX8_append_30 : decode cX8_append 30 = .ok (.putfield 15, 3) := by decide +kernel
theorem dX8_append_33 : decode cX8_append 33 = .ok (.aload_n 0, 1) := by decide +kernel
theorem dX8_append_34 : decode cX8_append 34 = .ok (.getfield 15, 3) := by decide +kernel
theorem dX8_append_37 : decode cX8_append 37 = .ok (.ireturn, 1) := by decide +kernel
theorem dX8_clear_0 : decode cX8_clear 0 = .ok (.aload_n 0, 1) := by decide +kernel
theorem dX8_clear_1 : decode cX8_clear 1 = .ok (.iconst 0, 1) := by decide +kernel
theorem dX8_clear_2 : decode cX8_clear 2 = .ok (.putfield 15, 3) := by decide +kernel
theorem dX8_clear_5 : decode cX8_clear 5 = .ok (.return_, 1) := by decide +kernel
theorem dX8_rewind_0 : decode cX8_rewind 0 = .ok (.aload_n 0, 1) := by decide +kernel
theorem dX8_rewind_1 : decode cX8_rewind 1 = .ok (.iconst 0, 1) := by decide +kernel
theorem dX8_rewind_2 : decode cX8_rewind 2 = .ok (.putfield 22, 3) := by decide +kernel
theorem dX8_rewind_5 : decode cX8_rewind 5 = .ok (.aload_n 0, 1) := by decide +kernel
theorem dX8_rewind_6 : decode cX8_rewind 6 = .ok (.iconst 0, 1) := by decide +kernel
theorem dX8_rewind_7 : decode cX8_rewind 7 = .ok (.putfield 25, 3) := by decide +kernel
theorem dX8_rewind_10 : decode cX8_rewind 10 = .ok (.aload_n 0, 1) := by decide +kernel
theorem dX8_rewind_11 : decode cX8_rewind 11 = .ok (.iconst 0, 1) := by decide +kernel
theorem dX8_rewind_12 : decode cX8_rewind 12 = .ok (.putfield 28, 3) := by decide +kernel
theorem dX8_rewind_15 : decode cX8_rewind 15 = .ok (.aload_n 0, 1) := by decide +kernel
theorem dX8_rewind_16 : decode cX8_rewind 16 = .ok (.iconst 0, 1) := by decide +kernel
theorem dX8_rewind_17 : decode cX8_rewind 17 = .ok (.putfield 31, 3) := by decide +kernel
theorem dX8_rewind_20 : decode cX8_rewind 20 = .ok (.return_, 1) := by decide +kernel
theorem dX8_fail_0 : decode cX8_fail 0 = .ok (.aload_n 0, 1) := by decide +kernel
theorem dX8_fail_1 : decode cX8_fail 1 = .ok (.iload_n 1, 1) := by decide +kernel
theorem dX8_fail_2 : decode cX8_fail 2 = .ok (.putfield 28, 3) := by decide +kernel
theorem dX8_fail_5 : decode cX8_fail 5 = .ok (.aload_n 0, 1) := by decide +kernel
theorem dX8_fail_6 : decode cX8_fail 6 = .ok (.aload_n 0, 1) := by decide +kernel
theorem dX8_fail_7 : decode cX8_fail 7 = .ok (.getfield 22, 3) := by decide +kernel
theorem dX8_fail_10 : decode cX8_fail 10 = .ok (.putfield 31, 3) := by decide +kernel
theorem dX8_fail_13 : decode cX8_fail 13 = .ok (.iconst 0, 1) := by decide +kernel
theorem dX8_fail_14 : decode cX8_fail 14 = .ok (.ireturn, 1) := by decide +kernel
theorem dX8_readWord_0 : decode cX8_readWord 0 = .ok (.aload_n 0, 1) := by decide +kernel
theorem dX8_readWord_1 : decode cX8_readWord 1 = .ok (.invokevirtual 34, 3) := by decide +kernel
theorem dX8_readWord_4 : decode cX8_readWord 4 = .ok (.aload_n 0, 1) := by decide +kernel
theorem dX8_readWord_5 : decode cX8_readWord 5 = .ok (.getfield 19, 3) := by decide +kernel
theorem dX8_readWord_8 : decode cX8_readWord 8 = .ok (.iconst 1, 1) := by decide +kernel
theorem dX8_readWord_9 : decode cX8_readWord 9 = .ok (.if_icmp .eq 11, 3) := by decide +kernel
theorem dX8_readWord_12 : decode cX8_readWord 12 = .ok (.aload_n 0, 1) := by decide +kernel
theorem dX8_readWord_13 : decode cX8_readWord 13 = .ok (.iconst 1, 1) := by decide +kernel
theorem dX8_readWord_14 : decode cX8_readWord 14 = .ok (.invokevirtual 37, 3) := by decide +kernel
theorem dX8_readWord_17 : decode cX8_readWord 17 = .ok (.ifCond .eq 7, 3) := by decide +kernel
theorem dX8_readWord_20 : decode cX8_readWord 20 = .ok (.iconst 1, 1) := by decide +kernel
theorem dX8_readWord_21 : decode cX8_readWord 21 = .ok (.goto 4, 3) := by decide +kernel
theorem dX8_readWord_24 : decode cX8_readWord 24 = .ok (.iconst 0, 1) := by decide +kernel
theorem dX8_readWord_25 : decode cX8_readWord 25 = .ok (.ireturn, 1) := by decide +kernel
theorem dX8_readSemicolon_0 : decode cX8_readSemicolon 0 = .ok (.aload_n 0, 1) := by decide +kernel
theorem dX8_readSemicolon_1 : decode cX8_readSemicolon 1 = .ok (.invokevirtual 34, 3) := by decide +kernel
theorem dX8_readSemicolon_4 : decode cX8_readSemicolon 4 = .ok (.aload_n 0, 1) := by decide +kernel
theorem dX8_readSemicolon_5 : decode cX8_readSemicolon 5 = .ok (.getfield 19, 3) := by decide +kernel
theorem dX8_readSemicolon_8 : decode cX8_readSemicolon 8 = .ok (.iconst 3, 1) := by decide +kernel
theorem dX8_readSemicolon_9 : decode cX8_readSemicolon 9 = .ok (.if_icmp .ne 7, 3) := by decide +kernel
theorem dX8_readSemicolon_12 : decode cX8_readSemicolon 12 = .ok (.iconst 1, 1) := by decide +kernel
theorem dX8_readSemicolon_13 : decode cX8_readSemicolon 13 = .ok (.goto 4, 3) := by decide +kernel
theorem dX8_readSemicolon_16 : decode cX8_readSemicolon 16 = .ok (.iconst 0, 1) := by decide +kernel
theorem dX8_readSemicolon_17 : decode cX8_readSemicolon 17 = .ok (.ireturn, 1) := by decide +kernel
theorem dX8_isAtEnd_0 : decode cX8_isAtEnd 0 = .ok (.aload_n 0, 1) := by decide +kernel
theorem dX8_isAtEnd_1 : decode cX8_isAtEnd 1 = .ok (.getfield 19, 3) := by decide +kernel
theorem dX8_isAtEnd_4 : decode cX8_isAtEnd 4 = .ok (.ifCond .eq 11, 3) := by decide +kernel
theorem dX8_isAtEnd_7 : decode cX8_isAtEnd 7 = .ok (.aload_n 0, 1) := by decide +kernel
theorem dX8_isAtEnd_8 : decode cX8_isAtEnd 8 = .ok (.iconst 1, 1) := by decide +kernel
theorem dX8_isAtEnd_9 : decode cX8_isAtEnd 9 = .ok (.invokevirtual 37, 3) := by decide +kernel
theorem dX8_isAtEnd_12 : decode cX8_isAtEnd 12 = .ok (.ifCond .eq 7, 3) := by decide +kernel
theorem dX8_isAtEnd_15 : decode cX8_isAtEnd 15 = .ok (.iconst 1, 1) := by decide +kernel
theorem dX8_isAtEnd_16 : decode cX8_isAtEnd 16 = .ok (.goto 4, 3) := by decide +kernel
theorem dX8_isAtEnd_19 : decode cX8_isAtEnd 19 = .ok (.iconst 0, 1) := by decide +kernel
theorem dX8_isAtEnd_20 : decode cX8_isAtEnd 20 = .ok (.ireturn, 1) := by decide +kernel
theorem dX8_readNumber_0 : decode cX8_readNumber 0 = .ok (.aload_n 0, 1) := by decide +kernel
theorem dX8_readNumber_1 : decode cX8_readNumber 1 = .ok (.invokevirtual 34, 3) := by decide +kernel
theorem dX8_readNumber_4 : decode cX8_readNumber 4 = .ok (.aload_n 0, 1) := by decide +kernel
theorem dX8_readNumber_5 : decode cX8_readNumber 5 = .ok (.getfield 19, 3) := by decide +kernel
theorem dX8_readNumber_8 : decode cX8_readNumber 8 = .ok (.iconst 2, 1) := by decide +kernel
theorem dX8_readNumber_9 : decode cX8_readNumber 9 = .ok (.if_icmp .eq 11, 3) := by decide +kernel
theorem dX8_readNumber_12 : decode cX8_readNumber 12 = .ok (.aload_n 0, 1) := by decide +kernel
theorem dX8_readNumber_13 : decode cX8_readNumber 13 = .ok (.iconst 1, 1) := by decide +kernel
theorem dX8_readNumber_14 : decode cX8_readNumber 14 = .ok (.invokevirtual 37, 3) := by decide +kernel
theorem dX8_readNumber_17 : decode cX8_readNumber 17 = .ok (.pop, 1) := by decide +kernel
theorem dX8_readNumber_18 : decode cX8_readNumber 18 = .ok (.iconst (-1), 1) := by decide +kernel
theorem dX8_readNumber_19 : decode cX8_readNumber 19 = .ok (.ireturn, 1) := by decide +kernel
theorem dX8_readNumber_20 : decode cX8_readNumber 20 = .ok (.iconst 0, 1) := by decide +kernel
theorem dX8_readNumber_21 : decode cX8_readNumber 21 = .ok (.istore_n 3, 1) := by decide +kernel
theorem dX8_readNumber_22 : decode cX8_readNumber 22 = .ok (.aload_n 0, 1) := by decide +kernel
theorem dX8_readNumber_23 : decode cX8_readNumber 23 = .ok (.getfield 22, 3) := by decide +kernel
theorem dX8_readNumber_26 : decode cX8_readNumber 26 = .ok (.istore 4, 2) := by decide +kernel
theorem dX8_readNumber_28 : decode cX8_readNumber 28 = .ok (.iload 4, 2) := by decide +kernel
theorem dX8_readNumber_30 : decode cX8_readNumber 30 = .ok (.aload_n 0, 1) := by decide +kernel
theorem dX8_readNumber_31 : decode cX8_readNumber 31 = .ok (.getfield 25, 3) := by decide +kernel
theorem dX8_readNumber_34 : decode cX8_readNumber 34 = .ok (.if_icmp .ge 31, 3) := by decide +kernel
theorem dX8_readNumber_37 : decode cX8_readNumber 37 = .ok (.iload_n 3, 1) := by decide +kernel
theorem dX8_readNumber_38 : decode cX8_readNumber 38 = .ok (.bipush 10, 2) := by decide +kernel
theorem dX8_readNumber_40 : decode cX8_readNumber 40 = .ok (.imul, 1) := by decide +kernel
theorem dX8_readNumber_41 : decode cX8_readNumber 41 = .ok (.aload_n 0, 1) := by decide +kernel
theorem dX8_readNumber_42 : decode cX8_readNumber 42 = .ok (.getfield 9, 3) := by decide +kernel
theorem dX8_readNumber_45 : decode cX8_readNumber 45 = .ok (.iload 4, 2) := by decide +kernel
theorem dX8_readNumber_47 : decode cX8_readNumber 47 = .ok (.iaload, 1) := by decide +kernel
theorem dX8_readNumber_48 : decode cX8_readNumber 48 = .ok (.iadd, 1) := by decide +kernel
theorem dX8_readNumber_49 : decode cX8_readNumber 49 = .ok (.bipush 48, 2) := by decide +kernel
theorem dX8_readNumber_51 : decode cX8_readNumber 51 = .ok (.isub, 1) := by decide +kernel
theorem dX8_readNumber_52 : decode cX8_readNumber 52 = .ok (.sipush 10000, 3) := by decide +kernel
theorem dX8_readNumber_55 : decode cX8_readNumber 55 = .ok (.invokestatic 41, 3) := by decide +kernel
theorem dX8_readNumber_58 : decode cX8_readNumber 58 = .ok (.istore_n 3, 1) := by decide +kernel
theorem dX8_readNumber_59 : decode cX8_readNumber 59 = .ok (.iinc 4 1, 3) := by decide +kernel
theorem dX8_readNumber_62 : decode cX8_readNumber 62 = .ok (.goto (-34), 3) := by decide +kernel
theorem dX8_readNumber_65 : decode cX8_readNumber 65 = .ok (.iload_n 3, 1) := by decide +kernel
theorem dX8_readNumber_66 : decode cX8_readNumber 66 = .ok (.iload_n 1, 1) := by decide +kernel
theorem dX8_readNumber_67 : decode cX8_readNumber 67 = .ok (.if_icmp .lt 8, 3) := by decide +kernel
theorem dX8_readNumber_70 : decode cX8_readNumber 70 = .ok (.iload_n 3, 1) := by decide +kernel
theorem dX8_readNumber_71 : decode cX8_readNumber 71 = .ok (.iload_n 2, 1) := by decide +kernel
theorem dX8_readNumber_72 : decode cX8_readNumber 72 = .ok (.if_icmp .le 11, 3) := by decide +kernel
theorem dX8_readNumber_75 : decode cX8_readNumber 75 = .ok (.aload_n 0, 1) := by decide +kernel
theorem dX8_readNumber_76 : decode cX8_readNumber 76 = .ok (.iconst 2, 1) := by decide +kernel
theorem dX8_readNumber_77 : decode cX8_readNumber 77 = .ok (.invokevirtual 37, 3) := by decide +kernel
theorem dX8_readNumber_80 : decode cX8_readNumber 80 = .ok (.pop, 1) := by decide +kernel
theorem dX8_readNumber_81 : decode cX8_readNumber 81 = .ok (.iconst (-1), 1) := by decide +kernel
theorem dX8_readNumber_82 : decode cX8_readNumber 82 = .ok (.ireturn, 1) := by decide +kernel
theorem dX8_readNumber_83 : decode cX8_readNumber 83 = .ok (.iload_n 3, 1) := by decide +kernel
theorem dX8_readNumber_84 : decode cX8_readNumber 84 = .ok (.ireturn, 1) := by decide +kernel
theorem dX8_isWord_0 : decode cX8_isWord 0 = .ok (.aload_n 0, 1) := by decide +kernel
theorem dX8_isWord_1 : decode cX8_isWord 1 = .ok (.invokevirtual 47, 3) := by decide +kernel
theorem dX8_isWord_4 : decode cX8_isWord 4 = .ok (.aload_n 1, 1) := by decide +kernel
theorem dX8_isWord_5 : decode cX8_isWord 5 = .ok (.invokevirtual 51, 3) := by decide +kernel
theorem dX8_isWord_8 : decode cX8_isWord 8 = .ok (.if_icmp .eq 5, 3) := by decide +kernel
theorem dX8_isWord_11 : decode cX8_isWord 11 = .ok (.iconst 0, 1) := by decide +kernel
theorem dX8_isWord_12 : decode cX8_isWord 12 = .ok (.ireturn, 1) := by decide +kernel
theorem dX8_isWord_13 : decode cX8_isWord 13 = .ok (.iconst 0, 1) := by decide +kernel
theorem dX8_isWord_14 : decode cX8_isWord 14 = .ok (.istore_n 2, 1) := by decide +kernel
theorem dX8_isWord_15 : decode cX8_isWord 15 = .ok (.iload_n 2, 1) := by decide +kernel
theorem dX8_isWord_16 : decode cX8_isWord 16 = .ok (.aload_n 1, 1) := by decide +kernel
theorem dX8_isWord_17 : decode cX8_isWord 17 = .ok (.invokevirtual 51, 3) := by decide +kernel
theorem dX8_isWord_20 : decode cX8_isWord 20 = .ok (.if_icmp .ge 30, 3) := by decide +kernel
theorem dX8_isWord_23 : decode cX8_isWord 23 = .ok (.aload_n 0, 1) := by decide +kernel
theorem dX8_isWord_24 : decode cX8_isWord 24 = .ok (.getfield 9, 3) := by decide +kernel
theorem dX8_isWord_27 : decode cX8_isWord 27 = .ok (.aload_n 0, 1) := by decide +kernel
theorem dX8_isWord_28 : decode cX8_isWord 28 = .ok (.getfield 22, 3) := by decide +kernel
theorem dX8_isWord_31 : decode cX8_isWord 31 = .ok (.iload_n 2, 1) := by decide +kernel
theorem dX8_isWord_32 : decode cX8_isWord 32 = .ok (.iadd, 1) := by decide +kernel
theorem dX8_isWord_33 : decode cX8_isWord 33 = .ok (.iaload, 1) := by decide +kernel
theorem dX8_isWord_34 : decode cX8_isWord 34 = .ok (.aload_n 1, 1) := by decide +kernel
theorem dX8_isWord_35 : decode cX8_isWord 35 = .ok (.iload_n 2, 1) := by decide +kernel
theorem dX8_isWord_36 : decode cX8_isWord 36 = .ok (.invokevirtual 55, 3) := by decide +kernel
theorem dX8_isWord_39 : decode cX8_isWord 39 = .ok (.if_icmp .eq 5, 3) := by decide +kernel
theorem dX8_isWord_42 : decode cX8_isWord 42 = .ok (.iconst 0, 1) := by decide +kernel
theorem dX8_isWord_43 : decode cX8_isWord 43 = .ok (.ireturn, 1) := by decide +kernel
theorem dX8_isWord_44 : decode cX8_isWord 44 = .ok (.iinc 2 1, 3) := by decide +kernel
theorem dX8_isWord_47 : decode cX8_isWord 47 = .ok (.goto (-32), 3) := by decide +kernel
theorem dX8_isWord_50 : decode cX8_isWord 50 = .ok (.iconst 1, 1) := by decide +kernel
theorem dX8_isWord_51 : decode cX8_isWord 51 = .ok (.ireturn, 1) := by decide +kernel
theorem dX8_wordLength_0 : decode cX8_wordLength 0 = .ok (.aload_n 0, 1) := by decide +kernel
theorem dX8_wordLength_1 : decode cX8_wordLength 1 = .ok (.getfield 25, 3) := by decide +kernel
theorem dX8_wordLength_4 : decode cX8_wordLength 4 = .ok (.aload_n 0, 1) := by decide +kernel
theorem dX8_wordLength_5 : decode cX8_wordLength 5 = .ok (.getfield 22, 3) := by decide +kernel
theorem dX8_wordLength_8 : decode cX8_wordLength 8 = .ok (.isub, 1) := by decide +kernel
theorem dX8_wordLength_9 : decode cX8_wordLength 9 = .ok (.ireturn, 1) := by decide +kernel
theorem dX8_next_0 : decode cX8_next 0 = .ok (.aload_n 0, 1) := by decide +kernel
theorem dX8_next_1 : decode cX8_next 1 = .ok (.aload_n 0, 1) := by decide +kernel
theorem dX8_next_2 : decode cX8_next 2 = .ok (.getfield 25, 3) := by decide +kernel
theorem dX8_next_5 : decode cX8_next 5 = .ok (.putfield 22, 3) := by decide +kernel
theorem dX8_next_8 : decode cX8_next 8 = .ok (.aload_n 0, 1) := by decide +kernel
theorem dX8_next_9 : decode cX8_next 9 = .ok (.getfield 22, 3) := by decide +kernel
theorem dX8_next_12 : decode cX8_next 12 = .ok (.aload_n 0, 1) := by decide +kernel
theorem dX8_next_13 : decode cX8_next 13 = .ok (.getfield 15, 3) := by decide +kernel
theorem dX8_next_16 : decode cX8_next 16 = .ok (.if_icmp .ge 30, 3) := by decide +kernel
theorem dX8_next_19 : decode cX8_next 19 = .ok (.aload_n 0, 1) := by decide +kernel
theorem dX8_next_20 : decode cX8_next 20 = .ok (.getfield 9, 3) := by decide +kernel
theorem dX8_next_23 : decode cX8_next 23 = .ok (.aload_n 0, 1) := by decide +kernel
theorem dX8_next_24 : decode cX8_next 24 = .ok (.getfield 22, 3) := by decide +kernel
theorem dX8_next_27 : decode cX8_next 27 = .ok (.iaload, 1) := by decide +kernel
theorem dX8_next_28 : decode cX8_next 28 = .ok (.bipush 32, 2) := by decide +kernel
theorem dX8_next_30 : decode cX8_next 30 = .ok (.if_icmp .ne 16, 3) := by decide +kernel
theorem dX8_next_33 : decode cX8_next 33 = .ok (.aload_n 0, 1) := by decide +kernel
theorem dX8_next_34 : decode cX8_next 34 = .ok (.dup, 1) := by decide +kernel
theorem dX8_next_35 : decode cX8_next 35 = .ok (.getfield 22, 3) := by decide +kernel
theorem dX8_next_38 : decode cX8_next 38 = .ok (.iconst 1, 1) := by decide +kernel
theorem dX8_next_39 : decode cX8_next 39 = .ok (.iadd, 1) := by decide +kernel
theorem dX8_next_40 : decode cX8_next 40 = .ok (.putfield 22, 3) := by decide +kernel
theorem dX8_next_43 : decode cX8_next 43 = .ok (.goto (-35), 3) := by decide +kernel
theorem dX8_next_46 : decode cX8_next 46 = .ok (.aload_n 0, 1) := by decide +kernel
theorem dX8_next_47 : decode cX8_next 47 = .ok (.aload_n 0, 1) := by decide +kernel
theorem dX8_next_48 : decode cX8_next 48 = .ok (.getfield 22, 3) := by decide +kernel
theorem dX8_next_51 : decode cX8_next 51 = .ok (.putfield 25, 3) := by decide +kernel
theorem dX8_next_54 : decode cX8_next 54 = .ok (.aload_n 0, 1) := by decide +kernel
theorem dX8_next_55 : decode cX8_next 55 = .ok (.getfield 25, 3) := by decide +kernel
theorem dX8_next_58 : decode cX8_next 58 = .ok (.aload_n 0, 1) := by decide +kernel
theorem dX8_next_59 : decode cX8_next 59 = .ok (.getfield 15, 3) := by decide +kernel
theorem dX8_next_62 : decode cX8_next 62 = .ok (.if_icmp .ge 44, 3) := by decide +kernel
theorem dX8_next_65 : decode cX8_next 65 = .ok (.aload_n 0, 1) := by decide +kernel
theorem dX8_next_66 : decode cX8_next 66 = .ok (.getfield 9, 3) := by decide +kernel
theorem dX8_next_69 : decode cX8_next 69 = .ok (.aload_n 0, 1) := by decide +kernel
theorem dX8_next_70 : decode cX8_next 70 = .ok (.getfield 25, 3) := by decide +kernel
theorem dX8_next_73 : decode cX8_next 73 = .ok (.iaload, 1) := by decide +kernel
theorem dX8_next_74 : decode cX8_next 74 = .ok (.bipush 97, 2) := by decide +kernel
theorem dX8_next_76 : decode cX8_next 76 = .ok (.if_icmp .lt 30, 3) := by decide +kernel
theorem dX8_next_79 : decode cX8_next 79 = .ok (.aload_n 0, 1) := by decide +kernel
theorem dX8_next_80 : decode cX8_next 80 = .ok (.getfield 9, 3) := by decide +kernel
theorem dX8_next_83 : decode cX8_next 83 = .ok (.aload_n 0, 1) := by decide +kernel
theorem dX8_next_84 : decode cX8_next 84 = .ok (.getfield 25, 3) := by decide +kernel
theorem dX8_next_87 : decode cX8_next 87 = .ok (.iaload, 1) := by decide +kernel
theorem dX8_next_88 : decode cX8_next 88 = .ok (.bipush 122, 2) := by decide +kernel
theorem dX8_next_90 : decode cX8_next 90 = .ok (.if_icmp .gt 16, 3) := by decide +kernel
theorem dX8_next_93 : decode cX8_next 93 = .ok (.aload_n 0, 1) := by decide +kernel
theorem dX8_next_94 : decode cX8_next 94 = .ok (.dup, 1) := by decide +kernel
theorem dX8_next_95 : decode cX8_next 95 = .ok (.getfield 25, 3) := by decide +kernel
theorem dX8_next_98 : decode cX8_next 98 = .ok (.iconst 1, 1) := by decide +kernel
theorem dX8_next_99 : decode cX8_next 99 = .ok (.iadd, 1) := by decide +kernel
theorem dX8_next_100 : decode cX8_next 100 = .ok (.putfield 25, 3) := by decide +kernel
theorem dX8_next_103 : decode cX8_next 103 = .ok (.goto (-49), 3) := by decide +kernel
theorem dX8_next_106 : decode cX8_next 106 = .ok (.aload_n 0, 1) := by decide +kernel
theorem dX8_next_107 : decode cX8_next 107 = .ok (.getfield 25, 3) := by decide +kernel
theorem dX8_next_110 : decode cX8_next 110 = .ok (.aload_n 0, 1) := by decide +kernel
theorem dX8_next_111 : decode cX8_next 111 = .ok (.getfield 22, 3) := by decide +kernel
theorem dX8_next_114 : decode cX8_next 114 = .ok (.if_icmp .le 9, 3) := by decide +kernel
theorem dX8_next_117 : decode cX8_next 117 = .ok (.aload_n 0, 1) := by decide +kernel
theorem dX8_next_118 : decode cX8_next 118 = .ok (.iconst 1, 1) := by decide +kernel
theorem dX8_next_119 : decode cX8_next 119 = .ok (.putfield 19, 3) := by decide +kernel
theorem dX8_next_122 : decode cX8_next 122 = .ok (.return_, 1) := by decide +kernel
theorem dX8_next_123 : decode cX8_next 123 = .ok (.aload_n 0, 1) := by decide +kernel
theorem dX8_next_124 : decode cX8_next 124 = .ok (.getfield 25, 3) := by decide +kernel
theorem dX8_next_127 : decode cX8_next 127 = .ok (.aload_n 0, 1) := by decide +kernel
theorem dX8_next_128 : decode cX8_next 128 = .ok (.getfield 15, 3) := by decide +kernel
theorem dX8_next_131 : decode cX8_next 131 = .ok (.if_icmp .ge 44, 3) := by decide +kernel
theorem dX8_next_134 : decode cX8_next 134 = .ok (.aload_n 0, 1) := by decide +kernel
theorem dX8_next_135 : decode cX8_next 135 = .ok (.getfield 9, 3) := by decide +kernel
theorem dX8_next_138 : decode cX8_next 138 = .ok (.aload_n 0, 1) := by decide +kernel
theorem dX8_next_139 : decode cX8_next 139 = .ok (.getfield 25, 3) := by decide +kernel
theorem dX8_next_142 : decode cX8_next 142 = .ok (.iaload, 1) := by decide +kernel
theorem dX8_next_143 : decode cX8_next 143 = .ok (.bipush 48, 2) := by decide +kernel
theorem dX8_next_145 : decode cX8_next 145 = .ok (.if_icmp .lt 30, 3) := by decide +kernel
theorem dX8_next_148 : decode cX8_next 148 = .ok (.aload_n 0, 1) := by decide +kernel
theorem dX8_next_149 : decode cX8_next 149 = .ok (.getfield 9, 3) := by decide +kernel
theorem dX8_next_152 : decode cX8_next 152 = .ok (.aload_n 0, 1) := by decide +kernel
theorem dX8_next_153 : decode cX8_next 153 = .ok (.getfield 25, 3) := by decide +kernel
theorem dX8_next_156 : decode cX8_next 156 = .ok (.iaload, 1) := by decide +kernel
theorem dX8_next_157 : decode cX8_next 157 = .ok (.bipush 57, 2) := by decide +kernel
theorem dX8_next_159 : decode cX8_next 159 = .ok (.if_icmp .gt 16, 3) := by decide +kernel
theorem dX8_next_162 : decode cX8_next 162 = .ok (.aload_n 0, 1) := by decide +kernel
theorem dX8_next_163 : decode cX8_next 163 = .ok (.dup, 1) := by decide +kernel
theorem dX8_next_164 : decode cX8_next 164 = .ok (.getfield 25, 3) := by decide +kernel
theorem dX8_next_167 : decode cX8_next 167 = .ok (.iconst 1, 1) := by decide +kernel
theorem dX8_next_168 : decode cX8_next 168 = .ok (.iadd, 1) := by decide +kernel
theorem dX8_next_169 : decode cX8_next 169 = .ok (.putfield 25, 3) := by decide +kernel
theorem dX8_next_172 : decode cX8_next 172 = .ok (.goto (-49), 3) := by decide +kernel
theorem dX8_next_175 : decode cX8_next 175 = .ok (.aload_n 0, 1) := by decide +kernel
theorem dX8_next_176 : decode cX8_next 176 = .ok (.getfield 25, 3) := by decide +kernel
theorem dX8_next_179 : decode cX8_next 179 = .ok (.aload_n 0, 1) := by decide +kernel
theorem dX8_next_180 : decode cX8_next 180 = .ok (.getfield 22, 3) := by decide +kernel
theorem dX8_next_183 : decode cX8_next 183 = .ok (.if_icmp .le 9, 3) := by decide +kernel
theorem dX8_next_186 : decode cX8_next 186 = .ok (.aload_n 0, 1) := by decide +kernel
theorem dX8_next_187 : decode cX8_next 187 = .ok (.iconst 2, 1) := by decide +kernel
theorem dX8_next_188 : decode cX8_next 188 = .ok (.putfield 19, 3) := by decide +kernel
theorem dX8_next_191 : decode cX8_next 191 = .ok (.return_, 1) := by decide +kernel
theorem dX8_next_192 : decode cX8_next 192 = .ok (.aload_n 0, 1) := by decide +kernel
theorem dX8_next_193 : decode cX8_next 193 = .ok (.getfield 22, 3) := by decide +kernel
theorem dX8_next_196 : decode cX8_next 196 = .ok (.aload_n 0, 1) := by decide +kernel
theorem dX8_next_197 : decode cX8_next 197 = .ok (.getfield 15, 3) := by decide +kernel
theorem dX8_next_200 : decode cX8_next 200 = .ok (.if_icmp .lt 9, 3) := by decide +kernel
theorem dX8_next_203 : decode cX8_next 203 = .ok (.aload_n 0, 1) := by decide +kernel
theorem dX8_next_204 : decode cX8_next 204 = .ok (.iconst 0, 1) := by decide +kernel
theorem dX8_next_205 : decode cX8_next 205 = .ok (.putfield 19, 3) := by decide +kernel
theorem dX8_next_208 : decode cX8_next 208 = .ok (.return_, 1) := by decide +kernel
theorem dX8_next_209 : decode cX8_next 209 = .ok (.aload_n 0, 1) := by decide +kernel
theorem dX8_next_210 : decode cX8_next 210 = .ok (.aload_n 0, 1) := by decide +kernel
theorem dX8_next_211 : decode cX8_next 211 = .ok (.getfield 9, 3) := by decide +kernel
theorem dX8_next_214 : decode cX8_next 214 = .ok (.aload_n 0, 1) := by decide +kernel
theorem dX8_next_215 : decode cX8_next 215 = .ok (.getfield 22, 3) := by decide +kernel
theorem dX8_next_218 : decode cX8_next 218 = .ok (.iaload, 1) := by decide +kernel
theorem dX8_next_219 : decode cX8_next 219 = .ok (.bipush 59, 2) := by decide +kernel
theorem dX8_next_221 : decode cX8_next 221 = .ok (.if_icmp .ne 7, 3) := by decide +kernel
theorem dX8_next_224 : decode cX8_next 224 = .ok (.iconst 3, 1) := by decide +kernel
theorem dX8_next_225 : decode cX8_next 225 = .ok (.goto 4, 3) := by decide +kernel
theorem dX8_next_228 : decode cX8_next 228 = .ok (.iconst 4, 1) := by decide +kernel
theorem dX8_next_229 : decode cX8_next 229 = .ok (.putfield 19, 3) := by decide +kernel
theorem dX8_next_232 : decode cX8_next 232 = .ok (.aload_n 0, 1) := by decide +kernel
theorem dX8_next_233 : decode cX8_next 233 = .ok (.dup, 1) := by decide +kernel
theorem dX8_next_234 : decode cX8_next 234 = .ok (.getfield 25, 3) := by decide +kernel
theorem dX8_next_237 : decode cX8_next 237 = .ok (.iconst 1, 1) := by decide +kernel
theorem dX8_next_238 : decode cX8_next 238 = .ok (.iadd, 1) := by decide +kernel
theorem dX8_next_239 : decode cX8_next 239 = .ok (.putfield 25, 3) := by decide +kernel
theorem dX8_next_242 : decode cX8_next 242 = .ok (.return_, 1) := by decide +kernel
theorem dX9_init_0 : decode cX9_init 0 = .ok (.aload_n 0, 1) := by decide +kernel
theorem dX9_init_1 : decode cX9_init 1 = .ok (.invokespecial 1, 3) := by decide +kernel
theorem dX9_init_4 : decode cX9_init 4 = .ok (.aload_n 0, 1) := by decide +kernel
theorem dX9_init_5 : decode cX9_init 5 = .ok (.new 7, 3) := by decide +kernel
theorem dX9_init_8 : decode cX9_init 8 = .ok (.dup, 1) := by decide +kernel
theorem dX9_init_9 : decode cX9_init 9 = .ok (.invokespecial 9, 3) := by decide +kernel
theorem dX9_init_12 : decode cX9_init 12 = .ok (.putfield 10, 3) := by decide +kernel
theorem dX9_init_15 : decode cX9_init 15 = .ok (.aload_n 0, 1) := by decide +kernel
theorem dX9_init_16 : decode cX9_init 16 = .ok (.new 16, 3) := by decide +kernel
theorem dX9_init_19 : decode cX9_init 19 = .ok (.dup, 1) := by decide +kernel
theorem dX9_init_20 : decode cX9_init 20 = .ok (.aload_n 0, 1) := by decide +kernel
theorem dX9_init_21 : decode cX9_init 21 = .ok (.getfield 10, 3) := by decide +kernel
theorem dX9_init_24 : decode cX9_init 24 = .ok (.invokespecial 18, 3) := by decide +kernel
theorem dX9_init_27 : decode cX9_init 27 = .ok (.putfield 21, 3) := by decide +kernel
theorem dX9_init_30 : decode cX9_init 30 = .ok (.aload_n 0, 1) := by decide +kernel
theorem dX9_init_31 : decode cX9_init 31 = .ok (.new 25, 3) := by decide +kernel
theorem dX9_init_34 : decode cX9_init 34 = .ok (.dup, 1) := by decide +kernel
theorem dX9_init_35 : decode cX9_init 35 = .ok (.aload_n 0, 1) := by decide +kernel
theorem dX9_init_36 : decode cX9_init 36 = .ok (.getfield 10, 3) := by decide +kernel
theorem dX9_init_39 : decode cX9_init 39 = .ok (.invokespecial 27, 3) := by decide +kernel
theorem dX9_init_42 : decode cX9_init 42 = .ok (.putfield 28, 3) := by decide +kernel
theorem dX9_init_45 : decode cX9_init 45 = .ok (.aload_n 0, 1) := by decide +kernel
theorem dX9_init_46 : decode cX9_init 46 = .ok (.iconst 2, 1) := by decide +kernel
theorem dX9_init_47 : decode cX9_init 47 = .ok (.anewarray 32, 3) := by decide +kernel
theorem dX9_init_50 : decode cX9_init 50 = .ok (.putfield 34, 3) := by decide +kernel
theorem dX9_init_53 : decode cX9_init 53 = .ok (.aload_n 0, 1) := by decide +kernel
theorem dX9_init_54 : decode cX9_init 54 = .ok (.new 32, 3) := by decide +kernel
theorem dX9_init_57 : decode cX9_init 57 = .ok (.dup, 1) := by decide +kernel
theorem dX9_init_58 : decode cX9_init 58 = .ok (.invokespecial 38, 3) := by decide +kernel
theorem dX9_init_61 : decode cX9_init 61 = .ok (.putfield 39, 3) := by decide +kernel
theorem dX9_init_64 : decode cX9_init 64 = .ok (.aload_n 0, 1) := by decide +kernel
theorem dX9_init_65 : decode cX9_init 65 = .ok (.new 32, 3) := by decide +kernel
theorem dX9_init_68 : decode cX9_init 68 = .ok (.dup, 1) := by decide +kernel
theorem dX9_init_69 : decode cX9_init 69 = .ok (.invokespecial 38, 3) := by decide +kernel
theorem dX9_init_72 : decode cX9_init 72 = .ok (.putfield 43, 3) := by decide +kernel
theorem dX9_init_75 : decode cX9_init 75 = .ok (.aload_n 0, 1) := by decide +kernel
theorem dX9_init_76 : decode cX9_init 76 = .ok (.iconst 0, 1) := by decide +kernel
theorem dX9_init_77 : decode cX9_init 77 = .ok (.putfield 46, 3) := by decide +kernel
theorem dX9_init_80 : decode cX9_init 80 = .ok (.aload_n 0, 1) := by decide +kernel
theorem dX9_init_81 : decode cX9_init 81 = .ok (.getfield 39, 3) := by decide +kernel
theorem dX9_init_84 : decode cX9_init 84 = .ok (.bipush 10, 2) := by decide +kernel
theorem dX9_init_86 : decode cX9_init 86 = .ok (.invokevirtual 50, 3) := by decide +kernel
theorem dX9_init_89 : decode cX9_init 89 = .ok (.return_, 1) := by decide +kernel
theorem dX9_appendByte_0 : decode cX9_appendByte 0 = .ok (.iload_n 1, 1) := by decide +kernel
theorem dX9_appendByte_1 : decode cX9_appendByte 1 = .ok (.ifCond .lt 10, 3) := by decide +kernel
theorem dX9_appendByte_4 : decode cX9_appendByte 4 = .ok (.iload_n 1, 1) := by decide +kernel
theorem dX9_appendByte_5 : decode cX9_appendByte 5 = .ok (.sipush 255, 3) := by decide +kernel
theorem dX9_appendByte_8 : decode cX9_appendByte 8 = .ok (.if_icmp .le 13, 3) := by decide +kernel
theorem dX9_appendByte_11 : decode cX9_appendByte 11 = .ok (.new 54, 3) := by decide +kernel
theorem dX9_appendByte_14 : decode cX9_appendByte 14 = .ok (.dup, 1) := by decide +kernel
theorem dX9_appendByte_15 : decode cX9_appendByte 15 = .ok (.ldc 56, 2) := by decide +kernel
theorem dX9_appendByte_17 : decode cX9_appendByte 17 = .ok (.invokespecial 58, 3) := by decide +kernel
theorem dX9_appendByte_20 : decode cX9_appendByte 20 = .ok (.athrow, 1) := by decide +kernel
theorem dX9_appendByte_21 : decode cX9_appendByte 21 = .ok (.aload_n 0, 1) := by decide +kernel
theorem dX9_appendByte_22 : decode cX9_appendByte 22 = .ok (.getfield 10, 3) := by decide +kernel
theorem dX9_appendByte_25 : decode cX9_appendByte 25 = .ok (.iload_n 1, 1) := by decide +kernel
theorem dX9_appendByte_26 : decode cX9_appendByte 26 = .ok (.invokevirtual 61, 3) := by decide +kernel
theorem dX9_appendByte_29 : decode cX9_appendByte 29 = .ok (.ireturn, 1) := by decide +kernel
theorem dX9_load_0 : decode cX9_load 0 = .ok (.aload_n 0, 1) := by decide +kernel
theorem dX9_load_1 : decode cX9_load 1 = .ok (.getfield 21, 3) := by decide +kernel
theorem dX9_load_4 : decode cX9_load 4 = .ok (.aload_n 0, 1) := by decide +kernel
theorem dX9_load_5 : decode cX9_load 5 = .ok (.getfield 43, 3) := by decide +kernel
theorem dX9_load_8 : decode cX9_load 8 = .ok (.invokevirtual 65, 3) := by decide +kernel
theorem dX9_load_11 : decode cX9_load 11 = .ok (.istore_n 1, 1) := by decide +kernel
theorem dX9_load_12 : decode cX9_load 12 = .ok (.aload_n 0, 1) := by decide +kernel
theorem dX9_load_13 : decode cX9_load 13 = .ok (.invokevirtual 69, 3) := by decide +kernel
theorem dX9_load_16 : decode cX9_load 16 = .ok (.istore_n 2, 1) := by decide +kernel
theorem dX9_load_17 : decode cX9_load 17 = .ok (.iload_n 1, 1) := by decide +kernel
theorem dX9_load_18 : decode cX9_load 18 = .ok (.ifCond .ne 5, 3) := by decide +kernel
theorem dX9_load_21 : decode cX9_load 21 = .ok (.iload_n 2, 1) := by decide +kernel
theorem dX9_load_22 : decode cX9_load 22 = .ok (.ireturn, 1) := by decide +kernel
theorem dX9_load_23 : decode cX9_load 23 = .ok (.aload_n 0, 1) := by decide +kernel
theorem dX9_load_24 : decode cX9_load 24 = .ok (.invokevirtual 73, 3) := by decide +kernel
theorem dX9_load_27 : decode cX9_load 27 = .ok (.aload_n 0, 1) := by decide +kernel
theorem dX9_load_28 : decode cX9_load 28 = .ok (.getfield 39, 3) := by decide +kernel
theorem dX9_load_31 : decode cX9_load 31 = .ok (.getfield 76, 3) := by decide +kernel
theorem dX9_load_34 : decode cX9_load 34 = .ok (.getfield 80, 3) := by decide +kernel
theorem dX9_load_37 : decode cX9_load 37 = .ok (.ireturn, 1) := by decide +kernel
theorem dX9_textError_0 : decode cX9_textError 0 = .ok (.aload_n 0, 1) := by decide +kernel
theorem dX9_textError_1 : decode cX9_textError 1 = .ok (.getfield 46, 3) := by decide +kernel
theorem dX9_textError_4 : decode cX9_textError 4 = .ok (.ireturn, 1) := by decide +kernel
theorem dX9_poolNamed_0 : decode cX9_poolNamed 0 = .ok (.aload_n 0, 1) := by decide +kernel
theorem dX9_poolNamed_1 : decode cX9_poolNamed 1 = .ok (.getfield 39, 3) := by decide +kernel
theorem dX9_poolNamed_4 : decode cX9_poolNamed 4 = .ok (.getfield 76, 3) := by decide +kernel
theorem dX9_poolNamed_7 : decode cX9_poolNamed 7 = .ok (.aload_n 0, 1) := by decide +kernel
theorem dX9_poolNamed_8 : decode cX9_poolNamed 8 = .ok (.getfield 10, 3) := by decide +kernel
theorem dX9_poolNamed_11 : decode cX9_poolNamed 11 = .ok (.getfield 85, 3) := by decide +kernel
theorem dX9_poolNamed_14 : decode cX9_poolNamed 14 = .ok (.iconst 0, 1) := by decide +kernel
theorem dX9_poolNamed_15 : decode cX9_poolNamed 15 = .ok (.aload_n 0, 1) := by decide +kernel
theorem dX9_poolNamed_16 : decode cX9_poolNamed 16 = .ok (.getfield 10, 3) := by decide +kernel
theorem dX9_poolNamed_19 : decode cX9_poolNamed 19 = .ok (.getfield 89, 3) := by decide +kernel
theorem dX9_poolNamed_22 : decode cX9_poolNamed 22 = .ok (.invokevirtual 92, 3) := by decide +kernel
theorem dX9_poolNamed_25 : decode cX9_poolNamed 25 = .ok (.istore_n 1, 1) := by decide +kernel
theorem dX9_poolNamed_26 : decode cX9_poolNamed 26 = .ok (.aload_n 0, 1) := by decide +kernel
theorem dX9_poolNamed_27 : decode cX9_poolNamed 27 = .ok (.getfield 10, 3) := by decide +kernel
theorem dX9_poolNamed_30 : decode cX9_poolNamed 30 = .ok (.invokevirtual 96, 3) := by decide +kernel
theorem dX9_poolNamed_33 : decode cX9_poolNamed 33 = .ok (.iload_n 1, 1) := by decide +kernel
theorem dX9_poolNamed_34 : decode cX9_poolNamed 34 = .ok (.ireturn, 1) := by decide +kernel
theorem dX9_batch_0 : decode cX9_batch 0 = .ok (.aload_n 0, 1) := by decide +kernel
theorem dX9_batch_1 : decode cX9_batch 1 = .ok (.getfield 28, 3) := by decide +kernel
theorem dX9_batch_4 : decode cX9_batch 4 = .ok (.aload_n 0, 1) := by decide +kernel
theorem dX9_batch_5 : decode cX9_batch 5 = .ok (.getfield 39, 3) := by decide +kernel
theorem dX9_batch_8 : decode cX9_batch 8 = .ok (.getfield 76, 3) := by decide +kernel
theorem dX9_batch_11 : decode cX9_batch 11 = .ok (.invokevirtual 99, 3) := by decide +kernel
theorem dX9_batch_14 : decode cX9_batch 14 = .ok (.istore_n 1, 1) := by decide +kernel
theorem dX9_batch_15 : decode cX9_batch 15 = .ok (.aload_n 0, 1) := by decide +kernel
theorem dX9_batch_16 : decode cX9_batch 16 = .ok (.invokevirtual 69, 3) := by decide +kernel
theorem dX9_batch_19 : decode cX9_batch 19 = .ok (.istore_n 2, 1) := by decide +kernel
theorem dX9_batch_20 : decode cX9_batch 20 = .ok (.iload_n 1, 1) := by decide +kernel
theorem dX9_batch_21 : decode cX9_batch 21 = .ok (.ifCond .ne 5, 3) := by decide +kernel
theorem dX9_batch_24 : decode cX9_batch 24 = .ok (.iload_n 2, 1) := by decide +kernel
theorem dX9_batch_25 : decode cX9_batch 25 = .ok (.ireturn, 1) := by decide +kernel
theorem dX9_batch_26 : decode cX9_batch 26 = .ok (.aload_n 0, 1) := by decide +kernel
theorem dX9_batch_27 : decode cX9_batch 27 = .ok (.getfield 43, 3) := by decide +kernel
theorem dX9_batch_30 : decode cX9_batch 30 = .ok (.aload_n 0, 1) := by decide +kernel
theorem dX9_batch_31 : decode cX9_batch 31 = .ok (.getfield 39, 3) := by decide +kernel
theorem dX9_batch_34 : decode cX9_batch 34 = .ok (.invokevirtual 103, 3) := by decide +kernel
theorem dX9_batch_37 : decode cX9_batch 37 = .ok (.aload_n 0, 1) := by decide +kernel
theorem dX9_batch_38 : decode cX9_batch 38 = .ok (.getfield 28, 3) := by decide +kernel
theorem dX9_batch_41 : decode cX9_batch 41 = .ok (.aload_n 0, 1) := by decide +kernel
theorem dX9_batch_42 : decode cX9_batch 42 = .ok (.getfield 43, 3) := by decide +kernel
theorem dX9_batch_45 : decode cX9_batch 45 = .ok (.invokevirtual 107, 3) := by decide +kernel
theorem dX9_batch_48 : decode cX9_batch 48 = .ok (.istore_n 3, 1) := by decide +kernel
theorem dX9_batch_49 : decode cX9_batch 49 = .ok (.iload_n 3, 1) := by decide +kernel
theorem dX9_batch_50 : decode cX9_batch 50 = .ok (.aload_n 0, 1) := by decide +kernel
theorem dX9_batch_51 : decode cX9_batch 51 = .ok (.getfield 28, 3) := by decide +kernel
theorem dX9_batch_54 : decode cX9_batch 54 = .ok (.getfield 111, 3) := by decide +kernel
theorem dX9_batch_57 : decode cX9_batch 57 = .ok (.if_icmp .ge 9, 3) := by decide +kernel
theorem dX9_batch_60 : decode cX9_batch 60 = .ok (.sipush (-1000), 3) := by decide +kernel
theorem dX9_batch_63 : decode cX9_batch 63 = .ok (.iload_n 3, 1) := by decide +kernel
theorem dX9_batch_64 : decode cX9_batch 64 = .ok (.isub, 1) := by decide +kernel
theorem dX9_batch_65 : decode cX9_batch 65 = .ok (.ireturn, 1) := by decide +kernel
theorem dX9_batch_66 : decode cX9_batch 66 = .ok (.aload_n 0, 1) := by decide +kernel
theorem dX9_batch_67 : decode cX9_batch 67 = .ok (.invokevirtual 73, 3) := by decide +kernel
theorem dX9_batch_70 : decode cX9_batch 70 = .ok (.iload_n 3, 1) := by decide +kernel
theorem dX9_batch_71 : decode cX9_batch 71 = .ok (.ireturn, 1) := by decide +kernel
theorem dX9_endReading_0 : decode cX9_endReading 0 = .ok (.aload_n 0, 1) := by decide +kernel
theorem dX9_endReading_1 : decode cX9_endReading 1 = .ok (.aload_n 0, 1) := by decide +kernel
theorem dX9_endReading_2 : decode cX9_endReading 2 = .ok (.getfield 10, 3) := by decide +kernel
theorem dX9_endReading_5 : decode cX9_endReading 5 = .ok (.getfield 112, 3) := by decide +kernel
theorem dX9_endReading_8 : decode cX9_endReading 8 = .ok (.putfield 46, 3) := by decide +kernel
theorem dX9_endReading_11 : decode cX9_endReading 11 = .ok (.bipush (-100), 2) := by decide +kernel
theorem dX9_endReading_13 : decode cX9_endReading 13 = .ok (.aload_n 0, 1) := by decide +kernel
theorem dX9_endReading_14 : decode cX9_endReading 14 = .ok (.getfield 10, 3) := by decide +kernel
theorem dX9_endReading_17 : decode cX9_endReading 17 = .ok (.getfield 115, 3) := by decide +kernel
theorem dX9_endReading_20 : decode cX9_endReading 20 = .ok (.isub, 1) := by decide +kernel
theorem dX9_endReading_21 : decode cX9_endReading 21 = .ok (.istore_n 1, 1) := by decide +kernel
theorem dX9_endReading_22 : decode cX9_endReading 22 = .ok (.aload_n 0, 1) := by decide +kernel
theorem dX9_endReading_23 : decode cX9_endReading 23 = .ok (.getfield 10, 3) := by decide +kernel
theorem dX9_endReading_26 : decode cX9_endReading 26 = .ok (.invokevirtual 96, 3) := by decide +kernel
theorem dX9_endReading_29 : decode cX9_endReading 29 = .ok (.iload_n 1, 1) := by decide +kernel
theorem dX9_endReading_30 : decode cX9_endReading 30 = .ok (.ireturn, 1) := by decide +kernel
theorem dX9_useDraft_0 : decode cX9_useDraft 0 = .ok (.aload_n 0, 1) := by decide +kernel
theorem dX9_useDraft_1 : decode cX9_useDraft 1 = .ok (.getfield 39, 3) := by decide +kernel
theorem dX9_useDraft_4 : decode cX9_useDraft 4 = .ok (.astore_n 1, 1) := by decide +kernel
theorem dX9_useDraft_5 : decode cX9_useDraft 5 = .ok (.aload_n 0, 1) := by decide +kernel
theorem dX9_useDraft_6 : decode cX9_useDraft 6 = .ok (.aload_n 0, 1) := by decide +kernel
theorem dX9_useDraft_7 : decode cX9_useDraft 7 = .ok (.getfield 43, 3) := by decide +kernel
theorem dX9_useDraft_10 : decode cX9_useDraft 10 = .ok (.putfield 39, 3) := by decide +kernel
theorem dX9_useDraft_13 : decode cX9_useDraft 13 = .ok (.aload_n 0, 1) := by decide +kernel
theorem dX9_useDraft_14 : decode cX9_useDraft 14 = .ok (.aload_n 1, 1) := by decide +kernel
theorem dX9_useDraft_15 : decode cX9_useDraft 15 = .ok (.putfield 43, 3) := by decide +kernel
theorem dX9_useDraft_18 : decode cX9_useDraft 18 = .ok (.return_, 1) := by decide +kernel
theorem dX9_blockCount_0 : decode cX9_blockCount 0 = .ok (.aload_n 0, 1) := by decide +kernel
theorem dX9_blockCount_1 : decode cX9_blockCount 1 = .ok (.getfield 39, 3) := by decide +kernel
theorem dX9_blockCount_4 : decode cX9_blockCount 4 = .ok (.getfield 118, 3) := by decide +kernel
theorem dX9_blockCount_7 : decode cX9_blockCount 7 = .ok (.getfield 122, 3) := by decide +kernel
theorem dX9_blockCount_10 : decode cX9_blockCount 10 = .ok (.ireturn, 1) := by decide +kernel
theorem dX9_poolCount_0 : decode cX9_poolCount 0 = .ok (.aload_n 0, 1) := by decide +kernel
theorem dX9_poolCount_1 : decode cX9_poolCount 1 = .ok (.getfield 39, 3) := by decide +kernel
theorem dX9_poolCount_4 : decode cX9_poolCount 4 = .ok (.getfield 76, 3) := by decide +kernel
theorem dX9_poolCount_7 : decode cX9_poolCount 7 = .ok (.getfield 80, 3) := by decide +kernel
theorem dX9_poolCount_10 : decode cX9_poolCount 10 = .ok (.ireturn, 1) := by decide +kernel
theorem dX9_nameByte_0 : decode cX9_nameByte 0 = .ok (.aload_n 0, 1) := by decide +kernel
theorem dX9_nameByte_1 : decode cX9_nameByte 1 = .ok (.iload_n 1, 1) := by decide +kernel
theorem dX9_nameByte_2 : decode cX9_nameByte 2 = .ok (.invokevirtual 125, 3) := by decide +kernel
theorem dX9_nameByte_5 : decode cX9_nameByte 5 = .ok (.aload_n 0, 1) := by decide +kernel
theorem dX9_nameByte_6 : decode cX9_nameByte 6 = .ok (.getfield 39, 3) := by decide +kernel
theorem dX9_nameByte_9 : decode cX9_nameByte 9 = .ok (.getfield 76, 3) := by decide +kernel
theorem dX9_nameByte_12 : decode cX9_nameByte 12 = .ok (.iload_n 1, 1) := by decide +kernel
theorem dX9_nameByte_13 : decode cX9_nameByte 13 = .ok (.iload_n 2, 1) := by decide +kernel
theorem dX9_nameByte_14 : decode cX9_nameByte 14 = .ok (.invokevirtual 128, 3) := by decide +kernel
theorem dX9_nameByte_17 : decode cX9_nameByte 17 = .ok (.ireturn, 1) := by decide +kernel
theorem dX9_setPick_0 : decode cX9_setPick 0 = .ok (.iload_n 1, 1) := by decide +kernel
theorem dX9_setPick_1 : decode cX9_setPick 1 = .ok (.ifCond .lt 8, 3) := by decide +kernel
theorem dX9_setPick_4 : decode cX9_setPick 4 = .ok (.iload_n 1, 1) := by decide +kernel
theorem dX9_setPick_5 : decode cX9_setPick 5 = .ok (.iconst 3, 1) := by decide +kernel
theorem dX9_setPick_6 : decode cX9_setPick 6 = .ok (.if_icmp .le 13, 3) := by decide +kernel
theorem dX9_setPick_9 : decode cX9_setPick 9 = .ok (.new 54, 3) := by decide +kernel
theorem dX9_setPick_12 : decode cX9_setPick 12 = .ok (.dup, 1) := by decide +kernel
theorem dX9_setPick_13 : decode cX9_setPick 13 = .ok (.ldc 132, 2) := by decide +kernel
theorem dX9_setPick_15 : decode cX9_setPick 15 = .ok (.invokespecial 58, 3) := by decide +kernel
theorem dX9_setPick_18 : decode cX9_setPick 18 = .ok (.athrow, 1) := by decide +kernel
theorem dX9_setPick_19 : decode cX9_setPick 19 = .ok (.aload_n 0, 1) := by decide +kernel
theorem dX9_setPick_20 : decode cX9_setPick 20 = .ok (.getfield 39, 3) := by decide +kernel
theorem dX9_setPick_23 : decode cX9_setPick 23 = .ok (.getfield 134, 3) := by decide +kernel
theorem dX9_setPick_26 : decode cX9_setPick 26 = .ok (.istore_n 2, 1) := by decide +kernel
theorem dX9_setPick_27 : decode cX9_setPick 27 = .ok (.aload_n 0, 1) := by decide +kernel
theorem dX9_setPick_28 : decode cX9_setPick 28 = .ok (.getfield 39, 3) := by decide +kernel
theorem dX9_setPick_31 : decode cX9_setPick 31 = .ok (.iload_n 1, 1) := by decide +kernel
theorem dX9_setPick_32 : decode cX9_setPick 32 = .ok (.putfield 134, 3) := by decide +kernel
theorem dX9_setPick_35 : decode cX9_setPick 35 = .ok (.iload_n 2, 1) := by decide +kernel
theorem dX9_setPick_36 : decode cX9_setPick 36 = .ok (.ireturn, 1) := by decide +kernel
theorem dX9_now_0 : decode cX9_now 0 = .ok (.aload_n 0, 1) := by decide +kernel
theorem dX9_now_1 : decode cX9_now 1 = .ok (.getfield 39, 3) := by decide +kernel
theorem dX9_now_4 : decode cX9_now 4 = .ok (.getfield 137, 3) := by decide +kernel
theorem dX9_now_7 : decode cX9_now 7 = .ok (.ireturn, 1) := by decide +kernel
theorem dX9_advance_0 : decode cX9_advance 0 = .ok (.iload_n 1, 1) := by decide +kernel
theorem dX9_advance_1 : decode cX9_advance 1 = .ok (.invokestatic 140, 3) := by decide +kernel
theorem dX9_advance_4 : decode cX9_advance 4 = .ok (.aload_n 0, 1) := by decide +kernel
theorem dX9_advance_5 : decode cX9_advance 5 = .ok (.getfield 39, 3) := by decide +kernel
theorem dX9_advance_8 : decode cX9_advance 8 = .ok (.iload_n 1, 1) := by decide +kernel
theorem dX9_advance_9 : decode cX9_advance 9 = .ok (.invokevirtual 143, 3) := by decide +kernel
theorem dX9_advance_12 : decode cX9_advance 12 = .ok (.ireturn, 1) := by decide +kernel
theorem dX9_transfer_0 : decode cX9_transfer 0 = .ok (.aload_n 0, 1) := by decide +kernel
theorem dX9_transfer_1 : decode cX9_transfer 1 = .ok (.iload_n 1, 1) := by decide +kernel
theorem dX9_transfer_2 : decode cX9_transfer 2 = .ok (.iload_n 2, 1) := by decide +kernel
theorem dX9_transfer_3 : decode cX9_transfer 3 = .ok (.invokevirtual 146, 3) := by decide +kernel
theorem dX9_transfer_6 : decode cX9_transfer 6 = .ok (.iload_n 3, 1) := by decide +kernel
theorem dX9_transfer_7 : decode cX9_transfer 7 = .ok (.invokestatic 150, 3) := by decide +kernel
theorem dX9_transfer_10 : decode cX9_transfer 10 = .ok (.iload 4, 2) := by decide +kernel
theorem dX9_transfer_12 : decode cX9_transfer 12 = .ok (.invokestatic 153, 3) := by decide +kernel
theorem dX9_transfer_15 : decode cX9_transfer 15 = .ok (.aload_n 0, 1) := by decide +kernel
theorem dX9_transfer_16 : decode cX9_transfer 16 = .ok (.getfield 39, 3) := by decide +kernel
theorem dX9_transfer_19 : decode cX9_transfer 19 = .ok (.iload_n 1, 1) := by decide +kernel
theorem dX9_transfer_20 : decode cX9_transfer 20 = .ok (.iload_n 2, 1) := by decide +kernel
theorem dX9_transfer_21 : decode cX9_transfer 21 = .ok (.iload_n 3, 1) := by decide +kernel
theorem dX9_transfer_22 : decode cX9_transfer 22 = .ok (.iload 4, 2) := by decide +kernel
theorem dX9_transfer_24 : decode cX9_transfer 24 = .ok (.invokevirtual 156, 3) := by decide +kernel
theorem dX9_transfer_27 : decode cX9_transfer 27 = .ok (.ireturn, 1) := by decide +kernel
theorem dX9_transferBlock_0 : decode cX9_transferBlock 0 = .ok (.aload_n 0, 1) := by decide +kernel
theorem dX9_transferBlock_1 : decode cX9_transferBlock 1 = .ok (.iload_n 1, 1) := by decide +kernel
theorem dX9_transferBlock_2 : decode cX9_transferBlock 2 = .ok (.invokevirtual 160, 3) := by decide +kernel
theorem dX9_transferBlock_5 : decode cX9_transferBlock 5 = .ok (.aload_n 0, 1) := by decide +kernel
theorem dX9_transferBlock_6 : decode cX9_transferBlock 6 = .ok (.iload_n 2, 1) := by decide +kernel
theorem dX9_transferBlock_7 : decode cX9_transferBlock 7 = .ok (.invokevirtual 125, 3) := by decide +kernel
theorem dX9_transferBlock_10 : decode cX9_transferBlock 10 = .ok (.iload_n 3, 1) := by decide +kernel
theorem dX9_transferBlock_11 : decode cX9_transferBlock 11 = .ok (.invokestatic 153, 3) := by decide +kernel
theorem dX9_transferBlock_14 : decode cX9_transferBlock 14 = .ok (.aload_n 0, 1) := by decide +kernel
theorem dX9_transferBlock_15 : decode cX9_transferBlock 15 = .ok (.getfield 39, 3) := by decide +kernel
theorem dX9_transferBlock_18 : decode cX9_transferBlock 18 = .ok (.iload_n 1, 1) := by decide +kernel
theorem dX9_transferBlock_19 : decode cX9_transferBlock 19 = .ok (.iload_n 2, 1) := by decide +kernel
theorem dX9_transferBlock_20 : decode cX9_transferBlock 20 = .ok (.iload_n 3, 1) := by decide +kernel
theorem dX9_transferBlock_21 : decode cX9_transferBlock 21 = .ok (.invokevirtual 163, 3) := by decide +kernel
theorem dX9_transferBlock_24 : decode cX9_transferBlock 24 = .ok (.ireturn, 1) := by decide +kernel
theorem dX9_reverse_0 : decode cX9_reverse 0 = .ok (.aload_n 0, 1) := by decide +kernel
theorem dX9_reverse_1 : decode cX9_reverse 1 = .ok (.iload_n 1, 1) := by decide +kernel
theorem dX9_reverse_2 : decode cX9_reverse 2 = .ok (.invokevirtual 167, 3) := by decide +kernel
theorem dX9_reverse_5 : decode cX9_reverse 5 = .ok (.aload_n 0, 1) := by decide +kernel
theorem dX9_reverse_6 : decode cX9_reverse 6 = .ok (.getfield 39, 3) := by decide +kernel
theorem dX9_reverse_9 : decode cX9_reverse 9 = .ok (.iload_n 1, 1) := by decide +kernel
theorem dX9_reverse_10 : decode cX9_reverse 10 = .ok (.invokevirtual 170, 3) := by decide +kernel
theorem dX9_reverse_13 : decode cX9_reverse 13 = .ok (.ireturn, 1) := by decide +kernel
theorem dX9_largestTransfer_0 : decode cX9_largestTransfer 0 = .ok (.aload_n 0, 1) := by decide +kernel
theorem dX9_largestTransfer_1 : decode cX9_largestTransfer 1 = .ok (.iload_n 1, 1) := by decide +kernel
theorem dX9_largestTransfer_2 : decode cX9_largestTransfer 2 = .ok (.iload_n 2, 1) := by decide +kernel
theorem dX9_largestTransfer_3 : decode cX9_largestTransfer 3 = .ok (.invokevirtual 146, 3) := by decide +kernel
theorem dX9_largestTransfer_6 : decode cX9_largestTransfer 6 = .ok (.iconst 0, 1) := by decide +kernel
theorem dX9_largestTransfer_7 : decode cX9_largestTransfer 7 = .ok (.aload_n 0, 1) := by decide +kernel
theorem dX9_largestTransfer_8 : decode cX9_largestTransfer 8 = .ok (.getfield 39, 3) := by decide +kernel
theorem dX9_largestTransfer_11 : decode cX9_largestTransfer 11 = .ok (.iload_n 1, 1) := by decide +kernel
theorem dX9_largestTransfer_12 : decode cX9_largestTransfer 12 = .ok (.invokevirtual 173, 3) := by decide +kernel
theorem dX9_largestTransfer_15 : decode cX9_largestTransfer 15 = .ok (.aload_n 0, 1) := by decide +kernel
theorem dX9_largestTransfer_16 : decode cX9_largestTransfer 16 = .ok (.getfield 39, 3) := by decide +kernel
theorem dX9_largestTransfer_19 : decode cX9_largestTransfer 19 = .ok (.iload_n 2, 1) := by decide +kernel
theorem dX9_largestTransfer_20 : decode cX9_largestTransfer 20 = .ok (.invokevirtual 176, 3) := by decide +kernel
theorem dX9_largestTransfer_23 : decode cX9_largestTransfer 23 = .ok (.invokestatic 179, 3) := by decide +kernel
theorem dX9_largestTransfer_26 : decode cX9_largestTransfer 26 = .ok (.invokestatic 184, 3) := by decide +kernel
theorem dX9_largestTransfer_29 : decode cX9_largestTransfer 29 = .ok (.ireturn, 1) := by decide +kernel
theorem dX9_reserve_0 : decode cX9_reserve 0 = .ok (.aload_n 0, 1) := by decide +kernel
theorem dX9_reserve_1 : decode cX9_reserve 1 = .ok (.iload_n 1, 1) := by decide +kernel
theorem dX9_reserve_2 : decode cX9_reserve 2 = .ok (.iload_n 2, 1) := by decide +kernel
theorem dX9_reserve_3 : decode cX9_reserve 3 = .ok (.invokevirtual 146, 3) := by decide +kernel
theorem dX9_reserve_6 : decode cX9_reserve 6 = .ok (.iload_n 3, 1) := by decide +kernel
theorem dX9_reserve_7 : decode cX9_reserve 7 = .ok (.invokestatic 150, 3) := by decide +kernel
theorem dX9_reserve_10 : decode cX9_reserve 10 = .ok (.iload 4, 2) := by decide +kernel
theorem dX9_reserve_12 : decode cX9_reserve 12 = .ok (.invokestatic 140, 3) := by decide +kernel
theorem dX9_reserve_15 : decode cX9_reserve 15 = .ok (.aload_n 0, 1) := by decide +kernel
theorem dX9_reserve_16 : decode cX9_reserve 16 = .ok (.getfield 39, 3) := by decide +kernel
theorem dX9_reserve_19 : decode cX9_reserve 19 = .ok (.iload_n 1, 1) := by decide +kernel
theorem dX9_reserve_20 : decode cX9_reserve 20 = .ok (.iload_n 2, 1) := by decide +kernel
theorem dX9_reserve_21 : decode cX9_reserve 21 = .ok (.iload_n 3, 1) := by decide +kernel
theorem dX9_reserve_22 : decode cX9_reserve 22 = .ok (.iload 4, 2) := by decide +kernel
theorem dX9_reserve_24 : decode cX9_reserve 24 = .ok (.invokevirtual 187, 3) := by decide +kernel
theorem dX9_reserve_27 : decode cX9_reserve 27 = .ok (.ireturn, 1) := by decide +kernel
theorem dX9_commit_0 : decode cX9_commit 0 = .ok (.aload_n 0, 1) := by decide +kernel
theorem dX9_commit_1 : decode cX9_commit 1 = .ok (.iload_n 1, 1) := by decide +kernel
theorem dX9_commit_2 : decode cX9_commit 2 = .ok (.invokevirtual 190, 3) := by decide +kernel
theorem dX9_commit_5 : decode cX9_commit 5 = .ok (.iload_n 2, 1) := by decide +kernel
theorem dX9_commit_6 : decode cX9_commit 6 = .ok (.invokestatic 153, 3) := by decide +kernel
theorem dX9_commit_9 : decode cX9_commit 9 = .ok (.aload_n 0, 1) := by decide +kernel
theorem dX9_commit_10 : decode cX9_commit 10 = .ok (.getfield 39, 3) := by decide +kernel
theorem dX9_commit_13 : decode cX9_commit 13 = .ok (.iload_n 1, 1) := by decide +kernel
theorem dX9_commit_14 : decode cX9_commit 14 = .ok (.iload_n 2, 1) := by decide +kernel
theorem dX9_commit_15 : decode cX9_commit 15 = .ok (.invokevirtual 193, 3) := by decide +kernel
theorem dX9_commit_18 : decode cX9_commit 18 = .ok (.ireturn, 1) := by decide +kernel
theorem dX9_release_0 : decode cX9_release 0 = .ok (.aload_n 0, 1) := by decide +kernel
theorem dX9_release_1 : decode cX9_release 1 = .ok (.iload_n 1, 1) := by decide +kernel
theorem dX9_release_2 : decode cX9_release 2 = .ok (.invokevirtual 190, 3) := by decide +kernel
theorem dX9_release_5 : decode cX9_release 5 = .ok (.aload_n 0, 1) := by decide +kernel
theorem dX9_release_6 : decode cX9_release 6 = .ok (.getfield 39, 3) := by decide +kernel
theorem dX9_release_9 : decode cX9_release 9 = .ok (.getfield 196, 3) := by decide +kernel
theorem dX9_release_12 : decode cX9_release 12 = .ok (.iload_n 1, 1) := by decide +kernel
theorem dX9_release_13 : decode cX9_release 13 = .ok (.invokevirtual 200, 3) := by decide +kernel
theorem dX9_release_16 : decode cX9_release 16 = .ok (.ireturn, 1) := by decide +kernel
theorem dX9_extend_0 : decode cX9_extend 0 = .ok (.aload_n 0, 1) := by decide +kernel
theorem dX9_extend_1 : decode cX9_extend 1 = .ok (.iload_n 1, 1) := by decide +kernel
theorem dX9_extend_2 : decode cX9_extend 2 = .ok (.invokevirtual 190, 3) := by decide +kernel
theorem dX9_extend_5 : decode cX9_extend 5 = .ok (.iload_n 2, 1) := by decide +kernel
theorem dX9_extend_6 : decode cX9_extend 6 = .ok (.invokestatic 140, 3) := by decide +kernel
theorem dX9_extend_9 : decode cX9_extend 9 = .ok (.aload_n 0, 1) := by decide +kernel
theorem dX9_extend_10 : decode cX9_extend 10 = .ok (.getfield 39, 3) := by decide +kernel
theorem dX9_extend_13 : decode cX9_extend 13 = .ok (.getfield 196, 3) := by decide +kernel
theorem dX9_extend_16 : decode cX9_extend 16 = .ok (.iload_n 1, 1) := by decide +kernel
theorem dX9_extend_17 : decode cX9_extend 17 = .ok (.iload_n 2, 1) := by decide +kernel
theorem dX9_extend_18 : decode cX9_extend 18 = .ok (.invokevirtual 205, 3) := by decide +kernel
theorem dX9_extend_21 : decode cX9_extend 21 = .ok (.ireturn, 1) := by decide +kernel
theorem dX9_reservationCount_0 : decode cX9_reservationCount 0 = .ok (.aload_n 0, 1) := by decide +kernel
theorem dX9_reservationCount_1 : decode cX9_reservationCount 1 = .ok (.getfield 39, 3) := by decide +kernel
theorem dX9_reservationCount_4 : decode cX9_reservationCount 4 = .ok (.getfield 196, 3) := by decide +kernel
theorem dX9_reservationCount_7 : decode cX9_reservationCount 7 = .ok (.getfield 208, 3) := by decide +kernel
theorem dX9_reservationCount_10 : decode cX9_reservationCount 10 = .ok (.ireturn, 1) := by decide +kernel
theorem dX9_reservationValue_0 : decode cX9_reservationValue 0 = .ok (.aload_n 0, 1) := by decide +kernel
theorem dX9_reservationValue_1 : decode cX9_reservationValue 1 = .ok (.iload_n 1, 1) := by decide +kernel
theorem dX9_reservationValue_2 : decode cX9_reservationValue 2 = .ok (.invokevirtual 190, 3) := by decide +kernel
theorem dX9_reservationValue_5 : decode cX9_reservationValue 5 = .ok (.iload_n 2, 1) := by decide +kernel
theorem dX9_reservationValue_6 : decode cX9_reservationValue 6 = .ok (.ifCond .lt 8, 3) := by decide +kernel
theorem dX9_reservationValue_9 : decode cX9_reservationValue 9 = .ok (.iload_n 2, 1) := by decide +kernel
theorem dX9_reservationValue_10 : decode cX9_reservationValue 10 = .ok (.iconst 5, 1) := by decide +kernel
theorem dX9_reservationValue_11 : decode cX9_reservationValue 11 = .ok (.if_icmp .lt 13, 3) := by decide +kernel
theorem dX9_reservationValue_14 : decode cX9_reservationValue 14 = .ok (.new 54, 3) := by decide +kernel
theorem dX9_reservationValue_17 : decode cX9_reservationValue 17 = .ok (.dup, 1) := by decide +kernel
theorem dX9_reservationValue_18 : decode cX9_reservationValue 18 = .ok (.ldc 209, 2) := by decide +kernel
theorem dX9_reservationValue_20 : decode cX9_reservationValue 20 = .ok (.invokespecial 58, 3) := by decide +kernel
theorem dX9_reservationValue_23 : decode cX9_reservationValue 23 = .ok (.athrow, 1) := by decide +kernel
theorem dX9_reservationValue_24 : decode cX9_reservationValue 24 = .ok (.aload_n 0, 1) := by decide +kernel
theorem dX9_reservationValue_25 : decode cX9_reservationValue 25 = .ok (.getfield 39, 3) := by decide +kernel
theorem dX9_reservationValue_28 : decode cX9_reservationValue 28 = .ok (.getfield 196, 3) := by decide +kernel
theorem dX9_reservationValue_31 : decode cX9_reservationValue 31 = .ok (.iload_n 1, 1) := by decide +kernel
theorem dX9_reservationValue_32 : decode cX9_reservationValue 32 = .ok (.iload_n 2, 1) := by decide +kernel
theorem dX9_reservationValue_33 : decode cX9_reservationValue 33 = .ok (.invokevirtual 211, 3) := by decide +kernel
theorem dX9_reservationValue_36 : decode cX9_reservationValue 36 = .ok (.ireturn, 1) := by decide +kernel
theorem dX9_reservedFrom_0 : decode cX9_reservedFrom 0 = .ok (.aload_n 0, 1) := by decide +kernel
theorem dX9_reservedFrom_1 : decode cX9_reservedFrom 1 = .ok (.iload_n 1, 1) := by decide +kernel
theorem dX9_reservedFrom_2 : decode cX9_reservedFrom 2 = .ok (.invokevirtual 125, 3) := by decide +kernel
theorem dX9_reservedFrom_5 : decode cX9_reservedFrom 5 = .ok (.aload_n 0, 1) := by decide +kernel
theorem dX9_reservedFrom_6 : decode cX9_reservedFrom 6 = .ok (.getfield 39, 3) := by decide +kernel
theorem dX9_reservedFrom_9 : decode cX9_reservedFrom 9 = .ok (.getfield 196, 3) := by decide +kernel
theorem dX9_reservedFrom_12 : decode cX9_reservedFrom 12 = .ok (.iconst 0, 1) := by decide +kernel
theorem dX9_reservedFrom_13 : decode cX9_reservedFrom 13 = .ok (.iload_n 1, 1) := by decide +kernel
theorem dX9_reservedFrom_14 : decode cX9_reservedFrom 14 = .ok (.invokevirtual 214, 3) := by decide +kernel
theorem dX9_reservedFrom_17 : decode cX9_reservedFrom 17 = .ok (.ireturn, 1) := by decide +kernel
theorem dX9_nextExpiry_0 : decode cX9_nextExpiry 0 = .ok (.aload_n 0, 1) := by decide +kernel
theorem dX9_nextExpiry_1 : decode cX9_nextExpiry 1 = .ok (.getfield 39, 3) := by decide +kernel
theorem dX9_nextExpiry_4 : decode cX9_nextExpiry 4 = .ok (.getfield 196, 3) := by decide +kernel
theorem dX9_nextExpiry_7 : decode cX9_nextExpiry 7 = .ok (.invokevirtual 217, 3) := by decide +kernel
theorem dX9_nextExpiry_10 : decode cX9_nextExpiry 10 = .ok (.ireturn, 1) := by decide +kernel
theorem dX9_whenAvailable_0 : decode cX9_whenAvailable 0 = .ok (.aload_n 0, 1) := by decide +kernel
theorem dX9_whenAvailable_1 : decode cX9_whenAvailable 1 = .ok (.iload_n 1, 1) := by decide +kernel
theorem dX9_whenAvailable_2 : decode cX9_whenAvailable 2 = .ok (.invokevirtual 125, 3) := by decide +kernel
theorem dX9_whenAvailable_5 : decode cX9_whenAvailable 5 = .ok (.iload_n 2, 1) := by decide +kernel
theorem dX9_whenAvailable_6 : decode cX9_whenAvailable 6 = .ok (.ifCond .lt 10, 3) := by decide +kernel
theorem dX9_whenAvailable_9 : decode cX9_whenAvailable 9 = .ok (.iload_n 2, 1) := by decide +kernel
theorem dX9_whenAvailable_10 : decode cX9_whenAvailable 10 = .ok (.sipush 200, 3) := by decide +kernel
theorem dX9_whenAvailable_13 : decode cX9_whenAvailable 13 = .ok (.if_icmp .le 13, 3) := by decide +kernel
theorem dX9_whenAvailable_16 : decode cX9_whenAvailable 16 = .ok (.new 54, 3) := by decide +kernel
theorem dX9_whenAvailable_19 : decode cX9_whenAvailable 19 = .ok (.dup, 1) := by decide +kernel
theorem dX9_whenAvailable_20 : decode cX9_whenAvailable 20 = .ok (.ldc 220, 2) := by decide +kernel
theorem dX9_whenAvailable_22 : decode cX9_whenAvailable 22 = .ok (.invokespecial 58, 3) := by decide +kernel
theorem dX9_whenAvailable_25 : decode cX9_whenAvailable 25 = .ok (.athrow, 1) := by decide +kernel
theorem dX9_whenAvailable_26 : decode cX9_whenAvailable 26 = .ok (.aload_n 0, 1) := by decide +kernel
theorem dX9_whenAvailable_27 : decode cX9_whenAvailable 27 = .ok (.getfield 39, 3) := by decide +kernel
theorem dX9_whenAvailable_30 : decode cX9_whenAvailable 30 = .ok (.iload_n 1, 1) := by decide +kernel
theorem dX9_whenAvailable_31 : decode cX9_whenAvailable 31 = .ok (.iload_n 2, 1) := by decide +kernel
theorem dX9_whenAvailable_32 : decode cX9_whenAvailable 32 = .ok (.invokevirtual 222, 3) := by decide +kernel
theorem dX9_whenAvailable_35 : decode cX9_whenAvailable 35 = .ok (.ireturn, 1) := by decide +kernel
theorem dX9_balance_0 : decode cX9_balance 0 = .ok (.aload_n 0, 1) := by decide +kernel
theorem dX9_balance_1 : decode cX9_balance 1 = .ok (.iload_n 1, 1) := by decide +kernel
theorem dX9_balance_2 : decode cX9_balance 2 = .ok (.invokevirtual 125, 3) := by decide +kernel
theorem dX9_balance_5 : decode cX9_balance 5 = .ok (.aload_n 0, 1) := by decide +kernel
theorem dX9_balance_6 : decode cX9_balance 6 = .ok (.getfield 39, 3) := by decide +kernel
theorem dX9_balance_9 : decode cX9_balance 9 = .ok (.getfield 118, 3) := by decide +kernel
theorem dX9_balance_12 : decode cX9_balance 12 = .ok (.iload_n 1, 1) := by decide +kernel
theorem dX9_balance_13 : decode cX9_balance 13 = .ok (.invokevirtual 225, 3) := by decide +kernel
theorem dX9_balance_16 : decode cX9_balance 16 = .ok (.ireturn, 1) := by decide +kernel
theorem dX9_booked_0 : decode cX9_booked 0 = .ok (.aload_n 0, 1) := by decide +kernel
theorem dX9_booked_1 : decode cX9_booked 1 = .ok (.iload_n 1, 1) := by decide +kernel
theorem dX9_booked_2 : decode cX9_booked 2 = .ok (.invokevirtual 125, 3) := by decide +kernel
theorem dX9_booked_5 : decode cX9_booked 5 = .ok (.aload_n 0, 1) := by decide +kernel
theorem dX9_booked_6 : decode cX9_booked 6 = .ok (.getfield 39, 3) := by decide +kernel
theorem dX9_booked_9 : decode cX9_booked 9 = .ok (.iload_n 1, 1) := by decide +kernel
theorem dX9_booked_10 : decode cX9_booked 10 = .ok (.invokevirtual 228, 3) := by decide +kernel
theorem dX9_booked_13 : decode cX9_booked 13 = .ok (.ireturn, 1) := by decide +kernel
theorem dX9_available_0 : decode cX9_available 0 = .ok (.aload_n 0, 1) := by decide +kernel
theorem dX9_available_1 : decode cX9_available 1 = .ok (.iload_n 1, 1) := by decide +kernel
theorem dX9_available_2 : decode cX9_available 2 = .ok (.invokevirtual 125, 3) := by decide +kernel
theorem dX9_available_5 : decode cX9_available 5 = .ok (.aload_n 0, 1) := by decide +kernel
theorem dX9_available_6 : decode cX9_available 6 = .ok (.getfield 39, 3) := by decide +kernel
theorem dX9_available_9 : decode cX9_available 9 = .ok (.iload_n 1, 1) := by decide +kernel
theorem dX9_available_10 : decode cX9_available 10 = .ok (.invokevirtual 173, 3) := by decide +kernel
theorem dX9_available_13 : decode cX9_available 13 = .ok (.ireturn, 1) := by decide +kernel
theorem dX9_room_0 : decode cX9_room 0 = .ok (.aload_n 0, 1) := by decide +kernel
theorem dX9_room_1 : decode cX9_room 1 = .ok (.iload_n 1, 1) := by decide +kernel
theorem dX9_room_2 : decode cX9_room 2 = .ok (.invokevirtual 125, 3) := by decide +kernel
theorem dX9_room_5 : decode cX9_room 5 = .ok (.aload_n 0, 1) := by decide +kernel
theorem dX9_room_6 : decode cX9_room 6 = .ok (.getfield 39, 3) := by decide +kernel
theorem dX9_room_9 : decode cX9_room 9 = .ok (.iload_n 1, 1) := by decide +kernel
theorem dX9_room_10 : decode cX9_room 10 = .ok (.invokevirtual 176, 3) := by decide +kernel
theorem dX9_room_13 : decode cX9_room 13 = .ok (.ireturn, 1) := by decide +kernel
theorem dX9_poolOf_0 : decode cX9_poolOf 0 = .ok (.aload_n 0, 1) := by decide +kernel
theorem dX9_poolOf_1 : decode cX9_poolOf 1 = .ok (.iload_n 1, 1) := by decide +kernel
theorem dX9_poolOf_2 : decode cX9_poolOf 2 = .ok (.invokevirtual 160, 3) := by decide +kernel
theorem dX9_poolOf_5 : decode cX9_poolOf 5 = .ok (.aload_n 0, 1) := by decide +kernel
theorem dX9_poolOf_6 : decode cX9_poolOf 6 = .ok (.getfield 39, 3) := by decide +kernel
theorem dX9_poolOf_9 : decode cX9_poolOf 9 = .ok (.getfield 118, 3) := by decide +kernel
theorem dX9_poolOf_12 : decode cX9_poolOf 12 = .ok (.getfield 231, 3) := by decide +kernel
theorem dX9_poolOf_15 : decode cX9_poolOf 15 = .ok (.iload_n 1, 1) := by decide +kernel
theorem dX9_poolOf_16 : decode cX9_poolOf 16 = .ok (.iaload, 1) := by decide +kernel
theorem dX9_poolOf_17 : decode cX9_poolOf 17 = .ok (.ireturn, 1) := by decide +kernel
theorem dX9_since_0 : decode cX9_since 0 = .ok (.aload_n 0, 1) := by decide +kernel
theorem dX9_since_1 : decode cX9_since 1 = .ok (.iload_n 1, 1) := by decide +kernel
theorem dX9_since_2 : decode cX9_since 2 = .ok (.invokevirtual 160, 3) := by decide +kernel
theorem dX9_since_5 : decode cX9_since 5 = .ok (.aload_n 0, 1) := by decide +kernel
theorem dX9_since_6 : decode cX9_since 6 = .ok (.getfield 39, 3) := by decide +kernel
theorem dX9_since_9 : decode cX9_since 9 = .ok (.getfield 118, 3) := by decide +kernel
theorem dX9_since_12 : decode cX9_since 12 = .ok (.getfield 233, 3) := by decide +kernel
theorem dX9_since_15 : decode cX9_since 15 = .ok (.iload_n 1, 1) := by decide +kernel
theorem dX9_since_16 : decode cX9_since 16 = .ok (.iaload, 1) := by decide +kernel
theorem dX9_since_17 : decode cX9_since 17 = .ok (.ireturn, 1) := by decide +kernel
theorem dX9_blockAt_0 : decode cX9_blockAt 0 = .ok (.aload_n 0, 1) := by decide +kernel
theorem dX9_blockAt_1 : decode cX9_blockAt 1 = .ok (.iload_n 1, 1) := by decide +kernel
theorem dX9_blockAt_2 : decode cX9_blockAt 2 = .ok (.invokevirtual 125, 3) := by decide +kernel
theorem dX9_blockAt_5 : decode cX9_blockAt 5 = .ok (.aload_n 0, 1) := by decide +kernel
theorem dX9_blockAt_6 : decode cX9_blockAt 6 = .ok (.getfield 39, 3) := by decide +kernel
theorem dX9_blockAt_9 : decode cX9_blockAt 9 = .ok (.getfield 118, 3) := by decide +kernel
theorem dX9_blockAt_12 : decode cX9_blockAt 12 = .ok (.iload_n 1, 1) := by decide +kernel
theorem dX9_blockAt_13 : decode cX9_blockAt 13 = .ok (.iload_n 2, 1) := by decide +kernel
theorem dX9_blockAt_14 : decode cX9_blockAt 14 = .ok (.invokevirtual 236, 3) := by decide +kernel
theorem dX9_blockAt_17 : decode cX9_blockAt 17 = .ok (.ireturn, 1) := by decide +kernel
theorem dX9_wouldPick_0 : decode cX9_wouldPick 0 = .ok (.aload_n 0, 1) := by decide +kernel
theorem dX9_wouldPick_1 : decode cX9_wouldPick 1 = .ok (.iload_n 1, 1) := by decide +kernel
theorem dX9_wouldPick_2 : decode cX9_wouldPick 2 = .ok (.invokevirtual 125, 3) := by decide +kernel
theorem dX9_wouldPick_5 : decode cX9_wouldPick 5 = .ok (.iload_n 2, 1) := by decide +kernel
theorem dX9_wouldPick_6 : decode cX9_wouldPick 6 = .ok (.invokestatic 150, 3) := by decide +kernel
theorem dX9_wouldPick_9 : decode cX9_wouldPick 9 = .ok (.aload_n 0, 1) := by decide +kernel
theorem dX9_wouldPick_10 : decode cX9_wouldPick 10 = .ok (.getfield 39, 3) := by decide +kernel
theorem dX9_wouldPick_13 : decode cX9_wouldPick 13 = .ok (.getfield 118, 3) := by decide +kernel
theorem dX9_wouldPick_16 : decode cX9_wouldPick 16 = .ok (.iload_n 1, 1) := by decide +kernel
theorem dX9_wouldPick_17 : decode cX9_wouldPick 17 = .ok (.invokevirtual 225, 3) := by decide +kernel
theorem dX9_wouldPick_20 : decode cX9_wouldPick 20 = .ok (.iload_n 2, 1) := by decide +kernel
theorem dX9_wouldPick_21 : decode cX9_wouldPick 21 = .ok (.if_icmp .ge 5, 3) := by decide +kernel
theorem dX9_wouldPick_24 : decode cX9_wouldPick 24 = .ok (.iconst (-1), 1) := by decide +kernel
theorem dX9_wouldPick_25 : decode cX9_wouldPick 25 = .ok (.ireturn, 1) := by decide +kernel
theorem dX9_wouldPick_26 : decode cX9_wouldPick 26 = .ok (.aload_n 0, 1) := by decide +kernel
theorem dX9_wouldPick_27 : decode cX9_wouldPick 27 = .ok (.getfield 39, 3) := by decide +kernel
theorem dX9_wouldPick_30 : decode cX9_wouldPick 30 = .ok (.getfield 118, 3) := by decide +kernel
theorem dX9_wouldPick_33 : decode cX9_wouldPick 33 = .ok (.aload_n 0, 1) := by decide +kernel
theorem dX9_wouldPick_34 : decode cX9_wouldPick 34 = .ok (.getfield 39, 3) := by decide +kernel
theorem dX9_wouldPick_37 : decode cX9_wouldPick 37 = .ok (.getfield 134, 3) := by decide +kernel
theorem dX9_wouldPick_40 : decode cX9_wouldPick 40 = .ok (.iload_n 1, 1) := by decide +kernel
theorem dX9_wouldPick_41 : decode cX9_wouldPick 41 = .ok (.iload_n 2, 1) := by decide +kernel
theorem dX9_wouldPick_42 : decode cX9_wouldPick 42 = .ok (.invokevirtual 239, 3) := by decide +kernel
theorem dX9_wouldPick_45 : decode cX9_wouldPick 45 = .ok (.aload_n 0, 1) := by decide +kernel
theorem dX9_wouldPick_46 : decode cX9_wouldPick 46 = .ok (.getfield 39, 3) := by decide +kernel
theorem dX9_wouldPick_49 : decode cX9_wouldPick 49 = .ok (.getfield 118, 3) := by decide +kernel
theorem dX9_wouldPick_52 : decode cX9_wouldPick 52 = .ok (.iload_n 3, 1) := by decide +kernel
theorem dX9_wouldPick_53 : decode cX9_wouldPick 53 = .ok (.invokevirtual 243, 3) := by decide +kernel
theorem dX9_wouldPick_56 : decode cX9_wouldPick 56 = .ok (.ireturn, 1) := by decide +kernel
theorem dX9_runCount_0 : decode cX9_runCount 0 = .ok (.aload_n 0, 1) := by decide +kernel
theorem dX9_runCount_1 : decode cX9_runCount 1 = .ok (.iload_n 1, 1) := by decide +kernel
theorem dX9_runCount_2 : decode cX9_runCount 2 = .ok (.invokevirtual 125, 3) := by decide +kernel
theorem dX9_runCount_5 : decode cX9_runCount 5 = .ok (.aload_n 0, 1) := by decide +kernel
theorem dX9_runCount_6 : decode cX9_runCount 6 = .ok (.getfield 39, 3) := by decide +kernel
theorem dX9_runCount_9 : decode cX9_runCount 9 = .ok (.getfield 118, 3) := by decide +kernel
theorem dX9_runCount_12 : decode cX9_runCount 12 = .ok (.iload_n 1, 1) := by decide +kernel
theorem dX9_runCount_13 : decode cX9_runCount 13 = .ok (.invokevirtual 246, 3) := by decide +kernel
theorem dX9_runCount_16 : decode cX9_runCount 16 = .ok (.ireturn, 1) := by decide +kernel
theorem dX9_longestRun_0 : decode cX9_longestRun 0 = .ok (.aload_n 0, 1) := by decide +kernel
theorem dX9_longestRun_1 : decode cX9_longestRun 1 = .ok (.iload_n 1, 1) := by decide +kernel
theorem dX9_longestRun_2 : decode cX9_longestRun 2 = .ok (.invokevirtual 125, 3) := by decide +kernel
theorem dX9_longestRun_5 : decode cX9_longestRun 5 = .ok (.aload_n 0, 1) := by decide +kernel
theorem dX9_longestRun_6 : decode cX9_longestRun 6 = .ok (.getfield 39, 3) := by decide +kernel
theorem dX9_longestRun_9 : decode cX9_longestRun 9 = .ok (.getfield 118, 3) := by decide +kernel
theorem dX9_longestRun_12 : decode cX9_longestRun 12 = .ok (.iload_n 1, 1) := by decide +kernel
theorem dX9_longestRun_13 : decode cX9_longestRun 13 = .ok (.invokevirtual 249, 3) := by decide +kernel
theorem dX9_longestRun_16 : decode cX9_longestRun 16 = .ok (.ireturn, 1) := by decide +kernel
theorem dX9_fragmentation_0 : decode cX9_fragmentation 0 = .ok (.aload_n 0, 1) := by decide +kernel
theorem dX9_fragmentation_1 : decode cX9_fragmentation 1 = .ok (.iload_n 1, 1) := by decide +kernel
theorem dX9_fragmentation_2 : decode cX9_fragmentation 2 = .ok (.invokevirtual 125, 3) := by decide +kernel
theorem dX9_fragmentation_5 : decode cX9_fragmentation 5 = .ok (.aload_n 0, 1) := by decide +kernel
theorem dX9_fragmentation_6 : decode cX9_fragmentation 6 = .ok (.getfield 39, 3) := by decide +kernel
theorem dX9_fragmentation_9 : decode cX9_fragmentation 9 = .ok (.getfield 118, 3) := by decide +kernel
theorem dX9_fragmentation_12 : decode cX9_fragmentation 12 = .ok (.iload_n 1, 1) := by decide +kernel
theorem dX9_fragmentation_13 : decode cX9_fragmentation 13 = .ok (.invokevirtual 225, 3) := by decide +kernel
theorem dX9_fragmentation_16 : decode cX9_fragmentation 16 = .ok (.istore_n 2, 1) := by decide +kernel
theorem dX9_fragmentation_17 : decode cX9_fragmentation 17 = .ok (.iload_n 2, 1) := by decide +kernel
theorem dX9_fragmentation_18 : decode cX9_fragmentation 18 = .ok (.ifCond .ne 5, 3) := by decide +kernel
theorem dX9_fragmentation_21 : decode cX9_fragmentation 21 = .ok (.fconst 0, 1) := by decide +kernel
theorem dX9_fragmentation_22 : decode cX9_fragmentation 22 = .ok (.freturn, 1) := by decide +kernel
theorem dX9_fragmentation_23 : decode cX9_fragmentation 23 = .ok (.fconst 1, 1) := by decide +kernel
theorem dX9_fragmentation_24 : decode cX9_fragmentation 24 = .ok (.aload_n 0, 1) := by decide +kernel
theorem dX9_fragmentation_25 : decode cX9_fragmentation 25 = .ok (.getfield 39, 3) := by decide +kernel
theorem dX9_fragmentation_28 : decode cX9_fragmentation 28 = .ok (.getfield 118, 3) := by decide +kernel
theorem dX9_fragmentation_31 : decode cX9_fragmentation 31 = .ok (.iload_n 1, 1) := by decide +kernel
theorem dX9_fragmentation_32 : decode cX9_fragmentation 32 = .ok (.invokevirtual 249, 3) := by decide +kernel
theorem dX9_fragmentation_35 : decode cX9_fragmentation 35 = .ok (.i2f, 1) := by decide +kernel
theorem dX9_fragmentation_36 : decode cX9_fragmentation 36 = .ok (.iload_n 2, 1) := by decide +kernel
theorem dX9_fragmentation_37 : decode cX9_fragmentation 37 = .ok (.i2f, 1) := by decide +kernel
theorem dX9_fragmentation_38 : decode cX9_fragmentation 38 = .ok (.fdiv, 1) := by decide +kernel
theorem dX9_fragmentation_39 : decode cX9_fragmentation 39 = .ok (.fsub, 1) := by decide +kernel
theorem dX9_fragmentation_40 : decode cX9_fragmentation 40 = .ok (.freturn, 1) := by decide +kernel
theorem dX9_swap_0 : decode cX9_swap 0 = .ok (.aload_n 0, 1) := by decide +kernel
theorem dX9_swap_1 : decode cX9_swap 1 = .ok (.iload_n 1, 1) := by decide +kernel
theorem dX9_swap_2 : decode cX9_swap 2 = .ok (.invokevirtual 160, 3) := by decide +kernel
theorem dX9_swap_5 : decode cX9_swap 5 = .ok (.aload_n 0, 1) := by decide +kernel
theorem dX9_swap_6 : decode cX9_swap 6 = .ok (.iload_n 2, 1) := by decide +kernel
theorem dX9_swap_7 : decode cX9_swap 7 = .ok (.invokevirtual 160, 3) := by decide +kernel
theorem dX9_swap_10 : decode cX9_swap 10 = .ok (.iload_n 1, 1) := by decide +kernel
theorem dX9_swap_11 : decode cX9_swap 11 = .ok (.iload_n 2, 1) := by decide +kernel
theorem dX9_swap_12 : decode cX9_swap 12 = .ok (.if_icmp .ne 13, 3) := by decide +kernel
theorem dX9_swap_15 : decode cX9_swap 15 = .ok (.new 54, 3) := by decide +kernel
theorem dX9_swap_18 : decode cX9_swap 18 = .ok (.dup, 1) := by decide +kernel
theorem dX9_swap_19 : decode cX9_swap 19 = .ok (.ldc 252, 2) := by decide +kernel
theorem dX9_swap_21 : decode cX9_swap 21 = .ok (.invokespecial 58, 3) := by decide +kernel
theorem dX9_swap_24 : decode cX9_swap 24 = .ok (.athrow, 1) := by decide +kernel
theorem dX9_swap_25 : decode cX9_swap 25 = .ok (.aload_n 0, 1) := by decide +kernel
theorem dX9_swap_26 : decode cX9_swap 26 = .ok (.getfield 39, 3) := by decide +kernel
theorem dX9_swap_29 : decode cX9_swap 29 = .ok (.getfield 118, 3) := by decide +kernel
theorem dX9_swap_32 : decode cX9_swap 32 = .ok (.iload_n 1, 1) := by decide +kernel
theorem dX9_swap_33 : decode cX9_swap 33 = .ok (.iload_n 2, 1) := by decide +kernel
theorem dX9_swap_34 : decode cX9_swap 34 = .ok (.invokevirtual 254, 3) := by decide +kernel
theorem dX9_swap_37 : decode cX9_swap 37 = .ok (.ireturn, 1) := by decide +kernel
theorem dX9_bestSwap_0 : decode cX9_bestSwap 0 = .ok (.aload_n 0, 1) := by decide +kernel
theorem dX9_bestSwap_1 : decode cX9_bestSwap 1 = .ok (.iload_n 1, 1) := by decide +kernel
theorem dX9_bestSwap_2 : decode cX9_bestSwap 2 = .ok (.invokevirtual 125, 3) := by decide +kernel
theorem dX9_bestSwap_5 : decode cX9_bestSwap 5 = .ok (.aload_n 0, 1) := by decide +kernel
theorem dX9_bestSwap_6 : decode cX9_bestSwap 6 = .ok (.getfield 39, 3) := by decide +kernel
theorem dX9_bestSwap_9 : decode cX9_bestSwap 9 = .ok (.getfield 118, 3) := by decide +kernel
theorem dX9_bestSwap_12 : decode cX9_bestSwap 12 = .ok (.iload_n 1, 1) := by decide +kernel
theorem dX9_bestSwap_13 : decode cX9_bestSwap 13 = .ok (.invokevirtual 258, 3) := by decide +kernel
theorem dX9_bestSwap_16 : decode cX9_bestSwap 16 = .ok (.ireturn, 1) := by decide +kernel
theorem dX9_corrupt_0 : decode cX9_corrupt 0 = .ok (.aload_n 0, 1) := by decide +kernel
theorem dX9_corrupt_1 : decode cX9_corrupt 1 = .ok (.iload_n 1, 1) := by decide +kernel
theorem dX9_corrupt_2 : decode cX9_corrupt 2 = .ok (.invokevirtual 160, 3) := by decide +kernel
theorem dX9_corrupt_5 : decode cX9_corrupt 5 = .ok (.aload_n 0, 1) := by decide +kernel
theorem dX9_corrupt_6 : decode cX9_corrupt 6 = .ok (.iload_n 2, 1) := by decide +kernel
theorem dX9_corrupt_7 : decode cX9_corrupt 7 = .ok (.invokevirtual 125, 3) := by decide +kernel
theorem dX9_corrupt_10 : decode cX9_corrupt 10 = .ok (.aload_n 0, 1) := by decide +kernel
theorem dX9_corrupt_11 : decode cX9_corrupt 11 = .ok (.getfield 39, 3) := by decide +kernel
theorem dX9_corrupt_14 : decode cX9_corrupt 14 = .ok (.getfield 118, 3) := by decide +kernel
theorem dX9_corrupt_17 : decode cX9_corrupt 17 = .ok (.getfield 231, 3) := by decide +kernel
theorem dX9_corrupt_20 : decode cX9_corrupt 20 = .ok (.iload_n 1, 1) := by decide +kernel
theorem dX9_corrupt_21 : decode cX9_corrupt 21 = .ok (.iaload, 1) := by decide +kernel
theorem dX9_corrupt_22 : decode cX9_corrupt 22 = .ok (.istore_n 3, 1) := by decide +kernel
theorem dX9_corrupt_23 : decode cX9_corrupt 23 = .ok (.aload_n 0, 1) := by decide +kernel
theorem dX9_corrupt_24 : decode cX9_corrupt 24 = .ok (.getfield 39, 3) := by decide +kernel
theorem dX9_corrupt_27 : decode cX9_corrupt 27 = .ok (.getfield 118, 3) := by decide +kernel
theorem dX9_corrupt_30 : decode cX9_corrupt 30 = .ok (.iload_n 1, 1) := by decide +kernel
theorem dX9_corrupt_31 : decode cX9_corrupt 31 = .ok (.iload_n 2, 1) := by decide +kernel
theorem dX9_corrupt_32 : decode cX9_corrupt 32 = .ok (.aload_n 0, 1) := by decide +kernel
theorem dX9_corrupt_33 : decode cX9_corrupt 33 = .ok (.getfield 39, 3) := by decide +kernel
theorem dX9_corrupt_36 : decode cX9_corrupt 36 = .ok (.getfield 137, 3) := by decide +kernel
theorem dX9_corrupt_39 : decode cX9_corrupt 39 = .ok (.invokevirtual 261, 3) := by decide +kernel
theorem dX9_corrupt_42 : decode cX9_corrupt 42 = .ok (.iload_n 3, 1) := by decide +kernel
theorem dX9_corrupt_43 : decode cX9_corrupt 43 = .ok (.ireturn, 1) := by decide +kernel
theorem dX9_entryCount_0 : decode cX9_entryCount 0 = .ok (.aload_n 0, 1) := by decide +kernel
theorem dX9_entryCount_1 : decode cX9_entryCount 1 = .ok (.getfield 39, 3) := by decide +kernel
theorem dX9_entryCount_4 : decode cX9_entryCount 4 = .ok (.getfield 264, 3) := by decide +kernel
theorem dX9_entryCount_7 : decode cX9_entryCount 7 = .ok (.getfield 268, 3) := by decide +kernel
theorem dX9_entryCount_10 : decode cX9_entryCount 10 = .ok (.ireturn, 1) := by decide +kernel
theorem dX9_entryValue_0 : decode cX9_entryValue 0 = .ok (.aload_n 0, 1) := by decide +kernel
theorem dX9_entryValue_1 : decode cX9_entryValue 1 = .ok (.iload_n 1, 1) := by decide +kernel
theorem dX9_entryValue_2 : decode cX9_entryValue 2 = .ok (.invokevirtual 167, 3) := by decide +kernel
theorem dX9_entryValue_5 : decode cX9_entryValue 5 = .ok (.iload_n 2, 1) := by decide +kernel
theorem dX9_entryValue_6 : decode cX9_entryValue 6 = .ok (.ifCond .lt 9, 3) := by decide +kernel
theorem dX9_entryValue_9 : decode cX9_entryValue 9 = .ok (.iload_n 2, 1) := by decide +kernel
theorem dX9_entryValue_10 : decode cX9_entryValue 10 = .ok (.bipush 7, 2) := by decide +kernel
theorem dX9_entryValue_12 : decode cX9_entryValue 12 = .ok (.if_icmp .lt 13, 3) := by decide +kernel
theorem dX9_entryValue_15 : decode cX9_entryValue 15 = .ok (.new 54, 3) := by decide +kernel
theorem dX9_entryValue_18 : decode cX9_entryValue 18 = .ok (.dup, 1) := by decide +kernel
theorem dX9_entryValue_19 : decode cX9_entryValue 19 = .ok (.ldc 209, 2) := by decide +kernel
theorem dX9_entryValue_21 : decode cX9_entryValue 21 = .ok (.invokespecial 58, 3) := by decide +kernel
theorem dX9_entryValue_24 : decode cX9_entryValue 24 = .ok (.athrow, 1) := by decide +kernel
theorem dX9_entryValue_25 : decode cX9_entryValue 25 = .ok (.aload_n 0, 1) := by decide +kernel
theorem dX9_entryValue_26 : decode cX9_entryValue 26 = .ok (.getfield 39, 3) := by decide +kernel
theorem dX9_entryValue_29 : decode cX9_entryValue 29 = .ok (.getfield 264, 3) := by decide +kernel
theorem dX9_entryValue_32 : decode cX9_entryValue 32 = .ok (.iload_n 1, 1) := by decide +kernel
theorem dX9_entryValue_33 : decode cX9_entryValue 33 = .ok (.iload_n 2, 1) := by decide +kernel
theorem dX9_entryValue_34 : decode cX9_entryValue 34 = .ok (.invokevirtual 271, 3) := by decide +kernel
theorem dX9_entryValue_37 : decode cX9_entryValue 37 = .ok (.ireturn, 1) := by decide +kernel
theorem dX9_entryBlock_0 : decode cX9_entryBlock 0 = .ok (.aload_n 0, 1) := by decide +kernel
theorem dX9_entryBlock_1 : decode cX9_entryBlock 1 = .ok (.iload_n 1, 1) := by decide +kernel
theorem dX9_entryBlock_2 : decode cX9_entryBlock 2 = .ok (.invokevirtual 167, 3) := by decide +kernel
theorem dX9_entryBlock_5 : decode cX9_entryBlock 5 = .ok (.aload_n 0, 1) := by decide +kernel
theorem dX9_entryBlock_6 : decode cX9_entryBlock 6 = .ok (.getfield 39, 3) := by decide +kernel
theorem dX9_entryBlock_9 : decode cX9_entryBlock 9 = .ok (.getfield 264, 3) := by decide +kernel
theorem dX9_entryBlock_12 : decode cX9_entryBlock 12 = .ok (.iload_n 1, 1) := by decide +kernel
theorem dX9_entryBlock_13 : decode cX9_entryBlock 13 = .ok (.aload_n 0, 1) := by decide +kernel
theorem dX9_entryBlock_14 : decode cX9_entryBlock 14 = .ok (.getfield 39, 3) := by decide +kernel
theorem dX9_entryBlock_17 : decode cX9_entryBlock 17 = .ok (.getfield 118, 3) := by decide +kernel
theorem dX9_entryBlock_20 : decode cX9_entryBlock 20 = .ok (.getfield 272, 3) := by decide +kernel
theorem dX9_entryBlock_23 : decode cX9_entryBlock 23 = .ok (.invokevirtual 276, 3) := by decide +kernel
theorem dX9_entryBlock_26 : decode cX9_entryBlock 26 = .ok (.aload_n 0, 1) := by decide +kernel
theorem dX9_entryBlock_27 : decode cX9_entryBlock 27 = .ok (.getfield 39, 3) := by decide +kernel
theorem dX9_entryBlock_30 : decode cX9_entryBlock 30 = .ok (.getfield 118, 3) := by decide +kernel
theorem dX9_entryBlock_33 : decode cX9_entryBlock 33 = .ok (.iload_n 2, 1) := by decide +kernel
theorem dX9_entryBlock_34 : decode cX9_entryBlock 34 = .ok (.invokevirtual 243, 3) := by decide +kernel
theorem dX9_entryBlock_37 : decode cX9_entryBlock 37 = .ok (.ireturn, 1) := by decide +kernel
theorem dX9_bookedAt_0 : decode cX9_bookedAt 0 = .ok (.aload_n 0, 1) := by decide +kernel
theorem dX9_bookedAt_1 : decode cX9_bookedAt 1 = .ok (.iload_n 1, 1) := by decide +kernel
theorem dX9_bookedAt_2 : decode cX9_bookedAt 2 = .ok (.invokevirtual 125, 3) := by decide +kernel
theorem dX9_bookedAt_5 : decode cX9_bookedAt 5 = .ok (.iload_n 2, 1) := by decide +kernel
theorem dX9_bookedAt_6 : decode cX9_bookedAt 6 = .ok (.ifCond .ge 14, 3) := by decide +kernel
theorem dX9_bookedAt_9 : decode cX9_bookedAt 9 = .ok (.new 54, 3) := by decide +kernel
theorem dX9_bookedAt_12 : decode cX9_bookedAt 12 = .ok (.dup, 1) := by decide +kernel
theorem dX9_bookedAt_13 : decode cX9_bookedAt 13 = .ok (.ldc_w 280, 3) := by decide +kernel
theorem dX9_bookedAt_16 : decode cX9_bookedAt 16 = .ok (.invokespecial 58, 3) := by decide +kernel
theorem dX9_bookedAt_19 : decode cX9_bookedAt 19 = .ok (.athrow, 1) := by decide +kernel
theorem dX9_bookedAt_20 : decode cX9_bookedAt 20 = .ok (.aload_n 0, 1) := by decide +kernel
theorem dX9_bookedAt_21 : decode cX9_bookedAt 21 = .ok (.getfield 39, 3) := by decide +kernel
theorem dX9_bookedAt_24 : decode cX9_bookedAt 24 = .ok (.iload_n 1, 1) := by decide +kernel
theorem dX9_bookedAt_25 : decode cX9_bookedAt 25 = .ok (.invokevirtual 282, 3) := by decide +kernel
theorem dX9_bookedAt_28 : decode cX9_bookedAt 28 = .ok (.aload_n 0, 1) := by decide +kernel
theorem dX9_bookedAt_29 : decode cX9_bookedAt 29 = .ok (.getfield 39, 3) := by decide +kernel
theorem dX9_bookedAt_32 : decode cX9_bookedAt 32 = .ok (.getfield 264, 3) := by decide +kernel
theorem dX9_bookedAt_35 : decode cX9_bookedAt 35 = .ok (.iload_n 1, 1) := by decide +kernel
theorem dX9_bookedAt_36 : decode cX9_bookedAt 36 = .ok (.iload_n 2, 1) := by decide +kernel
theorem dX9_bookedAt_37 : decode cX9_bookedAt 37 = .ok (.invokevirtual 285, 3) := by decide +kernel
theorem dX9_bookedAt_40 : decode cX9_bookedAt 40 = .ok (.iadd, 1) := by decide +kernel
theorem dX9_bookedAt_41 : decode cX9_bookedAt 41 = .ok (.ireturn, 1) := by decide +kernel
theorem dX9_peak_0 : decode cX9_peak 0 = .ok (.aload_n 0, 1) := by decide +kernel
theorem dX9_peak_1 : decode cX9_peak 1 = .ok (.iload_n 1, 1) := by decide +kernel
theorem dX9_peak_2 : decode cX9_peak 2 = .ok (.invokevirtual 125, 3) := by decide +kernel
theorem dX9_peak_5 : decode cX9_peak 5 = .ok (.iload_n 2, 1) := by decide +kernel
theorem dX9_peak_6 : decode cX9_peak 6 = .ok (.iload_n 3, 1) := by decide +kernel
theorem dX9_peak_7 : decode cX9_peak 7 = .ok (.invokestatic 288, 3) := by decide +kernel
theorem dX9_peak_10 : decode cX9_peak 10 = .ok (.aload_n 0, 1) := by decide +kernel
theorem dX9_peak_11 : decode cX9_peak 11 = .ok (.getfield 39, 3) := by decide +kernel
theorem dX9_peak_14 : decode cX9_peak 14 = .ok (.getfield 264, 3) := by decide +kernel
theorem dX9_peak_17 : decode cX9_peak 17 = .ok (.iload_n 1, 1) := by decide +kernel
theorem dX9_peak_18 : decode cX9_peak 18 = .ok (.aload_n 0, 1) := by decide +kernel
theorem dX9_peak_19 : decode cX9_peak 19 = .ok (.getfield 39, 3) := by decide +kernel
theorem dX9_peak_22 : decode cX9_peak 22 = .ok (.iload_n 1, 1) := by decide +kernel
theorem dX9_peak_23 : decode cX9_peak 23 = .ok (.invokevirtual 282, 3) := by decide +kernel
theorem dX9_peak_26 : decode cX9_peak 26 = .ok (.iload_n 2, 1) := by decide +kernel
theorem dX9_peak_27 : decode cX9_peak 27 = .ok (.iload_n 3, 1) := by decide +kernel
theorem dX9_peak_28 : decode cX9_peak 28 = .ok (.invokevirtual 291, 3) := by decide +kernel
theorem dX9_peak_31 : decode cX9_peak 31 = .ok (.ireturn, 1) := by decide +kernel
theorem dX9_flow_0 : decode cX9_flow 0 = .ok (.aload_n 0, 1) := by decide +kernel
theorem dX9_flow_1 : decode cX9_flow 1 = .ok (.iload_n 1, 1) := by decide +kernel
theorem dX9_flow_2 : decode cX9_flow 2 = .ok (.invokevirtual 125, 3) := by decide +kernel
theorem dX9_flow_5 : decode cX9_flow 5 = .ok (.aload_n 0, 1) := by decide +kernel
theorem dX9_flow_6 : decode cX9_flow 6 = .ok (.iload_n 2, 1) := by decide +kernel
theorem dX9_flow_7 : decode cX9_flow 7 = .ok (.invokevirtual 125, 3) := by decide +kernel
theorem dX9_flow_10 : decode cX9_flow 10 = .ok (.iload_n 3, 1) := by decide +kernel
theorem dX9_flow_11 : decode cX9_flow 11 = .ok (.iload 4, 2) := by decide +kernel
theorem dX9_flow_13 : decode cX9_flow 13 = .ok (.invokestatic 288, 3) := by decide +kernel
theorem dX9_flow_16 : decode cX9_flow 16 = .ok (.aload_n 0, 1) := by decide +kernel
theorem dX9_flow_17 : decode cX9_flow 17 = .ok (.getfield 39, 3) := by decide +kernel
theorem dX9_flow_20 : decode cX9_flow 20 = .ok (.getfield 264, 3) := by decide +kernel
theorem dX9_flow_23 : decode cX9_flow 23 = .ok (.iload_n 1, 1) := by decide +kernel
theorem dX9_flow_24 : decode cX9_flow 24 = .ok (.iload_n 2, 1) := by decide +kernel
theorem dX9_flow_25 : decode cX9_flow 25 = .ok (.iload_n 3, 1) := by decide +kernel
theorem dX9_flow_26 : decode cX9_flow 26 = .ok (.iload 4, 2) := by decide +kernel
theorem dX9_flow_28 : decode cX9_flow 28 = .ok (.invokevirtual 294, 3) := by decide +kernel
theorem dX9_flow_31 : decode cX9_flow 31 = .ok (.ireturn, 1) := by decide +kernel
theorem dX9_reasonTotal_0 : decode cX9_reasonTotal 0 = .ok (.iload_n 1, 1) := by decide +kernel
theorem dX9_reasonTotal_1 : decode cX9_reasonTotal 1 = .ok (.invokestatic 153, 3) := by decide +kernel
theorem dX9_reasonTotal_4 : decode cX9_reasonTotal 4 = .ok (.iload_n 2, 1) := by decide +kernel
theorem dX9_reasonTotal_5 : decode cX9_reasonTotal 5 = .ok (.iload_n 3, 1) := by decide +kernel
theorem dX9_reasonTotal_6 : decode cX9_reasonTotal 6 = .ok (.invokestatic 288, 3) := by decide +kernel
theorem dX9_reasonTotal_9 : decode cX9_reasonTotal 9 = .ok (.aload_n 0, 1) := by decide +kernel
theorem dX9_reasonTotal_10 : decode cX9_reasonTotal 10 = .ok (.getfield 39, 3) := by decide +kernel
theorem dX9_reasonTotal_13 : decode cX9_reasonTotal 13 = .ok (.getfield 264, 3) := by decide +kernel
theorem dX9_reasonTotal_16 : decode cX9_reasonTotal 16 = .ok (.iload_n 1, 1) := by decide +kernel
theorem dX9_reasonTotal_17 : decode cX9_reasonTotal 17 = .ok (.iload_n 2, 1) := by decide +kernel
theorem dX9_reasonTotal_18 : decode cX9_reasonTotal 18 = .ok (.iload_n 3, 1) := by decide +kernel
theorem dX9_reasonTotal_19 : decode cX9_reasonTotal 19 = .ok (.invokevirtual 297, 3) := by decide +kernel
theorem dX9_reasonTotal_22 : decode cX9_reasonTotal 22 = .ok (.ireturn, 1) := by decide +kernel
theorem dX9_busiest_0 : decode cX9_busiest 0 = .ok (.iload_n 1, 1) := by decide +kernel
theorem dX9_busiest_1 : decode cX9_busiest 1 = .ok (.iload_n 2, 1) := by decide +kernel
theorem dX9_busiest_2 : decode cX9_busiest 2 = .ok (.invokestatic 288, 3) := by decide +kernel
theorem dX9_busiest_5 : decode cX9_busiest 5 = .ok (.aload_n 0, 1) := by decide +kernel
theorem dX9_busiest_6 : decode cX9_busiest 6 = .ok (.getfield 39, 3) := by decide +kernel
theorem dX9_busiest_9 : decode cX9_busiest 9 = .ok (.iload_n 1, 1) := by decide +kernel
theorem dX9_busiest_10 : decode cX9_busiest 10 = .ok (.iload_n 2, 1) := by decide +kernel
theorem dX9_busiest_11 : decode cX9_busiest 11 = .ok (.invokevirtual 300, 3) := by decide +kernel
theorem dX9_busiest_14 : decode cX9_busiest 14 = .ok (.ireturn, 1) := by decide +kernel
theorem dX9_rent_0 : decode cX9_rent 0 = .ok (.aload_n 0, 1) := by decide +kernel
theorem dX9_rent_1 : decode cX9_rent 1 = .ok (.iload_n 1, 1) := by decide +kernel
theorem dX9_rent_2 : decode cX9_rent 2 = .ok (.invokevirtual 125, 3) := by decide +kernel
theorem dX9_rent_5 : decode cX9_rent 5 = .ok (.aload_n 0, 1) := by decide +kernel
theorem dX9_rent_6 : decode cX9_rent 6 = .ok (.getfield 39, 3) := by decide +kernel
theorem dX9_rent_9 : decode cX9_rent 9 = .ok (.getfield 76, 3) := by decide +kernel
theorem dX9_rent_12 : decode cX9_rent 12 = .ok (.getfield 303, 3) := by decide +kernel
theorem dX9_rent_15 : decode cX9_rent 15 = .ok (.iload_n 1, 1) := by decide +kernel
theorem dX9_rent_16 : decode cX9_rent 16 = .ok (.faload, 1) := by decide +kernel
theorem dX9_rent_17 : decode cX9_rent 17 = .ok (.freturn, 1) := by decide +kernel
theorem dX9_totalRent_0 : decode cX9_totalRent 0 = .ok (.aload_n 0, 1) := by decide +kernel
theorem dX9_totalRent_1 : decode cX9_totalRent 1 = .ok (.getfield 39, 3) := by decide +kernel
theorem dX9_totalRent_4 : decode cX9_totalRent 4 = .ok (.getfield 76, 3) := by decide +kernel
theorem dX9_totalRent_7 : decode cX9_totalRent 7 = .ok (.invokevirtual 307, 3) := by decide +kernel
theorem dX9_totalRent_10 : decode cX9_totalRent 10 = .ok (.freturn, 1) := by decide +kernel
theorem dX9_rentAhead_0 : decode cX9_rentAhead 0 = .ok (.aload_n 0, 1) := by decide +kernel
theorem dX9_rentAhead_1 : decode cX9_rentAhead 1 = .ok (.iload_n 1, 1) := by decide +kernel
theorem dX9_rentAhead_2 : decode cX9_rentAhead 2 = .ok (.invokevirtual 125, 3) := by decide +kernel
theorem dX9_rentAhead_5 : decode cX9_rentAhead 5 = .ok (.iload_n 2, 1) := by decide +kernel
theorem dX9_rentAhead_6 : decode cX9_rentAhead 6 = .ok (.invokestatic 140, 3) := by decide +kernel
theorem dX9_rentAhead_9 : decode cX9_rentAhead 9 = .ok (.aload_n 0, 1) := by decide +kernel
theorem dX9_rentAhead_10 : decode cX9_rentAhead 10 = .ok (.getfield 39, 3) := by decide +kernel
theorem dX9_rentAhead_13 : decode cX9_rentAhead 13 = .ok (.iload_n 1, 1) := by decide +kernel
theorem dX9_rentAhead_14 : decode cX9_rentAhead 14 = .ok (.iload_n 2, 1) := by decide +kernel
theorem dX9_rentAhead_15 : decode cX9_rentAhead 15 = .ok (.invokevirtual 311, 3) := by decide +kernel
theorem dX9_rentAhead_18 : decode cX9_rentAhead 18 = .ok (.freturn, 1) := by decide +kernel
theorem dX9_mismatches_0 : decode cX9_mismatches 0 = .ok (.aload_n 0, 1) := by decide +kernel
theorem dX9_mismatches_1 : decode cX9_mismatches 1 = .ok (.getfield 39, 3) := by decide +kernel
theorem dX9_mismatches_4 : decode cX9_mismatches 4 = .ok (.invokevirtual 315, 3) := by decide +kernel
theorem dX9_mismatches_7 : decode cX9_mismatches 7 = .ok (.ireturn, 1) := by decide +kernel
theorem dX9_reconcile_0 : decode cX9_reconcile 0 = .ok (.aload_n 0, 1) := by decide +kernel
theorem dX9_reconcile_1 : decode cX9_reconcile 1 = .ok (.getfield 39, 3) := by decide +kernel
theorem dX9_reconcile_4 : decode cX9_reconcile 4 = .ok (.invokevirtual 318, 3) := by decide +kernel
theorem dX9_reconcile_7 : decode cX9_reconcile 7 = .ok (.ireturn, 1) := by decide +kernel
theorem dX9_checkpoint_0 : decode cX9_checkpoint 0 = .ok (.aload_n 0, 1) := by decide +kernel
theorem dX9_checkpoint_1 : decode cX9_checkpoint 1 = .ok (.getfield 39, 3) := by decide +kernel
theorem dX9_checkpoint_4 : decode cX9_checkpoint 4 = .ok (.invokevirtual 321, 3) := by decide +kernel
theorem dX9_checkpoint_7 : decode cX9_checkpoint 7 = .ok (.ireturn, 1) := by decide +kernel
theorem dX9_auditSet_0 : decode cX9_auditSet 0 = .ok (.aload_n 0, 1) := by decide +kernel
theorem dX9_auditSet_1 : decode cX9_auditSet 1 = .ok (.iload_n 1, 1) := by decide +kernel
theorem dX9_auditSet_2 : decode cX9_auditSet 2 = .ok (.iload_n 2, 1) := by decide +kernel
theorem dX9_auditSet_3 : decode cX9_auditSet 3 = .ok (.invokevirtual 324, 3) := by decide +kernel
theorem dX9_auditSet_6 : decode cX9_auditSet 6 = .ok (.aload_n 0, 1) := by decide +kernel
theorem dX9_auditSet_7 : decode cX9_auditSet 7 = .ok (.getfield 39, 3) := by decide +kernel
theorem dX9_auditSet_10 : decode cX9_auditSet 10 = .ok (.iload_n 1, 1) := by decide +kernel
theorem dX9_auditSet_11 : decode cX9_auditSet 11 = .ok (.iload_n 2, 1) := by decide +kernel
theorem dX9_auditSet_12 : decode cX9_auditSet 12 = .ok (.invokevirtual 327, 3) := by decide +kernel
theorem dX9_auditSet_15 : decode cX9_auditSet 15 = .ok (.ireturn, 1) := by decide +kernel
theorem dX9_auditOf_0 : decode cX9_auditOf 0 = .ok (.aload_n 0, 1) := by decide +kernel
theorem dX9_auditOf_1 : decode cX9_auditOf 1 = .ok (.iload_n 3, 1) := by decide +kernel
theorem dX9_auditOf_2 : decode cX9_auditOf 2 = .ok (.invokevirtual 125, 3) := by decide +kernel
theorem dX9_auditOf_5 : decode cX9_auditOf 5 = .ok (.aload_n 0, 1) := by decide +kernel
theorem dX9_auditOf_6 : decode cX9_auditOf 6 = .ok (.iload_n 1, 1) := by decide +kernel
theorem dX9_auditOf_7 : decode cX9_auditOf 7 = .ok (.iload_n 2, 1) := by decide +kernel
theorem dX9_auditOf_8 : decode cX9_auditOf 8 = .ok (.invokevirtual 324, 3) := by decide +kernel
theorem dX9_auditOf_11 : decode cX9_auditOf 11 = .ok (.aload_n 0, 1) := by decide +kernel
theorem dX9_auditOf_12 : decode cX9_auditOf 12 = .ok (.getfield 39, 3) := by decide +kernel
theorem dX9_auditOf_15 : decode cX9_auditOf 15 = .ok (.iload_n 1, 1) := by decide +kernel
theorem dX9_auditOf_16 : decode cX9_auditOf 16 = .ok (.iload_n 2, 1) := by decide +kernel
theorem dX9_auditOf_17 : decode cX9_auditOf 17 = .ok (.iload_n 3, 1) := by decide +kernel
theorem dX9_auditOf_18 : decode cX9_auditOf 18 = .ok (.invokevirtual 330, 3) := by decide +kernel
theorem dX9_auditOf_21 : decode cX9_auditOf 21 = .ok (.ireturn, 1) := by decide +kernel
theorem dX9_saveSnapshot_0 : decode cX9_saveSnapshot 0 = .ok (.iload_n 1, 1) := by decide +kernel
theorem dX9_saveSnapshot_1 : decode cX9_saveSnapshot 1 = .ok (.invokestatic 333, 3) := by decide +kernel
theorem dX9_saveSnapshot_4 : decode cX9_saveSnapshot 4 = .ok (.aload_n 0, 1) := by decide +kernel
theorem dX9_saveSnapshot_5 : decode cX9_saveSnapshot 5 = .ok (.getfield 34, 3) := by decide +kernel
theorem dX9_saveSnapshot_8 : decode cX9_saveSnapshot 8 = .ok (.iload_n 1, 1) := by decide +kernel
theorem dX9_saveSnapshot_9 : decode cX9_saveSnapshot 9 = .ok (.aaload, 1) := by decide +kernel
theorem dX9_saveSnapshot_10 : decode cX9_saveSnapshot 10 = .ok (.astore_n 2, 1) := by decide +kernel
theorem dX9_saveSnapshot_11 : decode cX9_saveSnapshot 11 = .ok (.aload_n 2, 1) := by decide +kernel
theorem dX9_saveSnapshot_12 : decode cX9_saveSnapshot 12 = .ok (.ifnonnull 18, 3) := by decide +kernel
theorem dX9_saveSnapshot_15 : decode cX9_saveSnapshot 15 = .ok (.new 32, 3) := by decide +kernel
theorem dX9_saveSnapshot_18 : decode cX9_saveSnapshot 18 = .ok (.dup, 1) := by decide +kernel
theorem dX9_saveSnapshot_19 : decode cX9_saveSnapshot 19 = .ok (.invokespecial 38, 3) := by decide +kernel
theorem dX9_saveSnapshot_22 : decode cX9_saveSnapshot 22 = .ok (.astore_n 2, 1) := by decide +kernel
theorem dX9_saveSnapshot_23 : decode cX9_saveSnapshot 23 = .ok (.aload_n 0, 1) := by decide +kernel
theorem dX9_saveSnapshot_24 : decode cX9_saveSnapshot 24 = .ok (.getfield 34, 3) := by decide +kernel
theorem dX9_saveSnapshot_27 : decode cX9_saveSnapshot 27 = .ok (.iload_n 1, 1) := by decide +kernel
theorem dX9_saveSnapshot_28 : decode cX9_saveSnapshot 28 = .ok (.aload_n 2, 1) := by decide +kernel
theorem dX9_saveSnapshot_29 : decode cX9_saveSnapshot 29 = .ok (.aastore, 1) := by decide +kernel
theorem dX9_saveSnapshot_30 : decode cX9_saveSnapshot 30 = .ok (.aload_n 2, 1) := by decide +kernel
theorem dX9_saveSnapshot_31 : decode cX9_saveSnapshot 31 = .ok (.aload_n 0, 1) := by decide +kernel
theorem dX9_saveSnapshot_32 : decode cX9_saveSnapshot 32 = .ok (.getfield 39, 3) := by decide +kernel
theorem dX9_saveSnapshot_35 : decode cX9_saveSnapshot 35 = .ok (.invokevirtual 103, 3) := by decide +kernel
theorem dX9_saveSnapshot_38 : decode cX9_saveSnapshot 38 = .ok (.aload_n 0, 1) := by decide +kernel
theorem dX9_saveSnapshot_39 : decode cX9_saveSnapshot 39 = .ok (.getfield 39, 3) := by decide +kernel
theorem dX9_saveSnapshot_42 : decode cX9_saveSnapshot 42 = .ok (.getfield 137, 3) := by decide +kernel
theorem dX9_saveSnapshot_45 : decode cX9_saveSnapshot 45 = .ok (.ireturn, 1) := by decide +kernel
theorem dX9_restoreSnapshot_0 : decode cX9_restoreSnapshot 0 = .ok (.iload_n 1, 1) := by decide +kernel
theorem dX9_restoreSnapshot_1 : decode cX9_restoreSnapshot 1 = .ok (.invokestatic 333, 3) := by decide +kernel
theorem dX9_restoreSnapshot_4 : decode cX9_restoreSnapshot 4 = .ok (.aload_n 0, 1) := by decide +kernel
theorem dX9_restoreSnapshot_5 : decode cX9_restoreSnapshot 5 = .ok (.getfield 34, 3) := by decide +kernel
theorem dX9_restoreSnapshot_8 : decode cX9_restoreSnapshot 8 = .ok (.iload_n 1, 1) := by decide +kernel
theorem dX9_restoreSnapshot_9 : decode cX9_restoreSnapshot 9 = .ok (.aaload, 1) := by decide +kernel
theorem dX9_restoreSnapshot_10 : decode cX9_restoreSnapshot 10 = .ok (.astore_n 2, 1) := by decide +kernel
theorem dX9_restoreSnapshot_11 : decode cX9_restoreSnapshot 11 = .ok (.aload_n 2, 1) := by decide +kernel
theorem dX9_restoreSnapshot_12 : decode cX9_restoreSnapshot 12 = .ok (.ifnonnull 5, 3) := by decide +kernel
theorem dX9_restoreSnapshot_15 : decode cX9_restoreSnapshot 15 = .ok (.iconst (-1), 1) := by decide +kernel
theorem dX9_restoreSnapshot_16 : decode cX9_restoreSnapshot 16 = .ok (.ireturn, 1) := by decide +kernel
theorem dX9_restoreSnapshot_17 : decode cX9_restoreSnapshot 17 = .ok (.aload_n 0, 1) := by decide +kernel
theorem dX9_restoreSnapshot_18 : decode cX9_restoreSnapshot 18 = .ok (.getfield 39, 3) := by decide +kernel
theorem dX9_restoreSnapshot_21 : decode cX9_restoreSnapshot 21 = .ok (.aload_n 2, 1) := by decide +kernel
theorem dX9_restoreSnapshot_22 : decode cX9_restoreSnapshot 22 = .ok (.invokevirtual 103, 3) := by decide +kernel
theorem dX9_restoreSnapshot_25 : decode cX9_restoreSnapshot 25 = .ok (.aload_n 0, 1) := by decide +kernel
theorem dX9_restoreSnapshot_26 : decode cX9_restoreSnapshot 26 = .ok (.getfield 39, 3) := by decide +kernel
theorem dX9_restoreSnapshot_29 : decode cX9_restoreSnapshot 29 = .ok (.getfield 137, 3) := by decide +kernel
theorem dX9_restoreSnapshot_32 : decode cX9_restoreSnapshot 32 = .ok (.ireturn, 1) := by decide +kernel
theorem dX9_needPool_0 : decode cX9_needPool 0 = .ok (.iload_n 1, 1) := by decide +kernel
theorem dX9_needPool_1 : decode cX9_needPool 1 = .ok (.ifCond .lt 17, 3) := by decide +kernel
theorem dX9_needPool_4 : decode cX9_needPool 4 = .ok (.iload_n 1, 1) := by decide +kernel
theorem dX9_needPool_5 : decode cX9_needPool 5 = .ok (.aload_n 0, 1) := by decide +kernel
theorem dX9_needPool_6 : decode cX9_needPool 6 = .ok (.getfield 39, 3) := by decide +kernel
theorem dX9_needPool_9 : decode cX9_needPool 9 = .ok (.getfield 76, 3) := by decide +kernel
theorem dX9_needPool_12 : decode cX9_needPool 12 = .ok (.getfield 80, 3) := by decide +kernel
theorem dX9_needPool_15 : decode cX9_needPool 15 = .ok (.if_icmp .lt 14, 3) := by decide +kernel
theorem dX9_needPool_18 : decode cX9_needPool 18 = .ok (.new 336, 3) := by decide +kernel
theorem dX9_needPool_21 : decode cX9_needPool 21 = .ok (.dup, 1) := by decide +kernel
theorem dX9_needPool_22 : decode cX9_needPool 22 = .ok (.ldc_w 338, 3) := by decide +kernel
theorem dX9_needPool_25 : decode cX9_needPool 25 = .ok (.invokespecial 340, 3) := by decide +kernel
theorem dX9_needPool_28 : decode cX9_needPool 28 = .ok (.athrow, 1) := by decide +kernel
theorem dX9_needPool_29 : decode cX9_needPool 29 = .ok (.return_, 1) := by decide +kernel
theorem dX9_needTwoPools_0 : decode cX9_needTwoPools 0 = .ok (.aload_n 0, 1) := by decide +kernel
theorem dX9_needTwoPools_1 : decode cX9_needTwoPools 1 = .ok (.iload_n 1, 1) := by decide +kernel
theorem dX9_needTwoPools_2 : decode cX9_needTwoPools 2 = .ok (.invokevirtual 125, 3) := by decide +kernel
theorem dX9_needTwoPools_5 : decode cX9_needTwoPools 5 = .ok (.aload_n 0, 1) := by decide +kernel
theorem dX9_needTwoPools_6 : decode cX9_needTwoPools 6 = .ok (.iload_n 2, 1) := by decide +kernel
theorem dX9_needTwoPools_7 : decode cX9_needTwoPools 7 = .ok (.invokevirtual 125, 3) := by decide +kernel
theorem dX9_needTwoPools_10 : decode cX9_needTwoPools 10 = .ok (.iload_n 1, 1) := by decide +kernel
theorem dX9_needTwoPools_11 : decode cX9_needTwoPools 11 = .ok (.iload_n 2, 1) := by decide +kernel
theorem dX9_needTwoPools_12 : decode cX9_needTwoPools 12 = .ok (.if_icmp .ne 14, 3) := by decide +kernel
theorem dX9_needTwoPools_15 : decode cX9_needTwoPools 15 = .ok (.new 54, 3) := by decide +kernel
theorem dX9_needTwoPools_18 : decode cX9_needTwoPools 18 = .ok (.dup, 1) := by decide +kernel
theorem dX9_needTwoPools_19 : decode cX9_needTwoPools 19 = .ok (.ldc_w 341, 3) := by decide +kernel
theorem dX9_needTwoPools_22 : decode cX9_needTwoPools 22 = .ok (.invokespecial 58, 3) := by decide +kernel
theorem dX9_needTwoPools_25 : decode cX9_needTwoPools 25 = .ok (.athrow, 1) := by decide +kernel
theorem dX9_needTwoPools_26 : decode cX9_needTwoPools 26 = .ok (.return_, 1) := by decide +kernel
theorem dX9_needBlock_0 : decode cX9_needBlock 0 = .ok (.iload_n 1, 1) := by decide +kernel
theorem dX9_needBlock_1 : decode cX9_needBlock 1 = .ok (.ifCond .lt 17, 3) := by decide +kernel
theorem dX9_needBlock_4 : decode cX9_needBlock 4 = .ok (.iload_n 1, 1) := by decide +kernel
theorem dX9_needBlock_5 : decode cX9_needBlock 5 = .ok (.aload_n 0, 1) := by decide +kernel
theorem dX9_needBlock_6 : decode cX9_needBlock 6 = .ok (.getfield 39, 3) := by decide +kernel
theorem dX9_needBlock_9 : decode cX9_needBlock 9 = .ok (.getfield 118, 3) := by decide +kernel
theorem dX9_needBlock_12 : decode cX9_needBlock 12 = .ok (.getfield 122, 3) := by decide +kernel
theorem dX9_needBlock_15 : decode cX9_needBlock 15 = .ok (.if_icmp .lt 14, 3) := by decide +kernel
theorem dX9_needBlock_18 : decode cX9_needBlock 18 = .ok (.new 336, 3) := by decide +kernel
theorem dX9_needBlock_21 : decode cX9_needBlock 21 = .ok (.dup, 1) := by decide +kernel
theorem dX9_needBlock_22 : decode cX9_needBlock 22 = .ok (.ldc_w 343, 3) := by decide +kernel
theorem dX9_needBlock_25 : decode cX9_needBlock 25 = .ok (.invokespecial 340, 3) := by decide +kernel
theorem dX9_needBlock_28 : decode cX9_needBlock 28 = .ok (.athrow, 1) := by decide +kernel
theorem dX9_needBlock_29 : decode cX9_needBlock 29 = .ok (.return_, 1) := by decide +kernel
theorem dX9_needEntry_0 : decode cX9_needEntry 0 = .ok (.iload_n 1, 1) := by decide +kernel
theorem dX9_needEntry_1 : decode cX9_needEntry 1 = .ok (.ifCond .lt 17, 3) := by decide +kernel
theorem dX9_needEntry_4 : decode cX9_needEntry 4 = .ok (.iload_n 1, 1) := by decide +kernel
theorem dX9_needEntry_5 : decode cX9_needEntry 5 = .ok (.aload_n 0, 1) := by decide +kernel
theorem dX9_needEntry_6 : decode cX9_needEntry 6 = .ok (.getfield 39, 3) := by decide +kernel
theorem dX9_needEntry_9 : decode cX9_needEntry 9 = .ok (.getfield 264, 3) := by decide +kernel
theorem dX9_needEntry_12 : decode cX9_needEntry 12 = .ok (.getfield 268, 3) := by decide +kernel
theorem dX9_needEntry_15 : decode cX9_needEntry 15 = .ok (.if_icmp .lt 14, 3) := by decide +kernel
theorem dX9_needEntry_18 : decode cX9_needEntry 18 = .ok (.new 336, 3) := by decide +kernel
theorem dX9_needEntry_21 : decode cX9_needEntry 21 = .ok (.dup, 1) := by decide +kernel
theorem dX9_needEntry_22 : decode cX9_needEntry 22 = .ok (.ldc_w 345, 3) := by decide +kernel
theorem dX9_needEntry_25 : decode cX9_needEntry 25 = .ok (.invokespecial 340, 3) := by decide +kernel
theorem dX9_needEntry_28 : decode cX9_needEntry 28 = .ok (.athrow, 1) := by decide +kernel
theorem dX9_needEntry_29 : decode cX9_needEntry 29 = .ok (.return_, 1) := by decide +kernel
theorem dX9_needReservation_0 : decode cX9_needReservation 0 = .ok (.iload_n 1, 1) := by decide +kernel
theorem dX9_needReservation_1 : decode cX9_needReservation 1 = .ok (.ifCond .lt 17, 3) := by decide +kernel
theorem dX9_needReservation_4 : decode cX9_needReservation 4 = .ok (.iload_n 1, 1) := by decide +kernel
theorem dX9_needReservation_5 : decode cX9_needReservation 5 = .ok (.aload_n 0, 1) := by decide +kernel
theorem dX9_needReservation_6 : decode cX9_needReservation 6 = .ok (.getfield 39, 3) := by decide +kernel
theorem dX9_needReservation_9 : decode cX9_needReservation 9 = .ok (.getfield 196, 3) := by decide +kernel
theorem dX9_needReservation_12 : decode cX9_needReservation 12 = .ok (.getfield 208, 3) := by decide +kernel
theorem dX9_needReservation_15 : decode cX9_needReservation 15 = .ok (.if_icmp .lt 14, 3) := by decide +kernel
theorem dX9_needReservation_18 : decode cX9_needReservation 18 = .ok (.new 336, 3) := by decide +kernel
theorem dX9_needReservation_21 : decode cX9_needReservation 21 = .ok (.dup, 1) := by decide +kernel
theorem dX9_needReservation_22 : decode cX9_needReservation 22 = .ok (.ldc_w 347, 3) := by decide +kernel
theorem dX9_needReservation_25 : decode cX9_needReservation 25 = .ok (.invokespecial 340, 3) := by decide +kernel
theorem dX9_needReservation_28 : decode cX9_needReservation 28 = .ok (.athrow, 1) := by decide +kernel
theorem dX9_needReservation_29 : decode cX9_needReservation 29 = .ok (.return_, 1) := by decide +kernel
theorem dX9_needCheckpoints_0 : decode cX9_needCheckpoints 0 = .ok (.iload_n 1, 1) := by decide +kernel
theorem dX9_needCheckpoints_1 : decode cX9_needCheckpoints 1 = .ok (.ifCond .lt 22, 3) := by decide +kernel
theorem dX9_needCheckpoints_4 : decode cX9_needCheckpoints 4 = .ok (.iload_n 2, 1) := by decide +kernel
theorem dX9_needCheckpoints_5 : decode cX9_needCheckpoints 5 = .ok (.aload_n 0, 1) := by decide +kernel
theorem dX9_needCheckpoints_6 : decode cX9_needCheckpoints 6 = .ok (.getfield 39, 3) := by decide +kernel
theorem dX9_needCheckpoints_9 : decode cX9_needCheckpoints 9 = .ok (.getfield 349, 3) := by decide +kernel
theorem dX9_needCheckpoints_12 : decode cX9_needCheckpoints 12 = .ok (.getfield 353, 3) := by decide +kernel
theorem dX9_needCheckpoints_15 : decode cX9_needCheckpoints 15 = .ok (.if_icmp .ge 8, 3) := by decide +kernel
theorem dX9_needCheckpoints_18 : decode cX9_needCheckpoints 18 = .ok (.iload_n 1, 1) := by decide +kernel
theorem dX9_needCheckpoints_19 : decode cX9_needCheckpoints 19 = .ok (.iload_n 2, 1) := by decide +kernel
theorem dX9_needCheckpoints_20 : decode cX9_needCheckpoints 20 = .ok (.if_icmp .le 14, 3) := by decide +kernel
theorem dX9_needCheckpoints_23 : decode cX9_needCheckpoints 23 = .ok (.new 54, 3) := by decide +kernel
theorem dX9_needCheckpoints_26 : decode cX9_needCheckpoints 26 = .ok (.dup, 1) := by decide +kernel
theorem dX9_needCheckpoints_27 : decode cX9_needCheckpoints 27 = .ok (.ldc_w 356, 3) := by decide +kernel
theorem dX9_needCheckpoints_30 : decode cX9_needCheckpoints 30 = .ok (.invokespecial 58, 3) := by decide +kernel
theorem dX9_needCheckpoints_33 : decode cX9_needCheckpoints 33 = .ok (.athrow, 1) := by decide +kernel
theorem dX9_needCheckpoints_34 : decode cX9_needCheckpoints 34 = .ok (.return_, 1) := by decide +kernel
theorem dX9_needCount_0 : decode cX9_needCount 0 = .ok (.iload_n 0, 1) := by decide +kernel
theorem dX9_needCount_1 : decode cX9_needCount 1 = .ok (.iconst 1, 1) := by decide +kernel
theorem dX9_needCount_2 : decode cX9_needCount 2 = .ok (.if_icmp .lt 10, 3) := by decide +kernel
theorem dX9_needCount_5 : decode cX9_needCount 5 = .ok (.iload_n 0, 1) := by decide +kernel
theorem dX9_needCount_6 : decode cX9_needCount 6 = .ok (.sipush 200, 3) := by decide +kernel
theorem dX9_needCount_9 : decode cX9_needCount 9 = .ok (.if_icmp .le 13, 3) := by decide +kernel
theorem dX9_needCount_12 : decode cX9_needCount 12 = .ok (.new 54, 3) := by decide +kernel
theorem dX9_needCount_15 : decode cX9_needCount 15 = .ok (.dup, 1) := by decide +kernel
theorem dX9_needCount_16 : decode cX9_needCount 16 = .ok (.ldc 220, 2) := by decide +kernel
theorem dX9_needCount_18 : decode cX9_needCount 18 = .ok (.invokespecial 58, 3) := by decide +kernel
theorem dX9_needCount_21 : decode cX9_needCount 21 = .ok (.athrow, 1) := by decide +kernel
theorem dX9_needCount_22 : decode cX9_needCount 22 = .ok (.return_, 1) := by decide +kernel
theorem dX9_needReason_0 : decode cX9_needReason 0 = .ok (.iload_n 0, 1) := by decide +kernel
theorem dX9_needReason_1 : decode cX9_needReason 1 = .ok (.ifCond .lt 9, 3) := by decide +kernel
theorem dX9_needReason_4 : decode cX9_needReason 4 = .ok (.iload_n 0, 1) := by decide +kernel
theorem dX9_needReason_5 : decode cX9_needReason 5 = .ok (.bipush 9, 2) := by decide +kernel
theorem dX9_needReason_7 : decode cX9_needReason 7 = .ok (.if_icmp .le 14, 3) := by decide +kernel
theorem dX9_needReason_10 : decode cX9_needReason 10 = .ok (.new 54, 3) := by decide +kernel
theorem dX9_needReason_13 : decode cX9_needReason 13 = .ok (.dup, 1) := by decide +kernel
theorem dX9_needReason_14 : decode cX9_needReason 14 = .ok (.ldc_w 358, 3) := by decide +kernel
theorem dX9_needReason_17 : decode cX9_needReason 17 = .ok (.invokespecial 58, 3) := by decide +kernel
theorem dX9_needReason_20 : decode cX9_needReason 20 = .ok (.athrow, 1) := by decide +kernel
theorem dX9_needReason_21 : decode cX9_needReason 21 = .ok (.return_, 1) := by decide +kernel
theorem dX9_needTicks_0 : decode cX9_needTicks 0 = .ok (.iload_n 0, 1) := by decide +kernel
theorem dX9_needTicks_1 : decode cX9_needTicks 1 = .ok (.iconst 1, 1) := by decide +kernel
theorem dX9_needTicks_2 : decode cX9_needTicks 2 = .ok (.if_icmp .lt 10, 3) := by decide +kernel
theorem dX9_needTicks_5 : decode cX9_needTicks 5 = .ok (.iload_n 0, 1) := by decide +kernel
theorem dX9_needTicks_6 : decode cX9_needTicks 6 = .ok (.sipush 1000, 3) := by decide +kernel
theorem dX9_needTicks_9 : decode cX9_needTicks 9 = .ok (.if_icmp .le 14, 3) := by decide +kernel
theorem dX9_needTicks_12 : decode cX9_needTicks 12 = .ok (.new 54, 3) := by decide +kernel
theorem dX9_needTicks_15 : decode cX9_needTicks 15 = .ok (.dup, 1) := by decide +kernel
theorem dX9_needTicks_16 : decode cX9_needTicks 16 = .ok (.ldc_w 360, 3) := by decide +kernel
theorem dX9_needTicks_19 : decode cX9_needTicks 19 = .ok (.invokespecial 58, 3) := by decide +kernel
theorem dX9_needTicks_22 : decode cX9_needTicks 22 = .ok (.athrow, 1) := by decide +kernel
theorem dX9_needTicks_23 : decode cX9_needTicks 23 = .ok (.return_, 1) := by decide +kernel
theorem dX9_needInterval_0 : decode cX9_needInterval 0 = .ok (.iload_n 0, 1) := by decide +kernel
theorem dX9_needInterval_1 : decode cX9_needInterval 1 = .ok (.ifCond .lt 8, 3) := by decide +kernel
theorem dX9_needInterval_4 : decode cX9_needInterval 4 = .ok (.iload_n 0, 1) := by decide +kernel
theorem dX9_needInterval_5 : decode cX9_needInterval 5 = .ok (.iload_n 1, 1) := by decide +kernel
theorem dX9_needInterval_6 : decode cX9_needInterval 6 = .ok (.if_icmp .le 14, 3) := by decide +kernel
theorem dX9_needInterval_9 : decode cX9_needInterval 9 = .ok (.new 54, 3) := by decide +kernel
theorem dX9_needInterval_12 : decode cX9_needInterval 12 = .ok (.dup, 1) := by decide +kernel
theorem dX9_needInterval_13 : decode cX9_needInterval 13 = .ok (.ldc_w 362, 3) := by decide +kernel
theorem dX9_needInterval_16 : decode cX9_needInterval 16 = .ok (.invokespecial 58, 3) := by decide +kernel
theorem dX9_needInterval_19 : decode cX9_needInterval 19 = .ok (.athrow, 1) := by decide +kernel
theorem dX9_needInterval_20 : decode cX9_needInterval 20 = .ok (.return_, 1) := by decide +kernel
theorem dX9_needSlot_0 : decode cX9_needSlot 0 = .ok (.iload_n 0, 1) := by decide +kernel
theorem dX9_needSlot_1 : decode cX9_needSlot 1 = .ok (.ifCond .lt 8, 3) := by decide +kernel
theorem dX9_needSlot_4 : decode cX9_needSlot 4 = .ok (.iload_n 0, 1) := by decide +kernel
theorem dX9_needSlot_5 : decode cX9_needSlot 5 = .ok (.iconst 2, 1) := by decide +kernel
theorem dX9_needSlot_6 : decode cX9_needSlot 6 = .ok (.if_icmp .lt 14, 3) := by decide +kernel
theorem dX9_needSlot_9 : decode cX9_needSlot 9 = .ok (.new 54, 3) := by decide +kernel
theorem dX9_needSlot_12 : decode cX9_needSlot 12 = .ok (.dup, 1) := by decide +kernel
theorem dX9_needSlot_13 : decode cX9_needSlot 13 = .ok (.ldc_w 364, 3) := by decide +kernel
theorem dX9_needSlot_16 : decode cX9_needSlot 16 = .ok (.invokespecial 58, 3) := by decide +kernel
theorem dX9_needSlot_19 : decode cX9_needSlot 19 = .ok (.athrow, 1) := by decide +kernel
theorem dX9_needSlot_20 : decode cX9_needSlot 20 = .ok (.return_, 1) := by decide +kernel
