theorem dX10_init_0 : decode cX10_init 0 = .ok (.aload_n 0, 1) := by decide +kernel
theorem dX10_init_1 : decode cX10_init 1 = .ok (.invokespecial 3, 3) := by decide +kernel
theorem dX10_init_4 : decode cX10_init 4 = .ok (.aload_n 0, 1) := by decide +kernel
theorem dX10_init_5 : decode cX10_init 5 = .ok (.sipush 5061, 3) := by decide +kernel
theorem dX10_init_8 : decode cX10_init 8 = .ok (.newarray .int, 2) := by decide +kernel
theorem dX10_init_10 : decode cX10_init 10 = .ok (.putfield 9, 3) := by decide +kernel
theorem dX10_init_13 : decode cX10_init 13 = .ok (.aload_n 0, 1) := by decide +kernel
theorem dX10_init_14 : decode cX10_init 14 = .ok (.sipush 5061, 3) := by decide +kernel
theorem dX10_init_17 : decode cX10_init 17 = .ok (.newarray .int, 2) := by decide +kernel
theorem dX10_init_19 : decode cX10_init 19 = .ok (.putfield 13, 3) := by decide +kernel
theorem dX10_init_22 : decode cX10_init 22 = .ok (.aload_n 0, 1) := by decide +kernel
theorem dX10_init_23 : decode cX10_init 23 = .ok (.sipush 5061, 3) := by decide +kernel
theorem dX10_init_26 : decode cX10_init 26 = .ok (.newarray .int, 2) := by decide +kernel
theorem dX10_init_28 : decode cX10_init 28 = .ok (.putfield 16, 3) := by decide +kernel
theorem dX10_init_31 : decode cX10_init 31 = .ok (.aload_n 0, 1) := by decide +kernel
theorem dX10_init_32 : decode cX10_init 32 = .ok (.sipush 10122, 3) := by decide +kernel
theorem dX10_init_35 : decode cX10_init 35 = .ok (.newarray .int, 2) := by decide +kernel
theorem dX10_init_37 : decode cX10_init 37 = .ok (.putfield 19, 3) := by decide +kernel
theorem dX10_init_40 : decode cX10_init 40 = .ok (.aload_n 0, 1) := by decide +kernel
theorem dX10_init_41 : decode cX10_init 41 = .ok (.bipush 8, 2) := by decide +kernel
theorem dX10_init_43 : decode cX10_init 43 = .ok (.newarray .float, 2) := by decide +kernel
theorem dX10_init_45 : decode cX10_init 45 = .ok (.putfield 22, 3) := by decide +kernel
theorem dX10_init_48 : decode cX10_init 48 = .ok (.aload_n 0, 1) := by decide +kernel
theorem dX10_init_49 : decode cX10_init 49 = .ok (.bipush 8, 2) := by decide +kernel
theorem dX10_init_51 : decode cX10_init 51 = .ok (.newarray .float, 2) := by decide +kernel
theorem dX10_init_53 : decode cX10_init 53 = .ok (.putfield 26, 3) := by decide +kernel
theorem dX10_init_56 : decode cX10_init 56 = .ok (.aload_n 0, 1) := by decide +kernel
theorem dX10_init_57 : decode cX10_init 57 = .ok (.bipush 16, 2) := by decide +kernel
theorem dX10_init_59 : decode cX10_init 59 = .ok (.newarray .float, 2) := by decide +kernel
theorem dX10_init_61 : decode cX10_init 61 = .ok (.putfield 29, 3) := by decide +kernel
theorem dX10_init_64 : decode cX10_init 64 = .ok (.aload_n 0, 1) := by decide +kernel
theorem dX10_init_65 : decode cX10_init 65 = .ok (.iconst 2, 1) := by decide +kernel
theorem dX10_init_66 : decode cX10_init 66 = .ok (.newarray .boolean, 2) := by decide +kernel
theorem dX10_init_68 : decode cX10_init 68 = .ok (.putfield 32, 3) := by decide +kernel
theorem dX10_init_71 : decode cX10_init 71 = .ok (.aload_n 0, 1) := by decide +kernel
theorem dX10_init_72 : decode cX10_init 72 = .ok (.sipush 200, 3) := by decide +kernel
theorem dX10_init_75 : decode cX10_init 75 = .ok (.newarray .boolean, 2) := by decide +kernel
theorem dX10_init_77 : decode cX10_init 77 = .ok (.putfield 36, 3) := by decide +kernel
theorem dX10_init_80 : decode cX10_init 80 = .ok (.aload_n 0, 1) := by decide +kernel
theorem dX10_init_81 : decode cX10_init 81 = .ok (.sipush 500, 3) := by decide +kernel
theorem dX10_init_84 : decode cX10_init 84 = .ok (.newarray .byte, 2) := by decide +kernel
theorem dX10_init_86 : decode cX10_init 86 = .ok (.putfield 39, 3) := by decide +kernel
theorem dX10_init_89 : decode cX10_init 89 = .ok (.aload_n 0, 1) := by decide +kernel
theorem dX10_init_90 : decode cX10_init 90 = .ok (.sipush 1250, 3) := by decide +kernel
theorem dX10_init_93 : decode cX10_init 93 = .ok (.newarray .int, 2) := by decide +kernel
theorem dX10_init_95 : decode cX10_init 95 = .ok (.putfield 43, 3) := by decide +kernel
theorem dX10_init_98 : decode cX10_init 98 = .ok (.aload_n 0, 1) := by decide +kernel
theorem dX10_init_99 : decode cX10_init 99 = .ok (.getfield 9, 3) := by decide +kernel
theorem dX10_init_102 : decode cX10_init 102 = .ok (.bipush 10, 2) := by decide +kernel
theorem dX10_init_104 : decode cX10_init 104 = .ok (.invokestatic 46, 3) := by decide +kernel
theorem dX10_init_107 : decode cX10_init 107 = .ok (.return_, 1) := by decide +kernel
theorem dX10_thrown_0 : decode cX10_thrown 0 = .ok (.aload_n 0, 1) := by decide +kernel
theorem dX10_thrown_1 : decode cX10_thrown 1 = .ok (.getfield 50, 3) := by decide +kernel
theorem dX10_thrown_4 : decode cX10_thrown 4 = .ok (.ireturn, 1) := by decide +kernel
theorem dX10_in_0 : decode cX10_in 0 = .ok (.iload_n 0, 1) := by decide +kernel
theorem dX10_in_1 : decode cX10_in 1 = .ok (.iload_n 1, 1) := by decide +kernel
theorem dX10_in_2 : decode cX10_in 2 = .ok (.if_icmp .lt 12, 3) := by decide +kernel
theorem dX10_in_5 : decode cX10_in 5 = .ok (.iload_n 0, 1) := by decide +kernel
theorem dX10_in_6 : decode cX10_in 6 = .ok (.iload_n 2, 1) := by decide +kernel
theorem dX10_in_7 : decode cX10_in 7 = .ok (.if_icmp .gt 7, 3) := by decide +kernel
theorem dX10_in_10 : decode cX10_in 10 = .ok (.iconst 1, 1) := by decide +kernel
theorem dX10_in_11 : decode cX10_in 11 = .ok (.goto 4, 3) := by decide +kernel
theorem dX10_in_14 : decode cX10_in 14 = .ok (.iconst 0, 1) := by decide +kernel
theorem dX10_in_15 : decode cX10_in 15 = .ok (.ireturn, 1) := by decide +kernel
theorem dX10_copies_0 : decode cX10_copies 0 = .ok (.iconst 0, 1) := by decide +kernel
theorem dX10_copies_1 : decode cX10_copies 1 = .ok (.istore 4, 2) := by decide +kernel
theorem dX10_copies_3 : decode cX10_copies 3 = .ok (.iload 4, 2) := by decide +kernel
theorem dX10_copies_5 : decode cX10_copies 5 = .ok (.sipush 5061, 3) := by decide +kernel
theorem dX10_copies_8 : decode cX10_copies 8 = .ok (.if_icmp .ge 29, 3) := by decide +kernel
theorem dX10_copies_11 : decode cX10_copies 11 = .ok (.aload_n 2, 1) := by decide +kernel
theorem dX10_copies_12 : decode cX10_copies 12 = .ok (.sipush 5061, 3) := by decide +kernel
theorem dX10_copies_15 : decode cX10_copies 15 = .ok (.iload_n 3, 1) := by decide +kernel
theorem dX10_copies_16 : decode cX10_copies 16 = .ok (.imul, 1) := by decide +kernel
theorem dX10_copies_17 : decode cX10_copies 17 = .ok (.iload 4, 2) := by decide +kernel
theorem dX10_copies_19 : decode cX10_copies 19 = .ok (.iadd, 1) := by decide +kernel
theorem dX10_copies_20 : decode cX10_copies 20 = .ok (.aload_n 0, 1) := by decide +kernel
theorem dX10_copies_21 : decode cX10_copies 21 = .ok (.sipush 5061, 3) := by decide +kernel
theorem dX10_copies_24 : decode cX10_copies 24 = .ok (.iload_n 1, 1) := by decide +kernel
theorem dX10_copies_25 : decode cX10_copies 25 = .ok (.imul, 1) := by decide +kernel
theorem dX10_copies_26 : decode cX10_copies 26 = .ok (.iload 4, 2) := by decide +kernel
theorem dX10_copies_28 : decode cX10_copies 28 = .ok (.iadd, 1) := by decide +kernel
theorem dX10_copies_29 : decode cX10_copies 29 = .ok (.iaload, 1) := by decide +kernel
theorem dX10_copies_30 : decode cX10_copies 30 = .ok (.iastore, 1) := by decide +kernel
theorem dX10_copies_31 : decode cX10_copies 31 = .ok (.iinc 4 1, 3) := by decide +kernel
theorem dX10_copies_34 : decode cX10_copies 34 = .ok (.goto (-31), 3) := by decide +kernel
theorem dX10_copies_37 : decode cX10_copies 37 = .ok (.return_, 1) := by decide +kernel
theorem dX10_copiesRents_0 : decode cX10_copiesRents 0 = .ok (.iconst 0, 1) := by decide +kernel
theorem dX10_copiesRents_1 : decode cX10_copiesRents 1 = .ok (.istore 4, 2) := by decide +kernel
theorem dX10_copiesRents_3 : decode cX10_copiesRents 3 = .ok (.iload 4, 2) := by decide +kernel
theorem dX10_copiesRents_5 : decode cX10_copiesRents 5 = .ok (.bipush 8, 2) := by decide +kernel
theorem dX10_copiesRents_7 : decode cX10_copiesRents 7 = .ok (.if_icmp .ge 27, 3) := by decide +kernel
theorem dX10_copiesRents_10 : decode cX10_copiesRents 10 = .ok (.aload_n 2, 1) := by decide +kernel
theorem dX10_copiesRents_11 : decode cX10_copiesRents 11 = .ok (.bipush 8, 2) := by decide +kernel
theorem dX10_copiesRents_13 : decode cX10_copiesRents 13 = .ok (.iload_n 3, 1) := by decide +kernel
theorem dX10_copiesRents_14 : decode cX10_copiesRents 14 = .ok (.imul, 1) := by decide +kernel
theorem dX10_copiesRents_15 : decode cX10_copiesRents 15 = .ok (.iload 4, 2) := by decide +kernel
theorem dX10_copiesRents_17 : decode cX10_copiesRents 17 = .ok (.iadd, 1) := by decide +kernel
theorem dX10_copiesRents_18 : decode cX10_copiesRents 18 = .ok (.aload_n 0, 1) := by decide +kernel
theorem dX10_copiesRents_19 : decode cX10_copiesRents 19 = .ok (.bipush 8, 2) := by decide +kernel
theorem dX10_copiesRents_21 : decode cX10_copiesRents 21 = .ok (.iload_n 1, 1) := by decide +kernel
theorem dX10_copiesRents_22 : decode cX10_copiesRents 22 = .ok (.imul, 1) := by decide +kernel
theorem dX10_copiesRents_23 : decode cX10_copiesRents 23 = .ok (.iload 4, 2) := by decide +kernel
theorem dX10_copiesRents_25 : decode cX10_copiesRents 25 = .ok (.iadd, 1) := by decide +kernel
theorem dX10_copiesRents_26 : decode cX10_copiesRents 26 = .ok (.faload, 1) := by decide +kernel
theorem dX10_copiesRents_27 : decode cX10_copiesRents 27 = .ok (.fastore, 1) := by decide +kernel
theorem dX10_copiesRents_28 : decode cX10_copiesRents 28 = .ok (.iinc 4 1, 3) := by decide +kernel
theorem dX10_copiesRents_31 : decode cX10_copiesRents 31 = .ok (.goto (-28), 3) := by decide +kernel
theorem dX10_copiesRents_34 : decode cX10_copiesRents 34 = .ok (.return_, 1) := by decide +kernel
theorem dX10_begins_0 : decode cX10_begins 0 = .ok (.iconst 0, 1) := by decide +kernel
theorem dX10_begins_1 : decode cX10_begins 1 = .ok (.istore_n 2, 1) := by decide +kernel
theorem dX10_begins_2 : decode cX10_begins 2 = .ok (.iload_n 2, 1) := by decide +kernel
theorem dX10_begins_3 : decode cX10_begins 3 = .ok (.sipush 5061, 3) := by decide +kernel
theorem dX10_begins_6 : decode cX10_begins 6 = .ok (.if_icmp .ge 13, 3) := by decide +kernel
theorem dX10_begins_9 : decode cX10_begins 9 = .ok (.aload_n 0, 1) := by decide +kernel
theorem dX10_begins_10 : decode cX10_begins 10 = .ok (.iload_n 2, 1) := by decide +kernel
theorem dX10_begins_11 : decode cX10_begins 11 = .ok (.iconst 0, 1) := by decide +kernel
theorem dX10_begins_12 : decode cX10_begins 12 = .ok (.iastore, 1) := by decide +kernel
theorem dX10_begins_13 : decode cX10_begins 13 = .ok (.iinc 2 1, 3) := by decide +kernel
theorem dX10_begins_16 : decode cX10_begins 16 = .ok (.goto (-14), 3) := by decide +kernel
theorem dX10_begins_19 : decode cX10_begins 19 = .ok (.aload_n 0, 1) := by decide +kernel
theorem dX10_begins_20 : decode cX10_begins 20 = .ok (.iconst 0, 1) := by decide +kernel
theorem dX10_begins_21 : decode cX10_begins 21 = .ok (.iload_n 1, 1) := by decide +kernel
theorem dX10_begins_22 : decode cX10_begins 22 = .ok (.iastore, 1) := by decide +kernel
theorem dX10_begins_23 : decode cX10_begins 23 = .ok (.aload_n 0, 1) := by decide +kernel
theorem dX10_begins_24 : decode cX10_begins 24 = .ok (.iconst 1, 1) := by decide +kernel
theorem dX10_begins_25 : decode cX10_begins 25 = .ok (.iconst 1, 1) := by decide +kernel
theorem dX10_begins_26 : decode cX10_begins 26 = .ok (.iastore, 1) := by decide +kernel
theorem dX10_begins_27 : decode cX10_begins 27 = .ok (.aload_n 0, 1) := by decide +kernel
theorem dX10_begins_28 : decode cX10_begins 28 = .ok (.sipush 407, 3) := by decide +kernel
theorem dX10_begins_31 : decode cX10_begins 31 = .ok (.iload_n 1, 1) := by decide +kernel
theorem dX10_begins_32 : decode cX10_begins 32 = .ok (.iastore, 1) := by decide +kernel
theorem dX10_begins_33 : decode cX10_begins 33 = .ok (.aload_n 0, 1) := by decide +kernel
theorem dX10_begins_34 : decode cX10_begins 34 = .ok (.sipush 409, 3) := by decide +kernel
theorem dX10_begins_37 : decode cX10_begins 37 = .ok (.bipush 102, 2) := by decide +kernel
theorem dX10_begins_39 : decode cX10_begins 39 = .ok (.iastore, 1) := by decide +kernel
theorem dX10_begins_40 : decode cX10_begins 40 = .ok (.aload_n 0, 1) := by decide +kernel
theorem dX10_begins_41 : decode cX10_begins 41 = .ok (.sipush 410, 3) := by decide +kernel
theorem dX10_begins_44 : decode cX10_begins 44 = .ok (.bipush 114, 2) := by decide +kernel
theorem dX10_begins_46 : decode cX10_begins 46 = .ok (.iastore, 1) := by decide +kernel
theorem dX10_begins_47 : decode cX10_begins 47 = .ok (.aload_n 0, 1) := by decide +kernel
theorem dX10_begins_48 : decode cX10_begins 48 = .ok (.sipush 411, 3) := by decide +kernel
theorem dX10_begins_51 : decode cX10_begins 51 = .ok (.bipush 101, 2) := by decide +kernel
theorem dX10_begins_53 : decode cX10_begins 53 = .ok (.iastore, 1) := by decide +kernel
theorem dX10_begins_54 : decode cX10_begins 54 = .ok (.aload_n 0, 1) := by decide +kernel
theorem dX10_begins_55 : decode cX10_begins 55 = .ok (.sipush 412, 3) := by decide +kernel
theorem dX10_begins_58 : decode cX10_begins 58 = .ok (.bipush 101, 2) := by decide +kernel
theorem dX10_begins_60 : decode cX10_begins 60 = .ok (.iastore, 1) := by decide +kernel
theorem dX10_begins_61 : decode cX10_begins 61 = .ok (.return_, 1) := by decide +kernel
theorem dX10_pool_0 : decode cX10_pool 0 = .ok (.aload_n 0, 1) := by decide +kernel
theorem dX10_pool_1 : decode cX10_pool 1 = .ok (.getfield 9, 3) := by decide +kernel
theorem dX10_pool_4 : decode cX10_pool 4 = .ok (.sipush 407, 3) := by decide +kernel
theorem dX10_pool_7 : decode cX10_pool 7 = .ok (.bipush 8, 2) := by decide +kernel
theorem dX10_pool_9 : decode cX10_pool 9 = .ok (.iload_n 1, 1) := by decide +kernel
theorem dX10_pool_10 : decode cX10_pool 10 = .ok (.imul, 1) := by decide +kernel
theorem dX10_pool_11 : decode cX10_pool 11 = .ok (.iadd, 1) := by decide +kernel
theorem dX10_pool_12 : decode cX10_pool 12 = .ok (.iload_n 2, 1) := by decide +kernel
theorem dX10_pool_13 : decode cX10_pool 13 = .ok (.iadd, 1) := by decide +kernel
theorem dX10_pool_14 : decode cX10_pool 14 = .ok (.iaload, 1) := by decide +kernel
theorem dX10_pool_15 : decode cX10_pool 15 = .ok (.ireturn, 1) := by decide +kernel
theorem dX10_entry_0 : decode cX10_entry 0 = .ok (.aload_n 0, 1) := by decide +kernel
theorem dX10_entry_1 : decode cX10_entry 1 = .ok (.getfield 9, 3) := by decide +kernel
theorem dX10_entry_4 : decode cX10_entry 4 = .ok (.sipush 471, 3) := by decide +kernel
theorem dX10_entry_7 : decode cX10_entry 7 = .ok (.bipush 14, 2) := by decide +kernel
theorem dX10_entry_9 : decode cX10_entry 9 = .ok (.iload_n 1, 1) := by decide +kernel
theorem dX10_entry_10 : decode cX10_entry 10 = .ok (.imul, 1) := by decide +kernel
theorem dX10_entry_11 : decode cX10_entry 11 = .ok (.iadd, 1) := by decide +kernel
theorem dX10_entry_12 : decode cX10_entry 12 = .ok (.iload_n 2, 1) := by decide +kernel
theorem dX10_entry_13 : decode cX10_entry 13 = .ok (.iadd, 1) := by decide +kernel
theorem dX10_entry_14 : decode cX10_entry 14 = .ok (.iaload, 1) := by decide +kernel
theorem dX10_entry_15 : decode cX10_entry 15 = .ok (.ireturn, 1) := by decide +kernel
theorem dX10_hold_0 : decode cX10_hold 0 = .ok (.aload_n 0, 1) := by decide +kernel
theorem dX10_hold_1 : decode cX10_hold 1 = .ok (.getfield 9, 3) := by decide +kernel
theorem dX10_hold_4 : decode cX10_hold 4 = .ok (.sipush 4671, 3) := by decide +kernel
theorem dX10_hold_7 : decode cX10_hold 7 = .ok (.iconst 5, 1) := by decide +kernel
theorem dX10_hold_8 : decode cX10_hold 8 = .ok (.iload_n 1, 1) := by decide +kernel
theorem dX10_hold_9 : decode cX10_hold 9 = .ok (.imul, 1) := by decide +kernel
theorem dX10_hold_10 : decode cX10_hold 10 = .ok (.iadd, 1) := by decide +kernel
theorem dX10_hold_11 : decode cX10_hold 11 = .ok (.iload_n 2, 1) := by decide +kernel
theorem dX10_hold_12 : decode cX10_hold 12 = .ok (.iadd, 1) := by decide +kernel
theorem dX10_hold_13 : decode cX10_hold 13 = .ok (.iaload, 1) := by decide +kernel
theorem dX10_hold_14 : decode cX10_hold 14 = .ok (.ireturn, 1) := by decide +kernel
theorem dX10_setsHold_0 : decode cX10_setsHold 0 = .ok (.aload_n 0, 1) := by decide +kernel
theorem dX10_setsHold_1 : decode cX10_setsHold 1 = .ok (.getfield 9, 3) := by decide +kernel
theorem dX10_setsHold_4 : decode cX10_setsHold 4 = .ok (.sipush 4671, 3) := by decide +kernel
theorem dX10_setsHold_7 : decode cX10_setsHold 7 = .ok (.iconst 5, 1) := by decide +kernel
theorem dX10_setsHold_8 : decode cX10_setsHold 8 = .ok (.iload_n 1, 1) := by decide +kernel
theorem dX10_setsHold_9 : decode cX10_setsHold 9 = .ok (.imul, 1) := by decide +kernel
theorem dX10_setsHold_10 : decode cX10_setsHold 10 = .ok (.iadd, 1) := by decide +kernel
theorem dX10_setsHold_11 : decode cX10_setsHold 11 = .ok (.iload_n 2, 1) := by decide +kernel
theorem dX10_setsHold_12 : decode cX10_setsHold 12 = .ok (.iadd, 1) := by decide +kernel
theorem dX10_setsHold_13 : decode cX10_setsHold 13 = .ok (.iload_n 3, 1) := by decide +kernel
theorem dX10_setsHold_14 : decode cX10_setsHold 14 = .ok (.iastore, 1) := by decide +kernel
theorem dX10_setsHold_15 : decode cX10_setsHold 15 = .ok (.return_, 1) := by decide +kernel
theorem dX10_isThrown_0 : decode cX10_isThrown 0 = .ok (.aload_n 0, 1) := by decide +kernel
theorem dX10_isThrown_1 : decode cX10_isThrown 1 = .ok (.iload_n 1, 1) := by decide +kernel
theorem dX10_isThrown_2 : decode cX10_isThrown 2 = .ok (.ifCond .eq 7, 3) := by decide +kernel
theorem dX10_isThrown_5 : decode cX10_isThrown 5 = .ok (.iconst 0, 1) := by decide +kernel
theorem dX10_isThrown_6 : decode cX10_isThrown 6 = .ok (.goto 4, 3) := by decide +kernel
theorem dX10_isThrown_9 : decode cX10_isThrown 9 = .ok (.iload_n 2, 1) := by decide +kernel
theorem dX10_isThrown_10 : decode cX10_isThrown 10 = .ok (.putfield 50, 3) := by decide +kernel
theorem dX10_isThrown_13 : decode cX10_isThrown 13 = .ok (.iload_n 1, 1) := by decide +kernel
theorem dX10_isThrown_14 : decode cX10_isThrown 14 = .ok (.ifCond .ne 7, 3) := by decide +kernel
theorem dX10_isThrown_17 : decode cX10_isThrown 17 = .ok (.iconst 1, 1) := by decide +kernel
theorem dX10_isThrown_18 : decode cX10_isThrown 18 = .ok (.goto 4, 3) := by decide +kernel
theorem dX10_isThrown_21 : decode cX10_isThrown 21 = .ok (.iconst 0, 1) := by decide +kernel
theorem dX10_isThrown_22 : decode cX10_isThrown 22 = .ok (.ireturn, 1) := by decide +kernel
theorem dX10_isPool_0 : decode cX10_isPool 0 = .ok (.iload_n 1, 1) := by decide +kernel
theorem dX10_isPool_1 : decode cX10_isPool 1 = .ok (.iconst 0, 1) := by decide +kernel
theorem dX10_isPool_2 : decode cX10_isPool 2 = .ok (.aload_n 0, 1) := by decide +kernel
theorem dX10_isPool_3 : decode cX10_isPool 3 = .ok (.getfield 9, 3) := by decide +kernel
theorem dX10_isPool_6 : decode cX10_isPool 6 = .ok (.iconst 1, 1) := by decide +kernel
theorem dX10_isPool_7 : decode cX10_isPool 7 = .ok (.iaload, 1) := by decide +kernel
theorem dX10_isPool_8 : decode cX10_isPool 8 = .ok (.iconst 1, 1) := by decide +kernel
theorem dX10_isPool_9 : decode cX10_isPool 9 = .ok (.isub, 1) := by decide +kernel
theorem dX10_isPool_10 : decode cX10_isPool 10 = .ok (.invokestatic 54, 3) := by decide +kernel
theorem dX10_isPool_13 : decode cX10_isPool 13 = .ok (.ireturn, 1) := by decide +kernel
theorem dX10_isBlock_0 : decode cX10_isBlock 0 = .ok (.iload_n 1, 1) := by decide +kernel
theorem dX10_isBlock_1 : decode cX10_isBlock 1 = .ok (.iconst 0, 1) := by decide +kernel
theorem dX10_isBlock_2 : decode cX10_isBlock 2 = .ok (.aload_n 0, 1) := by decide +kernel
theorem dX10_isBlock_3 : decode cX10_isBlock 3 = .ok (.getfield 9, 3) := by decide +kernel
theorem dX10_isBlock_6 : decode cX10_isBlock 6 = .ok (.iconst 0, 1) := by decide +kernel
theorem dX10_isBlock_7 : decode cX10_isBlock 7 = .ok (.iaload, 1) := by decide +kernel
theorem dX10_isBlock_8 : decode cX10_isBlock 8 = .ok (.iconst 1, 1) := by decide +kernel
theorem dX10_isBlock_9 : decode cX10_isBlock 9 = .ok (.isub, 1) := by decide +kernel
theorem dX10_isBlock_10 : decode cX10_isBlock 10 = .ok (.invokestatic 54, 3) := by decide +kernel
theorem dX10_isBlock_13 : decode cX10_isBlock 13 = .ok (.ireturn, 1) := by decide +kernel
theorem dX10_isEntry_0 : decode cX10_isEntry 0 = .ok (.iload_n 1, 1) := by decide +kernel
theorem dX10_isEntry_1 : decode cX10_isEntry 1 = .ok (.iconst 0, 1) := by decide +kernel
theorem dX10_isEntry_2 : decode cX10_isEntry 2 = .ok (.aload_n 0, 1) := by decide +kernel
theorem dX10_isEntry_3 : decode cX10_isEntry 3 = .ok (.getfield 9, 3) := by decide +kernel
theorem dX10_isEntry_6 : decode cX10_isEntry 6 = .ok (.iconst 4, 1) := by decide +kernel
theorem dX10_isEntry_7 : decode cX10_isEntry 7 = .ok (.iaload, 1) := by decide +kernel
theorem dX10_isEntry_8 : decode cX10_isEntry 8 = .ok (.iconst 1, 1) := by decide +kernel
theorem dX10_isEntry_9 : decode cX10_isEntry 9 = .ok (.isub, 1) := by decide +kernel
theorem dX10_isEntry_10 : decode cX10_isEntry 10 = .ok (.invokestatic 54, 3) := by decide +kernel
theorem dX10_isEntry_13 : decode cX10_isEntry 13 = .ok (.ireturn, 1) := by decide +kernel
theorem dX10_isHold_0 : decode cX10_isHold 0 = .ok (.iload_n 1, 1) := by decide +kernel
theorem dX10_isHold_1 : decode cX10_isHold 1 = .ok (.iconst 0, 1) := by decide +kernel
theorem dX10_isHold_2 : decode cX10_isHold 2 = .ok (.aload_n 0, 1) := by decide +kernel
theorem dX10_isHold_3 : decode cX10_isHold 3 = .ok (.getfield 9, 3) := by decide +kernel
theorem dX10_isHold_6 : decode cX10_isHold 6 = .ok (.iconst 5, 1) := by decide +kernel
theorem dX10_isHold_7 : decode cX10_isHold 7 = .ok (.iaload, 1) := by decide +kernel
theorem dX10_isHold_8 : decode cX10_isHold 8 = .ok (.iconst 1, 1) := by decide +kernel
theorem dX10_isHold_9 : decode cX10_isHold 9 = .ok (.isub, 1) := by decide +kernel
theorem dX10_isHold_10 : decode cX10_isHold 10 = .ok (.invokestatic 54, 3) := by decide +kernel
theorem dX10_isHold_13 : decode cX10_isHold 13 = .ok (.ireturn, 1) := by decide +kernel
theorem dX10_balanceOf_0 : decode cX10_balanceOf 0 = .ok (.iconst 0, 1) := by decide +kernel
theorem dX10_balanceOf_1 : decode cX10_balanceOf 1 = .ok (.istore_n 2, 1) := by decide +kernel
theorem dX10_balanceOf_2 : decode cX10_balanceOf 2 = .ok (.iconst 0, 1) := by decide +kernel
theorem dX10_balanceOf_3 : decode cX10_balanceOf 3 = .ok (.istore_n 3, 1) := by decide +kernel
theorem dX10_balanceOf_4 : decode cX10_balanceOf 4 = .ok (.iload_n 3, 1) := by decide +kernel
theorem dX10_balanceOf_5 : decode cX10_balanceOf 5 = .ok (.aload_n 0, 1) := by decide +kernel
theorem dX10_balanceOf_6 : decode cX10_balanceOf 6 = .ok (.getfield 9, 3) := by decide +kernel
theorem dX10_balanceOf_9 : decode cX10_balanceOf 9 = .ok (.iconst 0, 1) := by decide +kernel
theorem dX10_balanceOf_10 : decode cX10_balanceOf 10 = .ok (.iaload, 1) := by decide +kernel
theorem dX10_balanceOf_11 : decode cX10_balanceOf 11 = .ok (.if_icmp .ge 30, 3) := by decide +kernel
theorem dX10_balanceOf_14 : decode cX10_balanceOf 14 = .ok (.iload_n 2, 1) := by decide +kernel
theorem dX10_balanceOf_15 : decode cX10_balanceOf 15 = .ok (.aload_n 0, 1) := by decide +kernel
theorem dX10_balanceOf_16 : decode cX10_balanceOf 16 = .ok (.getfield 9, 3) := by decide +kernel
theorem dX10_balanceOf_19 : decode cX10_balanceOf 19 = .ok (.bipush 7, 2) := by decide +kernel
theorem dX10_balanceOf_21 : decode cX10_balanceOf 21 = .ok (.iload_n 3, 1) := by decide +kernel
theorem dX10_balanceOf_22 : decode cX10_balanceOf 22 = .ok (.iadd, 1) := by decide +kernel
theorem dX10_balanceOf_23 : decode cX10_balanceOf 23 = .ok (.iaload, 1) := by decide +kernel
theorem dX10_balanceOf_24 : decode cX10_balanceOf 24 = .ok (.iload_n 1, 1) := by decide +kernel
theorem dX10_balanceOf_25 : decode cX10_balanceOf 25 = .ok (.if_icmp .ne 7, 3) := by decide +kernel
theorem dX10_balanceOf_28 : decode cX10_balanceOf 28 = .ok (.iconst 1, 1) := by decide +kernel
theorem dX10_balanceOf_29 : decode cX10_balanceOf 29 = .ok (.goto 4, 3) := by decide +kernel
theorem dX10_balanceOf_32 : decode cX10_balanceOf 32 = .ok (.iconst 0, 1) := by decide +kernel
theorem dX10_balanceOf_33 : decode cX10_balanceOf 33 = .ok (.iadd, 1) := by decide +kernel
theorem dX10_balanceOf_34 : decode cX10_balanceOf 34 = .ok (.istore_n 2, 1) := by decide +kernel
theorem dX10_balanceOf_35 : decode cX10_balanceOf 35 = .ok (.iinc 3 1, 3) := by decide +kernel
theorem dX10_balanceOf_38 : decode cX10_balanceOf 38 = .ok (.goto (-34), 3) := by decide +kernel
theorem dX10_balanceOf_41 : decode cX10_balanceOf 41 = .ok (.iload_n 2, 1) := by decide +kernel
theorem dX10_balanceOf_42 : decode cX10_balanceOf 42 = .ok (.ireturn, 1) := by decide +kernel
theorem dX10_reserved_0 : decode cX10_reserved 0 = .ok (.iconst 0, 1) := by decide +kernel
theorem dX10_reserved_1 : decode cX10_reserved 1 = .ok (.istore_n 3, 1) := by decide +kernel
theorem dX10_reserved_2 : decode cX10_reserved 2 = .ok (.iconst 0, 1) := by decide +kernel
theorem dX10_reserved_3 : decode cX10_reserved 3 = .ok (.istore 4, 2) := by decide +kernel
theorem dX10_reserved_5 : decode cX10_reserved 5 = .ok (.iload 4, 2) := by decide +kernel
theorem dX10_reserved_7 : decode cX10_reserved 7 = .ok (.aload_n 0, 1) := by decide +kernel
theorem dX10_reserved_8 : decode cX10_reserved 8 = .ok (.getfield 9, 3) := by decide +kernel
theorem dX10_reserved_11 : decode cX10_reserved 11 = .ok (.iconst 5, 1) := by decide +kernel
theorem dX10_reserved_12 : decode cX10_reserved 12 = .ok (.iaload, 1) := by decide +kernel
theorem dX10_reserved_13 : decode cX10_reserved 13 = .ok (.if_icmp .ge 44, 3) := by decide +kernel
theorem dX10_reserved_16 : decode cX10_reserved 16 = .ok (.iload_n 3, 1) := by decide +kernel
theorem dX10_reserved_17 : decode cX10_reserved 17 = .ok (.aload_n 0, 1) := by decide +kernel
theorem dX10_reserved_18 : decode cX10_reserved 18 = .ok (.iload 4, 2) := by decide +kernel
theorem dX10_reserved_20 : decode cX10_reserved 20 = .ok (.iconst 4, 1) := by decide +kernel
theorem dX10_reserved_21 : decode cX10_reserved 21 = .ok (.invokevirtual 58, 3) := by decide +kernel
theorem dX10_reserved_24 : decode cX10_reserved 24 = .ok (.ifCond .ne 24, 3) := by decide +kernel
theorem dX10_reserved_27 : decode cX10_reserved 27 = .ok (.aload_n 0, 1) := by decide +kernel
theorem dX10_reserved_28 : decode cX10_reserved 28 = .ok (.iload 4, 2) := by decide +kernel
theorem dX10_reserved_30 : decode cX10_reserved 30 = .ok (.iload_n 2, 1) := by decide +kernel
theorem dX10_reserved_31 : decode cX10_reserved 31 = .ok (.invokevirtual 58, 3) := by decide +kernel
theorem dX10_reserved_34 : decode cX10_reserved 34 = .ok (.iload_n 1, 1) := by decide +kernel
theorem dX10_reserved_35 : decode cX10_reserved 35 = .ok (.if_icmp .ne 13, 3) := by decide +kernel
theorem dX10_reserved_38 : decode cX10_reserved 38 = .ok (.aload_n 0, 1) := by decide +kernel
theorem dX10_reserved_39 : decode cX10_reserved 39 = .ok (.iload 4, 2) := by decide +kernel
theorem dX10_reserved_41 : decode cX10_reserved 41 = .ok (.iconst 2, 1) := by decide +kernel
theorem dX10_reserved_42 : decode cX10_reserved 42 = .ok (.invokevirtual 58, 3) := by decide +kernel
theorem dX10_reserved_45 : decode cX10_reserved 45 = .ok (.goto 4, 3) := by decide +kernel
theorem dX10_reserved_48 : decode cX10_reserved 48 = .ok (.iconst 0, 1) := by decide +kernel
theorem dX10_reserved_49 : decode cX10_reserved 49 = .ok (.iadd, 1) := by decide +kernel
theorem dX10_reserved_50 : decode cX10_reserved 50 = .ok (.istore_n 3, 1) := by decide +kernel
theorem dX10_reserved_51 : decode cX10_reserved 51 = .ok (.iinc 4 1, 3) := by decide +kernel
theorem dX10_reserved_54 : decode cX10_reserved 54 = .ok (.goto (-49), 3) := by decide +kernel
theorem dX10_reserved_57 : decode cX10_reserved 57 = .ok (.iload_n 3, 1) := by decide +kernel
theorem dX10_reserved_58 : decode cX10_reserved 58 = .ok (.ireturn, 1) := by decide +kernel
theorem dX10_availableOf_0 : decode cX10_availableOf 0 = .ok (.aload_n 0, 1) := by decide +kernel
theorem dX10_availableOf_1 : decode cX10_availableOf 1 = .ok (.iload_n 1, 1) := by decide +kernel
theorem dX10_availableOf_2 : decode cX10_availableOf 2 = .ok (.invokevirtual 62, 3) := by decide +kernel
theorem dX10_availableOf_5 : decode cX10_availableOf 5 = .ok (.aload_n 0, 1) := by decide +kernel
theorem dX10_availableOf_6 : decode cX10_availableOf 6 = .ok (.iload_n 1, 1) := by decide +kernel
theorem dX10_availableOf_7 : decode cX10_availableOf 7 = .ok (.iconst 0, 1) := by decide +kernel
theorem dX10_availableOf_8 : decode cX10_availableOf 8 = .ok (.invokevirtual 66, 3) := by decide +kernel
theorem dX10_availableOf_11 : decode cX10_availableOf 11 = .ok (.isub, 1) := by decide +kernel
theorem dX10_availableOf_12 : decode cX10_availableOf 12 = .ok (.ireturn, 1) := by decide +kernel
theorem dX10_roomOf_0 : decode cX10_roomOf 0 = .ok (.aload_n 0, 1) := by decide +kernel
theorem dX10_roomOf_1 : decode cX10_roomOf 1 = .ok (.iload_n 1, 1) := by decide +kernel
theorem dX10_roomOf_2 : decode cX10_roomOf 2 = .ok (.iconst 0, 1) := by decide +kernel
theorem dX10_roomOf_3 : decode cX10_roomOf 3 = .ok (.invokevirtual 69, 3) := by decide +kernel
theorem dX10_roomOf_6 : decode cX10_roomOf 6 = .ok (.aload_n 0, 1) := by decide +kernel
theorem dX10_roomOf_7 : decode cX10_roomOf 7 = .ok (.iload_n 1, 1) := by decide +kernel
theorem dX10_roomOf_8 : decode cX10_roomOf 8 = .ok (.invokevirtual 62, 3) := by decide +kernel
theorem dX10_roomOf_11 : decode cX10_roomOf 11 = .ok (.isub, 1) := by decide +kernel
theorem dX10_roomOf_12 : decode cX10_roomOf 12 = .ok (.aload_n 0, 1) := by decide +kernel
theorem dX10_roomOf_13 : decode cX10_roomOf 13 = .ok (.iload_n 1, 1) := by decide +kernel
theorem dX10_roomOf_14 : decode cX10_roomOf 14 = .ok (.iconst 1, 1) := by decide +kernel
theorem dX10_roomOf_15 : decode cX10_roomOf 15 = .ok (.invokevirtual 66, 3) := by decide +kernel
theorem dX10_roomOf_18 : decode cX10_roomOf 18 = .ok (.isub, 1) := by decide +kernel
theorem dX10_roomOf_19 : decode cX10_roomOf 19 = .ok (.ireturn, 1) := by decide +kernel
theorem dX10_picksNone_0 : decode cX10_picksNone 0 = .ok (.iconst 0, 1) := by decide +kernel
theorem dX10_picksNone_1 : decode cX10_picksNone 1 = .ok (.istore_n 1, 1) := by decide +kernel
theorem dX10_picksNone_2 : decode cX10_picksNone 2 = .ok (.iload_n 1, 1) := by decide +kernel
theorem dX10_picksNone_3 : decode cX10_picksNone 3 = .ok (.sipush 200, 3) := by decide +kernel
theorem dX10_picksNone_6 : decode cX10_picksNone 6 = .ok (.if_icmp .ge 16, 3) := by decide +kernel
theorem dX10_picksNone_9 : decode cX10_picksNone 9 = .ok (.aload_n 0, 1) := by decide +kernel
theorem dX10_picksNone_10 : decode cX10_picksNone 10 = .ok (.getfield 36, 3) := by decide +kernel
theorem dX10_picksNone_13 : decode cX10_picksNone 13 = .ok (.iload_n 1, 1) := by decide +kernel
theorem dX10_picksNone_14 : decode cX10_picksNone 14 = .ok (.iconst 0, 1) := by decide +kernel
theorem dX10_picksNone_15 : decode cX10_picksNone 15 = .ok (.bastore, 1) := by decide +kernel
theorem dX10_picksNone_16 : decode cX10_picksNone 16 = .ok (.iinc 1 1, 3) := by decide +kernel
theorem dX10_picksNone_19 : decode cX10_picksNone 19 = .ok (.goto (-17), 3) := by decide +kernel
theorem dX10_picksNone_22 : decode cX10_picksNone 22 = .ok (.return_, 1) := by decide +kernel
theorem dX10_isIn_0 : decode cX10_isIn 0 = .ok (.iload_n 1, 1) := by decide +kernel
theorem dX10_isIn_1 : decode cX10_isIn 1 = .ok (.aload_n 0, 1) := by decide +kernel
theorem dX10_isIn_2 : decode cX10_isIn 2 = .ok (.getfield 9, 3) := by decide +kernel
theorem dX10_isIn_5 : decode cX10_isIn 5 = .ok (.iconst 0, 1) := by decide +kernel
theorem dX10_isIn_6 : decode cX10_isIn 6 = .ok (.iaload, 1) := by decide +kernel
theorem dX10_isIn_7 : decode cX10_isIn 7 = .ok (.if_icmp .ge 20, 3) := by decide +kernel
theorem dX10_isIn_10 : decode cX10_isIn 10 = .ok (.aload_n 0, 1) := by decide +kernel
theorem dX10_isIn_11 : decode cX10_isIn 11 = .ok (.getfield 9, 3) := by decide +kernel
theorem dX10_isIn_14 : decode cX10_isIn 14 = .ok (.bipush 7, 2) := by decide +kernel
theorem dX10_isIn_16 : decode cX10_isIn 16 = .ok (.iload_n 1, 1) := by decide +kernel
theorem dX10_isIn_17 : decode cX10_isIn 17 = .ok (.iadd, 1) := by decide +kernel
theorem dX10_isIn_18 : decode cX10_isIn 18 = .ok (.iaload, 1) := by decide +kernel
theorem dX10_isIn_19 : decode cX10_isIn 19 = .ok (.iload_n 2, 1) := by decide +kernel
theorem dX10_isIn_20 : decode cX10_isIn 20 = .ok (.if_icmp .ne 7, 3) := by decide +kernel
theorem dX10_isIn_23 : decode cX10_isIn 23 = .ok (.iconst 1, 1) := by decide +kernel
theorem dX10_isIn_24 : decode cX10_isIn 24 = .ok (.goto 4, 3) := by decide +kernel
theorem dX10_isIn_27 : decode cX10_isIn 27 = .ok (.iconst 0, 1) := by decide +kernel
theorem dX10_isIn_28 : decode cX10_isIn 28 = .ok (.ireturn, 1) := by decide +kernel
theorem dX10_fittingRun_0 : decode cX10_fittingRun 0 = .ok (.iconst (-1), 1) := by decide +kernel
theorem dX10_fittingRun_1 : decode cX10_fittingRun 1 = .ok (.istore_n 3, 1) := by decide +kernel
theorem dX10_fittingRun_2 : decode cX10_fittingRun 2 = .ok (.sipush 201, 3) := by decide +kernel
theorem dX10_fittingRun_5 : decode cX10_fittingRun 5 = .ok (.istore 4, 2) := by decide +kernel
theorem dX10_fittingRun_7 : decode cX10_fittingRun 7 = .ok (.iconst 0, 1) := by decide +kernel
theorem dX10_fittingRun_8 : decode cX10_fittingRun 8 = .ok (.istore 5, 2) := by decide +kernel
theorem dX10_fittingRun_10 : decode cX10_fittingRun 10 = .ok (.iconst 0, 1) := by decide +kernel
theorem dX10_fittingRun_11 : decode cX10_fittingRun 11 = .ok (.istore 6, 2) := by decide +kernel
theorem dX10_fittingRun_13 : decode cX10_fittingRun 13 = .ok (.iload 6, 2) := by decide +kernel
theorem dX10_fittingRun_15 : decode cX10_fittingRun 15 = .ok (.aload_n 0, 1) := by decide +kernel
theorem dX10_fittingRun_16 : decode cX10_fittingRun 16 = .ok (.getfield 9, 3) := by decide +kernel
theorem dX10_fittingRun_19 : decode cX10_fittingRun 19 = .ok (.iconst 0, 1) := by decide +kernel
theorem dX10_fittingRun_20 : decode cX10_fittingRun 20 = .ok (.iaload, 1) := by decide +kernel
theorem dX10_fittingRun_21 : decode cX10_fittingRun 21 = .ok (.if_icmp .gt 57, 3) := by decide +kernel
theorem dX10_fittingRun_24 : decode cX10_fittingRun 24 = .ok (.aload_n 0, 1) := by decide +kernel
theorem dX10_fittingRun_25 : decode cX10_fittingRun 25 = .ok (.iload 6, 2) := by decide +kernel
theorem dX10_fittingRun_27 : decode cX10_fittingRun 27 = .ok (.iload_n 1, 1) := by decide +kernel
theorem dX10_fittingRun_28 : decode cX10_fittingRun 28 = .ok (.invokevirtual 72, 3) := by decide +kernel
theorem dX10_fittingRun_31 : decode cX10_fittingRun 31 = .ok (.ifCond .eq 6, 3) := by decide +kernel
theorem dX10_fittingRun_34 : decode cX10_fittingRun 34 = .ok (.goto 38, 3) := by decide +kernel
theorem dX10_fittingRun_37 : decode cX10_fittingRun 37 = .ok (.iload 6, 2) := by decide +kernel
theorem dX10_fittingRun_39 : decode cX10_fittingRun 39 = .ok (.iload 5, 2) := by decide +kernel
theorem dX10_fittingRun_41 : decode cX10_fittingRun 41 = .ok (.isub, 1) := by decide +kernel
theorem dX10_fittingRun_42 : decode cX10_fittingRun 42 = .ok (.iload_n 2, 1) := by decide +kernel
theorem dX10_fittingRun_43 : decode cX10_fittingRun 43 = .ok (.if_icmp .lt 23, 3) := by decide +kernel
theorem dX10_fittingRun_46 : decode cX10_fittingRun 46 = .ok (.iload 6, 2) := by decide +kernel
theorem dX10_fittingRun_48 : decode cX10_fittingRun 48 = .ok (.iload 5, 2) := by decide +kernel
theorem dX10_fittingRun_50 : decode cX10_fittingRun 50 = .ok (.isub, 1) := by decide +kernel
theorem dX10_fittingRun_51 : decode cX10_fittingRun 51 = .ok (.iload 4, 2) := by decide +kernel
theorem dX10_fittingRun_53 : decode cX10_fittingRun 53 = .ok (.if_icmp .ge 13, 3) := by decide +kernel
theorem dX10_fittingRun_56 : decode cX10_fittingRun 56 = .ok (.iload 5, 2) := by decide +kernel
theorem dX10_fittingRun_58 : decode cX10_fittingRun 58 = .ok (.istore_n 3, 1) := by decide +kernel
theorem dX10_fittingRun_59 : decode cX10_fittingRun 59 = .ok (.iload 6, 2) := by decide +kernel
theorem dX10_fittingRun_61 : decode cX10_fittingRun 61 = .ok (.iload 5, 2) := by decide +kernel
theorem dX10_fittingRun_63 : decode cX10_fittingRun 63 = .ok (.isub, 1) := by decide +kernel
theorem dX10_fittingRun_64 : decode cX10_fittingRun 64 = .ok (.istore 4, 2) := by decide +kernel
theorem dX10_fittingRun_66 : decode cX10_fittingRun 66 = .ok (.iload 6, 2) := by decide +kernel
theorem dX10_fittingRun_68 : decode cX10_fittingRun 68 = .ok (.iconst 1, 1) := by decide +kernel
theorem dX10_fittingRun_69 : decode cX10_fittingRun 69 = .ok (.iadd, 1) := by decide +kernel
theorem dX10_fittingRun_70 : decode cX10_fittingRun 70 = .ok (.istore 5, 2) := by decide +kernel
theorem dX10_fittingRun_72 : decode cX10_fittingRun 72 = .ok (.iinc 6 1, 3) := by decide +kernel
theorem dX10_fittingRun_75 : decode cX10_fittingRun 75 = .ok (.goto (-62), 3) := by decide +kernel
theorem dX10_fittingRun_78 : decode cX10_fittingRun 78 = .ok (.iload_n 3, 1) := by decide +kernel
theorem dX10_fittingRun_79 : decode cX10_fittingRun 79 = .ok (.ireturn, 1) := by decide +kernel
theorem dX10_nextPick_0 : decode cX10_nextPick 0 = .ok (.iconst (-1), 1) := by decide +kernel
theorem dX10_nextPick_1 : decode cX10_nextPick 1 = .ok (.istore_n 3, 1) := by decide +kernel
theorem dX10_nextPick_2 : decode cX10_nextPick 2 = .ok (.iconst 0, 1) := by decide +kernel
theorem dX10_nextPick_3 : decode cX10_nextPick 3 = .ok (.istore 4, 2) := by decide +kernel
theorem dX10_nextPick_5 : decode cX10_nextPick 5 = .ok (.iload 4, 2) := by decide +kernel
theorem dX10_nextPick_7 : decode cX10_nextPick 7 = .ok (.aload_n 0, 1) := by decide +kernel
theorem dX10_nextPick_8 : decode cX10_nextPick 8 = .ok (.getfield 9, 3) := by decide +kernel
theorem dX10_nextPick_11 : decode cX10_nextPick 11 = .ok (.iconst 0, 1) := by decide +kernel
theorem dX10_nextPick_12 : decode cX10_nextPick 12 = .ok (.iaload, 1) := by decide +kernel
theorem dX10_nextPick_13 : decode cX10_nextPick 13 = .ok (.if_icmp .ge 90, 3) := by decide +kernel
theorem dX10_nextPick_16 : decode cX10_nextPick 16 = .ok (.aload_n 0, 1) := by decide +kernel
theorem dX10_nextPick_17 : decode cX10_nextPick 17 = .ok (.iload 4, 2) := by decide +kernel
theorem dX10_nextPick_19 : decode cX10_nextPick 19 = .ok (.iload_n 1, 1) := by decide +kernel
theorem dX10_nextPick_20 : decode cX10_nextPick 20 = .ok (.invokevirtual 72, 3) := by decide +kernel
theorem dX10_nextPick_23 : decode cX10_nextPick 23 = .ok (.ifCond .eq 74, 3) := by decide +kernel
theorem dX10_nextPick_26 : decode cX10_nextPick 26 = .ok (.aload_n 0, 1) := by decide +kernel
theorem dX10_nextPick_27 : decode cX10_nextPick 27 = .ok (.getfield 36, 3) := by decide +kernel
theorem dX10_nextPick_30 : decode cX10_nextPick 30 = .ok (.iload 4, 2) := by decide +kernel
theorem dX10_nextPick_32 : decode cX10_nextPick 32 = .ok (.baload, 1) := by decide +kernel
theorem dX10_nextPick_33 : decode cX10_nextPick 33 = .ok (.ifCond .eq 6, 3) := by decide +kernel
theorem dX10_nextPick_36 : decode cX10_nextPick 36 = .ok (.goto 61, 3) := by decide +kernel
theorem dX10_nextPick_39 : decode cX10_nextPick 39 = .ok (.iload_n 3, 1) := by decide +kernel
theorem dX10_nextPick_40 : decode cX10_nextPick 40 = .ok (.iconst (-1), 1) := by decide +kernel
theorem dX10_nextPick_41 : decode cX10_nextPick 41 = .ok (.if_icmp .eq 37, 3) := by decide +kernel
theorem dX10_nextPick_44 : decode cX10_nextPick 44 = .ok (.iload_n 2, 1) := by decide +kernel
theorem dX10_nextPick_45 : decode cX10_nextPick 45 = .ok (.iconst 1, 1) := by decide +kernel
theorem dX10_nextPick_46 : decode cX10_nextPick 46 = .ok (.if_icmp .eq 32, 3) := by decide +kernel
theorem dX10_nextPick_49 : decode cX10_nextPick 49 = .ok (.iload_n 2, 1) := by decide +kernel
theorem dX10_nextPick_50 : decode cX10_nextPick 50 = .ok (.iconst 2, 1) := by decide +kernel
theorem dX10_nextPick_51 : decode cX10_nextPick 51 = .ok (.if_icmp .ne 31, 3) := by decide +kernel
theorem dX10_nextPick_54 : decode cX10_nextPick 54 = .ok (.aload_n 0, 1) := by decide +kernel
theorem dX10_nextPick_55 : decode cX10_nextPick 55 = .ok (.getfield 9, 3) := by decide +kernel
theorem dX10_nextPick_58 : decode cX10_nextPick 58 = .ok (.sipush 207, 3) := by decide +kernel
theorem dX10_nextPick_61 : decode cX10_nextPick 61 = .ok (.iload 4, 2) := by decide +kernel
theorem dX10_nextPick_63 : decode cX10_nextPick 63 = .ok (.iadd, 1) := by decide +kernel
theorem dX10_nextPick_64 : decode cX10_nextPick 64 = .ok (.iaload, 1) := by decide +kernel
theorem dX10_nextPick_65 : decode cX10_nextPick 65 = .ok (.aload_n 0, 1) := by decide +kernel
theorem dX10_nextPick_66 : decode cX10_nextPick 66 = .ok (.getfield 9, 3) := by decide +kernel
theorem dX10_nextPick_69 : decode cX10_nextPick 69 = .ok (.sipush 207, 3) := by decide +kernel
theorem dX10_nextPick_72 : decode cX10_nextPick 72 = .ok (.iload_n 3, 1) := by decide +kernel
theorem dX10_nextPick_73 : decode cX10_nextPick 73 = .ok (.iadd, 1) := by decide +kernel
theorem dX10_nextPick_74 : decode cX10_nextPick 74 = .ok (.iaload, 1) := by decide +kernel
theorem dX10_nextPick_75 : decode cX10_nextPick 75 = .ok (.if_icmp .ge 7, 3) := by decide +kernel
theorem dX10_nextPick_78 : decode cX10_nextPick 78 = .ok (.iconst 1, 1) := by decide +kernel
theorem dX10_nextPick_79 : decode cX10_nextPick 79 = .ok (.goto 4, 3) := by decide +kernel
theorem dX10_nextPick_82 : decode cX10_nextPick 82 = .ok (.iconst 0, 1) := by decide +kernel
theorem dX10_nextPick_83 : decode cX10_nextPick 83 = .ok (.istore 5, 2) := by decide +kernel
theorem dX10_nextPick_85 : decode cX10_nextPick 85 = .ok (.iload 5, 2) := by decide +kernel
theorem dX10_nextPick_87 : decode cX10_nextPick 87 = .ok (.ifCond .eq 8, 3) := by decide +kernel
theorem dX10_nextPick_90 : decode cX10_nextPick 90 = .ok (.iload 4, 2) := by decide +kernel
theorem dX10_nextPick_92 : decode cX10_nextPick 92 = .ok (.goto 4, 3) := by decide +kernel
theorem dX10_nextPick_95 : decode cX10_nextPick 95 = .ok (.iload_n 3, 1) := by decide +kernel
theorem dX10_nextPick_96 : decode cX10_nextPick 96 = .ok (.istore_n 3, 1) := by decide +kernel
theorem dX10_nextPick_97 : decode cX10_nextPick 97 = .ok (.iinc 4 1, 3) := by decide +kernel
theorem dX10_nextPick_100 : decode cX10_nextPick 100 = .ok (.goto (-95), 3) := by decide +kernel
theorem dX10_nextPick_103 : decode cX10_nextPick 103 = .ok (.iload_n 3, 1) := by decide +kernel
theorem dX10_nextPick_104 : decode cX10_nextPick 104 = .ok (.ireturn, 1) := by decide +kernel
theorem dX10_picks_0 : decode cX10_picks 0 = .ok (.aload_n 0, 1) := by decide +kernel
theorem dX10_picks_1 : decode cX10_picks 1 = .ok (.invokevirtual 76, 3) := by decide +kernel
theorem dX10_picks_4 : decode cX10_picks 4 = .ok (.iload_n 3, 1) := by decide +kernel
theorem dX10_picks_5 : decode cX10_picks 5 = .ok (.iconst 3, 1) := by decide +kernel
theorem dX10_picks_6 : decode cX10_picks 6 = .ok (.if_icmp .ne 12, 3) := by decide +kernel
theorem dX10_picks_9 : decode cX10_picks 9 = .ok (.aload_n 0, 1) := by decide +kernel
theorem dX10_picks_10 : decode cX10_picks 10 = .ok (.iload_n 1, 1) := by decide +kernel
theorem dX10_picks_11 : decode cX10_picks 11 = .ok (.iload_n 2, 1) := by decide +kernel
theorem dX10_picks_12 : decode cX10_picks 12 = .ok (.invokevirtual 79, 3) := by decide +kernel
theorem dX10_picks_15 : decode cX10_picks 15 = .ok (.goto 4, 3) := by decide +kernel
theorem dX10_picks_18 : decode cX10_picks 18 = .ok (.iconst (-1), 1) := by decide +kernel
theorem dX10_picks_19 : decode cX10_picks 19 = .ok (.istore 4, 2) := by decide +kernel
theorem dX10_picks_21 : decode cX10_picks 21 = .ok (.iconst 0, 1) := by decide +kernel
theorem dX10_picks_22 : decode cX10_picks 22 = .ok (.istore 5, 2) := by decide +kernel
theorem dX10_picks_24 : decode cX10_picks 24 = .ok (.iload 5, 2) := by decide +kernel
theorem dX10_picks_26 : decode cX10_picks 26 = .ok (.iload_n 2, 1) := by decide +kernel
theorem dX10_picks_27 : decode cX10_picks 27 = .ok (.if_icmp .ge 35, 3) := by decide +kernel
theorem dX10_picks_30 : decode cX10_picks 30 = .ok (.aload_n 0, 1) := by decide +kernel
theorem dX10_picks_31 : decode cX10_picks 31 = .ok (.getfield 36, 3) := by decide +kernel
theorem dX10_picks_34 : decode cX10_picks 34 = .ok (.iload 4, 2) := by decide +kernel
theorem dX10_picks_36 : decode cX10_picks 36 = .ok (.iconst (-1), 1) := by decide +kernel
theorem dX10_picks_37 : decode cX10_picks 37 = .ok (.if_icmp .ne 12, 3) := by decide +kernel
theorem dX10_picks_40 : decode cX10_picks 40 = .ok (.aload_n 0, 1) := by decide +kernel
theorem dX10_picks_41 : decode cX10_picks 41 = .ok (.iload_n 1, 1) := by decide +kernel
theorem dX10_picks_42 : decode cX10_picks 42 = .ok (.iload_n 3, 1) := by decide +kernel
theorem dX10_picks_43 : decode cX10_picks 43 = .ok (.invokevirtual 82, 3) := by decide +kernel
theorem dX10_picks_46 : decode cX10_picks 46 = .ok (.goto 8, 3) := by decide +kernel
theorem dX10_picks_49 : decode cX10_picks 49 = .ok (.iload 4, 2) := by decide +kernel
theorem dX10_picks_51 : decode cX10_picks 51 = .ok (.iload 5, 2) := by decide +kernel
theorem dX10_picks_53 : decode cX10_picks 53 = .ok (.iadd, 1) := by decide +kernel
theorem dX10_picks_54 : decode cX10_picks 54 = .ok (.iconst 1, 1) := by decide +kernel
theorem dX10_picks_55 : decode cX10_picks 55 = .ok (.bastore, 1) := by decide +kernel
theorem dX10_picks_56 : decode cX10_picks 56 = .ok (.iinc 5 1, 3) := by decide +kernel
theorem dX10_picks_59 : decode cX10_picks 59 = .ok (.goto (-35), 3) := by decide +kernel
theorem dX10_picks_62 : decode cX10_picks 62 = .ok (.return_, 1) := by decide +kernel
theorem dX10_adds_0 : decode cX10_adds 0 = .ok (.sipush 471, 3) := by decide +kernel
theorem dX10_adds_3 : decode cX10_adds 3 = .ok (.bipush 14, 2) := by decide +kernel
theorem dX10_adds_5 : decode cX10_adds 5 = .ok (.aload_n 0, 1) := by decide +kernel
theorem dX10_adds_6 : decode cX10_adds 6 = .ok (.getfield 9, 3) := by decide +kernel
theorem dX10_adds_9 : decode cX10_adds 9 = .ok (.iconst 4, 1) := by decide +kernel
theorem dX10_adds_10 : decode cX10_adds 10 = .ok (.iaload, 1) := by decide +kernel
theorem dX10_adds_11 : decode cX10_adds 11 = .ok (.imul, 1) := by decide +kernel
theorem dX10_adds_12 : decode cX10_adds 12 = .ok (.iadd, 1) := by decide +kernel
theorem dX10_adds_13 : decode cX10_adds 13 = .ok (.istore 7, 2) := by decide +kernel
theorem dX10_adds_15 : decode cX10_adds 15 = .ok (.aload_n 0, 1) := by decide +kernel
theorem dX10_adds_16 : decode cX10_adds 16 = .ok (.getfield 9, 3) := by decide +kernel
theorem dX10_adds_19 : decode cX10_adds 19 = .ok (.iload 7, 2) := by decide +kernel
theorem dX10_adds_21 : decode cX10_adds 21 = .ok (.iconst 0, 1) := by decide +kernel
theorem dX10_adds_22 : decode cX10_adds 22 = .ok (.iadd, 1) := by decide +kernel
theorem dX10_adds_23 : decode cX10_adds 23 = .ok (.iload_n 1, 1) := by decide +kernel
theorem dX10_adds_24 : decode cX10_adds 24 = .ok (.iastore, 1) := by decide +kernel
theorem dX10_adds_25 : decode cX10_adds 25 = .ok (.aload_n 0, 1) := by decide +kernel
theorem dX10_adds_26 : decode cX10_adds 26 = .ok (.getfield 9, 3) := by decide +kernel
theorem dX10_adds_29 : decode cX10_adds 29 = .ok (.iload 7, 2) := by decide +kernel
theorem dX10_adds_31 : decode cX10_adds 31 = .ok (.iconst 1, 1) := by decide +kernel
theorem dX10_adds_32 : decode cX10_adds 32 = .ok (.iadd, 1) := by decide +kernel
theorem dX10_adds_33 : decode cX10_adds 33 = .ok (.iload_n 2, 1) := by decide +kernel
theorem dX10_adds_34 : decode cX10_adds 34 = .ok (.iastore, 1) := by decide +kernel
theorem dX10_adds_35 : decode cX10_adds 35 = .ok (.aload_n 0, 1) := by decide +kernel
theorem dX10_adds_36 : decode cX10_adds 36 = .ok (.getfield 9, 3) := by decide +kernel
theorem dX10_adds_39 : decode cX10_adds 39 = .ok (.iload 7, 2) := by decide +kernel
theorem dX10_adds_41 : decode cX10_adds 41 = .ok (.iconst 2, 1) := by decide +kernel
theorem dX10_adds_42 : decode cX10_adds 42 = .ok (.iadd, 1) := by decide +kernel
theorem dX10_adds_43 : decode cX10_adds 43 = .ok (.iload_n 3, 1) := by decide +kernel
theorem dX10_adds_44 : decode cX10_adds 44 = .ok (.iastore, 1) := by decide +kernel
theorem dX10_adds_45 : decode cX10_adds 45 = .ok (.aload_n 0, 1) := by decide +kernel
theorem dX10_adds_46 : decode cX10_adds 46 = .ok (.getfield 9, 3) := by decide +kernel
theorem dX10_adds_49 : decode cX10_adds 49 = .ok (.iload 7, 2) := by decide +kernel
theorem dX10_adds_51 : decode cX10_adds 51 = .ok (.iconst 3, 1) := by decide +kernel
theorem dX10_adds_52 : decode cX10_adds 52 = .ok (.iadd, 1) := by decide +kernel
theorem dX10_adds_53 : decode cX10_adds 53 = .ok (.iload 4, 2) := by decide +kernel
theorem dX10_adds_55 : decode cX10_adds 55 = .ok (.iastore, 1) := by decide +kernel
theorem dX10_adds_56 : decode cX10_adds 56 = .ok (.aload_n 0, 1) := by decide +kernel
theorem dX10_adds_57 : decode cX10_adds 57 = .ok (.getfield 9, 3) := by decide +kernel
theorem dX10_adds_60 : decode cX10_adds 60 = .ok (.iload 7, 2) := by decide +kernel
theorem dX10_adds_62 : decode cX10_adds 62 = .ok (.iconst 4, 1) := by decide +kernel
theorem dX10_adds_63 : decode cX10_adds 63 = .ok (.iadd, 1) := by decide +kernel
theorem dX10_adds_64 : decode cX10_adds 64 = .ok (.aload_n 0, 1) := by decide +kernel
theorem dX10_adds_65 : decode cX10_adds 65 = .ok (.getfield 9, 3) := by decide +kernel
theorem dX10_adds_68 : decode cX10_adds 68 = .ok (.iconst 2, 1) := by decide +kernel
theorem dX10_adds_69 : decode cX10_adds 69 = .ok (.iaload, 1) := by decide +kernel
theorem dX10_adds_70 : decode cX10_adds 70 = .ok (.iastore, 1) := by decide +kernel
theorem dX10_adds_71 : decode cX10_adds 71 = .ok (.aload_n 0, 1) := by decide +kernel
theorem dX10_adds_72 : decode cX10_adds 72 = .ok (.getfield 9, 3) := by decide +kernel
theorem dX10_adds_75 : decode cX10_adds 75 = .ok (.iload 7, 2) := by decide +kernel
theorem dX10_adds_77 : decode cX10_adds 77 = .ok (.iconst 5, 1) := by decide +kernel
theorem dX10_adds_78 : decode cX10_adds 78 = .ok (.iadd, 1) := by decide +kernel
theorem dX10_adds_79 : decode cX10_adds 79 = .ok (.iload 5, 2) := by decide +kernel
theorem dX10_adds_81 : decode cX10_adds 81 = .ok (.iastore, 1) := by decide +kernel
theorem dX10_adds_82 : decode cX10_adds 82 = .ok (.aload_n 0, 1) := by decide +kernel
theorem dX10_adds_83 : decode cX10_adds 83 = .ok (.getfield 9, 3) := by decide +kernel
theorem dX10_adds_86 : decode cX10_adds 86 = .ok (.iload 7, 2) := by decide +kernel
theorem dX10_adds_88 : decode cX10_adds 88 = .ok (.bipush 6, 2) := by decide +kernel
theorem dX10_adds_90 : decode cX10_adds 90 = .ok (.iadd, 1) := by decide +kernel
theorem dX10_adds_91 : decode cX10_adds 91 = .ok (.iload 6, 2) := by decide +kernel
theorem dX10_adds_93 : decode cX10_adds 93 = .ok (.iastore, 1) := by decide +kernel
theorem dX10_adds_94 : decode cX10_adds 94 = .ok (.iconst 0, 1) := by decide +kernel
theorem dX10_adds_95 : decode cX10_adds 95 = .ok (.istore 8, 2) := by decide +kernel
theorem dX10_adds_97 : decode cX10_adds 97 = .ok (.iload 8, 2) := by decide +kernel
theorem dX10_adds_99 : decode cX10_adds 99 = .ok (.bipush 7, 2) := by decide +kernel
theorem dX10_adds_101 : decode cX10_adds 101 = .ok (.if_icmp .ge 23, 3) := by decide +kernel
theorem dX10_adds_104 : decode cX10_adds 104 = .ok (.aload_n 0, 1) := by decide +kernel
theorem dX10_adds_105 : decode cX10_adds 105 = .ok (.getfield 9, 3) := by decide +kernel
theorem dX10_adds_108 : decode cX10_adds 108 = .ok (.iload 7, 2) := by decide +kernel
theorem dX10_adds_110 : decode cX10_adds 110 = .ok (.bipush 7, 2) := by decide +kernel
theorem dX10_adds_112 : decode cX10_adds 112 = .ok (.iadd, 1) := by decide +kernel
theorem dX10_adds_113 : decode cX10_adds 113 = .ok (.iload 8, 2) := by decide +kernel
theorem dX10_adds_115 : decode cX10_adds 115 = .ok (.iadd, 1) := by decide +kernel
theorem dX10_adds_116 : decode cX10_adds 116 = .ok (.iconst 0, 1) := by decide +kernel
theorem dX10_adds_117 : decode cX10_adds 117 = .ok (.iastore, 1) := by decide +kernel
theorem dX10_adds_118 : decode cX10_adds 118 = .ok (.iinc 8 1, 3) := by decide +kernel
theorem dX10_adds_121 : decode cX10_adds 121 = .ok (.goto (-24), 3) := by decide +kernel
theorem dX10_adds_124 : decode cX10_adds 124 = .ok (.aload_n 0, 1) := by decide +kernel
theorem dX10_adds_125 : decode cX10_adds 125 = .ok (.getfield 9, 3) := by decide +kernel
theorem dX10_adds_128 : decode cX10_adds 128 = .ok (.iconst 4, 1) := by decide +kernel
theorem dX10_adds_129 : decode cX10_adds 129 = .ok (.dup2, 1) := by decide +kernel
theorem dX10_adds_130 : decode cX10_adds 130 = .ok (.iaload, 1) := by decide +kernel
theorem dX10_adds_131 : decode cX10_adds 131 = .ok (.iconst 1, 1) := by decide +kernel
theorem dX10_adds_132 : decode cX10_adds 132 = .ok (.iadd, 1) := by decide +kernel
theorem dX10_adds_133 : decode cX10_adds 133 = .ok (.iastore, 1) := by decide +kernel
theorem dX10_adds_134 : decode cX10_adds 134 = .ok (.aload_n 0, 1) := by decide +kernel
theorem dX10_adds_135 : decode cX10_adds 135 = .ok (.getfield 9, 3) := by decide +kernel
theorem dX10_adds_138 : decode cX10_adds 138 = .ok (.iconst 4, 1) := by decide +kernel
theorem dX10_adds_139 : decode cX10_adds 139 = .ok (.iaload, 1) := by decide +kernel
theorem dX10_adds_140 : decode cX10_adds 140 = .ok (.iconst 1, 1) := by decide +kernel
theorem dX10_adds_141 : decode cX10_adds 141 = .ok (.isub, 1) := by decide +kernel
theorem dX10_adds_142 : decode cX10_adds 142 = .ok (.ireturn, 1) := by decide +kernel
theorem dX10_hasBlock_0 : decode cX10_hasBlock 0 = .ok (.aload_n 0, 1) := by decide +kernel
theorem dX10_hasBlock_1 : decode cX10_hasBlock 1 = .ok (.iload_n 1, 1) := by decide +kernel
theorem dX10_hasBlock_2 : decode cX10_hasBlock 2 = .ok (.bipush 7, 2) := by decide +kernel
theorem dX10_hasBlock_4 : decode cX10_hasBlock 4 = .ok (.iload_n 2, 1) := by decide +kernel
theorem dX10_hasBlock_5 : decode cX10_hasBlock 5 = .ok (.bipush 32, 2) := by decide +kernel
theorem dX10_hasBlock_7 : decode cX10_hasBlock 7 = .ok (.idiv, 1) := by decide +kernel
theorem dX10_hasBlock_8 : decode cX10_hasBlock 8 = .ok (.iadd, 1) := by decide +kernel
theorem dX10_hasBlock_9 : decode cX10_hasBlock 9 = .ok (.invokevirtual 85, 3) := by decide +kernel
theorem dX10_hasBlock_12 : decode cX10_hasBlock 12 = .ok (.iload_n 2, 1) := by decide +kernel
theorem dX10_hasBlock_13 : decode cX10_hasBlock 13 = .ok (.bipush 32, 2) := by decide +kernel
theorem dX10_hasBlock_15 : decode cX10_hasBlock 15 = .ok (.irem, 1) := by decide +kernel
theorem dX10_hasBlock_16 : decode cX10_hasBlock 16 = .ok (.ishr, 1) := by decide +kernel
theorem dX10_hasBlock_17 : decode cX10_hasBlock 17 = .ok (.iconst 1, 1) := by decide +kernel
theorem dX10_hasBlock_18 : decode cX10_hasBlock 18 = .ok (.iand, 1) := by decide +kernel
theorem dX10_hasBlock_19 : decode cX10_hasBlock 19 = .ok (.iconst 1, 1) := by decide +kernel
theorem dX10_hasBlock_20 : decode cX10_hasBlock 20 = .ok (.if_icmp .ne 7, 3) := by decide +kernel
theorem dX10_hasBlock_23 : decode cX10_hasBlock 23 = .ok (.iconst 1, 1) := by decide +kernel
theorem dX10_hasBlock_24 : decode cX10_hasBlock 24 = .ok (.goto 4, 3) := by decide +kernel
theorem dX10_hasBlock_27 : decode cX10_hasBlock 27 = .ok (.iconst 0, 1) := by decide +kernel
theorem dX10_hasBlock_28 : decode cX10_hasBlock 28 = .ok (.ireturn, 1) := by decide +kernel
theorem dX10_moves_0 : decode cX10_moves 0 = .ok (.aload_n 0, 1) := by decide +kernel
theorem dX10_moves_1 : decode cX10_moves 1 = .ok (.iload_n 1, 1) := by decide +kernel
theorem dX10_moves_2 : decode cX10_moves 2 = .ok (.iload_n 2, 1) := by decide +kernel
theorem dX10_moves_3 : decode cX10_moves 3 = .ok (.iload_n 3, 1) := by decide +kernel
theorem dX10_moves_4 : decode cX10_moves 4 = .ok (.iload 4, 2) := by decide +kernel
theorem dX10_moves_6 : decode cX10_moves 6 = .ok (.iload 5, 2) := by decide +kernel
theorem dX10_moves_8 : decode cX10_moves 8 = .ok (.iload 6, 2) := by decide +kernel
theorem dX10_moves_10 : decode cX10_moves 10 = .ok (.invokevirtual 88, 3) := by decide +kernel
theorem dX10_moves_13 : decode cX10_moves 13 = .ok (.istore 7, 2) := by decide +kernel
theorem dX10_moves_15 : decode cX10_moves 15 = .ok (.iconst 0, 1) := by decide +kernel
theorem dX10_moves_16 : decode cX10_moves 16 = .ok (.istore 8, 2) := by decide +kernel
theorem dX10_moves_18 : decode cX10_moves 18 = .ok (.iload 8, 2) := by decide +kernel
theorem dX10_moves_20 : decode cX10_moves 20 = .ok (.aload_n 0, 1) := by decide +kernel
theorem dX10_moves_21 : decode cX10_moves 21 = .ok (.getfield 9, 3) := by decide +kernel
theorem dX10_moves_24 : decode cX10_moves 24 = .ok (.iconst 0, 1) := by decide +kernel
theorem dX10_moves_25 : decode cX10_moves 25 = .ok (.iaload, 1) := by decide +kernel
theorem dX10_moves_26 : decode cX10_moves 26 = .ok (.if_icmp .ge 80, 3) := by decide +kernel
theorem dX10_moves_29 : decode cX10_moves 29 = .ok (.aload_n 0, 1) := by decide +kernel
theorem dX10_moves_30 : decode cX10_moves 30 = .ok (.getfield 36, 3) := by decide +kernel
theorem dX10_moves_33 : decode cX10_moves 33 = .ok (.iload 8, 2) := by decide +kernel
theorem dX10_moves_35 : decode cX10_moves 35 = .ok (.baload, 1) := by decide +kernel
theorem dX10_moves_36 : decode cX10_moves 36 = .ok (.ifCond .eq 64, 3) := by decide +kernel
theorem dX10_moves_39 : decode cX10_moves 39 = .ok (.aload_n 0, 1) := by decide +kernel
theorem dX10_moves_40 : decode cX10_moves 40 = .ok (.getfield 9, 3) := by decide +kernel
theorem dX10_moves_43 : decode cX10_moves 43 = .ok (.bipush 7, 2) := by decide +kernel
theorem dX10_moves_45 : decode cX10_moves 45 = .ok (.iload 8, 2) := by decide +kernel
theorem dX10_moves_47 : decode cX10_moves 47 = .ok (.iadd, 1) := by decide +kernel
theorem dX10_moves_48 : decode cX10_moves 48 = .ok (.iload_n 2, 1) := by decide +kernel
theorem dX10_moves_49 : decode cX10_moves 49 = .ok (.iastore, 1) := by decide +kernel
theorem dX10_moves_50 : decode cX10_moves 50 = .ok (.aload_n 0, 1) := by decide +kernel
theorem dX10_moves_51 : decode cX10_moves 51 = .ok (.getfield 9, 3) := by decide +kernel
theorem dX10_moves_54 : decode cX10_moves 54 = .ok (.sipush 207, 3) := by decide +kernel
theorem dX10_moves_57 : decode cX10_moves 57 = .ok (.iload 8, 2) := by decide +kernel
theorem dX10_moves_59 : decode cX10_moves 59 = .ok (.iadd, 1) := by decide +kernel
theorem dX10_moves_60 : decode cX10_moves 60 = .ok (.aload_n 0, 1) := by decide +kernel
theorem dX10_moves_61 : decode cX10_moves 61 = .ok (.getfield 9, 3) := by decide +kernel
theorem dX10_moves_64 : decode cX10_moves 64 = .ok (.iconst 2, 1) := by decide +kernel
theorem dX10_moves_65 : decode cX10_moves 65 = .ok (.iaload, 1) := by decide +kernel
theorem dX10_moves_66 : decode cX10_moves 66 = .ok (.iastore, 1) := by decide +kernel
theorem dX10_moves_67 : decode cX10_moves 67 = .ok (.aload_n 0, 1) := by decide +kernel
theorem dX10_moves_68 : decode cX10_moves 68 = .ok (.getfield 9, 3) := by decide +kernel
theorem dX10_moves_71 : decode cX10_moves 71 = .ok (.sipush 471, 3) := by decide +kernel
theorem dX10_moves_74 : decode cX10_moves 74 = .ok (.bipush 14, 2) := by decide +kernel
theorem dX10_moves_76 : decode cX10_moves 76 = .ok (.iload 7, 2) := by decide +kernel
theorem dX10_moves_78 : decode cX10_moves 78 = .ok (.imul, 1) := by decide +kernel
theorem dX10_moves_79 : decode cX10_moves 79 = .ok (.iadd, 1) := by decide +kernel
theorem dX10_moves_80 : decode cX10_moves 80 = .ok (.bipush 7, 2) := by decide +kernel
theorem dX10_moves_82 : decode cX10_moves 82 = .ok (.iadd, 1) := by decide +kernel
theorem dX10_moves_83 : decode cX10_moves 83 = .ok (.iload 8, 2) := by decide +kernel
theorem dX10_moves_85 : decode cX10_moves 85 = .ok (.bipush 32, 2) := by decide +kernel
theorem dX10_moves_87 : decode cX10_moves 87 = .ok (.idiv, 1) := by decide +kernel
theorem dX10_moves_88 : decode cX10_moves 88 = .ok (.iadd, 1) := by decide +kernel
theorem dX10_moves_89 : decode cX10_moves 89 = .ok (.dup2, 1) := by decide +kernel
theorem dX10_moves_90 : decode cX10_moves 90 = .ok (.iaload, 1) := by decide +kernel
theorem dX10_moves_91 : decode cX10_moves 91 = .ok (.iconst 1, 1) := by decide +kernel
theorem dX10_moves_92 : decode cX10_moves 92 = .ok (.iload 8, 2) := by decide +kernel
theorem dX10_moves_94 : decode cX10_moves 94 = .ok (.bipush 32, 2) := by decide +kernel
theorem dX10_moves_96 : decode cX10_moves 96 = .ok (.irem, 1) := by decide +kernel
theorem dX10_moves_97 : decode cX10_moves 97 = .ok (.ishl, 1) := by decide +kernel
theorem dX10_moves_98 : decode cX10_moves 98 = .ok (.ior, 1) := by decide +kernel
theorem dX10_moves_99 : decode cX10_moves 99 = .ok (.iastore, 1) := by decide +kernel
theorem dX10_moves_100 : decode cX10_moves 100 = .ok (.iinc 8 1, 3) := by decide +kernel
theorem dX10_moves_103 : decode cX10_moves 103 = .ok (.goto (-85), 3) := by decide +kernel
theorem dX10_moves_106 : decode cX10_moves 106 = .ok (.iload 7, 2) := by decide +kernel
theorem dX10_moves_108 : decode cX10_moves 108 = .ok (.ireturn, 1) := by decide +kernel
theorem dX10_refusal_0 : decode cX10_refusal 0 = .ok (.aload_n 0, 1) := by decide +kernel
theorem dX10_refusal_1 : decode cX10_refusal 1 = .ok (.iload_n 1, 1) := by decide +kernel
theorem dX10_refusal_2 : decode cX10_refusal 2 = .ok (.invokevirtual 92, 3) := by decide +kernel
theorem dX10_refusal_5 : decode cX10_refusal 5 = .ok (.iload_n 3, 1) := by decide +kernel
theorem dX10_refusal_6 : decode cX10_refusal 6 = .ok (.if_icmp .ge 8, 3) := by decide +kernel
theorem dX10_refusal_9 : decode cX10_refusal 9 = .ok (.bipush (-3), 2) := by decide +kernel
theorem dX10_refusal_11 : decode cX10_refusal 11 = .ok (.goto 18, 3) := by decide +kernel
theorem dX10_refusal_14 : decode cX10_refusal 14 = .ok (.aload_n 0, 1) := by decide +kernel
theorem dX10_refusal_15 : decode cX10_refusal 15 = .ok (.iload_n 2, 1) := by decide +kernel
theorem dX10_refusal_16 : decode cX10_refusal 16 = .ok (.invokevirtual 95, 3) := by decide +kernel
theorem dX10_refusal_19 : decode cX10_refusal 19 = .ok (.iload_n 3, 1) := by decide +kernel
theorem dX10_refusal_20 : decode cX10_refusal 20 = .ok (.if_icmp .ge 8, 3) := by decide +kernel
theorem dX10_refusal_23 : decode cX10_refusal 23 = .ok (.bipush (-4), 2) := by decide +kernel
theorem dX10_refusal_25 : decode cX10_refusal 25 = .ok (.goto 4, 3) := by decide +kernel
theorem dX10_refusal_28 : decode cX10_refusal 28 = .ok (.iconst 0, 1) := by decide +kernel
theorem dX10_refusal_29 : decode cX10_refusal 29 = .ok (.ireturn, 1) := by decide +kernel
theorem dX10_transfers_0 : decode cX10_transfers 0 = .ok (.aload_n 0, 1) := by decide +kernel
theorem dX10_transfers_1 : decode cX10_transfers 1 = .ok (.getfield 9, 3) := by decide +kernel
theorem dX10_transfers_4 : decode cX10_transfers 4 = .ok (.iconst 4, 1) := by decide +kernel
theorem dX10_transfers_5 : decode cX10_transfers 5 = .ok (.iaload, 1) := by decide +kernel
theorem dX10_transfers_6 : decode cX10_transfers 6 = .ok (.sipush 300, 3) := by decide +kernel
theorem dX10_transfers_9 : decode cX10_transfers 9 = .ok (.if_icmp .ne 6, 3) := by decide +kernel
theorem dX10_transfers_12 : decode cX10_transfers 12 = .ok (.bipush (-2), 2) := by decide +kernel
theorem dX10_transfers_14 : decode cX10_transfers 14 = .ok (.ireturn, 1) := by decide +kernel
theorem dX10_transfers_15 : decode cX10_transfers 15 = .ok (.aload_n 0, 1) := by decide +kernel
theorem dX10_transfers_16 : decode cX10_transfers 16 = .ok (.iload_n 1, 1) := by decide +kernel
theorem dX10_transfers_17 : decode cX10_transfers 17 = .ok (.iload_n 2, 1) := by decide +kernel
theorem dX10_transfers_18 : decode cX10_transfers 18 = .ok (.iload_n 3, 1) := by decide +kernel
theorem dX10_transfers_19 : decode cX10_transfers 19 = .ok (.invokevirtual 98, 3) := by decide +kernel
theorem dX10_transfers_22 : decode cX10_transfers 22 = .ok (.istore 5, 2) := by decide +kernel
theorem dX10_transfers_24 : decode cX10_transfers 24 = .ok (.iload 5, 2) := by decide +kernel
theorem dX10_transfers_26 : decode cX10_transfers 26 = .ok (.ifCond .eq 6, 3) := by decide +kernel
theorem dX10_transfers_29 : decode cX10_transfers 29 = .ok (.iload 5, 2) := by decide +kernel
theorem dX10_transfers_31 : decode cX10_transfers 31 = .ok (.ireturn, 1) := by decide +kernel
theorem dX10_transfers_32 : decode cX10_transfers 32 = .ok (.aload_n 0, 1) := by decide +kernel
theorem dX10_transfers_33 : decode cX10_transfers 33 = .ok (.iload_n 1, 1) := by decide +kernel
theorem dX10_transfers_34 : decode cX10_transfers 34 = .ok (.iload_n 3, 1) := by decide +kernel
theorem dX10_transfers_35 : decode cX10_transfers 35 = .ok (.aload_n 0, 1) := by decide +kernel
theorem dX10_transfers_36 : decode cX10_transfers 36 = .ok (.getfield 9, 3) := by decide +kernel
theorem dX10_transfers_39 : decode cX10_transfers 39 = .ok (.iconst 3, 1) := by decide +kernel
theorem dX10_transfers_40 : decode cX10_transfers 40 = .ok (.iaload, 1) := by decide +kernel
theorem dX10_transfers_41 : decode cX10_transfers 41 = .ok (.invokevirtual 102, 3) := by decide +kernel
theorem dX10_transfers_44 : decode cX10_transfers 44 = .ok (.aload_n 0, 1) := by decide +kernel
theorem dX10_transfers_45 : decode cX10_transfers 45 = .ok (.iload_n 1, 1) := by decide +kernel
theorem dX10_transfers_46 : decode cX10_transfers 46 = .ok (.iload_n 2, 1) := by decide +kernel
theorem dX10_transfers_47 : decode cX10_transfers 47 = .ok (.iload_n 3, 1) := by decide +kernel
theorem dX10_transfers_48 : decode cX10_transfers 48 = .ok (.iload 4, 2) := by decide +kernel
theorem dX10_transfers_50 : decode cX10_transfers 50 = .ok (.iconst 0, 1) := by decide +kernel
theorem dX10_transfers_51 : decode cX10_transfers 51 = .ok (.iconst (-1), 1) := by decide +kernel
theorem dX10_transfers_52 : decode cX10_transfers 52 = .ok (.invokevirtual 106, 3) := by decide +kernel
theorem dX10_transfers_55 : decode cX10_transfers 55 = .ok (.ireturn, 1) := by decide +kernel
theorem dX10_transfer_0 : decode cX10_transfer 0 = .ok (.aload_n 0, 1) := by decide +kernel
theorem dX10_transfer_1 : decode cX10_transfer 1 = .ok (.aload_n 0, 1) := by decide +kernel
theorem dX10_transfer_2 : decode cX10_transfer 2 = .ok (.iload_n 1, 1) := by decide +kernel
theorem dX10_transfer_3 : decode cX10_transfer 3 = .ok (.invokevirtual 109, 3) := by decide +kernel
theorem dX10_transfer_6 : decode cX10_transfer 6 = .ok (.ifCond .eq 15, 3) := by decide +kernel
theorem dX10_transfer_9 : decode cX10_transfer 9 = .ok (.aload_n 0, 1) := by decide +kernel
theorem dX10_transfer_10 : decode cX10_transfer 10 = .ok (.iload_n 2, 1) := by decide +kernel
theorem dX10_transfer_11 : decode cX10_transfer 11 = .ok (.invokevirtual 109, 3) := by decide +kernel
theorem dX10_transfer_14 : decode cX10_transfer 14 = .ok (.ifCond .eq 7, 3) := by decide +kernel
theorem dX10_transfer_17 : decode cX10_transfer 17 = .ok (.iconst 1, 1) := by decide +kernel
theorem dX10_transfer_18 : decode cX10_transfer 18 = .ok (.goto 4, 3) := by decide +kernel
theorem dX10_transfer_21 : decode cX10_transfer 21 = .ok (.iconst 0, 1) := by decide +kernel
theorem dX10_transfer_22 : decode cX10_transfer 22 = .ok (.iconst 1, 1) := by decide +kernel
theorem dX10_transfer_23 : decode cX10_transfer 23 = .ok (.invokevirtual 113, 3) := by decide +kernel
theorem dX10_transfer_26 : decode cX10_transfer 26 = .ok (.ifCond .eq 5, 3) := by decide +kernel
theorem dX10_transfer_29 : decode cX10_transfer 29 = .ok (.iconst 0, 1) := by decide +kernel
theorem dX10_transfer_30 : decode cX10_transfer 30 = .ok (.ireturn, 1) := by decide +kernel
theorem dX10_transfer_31 : decode cX10_transfer 31 = .ok (.aload_n 0, 1) := by decide +kernel
theorem dX10_transfer_32 : decode cX10_transfer 32 = .ok (.iload_n 1, 1) := by decide +kernel
theorem dX10_transfer_33 : decode cX10_transfer 33 = .ok (.iload_n 2, 1) := by decide +kernel
theorem dX10_transfer_34 : decode cX10_transfer 34 = .ok (.if_icmp .eq 29, 3) := by decide +kernel
theorem dX10_transfer_37 : decode cX10_transfer 37 = .ok (.iload_n 3, 1) := by decide +kernel
theorem dX10_transfer_38 : decode cX10_transfer 38 = .ok (.iconst 1, 1) := by decide +kernel
theorem dX10_transfer_39 : decode cX10_transfer 39 = .ok (.sipush 200, 3) := by decide +kernel
theorem dX10_transfer_42 : decode cX10_transfer 42 = .ok (.invokestatic 54, 3) := by decide +kernel
theorem dX10_transfer_45 : decode cX10_transfer 45 = .ok (.ifCond .eq 18, 3) := by decide +kernel
theorem dX10_transfer_48 : decode cX10_transfer 48 = .ok (.iload 4, 2) := by decide +kernel
theorem dX10_transfer_50 : decode cX10_transfer 50 = .ok (.iconst 0, 1) := by decide +kernel
theorem dX10_transfer_51 : decode cX10_transfer 51 = .ok (.bipush 9, 2) := by decide +kernel
theorem dX10_transfer_53 : decode cX10_transfer 53 = .ok (.invokestatic 54, 3) := by decide +kernel
theorem dX10_transfer_56 : decode cX10_transfer 56 = .ok (.ifCond .eq 7, 3) := by decide +kernel
theorem dX10_transfer_59 : decode cX10_transfer 59 = .ok (.iconst 1, 1) := by decide +kernel
theorem dX10_transfer_60 : decode cX10_transfer 60 = .ok (.goto 4, 3) := by decide +kernel
theorem dX10_transfer_63 : decode cX10_transfer 63 = .ok (.iconst 0, 1) := by decide +kernel
theorem dX10_transfer_64 : decode cX10_transfer 64 = .ok (.iconst 2, 1) := by decide +kernel
theorem dX10_transfer_65 : decode cX10_transfer 65 = .ok (.invokevirtual 113, 3) := by decide +kernel
theorem dX10_transfer_68 : decode cX10_transfer 68 = .ok (.ifCond .eq 5, 3) := by decide +kernel
theorem dX10_transfer_71 : decode cX10_transfer 71 = .ok (.iconst 0, 1) := by decide +kernel
theorem dX10_transfer_72 : decode cX10_transfer 72 = .ok (.ireturn, 1) := by decide +kernel
theorem dX10_transfer_73 : decode cX10_transfer 73 = .ok (.aload_n 0, 1) := by decide +kernel
theorem dX10_transfer_74 : decode cX10_transfer 74 = .ok (.iload_n 1, 1) := by decide +kernel
theorem dX10_transfer_75 : decode cX10_transfer 75 = .ok (.iload_n 2, 1) := by decide +kernel
theorem dX10_transfer_76 : decode cX10_transfer 76 = .ok (.iload_n 3, 1) := by decide +kernel
theorem dX10_transfer_77 : decode cX10_transfer 77 = .ok (.iload 4, 2) := by decide +kernel
theorem dX10_transfer_79 : decode cX10_transfer 79 = .ok (.invokevirtual 117, 3) := by decide +kernel
theorem dX10_transfer_82 : decode cX10_transfer 82 = .ok (.ireturn, 1) := by decide +kernel
theorem dX10_transferBlock_0 : decode cX10_transferBlock 0 = .ok (.aload_n 0, 1) := by decide +kernel
theorem dX10_transferBlock_1 : decode cX10_transferBlock 1 = .ok (.aload_n 0, 1) := by decide +kernel
theorem dX10_transferBlock_2 : decode cX10_transferBlock 2 = .ok (.iload_n 1, 1) := by decide +kernel
theorem dX10_transferBlock_3 : decode cX10_transferBlock 3 = .ok (.invokevirtual 121, 3) := by decide +kernel
theorem dX10_transferBlock_6 : decode cX10_transferBlock 6 = .ok (.ifCond .eq 15, 3) := by decide +kernel
theorem dX10_transferBlock_9 : decode cX10_transferBlock 9 = .ok (.aload_n 0, 1) := by decide +kernel
theorem dX10_transferBlock_10 : decode cX10_transferBlock 10 = .ok (.iload_n 2, 1) := by decide +kernel
theorem dX10_transferBlock_11 : decode cX10_transferBlock 11 = .ok (.invokevirtual 109, 3) := by decide +kernel
theorem dX10_transferBlock_14 : decode cX10_transferBlock 14 = .ok (.ifCond .eq 7, 3) := by decide +kernel
theorem dX10_transferBlock_17 : decode cX10_transferBlock 17 = .ok (.iconst 1, 1) := by decide +kernel
theorem dX10_transferBlock_18 : decode cX10_transferBlock 18 = .ok (.goto 4, 3) := by decide +kernel
theorem dX10_transferBlock_21 : decode cX10_transferBlock 21 = .ok (.iconst 0, 1) := by decide +kernel
theorem dX10_transferBlock_22 : decode cX10_transferBlock 22 = .ok (.iconst 1, 1) := by decide +kernel
theorem dX10_transferBlock_23 : decode cX10_transferBlock 23 = .ok (.invokevirtual 113, 3) := by decide +kernel
theorem dX10_transferBlock_26 : decode cX10_transferBlock 26 = .ok (.ifCond .ne 18, 3) := by decide +kernel
theorem dX10_transferBlock_29 : decode cX10_transferBlock 29 = .ok (.aload_n 0, 1) := by decide +kernel
theorem dX10_transferBlock_30 : decode cX10_transferBlock 30 = .ok (.iload_n 3, 1) := by decide +kernel
theorem dX10_transferBlock_31 : decode cX10_transferBlock 31 = .ok (.iconst 0, 1) := by decide +kernel
theorem dX10_transferBlock_32 : decode cX10_transferBlock 32 = .ok (.bipush 9, 2) := by decide +kernel
theorem dX10_transferBlock_34 : decode cX10_transferBlock 34 = .ok (.invokestatic 54, 3) := by decide +kernel
theorem dX10_transferBlock_37 : decode cX10_transferBlock 37 = .ok (.iconst 2, 1) := by decide +kernel
theorem dX10_transferBlock_38 : decode cX10_transferBlock 38 = .ok (.invokevirtual 113, 3) := by decide +kernel
theorem dX10_transferBlock_41 : decode cX10_transferBlock 41 = .ok (.ifCond .eq 5, 3) := by decide +kernel
theorem dX10_transferBlock_44 : decode cX10_transferBlock 44 = .ok (.iconst 0, 1) := by decide +kernel
theorem dX10_transferBlock_45 : decode cX10_transferBlock 45 = .ok (.ireturn, 1) := by decide +kernel
theorem dX10_transferBlock_46 : decode cX10_transferBlock 46 = .ok (.aload_n 0, 1) := by decide +kernel
theorem dX10_transferBlock_47 : decode cX10_transferBlock 47 = .ok (.getfield 9, 3) := by decide +kernel
theorem dX10_transferBlock_50 : decode cX10_transferBlock 50 = .ok (.bipush 7, 2) := by decide +kernel
theorem dX10_transferBlock_52 : decode cX10_transferBlock 52 = .ok (.iload_n 1, 1) := by decide +kernel
theorem dX10_transferBlock_53 : decode cX10_transferBlock 53 = .ok (.iadd, 1) := by decide +kernel
theorem dX10_transferBlock_54 : decode cX10_transferBlock 54 = .ok (.iaload, 1) := by decide +kernel
theorem dX10_transferBlock_55 : decode cX10_transferBlock 55 = .ok (.istore 4, 2) := by decide +kernel
theorem dX10_transferBlock_57 : decode cX10_transferBlock 57 = .ok (.aload_n 0, 1) := by decide +kernel
theorem dX10_transferBlock_58 : decode cX10_transferBlock 58 = .ok (.getfield 9, 3) := by decide +kernel
theorem dX10_transferBlock_61 : decode cX10_transferBlock 61 = .ok (.iconst 4, 1) := by decide +kernel
theorem dX10_transferBlock_62 : decode cX10_transferBlock 62 = .ok (.iaload, 1) := by decide +kernel
theorem dX10_transferBlock_63 : decode cX10_transferBlock 63 = .ok (.sipush 300, 3) := by decide +kernel
theorem dX10_transferBlock_66 : decode cX10_transferBlock 66 = .ok (.if_icmp .ne 6, 3) := by decide +kernel
theorem dX10_transferBlock_69 : decode cX10_transferBlock 69 = .ok (.bipush (-2), 2) := by decide +kernel
theorem dX10_transferBlock_71 : decode cX10_transferBlock 71 = .ok (.ireturn, 1) := by decide +kernel
theorem dX10_transferBlock_72 : decode cX10_transferBlock 72 = .ok (.iload 4, 2) := by decide +kernel
theorem dX10_transferBlock_74 : decode cX10_transferBlock 74 = .ok (.iload_n 2, 1) := by decide +kernel
theorem dX10_transferBlock_75 : decode cX10_transferBlock 75 = .ok (.if_icmp .ne 6, 3) := by decide +kernel
theorem dX10_transferBlock_78 : decode cX10_transferBlock 78 = .ok (.bipush (-5), 2) := by decide +kernel
theorem dX10_transferBlock_80 : decode cX10_transferBlock 80 = .ok (.ireturn, 1) := by decide +kernel
theorem dX10_transferBlock_81 : decode cX10_transferBlock 81 = .ok (.aload_n 0, 1) := by decide +kernel
theorem dX10_transferBlock_82 : decode cX10_transferBlock 82 = .ok (.iload 4, 2) := by decide +kernel
theorem dX10_transferBlock_84 : decode cX10_transferBlock 84 = .ok (.iload_n 2, 1) := by decide +kernel
theorem dX10_transferBlock_85 : decode cX10_transferBlock 85 = .ok (.iconst 1, 1) := by decide +kernel
theorem dX10_transferBlock_86 : decode cX10_transferBlock 86 = .ok (.invokevirtual 98, 3) := by decide +kernel
theorem dX10_transferBlock_89 : decode cX10_transferBlock 89 = .ok (.istore 5, 2) := by decide +kernel
theorem dX10_transferBlock_91 : decode cX10_transferBlock 91 = .ok (.iload 5, 2) := by decide +kernel
theorem dX10_transferBlock_93 : decode cX10_transferBlock 93 = .ok (.ifCond .eq 6, 3) := by decide +kernel
theorem dX10_transferBlock_96 : decode cX10_transferBlock 96 = .ok (.iload 5, 2) := by decide +kernel
theorem dX10_transferBlock_98 : decode cX10_transferBlock 98 = .ok (.ireturn, 1) := by decide +kernel
theorem dX10_transferBlock_99 : decode cX10_transferBlock 99 = .ok (.aload_n 0, 1) := by decide +kernel
theorem dX10_transferBlock_100 : decode cX10_transferBlock 100 = .ok (.invokevirtual 76, 3) := by decide +kernel
theorem dX10_transferBlock_103 : decode cX10_transferBlock 103 = .ok (.aload_n 0, 1) := by decide +kernel
theorem dX10_transferBlock_104 : decode cX10_transferBlock 104 = .ok (.getfield 36, 3) := by decide +kernel
theorem dX10_transferBlock_107 : decode cX10_transferBlock 107 = .ok (.iload_n 1, 1) := by decide +kernel
theorem dX10_transferBlock_108 : decode cX10_transferBlock 108 = .ok (.iconst 1, 1) := by decide +kernel
theorem dX10_transferBlock_109 : decode cX10_transferBlock 109 = .ok (.bastore, 1) := by decide +kernel
theorem dX10_transferBlock_110 : decode cX10_transferBlock 110 = .ok (.aload_n 0, 1) := by decide +kernel
theorem dX10_transferBlock_111 : decode cX10_transferBlock 111 = .ok (.iload 4, 2) := by decide +kernel
theorem dX10_transferBlock_113 : decode cX10_transferBlock 113 = .ok (.iload_n 2, 1) := by decide +kernel
theorem dX10_transferBlock_114 : decode cX10_transferBlock 114 = .ok (.iconst 1, 1) := by decide +kernel
theorem dX10_transferBlock_115 : decode cX10_transferBlock 115 = .ok (.iload_n 3, 1) := by decide +kernel
theorem dX10_transferBlock_116 : decode cX10_transferBlock 116 = .ok (.iconst 0, 1) := by decide +kernel
theorem dX10_transferBlock_117 : decode cX10_transferBlock 117 = .ok (.iconst (-1), 1) := by decide +kernel
theorem dX10_transferBlock_118 : decode cX10_transferBlock 118 = .ok (.invokevirtual 106, 3) := by decide +kernel
theorem dX10_transferBlock_121 : decode cX10_transferBlock 121 = .ok (.ireturn, 1) := by decide +kernel
theorem dX10_picksBack_0 : decode cX10_picksBack 0 = .ok (.iconst 1, 1) := by decide +kernel
theorem dX10_picksBack_1 : decode cX10_picksBack 1 = .ok (.istore_n 2, 1) := by decide +kernel
theorem dX10_picksBack_2 : decode cX10_picksBack 2 = .ok (.iconst 0, 1) := by decide +kernel
theorem dX10_picksBack_3 : decode cX10_picksBack 3 = .ok (.istore_n 3, 1) := by decide +kernel
theorem dX10_picksBack_4 : decode cX10_picksBack 4 = .ok (.iload_n 3, 1) := by decide +kernel
theorem dX10_picksBack_5 : decode cX10_picksBack 5 = .ok (.sipush 200, 3) := by decide +kernel
theorem dX10_picksBack_8 : decode cX10_picksBack 8 = .ok (.if_icmp .ge 54, 3) := by decide +kernel
theorem dX10_picksBack_11 : decode cX10_picksBack 11 = .ok (.aload_n 0, 1) := by decide +kernel
theorem dX10_picksBack_12 : decode cX10_picksBack 12 = .ok (.getfield 36, 3) := by decide +kernel
theorem dX10_picksBack_15 : decode cX10_picksBack 15 = .ok (.iload_n 3, 1) := by decide +kernel
theorem dX10_picksBack_16 : decode cX10_picksBack 16 = .ok (.aload_n 0, 1) := by decide +kernel
theorem dX10_picksBack_17 : decode cX10_picksBack 17 = .ok (.iload_n 1, 1) := by decide +kernel
theorem dX10_picksBack_18 : decode cX10_picksBack 18 = .ok (.iload_n 3, 1) := by decide +kernel
theorem dX10_picksBack_19 : decode cX10_picksBack 19 = .ok (.invokevirtual 124, 3) := by decide +kernel
theorem dX10_picksBack_22 : decode cX10_picksBack 22 = .ok (.bastore, 1) := by decide +kernel
theorem dX10_picksBack_23 : decode cX10_picksBack 23 = .ok (.iload_n 2, 1) := by decide +kernel
theorem dX10_picksBack_24 : decode cX10_picksBack 24 = .ok (.ifCond .eq 30, 3) := by decide +kernel
theorem dX10_picksBack_27 : decode cX10_picksBack 27 = .ok (.aload_n 0, 1) := by decide +kernel
theorem dX10_picksBack_28 : decode cX10_picksBack 28 = .ok (.getfield 36, 3) := by decide +kernel
theorem dX10_picksBack_31 : decode cX10_picksBack 31 = .ok (.iload_n 3, 1) := by decide +kernel
theorem dX10_picksBack_32 : decode cX10_picksBack 32 = .ok (.baload, 1) := by decide +kernel
theorem dX10_picksBack_33 : decode cX10_picksBack 33 = .ok (.ifCond .eq 17, 3) := by decide +kernel
theorem dX10_picksBack_36 : decode cX10_picksBack 36 = .ok (.aload_n 0, 1) := by decide +kernel
theorem dX10_picksBack_37 : decode cX10_picksBack 37 = .ok (.iload_n 3, 1) := by decide +kernel
theorem dX10_picksBack_38 : decode cX10_picksBack 38 = .ok (.aload_n 0, 1) := by decide +kernel
theorem dX10_picksBack_39 : decode cX10_picksBack 39 = .ok (.iload_n 1, 1) := by decide +kernel
theorem dX10_picksBack_40 : decode cX10_picksBack 40 = .ok (.iconst 1, 1) := by decide +kernel
theorem dX10_picksBack_41 : decode cX10_picksBack 41 = .ok (.invokevirtual 85, 3) := by decide +kernel
theorem dX10_picksBack_44 : decode cX10_picksBack 44 = .ok (.invokevirtual 72, 3) := by decide +kernel
theorem dX10_picksBack_47 : decode cX10_picksBack 47 = .ok (.ifCond .eq 7, 3) := by decide +kernel
theorem dX10_picksBack_50 : decode cX10_picksBack 50 = .ok (.iconst 1, 1) := by decide +kernel
theorem dX10_picksBack_51 : decode cX10_picksBack 51 = .ok (.goto 4, 3) := by decide +kernel
theorem dX10_picksBack_54 : decode cX10_picksBack 54 = .ok (.iconst 0, 1) := by decide +kernel
theorem dX10_picksBack_55 : decode cX10_picksBack 55 = .ok (.istore_n 2, 1) := by decide +kernel
theorem dX10_picksBack_56 : decode cX10_picksBack 56 = .ok (.iinc 3 1, 3) := by decide +kernel
theorem dX10_picksBack_59 : decode cX10_picksBack 59 = .ok (.goto (-55), 3) := by decide +kernel
theorem dX10_picksBack_62 : decode cX10_picksBack 62 = .ok (.iload_n 2, 1) := by decide +kernel
theorem dX10_picksBack_63 : decode cX10_picksBack 63 = .ok (.ireturn, 1) := by decide +kernel
theorem dX10_reverses_0 : decode cX10_reverses 0 = .ok (.aload_n 0, 1) := by decide +kernel
theorem dX10_reverses_1 : decode cX10_reverses 1 = .ok (.getfield 9, 3) := by decide +kernel
theorem dX10_reverses_4 : decode cX10_reverses 4 = .ok (.iconst 4, 1) := by decide +kernel
theorem dX10_reverses_5 : decode cX10_reverses 5 = .ok (.iaload, 1) := by decide +kernel
theorem dX10_reverses_6 : decode cX10_reverses 6 = .ok (.sipush 300, 3) := by decide +kernel
theorem dX10_reverses_9 : decode cX10_reverses 9 = .ok (.if_icmp .ne 6, 3) := by decide +kernel
theorem dX10_reverses_12 : decode cX10_reverses 12 = .ok (.bipush (-2), 2) := by decide +kernel
theorem dX10_reverses_14 : decode cX10_reverses 14 = .ok (.ireturn, 1) := by decide +kernel
theorem dX10_reverses_15 : decode cX10_reverses 15 = .ok (.aload_n 0, 1) := by decide +kernel
theorem dX10_reverses_16 : decode cX10_reverses 16 = .ok (.iload_n 1, 1) := by decide +kernel
theorem dX10_reverses_17 : decode cX10_reverses 17 = .ok (.iconst 5, 1) := by decide +kernel
theorem dX10_reverses_18 : decode cX10_reverses 18 = .ok (.invokevirtual 85, 3) := by decide +kernel
theorem dX10_reverses_21 : decode cX10_reverses 21 = .ok (.ifCond .ne 14, 3) := by decide +kernel
theorem dX10_reverses_24 : decode cX10_reverses 24 = .ok (.aload_n 0, 1) := by decide +kernel
theorem dX10_reverses_25 : decode cX10_reverses 25 = .ok (.iload_n 1, 1) := by decide +kernel
theorem dX10_reverses_26 : decode cX10_reverses 26 = .ok (.bipush 6, 2) := by decide +kernel
theorem dX10_reverses_28 : decode cX10_reverses 28 = .ok (.invokevirtual 85, 3) := by decide +kernel
theorem dX10_reverses_31 : decode cX10_reverses 31 = .ok (.iconst (-1), 1) := by decide +kernel
theorem dX10_reverses_32 : decode cX10_reverses 32 = .ok (.if_icmp .eq 6, 3) := by decide +kernel
theorem dX10_reverses_35 : decode cX10_reverses 35 = .ok (.bipush (-5), 2) := by decide +kernel
theorem dX10_reverses_37 : decode cX10_reverses 37 = .ok (.ireturn, 1) := by decide +kernel
theorem dX10_reverses_38 : decode cX10_reverses 38 = .ok (.aload_n 0, 1) := by decide +kernel
theorem dX10_reverses_39 : decode cX10_reverses 39 = .ok (.iload_n 1, 1) := by decide +kernel
theorem dX10_reverses_40 : decode cX10_reverses 40 = .ok (.invokevirtual 127, 3) := by decide +kernel
theorem dX10_reverses_43 : decode cX10_reverses 43 = .ok (.ifCond .ne 6, 3) := by decide +kernel
theorem dX10_reverses_46 : decode cX10_reverses 46 = .ok (.bipush (-6), 2) := by decide +kernel
theorem dX10_reverses_48 : decode cX10_reverses 48 = .ok (.ireturn, 1) := by decide +kernel
theorem dX10_reverses_49 : decode cX10_reverses 49 = .ok (.aload_n 0, 1) := by decide +kernel
theorem dX10_reverses_50 : decode cX10_reverses 50 = .ok (.iload_n 1, 1) := by decide +kernel
theorem dX10_reverses_51 : decode cX10_reverses 51 = .ok (.iconst 1, 1) := by decide +kernel
theorem dX10_reverses_52 : decode cX10_reverses 52 = .ok (.invokevirtual 85, 3) := by decide +kernel
theorem dX10_reverses_55 : decode cX10_reverses 55 = .ok (.istore_n 2, 1) := by decide +kernel
theorem dX10_reverses_56 : decode cX10_reverses 56 = .ok (.aload_n 0, 1) := by decide +kernel
theorem dX10_reverses_57 : decode cX10_reverses 57 = .ok (.iload_n 1, 1) := by decide +kernel
theorem dX10_reverses_58 : decode cX10_reverses 58 = .ok (.iconst 0, 1) := by decide +kernel
theorem dX10_reverses_59 : decode cX10_reverses 59 = .ok (.invokevirtual 85, 3) := by decide +kernel
theorem dX10_reverses_62 : decode cX10_reverses 62 = .ok (.istore_n 3, 1) := by decide +kernel
theorem dX10_reverses_63 : decode cX10_reverses 63 = .ok (.aload_n 0, 1) := by decide +kernel
theorem dX10_reverses_64 : decode cX10_reverses 64 = .ok (.iload_n 2, 1) := by decide +kernel
theorem dX10_reverses_65 : decode cX10_reverses 65 = .ok (.iload_n 3, 1) := by decide +kernel
theorem dX10_reverses_66 : decode cX10_reverses 66 = .ok (.aload_n 0, 1) := by decide +kernel
theorem dX10_reverses_67 : decode cX10_reverses 67 = .ok (.iload_n 1, 1) := by decide +kernel
theorem dX10_reverses_68 : decode cX10_reverses 68 = .ok (.iconst 2, 1) := by decide +kernel
theorem dX10_reverses_69 : decode cX10_reverses 69 = .ok (.invokevirtual 85, 3) := by decide +kernel
theorem dX10_reverses_72 : decode cX10_reverses 72 = .ok (.invokevirtual 98, 3) := by decide +kernel
theorem dX10_reverses_75 : decode cX10_reverses 75 = .ok (.istore 4, 2) := by decide +kernel
theorem dX10_reverses_77 : decode cX10_reverses 77 = .ok (.iload 4, 2) := by decide +kernel
theorem dX10_reverses_79 : decode cX10_reverses 79 = .ok (.ifCond .eq 6, 3) := by decide +kernel
theorem dX10_reverses_82 : decode cX10_reverses 82 = .ok (.iload 4, 2) := by decide +kernel
theorem dX10_reverses_84 : decode cX10_reverses 84 = .ok (.ireturn, 1) := by decide +kernel
theorem dX10_reverses_85 : decode cX10_reverses 85 = .ok (.aload_n 0, 1) := by decide +kernel
theorem dX10_reverses_86 : decode cX10_reverses 86 = .ok (.iload_n 2, 1) := by decide +kernel
theorem dX10_reverses_87 : decode cX10_reverses 87 = .ok (.iload_n 3, 1) := by decide +kernel
theorem dX10_reverses_88 : decode cX10_reverses 88 = .ok (.aload_n 0, 1) := by decide +kernel
theorem dX10_reverses_89 : decode cX10_reverses 89 = .ok (.iload_n 1, 1) := by decide +kernel
theorem dX10_reverses_90 : decode cX10_reverses 90 = .ok (.iconst 2, 1) := by decide +kernel
theorem dX10_reverses_91 : decode cX10_reverses 91 = .ok (.invokevirtual 85, 3) := by decide +kernel
theorem dX10_reverses_94 : decode cX10_reverses 94 = .ok (.aload_n 0, 1) := by decide +kernel
theorem dX10_reverses_95 : decode cX10_reverses 95 = .ok (.iload_n 1, 1) := by decide +kernel
theorem dX10_reverses_96 : decode cX10_reverses 96 = .ok (.iconst 3, 1) := by decide +kernel
theorem dX10_reverses_97 : decode cX10_reverses 97 = .ok (.invokevirtual 85, 3) := by decide +kernel
theorem dX10_reverses_100 : decode cX10_reverses 100 = .ok (.iconst 1, 1) := by decide +kernel
theorem dX10_reverses_101 : decode cX10_reverses 101 = .ok (.iload_n 1, 1) := by decide +kernel
theorem dX10_reverses_102 : decode cX10_reverses 102 = .ok (.invokevirtual 106, 3) := by decide +kernel
theorem dX10_reverses_105 : decode cX10_reverses 105 = .ok (.istore 5, 2) := by decide +kernel
theorem dX10_reverses_107 : decode cX10_reverses 107 = .ok (.aload_n 0, 1) := by decide +kernel
theorem dX10_reverses_108 : decode cX10_reverses 108 = .ok (.getfield 9, 3) := by decide +kernel
theorem dX10_reverses_111 : decode cX10_reverses 111 = .ok (.sipush 471, 3) := by decide +kernel
theorem dX10_reverses_114 : decode cX10_reverses 114 = .ok (.bipush 14, 2) := by decide +kernel
theorem dX10_reverses_116 : decode cX10_reverses 116 = .ok (.iload_n 1, 1) := by decide +kernel
theorem dX10_reverses_117 : decode cX10_reverses 117 = .ok (.imul, 1) := by decide +kernel
theorem dX10_reverses_118 : decode cX10_reverses 118 = .ok (.iadd, 1) := by decide +kernel
theorem dX10_reverses_119 : decode cX10_reverses 119 = .ok (.bipush 6, 2) := by decide +kernel
theorem dX10_reverses_121 : decode cX10_reverses 121 = .ok (.iadd, 1) := by decide +kernel
theorem dX10_reverses_122 : decode cX10_reverses 122 = .ok (.iload 5, 2) := by decide +kernel
theorem dX10_reverses_124 : decode cX10_reverses 124 = .ok (.iastore, 1) := by decide +kernel
theorem dX10_reverses_125 : decode cX10_reverses 125 = .ok (.iload 5, 2) := by decide +kernel
theorem dX10_reverses_127 : decode cX10_reverses 127 = .ok (.ireturn, 1) := by decide +kernel
theorem dX10_reverse_0 : decode cX10_reverse 0 = .ok (.aload_n 0, 1) := by decide +kernel
theorem dX10_reverse_1 : decode cX10_reverse 1 = .ok (.aload_n 0, 1) := by decide +kernel
theorem dX10_reverse_2 : decode cX10_reverse 2 = .ok (.iload_n 1, 1) := by decide +kernel
theorem dX10_reverse_3 : decode cX10_reverse 3 = .ok (.invokevirtual 130, 3) := by decide +kernel
theorem dX10_reverse_6 : decode cX10_reverse 6 = .ok (.iconst 1, 1) := by decide +kernel
theorem dX10_reverse_7 : decode cX10_reverse 7 = .ok (.invokevirtual 113, 3) := by decide +kernel
theorem dX10_reverse_10 : decode cX10_reverse 10 = .ok (.ifCond .eq 7, 3) := by decide +kernel
theorem dX10_reverse_13 : decode cX10_reverse 13 = .ok (.iconst 0, 1) := by decide +kernel
theorem dX10_reverse_14 : decode cX10_reverse 14 = .ok (.goto 8, 3) := by decide +kernel
theorem dX10_reverse_17 : decode cX10_reverse 17 = .ok (.aload_n 0, 1) := by decide +kernel
theorem dX10_reverse_18 : decode cX10_reverse 18 = .ok (.iload_n 1, 1) := by decide +kernel
theorem dX10_reverse_19 : decode cX10_reverse 19 = .ok (.invokevirtual 133, 3) := by decide +kernel
theorem dX10_reverse_22 : decode cX10_reverse 22 = .ok (.ireturn, 1) := by decide +kernel
theorem dX10_reserves_0 : decode cX10_reserves 0 = .ok (.aload_n 0, 1) := by decide +kernel
theorem dX10_reserves_1 : decode cX10_reserves 1 = .ok (.getfield 9, 3) := by decide +kernel
theorem dX10_reserves_4 : decode cX10_reserves 4 = .ok (.iconst 5, 1) := by decide +kernel
theorem dX10_reserves_5 : decode cX10_reserves 5 = .ok (.iaload, 1) := by decide +kernel
theorem dX10_reserves_6 : decode cX10_reserves 6 = .ok (.bipush 60, 2) := by decide +kernel
theorem dX10_reserves_8 : decode cX10_reserves 8 = .ok (.if_icmp .ne 6, 3) := by decide +kernel
theorem dX10_reserves_11 : decode cX10_reserves 11 = .ok (.bipush (-2), 2) := by decide +kernel
theorem dX10_reserves_13 : decode cX10_reserves 13 = .ok (.ireturn, 1) := by decide +kernel
theorem dX10_reserves_14 : decode cX10_reserves 14 = .ok (.aload_n 0, 1) := by decide +kernel
theorem dX10_reserves_15 : decode cX10_reserves 15 = .ok (.iload_n 1, 1) := by decide +kernel
theorem dX10_reserves_16 : decode cX10_reserves 16 = .ok (.iload_n 2, 1) := by decide +kernel
theorem dX10_reserves_17 : decode cX10_reserves 17 = .ok (.iload_n 3, 1) := by decide +kernel
theorem dX10_reserves_18 : decode cX10_reserves 18 = .ok (.invokevirtual 98, 3) := by decide +kernel
theorem dX10_reserves_21 : decode cX10_reserves 21 = .ok (.istore 5, 2) := by decide +kernel
theorem dX10_reserves_23 : decode cX10_reserves 23 = .ok (.iload 5, 2) := by decide +kernel
theorem dX10_reserves_25 : decode cX10_reserves 25 = .ok (.ifCond .eq 6, 3) := by decide +kernel
theorem dX10_reserves_28 : decode cX10_reserves 28 = .ok (.iload 5, 2) := by decide +kernel
theorem dX10_reserves_30 : decode cX10_reserves 30 = .ok (.ireturn, 1) := by decide +kernel
theorem dX10_reserves_31 : decode cX10_reserves 31 = .ok (.aload_n 0, 1) := by decide +kernel
theorem dX10_reserves_32 : decode cX10_reserves 32 = .ok (.getfield 9, 3) := by decide +kernel
theorem dX10_reserves_35 : decode cX10_reserves 35 = .ok (.iconst 5, 1) := by decide +kernel
theorem dX10_reserves_36 : decode cX10_reserves 36 = .ok (.iaload, 1) := by decide +kernel
theorem dX10_reserves_37 : decode cX10_reserves 37 = .ok (.istore 6, 2) := by decide +kernel
theorem dX10_reserves_39 : decode cX10_reserves 39 = .ok (.aload_n 0, 1) := by decide +kernel
theorem dX10_reserves_40 : decode cX10_reserves 40 = .ok (.iload 6, 2) := by decide +kernel
theorem dX10_reserves_42 : decode cX10_reserves 42 = .ok (.iconst 0, 1) := by decide +kernel
theorem dX10_reserves_43 : decode cX10_reserves 43 = .ok (.iload_n 1, 1) := by decide +kernel
theorem dX10_reserves_44 : decode cX10_reserves 44 = .ok (.invokevirtual 136, 3) := by decide +kernel
theorem dX10_reserves_47 : decode cX10_reserves 47 = .ok (.aload_n 0, 1) := by decide +kernel
theorem dX10_reserves_48 : decode cX10_reserves 48 = .ok (.iload 6, 2) := by decide +kernel
theorem dX10_reserves_50 : decode cX10_reserves 50 = .ok (.iconst 1, 1) := by decide +kernel
theorem dX10_reserves_51 : decode cX10_reserves 51 = .ok (.iload_n 2, 1) := by decide +kernel
theorem dX10_reserves_52 : decode cX10_reserves 52 = .ok (.invokevirtual 136, 3) := by decide +kernel
theorem dX10_reserves_55 : decode cX10_reserves 55 = .ok (.aload_n 0, 1) := by decide +kernel
theorem dX10_reserves_56 : decode cX10_reserves 56 = .ok (.iload 6, 2) := by decide +kernel
theorem dX10_reserves_58 : decode cX10_reserves 58 = .ok (.iconst 2, 1) := by decide +kernel
theorem dX10_reserves_59 : decode cX10_reserves 59 = .ok (.iload_n 3, 1) := by decide +kernel
theorem dX10_reserves_60 : decode cX10_reserves 60 = .ok (.invokevirtual 136, 3) := by decide +kernel
theorem dX10_reserves_63 : decode cX10_reserves 63 = .ok (.aload_n 0, 1) := by decide +kernel
theorem dX10_reserves_64 : decode cX10_reserves 64 = .ok (.iload 6, 2) := by decide +kernel
theorem dX10_reserves_66 : decode cX10_reserves 66 = .ok (.iconst 3, 1) := by decide +kernel
theorem dX10_reserves_67 : decode cX10_reserves 67 = .ok (.aload_n 0, 1) := by decide +kernel
theorem dX10_reserves_68 : decode cX10_reserves 68 = .ok (.getfield 9, 3) := by decide +kernel
theorem dX10_reserves_71 : decode cX10_reserves 71 = .ok (.iconst 2, 1) := by decide +kernel
theorem dX10_reserves_72 : decode cX10_reserves 72 = .ok (.iaload, 1) := by decide +kernel
theorem dX10_reserves_73 : decode cX10_reserves 73 = .ok (.iload 4, 2) := by decide +kernel
theorem dX10_reserves_75 : decode cX10_reserves 75 = .ok (.iadd, 1) := by decide +kernel
theorem dX10_reserves_76 : decode cX10_reserves 76 = .ok (.invokevirtual 136, 3) := by decide +kernel
theorem dX10_reserves_79 : decode cX10_reserves 79 = .ok (.aload_n 0, 1) := by decide +kernel
theorem dX10_reserves_80 : decode cX10_reserves 80 = .ok (.iload 6, 2) := by decide +kernel
theorem dX10_reserves_82 : decode cX10_reserves 82 = .ok (.iconst 4, 1) := by decide +kernel
theorem dX10_reserves_83 : decode cX10_reserves 83 = .ok (.iconst 0, 1) := by decide +kernel
theorem dX10_reserves_84 : decode cX10_reserves 84 = .ok (.invokevirtual 136, 3) := by decide +kernel
theorem dX10_reserves_87 : decode cX10_reserves 87 = .ok (.aload_n 0, 1) := by decide +kernel
theorem dX10_reserves_88 : decode cX10_reserves 88 = .ok (.getfield 9, 3) := by decide +kernel
theorem dX10_reserves_91 : decode cX10_reserves 91 = .ok (.iconst 5, 1) := by decide +kernel
theorem dX10_reserves_92 : decode cX10_reserves 92 = .ok (.dup2, 1) := by decide +kernel
theorem dX10_reserves_93 : decode cX10_reserves 93 = .ok (.iaload, 1) := by decide +kernel
theorem dX10_reserves_94 : decode cX10_reserves 94 = .ok (.iconst 1, 1) := by decide +kernel
theorem dX10_reserves_95 : decode cX10_reserves 95 = .ok (.iadd, 1) := by decide +kernel
theorem dX10_reserves_96 : decode cX10_reserves 96 = .ok (.iastore, 1) := by decide +kernel
theorem dX10_reserves_97 : decode cX10_reserves 97 = .ok (.iload 6, 2) := by decide +kernel
theorem dX10_reserves_99 : decode cX10_reserves 99 = .ok (.ireturn, 1) := by decide +kernel
theorem dX10_reserve_0 : decode cX10_reserve 0 = .ok (.aload_n 0, 1) := by decide +kernel
theorem dX10_reserve_1 : decode cX10_reserve 1 = .ok (.aload_n 0, 1) := by decide +kernel
theorem dX10_reserve_2 : decode cX10_reserve 2 = .ok (.iload_n 1, 1) := by decide +kernel
theorem dX10_reserve_3 : decode cX10_reserve 3 = .ok (.invokevirtual 109, 3) := by decide +kernel
theorem dX10_reserve_6 : decode cX10_reserve 6 = .ok (.ifCond .eq 15, 3) := by decide +kernel
theorem dX10_reserve_9 : decode cX10_reserve 9 = .ok (.aload_n 0, 1) := by decide +kernel
theorem dX10_reserve_10 : decode cX10_reserve 10 = .ok (.iload_n 2, 1) := by decide +kernel
theorem dX10_reserve_11 : decode cX10_reserve 11 = .ok (.invokevirtual 109, 3) := by decide +kernel
theorem dX10_reserve_14 : decode cX10_reserve 14 = .ok (.ifCond .eq 7, 3) := by decide +kernel
theorem dX10_reserve_17 : decode cX10_reserve 17 = .ok (.iconst 1, 1) := by decide +kernel
theorem dX10_reserve_18 : decode cX10_reserve 18 = .ok (.goto 4, 3) := by decide +kernel
theorem dX10_reserve_21 : decode cX10_reserve 21 = .ok (.iconst 0, 1) := by decide +kernel
theorem dX10_reserve_22 : decode cX10_reserve 22 = .ok (.iconst 1, 1) := by decide +kernel
theorem dX10_reserve_23 : decode cX10_reserve 23 = .ok (.invokevirtual 113, 3) := by decide +kernel
theorem dX10_reserve_26 : decode cX10_reserve 26 = .ok (.ifCond .eq 5, 3) := by decide +kernel
theorem dX10_reserve_29 : decode cX10_reserve 29 = .ok (.iconst 0, 1) := by decide +kernel
theorem dX10_reserve_30 : decode cX10_reserve 30 = .ok (.ireturn, 1) := by decide +kernel
theorem dX10_reserve_31 : decode cX10_reserve 31 = .ok (.aload_n 0, 1) := by decide +kernel
theorem dX10_reserve_32 : decode cX10_reserve 32 = .ok (.iload_n 1, 1) := by decide +kernel
theorem dX10_reserve_33 : decode cX10_reserve 33 = .ok (.iload_n 2, 1) := by decide +kernel
theorem dX10_reserve_34 : decode cX10_reserve 34 = .ok (.if_icmp .eq 30, 3) := by decide +kernel
theorem dX10_reserve_37 : decode cX10_reserve 37 = .ok (.iload_n 3, 1) := by decide +kernel
theorem dX10_reserve_38 : decode cX10_reserve 38 = .ok (.iconst 1, 1) := by decide +kernel
theorem dX10_reserve_39 : decode cX10_reserve 39 = .ok (.sipush 200, 3) := by decide +kernel
theorem dX10_reserve_42 : decode cX10_reserve 42 = .ok (.invokestatic 54, 3) := by decide +kernel
theorem dX10_reserve_45 : decode cX10_reserve 45 = .ok (.ifCond .eq 19, 3) := by decide +kernel
theorem dX10_reserve_48 : decode cX10_reserve 48 = .ok (.iload 4, 2) := by decide +kernel
theorem dX10_reserve_50 : decode cX10_reserve 50 = .ok (.iconst 1, 1) := by decide +kernel
theorem dX10_reserve_51 : decode cX10_reserve 51 = .ok (.sipush 1000, 3) := by decide +kernel
theorem dX10_reserve_54 : decode cX10_reserve 54 = .ok (.invokestatic 54, 3) := by decide +kernel
theorem dX10_reserve_57 : decode cX10_reserve 57 = .ok (.ifCond .eq 7, 3) := by decide +kernel
theorem dX10_reserve_60 : decode cX10_reserve 60 = .ok (.iconst 1, 1) := by decide +kernel
theorem dX10_reserve_61 : decode cX10_reserve 61 = .ok (.goto 4, 3) := by decide +kernel
theorem dX10_reserve_64 : decode cX10_reserve 64 = .ok (.iconst 0, 1) := by decide +kernel
theorem dX10_reserve_65 : decode cX10_reserve 65 = .ok (.iconst 2, 1) := by decide +kernel
theorem dX10_reserve_66 : decode cX10_reserve 66 = .ok (.invokevirtual 113, 3) := by decide +kernel
theorem dX10_reserve_69 : decode cX10_reserve 69 = .ok (.ifCond .eq 5, 3) := by decide +kernel
theorem dX10_reserve_72 : decode cX10_reserve 72 = .ok (.iconst 0, 1) := by decide +kernel
theorem dX10_reserve_73 : decode cX10_reserve 73 = .ok (.ireturn, 1) := by decide +kernel
theorem dX10_reserve_74 : decode cX10_reserve 74 = .ok (.aload_n 0, 1) := by decide +kernel
theorem dX10_reserve_75 : decode cX10_reserve 75 = .ok (.iload_n 1, 1) := by decide +kernel
theorem dX10_reserve_76 : decode cX10_reserve 76 = .ok (.iload_n 2, 1) := by decide +kernel
theorem dX10_reserve_77 : decode cX10_reserve 77 = .ok (.iload_n 3, 1) := by decide +kernel
theorem dX10_reserve_78 : decode cX10_reserve 78 = .ok (.iload 4, 2) := by decide +kernel
theorem dX10_reserve_80 : decode cX10_reserve 80 = .ok (.invokevirtual 139, 3) := by decide +kernel
theorem dX10_reserve_83 : decode cX10_reserve 83 = .ok (.ireturn, 1) := by decide +kernel
theorem dX10_commit_0 : decode cX10_commit 0 = .ok (.aload_n 0, 1) := by decide +kernel
theorem dX10_commit_1 : decode cX10_commit 1 = .ok (.aload_n 0, 1) := by decide +kernel
theorem dX10_commit_2 : decode cX10_commit 2 = .ok (.iload_n 1, 1) := by decide +kernel
theorem dX10_commit_3 : decode cX10_commit 3 = .ok (.invokevirtual 142, 3) := by decide +kernel
theorem dX10_commit_6 : decode cX10_commit 6 = .ok (.iconst 1, 1) := by decide +kernel
theorem dX10_commit_7 : decode cX10_commit 7 = .ok (.invokevirtual 113, 3) := by decide +kernel
theorem dX10_commit_10 : decode cX10_commit 10 = .ok (.ifCond .ne 18, 3) := by decide +kernel
theorem dX10_commit_13 : decode cX10_commit 13 = .ok (.aload_n 0, 1) := by decide +kernel
theorem dX10_commit_14 : decode cX10_commit 14 = .ok (.iload_n 2, 1) := by decide +kernel
theorem dX10_commit_15 : decode cX10_commit 15 = .ok (.iconst 0, 1) := by decide +kernel
theorem dX10_commit_16 : decode cX10_commit 16 = .ok (.bipush 9, 2) := by decide +kernel
theorem dX10_commit_18 : decode cX10_commit 18 = .ok (.invokestatic 54, 3) := by decide +kernel
theorem dX10_commit_21 : decode cX10_commit 21 = .ok (.iconst 2, 1) := by decide +kernel
theorem dX10_commit_22 : decode cX10_commit 22 = .ok (.invokevirtual 113, 3) := by decide +kernel
theorem dX10_commit_25 : decode cX10_commit 25 = .ok (.ifCond .eq 5, 3) := by decide +kernel
theorem dX10_commit_28 : decode cX10_commit 28 = .ok (.iconst 0, 1) := by decide +kernel
theorem dX10_commit_29 : decode cX10_commit 29 = .ok (.ireturn, 1) := by decide +kernel
theorem dX10_commit_30 : decode cX10_commit 30 = .ok (.aload_n 0, 1) := by decide +kernel
theorem dX10_commit_31 : decode cX10_commit 31 = .ok (.iload_n 1, 1) := by decide +kernel
theorem dX10_commit_32 : decode cX10_commit 32 = .ok (.iconst 4, 1) := by decide +kernel
theorem dX10_commit_33 : decode cX10_commit 33 = .ok (.invokevirtual 58, 3) := by decide +kernel
theorem dX10_commit_36 : decode cX10_commit 36 = .ok (.ifCond .eq 6, 3) := by decide +kernel
theorem dX10_commit_39 : decode cX10_commit 39 = .ok (.bipush (-5), 2) := by decide +kernel
theorem dX10_commit_41 : decode cX10_commit 41 = .ok (.ireturn, 1) := by decide +kernel
theorem dX10_commit_42 : decode cX10_commit 42 = .ok (.aload_n 0, 1) := by decide +kernel
theorem dX10_commit_43 : decode cX10_commit 43 = .ok (.iload_n 1, 1) := by decide +kernel
theorem dX10_commit_44 : decode cX10_commit 44 = .ok (.iconst 4, 1) := by decide +kernel
theorem dX10_commit_45 : decode cX10_commit 45 = .ok (.iconst 1, 1) := by decide +kernel
theorem dX10_commit_46 : decode cX10_commit 46 = .ok (.invokevirtual 136, 3) := by decide +kernel
theorem dX10_commit_49 : decode cX10_commit 49 = .ok (.aload_n 0, 1) := by decide +kernel
theorem dX10_commit_50 : decode cX10_commit 50 = .ok (.aload_n 0, 1) := by decide +kernel
theorem dX10_commit_51 : decode cX10_commit 51 = .ok (.iload_n 1, 1) := by decide +kernel
theorem dX10_commit_52 : decode cX10_commit 52 = .ok (.iconst 0, 1) := by decide +kernel
theorem dX10_commit_53 : decode cX10_commit 53 = .ok (.invokevirtual 58, 3) := by decide +kernel
theorem dX10_commit_56 : decode cX10_commit 56 = .ok (.aload_n 0, 1) := by decide +kernel
theorem dX10_commit_57 : decode cX10_commit 57 = .ok (.iload_n 1, 1) := by decide +kernel
theorem dX10_commit_58 : decode cX10_commit 58 = .ok (.iconst 1, 1) := by decide +kernel
theorem dX10_commit_59 : decode cX10_commit 59 = .ok (.invokevirtual 58, 3) := by decide +kernel
theorem dX10_commit_62 : decode cX10_commit 62 = .ok (.aload_n 0, 1) := by decide +kernel
theorem dX10_commit_63 : decode cX10_commit 63 = .ok (.iload_n 1, 1) := by decide +kernel
theorem dX10_commit_64 : decode cX10_commit 64 = .ok (.iconst 2, 1) := by decide +kernel
theorem dX10_commit_65 : decode cX10_commit 65 = .ok (.invokevirtual 58, 3) := by decide +kernel
theorem dX10_commit_68 : decode cX10_commit 68 = .ok (.iload_n 2, 1) := by decide +kernel
theorem dX10_commit_69 : decode cX10_commit 69 = .ok (.invokevirtual 117, 3) := by decide +kernel
theorem dX10_commit_72 : decode cX10_commit 72 = .ok (.istore_n 3, 1) := by decide +kernel
theorem dX10_commit_73 : decode cX10_commit 73 = .ok (.iload_n 3, 1) := by decide +kernel
theorem dX10_commit_74 : decode cX10_commit 74 = .ok (.ifCond .ge 10, 3) := by decide +kernel
theorem dX10_commit_77 : decode cX10_commit 77 = .ok (.aload_n 0, 1) := by decide +kernel
theorem dX10_commit_78 : decode cX10_commit 78 = .ok (.iload_n 1, 1) := by decide +kernel
theorem dX10_commit_79 : decode cX10_commit 79 = .ok (.iconst 4, 1) := by decide +kernel
theorem dX10_commit_80 : decode cX10_commit 80 = .ok (.iconst 0, 1) := by decide +kernel
theorem dX10_commit_81 : decode cX10_commit 81 = .ok (.invokevirtual 136, 3) := by decide +kernel
theorem dX10_commit_84 : decode cX10_commit 84 = .ok (.iload_n 3, 1) := by decide +kernel
theorem dX10_commit_85 : decode cX10_commit 85 = .ok (.ireturn, 1) := by decide +kernel
theorem dX10_release_0 : decode cX10_release 0 = .ok (.aload_n 0, 1) := by decide +kernel
theorem dX10_release_1 : decode cX10_release 1 = .ok (.aload_n 0, 1) := by decide +kernel
theorem dX10_release_2 : decode cX10_release 2 = .ok (.iload_n 1, 1) := by decide +kernel
theorem dX10_release_3 : decode cX10_release 3 = .ok (.invokevirtual 142, 3) := by decide +kernel
theorem dX10_release_6 : decode cX10_release 6 = .ok (.iconst 1, 1) := by decide +kernel
theorem dX10_release_7 : decode cX10_release 7 = .ok (.invokevirtual 113, 3) := by decide +kernel
theorem dX10_release_10 : decode cX10_release 10 = .ok (.ifCond .eq 5, 3) := by decide +kernel
theorem dX10_release_13 : decode cX10_release 13 = .ok (.iconst 0, 1) := by decide +kernel
theorem dX10_release_14 : decode cX10_release 14 = .ok (.ireturn, 1) := by decide +kernel
theorem dX10_release_15 : decode cX10_release 15 = .ok (.aload_n 0, 1) := by decide +kernel
theorem dX10_release_16 : decode cX10_release 16 = .ok (.iload_n 1, 1) := by decide +kernel
theorem dX10_release_17 : decode cX10_release 17 = .ok (.iconst 4, 1) := by decide +kernel
theorem dX10_release_18 : decode cX10_release 18 = .ok (.invokevirtual 58, 3) := by decide +kernel
theorem dX10_release_21 : decode cX10_release 21 = .ok (.ifCond .eq 6, 3) := by decide +kernel
theorem dX10_release_24 : decode cX10_release 24 = .ok (.bipush (-5), 2) := by decide +kernel
theorem dX10_release_26 : decode cX10_release 26 = .ok (.ireturn, 1) := by decide +kernel
theorem dX10_release_27 : decode cX10_release 27 = .ok (.aload_n 0, 1) := by decide +kernel
theorem dX10_release_28 : decode cX10_release 28 = .ok (.iload_n 1, 1) := by decide +kernel
theorem dX10_release_29 : decode cX10_release 29 = .ok (.iconst 4, 1) := by decide +kernel
theorem dX10_release_30 : decode cX10_release 30 = .ok (.iconst 2, 1) := by decide +kernel
theorem dX10_release_31 : decode cX10_release 31 = .ok (.invokevirtual 136, 3) := by decide +kernel
theorem dX10_release_34 : decode cX10_release 34 = .ok (.iconst 0, 1) := by decide +kernel
theorem dX10_release_35 : decode cX10_release 35 = .ok (.istore_n 2, 1) := by decide +kernel
theorem dX10_release_36 : decode cX10_release 36 = .ok (.iconst 0, 1) := by decide +kernel
theorem dX10_release_37 : decode cX10_release 37 = .ok (.istore_n 3, 1) := by decide +kernel
theorem dX10_release_38 : decode cX10_release 38 = .ok (.iload_n 3, 1) := by decide +kernel
theorem dX10_release_39 : decode cX10_release 39 = .ok (.aload_n 0, 1) := by decide +kernel
theorem dX10_release_40 : decode cX10_release 40 = .ok (.getfield 9, 3) := by decide +kernel
theorem dX10_release_43 : decode cX10_release 43 = .ok (.iconst 5, 1) := by decide +kernel
theorem dX10_release_44 : decode cX10_release 44 = .ok (.iaload, 1) := by decide +kernel
theorem dX10_release_45 : decode cX10_release 45 = .ok (.if_icmp .ge 26, 3) := by decide +kernel
theorem dX10_release_48 : decode cX10_release 48 = .ok (.iload_n 2, 1) := by decide +kernel
theorem dX10_release_49 : decode cX10_release 49 = .ok (.aload_n 0, 1) := by decide +kernel
theorem dX10_release_50 : decode cX10_release 50 = .ok (.iload_n 3, 1) := by decide +kernel
theorem dX10_release_51 : decode cX10_release 51 = .ok (.iconst 4, 1) := by decide +kernel
theorem dX10_release_52 : decode cX10_release 52 = .ok (.invokevirtual 58, 3) := by decide +kernel
theorem dX10_release_55 : decode cX10_release 55 = .ok (.ifCond .ne 7, 3) := by decide +kernel
theorem dX10_release_58 : decode cX10_release 58 = .ok (.iconst 1, 1) := by decide +kernel
theorem dX10_release_59 : decode cX10_release 59 = .ok (.goto 4, 3) := by decide +kernel
theorem dX10_release_62 : decode cX10_release 62 = .ok (.iconst 0, 1) := by decide +kernel
theorem dX10_release_63 : decode cX10_release 63 = .ok (.iadd, 1) := by decide +kernel
theorem dX10_release_64 : decode cX10_release 64 = .ok (.istore_n 2, 1) := by decide +kernel
theorem dX10_release_65 : decode cX10_release 65 = .ok (.iinc 3 1, 3) := by decide +kernel
theorem dX10_release_68 : decode cX10_release 68 = .ok (.goto (-30), 3) := by decide +kernel
theorem dX10_release_71 : decode cX10_release 71 = .ok (.iload_n 2, 1) := by decide +kernel
theorem dX10_release_72 : decode cX10_release 72 = .ok (.ireturn, 1) := by decide +kernel
theorem dX10_extend_0 : decode cX10_extend 0 = .ok (.aload_n 0, 1) := by decide +kernel
theorem dX10_extend_1 : decode cX10_extend 1 = .ok (.aload_n 0, 1) := by decide +kernel
theorem dX10_extend_2 : decode cX10_extend 2 = .ok (.iload_n 1, 1) := by decide +kernel
theorem dX10_extend_3 : decode cX10_extend 3 = .ok (.invokevirtual 142, 3) := by decide +kernel
theorem dX10_extend_6 : decode cX10_extend 6 = .ok (.iconst 1, 1) := by decide +kernel
theorem dX10_extend_7 : decode cX10_extend 7 = .ok (.invokevirtual 113, 3) := by decide +kernel
theorem dX10_extend_10 : decode cX10_extend 10 = .ok (.ifCond .ne 19, 3) := by decide +kernel
theorem dX10_extend_13 : decode cX10_extend 13 = .ok (.aload_n 0, 1) := by decide +kernel
theorem dX10_extend_14 : decode cX10_extend 14 = .ok (.iload_n 2, 1) := by decide +kernel
theorem dX10_extend_15 : decode cX10_extend 15 = .ok (.iconst 1, 1) := by decide +kernel
theorem dX10_extend_16 : decode cX10_extend 16 = .ok (.sipush 1000, 3) := by decide +kernel
theorem dX10_extend_19 : decode cX10_extend 19 = .ok (.invokestatic 54, 3) := by decide +kernel
theorem dX10_extend_22 : decode cX10_extend 22 = .ok (.iconst 2, 1) := by decide +kernel
theorem dX10_extend_23 : decode cX10_extend 23 = .ok (.invokevirtual 113, 3) := by decide +kernel
theorem dX10_extend_26 : decode cX10_extend 26 = .ok (.ifCond .eq 5, 3) := by decide +kernel
theorem dX10_extend_29 : decode cX10_extend 29 = .ok (.iconst 0, 1) := by decide +kernel
theorem dX10_extend_30 : decode cX10_extend 30 = .ok (.ireturn, 1) := by decide +kernel
theorem dX10_extend_31 : decode cX10_extend 31 = .ok (.aload_n 0, 1) := by decide +kernel
theorem dX10_extend_32 : decode cX10_extend 32 = .ok (.iload_n 1, 1) := by decide +kernel
theorem dX10_extend_33 : decode cX10_extend 33 = .ok (.iconst 4, 1) := by decide +kernel
theorem dX10_extend_34 : decode cX10_extend 34 = .ok (.invokevirtual 58, 3) := by decide +kernel
theorem dX10_extend_37 : decode cX10_extend 37 = .ok (.ifCond .eq 6, 3) := by decide +kernel
theorem dX10_extend_40 : decode cX10_extend 40 = .ok (.bipush (-5), 2) := by decide +kernel
theorem dX10_extend_42 : decode cX10_extend 42 = .ok (.ireturn, 1) := by decide +kernel
theorem dX10_extend_43 : decode cX10_extend 43 = .ok (.aload_n 0, 1) := by decide +kernel
theorem dX10_extend_44 : decode cX10_extend 44 = .ok (.iload_n 1, 1) := by decide +kernel
theorem dX10_extend_45 : decode cX10_extend 45 = .ok (.iconst 3, 1) := by decide +kernel
theorem dX10_extend_46 : decode cX10_extend 46 = .ok (.aload_n 0, 1) := by decide +kernel
theorem dX10_extend_47 : decode cX10_extend 47 = .ok (.iload_n 1, 1) := by decide +kernel
theorem dX10_extend_48 : decode cX10_extend 48 = .ok (.iconst 3, 1) := by decide +kernel
theorem dX10_extend_49 : decode cX10_extend 49 = .ok (.invokevirtual 58, 3) := by decide +kernel
theorem dX10_extend_52 : decode cX10_extend 52 = .ok (.iload_n 2, 1) := by decide +kernel
theorem dX10_extend_53 : decode cX10_extend 53 = .ok (.iadd, 1) := by decide +kernel
theorem dX10_extend_54 : decode cX10_extend 54 = .ok (.invokevirtual 136, 3) := by decide +kernel
theorem dX10_extend_57 : decode cX10_extend 57 = .ok (.aload_n 0, 1) := by decide +kernel
theorem dX10_extend_58 : decode cX10_extend 58 = .ok (.iload_n 1, 1) := by decide +kernel
theorem dX10_extend_59 : decode cX10_extend 59 = .ok (.iconst 3, 1) := by decide +kernel
theorem dX10_extend_60 : decode cX10_extend 60 = .ok (.invokevirtual 58, 3) := by decide +kernel
theorem dX10_extend_63 : decode cX10_extend 63 = .ok (.ireturn, 1) := by decide +kernel
theorem dX10_rentBehind_0 : decode cX10_rentBehind 0 = .ok (.aload_n 0, 1) := by decide +kernel
theorem dX10_rentBehind_1 : decode cX10_rentBehind 1 = .ok (.getfield 22, 3) := by decide +kernel
theorem dX10_rentBehind_4 : decode cX10_rentBehind 4 = .ok (.iload_n 1, 1) := by decide +kernel
theorem dX10_rentBehind_5 : decode cX10_rentBehind 5 = .ok (.faload, 1) := by decide +kernel
theorem dX10_rentBehind_6 : decode cX10_rentBehind 6 = .ok (.aload_n 0, 1) := by decide +kernel
theorem dX10_rentBehind_7 : decode cX10_rentBehind 7 = .ok (.iload_n 1, 1) := by decide +kernel
theorem dX10_rentBehind_8 : decode cX10_rentBehind 8 = .ok (.iconst 1, 1) := by decide +kernel
theorem dX10_rentBehind_9 : decode cX10_rentBehind 9 = .ok (.invokevirtual 69, 3) := by decide +kernel
theorem dX10_rentBehind_12 : decode cX10_rentBehind 12 = .ok (.i2f, 1) := by decide +kernel
theorem dX10_rentBehind_13 : decode cX10_rentBehind 13 = .ok (.ldc 145, 2) := by decide +kernel
theorem dX10_rentBehind_15 : decode cX10_rentBehind 15 = .ok (.fdiv, 1) := by decide +kernel
theorem dX10_rentBehind_16 : decode cX10_rentBehind 16 = .ok (.aload_n 0, 1) := by decide +kernel
theorem dX10_rentBehind_17 : decode cX10_rentBehind 17 = .ok (.iload_n 1, 1) := by decide +kernel
theorem dX10_rentBehind_18 : decode cX10_rentBehind 18 = .ok (.invokevirtual 62, 3) := by decide +kernel
theorem dX10_rentBehind_21 : decode cX10_rentBehind 21 = .ok (.iload_n 2, 1) := by decide +kernel
theorem dX10_rentBehind_22 : decode cX10_rentBehind 22 = .ok (.imul, 1) := by decide +kernel
theorem dX10_rentBehind_23 : decode cX10_rentBehind 23 = .ok (.i2f, 1) := by decide +kernel
theorem dX10_rentBehind_24 : decode cX10_rentBehind 24 = .ok (.fmul, 1) := by decide +kernel
theorem dX10_rentBehind_25 : decode cX10_rentBehind 25 = .ok (.fadd, 1) := by decide +kernel
theorem dX10_rentBehind_26 : decode cX10_rentBehind 26 = .ok (.freturn, 1) := by decide +kernel
theorem dX10_passes_0 : decode cX10_passes 0 = .ok (.aload_n 0, 1) := by decide +kernel
theorem dX10_passes_1 : decode cX10_passes 1 = .ok (.getfield 9, 3) := by decide +kernel
theorem dX10_passes_4 : decode cX10_passes 4 = .ok (.iconst 2, 1) := by decide +kernel
theorem dX10_passes_5 : decode cX10_passes 5 = .ok (.iaload, 1) := by decide +kernel
theorem dX10_passes_6 : decode cX10_passes 6 = .ok (.iload_n 1, 1) := by decide +kernel
theorem dX10_passes_7 : decode cX10_passes 7 = .ok (.iadd, 1) := by decide +kernel
theorem dX10_passes_8 : decode cX10_passes 8 = .ok (.ldc 146, 2) := by decide +kernel
theorem dX10_passes_10 : decode cX10_passes 10 = .ok (.if_icmp .le 6, 3) := by decide +kernel
theorem dX10_passes_13 : decode cX10_passes 13 = .ok (.bipush (-2), 2) := by decide +kernel
theorem dX10_passes_15 : decode cX10_passes 15 = .ok (.ireturn, 1) := by decide +kernel
theorem dX10_passes_16 : decode cX10_passes 16 = .ok (.iconst 0, 1) := by decide +kernel
theorem dX10_passes_17 : decode cX10_passes 17 = .ok (.istore_n 2, 1) := by decide +kernel
theorem dX10_passes_18 : decode cX10_passes 18 = .ok (.iload_n 2, 1) := by decide +kernel
theorem dX10_passes_19 : decode cX10_passes 19 = .ok (.aload_n 0, 1) := by decide +kernel
theorem dX10_passes_20 : decode cX10_passes 20 = .ok (.getfield 9, 3) := by decide +kernel
theorem dX10_passes_23 : decode cX10_passes 23 = .ok (.iconst 1, 1) := by decide +kernel
theorem dX10_passes_24 : decode cX10_passes 24 = .ok (.iaload, 1) := by decide +kernel
theorem dX10_passes_25 : decode cX10_passes 25 = .ok (.if_icmp .ge 21, 3) := by decide +kernel
theorem dX10_passes_28 : decode cX10_passes 28 = .ok (.aload_n 0, 1) := by decide +kernel
theorem dX10_passes_29 : decode cX10_passes 29 = .ok (.getfield 22, 3) := by decide +kernel
theorem dX10_passes_32 : decode cX10_passes 32 = .ok (.iload_n 2, 1) := by decide +kernel
theorem dX10_passes_33 : decode cX10_passes 33 = .ok (.aload_n 0, 1) := by decide +kernel
theorem dX10_passes_34 : decode cX10_passes 34 = .ok (.iload_n 2, 1) := by decide +kernel
theorem dX10_passes_35 : decode cX10_passes 35 = .ok (.iload_n 1, 1) := by decide +kernel
theorem dX10_passes_36 : decode cX10_passes 36 = .ok (.invokevirtual 147, 3) := by decide +kernel
theorem dX10_passes_39 : decode cX10_passes 39 = .ok (.fastore, 1) := by decide +kernel
theorem dX10_passes_40 : decode cX10_passes 40 = .ok (.iinc 2 1, 3) := by decide +kernel
theorem dX10_passes_43 : decode cX10_passes 43 = .ok (.goto (-25), 3) := by decide +kernel
theorem dX10_passes_46 : decode cX10_passes 46 = .ok (.aload_n 0, 1) := by decide +kernel
theorem dX10_passes_47 : decode cX10_passes 47 = .ok (.getfield 9, 3) := by decide +kernel
theorem dX10_passes_50 : decode cX10_passes 50 = .ok (.iconst 2, 1) := by decide +kernel
theorem dX10_passes_51 : decode cX10_passes 51 = .ok (.dup2, 1) := by decide +kernel
theorem dX10_passes_52 : decode cX10_passes 52 = .ok (.iaload, 1) := by decide +kernel
theorem dX10_passes_53 : decode cX10_passes 53 = .ok (.iload_n 1, 1) := by decide +kernel
theorem dX10_passes_54 : decode cX10_passes 54 = .ok (.iadd, 1) := by decide +kernel
theorem dX10_passes_55 : decode cX10_passes 55 = .ok (.iastore, 1) := by decide +kernel
theorem dX10_passes_56 : decode cX10_passes 56 = .ok (.iconst 0, 1) := by decide +kernel
theorem dX10_passes_57 : decode cX10_passes 57 = .ok (.istore_n 2, 1) := by decide +kernel
theorem dX10_passes_58 : decode cX10_passes 58 = .ok (.iconst 0, 1) := by decide +kernel
theorem dX10_passes_59 : decode cX10_passes 59 = .ok (.istore_n 3, 1) := by decide +kernel
theorem dX10_passes_60 : decode cX10_passes 60 = .ok (.iload_n 3, 1) := by decide +kernel
theorem dX10_passes_61 : decode cX10_passes 61 = .ok (.aload_n 0, 1) := by decide +kernel
theorem dX10_passes_62 : decode cX10_passes 62 = .ok (.getfield 9, 3) := by decide +kernel
theorem dX10_passes_65 : decode cX10_passes 65 = .ok (.iconst 5, 1) := by decide +kernel
theorem dX10_passes_66 : decode cX10_passes 66 = .ok (.iaload, 1) := by decide +kernel
theorem dX10_passes_67 : decode cX10_passes 67 = .ok (.if_icmp .ge 43, 3) := by decide +kernel
theorem dX10_passes_70 : decode cX10_passes 70 = .ok (.aload_n 0, 1) := by decide +kernel
theorem dX10_passes_71 : decode cX10_passes 71 = .ok (.iload_n 3, 1) := by decide +kernel
theorem dX10_passes_72 : decode cX10_passes 72 = .ok (.iconst 4, 1) := by decide +kernel
theorem dX10_passes_73 : decode cX10_passes 73 = .ok (.invokevirtual 58, 3) := by decide +kernel
theorem dX10_passes_76 : decode cX10_passes 76 = .ok (.ifCond .ne 28, 3) := by decide +kernel
theorem dX10_passes_79 : decode cX10_passes 79 = .ok (.aload_n 0, 1) := by decide +kernel
theorem dX10_passes_80 : decode cX10_passes 80 = .ok (.iload_n 3, 1) := by decide +kernel
theorem dX10_passes_81 : decode cX10_passes 81 = .ok (.iconst 3, 1) := by decide +kernel
theorem dX10_passes_82 : decode cX10_passes 82 = .ok (.invokevirtual 58, 3) := by decide +kernel
theorem dX10_passes_85 : decode cX10_passes 85 = .ok (.aload_n 0, 1) := by decide +kernel
theorem dX10_passes_86 : decode cX10_passes 86 = .ok (.getfield 9, 3) := by decide +kernel
theorem dX10_passes_89 : decode cX10_passes 89 = .ok (.iconst 2, 1) := by decide +kernel
theorem dX10_passes_90 : decode cX10_passes 90 = .ok (.iaload, 1) := by decide +kernel
theorem dX10_passes_91 : decode cX10_passes 91 = .ok (.if_icmp .gt 13, 3) := by decide +kernel
theorem dX10_passes_94 : decode cX10_passes 94 = .ok (.aload_n 0, 1) := by decide +kernel
theorem dX10_passes_95 : decode cX10_passes 95 = .ok (.iload_n 3, 1) := by decide +kernel
theorem dX10_passes_96 : decode cX10_passes 96 = .ok (.iconst 4, 1) := by decide +kernel
theorem dX10_passes_97 : decode cX10_passes 97 = .ok (.iconst 3, 1) := by decide +kernel
theorem dX10_passes_98 : decode cX10_passes 98 = .ok (.invokevirtual 136, 3) := by decide +kernel
theorem dX10_passes_101 : decode cX10_passes 101 = .ok (.iinc 2 1, 3) := by decide +kernel
theorem dX10_passes_104 : decode cX10_passes 104 = .ok (.iinc 3 1, 3) := by decide +kernel
theorem dX10_passes_107 : decode cX10_passes 107 = .ok (.goto (-47), 3) := by decide +kernel
theorem dX10_passes_110 : decode cX10_passes 110 = .ok (.iload_n 2, 1) := by decide +kernel
theorem dX10_passes_111 : decode cX10_passes 111 = .ok (.ireturn, 1) := by decide +kernel
theorem dX10_advance_0 : decode cX10_advance 0 = .ok (.aload_n 0, 1) := by decide +kernel
theorem dX10_advance_1 : decode cX10_advance 1 = .ok (.iload_n 1, 1) := by decide +kernel
theorem dX10_advance_2 : decode cX10_advance 2 = .ok (.iconst 1, 1) := by decide +kernel
theorem dX10_advance_3 : decode cX10_advance 3 = .ok (.sipush 1000, 3) := by decide +kernel
theorem dX10_advance_6 : decode cX10_advance 6 = .ok (.invokestatic 54, 3) := by decide +kernel
theorem dX10_advance_9 : decode cX10_advance 9 = .ok (.iconst 1, 1) := by decide +kernel
theorem dX10_advance_10 : decode cX10_advance 10 = .ok (.invokevirtual 113, 3) := by decide +kernel
theorem dX10_advance_13 : decode cX10_advance 13 = .ok (.ifCond .eq 7, 3) := by decide +kernel
theorem dX10_advance_16 : decode cX10_advance 16 = .ok (.iconst 0, 1) := by decide +kernel
theorem dX10_advance_17 : decode cX10_advance 17 = .ok (.goto 8, 3) := by decide +kernel
theorem dX10_advance_20 : decode cX10_advance 20 = .ok (.aload_n 0, 1) := by decide +kernel
theorem dX10_advance_21 : decode cX10_advance 21 = .ok (.iload_n 1, 1) := by decide +kernel
theorem dX10_advance_22 : decode cX10_advance 22 = .ok (.invokevirtual 151, 3) := by decide +kernel
theorem dX10_advance_25 : decode cX10_advance 25 = .ok (.ireturn, 1) := by decide +kernel
theorem dX10_now_0 : decode cX10_now 0 = .ok (.aload_n 0, 1) := by decide +kernel
theorem dX10_now_1 : decode cX10_now 1 = .ok (.iconst 0, 1) := by decide +kernel
theorem dX10_now_2 : decode cX10_now 2 = .ok (.putfield 50, 3) := by decide +kernel
theorem dX10_now_5 : decode cX10_now 5 = .ok (.aload_n 0, 1) := by decide +kernel
theorem dX10_now_6 : decode cX10_now 6 = .ok (.getfield 9, 3) := by decide +kernel
theorem dX10_now_9 : decode cX10_now 9 = .ok (.iconst 2, 1) := by decide +kernel
theorem dX10_now_10 : decode cX10_now 10 = .ok (.iaload, 1) := by decide +kernel
theorem dX10_now_11 : decode cX10_now 11 = .ok (.ireturn, 1) := by decide +kernel
theorem dX10_setPick_0 : decode cX10_setPick 0 = .ok (.aload_n 0, 1) := by decide +kernel
theorem dX10_setPick_1 : decode cX10_setPick 1 = .ok (.iload_n 1, 1) := by decide +kernel
theorem dX10_setPick_2 : decode cX10_setPick 2 = .ok (.iconst 0, 1) := by decide +kernel
theorem dX10_setPick_3 : decode cX10_setPick 3 = .ok (.iconst 3, 1) := by decide +kernel
theorem dX10_setPick_4 : decode cX10_setPick 4 = .ok (.invokestatic 54, 3) := by decide +kernel
theorem dX10_setPick_7 : decode cX10_setPick 7 = .ok (.iconst 1, 1) := by decide +kernel
theorem dX10_setPick_8 : decode cX10_setPick 8 = .ok (.invokevirtual 113, 3) := by decide +kernel
theorem dX10_setPick_11 : decode cX10_setPick 11 = .ok (.ifCond .eq 5, 3) := by decide +kernel
theorem dX10_setPick_14 : decode cX10_setPick 14 = .ok (.iconst 0, 1) := by decide +kernel
theorem dX10_setPick_15 : decode cX10_setPick 15 = .ok (.ireturn, 1) := by decide +kernel
theorem dX10_setPick_16 : decode cX10_setPick 16 = .ok (.aload_n 0, 1) := by decide +kernel
theorem dX10_setPick_17 : decode cX10_setPick 17 = .ok (.getfield 9, 3) := by decide +kernel
theorem dX10_setPick_20 : decode cX10_setPick 20 = .ok (.iconst 3, 1) := by decide +kernel
theorem dX10_setPick_21 : decode cX10_setPick 21 = .ok (.iaload, 1) := by decide +kernel
theorem dX10_setPick_22 : decode cX10_setPick 22 = .ok (.istore_n 2, 1) := by decide +kernel
theorem dX10_setPick_23 : decode cX10_setPick 23 = .ok (.aload_n 0, 1) := by decide +kernel
theorem dX10_setPick_24 : decode cX10_setPick 24 = .ok (.getfield 9, 3) := by decide +kernel
theorem dX10_setPick_27 : decode cX10_setPick 27 = .ok (.iconst 3, 1) := by decide +kernel
theorem dX10_setPick_28 : decode cX10_setPick 28 = .ok (.iload_n 1, 1) := by decide +kernel
theorem dX10_setPick_29 : decode cX10_setPick 29 = .ok (.iastore, 1) := by decide +kernel
theorem dX10_setPick_30 : decode cX10_setPick 30 = .ok (.iload_n 2, 1) := by decide +kernel
theorem dX10_setPick_31 : decode cX10_setPick 31 = .ok (.ireturn, 1) := by decide +kernel
theorem dX10_appendByte_0 : decode cX10_appendByte 0 = .ok (.aload_n 0, 1) := by decide +kernel
theorem dX10_appendByte_1 : decode cX10_appendByte 1 = .ok (.iload_n 1, 1) := by decide +kernel
theorem dX10_appendByte_2 : decode cX10_appendByte 2 = .ok (.iconst 0, 1) := by decide +kernel
theorem dX10_appendByte_3 : decode cX10_appendByte 3 = .ok (.sipush 255, 3) := by decide +kernel
theorem dX10_appendByte_6 : decode cX10_appendByte 6 = .ok (.invokestatic 54, 3) := by decide +kernel
theorem dX10_appendByte_9 : decode cX10_appendByte 9 = .ok (.iconst 1, 1) := by decide +kernel
theorem dX10_appendByte_10 : decode cX10_appendByte 10 = .ok (.invokevirtual 113, 3) := by decide +kernel
theorem dX10_appendByte_13 : decode cX10_appendByte 13 = .ok (.ifCond .eq 5, 3) := by decide +kernel
theorem dX10_appendByte_16 : decode cX10_appendByte 16 = .ok (.iconst 0, 1) := by decide +kernel
theorem dX10_appendByte_17 : decode cX10_appendByte 17 = .ok (.ireturn, 1) := by decide +kernel
theorem dX10_appendByte_18 : decode cX10_appendByte 18 = .ok (.aload_n 0, 1) := by decide +kernel
theorem dX10_appendByte_19 : decode cX10_appendByte 19 = .ok (.getfield 154, 3) := by decide +kernel
theorem dX10_appendByte_22 : decode cX10_appendByte 22 = .ok (.sipush 500, 3) := by decide +kernel
theorem dX10_appendByte_25 : decode cX10_appendByte 25 = .ok (.if_icmp .ne 6, 3) := by decide +kernel
theorem dX10_appendByte_28 : decode cX10_appendByte 28 = .ok (.bipush (-2), 2) := by decide +kernel
theorem dX10_appendByte_30 : decode cX10_appendByte 30 = .ok (.ireturn, 1) := by decide +kernel
theorem dX10_appendByte_31 : decode cX10_appendByte 31 = .ok (.aload_n 0, 1) := by decide +kernel
theorem dX10_appendByte_32 : decode cX10_appendByte 32 = .ok (.getfield 39, 3) := by decide +kernel
theorem dX10_appendByte_35 : decode cX10_appendByte 35 = .ok (.aload_n 0, 1) := by decide +kernel
theorem dX10_appendByte_36 : decode cX10_appendByte 36 = .ok (.getfield 154, 3) := by decide +kernel
theorem dX10_appendByte_39 : decode cX10_appendByte 39 = .ok (.iload_n 1, 1) := by decide +kernel
theorem dX10_appendByte_40 : decode cX10_appendByte 40 = .ok (.i2b, 1) := by decide +kernel
theorem dX10_appendByte_41 : decode cX10_appendByte 41 = .ok (.bastore, 1) := by decide +kernel
theorem dX10_appendByte_42 : decode cX10_appendByte 42 = .ok (.aload_n 0, 1) := by decide +kernel
theorem dX10_appendByte_43 : decode cX10_appendByte 43 = .ok (.dup, 1) := by decide +kernel
theorem dX10_appendByte_44 : decode cX10_appendByte 44 = .ok (.getfield 154, 3) := by decide +kernel
theorem dX10_appendByte_47 : decode cX10_appendByte 47 = .ok (.iconst 1, 1) := by decide +kernel
theorem dX10_appendByte_48 : decode cX10_appendByte 48 = .ok (.iadd, 1) := by decide +kernel
theorem dX10_appendByte_49 : decode cX10_appendByte 49 = .ok (.putfield 154, 3) := by decide +kernel
theorem dX10_appendByte_52 : decode cX10_appendByte 52 = .ok (.aload_n 0, 1) := by decide +kernel
theorem dX10_appendByte_53 : decode cX10_appendByte 53 = .ok (.getfield 154, 3) := by decide +kernel
theorem dX10_appendByte_56 : decode cX10_appendByte 56 = .ok (.ireturn, 1) := by decide +kernel
theorem dX10_here_0 : decode cX10_here 0 = .ok (.aload_n 0, 1) := by decide +kernel
theorem dX10_here_1 : decode cX10_here 1 = .ok (.getfield 157, 3) := by decide +kernel
theorem dX10_here_4 : decode cX10_here 4 = .ok (.aload_n 0, 1) := by decide +kernel
theorem dX10_here_5 : decode cX10_here 5 = .ok (.getfield 154, 3) := by decide +kernel
theorem dX10_here_8 : decode cX10_here 8 = .ok (.if_icmp .ge 19, 3) := by decide +kernel
theorem dX10_here_11 : decode cX10_here 11 = .ok (.aload_n 0, 1) := by decide +kernel
theorem dX10_here_12 : decode cX10_here 12 = .ok (.getfield 39, 3) := by decide +kernel
theorem dX10_here_15 : decode cX10_here 15 = .ok (.aload_n 0, 1) := by decide +kernel
theorem dX10_here_16 : decode cX10_here 16 = .ok (.getfield 157, 3) := by decide +kernel
theorem dX10_here_19 : decode cX10_here 19 = .ok (.baload, 1) := by decide +kernel
theorem dX10_here_20 : decode cX10_here 20 = .ok (.sipush 255, 3) := by decide +kernel
theorem dX10_here_23 : decode cX10_here 23 = .ok (.iand, 1) := by decide +kernel
theorem dX10_here_24 : decode cX10_here 24 = .ok (.goto 4, 3) := by decide +kernel
theorem dX10_here_27 : decode cX10_here 27 = .ok (.iconst (-1), 1) := by decide +kernel
theorem dX10_here_28 : decode cX10_here 28 = .ok (.ireturn, 1) := by decide +kernel
theorem dX10_next_0 : decode cX10_next 0 = .ok (.aload_n 0, 1) := by decide +kernel
theorem dX10_next_1 : decode cX10_next 1 = .ok (.invokevirtual 160, 3) := by decide +kernel
theorem dX10_next_4 : decode cX10_next 4 = .ok (.bipush 32, 2) := by decide +kernel
theorem dX10_next_6 : decode cX10_next 6 = .ok (.if_icmp .ne 16, 3) := by decide +kernel
theorem dX10_next_9 : decode cX10_next 9 = .ok (.aload_n 0, 1) := by decide +kernel
theorem dX10_next_10 : decode cX10_next 10 = .ok (.dup, 1) := by decide +kernel
theorem dX10_next_11 : decode cX10_next 11 = .ok (.getfield 157, 3) := by decide +kernel
theorem dX10_next_14 : decode cX10_next 14 = .ok (.iconst 1, 1) := by decide +kernel
theorem dX10_next_15 : decode cX10_next 15 = .ok (.iadd, 1) := by decide +kernel
theorem dX10_next_16 : decode cX10_next 16 = .ok (.putfield 157, 3) := by decide +kernel
theorem dX10_next_19 : decode cX10_next 19 = .ok (.goto (-19), 3) := by decide +kernel
theorem dX10_next_22 : decode cX10_next 22 = .ok (.aload_n 0, 1) := by decide +kernel
theorem dX10_next_23 : decode cX10_next 23 = .ok (.aload_n 0, 1) := by decide +kernel
theorem dX10_next_24 : decode cX10_next 24 = .ok (.getfield 157, 3) := by decide +kernel
theorem dX10_next_27 : decode cX10_next 27 = .ok (.putfield 164, 3) := by decide +kernel
theorem dX10_next_30 : decode cX10_next 30 = .ok (.aload_n 0, 1) := by decide +kernel
theorem dX10_next_31 : decode cX10_next 31 = .ok (.invokevirtual 160, 3) := by decide +kernel
theorem dX10_next_34 : decode cX10_next 34 = .ok (.ireturn, 1) := by decide +kernel
theorem dX10_fails_0 : decode cX10_fails 0 = .ok (.aload_n 0, 1) := by decide +kernel
theorem dX10_fails_1 : decode cX10_fails 1 = .ok (.getfield 167, 3) := by decide +kernel
theorem dX10_fails_4 : decode cX10_fails 4 = .ok (.ifCond .ne 13, 3) := by decide +kernel
theorem dX10_fails_7 : decode cX10_fails 7 = .ok (.aload_n 0, 1) := by decide +kernel
theorem dX10_fails_8 : decode cX10_fails 8 = .ok (.iload_n 1, 1) := by decide +kernel
theorem dX10_fails_9 : decode cX10_fails 9 = .ok (.putfield 167, 3) := by decide +kernel
theorem dX10_fails_12 : decode cX10_fails 12 = .ok (.aload_n 0, 1) := by decide +kernel
theorem dX10_fails_13 : decode cX10_fails 13 = .ok (.iload_n 2, 1) := by decide +kernel
theorem dX10_fails_14 : decode cX10_fails 14 = .ok (.putfield 170, 3) := by decide +kernel
theorem dX10_fails_17 : decode cX10_fails 17 = .ok (.return_, 1) := by decide +kernel
theorem dX10_reads_0 : decode cX10_reads 0 = .ok (.aload_n 0, 1) := by decide +kernel
theorem dX10_reads_1 : decode cX10_reads 1 = .ok (.invokevirtual 173, 3) := by decide +kernel
theorem dX10_reads_4 : decode cX10_reads 4 = .ok (.pop, 1) := by decide +kernel
theorem dX10_reads_5 : decode cX10_reads 5 = .ok (.aload_n 0, 1) := by decide +kernel
theorem dX10_reads_6 : decode cX10_reads 6 = .ok (.invokevirtual 160, 3) := by decide +kernel
theorem dX10_reads_9 : decode cX10_reads 9 = .ok (.bipush 97, 2) := by decide +kernel
theorem dX10_reads_11 : decode cX10_reads 11 = .ok (.bipush 122, 2) := by decide +kernel
theorem dX10_reads_13 : decode cX10_reads 13 = .ok (.invokestatic 54, 3) := by decide +kernel
theorem dX10_reads_16 : decode cX10_reads 16 = .ok (.ifCond .eq 16, 3) := by decide +kernel
theorem dX10_reads_19 : decode cX10_reads 19 = .ok (.aload_n 0, 1) := by decide +kernel
theorem dX10_reads_20 : decode cX10_reads 20 = .ok (.dup, 1) := by decide +kernel
theorem dX10_reads_21 : decode cX10_reads 21 = .ok (.getfield 157, 3) := by decide +kernel
theorem dX10_reads_24 : decode cX10_reads 24 = .ok (.iconst 1, 1) := by decide +kernel
theorem dX10_reads_25 : decode cX10_reads 25 = .ok (.iadd, 1) := by decide +kernel
theorem dX10_reads_26 : decode cX10_reads 26 = .ok (.putfield 157, 3) := by decide +kernel
theorem dX10_reads_29 : decode cX10_reads 29 = .ok (.goto (-24), 3) := by decide +kernel
theorem dX10_reads_32 : decode cX10_reads 32 = .ok (.return_, 1) := by decide +kernel
theorem dX10_isWord_0 : decode cX10_isWord 0 = .ok (.aload_n 0, 1) := by decide +kernel
theorem dX10_isWord_1 : decode cX10_isWord 1 = .ok (.getfield 157, 3) := by decide +kernel
theorem dX10_isWord_4 : decode cX10_isWord 4 = .ok (.aload_n 0, 1) := by decide +kernel
theorem dX10_isWord_5 : decode cX10_isWord 5 = .ok (.getfield 164, 3) := by decide +kernel
theorem dX10_isWord_8 : decode cX10_isWord 8 = .ok (.isub, 1) := by decide +kernel
theorem dX10_isWord_9 : decode cX10_isWord 9 = .ok (.aload_n 1, 1) := by decide +kernel
theorem dX10_isWord_10 : decode cX10_isWord 10 = .ok (.invokevirtual 176, 3) := by decide +kernel
theorem dX10_isWord_13 : decode cX10_isWord 13 = .ok (.if_icmp .ne 7, 3) := by decide +kernel
theorem dX10_isWord_16 : decode cX10_isWord 16 = .ok (.iconst 1, 1) := by decide +kernel
theorem dX10_isWord_17 : decode cX10_isWord 17 = .ok (.goto 4, 3) := by decide +kernel
theorem dX10_isWord_20 : decode cX10_isWord 20 = .ok (.iconst 0, 1) := by decide +kernel
theorem dX10_isWord_21 : decode cX10_isWord 21 = .ok (.istore_n 2, 1) := by decide +kernel
theorem dX10_isWord_22 : decode cX10_isWord 22 = .ok (.iconst 0, 1) := by decide +kernel
theorem dX10_isWord_23 : decode cX10_isWord 23 = .ok (.istore_n 3, 1) := by decide +kernel
theorem dX10_isWord_24 : decode cX10_isWord 24 = .ok (.iload_n 2, 1) := by decide +kernel
theorem dX10_isWord_25 : decode cX10_isWord 25 = .ok (.ifCond .eq 42, 3) := by decide +kernel
theorem dX10_isWord_28 : decode cX10_isWord 28 = .ok (.iload_n 3, 1) := by decide +kernel
theorem dX10_isWord_29 : decode cX10_isWord 29 = .ok (.aload_n 1, 1) := by decide +kernel
theorem dX10_isWord_30 : decode cX10_isWord 30 = .ok (.invokevirtual 176, 3) := by decide +kernel
theorem dX10_isWord_33 : decode cX10_isWord 33 = .ok (.if_icmp .ge 34, 3) := by decide +kernel
theorem dX10_isWord_36 : decode cX10_isWord 36 = .ok (.aload_n 0, 1) := by decide +kernel
theorem dX10_isWord_37 : decode cX10_isWord 37 = .ok (.getfield 39, 3) := by decide +kernel
theorem dX10_isWord_40 : decode cX10_isWord 40 = .ok (.aload_n 0, 1) := by decide +kernel
theorem dX10_isWord_41 : decode cX10_isWord 41 = .ok (.getfield 164, 3) := by decide +kernel
theorem dX10_isWord_44 : decode cX10_isWord 44 = .ok (.iload_n 3, 1) := by decide +kernel
theorem dX10_isWord_45 : decode cX10_isWord 45 = .ok (.iadd, 1) := by decide +kernel
theorem dX10_isWord_46 : decode cX10_isWord 46 = .ok (.baload, 1) := by decide +kernel
theorem dX10_isWord_47 : decode cX10_isWord 47 = .ok (.aload_n 1, 1) := by decide +kernel
theorem dX10_isWord_48 : decode cX10_isWord 48 = .ok (.iload_n 3, 1) := by decide +kernel
theorem dX10_isWord_49 : decode cX10_isWord 49 = .ok (.invokevirtual 180, 3) := by decide +kernel
theorem dX10_isWord_52 : decode cX10_isWord 52 = .ok (.if_icmp .ne 7, 3) := by decide +kernel
theorem dX10_isWord_55 : decode cX10_isWord 55 = .ok (.iconst 1, 1) := by decide +kernel
theorem dX10_isWord_56 : decode cX10_isWord 56 = .ok (.goto 4, 3) := by decide +kernel
theorem dX10_isWord_59 : decode cX10_isWord 59 = .ok (.iconst 0, 1) := by decide +kernel
theorem dX10_isWord_60 : decode cX10_isWord 60 = .ok (.istore_n 2, 1) := by decide +kernel
theorem dX10_isWord_61 : decode cX10_isWord 61 = .ok (.iinc 3 1, 3) := by decide +kernel
theorem dX10_isWord_64 : decode cX10_isWord 64 = .ok (.goto (-40), 3) := by decide +kernel
theorem dX10_isWord_67 : decode cX10_isWord 67 = .ok (.iload_n 2, 1) := by decide +kernel
theorem dX10_isWord_68 : decode cX10_isWord 68 = .ok (.ireturn, 1) := by decide +kernel
theorem dX10_number_0 : decode cX10_number 0 = .ok (.aload_n 0, 1) := by decide +kernel
theorem dX10_number_1 : decode cX10_number 1 = .ok (.getfield 167, 3) := by decide +kernel
theorem dX10_number_4 : decode cX10_number 4 = .ok (.ifCond .eq 5, 3) := by decide +kernel
theorem dX10_number_7 : decode cX10_number 7 = .ok (.iload_n 1, 1) := by decide +kernel
theorem dX10_number_8 : decode cX10_number 8 = .ok (.ireturn, 1) := by decide +kernel
theorem dX10_number_9 : decode cX10_number 9 = .ok (.aload_n 0, 1) := by decide +kernel
theorem dX10_number_10 : decode cX10_number 10 = .ok (.invokevirtual 173, 3) := by decide +kernel
theorem dX10_number_13 : decode cX10_number 13 = .ok (.bipush 48, 2) := by decide +kernel
theorem dX10_number_15 : decode cX10_number 15 = .ok (.bipush 57, 2) := by decide +kernel
theorem dX10_number_17 : decode cX10_number 17 = .ok (.invokestatic 54, 3) := by decide +kernel
theorem dX10_number_20 : decode cX10_number 20 = .ok (.ifCond .ne 14, 3) := by decide +kernel
theorem dX10_number_23 : decode cX10_number 23 = .ok (.aload_n 0, 1) := by decide +kernel
theorem dX10_number_24 : decode cX10_number 24 = .ok (.iconst 1, 1) := by decide +kernel
theorem dX10_number_25 : decode cX10_number 25 = .ok (.aload_n 0, 1) := by decide +kernel
theorem dX10_number_26 : decode cX10_number 26 = .ok (.getfield 157, 3) := by decide +kernel
theorem dX10_number_29 : decode cX10_number 29 = .ok (.invokevirtual 184, 3) := by decide +kernel
theorem dX10_number_32 : decode cX10_number 32 = .ok (.iload_n 1, 1) := by decide +kernel
theorem dX10_number_33 : decode cX10_number 33 = .ok (.ireturn, 1) := by decide +kernel
theorem dX10_number_34 : decode cX10_number 34 = .ok (.iconst 0, 1) := by decide +kernel
theorem dX10_number_35 : decode cX10_number 35 = .ok (.istore_n 3, 1) := by decide +kernel
theorem dX10_number_36 : decode cX10_number 36 = .ok (.aload_n 0, 1) := by decide +kernel
theorem dX10_number_37 : decode cX10_number 37 = .ok (.invokevirtual 160, 3) := by decide +kernel
theorem dX10_number_40 : decode cX10_number 40 = .ok (.bipush 48, 2) := by decide +kernel
theorem dX10_number_42 : decode cX10_number 42 = .ok (.bipush 57, 2) := by decide +kernel
theorem dX10_number_44 : decode cX10_number 44 = .ok (.invokestatic 54, 3) := by decide +kernel
theorem dX10_number_47 : decode cX10_number 47 = .ok (.ifCond .eq 34, 3) := by decide +kernel
theorem dX10_number_50 : decode cX10_number 50 = .ok (.ldc 188, 2) := by decide +kernel
theorem dX10_number_52 : decode cX10_number 52 = .ok (.bipush 10, 2) := by decide +kernel
theorem dX10_number_54 : decode cX10_number 54 = .ok (.iload_n 3, 1) := by decide +kernel
theorem dX10_number_55 : decode cX10_number 55 = .ok (.imul, 1) := by decide +kernel
theorem dX10_number_56 : decode cX10_number 56 = .ok (.aload_n 0, 1) := by decide +kernel
theorem dX10_number_57 : decode cX10_number 57 = .ok (.invokevirtual 160, 3) := by decide +kernel
theorem dX10_number_60 : decode cX10_number 60 = .ok (.iadd, 1) := by decide +kernel
theorem dX10_number_61 : decode cX10_number 61 = .ok (.bipush 48, 2) := by decide +kernel
theorem dX10_number_63 : decode cX10_number 63 = .ok (.isub, 1) := by decide +kernel
theorem dX10_number_64 : decode cX10_number 64 = .ok (.invokestatic 189, 3) := by decide +kernel
theorem dX10_number_67 : decode cX10_number 67 = .ok (.istore_n 3, 1) := by decide +kernel
theorem dX10_number_68 : decode cX10_number 68 = .ok (.aload_n 0, 1) := by decide +kernel
theorem dX10_number_69 : decode cX10_number 69 = .ok (.dup, 1) := by decide +kernel
theorem dX10_number_70 : decode cX10_number 70 = .ok (.getfield 157, 3) := by decide +kernel
theorem dX10_number_73 : decode cX10_number 73 = .ok (.iconst 1, 1) := by decide +kernel
theorem dX10_number_74 : decode cX10_number 74 = .ok (.iadd, 1) := by decide +kernel
theorem dX10_number_75 : decode cX10_number 75 = .ok (.putfield 157, 3) := by decide +kernel
theorem dX10_number_78 : decode cX10_number 78 = .ok (.goto (-42), 3) := by decide +kernel
theorem dX10_number_81 : decode cX10_number 81 = .ok (.iload_n 3, 1) := by decide +kernel
theorem dX10_number_82 : decode cX10_number 82 = .ok (.iload_n 1, 1) := by decide +kernel
theorem dX10_number_83 : decode cX10_number 83 = .ok (.iload_n 2, 1) := by decide +kernel
theorem dX10_number_84 : decode cX10_number 84 = .ok (.invokestatic 54, 3) := by decide +kernel
theorem dX10_number_87 : decode cX10_number 87 = .ok (.ifCond .ne 14, 3) := by decide +kernel
theorem dX10_number_90 : decode cX10_number 90 = .ok (.aload_n 0, 1) := by decide +kernel
theorem dX10_number_91 : decode cX10_number 91 = .ok (.iconst 2, 1) := by decide +kernel
theorem dX10_number_92 : decode cX10_number 92 = .ok (.aload_n 0, 1) := by decide +kernel
theorem dX10_number_93 : decode cX10_number 93 = .ok (.getfield 164, 3) := by decide +kernel
theorem dX10_number_96 : decode cX10_number 96 = .ok (.invokevirtual 184, 3) := by decide +kernel
theorem dX10_number_99 : decode cX10_number 99 = .ok (.iload_n 1, 1) := by decide +kernel
theorem dX10_number_100 : decode cX10_number 100 = .ok (.ireturn, 1) := by decide +kernel
theorem dX10_number_101 : decode cX10_number 101 = .ok (.iload_n 3, 1) := by decide +kernel
theorem dX10_number_102 : decode cX10_number 102 = .ok (.ireturn, 1) := by decide +kernel
theorem dX10_isNameOf_0 : decode cX10_isNameOf 0 = .ok (.aload_n 0, 1) := by decide +kernel
theorem dX10_isNameOf_1 : decode cX10_isNameOf 1 = .ok (.getfield 157, 3) := by decide +kernel
theorem dX10_isNameOf_4 : decode cX10_isNameOf 4 = .ok (.aload_n 0, 1) := by decide +kernel
theorem dX10_isNameOf_5 : decode cX10_isNameOf 5 = .ok (.getfield 164, 3) := by decide +kernel
theorem dX10_isNameOf_8 : decode cX10_isNameOf 8 = .ok (.isub, 1) := by decide +kernel
theorem dX10_isNameOf_9 : decode cX10_isNameOf 9 = .ok (.bipush 6, 2) := by decide +kernel
theorem dX10_isNameOf_11 : decode cX10_isNameOf 11 = .ok (.if_icmp .gt 7, 3) := by decide +kernel
theorem dX10_isNameOf_14 : decode cX10_isNameOf 14 = .ok (.iconst 1, 1) := by decide +kernel
theorem dX10_isNameOf_15 : decode cX10_isNameOf 15 = .ok (.goto 4, 3) := by decide +kernel
theorem dX10_isNameOf_18 : decode cX10_isNameOf 18 = .ok (.iconst 0, 1) := by decide +kernel
theorem dX10_isNameOf_19 : decode cX10_isNameOf 19 = .ok (.istore_n 3, 1) := by decide +kernel
theorem dX10_isNameOf_20 : decode cX10_isNameOf 20 = .ok (.iconst 0, 1) := by decide +kernel
theorem dX10_isNameOf_21 : decode cX10_isNameOf 21 = .ok (.istore 4, 2) := by decide +kernel
theorem dX10_isNameOf_23 : decode cX10_isNameOf 23 = .ok (.iload_n 3, 1) := by decide +kernel
theorem dX10_isNameOf_24 : decode cX10_isNameOf 24 = .ok (.ifCond .eq 70, 3) := by decide +kernel
theorem dX10_isNameOf_27 : decode cX10_isNameOf 27 = .ok (.iload 4, 2) := by decide +kernel
theorem dX10_isNameOf_29 : decode cX10_isNameOf 29 = .ok (.bipush 6, 2) := by decide +kernel
theorem dX10_isNameOf_31 : decode cX10_isNameOf 31 = .ok (.if_icmp .ge 63, 3) := by decide +kernel
theorem dX10_isNameOf_34 : decode cX10_isNameOf 34 = .ok (.aload_n 1, 1) := by decide +kernel
theorem dX10_isNameOf_35 : decode cX10_isNameOf 35 = .ok (.sipush 407, 3) := by decide +kernel
theorem dX10_isNameOf_38 : decode cX10_isNameOf 38 = .ok (.bipush 8, 2) := by decide +kernel
theorem dX10_isNameOf_40 : decode cX10_isNameOf 40 = .ok (.iload_n 2, 1) := by decide +kernel
theorem dX10_isNameOf_41 : decode cX10_isNameOf 41 = .ok (.imul, 1) := by decide +kernel
theorem dX10_isNameOf_42 : decode cX10_isNameOf 42 = .ok (.iadd, 1) := by decide +kernel
theorem dX10_isNameOf_43 : decode cX10_isNameOf 43 = .ok (.iconst 2, 1) := by decide +kernel
theorem dX10_isNameOf_44 : decode cX10_isNameOf 44 = .ok (.iadd, 1) := by decide +kernel
theorem dX10_isNameOf_45 : decode cX10_isNameOf 45 = .ok (.iload 4, 2) := by decide +kernel
theorem dX10_isNameOf_47 : decode cX10_isNameOf 47 = .ok (.iadd, 1) := by decide +kernel
theorem dX10_isNameOf_48 : decode cX10_isNameOf 48 = .ok (.iaload, 1) := by decide +kernel
theorem dX10_isNameOf_49 : decode cX10_isNameOf 49 = .ok (.aload_n 0, 1) := by decide +kernel
theorem dX10_isNameOf_50 : decode cX10_isNameOf 50 = .ok (.getfield 164, 3) := by decide +kernel
theorem dX10_isNameOf_53 : decode cX10_isNameOf 53 = .ok (.iload 4, 2) := by decide +kernel
theorem dX10_isNameOf_55 : decode cX10_isNameOf 55 = .ok (.iadd, 1) := by decide +kernel
theorem dX10_isNameOf_56 : decode cX10_isNameOf 56 = .ok (.aload_n 0, 1) := by decide +kernel
theorem dX10_isNameOf_57 : decode cX10_isNameOf 57 = .ok (.getfield 157, 3) := by decide +kernel
theorem dX10_isNameOf_60 : decode cX10_isNameOf 60 = .ok (.if_icmp .ge 18, 3) := by decide +kernel
theorem dX10_isNameOf_63 : decode cX10_isNameOf 63 = .ok (.aload_n 0, 1) := by decide +kernel
theorem dX10_isNameOf_64 : decode cX10_isNameOf 64 = .ok (.getfield 39, 3) := by decide +kernel
theorem dX10_isNameOf_67 : decode cX10_isNameOf 67 = .ok (.aload_n 0, 1) := by decide +kernel
theorem dX10_isNameOf_68 : decode cX10_isNameOf 68 = .ok (.getfield 164, 3) := by decide +kernel
theorem dX10_isNameOf_71 : decode cX10_isNameOf 71 = .ok (.iload 4, 2) := by decide +kernel
theorem dX10_isNameOf_73 : decode cX10_isNameOf 73 = .ok (.iadd, 1) := by decide +kernel
theorem dX10_isNameOf_74 : decode cX10_isNameOf 74 = .ok (.baload, 1) := by decide +kernel
theorem dX10_isNameOf_75 : decode cX10_isNameOf 75 = .ok (.goto 4, 3) := by decide +kernel
theorem dX10_isNameOf_78 : decode cX10_isNameOf 78 = .ok (.iconst 0, 1) := by decide +kernel
theorem dX10_isNameOf_79 : decode cX10_isNameOf 79 = .ok (.if_icmp .ne 7, 3) := by decide +kernel
theorem dX10_isNameOf_82 : decode cX10_isNameOf 82 = .ok (.iconst 1, 1) := by decide +kernel
theorem dX10_isNameOf_83 : decode cX10_isNameOf 83 = .ok (.goto 4, 3) := by decide +kernel
theorem dX10_isNameOf_86 : decode cX10_isNameOf 86 = .ok (.iconst 0, 1) := by decide +kernel
theorem dX10_isNameOf_87 : decode cX10_isNameOf 87 = .ok (.istore_n 3, 1) := by decide +kernel
theorem dX10_isNameOf_88 : decode cX10_isNameOf 88 = .ok (.iinc 4 1, 3) := by decide +kernel
theorem dX10_isNameOf_91 : decode cX10_isNameOf 91 = .ok (.goto (-68), 3) := by decide +kernel
theorem dX10_isNameOf_94 : decode cX10_isNameOf 94 = .ok (.iload_n 3, 1) := by decide +kernel
theorem dX10_isNameOf_95 : decode cX10_isNameOf 95 = .ok (.ireturn, 1) := by decide +kernel
theorem dX10_findIn_0 : decode cX10_findIn 0 = .ok (.iconst 0, 1) := by decide +kernel
theorem dX10_findIn_1 : decode cX10_findIn 1 = .ok (.istore_n 2, 1) := by decide +kernel
theorem dX10_findIn_2 : decode cX10_findIn 2 = .ok (.iload_n 2, 1) := by decide +kernel
theorem dX10_findIn_3 : decode cX10_findIn 3 = .ok (.aload_n 1, 1) := by decide +kernel
theorem dX10_findIn_4 : decode cX10_findIn 4 = .ok (.iconst 1, 1) := by decide +kernel
theorem dX10_findIn_5 : decode cX10_findIn 5 = .ok (.iaload, 1) := by decide +kernel
theorem dX10_findIn_6 : decode cX10_findIn 6 = .ok (.if_icmp .ge 20, 3) := by decide +kernel
theorem dX10_findIn_9 : decode cX10_findIn 9 = .ok (.aload_n 0, 1) := by decide +kernel
theorem dX10_findIn_10 : decode cX10_findIn 10 = .ok (.aload_n 1, 1) := by decide +kernel
theorem dX10_findIn_11 : decode cX10_findIn 11 = .ok (.iload_n 2, 1) := by decide +kernel
theorem dX10_findIn_12 : decode cX10_findIn 12 = .ok (.invokevirtual 194, 3) := by decide +kernel
theorem dX10_findIn_15 : decode cX10_findIn 15 = .ok (.ifCond .eq 5, 3) := by decide +kernel
theorem dX10_findIn_18 : decode cX10_findIn 18 = .ok (.iload_n 2, 1) := by decide +kernel
theorem dX10_findIn_19 : decode cX10_findIn 19 = .ok (.ireturn, 1) := by decide +kernel
theorem dX10_findIn_20 : decode cX10_findIn 20 = .ok (.iinc 2 1, 3) := by decide +kernel
theorem dX10_findIn_23 : decode cX10_findIn 23 = .ok (.goto (-21), 3) := by decide +kernel
theorem dX10_findIn_26 : decode cX10_findIn 26 = .ok (.iconst (-1), 1) := by decide +kernel
theorem dX10_findIn_27 : decode cX10_findIn 27 = .ok (.ireturn, 1) := by decide +kernel
theorem dX10_known_0 : decode cX10_known 0 = .ok (.aload_n 0, 1) := by decide +kernel
theorem dX10_known_1 : decode cX10_known 1 = .ok (.getfield 167, 3) := by decide +kernel
theorem dX10_known_4 : decode cX10_known 4 = .ok (.ifCond .eq 5, 3) := by decide +kernel
theorem dX10_known_7 : decode cX10_known 7 = .ok (.iload_n 2, 1) := by decide +kernel
theorem dX10_known_8 : decode cX10_known 8 = .ok (.ireturn, 1) := by decide +kernel
theorem dX10_known_9 : decode cX10_known 9 = .ok (.aload_n 0, 1) := by decide +kernel
theorem dX10_known_10 : decode cX10_known 10 = .ok (.invokevirtual 198, 3) := by decide +kernel
theorem dX10_known_13 : decode cX10_known 13 = .ok (.aload_n 0, 1) := by decide +kernel
theorem dX10_known_14 : decode cX10_known 14 = .ok (.getfield 157, 3) := by decide +kernel
theorem dX10_known_17 : decode cX10_known 17 = .ok (.aload_n 0, 1) := by decide +kernel
theorem dX10_known_18 : decode cX10_known 18 = .ok (.getfield 164, 3) := by decide +kernel
theorem dX10_known_21 : decode cX10_known 21 = .ok (.if_icmp .ne 14, 3) := by decide +kernel
theorem dX10_known_24 : decode cX10_known 24 = .ok (.aload_n 0, 1) := by decide +kernel
theorem dX10_known_25 : decode cX10_known 25 = .ok (.iconst 1, 1) := by decide +kernel
theorem dX10_known_26 : decode cX10_known 26 = .ok (.aload_n 0, 1) := by decide +kernel
theorem dX10_known_27 : decode cX10_known 27 = .ok (.getfield 164, 3) := by decide +kernel
theorem dX10_known_30 : decode cX10_known 30 = .ok (.invokevirtual 184, 3) := by decide +kernel
theorem dX10_known_33 : decode cX10_known 33 = .ok (.iload_n 2, 1) := by decide +kernel
theorem dX10_known_34 : decode cX10_known 34 = .ok (.ireturn, 1) := by decide +kernel
theorem dX10_known_35 : decode cX10_known 35 = .ok (.aload_n 0, 1) := by decide +kernel
theorem dX10_known_36 : decode cX10_known 36 = .ok (.aload_n 1, 1) := by decide +kernel
theorem dX10_known_37 : decode cX10_known 37 = .ok (.invokevirtual 201, 3) := by decide +kernel
theorem dX10_known_40 : decode cX10_known 40 = .ok (.istore 4, 2) := by decide +kernel
theorem dX10_known_42 : decode cX10_known 42 = .ok (.iload 4, 2) := by decide +kernel
theorem dX10_known_44 : decode cX10_known 44 = .ok (.iload_n 2, 1) := by decide +kernel
theorem dX10_known_45 : decode cX10_known 45 = .ok (.if_icmp .lt 9, 3) := by decide +kernel
theorem dX10_known_48 : decode cX10_known 48 = .ok (.iload 4, 2) := by decide +kernel
theorem dX10_known_50 : decode cX10_known 50 = .ok (.iload_n 3, 1) := by decide +kernel
theorem dX10_known_51 : decode cX10_known 51 = .ok (.if_icmp .ne 14, 3) := by decide +kernel
theorem dX10_known_54 : decode cX10_known 54 = .ok (.aload_n 0, 1) := by decide +kernel
theorem dX10_known_55 : decode cX10_known 55 = .ok (.iconst 3, 1) := by decide +kernel
theorem dX10_known_56 : decode cX10_known 56 = .ok (.aload_n 0, 1) := by decide +kernel
theorem dX10_known_57 : decode cX10_known 57 = .ok (.getfield 164, 3) := by decide +kernel
theorem dX10_known_60 : decode cX10_known 60 = .ok (.invokevirtual 184, 3) := by decide +kernel
theorem dX10_known_63 : decode cX10_known 63 = .ok (.iload_n 2, 1) := by decide +kernel
theorem dX10_known_64 : decode cX10_known 64 = .ok (.ireturn, 1) := by decide +kernel
theorem dX10_known_65 : decode cX10_known 65 = .ok (.iload 4, 2) := by decide +kernel
theorem dX10_known_67 : decode cX10_known 67 = .ok (.ireturn, 1) := by decide +kernel
theorem dX10_poolPart_0 : decode cX10_poolPart 0 = .ok (.aload_n 0, 1) := by decide +kernel
theorem dX10_poolPart_1 : decode cX10_poolPart 1 = .ok (.getfield 13, 3) := by decide +kernel
theorem dX10_poolPart_4 : decode cX10_poolPart 4 = .ok (.iconst 1, 1) := by decide +kernel
theorem dX10_poolPart_5 : decode cX10_poolPart 5 = .ok (.iaload, 1) := by decide +kernel
theorem dX10_poolPart_6 : decode cX10_poolPart 6 = .ok (.bipush 8, 2) := by decide +kernel
theorem dX10_poolPart_8 : decode cX10_poolPart 8 = .ok (.if_icmp .ne 13, 3) := by decide +kernel
theorem dX10_poolPart_11 : decode cX10_poolPart 11 = .ok (.aload_n 0, 1) := by decide +kernel
theorem dX10_poolPart_12 : decode cX10_poolPart 12 = .ok (.iconst 4, 1) := by decide +kernel
theorem dX10_poolPart_13 : decode cX10_poolPart 13 = .ok (.aload_n 0, 1) := by decide +kernel
theorem dX10_poolPart_14 : decode cX10_poolPart 14 = .ok (.getfield 164, 3) := by decide +kernel
theorem dX10_poolPart_17 : decode cX10_poolPart 17 = .ok (.invokevirtual 184, 3) := by decide +kernel
theorem dX10_poolPart_20 : decode cX10_poolPart 20 = .ok (.return_, 1) := by decide +kernel
theorem dX10_poolPart_21 : decode cX10_poolPart 21 = .ok (.aload_n 0, 1) := by decide +kernel
theorem dX10_poolPart_22 : decode cX10_poolPart 22 = .ok (.invokevirtual 198, 3) := by decide +kernel
theorem dX10_poolPart_25 : decode cX10_poolPart 25 = .ok (.aload_n 0, 1) := by decide +kernel
theorem dX10_poolPart_26 : decode cX10_poolPart 26 = .ok (.getfield 157, 3) := by decide +kernel
theorem dX10_poolPart_29 : decode cX10_poolPart 29 = .ok (.aload_n 0, 1) := by decide +kernel
theorem dX10_poolPart_30 : decode cX10_poolPart 30 = .ok (.getfield 164, 3) := by decide +kernel
theorem dX10_poolPart_33 : decode cX10_poolPart 33 = .ok (.isub, 1) := by decide +kernel
theorem dX10_poolPart_34 : decode cX10_poolPart 34 = .ok (.iconst 1, 1) := by decide +kernel
theorem dX10_poolPart_35 : decode cX10_poolPart 35 = .ok (.bipush 6, 2) := by decide +kernel
theorem dX10_poolPart_37 : decode cX10_poolPart 37 = .ok (.invokestatic 54, 3) := by decide +kernel
theorem dX10_poolPart_40 : decode cX10_poolPart 40 = .ok (.ifCond .eq 12, 3) := by decide +kernel
theorem dX10_poolPart_43 : decode cX10_poolPart 43 = .ok (.aload_n 0, 1) := by decide +kernel
theorem dX10_poolPart_44 : decode cX10_poolPart 44 = .ok (.ldc 205, 2) := by decide +kernel
theorem dX10_poolPart_46 : decode cX10_poolPart 46 = .ok (.invokevirtual 207, 3) := by decide +kernel
theorem dX10_poolPart_49 : decode cX10_poolPart 49 = .ok (.ifCond .eq 15, 3) := by decide +kernel
theorem dX10_poolPart_52 : decode cX10_poolPart 52 = .ok (.aload_n 0, 1) := by decide +kernel
theorem dX10_poolPart_53 : decode cX10_poolPart 53 = .ok (.iconst 1, 1) := by decide +kernel
theorem dX10_poolPart_54 : decode cX10_poolPart 54 = .ok (.aload_n 0, 1) := by decide +kernel
theorem dX10_poolPart_55 : decode cX10_poolPart 55 = .ok (.getfield 164, 3) := by decide +kernel
theorem dX10_poolPart_58 : decode cX10_poolPart 58 = .ok (.invokevirtual 184, 3) := by decide +kernel
theorem dX10_poolPart_61 : decode cX10_poolPart 61 = .ok (.goto 24, 3) := by decide +kernel
theorem dX10_poolPart_64 : decode cX10_poolPart 64 = .ok (.aload_n 0, 1) := by decide +kernel
theorem dX10_poolPart_65 : decode cX10_poolPart 65 = .ok (.aload_n 0, 1) := by decide +kernel
theorem dX10_poolPart_66 : decode cX10_poolPart 66 = .ok (.getfield 13, 3) := by decide +kernel
theorem dX10_poolPart_69 : decode cX10_poolPart 69 = .ok (.invokevirtual 201, 3) := by decide +kernel
theorem dX10_poolPart_72 : decode cX10_poolPart 72 = .ok (.iconst (-1), 1) := by decide +kernel
theorem dX10_poolPart_73 : decode cX10_poolPart 73 = .ok (.if_icmp .eq 12, 3) := by decide +kernel
theorem dX10_poolPart_76 : decode cX10_poolPart 76 = .ok (.aload_n 0, 1) := by decide +kernel
theorem dX10_poolPart_77 : decode cX10_poolPart 77 = .ok (.iconst 3, 1) := by decide +kernel
theorem dX10_poolPart_78 : decode cX10_poolPart 78 = .ok (.aload_n 0, 1) := by decide +kernel
theorem dX10_poolPart_79 : decode cX10_poolPart 79 = .ok (.getfield 164, 3) := by decide +kernel
theorem dX10_poolPart_82 : decode cX10_poolPart 82 = .ok (.invokevirtual 184, 3) := by decide +kernel
theorem dX10_poolPart_85 : decode cX10_poolPart 85 = .ok (.sipush 407, 3) := by decide +kernel
theorem dX10_poolPart_88 : decode cX10_poolPart 88 = .ok (.bipush 8, 2) := by decide +kernel
theorem dX10_poolPart_90 : decode cX10_poolPart 90 = .ok (.aload_n 0, 1) := by decide +kernel
theorem dX10_poolPart_91 : decode cX10_poolPart 91 = .ok (.getfield 13, 3) := by decide +kernel
theorem dX10_poolPart_94 : decode cX10_poolPart 94 = .ok (.iconst 1, 1) := by decide +kernel
theorem dX10_poolPart_95 : decode cX10_poolPart 95 = .ok (.iaload, 1) := by decide +kernel
theorem dX10_poolPart_96 : decode cX10_poolPart 96 = .ok (.imul, 1) := by decide +kernel
theorem dX10_poolPart_97 : decode cX10_poolPart 97 = .ok (.iadd, 1) := by decide +kernel
theorem dX10_poolPart_98 : decode cX10_poolPart 98 = .ok (.istore_n 1, 1) := by decide +kernel
theorem dX10_poolPart_99 : decode cX10_poolPart 99 = .ok (.iconst 0, 1) := by decide +kernel
theorem dX10_poolPart_100 : decode cX10_poolPart 100 = .ok (.istore_n 2, 1) := by decide +kernel
theorem dX10_poolPart_101 : decode cX10_poolPart 101 = .ok (.aload_n 0, 1) := by decide +kernel
theorem dX10_poolPart_102 : decode cX10_poolPart 102 = .ok (.getfield 167, 3) := by decide +kernel
theorem dX10_poolPart_105 : decode cX10_poolPart 105 = .ok (.ifCond .ne 53, 3) := by decide +kernel
theorem dX10_poolPart_108 : decode cX10_poolPart 108 = .ok (.iload_n 2, 1) := by decide +kernel
theorem dX10_poolPart_109 : decode cX10_poolPart 109 = .ok (.bipush 6, 2) := by decide +kernel
theorem dX10_poolPart_111 : decode cX10_poolPart 111 = .ok (.if_icmp .ge 47, 3) := by decide +kernel
theorem dX10_poolPart_114 : decode cX10_poolPart 114 = .ok (.aload_n 0, 1) := by decide +kernel
theorem dX10_poolPart_115 : decode cX10_poolPart 115 = .ok (.getfield 13, 3) := by decide +kernel
theorem dX10_poolPart_118 : decode cX10_poolPart 118 = .ok (.iload_n 1, 1) := by decide +kernel
theorem dX10_poolPart_119 : decode cX10_poolPart 119 = .ok (.iconst 2, 1) := by decide +kernel
theorem dX10_poolPart_120 : decode cX10_poolPart 120 = .ok (.iadd, 1) := by decide +kernel
theorem dX10_poolPart_121 : decode cX10_poolPart 121 = .ok (.iload_n 2, 1) := by decide +kernel
theorem dX10_poolPart_122 : decode cX10_poolPart 122 = .ok (.iadd, 1) := by decide +kernel
theorem dX10_poolPart_123 : decode cX10_poolPart 123 = .ok (.aload_n 0, 1) := by decide +kernel
theorem dX10_poolPart_124 : decode cX10_poolPart 124 = .ok (.getfield 164, 3) := by decide +kernel
theorem dX10_poolPart_127 : decode cX10_poolPart 127 = .ok (.iload_n 2, 1) := by decide +kernel
theorem dX10_poolPart_128 : decode cX10_poolPart 128 = .ok (.iadd, 1) := by decide +kernel
theorem dX10_poolPart_129 : decode cX10_poolPart 129 = .ok (.aload_n 0, 1) := by decide +kernel
theorem dX10_poolPart_130 : decode cX10_poolPart 130 = .ok (.getfield 157, 3) := by decide +kernel
theorem dX10_poolPart_133 : decode cX10_poolPart 133 = .ok (.if_icmp .ge 17, 3) := by decide +kernel
theorem dX10_poolPart_136 : decode cX10_poolPart 136 = .ok (.aload_n 0, 1) := by decide +kernel
theorem dX10_poolPart_137 : decode cX10_poolPart 137 = .ok (.getfield 39, 3) := by decide +kernel
theorem dX10_poolPart_140 : decode cX10_poolPart 140 = .ok (.aload_n 0, 1) := by decide +kernel
theorem dX10_poolPart_141 : decode cX10_poolPart 141 = .ok (.getfield 164, 3) := by decide +kernel
theorem dX10_poolPart_144 : decode cX10_poolPart 144 = .ok (.iload_n 2, 1) := by decide +kernel
theorem dX10_poolPart_145 : decode cX10_poolPart 145 = .ok (.iadd, 1) := by decide +kernel
theorem dX10_poolPart_146 : decode cX10_poolPart 146 = .ok (.baload, 1) := by decide +kernel
theorem dX10_poolPart_147 : decode cX10_poolPart 147 = .ok (.goto 4, 3) := by decide +kernel
theorem dX10_poolPart_150 : decode cX10_poolPart 150 = .ok (.iconst 0, 1) := by decide +kernel
theorem dX10_poolPart_151 : decode cX10_poolPart 151 = .ok (.iastore, 1) := by decide +kernel
theorem dX10_poolPart_152 : decode cX10_poolPart 152 = .ok (.iinc 2 1, 3) := by decide +kernel
theorem dX10_poolPart_155 : decode cX10_poolPart 155 = .ok (.goto (-54), 3) := by decide +kernel
theorem dX10_poolPart_158 : decode cX10_poolPart 158 = .ok (.aload_n 0, 1) := by decide +kernel
theorem dX10_poolPart_159 : decode cX10_poolPart 159 = .ok (.getfield 13, 3) := by decide +kernel
theorem dX10_poolPart_162 : decode cX10_poolPart 162 = .ok (.iload_n 1, 1) := by decide +kernel
theorem dX10_poolPart_163 : decode cX10_poolPart 163 = .ok (.iconst 0, 1) := by decide +kernel
theorem dX10_poolPart_164 : decode cX10_poolPart 164 = .ok (.iadd, 1) := by decide +kernel
theorem dX10_poolPart_165 : decode cX10_poolPart 165 = .ok (.aload_n 0, 1) := by decide +kernel
theorem dX10_poolPart_166 : decode cX10_poolPart 166 = .ok (.iconst 0, 1) := by decide +kernel
theorem dX10_poolPart_167 : decode cX10_poolPart 167 = .ok (.sipush 200, 3) := by decide +kernel
theorem dX10_poolPart_170 : decode cX10_poolPart 170 = .ok (.invokevirtual 211, 3) := by decide +kernel
theorem dX10_poolPart_173 : decode cX10_poolPart 173 = .ok (.iastore, 1) := by decide +kernel
theorem dX10_poolPart_174 : decode cX10_poolPart 174 = .ok (.aload_n 0, 1) := by decide +kernel
theorem dX10_poolPart_175 : decode cX10_poolPart 175 = .ok (.getfield 13, 3) := by decide +kernel
theorem dX10_poolPart_178 : decode cX10_poolPart 178 = .ok (.iload_n 1, 1) := by decide +kernel
theorem dX10_poolPart_179 : decode cX10_poolPart 179 = .ok (.iconst 1, 1) := by decide +kernel
theorem dX10_poolPart_180 : decode cX10_poolPart 180 = .ok (.iadd, 1) := by decide +kernel
theorem dX10_poolPart_181 : decode cX10_poolPart 181 = .ok (.aload_n 0, 1) := by decide +kernel
theorem dX10_poolPart_182 : decode cX10_poolPart 182 = .ok (.iconst 0, 1) := by decide +kernel
theorem dX10_poolPart_183 : decode cX10_poolPart 183 = .ok (.sipush 9999, 3) := by decide +kernel
theorem dX10_poolPart_186 : decode cX10_poolPart 186 = .ok (.invokevirtual 211, 3) := by decide +kernel
theorem dX10_poolPart_189 : decode cX10_poolPart 189 = .ok (.iastore, 1) := by decide +kernel
theorem dX10_poolPart_190 : decode cX10_poolPart 190 = .ok (.aload_n 0, 1) := by decide +kernel
theorem dX10_poolPart_191 : decode cX10_poolPart 191 = .ok (.getfield 13, 3) := by decide +kernel
theorem dX10_poolPart_194 : decode cX10_poolPart 194 = .ok (.iconst 1, 1) := by decide +kernel
theorem dX10_poolPart_195 : decode cX10_poolPart 195 = .ok (.dup2, 1) := by decide +kernel
theorem dX10_poolPart_196 : decode cX10_poolPart 196 = .ok (.iaload, 1) := by decide +kernel
theorem dX10_poolPart_197 : decode cX10_poolPart 197 = .ok (.iconst 1, 1) := by decide +kernel
theorem dX10_poolPart_198 : decode cX10_poolPart 198 = .ok (.iadd, 1) := by decide +kernel
theorem dX10_poolPart_199 : decode cX10_poolPart 199 = .ok (.iastore, 1) := by decide +kernel
theorem dX10_poolPart_200 : decode cX10_poolPart 200 = .ok (.return_, 1) := by decide +kernel
theorem dX10_pickPart_0 : decode cX10_pickPart 0 = .ok (.aload_n 0, 1) := by decide +kernel
theorem dX10_pickPart_1 : decode cX10_pickPart 1 = .ok (.invokevirtual 198, 3) := by decide +kernel
theorem dX10_pickPart_4 : decode cX10_pickPart 4 = .ok (.aload_n 0, 1) := by decide +kernel
theorem dX10_pickPart_5 : decode cX10_pickPart 5 = .ok (.ldc 214, 2) := by decide +kernel
theorem dX10_pickPart_7 : decode cX10_pickPart 7 = .ok (.invokevirtual 207, 3) := by decide +kernel
theorem dX10_pickPart_10 : decode cX10_pickPart 10 = .ok (.ifCond .eq 7, 3) := by decide +kernel
theorem dX10_pickPart_13 : decode cX10_pickPart 13 = .ok (.iconst 0, 1) := by decide +kernel
theorem dX10_pickPart_14 : decode cX10_pickPart 14 = .ok (.goto 43, 3) := by decide +kernel
theorem dX10_pickPart_17 : decode cX10_pickPart 17 = .ok (.aload_n 0, 1) := by decide +kernel
theorem dX10_pickPart_18 : decode cX10_pickPart 18 = .ok (.ldc 216, 2) := by decide +kernel
theorem dX10_pickPart_20 : decode cX10_pickPart 20 = .ok (.invokevirtual 207, 3) := by decide +kernel
theorem dX10_pickPart_23 : decode cX10_pickPart 23 = .ok (.ifCond .eq 7, 3) := by decide +kernel
theorem dX10_pickPart_26 : decode cX10_pickPart 26 = .ok (.iconst 1, 1) := by decide +kernel
theorem dX10_pickPart_27 : decode cX10_pickPart 27 = .ok (.goto 30, 3) := by decide +kernel
theorem dX10_pickPart_30 : decode cX10_pickPart 30 = .ok (.aload_n 0, 1) := by decide +kernel
theorem dX10_pickPart_31 : decode cX10_pickPart 31 = .ok (.ldc 218, 2) := by decide +kernel
theorem dX10_pickPart_33 : decode cX10_pickPart 33 = .ok (.invokevirtual 207, 3) := by decide +kernel
theorem dX10_pickPart_36 : decode cX10_pickPart 36 = .ok (.ifCond .eq 7, 3) := by decide +kernel
theorem dX10_pickPart_39 : decode cX10_pickPart 39 = .ok (.iconst 2, 1) := by decide +kernel
theorem dX10_pickPart_40 : decode cX10_pickPart 40 = .ok (.goto 17, 3) := by decide +kernel
theorem dX10_pickPart_43 : decode cX10_pickPart 43 = .ok (.aload_n 0, 1) := by decide +kernel
theorem dX10_pickPart_44 : decode cX10_pickPart 44 = .ok (.ldc 220, 2) := by decide +kernel
theorem dX10_pickPart_46 : decode cX10_pickPart 46 = .ok (.invokevirtual 207, 3) := by decide +kernel
theorem dX10_pickPart_49 : decode cX10_pickPart 49 = .ok (.ifCond .eq 7, 3) := by decide +kernel
theorem dX10_pickPart_52 : decode cX10_pickPart 52 = .ok (.iconst 3, 1) := by decide +kernel
theorem dX10_pickPart_53 : decode cX10_pickPart 53 = .ok (.goto 4, 3) := by decide +kernel
theorem dX10_pickPart_56 : decode cX10_pickPart 56 = .ok (.iconst (-1), 1) := by decide +kernel
theorem dX10_pickPart_57 : decode cX10_pickPart 57 = .ok (.istore_n 1, 1) := by decide +kernel
theorem dX10_pickPart_58 : decode cX10_pickPart 58 = .ok (.iload_n 1, 1) := by decide +kernel
theorem dX10_pickPart_59 : decode cX10_pickPart 59 = .ok (.iconst (-1), 1) := by decide +kernel
theorem dX10_pickPart_60 : decode cX10_pickPart 60 = .ok (.if_icmp .ne 12, 3) := by decide +kernel
theorem dX10_pickPart_63 : decode cX10_pickPart 63 = .ok (.aload_n 0, 1) := by decide +kernel
theorem dX10_pickPart_64 : decode cX10_pickPart 64 = .ok (.iconst 1, 1) := by decide +kernel
theorem dX10_pickPart_65 : decode cX10_pickPart 65 = .ok (.aload_n 0, 1) := by decide +kernel
theorem dX10_pickPart_66 : decode cX10_pickPart 66 = .ok (.getfield 164, 3) := by decide +kernel
theorem dX10_pickPart_69 : decode cX10_pickPart 69 = .ok (.invokevirtual 184, 3) := by decide +kernel
theorem dX10_pickPart_72 : decode cX10_pickPart 72 = .ok (.aload_n 0, 1) := by decide +kernel
theorem dX10_pickPart_73 : decode cX10_pickPart 73 = .ok (.getfield 13, 3) := by decide +kernel
theorem dX10_pickPart_76 : decode cX10_pickPart 76 = .ok (.iconst 3, 1) := by decide +kernel
theorem dX10_pickPart_77 : decode cX10_pickPart 77 = .ok (.iload_n 1, 1) := by decide +kernel
theorem dX10_pickPart_78 : decode cX10_pickPart 78 = .ok (.iastore, 1) := by decide +kernel
theorem dX10_pickPart_79 : decode cX10_pickPart 79 = .ok (.return_, 1) := by decide +kernel
theorem dX10_grantPart_0 : decode cX10_grantPart 0 = .ok (.aload_n 0, 1) := by decide +kernel
theorem dX10_grantPart_1 : decode cX10_grantPart 1 = .ok (.aload_n 0, 1) := by decide +kernel
theorem dX10_grantPart_2 : decode cX10_grantPart 2 = .ok (.getfield 13, 3) := by decide +kernel
theorem dX10_grantPart_5 : decode cX10_grantPart 5 = .ok (.iconst 1, 1) := by decide +kernel
theorem dX10_grantPart_6 : decode cX10_grantPart 6 = .ok (.iconst (-1), 1) := by decide +kernel
theorem dX10_grantPart_7 : decode cX10_grantPart 7 = .ok (.invokevirtual 222, 3) := by decide +kernel
theorem dX10_grantPart_10 : decode cX10_grantPart 10 = .ok (.istore_n 1, 1) := by decide +kernel
theorem dX10_grantPart_11 : decode cX10_grantPart 11 = .ok (.aload_n 0, 1) := by decide +kernel
theorem dX10_grantPart_12 : decode cX10_grantPart 12 = .ok (.getfield 9, 3) := by decide +kernel
theorem dX10_grantPart_15 : decode cX10_grantPart 15 = .ok (.astore_n 2, 1) := by decide +kernel
theorem dX10_grantPart_16 : decode cX10_grantPart 16 = .ok (.aload_n 0, 1) := by decide +kernel
theorem dX10_grantPart_17 : decode cX10_grantPart 17 = .ok (.aload_n 0, 1) := by decide +kernel
theorem dX10_grantPart_18 : decode cX10_grantPart 18 = .ok (.getfield 13, 3) := by decide +kernel
theorem dX10_grantPart_21 : decode cX10_grantPart 21 = .ok (.putfield 9, 3) := by decide +kernel
theorem dX10_grantPart_24 : decode cX10_grantPart 24 = .ok (.aload_n 0, 1) := by decide +kernel
theorem dX10_grantPart_25 : decode cX10_grantPart 25 = .ok (.getfield 167, 3) := by decide +kernel
theorem dX10_grantPart_28 : decode cX10_grantPart 28 = .ok (.ifCond .eq 7, 3) := by decide +kernel
theorem dX10_grantPart_31 : decode cX10_grantPart 31 = .ok (.iconst 0, 1) := by decide +kernel
theorem dX10_grantPart_32 : decode cX10_grantPart 32 = .ok (.goto 23, 3) := by decide +kernel
theorem dX10_grantPart_35 : decode cX10_grantPart 35 = .ok (.aload_n 0, 1) := by decide +kernel
theorem dX10_grantPart_36 : decode cX10_grantPart 36 = .ok (.iconst 0, 1) := by decide +kernel
theorem dX10_grantPart_37 : decode cX10_grantPart 37 = .ok (.invokevirtual 62, 3) := by decide +kernel
theorem dX10_grantPart_40 : decode cX10_grantPart 40 = .ok (.aload_n 0, 1) := by decide +kernel
theorem dX10_grantPart_41 : decode cX10_grantPart 41 = .ok (.iload_n 1, 1) := by decide +kernel
theorem dX10_grantPart_42 : decode cX10_grantPart 42 = .ok (.iconst 0, 1) := by decide +kernel
theorem dX10_grantPart_43 : decode cX10_grantPart 43 = .ok (.invokevirtual 69, 3) := by decide +kernel
theorem dX10_grantPart_46 : decode cX10_grantPart 46 = .ok (.aload_n 0, 1) := by decide +kernel
theorem dX10_grantPart_47 : decode cX10_grantPart 47 = .ok (.iload_n 1, 1) := by decide +kernel
theorem dX10_grantPart_48 : decode cX10_grantPart 48 = .ok (.invokevirtual 62, 3) := by decide +kernel
theorem dX10_grantPart_51 : decode cX10_grantPart 51 = .ok (.isub, 1) := by decide +kernel
theorem dX10_grantPart_52 : decode cX10_grantPart 52 = .ok (.invokestatic 189, 3) := by decide +kernel
theorem dX10_grantPart_55 : decode cX10_grantPart 55 = .ok (.istore_n 3, 1) := by decide +kernel
theorem dX10_grantPart_56 : decode cX10_grantPart 56 = .ok (.aload_n 0, 1) := by decide +kernel
theorem dX10_grantPart_57 : decode cX10_grantPart 57 = .ok (.iconst 1, 1) := by decide +kernel
theorem dX10_grantPart_58 : decode cX10_grantPart 58 = .ok (.sipush 200, 3) := by decide +kernel
theorem dX10_grantPart_61 : decode cX10_grantPart 61 = .ok (.iload_n 3, 1) := by decide +kernel
theorem dX10_grantPart_62 : decode cX10_grantPart 62 = .ok (.invokestatic 189, 3) := by decide +kernel
theorem dX10_grantPart_65 : decode cX10_grantPart 65 = .ok (.invokevirtual 211, 3) := by decide +kernel
theorem dX10_grantPart_68 : decode cX10_grantPart 68 = .ok (.istore 4, 2) := by decide +kernel
theorem dX10_grantPart_70 : decode cX10_grantPart 70 = .ok (.aload_n 0, 1) := by decide +kernel
theorem dX10_grantPart_71 : decode cX10_grantPart 71 = .ok (.getfield 167, 3) := by decide +kernel
theorem dX10_grantPart_74 : decode cX10_grantPart 74 = .ok (.ifCond .ne 23, 3) := by decide +kernel
theorem dX10_grantPart_77 : decode cX10_grantPart 77 = .ok (.aload_n 0, 1) := by decide +kernel
theorem dX10_grantPart_78 : decode cX10_grantPart 78 = .ok (.iconst 0, 1) := by decide +kernel
theorem dX10_grantPart_79 : decode cX10_grantPart 79 = .ok (.iload 4, 2) := by decide +kernel
theorem dX10_grantPart_81 : decode cX10_grantPart 81 = .ok (.iconst 0, 1) := by decide +kernel
theorem dX10_grantPart_82 : decode cX10_grantPart 82 = .ok (.invokevirtual 102, 3) := by decide +kernel
theorem dX10_grantPart_85 : decode cX10_grantPart 85 = .ok (.aload_n 0, 1) := by decide +kernel
theorem dX10_grantPart_86 : decode cX10_grantPart 86 = .ok (.iconst 0, 1) := by decide +kernel
theorem dX10_grantPart_87 : decode cX10_grantPart 87 = .ok (.iload_n 1, 1) := by decide +kernel
theorem dX10_grantPart_88 : decode cX10_grantPart 88 = .ok (.iload 4, 2) := by decide +kernel
theorem dX10_grantPart_90 : decode cX10_grantPart 90 = .ok (.iconst 0, 1) := by decide +kernel
theorem dX10_grantPart_91 : decode cX10_grantPart 91 = .ok (.iconst 0, 1) := by decide +kernel
theorem dX10_grantPart_92 : decode cX10_grantPart 92 = .ok (.iconst (-1), 1) := by decide +kernel
theorem dX10_grantPart_93 : decode cX10_grantPart 93 = .ok (.invokevirtual 106, 3) := by decide +kernel
theorem dX10_grantPart_96 : decode cX10_grantPart 96 = .ok (.pop, 1) := by decide +kernel
theorem dX10_grantPart_97 : decode cX10_grantPart 97 = .ok (.aload_n 0, 1) := by decide +kernel
theorem dX10_grantPart_98 : decode cX10_grantPart 98 = .ok (.aload_n 2, 1) := by decide +kernel
theorem dX10_grantPart_99 : decode cX10_grantPart 99 = .ok (.putfield 9, 3) := by decide +kernel
theorem dX10_grantPart_102 : decode cX10_grantPart 102 = .ok (.return_, 1) := by decide +kernel
theorem dX10_statement_0 : decode cX10_statement 0 = .ok (.aload_n 0, 1) := by decide +kernel
theorem dX10_statement_1 : decode cX10_statement 1 = .ok (.invokevirtual 198, 3) := by decide +kernel
theorem dX10_statement_4 : decode cX10_statement 4 = .ok (.aload_n 0, 1) := by decide +kernel
theorem dX10_statement_5 : decode cX10_statement 5 = .ok (.ldc 226, 2) := by decide +kernel
theorem dX10_statement_7 : decode cX10_statement 7 = .ok (.invokevirtual 207, 3) := by decide +kernel
theorem dX10_statement_10 : decode cX10_statement 10 = .ok (.ifCond .eq 10, 3) := by decide +kernel
theorem dX10_statement_13 : decode cX10_statement 13 = .ok (.aload_n 0, 1) := by decide +kernel
theorem dX10_statement_14 : decode cX10_statement 14 = .ok (.invokevirtual 227, 3) := by decide +kernel
theorem dX10_statement_17 : decode cX10_statement 17 = .ok (.goto 44, 3) := by decide +kernel
theorem dX10_statement_20 : decode cX10_statement 20 = .ok (.aload_n 0, 1) := by decide +kernel
theorem dX10_statement_21 : decode cX10_statement 21 = .ok (.ldc 230, 2) := by decide +kernel
theorem dX10_statement_23 : decode cX10_statement 23 = .ok (.invokevirtual 207, 3) := by decide +kernel
theorem dX10_statement_26 : decode cX10_statement 26 = .ok (.ifCond .eq 10, 3) := by decide +kernel
theorem dX10_statement_29 : decode cX10_statement 29 = .ok (.aload_n 0, 1) := by decide +kernel
theorem dX10_statement_30 : decode cX10_statement 30 = .ok (.invokevirtual 232, 3) := by decide +kernel
theorem dX10_statement_33 : decode cX10_statement 33 = .ok (.goto 28, 3) := by decide +kernel
theorem dX10_statement_36 : decode cX10_statement 36 = .ok (.aload_n 0, 1) := by decide +kernel
theorem dX10_statement_37 : decode cX10_statement 37 = .ok (.ldc 235, 2) := by decide +kernel
theorem dX10_statement_39 : decode cX10_statement 39 = .ok (.invokevirtual 207, 3) := by decide +kernel
theorem dX10_statement_42 : decode cX10_statement 42 = .ok (.ifCond .eq 10, 3) := by decide +kernel
theorem dX10_statement_45 : decode cX10_statement 45 = .ok (.aload_n 0, 1) := by decide +kernel
theorem dX10_statement_46 : decode cX10_statement 46 = .ok (.invokevirtual 237, 3) := by decide +kernel
theorem dX10_statement_49 : decode cX10_statement 49 = .ok (.goto 12, 3) := by decide +kernel
theorem dX10_statement_52 : decode cX10_statement 52 = .ok (.aload_n 0, 1) := by decide +kernel
theorem dX10_statement_53 : decode cX10_statement 53 = .ok (.iconst 1, 1) := by decide +kernel
theorem dX10_statement_54 : decode cX10_statement 54 = .ok (.aload_n 0, 1) := by decide +kernel
theorem dX10_statement_55 : decode cX10_statement 55 = .ok (.getfield 164, 3) := by decide +kernel
theorem dX10_statement_58 : decode cX10_statement 58 = .ok (.invokevirtual 184, 3) := by decide +kernel
theorem dX10_statement_61 : decode cX10_statement 61 = .ok (.return_, 1) := by decide +kernel
theorem dX10_isMore_0 : decode cX10_isMore 0 = .ok (.aload_n 0, 1) := by decide +kernel
theorem dX10_isMore_1 : decode cX10_isMore 1 = .ok (.getfield 167, 3) := by decide +kernel
theorem dX10_isMore_4 : decode cX10_isMore 4 = .ok (.ifCond .ne 10, 3) := by decide +kernel
theorem dX10_isMore_7 : decode cX10_isMore 7 = .ok (.aload_n 0, 1) := by decide +kernel
theorem dX10_isMore_8 : decode cX10_isMore 8 = .ok (.invokevirtual 173, 3) := by decide +kernel
theorem dX10_isMore_11 : decode cX10_isMore 11 = .ok (.ifCond .ge 5, 3) := by decide +kernel
theorem dX10_isMore_14 : decode cX10_isMore 14 = .ok (.iconst 0, 1) := by decide +kernel
theorem dX10_isMore_15 : decode cX10_isMore 15 = .ok (.ireturn, 1) := by decide +kernel
theorem dX10_isMore_16 : decode cX10_isMore 16 = .ok (.aload_n 0, 1) := by decide +kernel
theorem dX10_isMore_17 : decode cX10_isMore 17 = .ok (.invokevirtual 160, 3) := by decide +kernel
theorem dX10_isMore_20 : decode cX10_isMore 20 = .ok (.bipush 59, 2) := by decide +kernel
theorem dX10_isMore_22 : decode cX10_isMore 22 = .ok (.if_icmp .eq 14, 3) := by decide +kernel
theorem dX10_isMore_25 : decode cX10_isMore 25 = .ok (.aload_n 0, 1) := by decide +kernel
theorem dX10_isMore_26 : decode cX10_isMore 26 = .ok (.iconst 1, 1) := by decide +kernel
theorem dX10_isMore_27 : decode cX10_isMore 27 = .ok (.aload_n 0, 1) := by decide +kernel
theorem dX10_isMore_28 : decode cX10_isMore 28 = .ok (.getfield 157, 3) := by decide +kernel
theorem dX10_isMore_31 : decode cX10_isMore 31 = .ok (.invokevirtual 184, 3) := by decide +kernel
theorem dX10_isMore_34 : decode cX10_isMore 34 = .ok (.iconst 0, 1) := by decide +kernel
theorem dX10_isMore_35 : decode cX10_isMore 35 = .ok (.ireturn, 1) := by decide +kernel
theorem dX10_isMore_36 : decode cX10_isMore 36 = .ok (.aload_n 0, 1) := by decide +kernel
theorem dX10_isMore_37 : decode cX10_isMore 37 = .ok (.dup, 1) := by decide +kernel
theorem dX10_isMore_38 : decode cX10_isMore 38 = .ok (.getfield 157, 3) := by decide +kernel
theorem dX10_isMore_41 : decode cX10_isMore 41 = .ok (.iconst 1, 1) := by decide +kernel
theorem dX10_isMore_42 : decode cX10_isMore 42 = .ok (.iadd, 1) := by decide +kernel
theorem dX10_isMore_43 : decode cX10_isMore 43 = .ok (.putfield 157, 3) := by decide +kernel
theorem dX10_isMore_46 : decode cX10_isMore 46 = .ok (.iconst 1, 1) := by decide +kernel
theorem dX10_isMore_47 : decode cX10_isMore 47 = .ok (.ireturn, 1) := by decide +kernel
theorem dX10_load_0 : decode cX10_load 0 = .ok (.aload_n 0, 1) := by decide +kernel
theorem dX10_load_1 : decode cX10_load 1 = .ok (.iconst 0, 1) := by decide +kernel
theorem dX10_load_2 : decode cX10_load 2 = .ok (.putfield 50, 3) := by decide +kernel
theorem dX10_load_5 : decode cX10_load 5 = .ok (.aload_n 0, 1) := by decide +kernel
theorem dX10_load_6 : decode cX10_load 6 = .ok (.iconst 0, 1) := by decide +kernel
theorem dX10_load_7 : decode cX10_load 7 = .ok (.putfield 157, 3) := by decide +kernel
theorem dX10_load_10 : decode cX10_load 10 = .ok (.aload_n 0, 1) := by decide +kernel
theorem dX10_load_11 : decode cX10_load 11 = .ok (.iconst 0, 1) := by decide +kernel
theorem dX10_load_12 : decode cX10_load 12 = .ok (.putfield 167, 3) := by decide +kernel
theorem dX10_load_15 : decode cX10_load 15 = .ok (.aload_n 0, 1) := by decide +kernel
theorem dX10_load_16 : decode cX10_load 16 = .ok (.invokevirtual 198, 3) := by decide +kernel
theorem dX10_load_19 : decode cX10_load 19 = .ok (.aload_n 0, 1) := by decide +kernel
theorem dX10_load_20 : decode cX10_load 20 = .ok (.ldc 240, 2) := by decide +kernel
theorem dX10_load_22 : decode cX10_load 22 = .ok (.invokevirtual 207, 3) := by decide +kernel
theorem dX10_load_25 : decode cX10_load 25 = .ok (.ifCond .ne 12, 3) := by decide +kernel
theorem dX10_load_28 : decode cX10_load 28 = .ok (.aload_n 0, 1) := by decide +kernel
theorem dX10_load_29 : decode cX10_load 29 = .ok (.iconst 1, 1) := by decide +kernel
theorem dX10_load_30 : decode cX10_load 30 = .ok (.aload_n 0, 1) := by decide +kernel
theorem dX10_load_31 : decode cX10_load 31 = .ok (.getfield 164, 3) := by decide +kernel
theorem dX10_load_34 : decode cX10_load 34 = .ok (.invokevirtual 184, 3) := by decide +kernel
theorem dX10_load_37 : decode cX10_load 37 = .ok (.aload_n 0, 1) := by decide +kernel
theorem dX10_load_38 : decode cX10_load 38 = .ok (.getfield 13, 3) := by decide +kernel
theorem dX10_load_41 : decode cX10_load 41 = .ok (.aload_n 0, 1) := by decide +kernel
theorem dX10_load_42 : decode cX10_load 42 = .ok (.iconst 1, 1) := by decide +kernel
theorem dX10_load_43 : decode cX10_load 43 = .ok (.sipush 200, 3) := by decide +kernel
theorem dX10_load_46 : decode cX10_load 46 = .ok (.invokevirtual 211, 3) := by decide +kernel
theorem dX10_load_49 : decode cX10_load 49 = .ok (.invokestatic 46, 3) := by decide +kernel
theorem dX10_load_52 : decode cX10_load 52 = .ok (.aload_n 0, 1) := by decide +kernel
theorem dX10_load_53 : decode cX10_load 53 = .ok (.invokevirtual 242, 3) := by decide +kernel
theorem dX10_load_56 : decode cX10_load 56 = .ok (.ifCond .eq 10, 3) := by decide +kernel
theorem dX10_load_59 : decode cX10_load 59 = .ok (.aload_n 0, 1) := by decide +kernel
theorem dX10_load_60 : decode cX10_load 60 = .ok (.invokevirtual 246, 3) := by decide +kernel
theorem dX10_load_63 : decode cX10_load 63 = .ok (.goto (-11), 3) := by decide +kernel
theorem dX10_load_66 : decode cX10_load 66 = .ok (.aload_n 0, 1) := by decide +kernel
theorem dX10_load_67 : decode cX10_load 67 = .ok (.iconst 0, 1) := by decide +kernel
theorem dX10_load_68 : decode cX10_load 68 = .ok (.putfield 154, 3) := by decide +kernel
theorem dX10_load_71 : decode cX10_load 71 = .ok (.aload_n 0, 1) := by decide +kernel
theorem dX10_load_72 : decode cX10_load 72 = .ok (.aload_n 0, 1) := by decide +kernel
theorem dX10_load_73 : decode cX10_load 73 = .ok (.getfield 167, 3) := by decide +kernel
theorem dX10_load_76 : decode cX10_load 76 = .ok (.putfield 249, 3) := by decide +kernel
theorem dX10_load_79 : decode cX10_load 79 = .ok (.aload_n 0, 1) := by decide +kernel
theorem dX10_load_80 : decode cX10_load 80 = .ok (.getfield 167, 3) := by decide +kernel
theorem dX10_load_83 : decode cX10_load 83 = .ok (.ifCond .eq 11, 3) := by decide +kernel
theorem dX10_load_86 : decode cX10_load 86 = .ok (.bipush (-100), 2) := by decide +kernel
theorem dX10_load_88 : decode cX10_load 88 = .ok (.aload_n 0, 1) := by decide +kernel
theorem dX10_load_89 : decode cX10_load 89 = .ok (.getfield 170, 3) := by decide +kernel
theorem dX10_load_92 : decode cX10_load 92 = .ok (.isub, 1) := by decide +kernel
theorem dX10_load_93 : decode cX10_load 93 = .ok (.ireturn, 1) := by decide +kernel
theorem dX10_load_94 : decode cX10_load 94 = .ok (.aload_n 0, 1) := by decide +kernel
theorem dX10_load_95 : decode cX10_load 95 = .ok (.getfield 13, 3) := by decide +kernel
theorem dX10_load_98 : decode cX10_load 98 = .ok (.iconst 0, 1) := by decide +kernel
theorem dX10_load_99 : decode cX10_load 99 = .ok (.aload_n 0, 1) := by decide +kernel
theorem dX10_load_100 : decode cX10_load 100 = .ok (.getfield 9, 3) := by decide +kernel
theorem dX10_load_103 : decode cX10_load 103 = .ok (.iconst 0, 1) := by decide +kernel
theorem dX10_load_104 : decode cX10_load 104 = .ok (.invokestatic 252, 3) := by decide +kernel
theorem dX10_load_107 : decode cX10_load 107 = .ok (.iconst 0, 1) := by decide +kernel
theorem dX10_load_108 : decode cX10_load 108 = .ok (.istore_n 1, 1) := by decide +kernel
theorem dX10_load_109 : decode cX10_load 109 = .ok (.iload_n 1, 1) := by decide +kernel
theorem dX10_load_110 : decode cX10_load 110 = .ok (.bipush 8, 2) := by decide +kernel
theorem dX10_load_112 : decode cX10_load 112 = .ok (.if_icmp .ge 16, 3) := by decide +kernel
theorem dX10_load_115 : decode cX10_load 115 = .ok (.aload_n 0, 1) := by decide +kernel
theorem dX10_load_116 : decode cX10_load 116 = .ok (.getfield 22, 3) := by decide +kernel
theorem dX10_load_119 : decode cX10_load 119 = .ok (.iload_n 1, 1) := by decide +kernel
theorem dX10_load_120 : decode cX10_load 120 = .ok (.fconst 0, 1) := by decide +kernel
theorem dX10_load_121 : decode cX10_load 121 = .ok (.fastore, 1) := by decide +kernel
theorem dX10_load_122 : decode cX10_load 122 = .ok (.iinc 1 1, 3) := by decide +kernel
theorem dX10_load_125 : decode cX10_load 125 = .ok (.goto (-16), 3) := by decide +kernel
theorem dX10_load_128 : decode cX10_load 128 = .ok (.aload_n 0, 1) := by decide +kernel
theorem dX10_load_129 : decode cX10_load 129 = .ok (.getfield 9, 3) := by decide +kernel
theorem dX10_load_132 : decode cX10_load 132 = .ok (.iconst 1, 1) := by decide +kernel
theorem dX10_load_133 : decode cX10_load 133 = .ok (.iaload, 1) := by decide +kernel
theorem dX10_load_134 : decode cX10_load 134 = .ok (.ireturn, 1) := by decide +kernel
theorem dX10_textError_0 : decode cX10_textError 0 = .ok (.aload_n 0, 1) := by decide +kernel
theorem dX10_textError_1 : decode cX10_textError 1 = .ok (.iconst 0, 1) := by decide +kernel
theorem dX10_textError_2 : decode cX10_textError 2 = .ok (.putfield 50, 3) := by decide +kernel
theorem dX10_textError_5 : decode cX10_textError 5 = .ok (.aload_n 0, 1) := by decide +kernel
theorem dX10_textError_6 : decode cX10_textError 6 = .ok (.getfield 249, 3) := by decide +kernel
theorem dX10_textError_9 : decode cX10_textError 9 = .ok (.ireturn, 1) := by decide +kernel
theorem dX10_poolNamed_0 : decode cX10_poolNamed 0 = .ok (.aload_n 0, 1) := by decide +kernel
theorem dX10_poolNamed_1 : decode cX10_poolNamed 1 = .ok (.iconst 0, 1) := by decide +kernel
theorem dX10_poolNamed_2 : decode cX10_poolNamed 2 = .ok (.putfield 50, 3) := by decide +kernel
theorem dX10_poolNamed_5 : decode cX10_poolNamed 5 = .ok (.aload_n 0, 1) := by decide +kernel
theorem dX10_poolNamed_6 : decode cX10_poolNamed 6 = .ok (.iconst 0, 1) := by decide +kernel
theorem dX10_poolNamed_7 : decode cX10_poolNamed 7 = .ok (.putfield 157, 3) := by decide +kernel
theorem dX10_poolNamed_10 : decode cX10_poolNamed 10 = .ok (.aload_n 0, 1) := by decide +kernel
theorem dX10_poolNamed_11 : decode cX10_poolNamed 11 = .ok (.iconst 0, 1) := by decide +kernel
theorem dX10_poolNamed_12 : decode cX10_poolNamed 12 = .ok (.putfield 164, 3) := by decide +kernel
theorem dX10_poolNamed_15 : decode cX10_poolNamed 15 = .ok (.aload_n 0, 1) := by decide +kernel
theorem dX10_poolNamed_16 : decode cX10_poolNamed 16 = .ok (.invokevirtual 160, 3) := by decide +kernel
theorem dX10_poolNamed_19 : decode cX10_poolNamed 19 = .ok (.bipush 97, 2) := by decide +kernel
theorem dX10_poolNamed_21 : decode cX10_poolNamed 21 = .ok (.bipush 122, 2) := by decide +kernel
theorem dX10_poolNamed_23 : decode cX10_poolNamed 23 = .ok (.invokestatic 54, 3) := by decide +kernel
theorem dX10_poolNamed_26 : decode cX10_poolNamed 26 = .ok (.ifCond .eq 16, 3) := by decide +kernel
theorem dX10_poolNamed_29 : decode cX10_poolNamed 29 = .ok (.aload_n 0, 1) := by decide +kernel
theorem dX10_poolNamed_30 : decode cX10_poolNamed 30 = .ok (.dup, 1) := by decide +kernel
theorem dX10_poolNamed_31 : decode cX10_poolNamed 31 = .ok (.getfield 157, 3) := by decide +kernel
theorem dX10_poolNamed_34 : decode cX10_poolNamed 34 = .ok (.iconst 1, 1) := by decide +kernel
theorem dX10_poolNamed_35 : decode cX10_poolNamed 35 = .ok (.iadd, 1) := by decide +kernel
theorem dX10_poolNamed_36 : decode cX10_poolNamed 36 = .ok (.putfield 157, 3) := by decide +kernel
theorem dX10_poolNamed_39 : decode cX10_poolNamed 39 = .ok (.goto (-24), 3) := by decide +kernel
theorem dX10_poolNamed_42 : decode cX10_poolNamed 42 = .ok (.aload_n 0, 1) := by decide +kernel
theorem dX10_poolNamed_43 : decode cX10_poolNamed 43 = .ok (.getfield 157, 3) := by decide +kernel
theorem dX10_poolNamed_46 : decode cX10_poolNamed 46 = .ok (.aload_n 0, 1) := by decide +kernel
theorem dX10_poolNamed_47 : decode cX10_poolNamed 47 = .ok (.getfield 154, 3) := by decide +kernel
theorem dX10_poolNamed_50 : decode cX10_poolNamed 50 = .ok (.if_icmp .ne 21, 3) := by decide +kernel
theorem dX10_poolNamed_53 : decode cX10_poolNamed 53 = .ok (.aload_n 0, 1) := by decide +kernel
theorem dX10_poolNamed_54 : decode cX10_poolNamed 54 = .ok (.getfield 154, 3) := by decide +kernel
theorem dX10_poolNamed_57 : decode cX10_poolNamed 57 = .ok (.ifCond .le 14, 3) := by decide +kernel
theorem dX10_poolNamed_60 : decode cX10_poolNamed 60 = .ok (.aload_n 0, 1) := by decide +kernel
theorem dX10_poolNamed_61 : decode cX10_poolNamed 61 = .ok (.aload_n 0, 1) := by decide +kernel
theorem dX10_poolNamed_62 : decode cX10_poolNamed 62 = .ok (.getfield 9, 3) := by decide +kernel
theorem dX10_poolNamed_65 : decode cX10_poolNamed 65 = .ok (.invokevirtual 201, 3) := by decide +kernel
theorem dX10_poolNamed_68 : decode cX10_poolNamed 68 = .ok (.goto 4, 3) := by decide +kernel
theorem dX10_poolNamed_71 : decode cX10_poolNamed 71 = .ok (.iconst (-1), 1) := by decide +kernel
theorem dX10_poolNamed_72 : decode cX10_poolNamed 72 = .ok (.istore_n 1, 1) := by decide +kernel
theorem dX10_poolNamed_73 : decode cX10_poolNamed 73 = .ok (.aload_n 0, 1) := by decide +kernel
theorem dX10_poolNamed_74 : decode cX10_poolNamed 74 = .ok (.iconst 0, 1) := by decide +kernel
theorem dX10_poolNamed_75 : decode cX10_poolNamed 75 = .ok (.putfield 154, 3) := by decide +kernel
theorem dX10_poolNamed_78 : decode cX10_poolNamed 78 = .ok (.iload_n 1, 1) := by decide +kernel
theorem dX10_poolNamed_79 : decode cX10_poolNamed 79 = .ok (.ireturn, 1) := by decide +kernel
theorem dX10_pair_0 : decode cX10_pair 0 = .ok (.iconst 5, 1) := by decide +kernel
theorem dX10_pair_1 : decode cX10_pair 1 = .ok (.aload_n 0, 1) := by decide +kernel
theorem dX10_pair_2 : decode cX10_pair 2 = .ok (.getfield 255, 3) := by decide +kernel
theorem dX10_pair_5 : decode cX10_pair 5 = .ok (.imul, 1) := by decide +kernel
theorem dX10_pair_6 : decode cX10_pair 6 = .ok (.istore 4, 2) := by decide +kernel
theorem dX10_pair_8 : decode cX10_pair 8 = .ok (.aload_n 0, 1) := by decide +kernel
theorem dX10_pair_9 : decode cX10_pair 9 = .ok (.getfield 43, 3) := by decide +kernel
theorem dX10_pair_12 : decode cX10_pair 12 = .ok (.iload 4, 2) := by decide +kernel
theorem dX10_pair_14 : decode cX10_pair 14 = .ok (.iload_n 1, 1) := by decide +kernel
theorem dX10_pair_15 : decode cX10_pair 15 = .ok (.iastore, 1) := by decide +kernel
theorem dX10_pair_16 : decode cX10_pair 16 = .ok (.aload_n 0, 1) := by decide +kernel
theorem dX10_pair_17 : decode cX10_pair 17 = .ok (.getfield 43, 3) := by decide +kernel
theorem dX10_pair_20 : decode cX10_pair 20 = .ok (.iload 4, 2) := by decide +kernel
theorem dX10_pair_22 : decode cX10_pair 22 = .ok (.iconst 1, 1) := by decide +kernel
theorem dX10_pair_23 : decode cX10_pair 23 = .ok (.iadd, 1) := by decide +kernel
theorem dX10_pair_24 : decode cX10_pair 24 = .ok (.aload_n 0, 1) := by decide +kernel
theorem dX10_pair_25 : decode cX10_pair 25 = .ok (.iconst 1, 1) := by decide +kernel
theorem dX10_pair_26 : decode cX10_pair 26 = .ok (.sipush 200, 3) := by decide +kernel
theorem dX10_pair_29 : decode cX10_pair 29 = .ok (.invokevirtual 211, 3) := by decide +kernel
theorem dX10_pair_32 : decode cX10_pair 32 = .ok (.iastore, 1) := by decide +kernel
theorem dX10_pair_33 : decode cX10_pair 33 = .ok (.aload_n 0, 1) := by decide +kernel
theorem dX10_pair_34 : decode cX10_pair 34 = .ok (.getfield 43, 3) := by decide +kernel
theorem dX10_pair_37 : decode cX10_pair 37 = .ok (.iload 4, 2) := by decide +kernel
theorem dX10_pair_39 : decode cX10_pair 39 = .ok (.iconst 2, 1) := by decide +kernel
theorem dX10_pair_40 : decode cX10_pair 40 = .ok (.iadd, 1) := by decide +kernel
theorem dX10_pair_41 : decode cX10_pair 41 = .ok (.aload_n 0, 1) := by decide +kernel
theorem dX10_pair_42 : decode cX10_pair 42 = .ok (.aload_n 0, 1) := by decide +kernel
theorem dX10_pair_43 : decode cX10_pair 43 = .ok (.getfield 9, 3) := by decide +kernel
theorem dX10_pair_46 : decode cX10_pair 46 = .ok (.iconst 0, 1) := by decide +kernel
theorem dX10_pair_47 : decode cX10_pair 47 = .ok (.iconst (-1), 1) := by decide +kernel
theorem dX10_pair_48 : decode cX10_pair 48 = .ok (.invokevirtual 222, 3) := by decide +kernel
theorem dX10_pair_51 : decode cX10_pair 51 = .ok (.iastore, 1) := by decide +kernel
theorem dX10_pair_52 : decode cX10_pair 52 = .ok (.aload_n 0, 1) := by decide +kernel
theorem dX10_pair_53 : decode cX10_pair 53 = .ok (.getfield 43, 3) := by decide +kernel
theorem dX10_pair_56 : decode cX10_pair 56 = .ok (.iload 4, 2) := by decide +kernel
theorem dX10_pair_58 : decode cX10_pair 58 = .ok (.iconst 3, 1) := by decide +kernel
theorem dX10_pair_59 : decode cX10_pair 59 = .ok (.iadd, 1) := by decide +kernel
theorem dX10_pair_60 : decode cX10_pair 60 = .ok (.aload_n 0, 1) := by decide +kernel
theorem dX10_pair_61 : decode cX10_pair 61 = .ok (.aload_n 0, 1) := by decide +kernel
theorem dX10_pair_62 : decode cX10_pair 62 = .ok (.getfield 9, 3) := by decide +kernel
theorem dX10_pair_65 : decode cX10_pair 65 = .ok (.iconst 0, 1) := by decide +kernel
theorem dX10_pair_66 : decode cX10_pair 66 = .ok (.aload_n 0, 1) := by decide +kernel
theorem dX10_pair_67 : decode cX10_pair 67 = .ok (.getfield 43, 3) := by decide +kernel
theorem dX10_pair_70 : decode cX10_pair 70 = .ok (.iload 4, 2) := by decide +kernel
theorem dX10_pair_72 : decode cX10_pair 72 = .ok (.iconst 2, 1) := by decide +kernel
theorem dX10_pair_73 : decode cX10_pair 73 = .ok (.iadd, 1) := by decide +kernel
theorem dX10_pair_74 : decode cX10_pair 74 = .ok (.iaload, 1) := by decide +kernel
theorem dX10_pair_75 : decode cX10_pair 75 = .ok (.invokevirtual 222, 3) := by decide +kernel
theorem dX10_pair_78 : decode cX10_pair 78 = .ok (.iastore, 1) := by decide +kernel
theorem dX10_pair_79 : decode cX10_pair 79 = .ok (.aload_n 0, 1) := by decide +kernel
theorem dX10_pair_80 : decode cX10_pair 80 = .ok (.getfield 43, 3) := by decide +kernel
theorem dX10_pair_83 : decode cX10_pair 83 = .ok (.iload 4, 2) := by decide +kernel
theorem dX10_pair_85 : decode cX10_pair 85 = .ok (.iconst 4, 1) := by decide +kernel
theorem dX10_pair_86 : decode cX10_pair 86 = .ok (.iadd, 1) := by decide +kernel
theorem dX10_pair_87 : decode cX10_pair 87 = .ok (.aload_n 0, 1) := by decide +kernel
theorem dX10_pair_88 : decode cX10_pair 88 = .ok (.iload_n 3, 1) := by decide +kernel
theorem dX10_pair_89 : decode cX10_pair 89 = .ok (.iload_n 2, 1) := by decide +kernel
theorem dX10_pair_90 : decode cX10_pair 90 = .ok (.invokevirtual 211, 3) := by decide +kernel
theorem dX10_pair_93 : decode cX10_pair 93 = .ok (.iastore, 1) := by decide +kernel
theorem dX10_pair_94 : decode cX10_pair 94 = .ok (.return_, 1) := by decide +kernel
theorem dX10_command_0 : decode cX10_command 0 = .ok (.aload_n 0, 1) := by decide +kernel
theorem dX10_command_1 : decode cX10_command 1 = .ok (.invokevirtual 198, 3) := by decide +kernel
theorem dX10_command_4 : decode cX10_command 4 = .ok (.iconst 5, 1) := by decide +kernel
theorem dX10_command_5 : decode cX10_command 5 = .ok (.aload_n 0, 1) := by decide +kernel
theorem dX10_command_6 : decode cX10_command 6 = .ok (.getfield 255, 3) := by decide +kernel
theorem dX10_command_9 : decode cX10_command 9 = .ok (.imul, 1) := by decide +kernel
theorem dX10_command_10 : decode cX10_command 10 = .ok (.istore_n 1, 1) := by decide +kernel
theorem dX10_command_11 : decode cX10_command 11 = .ok (.aload_n 0, 1) := by decide +kernel
theorem dX10_command_12 : decode cX10_command 12 = .ok (.ldc_w 258, 3) := by decide +kernel
theorem dX10_command_15 : decode cX10_command 15 = .ok (.invokevirtual 207, 3) := by decide +kernel
theorem dX10_command_18 : decode cX10_command 18 = .ok (.ifCond .eq 14, 3) := by decide +kernel
theorem dX10_command_21 : decode cX10_command 21 = .ok (.aload_n 0, 1) := by decide +kernel
theorem dX10_command_22 : decode cX10_command 22 = .ok (.iconst 0, 1) := by decide +kernel
theorem dX10_command_23 : decode cX10_command 23 = .ok (.bipush 9, 2) := by decide +kernel
theorem dX10_command_25 : decode cX10_command 25 = .ok (.iconst 0, 1) := by decide +kernel
theorem dX10_command_26 : decode cX10_command 26 = .ok (.invokevirtual 260, 3) := by decide +kernel
theorem dX10_command_29 : decode cX10_command 29 = .ok (.goto 106, 3) := by decide +kernel
theorem dX10_command_32 : decode cX10_command 32 = .ok (.aload_n 0, 1) := by decide +kernel
theorem dX10_command_33 : decode cX10_command 33 = .ok (.ldc_w 263, 3) := by decide +kernel
theorem dX10_command_36 : decode cX10_command 36 = .ok (.invokevirtual 207, 3) := by decide +kernel
theorem dX10_command_39 : decode cX10_command 39 = .ok (.ifCond .eq 15, 3) := by decide +kernel
theorem dX10_command_42 : decode cX10_command 42 = .ok (.aload_n 0, 1) := by decide +kernel
theorem dX10_command_43 : decode cX10_command 43 = .ok (.iconst 1, 1) := by decide +kernel
theorem dX10_command_44 : decode cX10_command 44 = .ok (.sipush 1000, 3) := by decide +kernel
theorem dX10_command_47 : decode cX10_command 47 = .ok (.iconst 1, 1) := by decide +kernel
theorem dX10_command_48 : decode cX10_command 48 = .ok (.invokevirtual 260, 3) := by decide +kernel
theorem dX10_command_51 : decode cX10_command 51 = .ok (.goto 84, 3) := by decide +kernel
theorem dX10_command_54 : decode cX10_command 54 = .ok (.aload_n 0, 1) := by decide +kernel
theorem dX10_command_55 : decode cX10_command 55 = .ok (.ldc_w 264, 3) := by decide +kernel
theorem dX10_command_58 : decode cX10_command 58 = .ok (.invokevirtual 207, 3) := by decide +kernel
theorem dX10_command_61 : decode cX10_command 61 = .ok (.ifCond .eq 29, 3) := by decide +kernel
theorem dX10_command_64 : decode cX10_command 64 = .ok (.aload_n 0, 1) := by decide +kernel
theorem dX10_command_65 : decode cX10_command 65 = .ok (.getfield 43, 3) := by decide +kernel
theorem dX10_command_68 : decode cX10_command 68 = .ok (.iload_n 1, 1) := by decide +kernel
theorem dX10_command_69 : decode cX10_command 69 = .ok (.iconst 2, 1) := by decide +kernel
theorem dX10_command_70 : decode cX10_command 70 = .ok (.iastore, 1) := by decide +kernel
theorem dX10_command_71 : decode cX10_command 71 = .ok (.aload_n 0, 1) := by decide +kernel
theorem dX10_command_72 : decode cX10_command 72 = .ok (.getfield 43, 3) := by decide +kernel
theorem dX10_command_75 : decode cX10_command 75 = .ok (.iload_n 1, 1) := by decide +kernel
theorem dX10_command_76 : decode cX10_command 76 = .ok (.iconst 1, 1) := by decide +kernel
theorem dX10_command_77 : decode cX10_command 77 = .ok (.iadd, 1) := by decide +kernel
theorem dX10_command_78 : decode cX10_command 78 = .ok (.aload_n 0, 1) := by decide +kernel
theorem dX10_command_79 : decode cX10_command 79 = .ok (.iconst 1, 1) := by decide +kernel
theorem dX10_command_80 : decode cX10_command 80 = .ok (.sipush 1000, 3) := by decide +kernel
theorem dX10_command_83 : decode cX10_command 83 = .ok (.invokevirtual 211, 3) := by decide +kernel
theorem dX10_command_86 : decode cX10_command 86 = .ok (.iastore, 1) := by decide +kernel
theorem dX10_command_87 : decode cX10_command 87 = .ok (.goto 48, 3) := by decide +kernel
theorem dX10_command_90 : decode cX10_command 90 = .ok (.aload_n 0, 1) := by decide +kernel
theorem dX10_command_91 : decode cX10_command 91 = .ok (.ldc_w 266, 3) := by decide +kernel
theorem dX10_command_94 : decode cX10_command 94 = .ok (.invokevirtual 207, 3) := by decide +kernel
theorem dX10_command_97 : decode cX10_command 97 = .ok (.ifCond .eq 29, 3) := by decide +kernel
theorem dX10_command_100 : decode cX10_command 100 = .ok (.aload_n 0, 1) := by decide +kernel
theorem dX10_command_101 : decode cX10_command 101 = .ok (.getfield 43, 3) := by decide +kernel
theorem dX10_command_104 : decode cX10_command 104 = .ok (.iload_n 1, 1) := by decide +kernel
theorem dX10_command_105 : decode cX10_command 105 = .ok (.iconst 3, 1) := by decide +kernel
theorem dX10_command_106 : decode cX10_command 106 = .ok (.iastore, 1) := by decide +kernel
theorem dX10_command_107 : decode cX10_command 107 = .ok (.aload_n 0, 1) := by decide +kernel
theorem dX10_command_108 : decode cX10_command 108 = .ok (.getfield 43, 3) := by decide +kernel
theorem dX10_command_111 : decode cX10_command 111 = .ok (.iload_n 1, 1) := by decide +kernel
theorem dX10_command_112 : decode cX10_command 112 = .ok (.iconst 1, 1) := by decide +kernel
theorem dX10_command_113 : decode cX10_command 113 = .ok (.iadd, 1) := by decide +kernel
theorem dX10_command_114 : decode cX10_command 114 = .ok (.aload_n 0, 1) := by decide +kernel
theorem dX10_command_115 : decode cX10_command 115 = .ok (.iconst 0, 1) := by decide +kernel
theorem dX10_command_116 : decode cX10_command 116 = .ok (.sipush 299, 3) := by decide +kernel
theorem dX10_command_119 : decode cX10_command 119 = .ok (.invokevirtual 211, 3) := by decide +kernel
theorem dX10_command_122 : decode cX10_command 122 = .ok (.iastore, 1) := by decide +kernel
theorem dX10_command_123 : decode cX10_command 123 = .ok (.goto 12, 3) := by decide +kernel
theorem dX10_command_126 : decode cX10_command 126 = .ok (.aload_n 0, 1) := by decide +kernel
theorem dX10_command_127 : decode cX10_command 127 = .ok (.iconst 1, 1) := by decide +kernel
theorem dX10_command_128 : decode cX10_command 128 = .ok (.aload_n 0, 1) := by decide +kernel
theorem dX10_command_129 : decode cX10_command 129 = .ok (.getfield 164, 3) := by decide +kernel
theorem dX10_command_132 : decode cX10_command 132 = .ok (.invokevirtual 184, 3) := by decide +kernel
theorem dX10_command_135 : decode cX10_command 135 = .ok (.aload_n 0, 1) := by decide +kernel
theorem dX10_command_136 : decode cX10_command 136 = .ok (.dup, 1) := by decide +kernel
theorem dX10_command_137 : decode cX10_command 137 = .ok (.getfield 255, 3) := by decide +kernel
theorem dX10_command_140 : decode cX10_command 140 = .ok (.iconst 1, 1) := by decide +kernel
theorem dX10_command_141 : decode cX10_command 141 = .ok (.iadd, 1) := by decide +kernel
theorem dX10_command_142 : decode cX10_command 142 = .ok (.putfield 255, 3) := by decide +kernel
theorem dX10_command_145 : decode cX10_command 145 = .ok (.return_, 1) := by decide +kernel
theorem dX10_isDone_0 : decode cX10_isDone 0 = .ok (.iconst 5, 1) := by decide +kernel
theorem dX10_isDone_1 : decode cX10_isDone 1 = .ok (.iload_n 1, 1) := by decide +kernel
theorem dX10_isDone_2 : decode cX10_isDone 2 = .ok (.imul, 1) := by decide +kernel
theorem dX10_isDone_3 : decode cX10_isDone 3 = .ok (.istore_n 2, 1) := by decide +kernel
theorem dX10_isDone_4 : decode cX10_isDone 4 = .ok (.aload_n 0, 1) := by decide +kernel
theorem dX10_isDone_5 : decode cX10_isDone 5 = .ok (.getfield 43, 3) := by decide +kernel
theorem dX10_isDone_8 : decode cX10_isDone 8 = .ok (.iload_n 2, 1) := by decide +kernel
theorem dX10_isDone_9 : decode cX10_isDone 9 = .ok (.iconst 1, 1) := by decide +kernel
theorem dX10_isDone_10 : decode cX10_isDone 10 = .ok (.iadd, 1) := by decide +kernel
theorem dX10_isDone_11 : decode cX10_isDone 11 = .ok (.iaload, 1) := by decide +kernel
theorem dX10_isDone_12 : decode cX10_isDone 12 = .ok (.istore_n 3, 1) := by decide +kernel
theorem dX10_isDone_13 : decode cX10_isDone 13 = .ok (.aload_n 0, 1) := by decide +kernel
theorem dX10_isDone_14 : decode cX10_isDone 14 = .ok (.getfield 43, 3) := by decide +kernel
theorem dX10_isDone_17 : decode cX10_isDone 17 = .ok (.iload_n 2, 1) := by decide +kernel
theorem dX10_isDone_18 : decode cX10_isDone 18 = .ok (.iconst 2, 1) := by decide +kernel
theorem dX10_isDone_19 : decode cX10_isDone 19 = .ok (.iadd, 1) := by decide +kernel
theorem dX10_isDone_20 : decode cX10_isDone 20 = .ok (.iaload, 1) := by decide +kernel
theorem dX10_isDone_21 : decode cX10_isDone 21 = .ok (.istore 4, 2) := by decide +kernel
theorem dX10_isDone_23 : decode cX10_isDone 23 = .ok (.aload_n 0, 1) := by decide +kernel
theorem dX10_isDone_24 : decode cX10_isDone 24 = .ok (.getfield 43, 3) := by decide +kernel
theorem dX10_isDone_27 : decode cX10_isDone 27 = .ok (.iload_n 2, 1) := by decide +kernel
theorem dX10_isDone_28 : decode cX10_isDone 28 = .ok (.iconst 3, 1) := by decide +kernel
theorem dX10_isDone_29 : decode cX10_isDone 29 = .ok (.iadd, 1) := by decide +kernel
theorem dX10_isDone_30 : decode cX10_isDone 30 = .ok (.iaload, 1) := by decide +kernel
theorem dX10_isDone_31 : decode cX10_isDone 31 = .ok (.istore 5, 2) := by decide +kernel
theorem dX10_isDone_33 : decode cX10_isDone 33 = .ok (.aload_n 0, 1) := by decide +kernel
theorem dX10_isDone_34 : decode cX10_isDone 34 = .ok (.getfield 43, 3) := by decide +kernel
theorem dX10_isDone_37 : decode cX10_isDone 37 = .ok (.iload_n 2, 1) := by decide +kernel
theorem dX10_isDone_38 : decode cX10_isDone 38 = .ok (.iconst 4, 1) := by decide +kernel
theorem dX10_isDone_39 : decode cX10_isDone 39 = .ok (.iadd, 1) := by decide +kernel
theorem dX10_isDone_40 : decode cX10_isDone 40 = .ok (.iaload, 1) := by decide +kernel
theorem dX10_isDone_41 : decode cX10_isDone 41 = .ok (.istore 6, 2) := by decide +kernel
theorem dX10_isDone_43 : decode cX10_isDone 43 = .ok (.aload_n 0, 1) := by decide +kernel
theorem dX10_isDone_44 : decode cX10_isDone 44 = .ok (.getfield 43, 3) := by decide +kernel
theorem dX10_isDone_47 : decode cX10_isDone 47 = .ok (.iload_n 2, 1) := by decide +kernel
theorem dX10_isDone_48 : decode cX10_isDone 48 = .ok (.iaload, 1) := by decide +kernel
theorem dX10_isDone_49 : decode cX10_isDone 49 = .ok (.tableswitch 81 0 2 #[27, 47, 67], 27) := by decide +kernel
theorem dX10_isDone_76 : decode cX10_isDone 76 = .ok (.aload_n 0, 1) := by decide +kernel
theorem dX10_isDone_77 : decode cX10_isDone 77 = .ok (.iload 4, 2) := by decide +kernel
theorem dX10_isDone_79 : decode cX10_isDone 79 = .ok (.iload 5, 2) := by decide +kernel
theorem dX10_isDone_81 : decode cX10_isDone 81 = .ok (.iload_n 3, 1) := by decide +kernel
theorem dX10_isDone_82 : decode cX10_isDone 82 = .ok (.iload 6, 2) := by decide +kernel
theorem dX10_isDone_84 : decode cX10_isDone 84 = .ok (.invokevirtual 117, 3) := by decide +kernel
theorem dX10_isDone_87 : decode cX10_isDone 87 = .ok (.ifCond .lt 7, 3) := by decide +kernel
theorem dX10_isDone_90 : decode cX10_isDone 90 = .ok (.iconst 1, 1) := by decide +kernel
theorem dX10_isDone_91 : decode cX10_isDone 91 = .ok (.goto 4, 3) := by decide +kernel
theorem dX10_isDone_94 : decode cX10_isDone 94 = .ok (.iconst 0, 1) := by decide +kernel
theorem dX10_isDone_95 : decode cX10_isDone 95 = .ok (.ireturn, 1) := by decide +kernel
theorem dX10_isDone_96 : decode cX10_isDone 96 = .ok (.aload_n 0, 1) := by decide +kernel
theorem dX10_isDone_97 : decode cX10_isDone 97 = .ok (.iload 4, 2) := by decide +kernel
theorem dX10_isDone_99 : decode cX10_isDone 99 = .ok (.iload 5, 2) := by decide +kernel
theorem dX10_isDone_101 : decode cX10_isDone 101 = .ok (.iload_n 3, 1) := by decide +kernel
theorem dX10_isDone_102 : decode cX10_isDone 102 = .ok (.iload 6, 2) := by decide +kernel
theorem dX10_isDone_104 : decode cX10_isDone 104 = .ok (.invokevirtual 139, 3) := by decide +kernel
theorem dX10_isDone_107 : decode cX10_isDone 107 = .ok (.ifCond .lt 7, 3) := by decide +kernel
theorem dX10_isDone_110 : decode cX10_isDone 110 = .ok (.iconst 1, 1) := by decide +kernel
theorem dX10_isDone_111 : decode cX10_isDone 111 = .ok (.goto 4, 3) := by decide +kernel
theorem dX10_isDone_114 : decode cX10_isDone 114 = .ok (.iconst 0, 1) := by decide +kernel
theorem dX10_isDone_115 : decode cX10_isDone 115 = .ok (.ireturn, 1) := by decide +kernel
theorem dX10_isDone_116 : decode cX10_isDone 116 = .ok (.aload_n 0, 1) := by decide +kernel
theorem dX10_isDone_117 : decode cX10_isDone 117 = .ok (.iload_n 3, 1) := by decide +kernel
theorem dX10_isDone_118 : decode cX10_isDone 118 = .ok (.invokevirtual 151, 3) := by decide +kernel
theorem dX10_isDone_121 : decode cX10_isDone 121 = .ok (.ifCond .lt 7, 3) := by decide +kernel
theorem dX10_isDone_124 : decode cX10_isDone 124 = .ok (.iconst 1, 1) := by decide +kernel
theorem dX10_isDone_125 : decode cX10_isDone 125 = .ok (.goto 4, 3) := by decide +kernel
theorem dX10_isDone_128 : decode cX10_isDone 128 = .ok (.iconst 0, 1) := by decide +kernel
theorem dX10_isDone_129 : decode cX10_isDone 129 = .ok (.ireturn, 1) := by decide +kernel
theorem dX10_isDone_130 : decode cX10_isDone 130 = .ok (.aload_n 0, 1) := by decide +kernel
theorem dX10_isDone_131 : decode cX10_isDone 131 = .ok (.iload_n 3, 1) := by decide +kernel
theorem dX10_isDone_132 : decode cX10_isDone 132 = .ok (.invokevirtual 130, 3) := by decide +kernel
theorem dX10_isDone_135 : decode cX10_isDone 135 = .ok (.ifCond .eq 15, 3) := by decide +kernel
theorem dX10_isDone_138 : decode cX10_isDone 138 = .ok (.aload_n 0, 1) := by decide +kernel
theorem dX10_isDone_139 : decode cX10_isDone 139 = .ok (.iload_n 3, 1) := by decide +kernel
theorem dX10_isDone_140 : decode cX10_isDone 140 = .ok (.invokevirtual 133, 3) := by decide +kernel
theorem dX10_isDone_143 : decode cX10_isDone 143 = .ok (.ifCond .lt 7, 3) := by decide +kernel
theorem dX10_isDone_146 : decode cX10_isDone 146 = .ok (.iconst 1, 1) := by decide +kernel
theorem dX10_isDone_147 : decode cX10_isDone 147 = .ok (.goto 4, 3) := by decide +kernel
theorem dX10_isDone_150 : decode cX10_isDone 150 = .ok (.iconst 0, 1) := by decide +kernel
theorem dX10_isDone_151 : decode cX10_isDone 151 = .ok (.ireturn, 1) := by decide +kernel
theorem dX10_carriesOut_0 : decode cX10_carriesOut 0 = .ok (.aload_n 0, 1) := by decide +kernel
theorem dX10_carriesOut_1 : decode cX10_carriesOut 1 = .ok (.getfield 9, 3) := by decide +kernel
theorem dX10_carriesOut_4 : decode cX10_carriesOut 4 = .ok (.iconst 0, 1) := by decide +kernel
theorem dX10_carriesOut_5 : decode cX10_carriesOut 5 = .ok (.aload_n 0, 1) := by decide +kernel
theorem dX10_carriesOut_6 : decode cX10_carriesOut 6 = .ok (.getfield 16, 3) := by decide +kernel
theorem dX10_carriesOut_9 : decode cX10_carriesOut 9 = .ok (.iconst 0, 1) := by decide +kernel
theorem dX10_carriesOut_10 : decode cX10_carriesOut 10 = .ok (.invokestatic 252, 3) := by decide +kernel
theorem dX10_carriesOut_13 : decode cX10_carriesOut 13 = .ok (.aload_n 0, 1) := by decide +kernel
theorem dX10_carriesOut_14 : decode cX10_carriesOut 14 = .ok (.getfield 22, 3) := by decide +kernel
theorem dX10_carriesOut_17 : decode cX10_carriesOut 17 = .ok (.iconst 0, 1) := by decide +kernel
theorem dX10_carriesOut_18 : decode cX10_carriesOut 18 = .ok (.aload_n 0, 1) := by decide +kernel
theorem dX10_carriesOut_19 : decode cX10_carriesOut 19 = .ok (.getfield 26, 3) := by decide +kernel
theorem dX10_carriesOut_22 : decode cX10_carriesOut 22 = .ok (.iconst 0, 1) := by decide +kernel
theorem dX10_carriesOut_23 : decode cX10_carriesOut 23 = .ok (.invokestatic 268, 3) := by decide +kernel
theorem dX10_carriesOut_26 : decode cX10_carriesOut 26 = .ok (.iconst 0, 1) := by decide +kernel
theorem dX10_carriesOut_27 : decode cX10_carriesOut 27 = .ok (.istore_n 1, 1) := by decide +kernel
theorem dX10_carriesOut_28 : decode cX10_carriesOut 28 = .ok (.iload_n 1, 1) := by decide +kernel
theorem dX10_carriesOut_29 : decode cX10_carriesOut 29 = .ok (.aload_n 0, 1) := by decide +kernel
theorem dX10_carriesOut_30 : decode cX10_carriesOut 30 = .ok (.getfield 255, 3) := by decide +kernel
theorem dX10_carriesOut_33 : decode cX10_carriesOut 33 = .ok (.if_icmp .ge 49, 3) := by decide +kernel
theorem dX10_carriesOut_36 : decode cX10_carriesOut 36 = .ok (.aload_n 0, 1) := by decide +kernel
theorem dX10_carriesOut_37 : decode cX10_carriesOut 37 = .ok (.iload_n 1, 1) := by decide +kernel
theorem dX10_carriesOut_38 : decode cX10_carriesOut 38 = .ok (.invokevirtual 272, 3) := by decide +kernel
theorem dX10_carriesOut_41 : decode cX10_carriesOut 41 = .ok (.ifCond .ne 35, 3) := by decide +kernel
theorem dX10_carriesOut_44 : decode cX10_carriesOut 44 = .ok (.aload_n 0, 1) := by decide +kernel
theorem dX10_carriesOut_45 : decode cX10_carriesOut 45 = .ok (.getfield 16, 3) := by decide +kernel
theorem dX10_carriesOut_48 : decode cX10_carriesOut 48 = .ok (.iconst 0, 1) := by decide +kernel
theorem dX10_carriesOut_49 : decode cX10_carriesOut 49 = .ok (.aload_n 0, 1) := by decide +kernel
theorem dX10_carriesOut_50 : decode cX10_carriesOut 50 = .ok (.getfield 9, 3) := by decide +kernel
theorem dX10_carriesOut_53 : decode cX10_carriesOut 53 = .ok (.iconst 0, 1) := by decide +kernel
theorem dX10_carriesOut_54 : decode cX10_carriesOut 54 = .ok (.invokestatic 252, 3) := by decide +kernel
theorem dX10_carriesOut_57 : decode cX10_carriesOut 57 = .ok (.aload_n 0, 1) := by decide +kernel
theorem dX10_carriesOut_58 : decode cX10_carriesOut 58 = .ok (.getfield 26, 3) := by decide +kernel
theorem dX10_carriesOut_61 : decode cX10_carriesOut 61 = .ok (.iconst 0, 1) := by decide +kernel
theorem dX10_carriesOut_62 : decode cX10_carriesOut 62 = .ok (.aload_n 0, 1) := by decide +kernel
theorem dX10_carriesOut_63 : decode cX10_carriesOut 63 = .ok (.getfield 22, 3) := by decide +kernel
theorem dX10_carriesOut_66 : decode cX10_carriesOut 66 = .ok (.iconst 0, 1) := by decide +kernel
theorem dX10_carriesOut_67 : decode cX10_carriesOut 67 = .ok (.invokestatic 268, 3) := by decide +kernel
theorem dX10_carriesOut_70 : decode cX10_carriesOut 70 = .ok (.sipush (-1000), 3) := by decide +kernel
theorem dX10_carriesOut_73 : decode cX10_carriesOut 73 = .ok (.iload_n 1, 1) := by decide +kernel
theorem dX10_carriesOut_74 : decode cX10_carriesOut 74 = .ok (.isub, 1) := by decide +kernel
theorem dX10_carriesOut_75 : decode cX10_carriesOut 75 = .ok (.ireturn, 1) := by decide +kernel
theorem dX10_carriesOut_76 : decode cX10_carriesOut 76 = .ok (.iinc 1 1, 3) := by decide +kernel
theorem dX10_carriesOut_79 : decode cX10_carriesOut 79 = .ok (.goto (-51), 3) := by decide +kernel
theorem dX10_carriesOut_82 : decode cX10_carriesOut 82 = .ok (.aload_n 0, 1) := by decide +kernel
theorem dX10_carriesOut_83 : decode cX10_carriesOut 83 = .ok (.getfield 255, 3) := by decide +kernel
theorem dX10_carriesOut_86 : decode cX10_carriesOut 86 = .ok (.ireturn, 1) := by decide +kernel
theorem dX10_batch_0 : decode cX10_batch 0 = .ok (.aload_n 0, 1) := by decide +kernel
theorem dX10_batch_1 : decode cX10_batch 1 = .ok (.iconst 0, 1) := by decide +kernel
theorem dX10_batch_2 : decode cX10_batch 2 = .ok (.putfield 50, 3) := by decide +kernel
theorem dX10_batch_5 : decode cX10_batch 5 = .ok (.aload_n 0, 1) := by decide +kernel
theorem dX10_batch_6 : decode cX10_batch 6 = .ok (.iconst 0, 1) := by decide +kernel
theorem dX10_batch_7 : decode cX10_batch 7 = .ok (.putfield 157, 3) := by decide +kernel
theorem dX10_batch_10 : decode cX10_batch 10 = .ok (.aload_n 0, 1) := by decide +kernel
theorem dX10_batch_11 : decode cX10_batch 11 = .ok (.iconst 0, 1) := by decide +kernel
theorem dX10_batch_12 : decode cX10_batch 12 = .ok (.putfield 167, 3) := by decide +kernel
theorem dX10_batch_15 : decode cX10_batch 15 = .ok (.aload_n 0, 1) := by decide +kernel
theorem dX10_batch_16 : decode cX10_batch 16 = .ok (.iconst 0, 1) := by decide +kernel
theorem dX10_batch_17 : decode cX10_batch 17 = .ok (.putfield 255, 3) := by decide +kernel
theorem dX10_batch_20 : decode cX10_batch 20 = .ok (.aload_n 0, 1) := by decide +kernel
theorem dX10_batch_21 : decode cX10_batch 21 = .ok (.invokevirtual 275, 3) := by decide +kernel
theorem dX10_batch_24 : decode cX10_batch 24 = .ok (.aload_n 0, 1) := by decide +kernel
theorem dX10_batch_25 : decode cX10_batch 25 = .ok (.invokevirtual 242, 3) := by decide +kernel
theorem dX10_batch_28 : decode cX10_batch 28 = .ok (.ifCond .eq 10, 3) := by decide +kernel
theorem dX10_batch_31 : decode cX10_batch 31 = .ok (.aload_n 0, 1) := by decide +kernel
theorem dX10_batch_32 : decode cX10_batch 32 = .ok (.invokevirtual 275, 3) := by decide +kernel
theorem dX10_batch_35 : decode cX10_batch 35 = .ok (.goto (-11), 3) := by decide +kernel
theorem dX10_batch_38 : decode cX10_batch 38 = .ok (.aload_n 0, 1) := by decide +kernel
theorem dX10_batch_39 : decode cX10_batch 39 = .ok (.iconst 0, 1) := by decide +kernel
theorem dX10_batch_40 : decode cX10_batch 40 = .ok (.putfield 154, 3) := by decide +kernel
theorem dX10_batch_43 : decode cX10_batch 43 = .ok (.aload_n 0, 1) := by decide +kernel
theorem dX10_batch_44 : decode cX10_batch 44 = .ok (.aload_n 0, 1) := by decide +kernel
theorem dX10_batch_45 : decode cX10_batch 45 = .ok (.getfield 167, 3) := by decide +kernel
theorem dX10_batch_48 : decode cX10_batch 48 = .ok (.putfield 249, 3) := by decide +kernel
theorem dX10_batch_51 : decode cX10_batch 51 = .ok (.aload_n 0, 1) := by decide +kernel
theorem dX10_batch_52 : decode cX10_batch 52 = .ok (.getfield 167, 3) := by decide +kernel
theorem dX10_batch_55 : decode cX10_batch 55 = .ok (.ifCond .eq 13, 3) := by decide +kernel
theorem dX10_batch_58 : decode cX10_batch 58 = .ok (.bipush (-100), 2) := by decide +kernel
theorem dX10_batch_60 : decode cX10_batch 60 = .ok (.aload_n 0, 1) := by decide +kernel
theorem dX10_batch_61 : decode cX10_batch 61 = .ok (.getfield 170, 3) := by decide +kernel
theorem dX10_batch_64 : decode cX10_batch 64 = .ok (.isub, 1) := by decide +kernel
theorem dX10_batch_65 : decode cX10_batch 65 = .ok (.goto 7, 3) := by decide +kernel
theorem dX10_batch_68 : decode cX10_batch 68 = .ok (.aload_n 0, 1) := by decide +kernel
theorem dX10_batch_69 : decode cX10_batch 69 = .ok (.invokevirtual 278, 3) := by decide +kernel
theorem dX10_batch_72 : decode cX10_batch 72 = .ok (.ireturn, 1) := by decide +kernel
theorem dX10_blockCount_0 : decode cX10_blockCount 0 = .ok (.aload_n 0, 1) := by decide +kernel
theorem dX10_blockCount_1 : decode cX10_blockCount 1 = .ok (.iconst 0, 1) := by decide +kernel
theorem dX10_blockCount_2 : decode cX10_blockCount 2 = .ok (.putfield 50, 3) := by decide +kernel
theorem dX10_blockCount_5 : decode cX10_blockCount 5 = .ok (.aload_n 0, 1) := by decide +kernel
theorem dX10_blockCount_6 : decode cX10_blockCount 6 = .ok (.getfield 9, 3) := by decide +kernel
theorem dX10_blockCount_9 : decode cX10_blockCount 9 = .ok (.iconst 0, 1) := by decide +kernel
theorem dX10_blockCount_10 : decode cX10_blockCount 10 = .ok (.iaload, 1) := by decide +kernel
theorem dX10_blockCount_11 : decode cX10_blockCount 11 = .ok (.ireturn, 1) := by decide +kernel
theorem dX10_poolCount_0 : decode cX10_poolCount 0 = .ok (.aload_n 0, 1) := by decide +kernel
theorem dX10_poolCount_1 : decode cX10_poolCount 1 = .ok (.iconst 0, 1) := by decide +kernel
theorem dX10_poolCount_2 : decode cX10_poolCount 2 = .ok (.putfield 50, 3) := by decide +kernel
theorem dX10_poolCount_5 : decode cX10_poolCount 5 = .ok (.aload_n 0, 1) := by decide +kernel
theorem dX10_poolCount_6 : decode cX10_poolCount 6 = .ok (.getfield 9, 3) := by decide +kernel
theorem dX10_poolCount_9 : decode cX10_poolCount 9 = .ok (.iconst 1, 1) := by decide +kernel
theorem dX10_poolCount_10 : decode cX10_poolCount 10 = .ok (.iaload, 1) := by decide +kernel
theorem dX10_poolCount_11 : decode cX10_poolCount 11 = .ok (.ireturn, 1) := by decide +kernel
theorem dX10_nameByte_0 : decode cX10_nameByte 0 = .ok (.aload_n 0, 1) := by decide +kernel
theorem dX10_nameByte_1 : decode cX10_nameByte 1 = .ok (.aload_n 0, 1) := by decide +kernel
theorem dX10_nameByte_2 : decode cX10_nameByte 2 = .ok (.iload_n 1, 1) := by decide +kernel
theorem dX10_nameByte_3 : decode cX10_nameByte 3 = .ok (.invokevirtual 109, 3) := by decide +kernel
theorem dX10_nameByte_6 : decode cX10_nameByte 6 = .ok (.iconst 1, 1) := by decide +kernel
theorem dX10_nameByte_7 : decode cX10_nameByte 7 = .ok (.invokevirtual 113, 3) := by decide +kernel
theorem dX10_nameByte_10 : decode cX10_nameByte 10 = .ok (.ifCond .eq 5, 3) := by decide +kernel
theorem dX10_nameByte_13 : decode cX10_nameByte 13 = .ok (.iconst 0, 1) := by decide +kernel
theorem dX10_nameByte_14 : decode cX10_nameByte 14 = .ok (.ireturn, 1) := by decide +kernel
theorem dX10_nameByte_15 : decode cX10_nameByte 15 = .ok (.iload_n 2, 1) := by decide +kernel
theorem dX10_nameByte_16 : decode cX10_nameByte 16 = .ok (.iconst 0, 1) := by decide +kernel
theorem dX10_nameByte_17 : decode cX10_nameByte 17 = .ok (.iconst 5, 1) := by decide +kernel
theorem dX10_nameByte_18 : decode cX10_nameByte 18 = .ok (.invokestatic 54, 3) := by decide +kernel
theorem dX10_nameByte_21 : decode cX10_nameByte 21 = .ok (.ifCond .eq 18, 3) := by decide +kernel
theorem dX10_nameByte_24 : decode cX10_nameByte 24 = .ok (.aload_n 0, 1) := by decide +kernel
theorem dX10_nameByte_25 : decode cX10_nameByte 25 = .ok (.iload_n 1, 1) := by decide +kernel
theorem dX10_nameByte_26 : decode cX10_nameByte 26 = .ok (.iconst 2, 1) := by decide +kernel
theorem dX10_nameByte_27 : decode cX10_nameByte 27 = .ok (.iload_n 2, 1) := by decide +kernel
theorem dX10_nameByte_28 : decode cX10_nameByte 28 = .ok (.iadd, 1) := by decide +kernel
theorem dX10_nameByte_29 : decode cX10_nameByte 29 = .ok (.invokevirtual 69, 3) := by decide +kernel
theorem dX10_nameByte_32 : decode cX10_nameByte 32 = .ok (.ifCond .eq 7, 3) := by decide +kernel
theorem dX10_nameByte_35 : decode cX10_nameByte 35 = .ok (.iconst 1, 1) := by decide +kernel
theorem dX10_nameByte_36 : decode cX10_nameByte 36 = .ok (.goto 4, 3) := by decide +kernel
theorem dX10_nameByte_39 : decode cX10_nameByte 39 = .ok (.iconst 0, 1) := by decide +kernel
theorem dX10_nameByte_40 : decode cX10_nameByte 40 = .ok (.istore_n 3, 1) := by decide +kernel
theorem dX10_nameByte_41 : decode cX10_nameByte 41 = .ok (.iload_n 3, 1) := by decide +kernel
theorem dX10_nameByte_42 : decode cX10_nameByte 42 = .ok (.ifCond .eq 14, 3) := by decide +kernel
theorem dX10_nameByte_45 : decode cX10_nameByte 45 = .ok (.aload_n 0, 1) := by decide +kernel
theorem dX10_nameByte_46 : decode cX10_nameByte 46 = .ok (.iload_n 1, 1) := by decide +kernel
theorem dX10_nameByte_47 : decode cX10_nameByte 47 = .ok (.iconst 2, 1) := by decide +kernel
theorem dX10_nameByte_48 : decode cX10_nameByte 48 = .ok (.iload_n 2, 1) := by decide +kernel
theorem dX10_nameByte_49 : decode cX10_nameByte 49 = .ok (.iadd, 1) := by decide +kernel
theorem dX10_nameByte_50 : decode cX10_nameByte 50 = .ok (.invokevirtual 69, 3) := by decide +kernel
theorem dX10_nameByte_53 : decode cX10_nameByte 53 = .ok (.goto 4, 3) := by decide +kernel
theorem dX10_nameByte_56 : decode cX10_nameByte 56 = .ok (.iconst (-1), 1) := by decide +kernel
theorem dX10_nameByte_57 : decode cX10_nameByte 57 = .ok (.ireturn, 1) := by decide +kernel
theorem dX10_bookedUpTo_0 : decode cX10_bookedUpTo 0 = .ok (.iload_n 1, 1) := by decide +kernel
theorem dX10_bookedUpTo_1 : decode cX10_bookedUpTo 1 = .ok (.ifCond .ne 12, 3) := by decide +kernel
theorem dX10_bookedUpTo_4 : decode cX10_bookedUpTo 4 = .ok (.aload_n 0, 1) := by decide +kernel
theorem dX10_bookedUpTo_5 : decode cX10_bookedUpTo 5 = .ok (.getfield 9, 3) := by decide +kernel
theorem dX10_bookedUpTo_8 : decode cX10_bookedUpTo 8 = .ok (.iconst 0, 1) := by decide +kernel
theorem dX10_bookedUpTo_9 : decode cX10_bookedUpTo 9 = .ok (.iaload, 1) := by decide +kernel
theorem dX10_bookedUpTo_10 : decode cX10_bookedUpTo 10 = .ok (.goto 4, 3) := by decide +kernel
theorem dX10_bookedUpTo_13 : decode cX10_bookedUpTo 13 = .ok (.iconst 0, 1) := by decide +kernel
theorem dX10_bookedUpTo_14 : decode cX10_bookedUpTo 14 = .ok (.istore_n 3, 1) := by decide +kernel
theorem dX10_bookedUpTo_15 : decode cX10_bookedUpTo 15 = .ok (.iconst 0, 1) := by decide +kernel
theorem dX10_bookedUpTo_16 : decode cX10_bookedUpTo 16 = .ok (.istore 4, 2) := by decide +kernel
theorem dX10_bookedUpTo_18 : decode cX10_bookedUpTo 18 = .ok (.iload 4, 2) := by decide +kernel
theorem dX10_bookedUpTo_20 : decode cX10_bookedUpTo 20 = .ok (.iload_n 2, 1) := by decide +kernel
theorem dX10_bookedUpTo_21 : decode cX10_bookedUpTo 21 = .ok (.if_icmp .ge 59, 3) := by decide +kernel
theorem dX10_bookedUpTo_24 : decode cX10_bookedUpTo 24 = .ok (.iload_n 3, 1) := by decide +kernel
theorem dX10_bookedUpTo_25 : decode cX10_bookedUpTo 25 = .ok (.aload_n 0, 1) := by decide +kernel
theorem dX10_bookedUpTo_26 : decode cX10_bookedUpTo 26 = .ok (.iload 4, 2) := by decide +kernel
theorem dX10_bookedUpTo_28 : decode cX10_bookedUpTo 28 = .ok (.iconst 1, 1) := by decide +kernel
theorem dX10_bookedUpTo_29 : decode cX10_bookedUpTo 29 = .ok (.invokevirtual 85, 3) := by decide +kernel
theorem dX10_bookedUpTo_32 : decode cX10_bookedUpTo 32 = .ok (.iload_n 1, 1) := by decide +kernel
theorem dX10_bookedUpTo_33 : decode cX10_bookedUpTo 33 = .ok (.if_icmp .ne 13, 3) := by decide +kernel
theorem dX10_bookedUpTo_36 : decode cX10_bookedUpTo 36 = .ok (.aload_n 0, 1) := by decide +kernel
theorem dX10_bookedUpTo_37 : decode cX10_bookedUpTo 37 = .ok (.iload 4, 2) := by decide +kernel
theorem dX10_bookedUpTo_39 : decode cX10_bookedUpTo 39 = .ok (.iconst 2, 1) := by decide +kernel
theorem dX10_bookedUpTo_40 : decode cX10_bookedUpTo 40 = .ok (.invokevirtual 85, 3) := by decide +kernel
theorem dX10_bookedUpTo_43 : decode cX10_bookedUpTo 43 = .ok (.goto 4, 3) := by decide +kernel
theorem dX10_bookedUpTo_46 : decode cX10_bookedUpTo 46 = .ok (.iconst 0, 1) := by decide +kernel
theorem dX10_bookedUpTo_47 : decode cX10_bookedUpTo 47 = .ok (.iadd, 1) := by decide +kernel
theorem dX10_bookedUpTo_48 : decode cX10_bookedUpTo 48 = .ok (.istore_n 3, 1) := by decide +kernel
theorem dX10_bookedUpTo_49 : decode cX10_bookedUpTo 49 = .ok (.iload_n 3, 1) := by decide +kernel
theorem dX10_bookedUpTo_50 : decode cX10_bookedUpTo 50 = .ok (.aload_n 0, 1) := by decide +kernel
theorem dX10_bookedUpTo_51 : decode cX10_bookedUpTo 51 = .ok (.iload 4, 2) := by decide +kernel
theorem dX10_bookedUpTo_53 : decode cX10_bookedUpTo 53 = .ok (.iconst 0, 1) := by decide +kernel
theorem dX10_bookedUpTo_54 : decode cX10_bookedUpTo 54 = .ok (.invokevirtual 85, 3) := by decide +kernel
theorem dX10_bookedUpTo_57 : decode cX10_bookedUpTo 57 = .ok (.iload_n 1, 1) := by decide +kernel
theorem dX10_bookedUpTo_58 : decode cX10_bookedUpTo 58 = .ok (.if_icmp .ne 13, 3) := by decide +kernel
theorem dX10_bookedUpTo_61 : decode cX10_bookedUpTo 61 = .ok (.aload_n 0, 1) := by decide +kernel
theorem dX10_bookedUpTo_62 : decode cX10_bookedUpTo 62 = .ok (.iload 4, 2) := by decide +kernel
theorem dX10_bookedUpTo_64 : decode cX10_bookedUpTo 64 = .ok (.iconst 2, 1) := by decide +kernel
theorem dX10_bookedUpTo_65 : decode cX10_bookedUpTo 65 = .ok (.invokevirtual 85, 3) := by decide +kernel
theorem dX10_bookedUpTo_68 : decode cX10_bookedUpTo 68 = .ok (.goto 4, 3) := by decide +kernel
theorem dX10_bookedUpTo_71 : decode cX10_bookedUpTo 71 = .ok (.iconst 0, 1) := by decide +kernel
theorem dX10_bookedUpTo_72 : decode cX10_bookedUpTo 72 = .ok (.isub, 1) := by decide +kernel
theorem dX10_bookedUpTo_73 : decode cX10_bookedUpTo 73 = .ok (.istore_n 3, 1) := by decide +kernel
theorem dX10_bookedUpTo_74 : decode cX10_bookedUpTo 74 = .ok (.iinc 4 1, 3) := by decide +kernel
theorem dX10_bookedUpTo_77 : decode cX10_bookedUpTo 77 = .ok (.goto (-59), 3) := by decide +kernel
theorem dX10_bookedUpTo_80 : decode cX10_bookedUpTo 80 = .ok (.iload_n 3, 1) := by decide +kernel
theorem dX10_bookedUpTo_81 : decode cX10_bookedUpTo 81 = .ok (.ireturn, 1) := by decide +kernel
theorem dX10_bookedOf_0 : decode cX10_bookedOf 0 = .ok (.aload_n 0, 1) := by decide +kernel
theorem dX10_bookedOf_1 : decode cX10_bookedOf 1 = .ok (.iload_n 1, 1) := by decide +kernel
theorem dX10_bookedOf_2 : decode cX10_bookedOf 2 = .ok (.aload_n 0, 1) := by decide +kernel
theorem dX10_bookedOf_3 : decode cX10_bookedOf 3 = .ok (.getfield 9, 3) := by decide +kernel
theorem dX10_bookedOf_6 : decode cX10_bookedOf 6 = .ok (.iconst 4, 1) := by decide +kernel
theorem dX10_bookedOf_7 : decode cX10_bookedOf 7 = .ok (.iaload, 1) := by decide +kernel
theorem dX10_bookedOf_8 : decode cX10_bookedOf 8 = .ok (.invokevirtual 281, 3) := by decide +kernel
theorem dX10_bookedOf_11 : decode cX10_bookedOf 11 = .ok (.ireturn, 1) := by decide +kernel
theorem dX10_balance_0 : decode cX10_balance 0 = .ok (.aload_n 0, 1) := by decide +kernel
theorem dX10_balance_1 : decode cX10_balance 1 = .ok (.aload_n 0, 1) := by decide +kernel
theorem dX10_balance_2 : decode cX10_balance 2 = .ok (.iload_n 1, 1) := by decide +kernel
theorem dX10_balance_3 : decode cX10_balance 3 = .ok (.invokevirtual 109, 3) := by decide +kernel
theorem dX10_balance_6 : decode cX10_balance 6 = .ok (.iconst 1, 1) := by decide +kernel
theorem dX10_balance_7 : decode cX10_balance 7 = .ok (.invokevirtual 113, 3) := by decide +kernel
theorem dX10_balance_10 : decode cX10_balance 10 = .ok (.ifCond .eq 7, 3) := by decide +kernel
theorem dX10_balance_13 : decode cX10_balance 13 = .ok (.iconst 0, 1) := by decide +kernel
theorem dX10_balance_14 : decode cX10_balance 14 = .ok (.goto 8, 3) := by decide +kernel
theorem dX10_balance_17 : decode cX10_balance 17 = .ok (.aload_n 0, 1) := by decide +kernel
theorem dX10_balance_18 : decode cX10_balance 18 = .ok (.iload_n 1, 1) := by decide +kernel
theorem dX10_balance_19 : decode cX10_balance 19 = .ok (.invokevirtual 62, 3) := by decide +kernel
theorem dX10_balance_22 : decode cX10_balance 22 = .ok (.ireturn, 1) := by decide +kernel
theorem dX10_booked_0 : decode cX10_booked 0 = .ok (.aload_n 0, 1) := by decide +kernel
theorem dX10_booked_1 : decode cX10_booked 1 = .ok (.aload_n 0, 1) := by decide +kernel
theorem dX10_booked_2 : decode cX10_booked 2 = .ok (.iload_n 1, 1) := by decide +kernel
theorem dX10_booked_3 : decode cX10_booked 3 = .ok (.invokevirtual 109, 3) := by decide +kernel
theorem dX10_booked_6 : decode cX10_booked 6 = .ok (.iconst 1, 1) := by decide +kernel
theorem dX10_booked_7 : decode cX10_booked 7 = .ok (.invokevirtual 113, 3) := by decide +kernel
theorem dX10_booked_10 : decode cX10_booked 10 = .ok (.ifCond .eq 7, 3) := by decide +kernel
theorem dX10_booked_13 : decode cX10_booked 13 = .ok (.iconst 0, 1) := by decide +kernel
theorem dX10_booked_14 : decode cX10_booked 14 = .ok (.goto 8, 3) := by decide +kernel
theorem dX10_booked_17 : decode cX10_booked 17 = .ok (.aload_n 0, 1) := by decide +kernel
theorem dX10_booked_18 : decode cX10_booked 18 = .ok (.iload_n 1, 1) := by decide +kernel
theorem dX10_booked_19 : decode cX10_booked 19 = .ok (.invokevirtual 284, 3) := by decide +kernel
theorem dX10_booked_22 : decode cX10_booked 22 = .ok (.ireturn, 1) := by decide +kernel
theorem dX10_available_0 : decode cX10_available 0 = .ok (.aload_n 0, 1) := by decide +kernel
theorem dX10_available_1 : decode cX10_available 1 = .ok (.aload_n 0, 1) := by decide +kernel
theorem dX10_available_2 : decode cX10_available 2 = .ok (.iload_n 1, 1) := by decide +kernel
theorem dX10_available_3 : decode cX10_available 3 = .ok (.invokevirtual 109, 3) := by decide +kernel
theorem dX10_available_6 : decode cX10_available 6 = .ok (.iconst 1, 1) := by decide +kernel
theorem dX10_available_7 : decode cX10_available 7 = .ok (.invokevirtual 113, 3) := by decide +kernel
theorem dX10_available_10 : decode cX10_available 10 = .ok (.ifCond .eq 7, 3) := by decide +kernel
theorem dX10_available_13 : decode cX10_available 13 = .ok (.iconst 0, 1) := by decide +kernel
theorem dX10_available_14 : decode cX10_available 14 = .ok (.goto 8, 3) := by decide +kernel
theorem dX10_available_17 : decode cX10_available 17 = .ok (.aload_n 0, 1) := by decide +kernel
theorem dX10_available_18 : decode cX10_available 18 = .ok (.iload_n 1, 1) := by decide +kernel
theorem dX10_available_19 : decode cX10_available 19 = .ok (.invokevirtual 92, 3) := by decide +kernel
theorem dX10_available_22 : decode cX10_available 22 = .ok (.ireturn, 1) := by decide +kernel
theorem dX10_room_0 : decode cX10_room 0 = .ok (.aload_n 0, 1) := by decide +kernel
theorem dX10_room_1 : decode cX10_room 1 = .ok (.aload_n 0, 1) := by decide +kernel
theorem dX10_room_2 : decode cX10_room 2 = .ok (.iload_n 1, 1) := by decide +kernel
theorem dX10_room_3 : decode cX10_room 3 = .ok (.invokevirtual 109, 3) := by decide +kernel
theorem dX10_room_6 : decode cX10_room 6 = .ok (.iconst 1, 1) := by decide +kernel
theorem dX10_room_7 : decode cX10_room 7 = .ok (.invokevirtual 113, 3) := by decide +kernel
theorem dX10_room_10 : decode cX10_room 10 = .ok (.ifCond .eq 7, 3) := by decide +kernel
theorem dX10_room_13 : decode cX10_room 13 = .ok (.iconst 0, 1) := by decide +kernel
theorem dX10_room_14 : decode cX10_room 14 = .ok (.goto 8, 3) := by decide +kernel
theorem dX10_room_17 : decode cX10_room 17 = .ok (.aload_n 0, 1) := by decide +kernel
theorem dX10_room_18 : decode cX10_room 18 = .ok (.iload_n 1, 1) := by decide +kernel
theorem dX10_room_19 : decode cX10_room 19 = .ok (.invokevirtual 95, 3) := by decide +kernel
theorem dX10_room_22 : decode cX10_room 22 = .ok (.ireturn, 1) := by decide +kernel
theorem dX10_largestTransfer_0 : decode cX10_largestTransfer 0 = .ok (.aload_n 0, 1) := by decide +kernel
theorem dX10_largestTransfer_1 : decode cX10_largestTransfer 1 = .ok (.aload_n 0, 1) := by decide +kernel
theorem dX10_largestTransfer_2 : decode cX10_largestTransfer 2 = .ok (.iload_n 1, 1) := by decide +kernel
theorem dX10_largestTransfer_3 : decode cX10_largestTransfer 3 = .ok (.invokevirtual 109, 3) := by decide +kernel
theorem dX10_largestTransfer_6 : decode cX10_largestTransfer 6 = .ok (.ifCond .eq 15, 3) := by decide +kernel
theorem dX10_largestTransfer_9 : decode cX10_largestTransfer 9 = .ok (.aload_n 0, 1) := by decide +kernel
theorem dX10_largestTransfer_10 : decode cX10_largestTransfer 10 = .ok (.iload_n 2, 1) := by decide +kernel
theorem dX10_largestTransfer_11 : decode cX10_largestTransfer 11 = .ok (.invokevirtual 109, 3) := by decide +kernel
theorem dX10_largestTransfer_14 : decode cX10_largestTransfer 14 = .ok (.ifCond .eq 7, 3) := by decide +kernel
theorem dX10_largestTransfer_17 : decode cX10_largestTransfer 17 = .ok (.iconst 1, 1) := by decide +kernel
theorem dX10_largestTransfer_18 : decode cX10_largestTransfer 18 = .ok (.goto 4, 3) := by decide +kernel
theorem dX10_largestTransfer_21 : decode cX10_largestTransfer 21 = .ok (.iconst 0, 1) := by decide +kernel
theorem dX10_largestTransfer_22 : decode cX10_largestTransfer 22 = .ok (.iconst 1, 1) := by decide +kernel
theorem dX10_largestTransfer_23 : decode cX10_largestTransfer 23 = .ok (.invokevirtual 113, 3) := by decide +kernel
theorem dX10_largestTransfer_26 : decode cX10_largestTransfer 26 = .ok (.ifCond .ne 21, 3) := by decide +kernel
theorem dX10_largestTransfer_29 : decode cX10_largestTransfer 29 = .ok (.aload_n 0, 1) := by decide +kernel
theorem dX10_largestTransfer_30 : decode cX10_largestTransfer 30 = .ok (.iload_n 1, 1) := by decide +kernel
theorem dX10_largestTransfer_31 : decode cX10_largestTransfer 31 = .ok (.iload_n 2, 1) := by decide +kernel
theorem dX10_largestTransfer_32 : decode cX10_largestTransfer 32 = .ok (.if_icmp .eq 7, 3) := by decide +kernel
theorem dX10_largestTransfer_35 : decode cX10_largestTransfer 35 = .ok (.iconst 1, 1) := by decide +kernel
theorem dX10_largestTransfer_36 : decode cX10_largestTransfer 36 = .ok (.goto 4, 3) := by decide +kernel
theorem dX10_largestTransfer_39 : decode cX10_largestTransfer 39 = .ok (.iconst 0, 1) := by decide +kernel
theorem dX10_largestTransfer_40 : decode cX10_largestTransfer 40 = .ok (.iconst 2, 1) := by decide +kernel
theorem dX10_largestTransfer_41 : decode cX10_largestTransfer 41 = .ok (.invokevirtual 113, 3) := by decide +kernel
theorem dX10_largestTransfer_44 : decode cX10_largestTransfer 44 = .ok (.ifCond .eq 5, 3) := by decide +kernel
theorem dX10_largestTransfer_47 : decode cX10_largestTransfer 47 = .ok (.iconst 0, 1) := by decide +kernel
theorem dX10_largestTransfer_48 : decode cX10_largestTransfer 48 = .ok (.ireturn, 1) := by decide +kernel
theorem dX10_largestTransfer_49 : decode cX10_largestTransfer 49 = .ok (.iconst 0, 1) := by decide +kernel
theorem dX10_largestTransfer_50 : decode cX10_largestTransfer 50 = .ok (.aload_n 0, 1) := by decide +kernel
theorem dX10_largestTransfer_51 : decode cX10_largestTransfer 51 = .ok (.iload_n 1, 1) := by decide +kernel
theorem dX10_largestTransfer_52 : decode cX10_largestTransfer 52 = .ok (.invokevirtual 92, 3) := by decide +kernel
theorem dX10_largestTransfer_55 : decode cX10_largestTransfer 55 = .ok (.aload_n 0, 1) := by decide +kernel
theorem dX10_largestTransfer_56 : decode cX10_largestTransfer 56 = .ok (.iload_n 2, 1) := by decide +kernel
theorem dX10_largestTransfer_57 : decode cX10_largestTransfer 57 = .ok (.invokevirtual 95, 3) := by decide +kernel
theorem dX10_largestTransfer_60 : decode cX10_largestTransfer 60 = .ok (.invokestatic 189, 3) := by decide +kernel
theorem dX10_largestTransfer_63 : decode cX10_largestTransfer 63 = .ok (.invokestatic 287, 3) := by decide +kernel
theorem dX10_largestTransfer_66 : decode cX10_largestTransfer 66 = .ok (.ireturn, 1) := by decide +kernel
theorem dX10_poolOf_0 : decode cX10_poolOf 0 = .ok (.aload_n 0, 1) := by decide +kernel
theorem dX10_poolOf_1 : decode cX10_poolOf 1 = .ok (.aload_n 0, 1) := by decide +kernel
theorem dX10_poolOf_2 : decode cX10_poolOf 2 = .ok (.iload_n 1, 1) := by decide +kernel
theorem dX10_poolOf_3 : decode cX10_poolOf 3 = .ok (.invokevirtual 121, 3) := by decide +kernel
theorem dX10_poolOf_6 : decode cX10_poolOf 6 = .ok (.iconst 1, 1) := by decide +kernel
theorem dX10_poolOf_7 : decode cX10_poolOf 7 = .ok (.invokevirtual 113, 3) := by decide +kernel
theorem dX10_poolOf_10 : decode cX10_poolOf 10 = .ok (.ifCond .eq 7, 3) := by decide +kernel
theorem dX10_poolOf_13 : decode cX10_poolOf 13 = .ok (.iconst 0, 1) := by decide +kernel
theorem dX10_poolOf_14 : decode cX10_poolOf 14 = .ok (.goto 12, 3) := by decide +kernel
theorem dX10_poolOf_17 : decode cX10_poolOf 17 = .ok (.aload_n 0, 1) := by decide +kernel
theorem dX10_poolOf_18 : decode cX10_poolOf 18 = .ok (.getfield 9, 3) := by decide +kernel
theorem dX10_poolOf_21 : decode cX10_poolOf 21 = .ok (.bipush 7, 2) := by decide +kernel
theorem dX10_poolOf_23 : decode cX10_poolOf 23 = .ok (.iload_n 1, 1) := by decide +kernel
theorem dX10_poolOf_24 : decode cX10_poolOf 24 = .ok (.iadd, 1) := by decide +kernel
theorem dX10_poolOf_25 : decode cX10_poolOf 25 = .ok (.iaload, 1) := by decide +kernel
theorem dX10_poolOf_26 : decode cX10_poolOf 26 = .ok (.ireturn, 1) := by decide +kernel
theorem dX10_since_0 : decode cX10_since 0 = .ok (.aload_n 0, 1) := by decide +kernel
theorem dX10_since_1 : decode cX10_since 1 = .ok (.aload_n 0, 1) := by decide +kernel
theorem dX10_since_2 : decode cX10_since 2 = .ok (.iload_n 1, 1) := by decide +kernel
theorem dX10_since_3 : decode cX10_since 3 = .ok (.invokevirtual 121, 3) := by decide +kernel
theorem dX10_since_6 : decode cX10_since 6 = .ok (.iconst 1, 1) := by decide +kernel
theorem dX10_since_7 : decode cX10_since 7 = .ok (.invokevirtual 113, 3) := by decide +kernel
theorem dX10_since_10 : decode cX10_since 10 = .ok (.ifCond .eq 7, 3) := by decide +kernel
theorem dX10_since_13 : decode cX10_since 13 = .ok (.iconst 0, 1) := by decide +kernel
theorem dX10_since_14 : decode cX10_since 14 = .ok (.goto 13, 3) := by decide +kernel
theorem dX10_since_17 : decode cX10_since 17 = .ok (.aload_n 0, 1) := by decide +kernel
theorem dX10_since_18 : decode cX10_since 18 = .ok (.getfield 9, 3) := by decide +kernel
theorem dX10_since_21 : decode cX10_since 21 = .ok (.sipush 207, 3) := by decide +kernel
theorem dX10_since_24 : decode cX10_since 24 = .ok (.iload_n 1, 1) := by decide +kernel
theorem dX10_since_25 : decode cX10_since 25 = .ok (.iadd, 1) := by decide +kernel
theorem dX10_since_26 : decode cX10_since 26 = .ok (.iaload, 1) := by decide +kernel
theorem dX10_since_27 : decode cX10_since 27 = .ok (.ireturn, 1) := by decide +kernel
theorem dX10_blockAt_0 : decode cX10_blockAt 0 = .ok (.aload_n 0, 1) := by decide +kernel
theorem dX10_blockAt_1 : decode cX10_blockAt 1 = .ok (.aload_n 0, 1) := by decide +kernel
theorem dX10_blockAt_2 : decode cX10_blockAt 2 = .ok (.iload_n 1, 1) := by decide +kernel
theorem dX10_blockAt_3 : decode cX10_blockAt 3 = .ok (.invokevirtual 109, 3) := by decide +kernel
theorem dX10_blockAt_6 : decode cX10_blockAt 6 = .ok (.iconst 1, 1) := by decide +kernel
theorem dX10_blockAt_7 : decode cX10_blockAt 7 = .ok (.invokevirtual 113, 3) := by decide +kernel
theorem dX10_blockAt_10 : decode cX10_blockAt 10 = .ok (.ifCond .eq 5, 3) := by decide +kernel
theorem dX10_blockAt_13 : decode cX10_blockAt 13 = .ok (.iconst 0, 1) := by decide +kernel
theorem dX10_blockAt_14 : decode cX10_blockAt 14 = .ok (.ireturn, 1) := by decide +kernel
theorem dX10_blockAt_15 : decode cX10_blockAt 15 = .ok (.iload_n 2, 1) := by decide +kernel
theorem dX10_blockAt_16 : decode cX10_blockAt 16 = .ok (.istore_n 3, 1) := by decide +kernel
theorem dX10_blockAt_17 : decode cX10_blockAt 17 = .ok (.iconst 0, 1) := by decide +kernel
theorem dX10_blockAt_18 : decode cX10_blockAt 18 = .ok (.istore 4, 2) := by decide +kernel
theorem dX10_blockAt_20 : decode cX10_blockAt 20 = .ok (.iload_n 2, 1) := by decide +kernel
theorem dX10_blockAt_21 : decode cX10_blockAt 21 = .ok (.ifCond .lt 43, 3) := by decide +kernel
theorem dX10_blockAt_24 : decode cX10_blockAt 24 = .ok (.iload 4, 2) := by decide +kernel
theorem dX10_blockAt_26 : decode cX10_blockAt 26 = .ok (.aload_n 0, 1) := by decide +kernel
theorem dX10_blockAt_27 : decode cX10_blockAt 27 = .ok (.getfield 9, 3) := by decide +kernel
theorem dX10_blockAt_30 : decode cX10_blockAt 30 = .ok (.iconst 0, 1) := by decide +kernel
theorem dX10_blockAt_31 : decode cX10_blockAt 31 = .ok (.iaload, 1) := by decide +kernel
theorem dX10_blockAt_32 : decode cX10_blockAt 32 = .ok (.if_icmp .ge 32, 3) := by decide +kernel
theorem dX10_blockAt_35 : decode cX10_blockAt 35 = .ok (.aload_n 0, 1) := by decide +kernel
theorem dX10_blockAt_36 : decode cX10_blockAt 36 = .ok (.iload 4, 2) := by decide +kernel
theorem dX10_blockAt_38 : decode cX10_blockAt 38 = .ok (.iload_n 1, 1) := by decide +kernel
theorem dX10_blockAt_39 : decode cX10_blockAt 39 = .ok (.invokevirtual 72, 3) := by decide +kernel
theorem dX10_blockAt_42 : decode cX10_blockAt 42 = .ok (.ifCond .ne 6, 3) := by decide +kernel
theorem dX10_blockAt_45 : decode cX10_blockAt 45 = .ok (.goto 13, 3) := by decide +kernel
theorem dX10_blockAt_48 : decode cX10_blockAt 48 = .ok (.iload_n 3, 1) := by decide +kernel
theorem dX10_blockAt_49 : decode cX10_blockAt 49 = .ok (.ifCond .ne 6, 3) := by decide +kernel
theorem dX10_blockAt_52 : decode cX10_blockAt 52 = .ok (.iload 4, 2) := by decide +kernel
theorem dX10_blockAt_54 : decode cX10_blockAt 54 = .ok (.ireturn, 1) := by decide +kernel
theorem dX10_blockAt_55 : decode cX10_blockAt 55 = .ok (.iinc 3 (-1), 3) := by decide +kernel
theorem dX10_blockAt_58 : decode cX10_blockAt 58 = .ok (.iinc 4 1, 3) := by decide +kernel
theorem dX10_blockAt_61 : decode cX10_blockAt 61 = .ok (.goto (-41), 3) := by decide +kernel
theorem dX10_blockAt_64 : decode cX10_blockAt 64 = .ok (.iconst (-1), 1) := by decide +kernel
theorem dX10_blockAt_65 : decode cX10_blockAt 65 = .ok (.ireturn, 1) := by decide +kernel
theorem dX10_wouldPick_0 : decode cX10_wouldPick 0 = .ok (.aload_n 0, 1) := by decide +kernel
theorem dX10_wouldPick_1 : decode cX10_wouldPick 1 = .ok (.aload_n 0, 1) := by decide +kernel
theorem dX10_wouldPick_2 : decode cX10_wouldPick 2 = .ok (.iload_n 1, 1) := by decide +kernel
theorem dX10_wouldPick_3 : decode cX10_wouldPick 3 = .ok (.invokevirtual 109, 3) := by decide +kernel
theorem dX10_wouldPick_6 : decode cX10_wouldPick 6 = .ok (.iconst 1, 1) := by decide +kernel
theorem dX10_wouldPick_7 : decode cX10_wouldPick 7 = .ok (.invokevirtual 113, 3) := by decide +kernel
theorem dX10_wouldPick_10 : decode cX10_wouldPick 10 = .ok (.ifCond .ne 19, 3) := by decide +kernel
theorem dX10_wouldPick_13 : decode cX10_wouldPick 13 = .ok (.aload_n 0, 1) := by decide +kernel
theorem dX10_wouldPick_14 : decode cX10_wouldPick 14 = .ok (.iload_n 2, 1) := by decide +kernel
theorem dX10_wouldPick_15 : decode cX10_wouldPick 15 = .ok (.iconst 1, 1) := by decide +kernel
theorem dX10_wouldPick_16 : decode cX10_wouldPick 16 = .ok (.sipush 200, 3) := by decide +kernel
theorem dX10_wouldPick_19 : decode cX10_wouldPick 19 = .ok (.invokestatic 54, 3) := by decide +kernel
theorem dX10_wouldPick_22 : decode cX10_wouldPick 22 = .ok (.iconst 2, 1) := by decide +kernel
theorem dX10_wouldPick_23 : decode cX10_wouldPick 23 = .ok (.invokevirtual 113, 3) := by decide +kernel
theorem dX10_wouldPick_26 : decode cX10_wouldPick 26 = .ok (.ifCond .eq 5, 3) := by decide +kernel
theorem dX10_wouldPick_29 : decode cX10_wouldPick 29 = .ok (.iconst 0, 1) := by decide +kernel
theorem dX10_wouldPick_30 : decode cX10_wouldPick 30 = .ok (.ireturn, 1) := by decide +kernel
theorem dX10_wouldPick_31 : decode cX10_wouldPick 31 = .ok (.aload_n 0, 1) := by decide +kernel
theorem dX10_wouldPick_32 : decode cX10_wouldPick 32 = .ok (.iload_n 1, 1) := by decide +kernel
theorem dX10_wouldPick_33 : decode cX10_wouldPick 33 = .ok (.invokevirtual 62, 3) := by decide +kernel
theorem dX10_wouldPick_36 : decode cX10_wouldPick 36 = .ok (.iload_n 2, 1) := by decide +kernel
theorem dX10_wouldPick_37 : decode cX10_wouldPick 37 = .ok (.if_icmp .lt 7, 3) := by decide +kernel
theorem dX10_wouldPick_40 : decode cX10_wouldPick 40 = .ok (.iload_n 3, 1) := by decide +kernel
theorem dX10_wouldPick_41 : decode cX10_wouldPick 41 = .ok (.ifCond .ge 5, 3) := by decide +kernel
theorem dX10_wouldPick_44 : decode cX10_wouldPick 44 = .ok (.iconst (-1), 1) := by decide +kernel
theorem dX10_wouldPick_45 : decode cX10_wouldPick 45 = .ok (.ireturn, 1) := by decide +kernel
theorem dX10_wouldPick_46 : decode cX10_wouldPick 46 = .ok (.aload_n 0, 1) := by decide +kernel
theorem dX10_wouldPick_47 : decode cX10_wouldPick 47 = .ok (.iload_n 1, 1) := by decide +kernel
theorem dX10_wouldPick_48 : decode cX10_wouldPick 48 = .ok (.iload_n 2, 1) := by decide +kernel
theorem dX10_wouldPick_49 : decode cX10_wouldPick 49 = .ok (.aload_n 0, 1) := by decide +kernel
theorem dX10_wouldPick_50 : decode cX10_wouldPick 50 = .ok (.getfield 9, 3) := by decide +kernel
theorem dX10_wouldPick_53 : decode cX10_wouldPick 53 = .ok (.iconst 3, 1) := by decide +kernel
theorem dX10_wouldPick_54 : decode cX10_wouldPick 54 = .ok (.iaload, 1) := by decide +kernel
theorem dX10_wouldPick_55 : decode cX10_wouldPick 55 = .ok (.invokevirtual 102, 3) := by decide +kernel
theorem dX10_wouldPick_58 : decode cX10_wouldPick 58 = .ok (.iload_n 3, 1) := by decide +kernel
theorem dX10_wouldPick_59 : decode cX10_wouldPick 59 = .ok (.istore 4, 2) := by decide +kernel
theorem dX10_wouldPick_61 : decode cX10_wouldPick 61 = .ok (.iconst 0, 1) := by decide +kernel
theorem dX10_wouldPick_62 : decode cX10_wouldPick 62 = .ok (.istore 5, 2) := by decide +kernel
theorem dX10_wouldPick_64 : decode cX10_wouldPick 64 = .ok (.iload 5, 2) := by decide +kernel
theorem dX10_wouldPick_66 : decode cX10_wouldPick 66 = .ok (.sipush 200, 3) := by decide +kernel
theorem dX10_wouldPick_69 : decode cX10_wouldPick 69 = .ok (.if_icmp .ge 47, 3) := by decide +kernel
theorem dX10_wouldPick_72 : decode cX10_wouldPick 72 = .ok (.aload_n 0, 1) := by decide +kernel
theorem dX10_wouldPick_73 : decode cX10_wouldPick 73 = .ok (.getfield 36, 3) := by decide +kernel
theorem dX10_wouldPick_76 : decode cX10_wouldPick 76 = .ok (.iload 5, 2) := by decide +kernel
theorem dX10_wouldPick_78 : decode cX10_wouldPick 78 = .ok (.baload, 1) := by decide +kernel
theorem dX10_wouldPick_79 : decode cX10_wouldPick 79 = .ok (.ifCond .eq 11, 3) := by decide +kernel
theorem dX10_wouldPick_82 : decode cX10_wouldPick 82 = .ok (.iload 4, 2) := by decide +kernel
theorem dX10_wouldPick_84 : decode cX10_wouldPick 84 = .ok (.ifCond .ne 6, 3) := by decide +kernel
theorem dX10_wouldPick_87 : decode cX10_wouldPick 87 = .ok (.iload 5, 2) := by decide +kernel
theorem dX10_wouldPick_89 : decode cX10_wouldPick 89 = .ok (.ireturn, 1) := by decide +kernel
theorem dX10_wouldPick_90 : decode cX10_wouldPick 90 = .ok (.iload 4, 2) := by decide +kernel
theorem dX10_wouldPick_92 : decode cX10_wouldPick 92 = .ok (.aload_n 0, 1) := by decide +kernel
theorem dX10_wouldPick_93 : decode cX10_wouldPick 93 = .ok (.getfield 36, 3) := by decide +kernel
theorem dX10_wouldPick_96 : decode cX10_wouldPick 96 = .ok (.iload 5, 2) := by decide +kernel
theorem dX10_wouldPick_98 : decode cX10_wouldPick 98 = .ok (.baload, 1) := by decide +kernel
theorem dX10_wouldPick_99 : decode cX10_wouldPick 99 = .ok (.ifCond .eq 7, 3) := by decide +kernel
theorem dX10_wouldPick_102 : decode cX10_wouldPick 102 = .ok (.iconst 1, 1) := by decide +kernel
theorem dX10_wouldPick_103 : decode cX10_wouldPick 103 = .ok (.goto 4, 3) := by decide +kernel
theorem dX10_wouldPick_106 : decode cX10_wouldPick 106 = .ok (.iconst 0, 1) := by decide +kernel
theorem dX10_wouldPick_107 : decode cX10_wouldPick 107 = .ok (.isub, 1) := by decide +kernel
theorem dX10_wouldPick_108 : decode cX10_wouldPick 108 = .ok (.istore 4, 2) := by decide +kernel
theorem dX10_wouldPick_110 : decode cX10_wouldPick 110 = .ok (.iinc 5 1, 3) := by decide +kernel
theorem dX10_wouldPick_113 : decode cX10_wouldPick 113 = .ok (.goto (-49), 3) := by decide +kernel
theorem dX10_wouldPick_116 : decode cX10_wouldPick 116 = .ok (.iconst (-1), 1) := by decide +kernel
theorem dX10_wouldPick_117 : decode cX10_wouldPick 117 = .ok (.ireturn, 1) := by decide +kernel
theorem dX10_runCount_0 : decode cX10_runCount 0 = .ok (.aload_n 0, 1) := by decide +kernel
theorem dX10_runCount_1 : decode cX10_runCount 1 = .ok (.aload_n 0, 1) := by decide +kernel
theorem dX10_runCount_2 : decode cX10_runCount 2 = .ok (.iload_n 1, 1) := by decide +kernel
theorem dX10_runCount_3 : decode cX10_runCount 3 = .ok (.invokevirtual 109, 3) := by decide +kernel
theorem dX10_runCount_6 : decode cX10_runCount 6 = .ok (.iconst 1, 1) := by decide +kernel
theorem dX10_runCount_7 : decode cX10_runCount 7 = .ok (.invokevirtual 113, 3) := by decide +kernel
theorem dX10_runCount_10 : decode cX10_runCount 10 = .ok (.ifCond .eq 5, 3) := by decide +kernel
theorem dX10_runCount_13 : decode cX10_runCount 13 = .ok (.iconst 0, 1) := by decide +kernel
theorem dX10_runCount_14 : decode cX10_runCount 14 = .ok (.ireturn, 1) := by decide +kernel
theorem dX10_runCount_15 : decode cX10_runCount 15 = .ok (.iconst 0, 1) := by decide +kernel
theorem dX10_runCount_16 : decode cX10_runCount 16 = .ok (.istore_n 2, 1) := by decide +kernel
theorem dX10_runCount_17 : decode cX10_runCount 17 = .ok (.iconst 0, 1) := by decide +kernel
theorem dX10_runCount_18 : decode cX10_runCount 18 = .ok (.istore_n 3, 1) := by decide +kernel
theorem dX10_runCount_19 : decode cX10_runCount 19 = .ok (.iload_n 3, 1) := by decide +kernel
theorem dX10_runCount_20 : decode cX10_runCount 20 = .ok (.aload_n 0, 1) := by decide +kernel
theorem dX10_runCount_21 : decode cX10_runCount 21 = .ok (.getfield 9, 3) := by decide +kernel
theorem dX10_runCount_24 : decode cX10_runCount 24 = .ok (.iconst 0, 1) := by decide +kernel
theorem dX10_runCount_25 : decode cX10_runCount 25 = .ok (.iaload, 1) := by decide +kernel
theorem dX10_runCount_26 : decode cX10_runCount 26 = .ok (.if_icmp .ge 41, 3) := by decide +kernel
theorem dX10_runCount_29 : decode cX10_runCount 29 = .ok (.iload_n 2, 1) := by decide +kernel
theorem dX10_runCount_30 : decode cX10_runCount 30 = .ok (.aload_n 0, 1) := by decide +kernel
theorem dX10_runCount_31 : decode cX10_runCount 31 = .ok (.iload_n 3, 1) := by decide +kernel
theorem dX10_runCount_32 : decode cX10_runCount 32 = .ok (.iload_n 1, 1) := by decide +kernel
theorem dX10_runCount_33 : decode cX10_runCount 33 = .ok (.invokevirtual 72, 3) := by decide +kernel
theorem dX10_runCount_36 : decode cX10_runCount 36 = .ok (.ifCond .eq 22, 3) := by decide +kernel
theorem dX10_runCount_39 : decode cX10_runCount 39 = .ok (.iload_n 3, 1) := by decide +kernel
theorem dX10_runCount_40 : decode cX10_runCount 40 = .ok (.ifCond .eq 14, 3) := by decide +kernel
theorem dX10_runCount_43 : decode cX10_runCount 43 = .ok (.aload_n 0, 1) := by decide +kernel
theorem dX10_runCount_44 : decode cX10_runCount 44 = .ok (.iload_n 3, 1) := by decide +kernel
theorem dX10_runCount_45 : decode cX10_runCount 45 = .ok (.iconst 1, 1) := by decide +kernel
theorem dX10_runCount_46 : decode cX10_runCount 46 = .ok (.isub, 1) := by decide +kernel
theorem dX10_runCount_47 : decode cX10_runCount 47 = .ok (.iload_n 1, 1) := by decide +kernel
theorem dX10_runCount_48 : decode cX10_runCount 48 = .ok (.invokevirtual 72, 3) := by decide +kernel
theorem dX10_runCount_51 : decode cX10_runCount 51 = .ok (.ifCond .ne 7, 3) := by decide +kernel
theorem dX10_runCount_54 : decode cX10_runCount 54 = .ok (.iconst 1, 1) := by decide +kernel
theorem dX10_runCount_55 : decode cX10_runCount 55 = .ok (.goto 4, 3) := by decide +kernel
theorem dX10_runCount_58 : decode cX10_runCount 58 = .ok (.iconst 0, 1) := by decide +kernel
theorem dX10_runCount_59 : decode cX10_runCount 59 = .ok (.iadd, 1) := by decide +kernel
theorem dX10_runCount_60 : decode cX10_runCount 60 = .ok (.istore_n 2, 1) := by decide +kernel
theorem dX10_runCount_61 : decode cX10_runCount 61 = .ok (.iinc 3 1, 3) := by decide +kernel
theorem dX10_runCount_64 : decode cX10_runCount 64 = .ok (.goto (-45), 3) := by decide +kernel
theorem dX10_runCount_67 : decode cX10_runCount 67 = .ok (.iload_n 2, 1) := by decide +kernel
theorem dX10_runCount_68 : decode cX10_runCount 68 = .ok (.ireturn, 1) := by decide +kernel
theorem dX10_longestOf_0 : decode cX10_longestOf 0 = .ok (.iconst 0, 1) := by decide +kernel
theorem dX10_longestOf_1 : decode cX10_longestOf 1 = .ok (.istore_n 2, 1) := by decide +kernel
theorem dX10_longestOf_2 : decode cX10_longestOf 2 = .ok (.iconst 0, 1) := by decide +kernel
theorem dX10_longestOf_3 : decode cX10_longestOf 3 = .ok (.istore_n 3, 1) := by decide +kernel
theorem dX10_longestOf_4 : decode cX10_longestOf 4 = .ok (.iconst 0, 1) := by decide +kernel
theorem dX10_longestOf_5 : decode cX10_longestOf 5 = .ok (.istore 4, 2) := by decide +kernel
theorem dX10_longestOf_7 : decode cX10_longestOf 7 = .ok (.iload 4, 2) := by decide +kernel
theorem dX10_longestOf_9 : decode cX10_longestOf 9 = .ok (.aload_n 0, 1) := by decide +kernel
theorem dX10_longestOf_10 : decode cX10_longestOf 10 = .ok (.getfield 9, 3) := by decide +kernel
theorem dX10_longestOf_13 : decode cX10_longestOf 13 = .ok (.iconst 0, 1) := by decide +kernel
theorem dX10_longestOf_14 : decode cX10_longestOf 14 = .ok (.iaload, 1) := by decide +kernel
theorem dX10_longestOf_15 : decode cX10_longestOf 15 = .ok (.if_icmp .ge 33, 3) := by decide +kernel
theorem dX10_longestOf_18 : decode cX10_longestOf 18 = .ok (.aload_n 0, 1) := by decide +kernel
theorem dX10_longestOf_19 : decode cX10_longestOf 19 = .ok (.iload 4, 2) := by decide +kernel
theorem dX10_longestOf_21 : decode cX10_longestOf 21 = .ok (.iload_n 1, 1) := by decide +kernel
theorem dX10_longestOf_22 : decode cX10_longestOf 22 = .ok (.invokevirtual 72, 3) := by decide +kernel
theorem dX10_longestOf_25 : decode cX10_longestOf 25 = .ok (.ifCond .eq 9, 3) := by decide +kernel
theorem dX10_longestOf_28 : decode cX10_longestOf 28 = .ok (.iload_n 3, 1) := by decide +kernel
theorem dX10_longestOf_29 : decode cX10_longestOf 29 = .ok (.iconst 1, 1) := by decide +kernel
theorem dX10_longestOf_30 : decode cX10_longestOf 30 = .ok (.iadd, 1) := by decide +kernel
theorem dX10_longestOf_31 : decode cX10_longestOf 31 = .ok (.goto 4, 3) := by decide +kernel
theorem dX10_longestOf_34 : decode cX10_longestOf 34 = .ok (.iconst 0, 1) := by decide +kernel
theorem dX10_longestOf_35 : decode cX10_longestOf 35 = .ok (.istore_n 3, 1) := by decide +kernel
theorem dX10_longestOf_36 : decode cX10_longestOf 36 = .ok (.iload_n 2, 1) := by decide +kernel
theorem dX10_longestOf_37 : decode cX10_longestOf 37 = .ok (.iload_n 3, 1) := by decide +kernel
theorem dX10_longestOf_38 : decode cX10_longestOf 38 = .ok (.invokestatic 287, 3) := by decide +kernel
theorem dX10_longestOf_41 : decode cX10_longestOf 41 = .ok (.istore_n 2, 1) := by decide +kernel
theorem dX10_longestOf_42 : decode cX10_longestOf 42 = .ok (.iinc 4 1, 3) := by decide +kernel
theorem dX10_longestOf_45 : decode cX10_longestOf 45 = .ok (.goto (-38), 3) := by decide +kernel
theorem dX10_longestOf_48 : decode cX10_longestOf 48 = .ok (.iload_n 2, 1) := by decide +kernel
theorem dX10_longestOf_49 : decode cX10_longestOf 49 = .ok (.ireturn, 1) := by decide +kernel
theorem dX10_longestRun_0 : decode cX10_longestRun 0 = .ok (.aload_n 0, 1) := by decide +kernel
theorem dX10_longestRun_1 : decode cX10_longestRun 1 = .ok (.aload_n 0, 1) := by decide +kernel
theorem dX10_longestRun_2 : decode cX10_longestRun 2 = .ok (.iload_n 1, 1) := by decide +kernel
theorem dX10_longestRun_3 : decode cX10_longestRun 3 = .ok (.invokevirtual 109, 3) := by decide +kernel
theorem dX10_longestRun_6 : decode cX10_longestRun 6 = .ok (.iconst 1, 1) := by decide +kernel
theorem dX10_longestRun_7 : decode cX10_longestRun 7 = .ok (.invokevirtual 113, 3) := by decide +kernel
theorem dX10_longestRun_10 : decode cX10_longestRun 10 = .ok (.ifCond .eq 7, 3) := by decide +kernel
theorem dX10_longestRun_13 : decode cX10_longestRun 13 = .ok (.iconst 0, 1) := by decide +kernel
theorem dX10_longestRun_14 : decode cX10_longestRun 14 = .ok (.goto 8, 3) := by decide +kernel
theorem dX10_longestRun_17 : decode cX10_longestRun 17 = .ok (.aload_n 0, 1) := by decide +kernel
theorem dX10_longestRun_18 : decode cX10_longestRun 18 = .ok (.iload_n 1, 1) := by decide +kernel
theorem dX10_longestRun_19 : decode cX10_longestRun 19 = .ok (.invokevirtual 290, 3) := by decide +kernel
theorem dX10_longestRun_22 : decode cX10_longestRun 22 = .ok (.ireturn, 1) := by decide +kernel
theorem dX10_fragmentation_0 : decode cX10_fragmentation 0 = .ok (.aload_n 0, 1) := by decide +kernel
theorem dX10_fragmentation_1 : decode cX10_fragmentation 1 = .ok (.aload_n 0, 1) := by decide +kernel
theorem dX10_fragmentation_2 : decode cX10_fragmentation 2 = .ok (.iload_n 1, 1) := by decide +kernel
theorem dX10_fragmentation_3 : decode cX10_fragmentation 3 = .ok (.invokevirtual 109, 3) := by decide +kernel
theorem dX10_fragmentation_6 : decode cX10_fragmentation 6 = .ok (.iconst 1, 1) := by decide +kernel
theorem dX10_fragmentation_7 : decode cX10_fragmentation 7 = .ok (.invokevirtual 113, 3) := by decide +kernel
theorem dX10_fragmentation_10 : decode cX10_fragmentation 10 = .ok (.ifCond .ne 11, 3) := by decide +kernel
theorem dX10_fragmentation_13 : decode cX10_fragmentation 13 = .ok (.aload_n 0, 1) := by decide +kernel
theorem dX10_fragmentation_14 : decode cX10_fragmentation 14 = .ok (.iload_n 1, 1) := by decide +kernel
theorem dX10_fragmentation_15 : decode cX10_fragmentation 15 = .ok (.invokevirtual 62, 3) := by decide +kernel
theorem dX10_fragmentation_18 : decode cX10_fragmentation 18 = .ok (.ifCond .ne 5, 3) := by decide +kernel
theorem dX10_fragmentation_21 : decode cX10_fragmentation 21 = .ok (.fconst 0, 1) := by decide +kernel
theorem dX10_fragmentation_22 : decode cX10_fragmentation 22 = .ok (.freturn, 1) := by decide +kernel
theorem dX10_fragmentation_23 : decode cX10_fragmentation 23 = .ok (.fconst 1, 1) := by decide +kernel
theorem dX10_fragmentation_24 : decode cX10_fragmentation 24 = .ok (.aload_n 0, 1) := by decide +kernel
theorem dX10_fragmentation_25 : decode cX10_fragmentation 25 = .ok (.iload_n 1, 1) := by decide +kernel
theorem dX10_fragmentation_26 : decode cX10_fragmentation 26 = .ok (.invokevirtual 290, 3) := by decide +kernel
theorem dX10_fragmentation_29 : decode cX10_fragmentation 29 = .ok (.i2f, 1) := by decide +kernel
theorem dX10_fragmentation_30 : decode cX10_fragmentation 30 = .ok (.aload_n 0, 1) := by decide +kernel
theorem dX10_fragmentation_31 : decode cX10_fragmentation 31 = .ok (.iload_n 1, 1) := by decide +kernel
theorem dX10_fragmentation_32 : decode cX10_fragmentation 32 = .ok (.invokevirtual 62, 3) := by decide +kernel
theorem dX10_fragmentation_35 : decode cX10_fragmentation 35 = .ok (.i2f, 1) := by decide +kernel
theorem dX10_fragmentation_36 : decode cX10_fragmentation 36 = .ok (.fdiv, 1) := by decide +kernel
theorem dX10_fragmentation_37 : decode cX10_fragmentation 37 = .ok (.fsub, 1) := by decide +kernel
theorem dX10_fragmentation_38 : decode cX10_fragmentation 38 = .ok (.freturn, 1) := by decide +kernel
theorem dX10_exchanges_0 : decode cX10_exchanges 0 = .ok (.aload_n 0, 1) := by decide +kernel
theorem dX10_exchanges_1 : decode cX10_exchanges 1 = .ok (.getfield 9, 3) := by decide +kernel
theorem dX10_exchanges_4 : decode cX10_exchanges 4 = .ok (.iload_n 1, 1) := by decide +kernel
theorem dX10_exchanges_5 : decode cX10_exchanges 5 = .ok (.iload_n 2, 1) := by decide +kernel
theorem dX10_exchanges_6 : decode cX10_exchanges 6 = .ok (.iadd, 1) := by decide +kernel
theorem dX10_exchanges_7 : decode cX10_exchanges 7 = .ok (.iaload, 1) := by decide +kernel
theorem dX10_exchanges_8 : decode cX10_exchanges 8 = .ok (.istore 4, 2) := by decide +kernel
theorem dX10_exchanges_10 : decode cX10_exchanges 10 = .ok (.aload_n 0, 1) := by decide +kernel
theorem dX10_exchanges_11 : decode cX10_exchanges 11 = .ok (.getfield 9, 3) := by decide +kernel
theorem dX10_exchanges_14 : decode cX10_exchanges 14 = .ok (.iload_n 1, 1) := by decide +kernel
theorem dX10_exchanges_15 : decode cX10_exchanges 15 = .ok (.iload_n 2, 1) := by decide +kernel
theorem dX10_exchanges_16 : decode cX10_exchanges 16 = .ok (.iadd, 1) := by decide +kernel
theorem dX10_exchanges_17 : decode cX10_exchanges 17 = .ok (.aload_n 0, 1) := by decide +kernel
theorem dX10_exchanges_18 : decode cX10_exchanges 18 = .ok (.getfield 9, 3) := by decide +kernel
theorem dX10_exchanges_21 : decode cX10_exchanges 21 = .ok (.iload_n 1, 1) := by decide +kernel
theorem dX10_exchanges_22 : decode cX10_exchanges 22 = .ok (.iload_n 3, 1) := by decide +kernel
theorem dX10_exchanges_23 : decode cX10_exchanges 23 = .ok (.iadd, 1) := by decide +kernel
theorem dX10_exchanges_24 : decode cX10_exchanges 24 = .ok (.iaload, 1) := by decide +kernel
theorem dX10_exchanges_25 : decode cX10_exchanges 25 = .ok (.iastore, 1) := by decide +kernel
theorem dX10_exchanges_26 : decode cX10_exchanges 26 = .ok (.aload_n 0, 1) := by decide +kernel
theorem dX10_exchanges_27 : decode cX10_exchanges 27 = .ok (.getfield 9, 3) := by decide +kernel
theorem dX10_exchanges_30 : decode cX10_exchanges 30 = .ok (.iload_n 1, 1) := by decide +kernel
theorem dX10_exchanges_31 : decode cX10_exchanges 31 = .ok (.iload_n 3, 1) := by decide +kernel
theorem dX10_exchanges_32 : decode cX10_exchanges 32 = .ok (.iadd, 1) := by decide +kernel
theorem dX10_exchanges_33 : decode cX10_exchanges 33 = .ok (.iload 4, 2) := by decide +kernel
theorem dX10_exchanges_35 : decode cX10_exchanges 35 = .ok (.iastore, 1) := by decide +kernel
theorem dX10_exchanges_36 : decode cX10_exchanges 36 = .ok (.return_, 1) := by decide +kernel
theorem dX10_swap_0 : decode cX10_swap 0 = .ok (.aload_n 0, 1) := by decide +kernel
theorem dX10_swap_1 : decode cX10_swap 1 = .ok (.aload_n 0, 1) := by decide +kernel
theorem dX10_swap_2 : decode cX10_swap 2 = .ok (.iload_n 1, 1) := by decide +kernel
theorem dX10_swap_3 : decode cX10_swap 3 = .ok (.invokevirtual 121, 3) := by decide +kernel
theorem dX10_swap_6 : decode cX10_swap 6 = .ok (.ifCond .eq 15, 3) := by decide +kernel
theorem dX10_swap_9 : decode cX10_swap 9 = .ok (.aload_n 0, 1) := by decide +kernel
theorem dX10_swap_10 : decode cX10_swap 10 = .ok (.iload_n 2, 1) := by decide +kernel
theorem dX10_swap_11 : decode cX10_swap 11 = .ok (.invokevirtual 121, 3) := by decide +kernel
theorem dX10_swap_14 : decode cX10_swap 14 = .ok (.ifCond .eq 7, 3) := by decide +kernel
theorem dX10_swap_17 : decode cX10_swap 17 = .ok (.iconst 1, 1) := by decide +kernel
theorem dX10_swap_18 : decode cX10_swap 18 = .ok (.goto 4, 3) := by decide +kernel
theorem dX10_swap_21 : decode cX10_swap 21 = .ok (.iconst 0, 1) := by decide +kernel
theorem dX10_swap_22 : decode cX10_swap 22 = .ok (.iconst 1, 1) := by decide +kernel
theorem dX10_swap_23 : decode cX10_swap 23 = .ok (.invokevirtual 113, 3) := by decide +kernel
theorem dX10_swap_26 : decode cX10_swap 26 = .ok (.ifCond .ne 21, 3) := by decide +kernel
theorem dX10_swap_29 : decode cX10_swap 29 = .ok (.aload_n 0, 1) := by decide +kernel
theorem dX10_swap_30 : decode cX10_swap 30 = .ok (.iload_n 1, 1) := by decide +kernel
theorem dX10_swap_31 : decode cX10_swap 31 = .ok (.iload_n 2, 1) := by decide +kernel
theorem dX10_swap_32 : decode cX10_swap 32 = .ok (.if_icmp .eq 7, 3) := by decide +kernel
theorem dX10_swap_35 : decode cX10_swap 35 = .ok (.iconst 1, 1) := by decide +kernel
theorem dX10_swap_36 : decode cX10_swap 36 = .ok (.goto 4, 3) := by decide +kernel
theorem dX10_swap_39 : decode cX10_swap 39 = .ok (.iconst 0, 1) := by decide +kernel
theorem dX10_swap_40 : decode cX10_swap 40 = .ok (.iconst 2, 1) := by decide +kernel
theorem dX10_swap_41 : decode cX10_swap 41 = .ok (.invokevirtual 113, 3) := by decide +kernel
theorem dX10_swap_44 : decode cX10_swap 44 = .ok (.ifCond .eq 5, 3) := by decide +kernel
theorem dX10_swap_47 : decode cX10_swap 47 = .ok (.iconst 0, 1) := by decide +kernel
theorem dX10_swap_48 : decode cX10_swap 48 = .ok (.ireturn, 1) := by decide +kernel
theorem dX10_swap_49 : decode cX10_swap 49 = .ok (.aload_n 0, 1) := by decide +kernel
theorem dX10_swap_50 : decode cX10_swap 50 = .ok (.bipush 7, 2) := by decide +kernel
theorem dX10_swap_52 : decode cX10_swap 52 = .ok (.iload_n 1, 1) := by decide +kernel
theorem dX10_swap_53 : decode cX10_swap 53 = .ok (.iload_n 2, 1) := by decide +kernel
theorem dX10_swap_54 : decode cX10_swap 54 = .ok (.invokevirtual 293, 3) := by decide +kernel
theorem dX10_swap_57 : decode cX10_swap 57 = .ok (.aload_n 0, 1) := by decide +kernel
theorem dX10_swap_58 : decode cX10_swap 58 = .ok (.sipush 207, 3) := by decide +kernel
theorem dX10_swap_61 : decode cX10_swap 61 = .ok (.iload_n 1, 1) := by decide +kernel
theorem dX10_swap_62 : decode cX10_swap 62 = .ok (.iload_n 2, 1) := by decide +kernel
theorem dX10_swap_63 : decode cX10_swap 63 = .ok (.invokevirtual 293, 3) := by decide +kernel
theorem dX10_swap_66 : decode cX10_swap 66 = .ok (.aload_n 0, 1) := by decide +kernel
theorem dX10_swap_67 : decode cX10_swap 67 = .ok (.getfield 9, 3) := by decide +kernel
theorem dX10_swap_70 : decode cX10_swap 70 = .ok (.bipush 7, 2) := by decide +kernel
theorem dX10_swap_72 : decode cX10_swap 72 = .ok (.iload_n 1, 1) := by decide +kernel
theorem dX10_swap_73 : decode cX10_swap 73 = .ok (.iadd, 1) := by decide +kernel
theorem dX10_swap_74 : decode cX10_swap 74 = .ok (.iaload, 1) := by decide +kernel
theorem dX10_swap_75 : decode cX10_swap 75 = .ok (.aload_n 0, 1) := by decide +kernel
theorem dX10_swap_76 : decode cX10_swap 76 = .ok (.getfield 9, 3) := by decide +kernel
theorem dX10_swap_79 : decode cX10_swap 79 = .ok (.bipush 7, 2) := by decide +kernel
theorem dX10_swap_81 : decode cX10_swap 81 = .ok (.iload_n 2, 1) := by decide +kernel
theorem dX10_swap_82 : decode cX10_swap 82 = .ok (.iadd, 1) := by decide +kernel
theorem dX10_swap_83 : decode cX10_swap 83 = .ok (.iaload, 1) := by decide +kernel
theorem dX10_swap_84 : decode cX10_swap 84 = .ok (.if_icmp .eq 7, 3) := by decide +kernel
theorem dX10_swap_87 : decode cX10_swap 87 = .ok (.iconst 1, 1) := by decide +kernel
theorem dX10_swap_88 : decode cX10_swap 88 = .ok (.goto 4, 3) := by decide +kernel
theorem dX10_swap_91 : decode cX10_swap 91 = .ok (.iconst 0, 1) := by decide +kernel
theorem dX10_swap_92 : decode cX10_swap 92 = .ok (.ireturn, 1) := by decide +kernel
theorem dX10_bestSwap_0 : decode cX10_bestSwap 0 = .ok (.aload_n 0, 1) := by decide +kernel
theorem dX10_bestSwap_1 : decode cX10_bestSwap 1 = .ok (.aload_n 0, 1) := by decide +kernel
theorem dX10_bestSwap_2 : decode cX10_bestSwap 2 = .ok (.iload_n 1, 1) := by decide +kernel
theorem dX10_bestSwap_3 : decode cX10_bestSwap 3 = .ok (.invokevirtual 109, 3) := by decide +kernel
theorem dX10_bestSwap_6 : decode cX10_bestSwap 6 = .ok (.iconst 1, 1) := by decide +kernel
theorem dX10_bestSwap_7 : decode cX10_bestSwap 7 = .ok (.invokevirtual 113, 3) := by decide +kernel
theorem dX10_bestSwap_10 : decode cX10_bestSwap 10 = .ok (.ifCond .eq 5, 3) := by decide +kernel
theorem dX10_bestSwap_13 : decode cX10_bestSwap 13 = .ok (.iconst 0, 1) := by decide +kernel
theorem dX10_bestSwap_14 : decode cX10_bestSwap 14 = .ok (.ireturn, 1) := by decide +kernel
theorem dX10_bestSwap_15 : decode cX10_bestSwap 15 = .ok (.iconst (-1), 1) := by decide +kernel
theorem dX10_bestSwap_16 : decode cX10_bestSwap 16 = .ok (.istore_n 2, 1) := by decide +kernel
theorem dX10_bestSwap_17 : decode cX10_bestSwap 17 = .ok (.aload_n 0, 1) := by decide +kernel
theorem dX10_bestSwap_18 : decode cX10_bestSwap 18 = .ok (.iload_n 1, 1) := by decide +kernel
theorem dX10_bestSwap_19 : decode cX10_bestSwap 19 = .ok (.invokevirtual 290, 3) := by decide +kernel
theorem dX10_bestSwap_22 : decode cX10_bestSwap 22 = .ok (.istore_n 3, 1) := by decide +kernel
theorem dX10_bestSwap_23 : decode cX10_bestSwap 23 = .ok (.iconst 0, 1) := by decide +kernel
theorem dX10_bestSwap_24 : decode cX10_bestSwap 24 = .ok (.istore 4, 2) := by decide +kernel
theorem dX10_bestSwap_26 : decode cX10_bestSwap 26 = .ok (.iload 4, 2) := by decide +kernel
theorem dX10_bestSwap_28 : decode cX10_bestSwap 28 = .ok (.aload_n 0, 1) := by decide +kernel
theorem dX10_bestSwap_29 : decode cX10_bestSwap 29 = .ok (.getfield 9, 3) := by decide +kernel
theorem dX10_bestSwap_32 : decode cX10_bestSwap 32 = .ok (.iconst 0, 1) := by decide +kernel
theorem dX10_bestSwap_33 : decode cX10_bestSwap 33 = .ok (.iaload, 1) := by decide +kernel
theorem dX10_bestSwap_34 : decode cX10_bestSwap 34 = .ok (.if_icmp .ge 98, 3) := by decide +kernel
theorem dX10_bestSwap_37 : decode cX10_bestSwap 37 = .ok (.iconst 0, 1) := by decide +kernel
theorem dX10_bestSwap_38 : decode cX10_bestSwap 38 = .ok (.istore 5, 2) := by decide +kernel
theorem dX10_bestSwap_40 : decode cX10_bestSwap 40 = .ok (.aload_n 0, 1) := by decide +kernel
theorem dX10_bestSwap_41 : decode cX10_bestSwap 41 = .ok (.iload 4, 2) := by decide +kernel
theorem dX10_bestSwap_43 : decode cX10_bestSwap 43 = .ok (.iload_n 1, 1) := by decide +kernel
theorem dX10_bestSwap_44 : decode cX10_bestSwap 44 = .ok (.invokevirtual 72, 3) := by decide +kernel
theorem dX10_bestSwap_47 : decode cX10_bestSwap 47 = .ok (.ifCond .eq 79, 3) := by decide +kernel
theorem dX10_bestSwap_50 : decode cX10_bestSwap 50 = .ok (.iload 5, 2) := by decide +kernel
theorem dX10_bestSwap_52 : decode cX10_bestSwap 52 = .ok (.aload_n 0, 1) := by decide +kernel
theorem dX10_bestSwap_53 : decode cX10_bestSwap 53 = .ok (.getfield 9, 3) := by decide +kernel
theorem dX10_bestSwap_56 : decode cX10_bestSwap 56 = .ok (.iconst 0, 1) := by decide +kernel
theorem dX10_bestSwap_57 : decode cX10_bestSwap 57 = .ok (.iaload, 1) := by decide +kernel
theorem dX10_bestSwap_58 : decode cX10_bestSwap 58 = .ok (.if_icmp .ge 68, 3) := by decide +kernel
theorem dX10_bestSwap_61 : decode cX10_bestSwap 61 = .ok (.aload_n 0, 1) := by decide +kernel
theorem dX10_bestSwap_62 : decode cX10_bestSwap 62 = .ok (.iload 5, 2) := by decide +kernel
theorem dX10_bestSwap_64 : decode cX10_bestSwap 64 = .ok (.iload_n 1, 1) := by decide +kernel
theorem dX10_bestSwap_65 : decode cX10_bestSwap 65 = .ok (.invokevirtual 72, 3) := by decide +kernel
theorem dX10_bestSwap_68 : decode cX10_bestSwap 68 = .ok (.ifCond .eq 6, 3) := by decide +kernel
theorem dX10_bestSwap_71 : decode cX10_bestSwap 71 = .ok (.goto 49, 3) := by decide +kernel
theorem dX10_bestSwap_74 : decode cX10_bestSwap 74 = .ok (.aload_n 0, 1) := by decide +kernel
theorem dX10_bestSwap_75 : decode cX10_bestSwap 75 = .ok (.bipush 7, 2) := by decide +kernel
theorem dX10_bestSwap_77 : decode cX10_bestSwap 77 = .ok (.iload 4, 2) := by decide +kernel
theorem dX10_bestSwap_79 : decode cX10_bestSwap 79 = .ok (.iload 5, 2) := by decide +kernel
theorem dX10_bestSwap_81 : decode cX10_bestSwap 81 = .ok (.invokevirtual 293, 3) := by decide +kernel
theorem dX10_bestSwap_84 : decode cX10_bestSwap 84 = .ok (.aload_n 0, 1) := by decide +kernel
theorem dX10_bestSwap_85 : decode cX10_bestSwap 85 = .ok (.iload_n 1, 1) := by decide +kernel
theorem dX10_bestSwap_86 : decode cX10_bestSwap 86 = .ok (.invokevirtual 290, 3) := by decide +kernel
theorem dX10_bestSwap_89 : decode cX10_bestSwap 89 = .ok (.istore 6, 2) := by decide +kernel
theorem dX10_bestSwap_91 : decode cX10_bestSwap 91 = .ok (.aload_n 0, 1) := by decide +kernel
theorem dX10_bestSwap_92 : decode cX10_bestSwap 92 = .ok (.bipush 7, 2) := by decide +kernel
theorem dX10_bestSwap_94 : decode cX10_bestSwap 94 = .ok (.iload 4, 2) := by decide +kernel
theorem dX10_bestSwap_96 : decode cX10_bestSwap 96 = .ok (.iload 5, 2) := by decide +kernel
theorem dX10_bestSwap_98 : decode cX10_bestSwap 98 = .ok (.invokevirtual 293, 3) := by decide +kernel
theorem dX10_bestSwap_101 : decode cX10_bestSwap 101 = .ok (.iload 6, 2) := by decide +kernel
theorem dX10_bestSwap_103 : decode cX10_bestSwap 103 = .ok (.iload_n 3, 1) := by decide +kernel
theorem dX10_bestSwap_104 : decode cX10_bestSwap 104 = .ok (.if_icmp .le 16, 3) := by decide +kernel
theorem dX10_bestSwap_107 : decode cX10_bestSwap 107 = .ok (.sipush 1000, 3) := by decide +kernel
theorem dX10_bestSwap_110 : decode cX10_bestSwap 110 = .ok (.iload 4, 2) := by decide +kernel
theorem dX10_bestSwap_112 : decode cX10_bestSwap 112 = .ok (.imul, 1) := by decide +kernel
theorem dX10_bestSwap_113 : decode cX10_bestSwap 113 = .ok (.iload 5, 2) := by decide +kernel
theorem dX10_bestSwap_115 : decode cX10_bestSwap 115 = .ok (.iadd, 1) := by decide +kernel
theorem dX10_bestSwap_116 : decode cX10_bestSwap 116 = .ok (.istore_n 2, 1) := by decide +kernel
theorem dX10_bestSwap_117 : decode cX10_bestSwap 117 = .ok (.iload 6, 2) := by decide +kernel
theorem dX10_bestSwap_119 : decode cX10_bestSwap 119 = .ok (.istore_n 3, 1) := by decide +kernel
theorem dX10_bestSwap_120 : decode cX10_bestSwap 120 = .ok (.iinc 5 1, 3) := by decide +kernel
theorem dX10_bestSwap_123 : decode cX10_bestSwap 123 = .ok (.goto (-83), 3) := by decide +kernel
theorem dX10_bestSwap_126 : decode cX10_bestSwap 126 = .ok (.iinc 4 1, 3) := by decide +kernel
theorem dX10_bestSwap_129 : decode cX10_bestSwap 129 = .ok (.goto (-103), 3) := by decide +kernel
theorem dX10_bestSwap_132 : decode cX10_bestSwap 132 = .ok (.iload_n 2, 1) := by decide +kernel
theorem dX10_bestSwap_133 : decode cX10_bestSwap 133 = .ok (.ireturn, 1) := by decide +kernel
theorem dX10_corrupt_0 : decode cX10_corrupt 0 = .ok (.aload_n 0, 1) := by decide +kernel
theorem dX10_corrupt_1 : decode cX10_corrupt 1 = .ok (.aload_n 0, 1) := by decide +kernel
theorem dX10_corrupt_2 : decode cX10_corrupt 2 = .ok (.iload_n 1, 1) := by decide +kernel
theorem dX10_corrupt_3 : decode cX10_corrupt 3 = .ok (.invokevirtual 121, 3) := by decide +kernel
theorem dX10_corrupt_6 : decode cX10_corrupt 6 = .ok (.ifCond .eq 15, 3) := by decide +kernel
theorem dX10_corrupt_9 : decode cX10_corrupt 9 = .ok (.aload_n 0, 1) := by decide +kernel
theorem dX10_corrupt_10 : decode cX10_corrupt 10 = .ok (.iload_n 2, 1) := by decide +kernel
theorem dX10_corrupt_11 : decode cX10_corrupt 11 = .ok (.invokevirtual 109, 3) := by decide +kernel
theorem dX10_corrupt_14 : decode cX10_corrupt 14 = .ok (.ifCond .eq 7, 3) := by decide +kernel
theorem dX10_corrupt_17 : decode cX10_corrupt 17 = .ok (.iconst 1, 1) := by decide +kernel
theorem dX10_corrupt_18 : decode cX10_corrupt 18 = .ok (.goto 4, 3) := by decide +kernel
theorem dX10_corrupt_21 : decode cX10_corrupt 21 = .ok (.iconst 0, 1) := by decide +kernel
theorem dX10_corrupt_22 : decode cX10_corrupt 22 = .ok (.iconst 1, 1) := by decide +kernel
theorem dX10_corrupt_23 : decode cX10_corrupt 23 = .ok (.invokevirtual 113, 3) := by decide +kernel
theorem dX10_corrupt_26 : decode cX10_corrupt 26 = .ok (.ifCond .eq 5, 3) := by decide +kernel
theorem dX10_corrupt_29 : decode cX10_corrupt 29 = .ok (.iconst 0, 1) := by decide +kernel
theorem dX10_corrupt_30 : decode cX10_corrupt 30 = .ok (.ireturn, 1) := by decide +kernel
theorem dX10_corrupt_31 : decode cX10_corrupt 31 = .ok (.aload_n 0, 1) := by decide +kernel
theorem dX10_corrupt_32 : decode cX10_corrupt 32 = .ok (.getfield 9, 3) := by decide +kernel
theorem dX10_corrupt_35 : decode cX10_corrupt 35 = .ok (.bipush 7, 2) := by decide +kernel
theorem dX10_corrupt_37 : decode cX10_corrupt 37 = .ok (.iload_n 1, 1) := by decide +kernel
theorem dX10_corrupt_38 : decode cX10_corrupt 38 = .ok (.iadd, 1) := by decide +kernel
theorem dX10_corrupt_39 : decode cX10_corrupt 39 = .ok (.iaload, 1) := by decide +kernel
theorem dX10_corrupt_40 : decode cX10_corrupt 40 = .ok (.istore_n 3, 1) := by decide +kernel
theorem dX10_corrupt_41 : decode cX10_corrupt 41 = .ok (.aload_n 0, 1) := by decide +kernel
theorem dX10_corrupt_42 : decode cX10_corrupt 42 = .ok (.getfield 9, 3) := by decide +kernel
theorem dX10_corrupt_45 : decode cX10_corrupt 45 = .ok (.bipush 7, 2) := by decide +kernel
theorem dX10_corrupt_47 : decode cX10_corrupt 47 = .ok (.iload_n 1, 1) := by decide +kernel
theorem dX10_corrupt_48 : decode cX10_corrupt 48 = .ok (.iadd, 1) := by decide +kernel
theorem dX10_corrupt_49 : decode cX10_corrupt 49 = .ok (.iload_n 2, 1) := by decide +kernel
theorem dX10_corrupt_50 : decode cX10_corrupt 50 = .ok (.iastore, 1) := by decide +kernel
theorem dX10_corrupt_51 : decode cX10_corrupt 51 = .ok (.aload_n 0, 1) := by decide +kernel
theorem dX10_corrupt_52 : decode cX10_corrupt 52 = .ok (.getfield 9, 3) := by decide +kernel
theorem dX10_corrupt_55 : decode cX10_corrupt 55 = .ok (.sipush 207, 3) := by decide +kernel
theorem dX10_corrupt_58 : decode cX10_corrupt 58 = .ok (.iload_n 1, 1) := by decide +kernel
theorem dX10_corrupt_59 : decode cX10_corrupt 59 = .ok (.iadd, 1) := by decide +kernel
theorem dX10_corrupt_60 : decode cX10_corrupt 60 = .ok (.aload_n 0, 1) := by decide +kernel
theorem dX10_corrupt_61 : decode cX10_corrupt 61 = .ok (.getfield 9, 3) := by decide +kernel
theorem dX10_corrupt_64 : decode cX10_corrupt 64 = .ok (.iconst 2, 1) := by decide +kernel
theorem dX10_corrupt_65 : decode cX10_corrupt 65 = .ok (.iaload, 1) := by decide +kernel
theorem dX10_corrupt_66 : decode cX10_corrupt 66 = .ok (.iastore, 1) := by decide +kernel
theorem dX10_corrupt_67 : decode cX10_corrupt 67 = .ok (.iload_n 3, 1) := by decide +kernel
theorem dX10_corrupt_68 : decode cX10_corrupt 68 = .ok (.ireturn, 1) := by decide +kernel
theorem dX10_entryCount_0 : decode cX10_entryCount 0 = .ok (.aload_n 0, 1) := by decide +kernel
theorem dX10_entryCount_1 : decode cX10_entryCount 1 = .ok (.iconst 0, 1) := by decide +kernel
theorem dX10_entryCount_2 : decode cX10_entryCount 2 = .ok (.putfield 50, 3) := by decide +kernel
theorem dX10_entryCount_5 : decode cX10_entryCount 5 = .ok (.aload_n 0, 1) := by decide +kernel
theorem dX10_entryCount_6 : decode cX10_entryCount 6 = .ok (.getfield 9, 3) := by decide +kernel
theorem dX10_entryCount_9 : decode cX10_entryCount 9 = .ok (.iconst 4, 1) := by decide +kernel
theorem dX10_entryCount_10 : decode cX10_entryCount 10 = .ok (.iaload, 1) := by decide +kernel
theorem dX10_entryCount_11 : decode cX10_entryCount 11 = .ok (.ireturn, 1) := by decide +kernel
theorem dX10_entryValue_0 : decode cX10_entryValue 0 = .ok (.aload_n 0, 1) := by decide +kernel
theorem dX10_entryValue_1 : decode cX10_entryValue 1 = .ok (.aload_n 0, 1) := by decide +kernel
theorem dX10_entryValue_2 : decode cX10_entryValue 2 = .ok (.iload_n 1, 1) := by decide +kernel
theorem dX10_entryValue_3 : decode cX10_entryValue 3 = .ok (.invokevirtual 130, 3) := by decide +kernel
theorem dX10_entryValue_6 : decode cX10_entryValue 6 = .ok (.iconst 1, 1) := by decide +kernel
theorem dX10_entryValue_7 : decode cX10_entryValue 7 = .ok (.invokevirtual 113, 3) := by decide +kernel
theorem dX10_entryValue_10 : decode cX10_entryValue 10 = .ok (.ifCond .ne 18, 3) := by decide +kernel
theorem dX10_entryValue_13 : decode cX10_entryValue 13 = .ok (.aload_n 0, 1) := by decide +kernel
theorem dX10_entryValue_14 : decode cX10_entryValue 14 = .ok (.iload_n 2, 1) := by decide +kernel
theorem dX10_entryValue_15 : decode cX10_entryValue 15 = .ok (.iconst 0, 1) := by decide +kernel
theorem dX10_entryValue_16 : decode cX10_entryValue 16 = .ok (.bipush 6, 2) := by decide +kernel
theorem dX10_entryValue_18 : decode cX10_entryValue 18 = .ok (.invokestatic 54, 3) := by decide +kernel
theorem dX10_entryValue_21 : decode cX10_entryValue 21 = .ok (.iconst 2, 1) := by decide +kernel
theorem dX10_entryValue_22 : decode cX10_entryValue 22 = .ok (.invokevirtual 113, 3) := by decide +kernel
theorem dX10_entryValue_25 : decode cX10_entryValue 25 = .ok (.ifCond .eq 5, 3) := by decide +kernel
theorem dX10_entryValue_28 : decode cX10_entryValue 28 = .ok (.iconst 0, 1) := by decide +kernel
theorem dX10_entryValue_29 : decode cX10_entryValue 29 = .ok (.ireturn, 1) := by decide +kernel
theorem dX10_entryValue_30 : decode cX10_entryValue 30 = .ok (.aload_n 0, 1) := by decide +kernel
theorem dX10_entryValue_31 : decode cX10_entryValue 31 = .ok (.iload_n 1, 1) := by decide +kernel
theorem dX10_entryValue_32 : decode cX10_entryValue 32 = .ok (.iload_n 2, 1) := by decide +kernel
theorem dX10_entryValue_33 : decode cX10_entryValue 33 = .ok (.invokevirtual 85, 3) := by decide +kernel
theorem dX10_entryValue_36 : decode cX10_entryValue 36 = .ok (.ireturn, 1) := by decide +kernel
theorem dX10_entryBlock_0 : decode cX10_entryBlock 0 = .ok (.aload_n 0, 1) := by decide +kernel
theorem dX10_entryBlock_1 : decode cX10_entryBlock 1 = .ok (.aload_n 0, 1) := by decide +kernel
theorem dX10_entryBlock_2 : decode cX10_entryBlock 2 = .ok (.iload_n 1, 1) := by decide +kernel
theorem dX10_entryBlock_3 : decode cX10_entryBlock 3 = .ok (.invokevirtual 130, 3) := by decide +kernel
theorem dX10_entryBlock_6 : decode cX10_entryBlock 6 = .ok (.iconst 1, 1) := by decide +kernel
theorem dX10_entryBlock_7 : decode cX10_entryBlock 7 = .ok (.invokevirtual 113, 3) := by decide +kernel
theorem dX10_entryBlock_10 : decode cX10_entryBlock 10 = .ok (.ifCond .eq 5, 3) := by decide +kernel
theorem dX10_entryBlock_13 : decode cX10_entryBlock 13 = .ok (.iconst 0, 1) := by decide +kernel
theorem dX10_entryBlock_14 : decode cX10_entryBlock 14 = .ok (.ireturn, 1) := by decide +kernel
theorem dX10_entryBlock_15 : decode cX10_entryBlock 15 = .ok (.iload_n 2, 1) := by decide +kernel
theorem dX10_entryBlock_16 : decode cX10_entryBlock 16 = .ok (.istore_n 3, 1) := by decide +kernel
theorem dX10_entryBlock_17 : decode cX10_entryBlock 17 = .ok (.iconst 0, 1) := by decide +kernel
theorem dX10_entryBlock_18 : decode cX10_entryBlock 18 = .ok (.istore 4, 2) := by decide +kernel
theorem dX10_entryBlock_20 : decode cX10_entryBlock 20 = .ok (.iload_n 2, 1) := by decide +kernel
theorem dX10_entryBlock_21 : decode cX10_entryBlock 21 = .ok (.ifCond .lt 52, 3) := by decide +kernel
theorem dX10_entryBlock_24 : decode cX10_entryBlock 24 = .ok (.iload 4, 2) := by decide +kernel
theorem dX10_entryBlock_26 : decode cX10_entryBlock 26 = .ok (.sipush 200, 3) := by decide +kernel
theorem dX10_entryBlock_29 : decode cX10_entryBlock 29 = .ok (.if_icmp .ge 44, 3) := by decide +kernel
theorem dX10_entryBlock_32 : decode cX10_entryBlock 32 = .ok (.aload_n 0, 1) := by decide +kernel
theorem dX10_entryBlock_33 : decode cX10_entryBlock 33 = .ok (.iload_n 1, 1) := by decide +kernel
theorem dX10_entryBlock_34 : decode cX10_entryBlock 34 = .ok (.iload 4, 2) := by decide +kernel
theorem dX10_entryBlock_36 : decode cX10_entryBlock 36 = .ok (.invokevirtual 124, 3) := by decide +kernel
theorem dX10_entryBlock_39 : decode cX10_entryBlock 39 = .ok (.ifCond .eq 10, 3) := by decide +kernel
theorem dX10_entryBlock_42 : decode cX10_entryBlock 42 = .ok (.iload_n 3, 1) := by decide +kernel
theorem dX10_entryBlock_43 : decode cX10_entryBlock 43 = .ok (.ifCond .ne 6, 3) := by decide +kernel
theorem dX10_entryBlock_46 : decode cX10_entryBlock 46 = .ok (.iload 4, 2) := by decide +kernel
theorem dX10_entryBlock_48 : decode cX10_entryBlock 48 = .ok (.ireturn, 1) := by decide +kernel
theorem dX10_entryBlock_49 : decode cX10_entryBlock 49 = .ok (.iload_n 3, 1) := by decide +kernel
theorem dX10_entryBlock_50 : decode cX10_entryBlock 50 = .ok (.aload_n 0, 1) := by decide +kernel
theorem dX10_entryBlock_51 : decode cX10_entryBlock 51 = .ok (.iload_n 1, 1) := by decide +kernel
theorem dX10_entryBlock_52 : decode cX10_entryBlock 52 = .ok (.iload 4, 2) := by decide +kernel
theorem dX10_entryBlock_54 : decode cX10_entryBlock 54 = .ok (.invokevirtual 124, 3) := by decide +kernel
theorem dX10_entryBlock_57 : decode cX10_entryBlock 57 = .ok (.ifCond .eq 7, 3) := by decide +kernel
theorem dX10_entryBlock_60 : decode cX10_entryBlock 60 = .ok (.iconst 1, 1) := by decide +kernel
theorem dX10_entryBlock_61 : decode cX10_entryBlock 61 = .ok (.goto 4, 3) := by decide +kernel
theorem dX10_entryBlock_64 : decode cX10_entryBlock 64 = .ok (.iconst 0, 1) := by decide +kernel
theorem dX10_entryBlock_65 : decode cX10_entryBlock 65 = .ok (.isub, 1) := by decide +kernel
theorem dX10_entryBlock_66 : decode cX10_entryBlock 66 = .ok (.istore_n 3, 1) := by decide +kernel
theorem dX10_entryBlock_67 : decode cX10_entryBlock 67 = .ok (.iinc 4 1, 3) := by decide +kernel
theorem dX10_entryBlock_70 : decode cX10_entryBlock 70 = .ok (.goto (-50), 3) := by decide +kernel
theorem dX10_entryBlock_73 : decode cX10_entryBlock 73 = .ok (.iconst (-1), 1) := by decide +kernel
theorem dX10_entryBlock_74 : decode cX10_entryBlock 74 = .ok (.ireturn, 1) := by decide +kernel
theorem dX10_entriesBefore_0 : decode cX10_entriesBefore 0 = .ok (.iconst 0, 1) := by decide +kernel
theorem dX10_entriesBefore_1 : decode cX10_entriesBefore 1 = .ok (.istore_n 2, 1) := by decide +kernel
theorem dX10_entriesBefore_2 : decode cX10_entriesBefore 2 = .ok (.iload_n 2, 1) := by decide +kernel
theorem dX10_entriesBefore_3 : decode cX10_entriesBefore 3 = .ok (.aload_n 0, 1) := by decide +kernel
theorem dX10_entriesBefore_4 : decode cX10_entriesBefore 4 = .ok (.getfield 9, 3) := by decide +kernel
theorem dX10_entriesBefore_7 : decode cX10_entriesBefore 7 = .ok (.iconst 4, 1) := by decide +kernel
theorem dX10_entriesBefore_8 : decode cX10_entriesBefore 8 = .ok (.iaload, 1) := by decide +kernel
theorem dX10_entriesBefore_9 : decode cX10_entriesBefore 9 = .ok (.if_icmp .ge 19, 3) := by decide +kernel
theorem dX10_entriesBefore_12 : decode cX10_entriesBefore 12 = .ok (.aload_n 0, 1) := by decide +kernel
theorem dX10_entriesBefore_13 : decode cX10_entriesBefore 13 = .ok (.iload_n 2, 1) := by decide +kernel
theorem dX10_entriesBefore_14 : decode cX10_entriesBefore 14 = .ok (.iconst 4, 1) := by decide +kernel
theorem dX10_entriesBefore_15 : decode cX10_entriesBefore 15 = .ok (.invokevirtual 85, 3) := by decide +kernel
theorem dX10_entriesBefore_18 : decode cX10_entriesBefore 18 = .ok (.iload_n 1, 1) := by decide +kernel
theorem dX10_entriesBefore_19 : decode cX10_entriesBefore 19 = .ok (.if_icmp .ge 9, 3) := by decide +kernel
theorem dX10_entriesBefore_22 : decode cX10_entriesBefore 22 = .ok (.iinc 2 1, 3) := by decide +kernel
theorem dX10_entriesBefore_25 : decode cX10_entriesBefore 25 = .ok (.goto (-23), 3) := by decide +kernel
theorem dX10_entriesBefore_28 : decode cX10_entriesBefore 28 = .ok (.iload_n 2, 1) := by decide +kernel
theorem dX10_entriesBefore_29 : decode cX10_entriesBefore 29 = .ok (.ireturn, 1) := by decide +kernel
theorem dX10_entriesUpTo_0 : decode cX10_entriesUpTo 0 = .ok (.iload_n 1, 1) := by decide +kernel
theorem dX10_entriesUpTo_1 : decode cX10_entriesUpTo 1 = .ok (.ldc_w 298, 3) := by decide +kernel
theorem dX10_entriesUpTo_4 : decode cX10_entriesUpTo 4 = .ok (.if_icmp .ne 12, 3) := by decide +kernel
theorem dX10_entriesUpTo_7 : decode cX10_entriesUpTo 7 = .ok (.aload_n 0, 1) := by decide +kernel
theorem dX10_entriesUpTo_8 : decode cX10_entriesUpTo 8 = .ok (.getfield 9, 3) := by decide +kernel
theorem dX10_entriesUpTo_11 : decode cX10_entriesUpTo 11 = .ok (.iconst 4, 1) := by decide +kernel
theorem dX10_entriesUpTo_12 : decode cX10_entriesUpTo 12 = .ok (.iaload, 1) := by decide +kernel
theorem dX10_entriesUpTo_13 : decode cX10_entriesUpTo 13 = .ok (.goto 10, 3) := by decide +kernel
theorem dX10_entriesUpTo_16 : decode cX10_entriesUpTo 16 = .ok (.aload_n 0, 1) := by decide +kernel
theorem dX10_entriesUpTo_17 : decode cX10_entriesUpTo 17 = .ok (.iload_n 1, 1) := by decide +kernel
theorem dX10_entriesUpTo_18 : decode cX10_entriesUpTo 18 = .ok (.iconst 1, 1) := by decide +kernel
theorem dX10_entriesUpTo_19 : decode cX10_entriesUpTo 19 = .ok (.iadd, 1) := by decide +kernel
theorem dX10_entriesUpTo_20 : decode cX10_entriesUpTo 20 = .ok (.invokevirtual 299, 3) := by decide +kernel
theorem dX10_entriesUpTo_23 : decode cX10_entriesUpTo 23 = .ok (.ireturn, 1) := by decide +kernel
theorem dX10_isInterval_0 : decode cX10_isInterval 0 = .ok (.iload_n 0, 1) := by decide +kernel
theorem dX10_isInterval_1 : decode cX10_isInterval 1 = .ok (.ifCond .lt 12, 3) := by decide +kernel
theorem dX10_isInterval_4 : decode cX10_isInterval 4 = .ok (.iload_n 0, 1) := by decide +kernel
theorem dX10_isInterval_5 : decode cX10_isInterval 5 = .ok (.iload_n 1, 1) := by decide +kernel
theorem dX10_isInterval_6 : decode cX10_isInterval 6 = .ok (.if_icmp .gt 7, 3) := by decide +kernel
theorem dX10_isInterval_9 : decode cX10_isInterval 9 = .ok (.iconst 1, 1) := by decide +kernel
theorem dX10_isInterval_10 : decode cX10_isInterval 10 = .ok (.goto 4, 3) := by decide +kernel
theorem dX10_isInterval_13 : decode cX10_isInterval 13 = .ok (.iconst 0, 1) := by decide +kernel
theorem dX10_isInterval_14 : decode cX10_isInterval 14 = .ok (.ireturn, 1) := by decide +kernel
theorem dX10_bookedAt_0 : decode cX10_bookedAt 0 = .ok (.aload_n 0, 1) := by decide +kernel
theorem dX10_bookedAt_1 : decode cX10_bookedAt 1 = .ok (.aload_n 0, 1) := by decide +kernel
theorem dX10_bookedAt_2 : decode cX10_bookedAt 2 = .ok (.iload_n 1, 1) := by decide +kernel
theorem dX10_bookedAt_3 : decode cX10_bookedAt 3 = .ok (.invokevirtual 109, 3) := by decide +kernel
theorem dX10_bookedAt_6 : decode cX10_bookedAt 6 = .ok (.iconst 1, 1) := by decide +kernel
theorem dX10_bookedAt_7 : decode cX10_bookedAt 7 = .ok (.invokevirtual 113, 3) := by decide +kernel
theorem dX10_bookedAt_10 : decode cX10_bookedAt 10 = .ok (.ifCond .ne 20, 3) := by decide +kernel
theorem dX10_bookedAt_13 : decode cX10_bookedAt 13 = .ok (.aload_n 0, 1) := by decide +kernel
theorem dX10_bookedAt_14 : decode cX10_bookedAt 14 = .ok (.iload_n 2, 1) := by decide +kernel
theorem dX10_bookedAt_15 : decode cX10_bookedAt 15 = .ok (.ifCond .lt 7, 3) := by decide +kernel
theorem dX10_bookedAt_18 : decode cX10_bookedAt 18 = .ok (.iconst 1, 1) := by decide +kernel
theorem dX10_bookedAt_19 : decode cX10_bookedAt 19 = .ok (.goto 4, 3) := by decide +kernel
theorem dX10_bookedAt_22 : decode cX10_bookedAt 22 = .ok (.iconst 0, 1) := by decide +kernel
theorem dX10_bookedAt_23 : decode cX10_bookedAt 23 = .ok (.iconst 2, 1) := by decide +kernel
theorem dX10_bookedAt_24 : decode cX10_bookedAt 24 = .ok (.invokevirtual 113, 3) := by decide +kernel
theorem dX10_bookedAt_27 : decode cX10_bookedAt 27 = .ok (.ifCond .eq 5, 3) := by decide +kernel
theorem dX10_bookedAt_30 : decode cX10_bookedAt 30 = .ok (.iconst 0, 1) := by decide +kernel
theorem dX10_bookedAt_31 : decode cX10_bookedAt 31 = .ok (.ireturn, 1) := by decide +kernel
theorem dX10_bookedAt_32 : decode cX10_bookedAt 32 = .ok (.aload_n 0, 1) := by decide +kernel
theorem dX10_bookedAt_33 : decode cX10_bookedAt 33 = .ok (.iload_n 1, 1) := by decide +kernel
theorem dX10_bookedAt_34 : decode cX10_bookedAt 34 = .ok (.aload_n 0, 1) := by decide +kernel
theorem dX10_bookedAt_35 : decode cX10_bookedAt 35 = .ok (.iload_n 2, 1) := by decide +kernel
theorem dX10_bookedAt_36 : decode cX10_bookedAt 36 = .ok (.invokevirtual 302, 3) := by decide +kernel
theorem dX10_bookedAt_39 : decode cX10_bookedAt 39 = .ok (.invokevirtual 281, 3) := by decide +kernel
theorem dX10_bookedAt_42 : decode cX10_bookedAt 42 = .ok (.ireturn, 1) := by decide +kernel
theorem dX10_peak_0 : decode cX10_peak 0 = .ok (.aload_n 0, 1) := by decide +kernel
theorem dX10_peak_1 : decode cX10_peak 1 = .ok (.aload_n 0, 1) := by decide +kernel
theorem dX10_peak_2 : decode cX10_peak 2 = .ok (.iload_n 1, 1) := by decide +kernel
theorem dX10_peak_3 : decode cX10_peak 3 = .ok (.invokevirtual 109, 3) := by decide +kernel
theorem dX10_peak_6 : decode cX10_peak 6 = .ok (.iconst 1, 1) := by decide +kernel
theorem dX10_peak_7 : decode cX10_peak 7 = .ok (.invokevirtual 113, 3) := by decide +kernel
theorem dX10_peak_10 : decode cX10_peak 10 = .ok (.ifCond .ne 16, 3) := by decide +kernel
theorem dX10_peak_13 : decode cX10_peak 13 = .ok (.aload_n 0, 1) := by decide +kernel
theorem dX10_peak_14 : decode cX10_peak 14 = .ok (.iload_n 2, 1) := by decide +kernel
theorem dX10_peak_15 : decode cX10_peak 15 = .ok (.iload_n 3, 1) := by decide +kernel
theorem dX10_peak_16 : decode cX10_peak 16 = .ok (.invokestatic 305, 3) := by decide +kernel
theorem dX10_peak_19 : decode cX10_peak 19 = .ok (.iconst 2, 1) := by decide +kernel
theorem dX10_peak_20 : decode cX10_peak 20 = .ok (.invokevirtual 113, 3) := by decide +kernel
theorem dX10_peak_23 : decode cX10_peak 23 = .ok (.ifCond .eq 5, 3) := by decide +kernel
theorem dX10_peak_26 : decode cX10_peak 26 = .ok (.iconst 0, 1) := by decide +kernel
theorem dX10_peak_27 : decode cX10_peak 27 = .ok (.ireturn, 1) := by decide +kernel
theorem dX10_peak_28 : decode cX10_peak 28 = .ok (.aload_n 0, 1) := by decide +kernel
theorem dX10_peak_29 : decode cX10_peak 29 = .ok (.iload_n 1, 1) := by decide +kernel
theorem dX10_peak_30 : decode cX10_peak 30 = .ok (.aload_n 0, 1) := by decide +kernel
theorem dX10_peak_31 : decode cX10_peak 31 = .ok (.iload_n 2, 1) := by decide +kernel
theorem dX10_peak_32 : decode cX10_peak 32 = .ok (.invokevirtual 299, 3) := by decide +kernel
theorem dX10_peak_35 : decode cX10_peak 35 = .ok (.invokevirtual 281, 3) := by decide +kernel
theorem dX10_peak_38 : decode cX10_peak 38 = .ok (.istore 4, 2) := by decide +kernel
theorem dX10_peak_40 : decode cX10_peak 40 = .ok (.aload_n 0, 1) := by decide +kernel
theorem dX10_peak_41 : decode cX10_peak 41 = .ok (.iload_n 2, 1) := by decide +kernel
theorem dX10_peak_42 : decode cX10_peak 42 = .ok (.invokevirtual 299, 3) := by decide +kernel
theorem dX10_peak_45 : decode cX10_peak 45 = .ok (.iconst 1, 1) := by decide +kernel
theorem dX10_peak_46 : decode cX10_peak 46 = .ok (.iadd, 1) := by decide +kernel
theorem dX10_peak_47 : decode cX10_peak 47 = .ok (.istore 5, 2) := by decide +kernel
theorem dX10_peak_49 : decode cX10_peak 49 = .ok (.iload 5, 2) := by decide +kernel
theorem dX10_peak_51 : decode cX10_peak 51 = .ok (.aload_n 0, 1) := by decide +kernel
theorem dX10_peak_52 : decode cX10_peak 52 = .ok (.iload_n 3, 1) := by decide +kernel
theorem dX10_peak_53 : decode cX10_peak 53 = .ok (.invokevirtual 302, 3) := by decide +kernel
theorem dX10_peak_56 : decode cX10_peak 56 = .ok (.if_icmp .gt 23, 3) := by decide +kernel
theorem dX10_peak_59 : decode cX10_peak 59 = .ok (.iload 4, 2) := by decide +kernel
theorem dX10_peak_61 : decode cX10_peak 61 = .ok (.aload_n 0, 1) := by decide +kernel
theorem dX10_peak_62 : decode cX10_peak 62 = .ok (.iload_n 1, 1) := by decide +kernel
theorem dX10_peak_63 : decode cX10_peak 63 = .ok (.iload 5, 2) := by decide +kernel
theorem dX10_peak_65 : decode cX10_peak 65 = .ok (.invokevirtual 281, 3) := by decide +kernel
theorem dX10_peak_68 : decode cX10_peak 68 = .ok (.invokestatic 287, 3) := by decide +kernel
theorem dX10_peak_71 : decode cX10_peak 71 = .ok (.istore 4, 2) := by decide +kernel
theorem dX10_peak_73 : decode cX10_peak 73 = .ok (.iinc 5 1, 3) := by decide +kernel
theorem dX10_peak_76 : decode cX10_peak 76 = .ok (.goto (-27), 3) := by decide +kernel
theorem dX10_peak_79 : decode cX10_peak 79 = .ok (.iload 4, 2) := by decide +kernel
theorem dX10_peak_81 : decode cX10_peak 81 = .ok (.ireturn, 1) := by decide +kernel
theorem dX10_flow_0 : decode cX10_flow 0 = .ok (.aload_n 0, 1) := by decide +kernel
theorem dX10_flow_1 : decode cX10_flow 1 = .ok (.aload_n 0, 1) := by decide +kernel
theorem dX10_flow_2 : decode cX10_flow 2 = .ok (.iload_n 1, 1) := by decide +kernel
theorem dX10_flow_3 : decode cX10_flow 3 = .ok (.invokevirtual 109, 3) := by decide +kernel
theorem dX10_flow_6 : decode cX10_flow 6 = .ok (.ifCond .eq 15, 3) := by decide +kernel
theorem dX10_flow_9 : decode cX10_flow 9 = .ok (.aload_n 0, 1) := by decide +kernel
theorem dX10_flow_10 : decode cX10_flow 10 = .ok (.iload_n 2, 1) := by decide +kernel
theorem dX10_flow_11 : decode cX10_flow 11 = .ok (.invokevirtual 109, 3) := by decide +kernel
theorem dX10_flow_14 : decode cX10_flow 14 = .ok (.ifCond .eq 7, 3) := by decide +kernel
theorem dX10_flow_17 : decode cX10_flow 17 = .ok (.iconst 1, 1) := by decide +kernel
theorem dX10_flow_18 : decode cX10_flow 18 = .ok (.goto 4, 3) := by decide +kernel
theorem dX10_flow_21 : decode cX10_flow 21 = .ok (.iconst 0, 1) := by decide +kernel
theorem dX10_flow_22 : decode cX10_flow 22 = .ok (.iconst 1, 1) := by decide +kernel
theorem dX10_flow_23 : decode cX10_flow 23 = .ok (.invokevirtual 113, 3) := by decide +kernel
theorem dX10_flow_26 : decode cX10_flow 26 = .ok (.ifCond .ne 17, 3) := by decide +kernel
theorem dX10_flow_29 : decode cX10_flow 29 = .ok (.aload_n 0, 1) := by decide +kernel
theorem dX10_flow_30 : decode cX10_flow 30 = .ok (.iload_n 3, 1) := by decide +kernel
theorem dX10_flow_31 : decode cX10_flow 31 = .ok (.iload 4, 2) := by decide +kernel
theorem dX10_flow_33 : decode cX10_flow 33 = .ok (.invokestatic 305, 3) := by decide +kernel
theorem dX10_flow_36 : decode cX10_flow 36 = .ok (.iconst 2, 1) := by decide +kernel
theorem dX10_flow_37 : decode cX10_flow 37 = .ok (.invokevirtual 113, 3) := by decide +kernel
theorem dX10_flow_40 : decode cX10_flow 40 = .ok (.ifCond .eq 5, 3) := by decide +kernel
theorem dX10_flow_43 : decode cX10_flow 43 = .ok (.iconst 0, 1) := by decide +kernel
theorem dX10_flow_44 : decode cX10_flow 44 = .ok (.ireturn, 1) := by decide +kernel
theorem dX10_flow_45 : decode cX10_flow 45 = .ok (.iconst 0, 1) := by decide +kernel
theorem dX10_flow_46 : decode cX10_flow 46 = .ok (.istore 5, 2) := by decide +kernel
theorem dX10_flow_48 : decode cX10_flow 48 = .ok (.aload_n 0, 1) := by decide +kernel
theorem dX10_flow_49 : decode cX10_flow 49 = .ok (.iload_n 3, 1) := by decide +kernel
theorem dX10_flow_50 : decode cX10_flow 50 = .ok (.invokevirtual 299, 3) := by decide +kernel
theorem dX10_flow_53 : decode cX10_flow 53 = .ok (.istore 6, 2) := by decide +kernel
theorem dX10_flow_55 : decode cX10_flow 55 = .ok (.iload 6, 2) := by decide +kernel
theorem dX10_flow_57 : decode cX10_flow 57 = .ok (.aload_n 0, 1) := by decide +kernel
theorem dX10_flow_58 : decode cX10_flow 58 = .ok (.iload 4, 2) := by decide +kernel
theorem dX10_flow_60 : decode cX10_flow 60 = .ok (.invokevirtual 302, 3) := by decide +kernel
theorem dX10_flow_63 : decode cX10_flow 63 = .ok (.if_icmp .ge 47, 3) := by decide +kernel
theorem dX10_flow_66 : decode cX10_flow 66 = .ok (.iload 5, 2) := by decide +kernel
theorem dX10_flow_68 : decode cX10_flow 68 = .ok (.aload_n 0, 1) := by decide +kernel
theorem dX10_flow_69 : decode cX10_flow 69 = .ok (.iload 6, 2) := by decide +kernel
theorem dX10_flow_71 : decode cX10_flow 71 = .ok (.iconst 0, 1) := by decide +kernel
theorem dX10_flow_72 : decode cX10_flow 72 = .ok (.invokevirtual 85, 3) := by decide +kernel
theorem dX10_flow_75 : decode cX10_flow 75 = .ok (.iload_n 1, 1) := by decide +kernel
theorem dX10_flow_76 : decode cX10_flow 76 = .ok (.if_icmp .ne 24, 3) := by decide +kernel
theorem dX10_flow_79 : decode cX10_flow 79 = .ok (.aload_n 0, 1) := by decide +kernel
theorem dX10_flow_80 : decode cX10_flow 80 = .ok (.iload 6, 2) := by decide +kernel
theorem dX10_flow_82 : decode cX10_flow 82 = .ok (.iconst 1, 1) := by decide +kernel
theorem dX10_flow_83 : decode cX10_flow 83 = .ok (.invokevirtual 85, 3) := by decide +kernel
theorem dX10_flow_86 : decode cX10_flow 86 = .ok (.iload_n 2, 1) := by decide +kernel
theorem dX10_flow_87 : decode cX10_flow 87 = .ok (.if_icmp .ne 13, 3) := by decide +kernel
theorem dX10_flow_90 : decode cX10_flow 90 = .ok (.aload_n 0, 1) := by decide +kernel
theorem dX10_flow_91 : decode cX10_flow 91 = .ok (.iload 6, 2) := by decide +kernel
theorem dX10_flow_93 : decode cX10_flow 93 = .ok (.iconst 2, 1) := by decide +kernel
theorem dX10_flow_94 : decode cX10_flow 94 = .ok (.invokevirtual 85, 3) := by decide +kernel
theorem dX10_flow_97 : decode cX10_flow 97 = .ok (.goto 4, 3) := by decide +kernel
theorem dX10_flow_100 : decode cX10_flow 100 = .ok (.iconst 0, 1) := by decide +kernel
theorem dX10_flow_101 : decode cX10_flow 101 = .ok (.iadd, 1) := by decide +kernel
theorem dX10_flow_102 : decode cX10_flow 102 = .ok (.istore 5, 2) := by decide +kernel
theorem dX10_flow_104 : decode cX10_flow 104 = .ok (.iinc 6 1, 3) := by decide +kernel
theorem dX10_flow_107 : decode cX10_flow 107 = .ok (.goto (-52), 3) := by decide +kernel
theorem dX10_flow_110 : decode cX10_flow 110 = .ok (.iload 5, 2) := by decide +kernel
theorem dX10_flow_112 : decode cX10_flow 112 = .ok (.ireturn, 1) := by decide +kernel
theorem dX10_reasonTotal_0 : decode cX10_reasonTotal 0 = .ok (.aload_n 0, 1) := by decide +kernel
theorem dX10_reasonTotal_1 : decode cX10_reasonTotal 1 = .ok (.iload_n 1, 1) := by decide +kernel
theorem dX10_reasonTotal_2 : decode cX10_reasonTotal 2 = .ok (.iconst 0, 1) := by decide +kernel
theorem dX10_reasonTotal_3 : decode cX10_reasonTotal 3 = .ok (.bipush 9, 2) := by decide +kernel
theorem dX10_reasonTotal_5 : decode cX10_reasonTotal 5 = .ok (.invokestatic 54, 3) := by decide +kernel
theorem dX10_reasonTotal_8 : decode cX10_reasonTotal 8 = .ok (.ifCond .eq 15, 3) := by decide +kernel
theorem dX10_reasonTotal_11 : decode cX10_reasonTotal 11 = .ok (.iload_n 2, 1) := by decide +kernel
theorem dX10_reasonTotal_12 : decode cX10_reasonTotal 12 = .ok (.iload_n 3, 1) := by decide +kernel
theorem dX10_reasonTotal_13 : decode cX10_reasonTotal 13 = .ok (.invokestatic 305, 3) := by decide +kernel
theorem dX10_reasonTotal_16 : decode cX10_reasonTotal 16 = .ok (.ifCond .eq 7, 3) := by decide +kernel
theorem dX10_reasonTotal_19 : decode cX10_reasonTotal 19 = .ok (.iconst 1, 1) := by decide +kernel
theorem dX10_reasonTotal_20 : decode cX10_reasonTotal 20 = .ok (.goto 4, 3) := by decide +kernel
theorem dX10_reasonTotal_23 : decode cX10_reasonTotal 23 = .ok (.iconst 0, 1) := by decide +kernel
theorem dX10_reasonTotal_24 : decode cX10_reasonTotal 24 = .ok (.iconst 1, 1) := by decide +kernel
theorem dX10_reasonTotal_25 : decode cX10_reasonTotal 25 = .ok (.invokevirtual 113, 3) := by decide +kernel
theorem dX10_reasonTotal_28 : decode cX10_reasonTotal 28 = .ok (.ifCond .eq 5, 3) := by decide +kernel
theorem dX10_reasonTotal_31 : decode cX10_reasonTotal 31 = .ok (.iconst 0, 1) := by decide +kernel
theorem dX10_reasonTotal_32 : decode cX10_reasonTotal 32 = .ok (.ireturn, 1) := by decide +kernel
theorem dX10_reasonTotal_33 : decode cX10_reasonTotal 33 = .ok (.iconst 0, 1) := by decide +kernel
theorem dX10_reasonTotal_34 : decode cX10_reasonTotal 34 = .ok (.istore 4, 2) := by decide +kernel
theorem dX10_reasonTotal_36 : decode cX10_reasonTotal 36 = .ok (.aload_n 0, 1) := by decide +kernel
theorem dX10_reasonTotal_37 : decode cX10_reasonTotal 37 = .ok (.iload_n 2, 1) := by decide +kernel
theorem dX10_reasonTotal_38 : decode cX10_reasonTotal 38 = .ok (.invokevirtual 299, 3) := by decide +kernel
theorem dX10_reasonTotal_41 : decode cX10_reasonTotal 41 = .ok (.istore 5, 2) := by decide +kernel
theorem dX10_reasonTotal_43 : decode cX10_reasonTotal 43 = .ok (.iload 5, 2) := by decide +kernel
theorem dX10_reasonTotal_45 : decode cX10_reasonTotal 45 = .ok (.aload_n 0, 1) := by decide +kernel
theorem dX10_reasonTotal_46 : decode cX10_reasonTotal 46 = .ok (.iload_n 3, 1) := by decide +kernel
theorem dX10_reasonTotal_47 : decode cX10_reasonTotal 47 = .ok (.invokevirtual 302, 3) := by decide +kernel
theorem dX10_reasonTotal_50 : decode cX10_reasonTotal 50 = .ok (.if_icmp .ge 71, 3) := by decide +kernel
theorem dX10_reasonTotal_53 : decode cX10_reasonTotal 53 = .ok (.aload_n 0, 1) := by decide +kernel
theorem dX10_reasonTotal_54 : decode cX10_reasonTotal 54 = .ok (.iload 5, 2) := by decide +kernel
theorem dX10_reasonTotal_56 : decode cX10_reasonTotal 56 = .ok (.iconst 5, 1) := by decide +kernel
theorem dX10_reasonTotal_57 : decode cX10_reasonTotal 57 = .ok (.invokevirtual 85, 3) := by decide +kernel
theorem dX10_reasonTotal_60 : decode cX10_reasonTotal 60 = .ok (.ifCond .ne 7, 3) := by decide +kernel
theorem dX10_reasonTotal_63 : decode cX10_reasonTotal 63 = .ok (.iconst 1, 1) := by decide +kernel
theorem dX10_reasonTotal_64 : decode cX10_reasonTotal 64 = .ok (.goto 19, 3) := by decide +kernel
theorem dX10_reasonTotal_67 : decode cX10_reasonTotal 67 = .ok (.aload_n 0, 1) := by decide +kernel
theorem dX10_reasonTotal_68 : decode cX10_reasonTotal 68 = .ok (.iload 5, 2) := by decide +kernel
theorem dX10_reasonTotal_70 : decode cX10_reasonTotal 70 = .ok (.iconst 5, 1) := by decide +kernel
theorem dX10_reasonTotal_71 : decode cX10_reasonTotal 71 = .ok (.invokevirtual 85, 3) := by decide +kernel
theorem dX10_reasonTotal_74 : decode cX10_reasonTotal 74 = .ok (.iconst 1, 1) := by decide +kernel
theorem dX10_reasonTotal_75 : decode cX10_reasonTotal 75 = .ok (.if_icmp .ne 7, 3) := by decide +kernel
theorem dX10_reasonTotal_78 : decode cX10_reasonTotal 78 = .ok (.iconst (-1), 1) := by decide +kernel
theorem dX10_reasonTotal_79 : decode cX10_reasonTotal 79 = .ok (.goto 4, 3) := by decide +kernel
theorem dX10_reasonTotal_82 : decode cX10_reasonTotal 82 = .ok (.iconst 0, 1) := by decide +kernel
theorem dX10_reasonTotal_83 : decode cX10_reasonTotal 83 = .ok (.istore 6, 2) := by decide +kernel
theorem dX10_reasonTotal_85 : decode cX10_reasonTotal 85 = .ok (.iload 4, 2) := by decide +kernel
theorem dX10_reasonTotal_87 : decode cX10_reasonTotal 87 = .ok (.aload_n 0, 1) := by decide +kernel
theorem dX10_reasonTotal_88 : decode cX10_reasonTotal 88 = .ok (.iload 5, 2) := by decide +kernel
theorem dX10_reasonTotal_90 : decode cX10_reasonTotal 90 = .ok (.iconst 3, 1) := by decide +kernel
theorem dX10_reasonTotal_91 : decode cX10_reasonTotal 91 = .ok (.invokevirtual 85, 3) := by decide +kernel
theorem dX10_reasonTotal_94 : decode cX10_reasonTotal 94 = .ok (.iload_n 1, 1) := by decide +kernel
theorem dX10_reasonTotal_95 : decode cX10_reasonTotal 95 = .ok (.if_icmp .ne 16, 3) := by decide +kernel
theorem dX10_reasonTotal_98 : decode cX10_reasonTotal 98 = .ok (.iload 6, 2) := by decide +kernel
theorem dX10_reasonTotal_100 : decode cX10_reasonTotal 100 = .ok (.aload_n 0, 1) := by decide +kernel
theorem dX10_reasonTotal_101 : decode cX10_reasonTotal 101 = .ok (.iload 5, 2) := by decide +kernel
theorem dX10_reasonTotal_103 : decode cX10_reasonTotal 103 = .ok (.iconst 2, 1) := by decide +kernel
theorem dX10_reasonTotal_104 : decode cX10_reasonTotal 104 = .ok (.invokevirtual 85, 3) := by decide +kernel
theorem dX10_reasonTotal_107 : decode cX10_reasonTotal 107 = .ok (.imul, 1) := by decide +kernel
theorem dX10_reasonTotal_108 : decode cX10_reasonTotal 108 = .ok (.goto 4, 3) := by decide +kernel
theorem dX10_reasonTotal_111 : decode cX10_reasonTotal 111 = .ok (.iconst 0, 1) := by decide +kernel
theorem dX10_reasonTotal_112 : decode cX10_reasonTotal 112 = .ok (.iadd, 1) := by decide +kernel
theorem dX10_reasonTotal_113 : decode cX10_reasonTotal 113 = .ok (.istore 4, 2) := by decide +kernel
theorem dX10_reasonTotal_115 : decode cX10_reasonTotal 115 = .ok (.iinc 5 1, 3) := by decide +kernel
theorem dX10_reasonTotal_118 : decode cX10_reasonTotal 118 = .ok (.goto (-75), 3) := by decide +kernel
theorem dX10_reasonTotal_121 : decode cX10_reasonTotal 121 = .ok (.iload 4, 2) := by decide +kernel
theorem dX10_reasonTotal_123 : decode cX10_reasonTotal 123 = .ok (.ireturn, 1) := by decide +kernel
theorem dX10_busiest_0 : decode cX10_busiest 0 = .ok (.aload_n 0, 1) := by decide +kernel
theorem dX10_busiest_1 : decode cX10_busiest 1 = .ok (.iload_n 1, 1) := by decide +kernel
theorem dX10_busiest_2 : decode cX10_busiest 2 = .ok (.iload_n 2, 1) := by decide +kernel
theorem dX10_busiest_3 : decode cX10_busiest 3 = .ok (.invokestatic 305, 3) := by decide +kernel
theorem dX10_busiest_6 : decode cX10_busiest 6 = .ok (.iconst 1, 1) := by decide +kernel
theorem dX10_busiest_7 : decode cX10_busiest 7 = .ok (.invokevirtual 113, 3) := by decide +kernel
theorem dX10_busiest_10 : decode cX10_busiest 10 = .ok (.ifCond .eq 5, 3) := by decide +kernel
theorem dX10_busiest_13 : decode cX10_busiest 13 = .ok (.iconst 0, 1) := by decide +kernel
theorem dX10_busiest_14 : decode cX10_busiest 14 = .ok (.ireturn, 1) := by decide +kernel
theorem dX10_busiest_15 : decode cX10_busiest 15 = .ok (.iconst (-1), 1) := by decide +kernel
theorem dX10_busiest_16 : decode cX10_busiest 16 = .ok (.istore_n 3, 1) := by decide +kernel
theorem dX10_busiest_17 : decode cX10_busiest 17 = .ok (.iconst 0, 1) := by decide +kernel
theorem dX10_busiest_18 : decode cX10_busiest 18 = .ok (.istore 4, 2) := by decide +kernel
theorem dX10_busiest_20 : decode cX10_busiest 20 = .ok (.iconst 0, 1) := by decide +kernel
theorem dX10_busiest_21 : decode cX10_busiest 21 = .ok (.istore 5, 2) := by decide +kernel
theorem dX10_busiest_23 : decode cX10_busiest 23 = .ok (.iload 5, 2) := by decide +kernel
theorem dX10_busiest_25 : decode cX10_busiest 25 = .ok (.aload_n 0, 1) := by decide +kernel
theorem dX10_busiest_26 : decode cX10_busiest 26 = .ok (.getfield 9, 3) := by decide +kernel
theorem dX10_busiest_29 : decode cX10_busiest 29 = .ok (.iconst 1, 1) := by decide +kernel
theorem dX10_busiest_30 : decode cX10_busiest 30 = .ok (.iaload, 1) := by decide +kernel
theorem dX10_busiest_31 : decode cX10_busiest 31 = .ok (.if_icmp .ge 89, 3) := by decide +kernel
theorem dX10_busiest_34 : decode cX10_busiest 34 = .ok (.iconst 0, 1) := by decide +kernel
theorem dX10_busiest_35 : decode cX10_busiest 35 = .ok (.istore 6, 2) := by decide +kernel
theorem dX10_busiest_37 : decode cX10_busiest 37 = .ok (.aload_n 0, 1) := by decide +kernel
theorem dX10_busiest_38 : decode cX10_busiest 38 = .ok (.iload_n 1, 1) := by decide +kernel
theorem dX10_busiest_39 : decode cX10_busiest 39 = .ok (.invokevirtual 299, 3) := by decide +kernel
theorem dX10_busiest_42 : decode cX10_busiest 42 = .ok (.istore 7, 2) := by decide +kernel
theorem dX10_busiest_44 : decode cX10_busiest 44 = .ok (.iload 7, 2) := by decide +kernel
theorem dX10_busiest_46 : decode cX10_busiest 46 = .ok (.aload_n 0, 1) := by decide +kernel
theorem dX10_busiest_47 : decode cX10_busiest 47 = .ok (.iload_n 2, 1) := by decide +kernel
theorem dX10_busiest_48 : decode cX10_busiest 48 = .ok (.invokevirtual 302, 3) := by decide +kernel
theorem dX10_busiest_51 : decode cX10_busiest 51 = .ok (.if_icmp .ge 49, 3) := by decide +kernel
theorem dX10_busiest_54 : decode cX10_busiest 54 = .ok (.iload 6, 2) := by decide +kernel
theorem dX10_busiest_56 : decode cX10_busiest 56 = .ok (.aload_n 0, 1) := by decide +kernel
theorem dX10_busiest_57 : decode cX10_busiest 57 = .ok (.iload 7, 2) := by decide +kernel
theorem dX10_busiest_59 : decode cX10_busiest 59 = .ok (.iconst 0, 1) := by decide +kernel
theorem dX10_busiest_60 : decode cX10_busiest 60 = .ok (.invokevirtual 85, 3) := by decide +kernel
theorem dX10_busiest_63 : decode cX10_busiest 63 = .ok (.iload 5, 2) := by decide +kernel
theorem dX10_busiest_65 : decode cX10_busiest 65 = .ok (.if_icmp .eq 15, 3) := by decide +kernel
theorem dX10_busiest_68 : decode cX10_busiest 68 = .ok (.aload_n 0, 1) := by decide +kernel
theorem dX10_busiest_69 : decode cX10_busiest 69 = .ok (.iload 7, 2) := by decide +kernel
theorem dX10_busiest_71 : decode cX10_busiest 71 = .ok (.iconst 1, 1) := by decide +kernel
theorem dX10_busiest_72 : decode cX10_busiest 72 = .ok (.invokevirtual 85, 3) := by decide +kernel
theorem dX10_busiest_75 : decode cX10_busiest 75 = .ok (.iload 5, 2) := by decide +kernel
theorem dX10_busiest_77 : decode cX10_busiest 77 = .ok (.if_icmp .ne 13, 3) := by decide +kernel
theorem dX10_busiest_80 : decode cX10_busiest 80 = .ok (.aload_n 0, 1) := by decide +kernel
theorem dX10_busiest_81 : decode cX10_busiest 81 = .ok (.iload 7, 2) := by decide +kernel
theorem dX10_busiest_83 : decode cX10_busiest 83 = .ok (.iconst 2, 1) := by decide +kernel
theorem dX10_busiest_84 : decode cX10_busiest 84 = .ok (.invokevirtual 85, 3) := by decide +kernel
theorem dX10_busiest_87 : decode cX10_busiest 87 = .ok (.goto 4, 3) := by decide +kernel
theorem dX10_busiest_90 : decode cX10_busiest 90 = .ok (.iconst 0, 1) := by decide +kernel
theorem dX10_busiest_91 : decode cX10_busiest 91 = .ok (.iadd, 1) := by decide +kernel
theorem dX10_busiest_92 : decode cX10_busiest 92 = .ok (.istore 6, 2) := by decide +kernel
theorem dX10_busiest_94 : decode cX10_busiest 94 = .ok (.iinc 7 1, 3) := by decide +kernel
theorem dX10_busiest_97 : decode cX10_busiest 97 = .ok (.goto (-53), 3) := by decide +kernel
theorem dX10_busiest_100 : decode cX10_busiest 100 = .ok (.iload 6, 2) := by decide +kernel
theorem dX10_busiest_102 : decode cX10_busiest 102 = .ok (.iload 4, 2) := by decide +kernel
theorem dX10_busiest_104 : decode cX10_busiest 104 = .ok (.if_icmp .le 10, 3) := by decide +kernel
theorem dX10_busiest_107 : decode cX10_busiest 107 = .ok (.iload 5, 2) := by decide +kernel
theorem dX10_busiest_109 : decode cX10_busiest 109 = .ok (.istore_n 3, 1) := by decide +kernel
theorem dX10_busiest_110 : decode cX10_busiest 110 = .ok (.iload 6, 2) := by decide +kernel
theorem dX10_busiest_112 : decode cX10_busiest 112 = .ok (.istore 4, 2) := by decide +kernel
theorem dX10_busiest_114 : decode cX10_busiest 114 = .ok (.iinc 5 1, 3) := by decide +kernel
theorem dX10_busiest_117 : decode cX10_busiest 117 = .ok (.goto (-94), 3) := by decide +kernel
theorem dX10_busiest_120 : decode cX10_busiest 120 = .ok (.iload_n 3, 1) := by decide +kernel
theorem dX10_busiest_121 : decode cX10_busiest 121 = .ok (.ireturn, 1) := by decide +kernel
theorem dX10_reservationCount_0 : decode cX10_reservationCount 0 = .ok (.aload_n 0, 1) := by decide +kernel
theorem dX10_reservationCount_1 : decode cX10_reservationCount 1 = .ok (.iconst 0, 1) := by decide +kernel
theorem dX10_reservationCount_2 : decode cX10_reservationCount 2 = .ok (.putfield 50, 3) := by decide +kernel
theorem dX10_reservationCount_5 : decode cX10_reservationCount 5 = .ok (.aload_n 0, 1) := by decide +kernel
theorem dX10_reservationCount_6 : decode cX10_reservationCount 6 = .ok (.getfield 9, 3) := by decide +kernel
theorem dX10_reservationCount_9 : decode cX10_reservationCount 9 = .ok (.iconst 5, 1) := by decide +kernel
theorem dX10_reservationCount_10 : decode cX10_reservationCount 10 = .ok (.iaload, 1) := by decide +kernel
theorem dX10_reservationCount_11 : decode cX10_reservationCount 11 = .ok (.ireturn, 1) := by decide +kernel
theorem dX10_reservationValue_0 : decode cX10_reservationValue 0 = .ok (.aload_n 0, 1) := by decide +kernel
theorem dX10_reservationValue_1 : decode cX10_reservationValue 1 = .ok (.aload_n 0, 1) := by decide +kernel
theorem dX10_reservationValue_2 : decode cX10_reservationValue 2 = .ok (.iload_n 1, 1) := by decide +kernel
theorem dX10_reservationValue_3 : decode cX10_reservationValue 3 = .ok (.invokevirtual 142, 3) := by decide +kernel
theorem dX10_reservationValue_6 : decode cX10_reservationValue 6 = .ok (.iconst 1, 1) := by decide +kernel
theorem dX10_reservationValue_7 : decode cX10_reservationValue 7 = .ok (.invokevirtual 113, 3) := by decide +kernel
theorem dX10_reservationValue_10 : decode cX10_reservationValue 10 = .ok (.ifCond .ne 17, 3) := by decide +kernel
theorem dX10_reservationValue_13 : decode cX10_reservationValue 13 = .ok (.aload_n 0, 1) := by decide +kernel
theorem dX10_reservationValue_14 : decode cX10_reservationValue 14 = .ok (.iload_n 2, 1) := by decide +kernel
theorem dX10_reservationValue_15 : decode cX10_reservationValue 15 = .ok (.iconst 0, 1) := by decide +kernel
theorem dX10_reservationValue_16 : decode cX10_reservationValue 16 = .ok (.iconst 4, 1) := by decide +kernel
theorem dX10_reservationValue_17 : decode cX10_reservationValue 17 = .ok (.invokestatic 54, 3) := by decide +kernel
theorem dX10_reservationValue_20 : decode cX10_reservationValue 20 = .ok (.iconst 2, 1) := by decide +kernel
theorem dX10_reservationValue_21 : decode cX10_reservationValue 21 = .ok (.invokevirtual 113, 3) := by decide +kernel
theorem dX10_reservationValue_24 : decode cX10_reservationValue 24 = .ok (.ifCond .eq 5, 3) := by decide +kernel
theorem dX10_reservationValue_27 : decode cX10_reservationValue 27 = .ok (.iconst 0, 1) := by decide +kernel
theorem dX10_reservationValue_28 : decode cX10_reservationValue 28 = .ok (.ireturn, 1) := by decide +kernel
theorem dX10_reservationValue_29 : decode cX10_reservationValue 29 = .ok (.aload_n 0, 1) := by decide +kernel
theorem dX10_reservationValue_30 : decode cX10_reservationValue 30 = .ok (.iload_n 1, 1) := by decide +kernel
theorem dX10_reservationValue_31 : decode cX10_reservationValue 31 = .ok (.iload_n 2, 1) := by decide +kernel
theorem dX10_reservationValue_32 : decode cX10_reservationValue 32 = .ok (.invokevirtual 58, 3) := by decide +kernel
theorem dX10_reservationValue_35 : decode cX10_reservationValue 35 = .ok (.ireturn, 1) := by decide +kernel
theorem dX10_reservedFrom_0 : decode cX10_reservedFrom 0 = .ok (.aload_n 0, 1) := by decide +kernel
theorem dX10_reservedFrom_1 : decode cX10_reservedFrom 1 = .ok (.aload_n 0, 1) := by decide +kernel
theorem dX10_reservedFrom_2 : decode cX10_reservedFrom 2 = .ok (.iload_n 1, 1) := by decide +kernel
theorem dX10_reservedFrom_3 : decode cX10_reservedFrom 3 = .ok (.invokevirtual 109, 3) := by decide +kernel
theorem dX10_reservedFrom_6 : decode cX10_reservedFrom 6 = .ok (.iconst 1, 1) := by decide +kernel
theorem dX10_reservedFrom_7 : decode cX10_reservedFrom 7 = .ok (.invokevirtual 113, 3) := by decide +kernel
theorem dX10_reservedFrom_10 : decode cX10_reservedFrom 10 = .ok (.ifCond .eq 7, 3) := by decide +kernel
theorem dX10_reservedFrom_13 : decode cX10_reservedFrom 13 = .ok (.iconst 0, 1) := by decide +kernel
theorem dX10_reservedFrom_14 : decode cX10_reservedFrom 14 = .ok (.goto 9, 3) := by decide +kernel
theorem dX10_reservedFrom_17 : decode cX10_reservedFrom 17 = .ok (.aload_n 0, 1) := by decide +kernel
theorem dX10_reservedFrom_18 : decode cX10_reservedFrom 18 = .ok (.iload_n 1, 1) := by decide +kernel
theorem dX10_reservedFrom_19 : decode cX10_reservedFrom 19 = .ok (.iconst 0, 1) := by decide +kernel
theorem dX10_reservedFrom_20 : decode cX10_reservedFrom 20 = .ok (.invokevirtual 66, 3) := by decide +kernel
theorem dX10_reservedFrom_23 : decode cX10_reservedFrom 23 = .ok (.ireturn, 1) := by decide +kernel
theorem dX10_nextExpiry_0 : decode cX10_nextExpiry 0 = .ok (.aload_n 0, 1) := by decide +kernel
theorem dX10_nextExpiry_1 : decode cX10_nextExpiry 1 = .ok (.iconst 0, 1) := by decide +kernel
theorem dX10_nextExpiry_2 : decode cX10_nextExpiry 2 = .ok (.putfield 50, 3) := by decide +kernel
theorem dX10_nextExpiry_5 : decode cX10_nextExpiry 5 = .ok (.iconst (-1), 1) := by decide +kernel
theorem dX10_nextExpiry_6 : decode cX10_nextExpiry 6 = .ok (.istore_n 1, 1) := by decide +kernel
theorem dX10_nextExpiry_7 : decode cX10_nextExpiry 7 = .ok (.iconst 0, 1) := by decide +kernel
theorem dX10_nextExpiry_8 : decode cX10_nextExpiry 8 = .ok (.istore_n 2, 1) := by decide +kernel
theorem dX10_nextExpiry_9 : decode cX10_nextExpiry 9 = .ok (.iload_n 2, 1) := by decide +kernel
theorem dX10_nextExpiry_10 : decode cX10_nextExpiry 10 = .ok (.aload_n 0, 1) := by decide +kernel
theorem dX10_nextExpiry_11 : decode cX10_nextExpiry 11 = .ok (.getfield 9, 3) := by decide +kernel
theorem dX10_nextExpiry_14 : decode cX10_nextExpiry 14 = .ok (.iconst 5, 1) := by decide +kernel
theorem dX10_nextExpiry_15 : decode cX10_nextExpiry 15 = .ok (.iaload, 1) := by decide +kernel
theorem dX10_nextExpiry_16 : decode cX10_nextExpiry 16 = .ok (.if_icmp .ge 40, 3) := by decide +kernel
theorem dX10_nextExpiry_19 : decode cX10_nextExpiry 19 = .ok (.aload_n 0, 1) := by decide +kernel
theorem dX10_nextExpiry_20 : decode cX10_nextExpiry 20 = .ok (.iload_n 2, 1) := by decide +kernel
theorem dX10_nextExpiry_21 : decode cX10_nextExpiry 21 = .ok (.iconst 4, 1) := by decide +kernel
theorem dX10_nextExpiry_22 : decode cX10_nextExpiry 22 = .ok (.invokevirtual 58, 3) := by decide +kernel
theorem dX10_nextExpiry_25 : decode cX10_nextExpiry 25 = .ok (.ifCond .ne 25, 3) := by decide +kernel
theorem dX10_nextExpiry_28 : decode cX10_nextExpiry 28 = .ok (.iload_n 1, 1) := by decide +kernel
theorem dX10_nextExpiry_29 : decode cX10_nextExpiry 29 = .ok (.iconst (-1), 1) := by decide +kernel
theorem dX10_nextExpiry_30 : decode cX10_nextExpiry 30 = .ok (.if_icmp .eq 18, 3) := by decide +kernel
theorem dX10_nextExpiry_33 : decode cX10_nextExpiry 33 = .ok (.aload_n 0, 1) := by decide +kernel
theorem dX10_nextExpiry_34 : decode cX10_nextExpiry 34 = .ok (.iload_n 2, 1) := by decide +kernel
theorem dX10_nextExpiry_35 : decode cX10_nextExpiry 35 = .ok (.iconst 3, 1) := by decide +kernel
theorem dX10_nextExpiry_36 : decode cX10_nextExpiry 36 = .ok (.invokevirtual 58, 3) := by decide +kernel
theorem dX10_nextExpiry_39 : decode cX10_nextExpiry 39 = .ok (.aload_n 0, 1) := by decide +kernel
theorem dX10_nextExpiry_40 : decode cX10_nextExpiry 40 = .ok (.iload_n 1, 1) := by decide +kernel
theorem dX10_nextExpiry_41 : decode cX10_nextExpiry 41 = .ok (.iconst 3, 1) := by decide +kernel
theorem dX10_nextExpiry_42 : decode cX10_nextExpiry 42 = .ok (.invokevirtual 58, 3) := by decide +kernel
theorem dX10_nextExpiry_45 : decode cX10_nextExpiry 45 = .ok (.if_icmp .ge 5, 3) := by decide +kernel
theorem dX10_nextExpiry_48 : decode cX10_nextExpiry 48 = .ok (.iload_n 2, 1) := by decide +kernel
theorem dX10_nextExpiry_49 : decode cX10_nextExpiry 49 = .ok (.istore_n 1, 1) := by decide +kernel
theorem dX10_nextExpiry_50 : decode cX10_nextExpiry 50 = .ok (.iinc 2 1, 3) := by decide +kernel
theorem dX10_nextExpiry_53 : decode cX10_nextExpiry 53 = .ok (.goto (-44), 3) := by decide +kernel
theorem dX10_nextExpiry_56 : decode cX10_nextExpiry 56 = .ok (.iload_n 1, 1) := by decide +kernel
theorem dX10_nextExpiry_57 : decode cX10_nextExpiry 57 = .ok (.ireturn, 1) := by decide +kernel
theorem dX10_availableAt_0 : decode cX10_availableAt 0 = .ok (.aload_n 0, 1) := by decide +kernel
theorem dX10_availableAt_1 : decode cX10_availableAt 1 = .ok (.iload_n 1, 1) := by decide +kernel
theorem dX10_availableAt_2 : decode cX10_availableAt 2 = .ok (.invokevirtual 62, 3) := by decide +kernel
theorem dX10_availableAt_5 : decode cX10_availableAt 5 = .ok (.istore_n 3, 1) := by decide +kernel
theorem dX10_availableAt_6 : decode cX10_availableAt 6 = .ok (.iconst 0, 1) := by decide +kernel
theorem dX10_availableAt_7 : decode cX10_availableAt 7 = .ok (.istore 4, 2) := by decide +kernel
theorem dX10_availableAt_9 : decode cX10_availableAt 9 = .ok (.iload 4, 2) := by decide +kernel
theorem dX10_availableAt_11 : decode cX10_availableAt 11 = .ok (.aload_n 0, 1) := by decide +kernel
theorem dX10_availableAt_12 : decode cX10_availableAt 12 = .ok (.getfield 9, 3) := by decide +kernel
theorem dX10_availableAt_15 : decode cX10_availableAt 15 = .ok (.iconst 5, 1) := by decide +kernel
theorem dX10_availableAt_16 : decode cX10_availableAt 16 = .ok (.iaload, 1) := by decide +kernel
theorem dX10_availableAt_17 : decode cX10_availableAt 17 = .ok (.if_icmp .ge 67, 3) := by decide +kernel
theorem dX10_availableAt_20 : decode cX10_availableAt 20 = .ok (.aload_n 0, 1) := by decide +kernel
theorem dX10_availableAt_21 : decode cX10_availableAt 21 = .ok (.iload 4, 2) := by decide +kernel
theorem dX10_availableAt_23 : decode cX10_availableAt 23 = .ok (.iconst 4, 1) := by decide +kernel
theorem dX10_availableAt_24 : decode cX10_availableAt 24 = .ok (.invokevirtual 58, 3) := by decide +kernel
theorem dX10_availableAt_27 : decode cX10_availableAt 27 = .ok (.ifCond .ne 29, 3) := by decide +kernel
theorem dX10_availableAt_30 : decode cX10_availableAt 30 = .ok (.aload_n 0, 1) := by decide +kernel
theorem dX10_availableAt_31 : decode cX10_availableAt 31 = .ok (.iload 4, 2) := by decide +kernel
theorem dX10_availableAt_33 : decode cX10_availableAt 33 = .ok (.iconst 0, 1) := by decide +kernel
theorem dX10_availableAt_34 : decode cX10_availableAt 34 = .ok (.invokevirtual 58, 3) := by decide +kernel
theorem dX10_availableAt_37 : decode cX10_availableAt 37 = .ok (.iload_n 1, 1) := by decide +kernel
theorem dX10_availableAt_38 : decode cX10_availableAt 38 = .ok (.if_icmp .ne 18, 3) := by decide +kernel
theorem dX10_availableAt_41 : decode cX10_availableAt 41 = .ok (.aload_n 0, 1) := by decide +kernel
theorem dX10_availableAt_42 : decode cX10_availableAt 42 = .ok (.iload 4, 2) := by decide +kernel
theorem dX10_availableAt_44 : decode cX10_availableAt 44 = .ok (.iconst 3, 1) := by decide +kernel
theorem dX10_availableAt_45 : decode cX10_availableAt 45 = .ok (.invokevirtual 58, 3) := by decide +kernel
theorem dX10_availableAt_48 : decode cX10_availableAt 48 = .ok (.iload_n 2, 1) := by decide +kernel
theorem dX10_availableAt_49 : decode cX10_availableAt 49 = .ok (.if_icmp .le 7, 3) := by decide +kernel
theorem dX10_availableAt_52 : decode cX10_availableAt 52 = .ok (.iconst 1, 1) := by decide +kernel
theorem dX10_availableAt_53 : decode cX10_availableAt 53 = .ok (.goto 4, 3) := by decide +kernel
theorem dX10_availableAt_56 : decode cX10_availableAt 56 = .ok (.iconst 0, 1) := by decide +kernel
theorem dX10_availableAt_57 : decode cX10_availableAt 57 = .ok (.istore 5, 2) := by decide +kernel
theorem dX10_availableAt_59 : decode cX10_availableAt 59 = .ok (.iload_n 3, 1) := by decide +kernel
theorem dX10_availableAt_60 : decode cX10_availableAt 60 = .ok (.iload 5, 2) := by decide +kernel
theorem dX10_availableAt_62 : decode cX10_availableAt 62 = .ok (.ifCond .eq 13, 3) := by decide +kernel
theorem dX10_availableAt_65 : decode cX10_availableAt 65 = .ok (.aload_n 0, 1) := by decide +kernel
theorem dX10_availableAt_66 : decode cX10_availableAt 66 = .ok (.iload 4, 2) := by decide +kernel
theorem dX10_availableAt_68 : decode cX10_availableAt 68 = .ok (.iconst 2, 1) := by decide +kernel
theorem dX10_availableAt_69 : decode cX10_availableAt 69 = .ok (.invokevirtual 58, 3) := by decide +kernel
theorem dX10_availableAt_72 : decode cX10_availableAt 72 = .ok (.goto 4, 3) := by decide +kernel
theorem dX10_availableAt_75 : decode cX10_availableAt 75 = .ok (.iconst 0, 1) := by decide +kernel
theorem dX10_availableAt_76 : decode cX10_availableAt 76 = .ok (.isub, 1) := by decide +kernel
theorem dX10_availableAt_77 : decode cX10_availableAt 77 = .ok (.istore_n 3, 1) := by decide +kernel
theorem dX10_availableAt_78 : decode cX10_availableAt 78 = .ok (.iinc 4 1, 3) := by decide +kernel
theorem dX10_availableAt_81 : decode cX10_availableAt 81 = .ok (.goto (-72), 3) := by decide +kernel
theorem dX10_availableAt_84 : decode cX10_availableAt 84 = .ok (.iload_n 3, 1) := by decide +kernel
theorem dX10_availableAt_85 : decode cX10_availableAt 85 = .ok (.ireturn, 1) := by decide +kernel
theorem dX10_whenAvailable_0 : decode cX10_whenAvailable 0 = .ok (.aload_n 0, 1) := by decide +kernel
theorem dX10_whenAvailable_1 : decode cX10_whenAvailable 1 = .ok (.aload_n 0, 1) := by decide +kernel
theorem dX10_whenAvailable_2 : decode cX10_whenAvailable 2 = .ok (.iload_n 1, 1) := by decide +kernel
theorem dX10_whenAvailable_3 : decode cX10_whenAvailable 3 = .ok (.invokevirtual 109, 3) := by decide +kernel
theorem dX10_whenAvailable_6 : decode cX10_whenAvailable 6 = .ok (.iconst 1, 1) := by decide +kernel
theorem dX10_whenAvailable_7 : decode cX10_whenAvailable 7 = .ok (.invokevirtual 113, 3) := by decide +kernel
theorem dX10_whenAvailable_10 : decode cX10_whenAvailable 10 = .ok (.ifCond .ne 19, 3) := by decide +kernel
theorem dX10_whenAvailable_13 : decode cX10_whenAvailable 13 = .ok (.aload_n 0, 1) := by decide +kernel
theorem dX10_whenAvailable_14 : decode cX10_whenAvailable 14 = .ok (.iload_n 2, 1) := by decide +kernel
theorem dX10_whenAvailable_15 : decode cX10_whenAvailable 15 = .ok (.iconst 0, 1) := by decide +kernel
theorem dX10_whenAvailable_16 : decode cX10_whenAvailable 16 = .ok (.sipush 200, 3) := by decide +kernel
theorem dX10_whenAvailable_19 : decode cX10_whenAvailable 19 = .ok (.invokestatic 54, 3) := by decide +kernel
theorem dX10_whenAvailable_22 : decode cX10_whenAvailable 22 = .ok (.iconst 2, 1) := by decide +kernel
theorem dX10_whenAvailable_23 : decode cX10_whenAvailable 23 = .ok (.invokevirtual 113, 3) := by decide +kernel
theorem dX10_whenAvailable_26 : decode cX10_whenAvailable 26 = .ok (.ifCond .eq 5, 3) := by decide +kernel
theorem dX10_whenAvailable_29 : decode cX10_whenAvailable 29 = .ok (.iconst 0, 1) := by decide +kernel
theorem dX10_whenAvailable_30 : decode cX10_whenAvailable 30 = .ok (.ireturn, 1) := by decide +kernel
theorem dX10_whenAvailable_31 : decode cX10_whenAvailable 31 = .ok (.aload_n 0, 1) := by decide +kernel
theorem dX10_whenAvailable_32 : decode cX10_whenAvailable 32 = .ok (.iload_n 1, 1) := by decide +kernel
theorem dX10_whenAvailable_33 : decode cX10_whenAvailable 33 = .ok (.invokevirtual 92, 3) := by decide +kernel
theorem dX10_whenAvailable_36 : decode cX10_whenAvailable 36 = .ok (.iload_n 2, 1) := by decide +kernel
theorem dX10_whenAvailable_37 : decode cX10_whenAvailable 37 = .ok (.if_icmp .lt 10, 3) := by decide +kernel
theorem dX10_whenAvailable_40 : decode cX10_whenAvailable 40 = .ok (.aload_n 0, 1) := by decide +kernel
theorem dX10_whenAvailable_41 : decode cX10_whenAvailable 41 = .ok (.getfield 9, 3) := by decide +kernel
theorem dX10_whenAvailable_44 : decode cX10_whenAvailable 44 = .ok (.iconst 2, 1) := by decide +kernel
theorem dX10_whenAvailable_45 : decode cX10_whenAvailable 45 = .ok (.iaload, 1) := by decide +kernel
theorem dX10_whenAvailable_46 : decode cX10_whenAvailable 46 = .ok (.ireturn, 1) := by decide +kernel
theorem dX10_whenAvailable_47 : decode cX10_whenAvailable 47 = .ok (.iconst (-1), 1) := by decide +kernel
theorem dX10_whenAvailable_48 : decode cX10_whenAvailable 48 = .ok (.istore_n 3, 1) := by decide +kernel
theorem dX10_whenAvailable_49 : decode cX10_whenAvailable 49 = .ok (.iconst 0, 1) := by decide +kernel
theorem dX10_whenAvailable_50 : decode cX10_whenAvailable 50 = .ok (.istore 4, 2) := by decide +kernel
theorem dX10_whenAvailable_52 : decode cX10_whenAvailable 52 = .ok (.iload 4, 2) := by decide +kernel
theorem dX10_whenAvailable_54 : decode cX10_whenAvailable 54 = .ok (.aload_n 0, 1) := by decide +kernel
theorem dX10_whenAvailable_55 : decode cX10_whenAvailable 55 = .ok (.getfield 9, 3) := by decide +kernel
theorem dX10_whenAvailable_58 : decode cX10_whenAvailable 58 = .ok (.iconst 5, 1) := by decide +kernel
theorem dX10_whenAvailable_59 : decode cX10_whenAvailable 59 = .ok (.iaload, 1) := by decide +kernel
theorem dX10_whenAvailable_60 : decode cX10_whenAvailable 60 = .ok (.if_icmp .ge 69, 3) := by decide +kernel
theorem dX10_whenAvailable_63 : decode cX10_whenAvailable 63 = .ok (.aload_n 0, 1) := by decide +kernel
theorem dX10_whenAvailable_64 : decode cX10_whenAvailable 64 = .ok (.iload 4, 2) := by decide +kernel
theorem dX10_whenAvailable_66 : decode cX10_whenAvailable 66 = .ok (.iconst 3, 1) := by decide +kernel
theorem dX10_whenAvailable_67 : decode cX10_whenAvailable 67 = .ok (.invokevirtual 58, 3) := by decide +kernel
theorem dX10_whenAvailable_70 : decode cX10_whenAvailable 70 = .ok (.istore 5, 2) := by decide +kernel
theorem dX10_whenAvailable_72 : decode cX10_whenAvailable 72 = .ok (.aload_n 0, 1) := by decide +kernel
theorem dX10_whenAvailable_73 : decode cX10_whenAvailable 73 = .ok (.iload 4, 2) := by decide +kernel
theorem dX10_whenAvailable_75 : decode cX10_whenAvailable 75 = .ok (.iconst 4, 1) := by decide +kernel
theorem dX10_whenAvailable_76 : decode cX10_whenAvailable 76 = .ok (.invokevirtual 58, 3) := by decide +kernel
theorem dX10_whenAvailable_79 : decode cX10_whenAvailable 79 = .ok (.ifCond .ne 18, 3) := by decide +kernel
theorem dX10_whenAvailable_82 : decode cX10_whenAvailable 82 = .ok (.aload_n 0, 1) := by decide +kernel
theorem dX10_whenAvailable_83 : decode cX10_whenAvailable 83 = .ok (.iload_n 1, 1) := by decide +kernel
theorem dX10_whenAvailable_84 : decode cX10_whenAvailable 84 = .ok (.iload 5, 2) := by decide +kernel
theorem dX10_whenAvailable_86 : decode cX10_whenAvailable 86 = .ok (.invokevirtual 308, 3) := by decide +kernel
theorem dX10_whenAvailable_89 : decode cX10_whenAvailable 89 = .ok (.iload_n 2, 1) := by decide +kernel
theorem dX10_whenAvailable_90 : decode cX10_whenAvailable 90 = .ok (.if_icmp .lt 7, 3) := by decide +kernel
theorem dX10_whenAvailable_93 : decode cX10_whenAvailable 93 = .ok (.iconst 1, 1) := by decide +kernel
theorem dX10_whenAvailable_94 : decode cX10_whenAvailable 94 = .ok (.goto 4, 3) := by decide +kernel
theorem dX10_whenAvailable_97 : decode cX10_whenAvailable 97 = .ok (.iconst 0, 1) := by decide +kernel
theorem dX10_whenAvailable_98 : decode cX10_whenAvailable 98 = .ok (.istore 6, 2) := by decide +kernel
theorem dX10_whenAvailable_100 : decode cX10_whenAvailable 100 = .ok (.iload 6, 2) := by decide +kernel
theorem dX10_whenAvailable_102 : decode cX10_whenAvailable 102 = .ok (.ifCond .eq 19, 3) := by decide +kernel
theorem dX10_whenAvailable_105 : decode cX10_whenAvailable 105 = .ok (.iload_n 3, 1) := by decide +kernel
theorem dX10_whenAvailable_106 : decode cX10_whenAvailable 106 = .ok (.iconst (-1), 1) := by decide +kernel
theorem dX10_whenAvailable_107 : decode cX10_whenAvailable 107 = .ok (.if_icmp .eq 9, 3) := by decide +kernel
theorem dX10_whenAvailable_110 : decode cX10_whenAvailable 110 = .ok (.iload 5, 2) := by decide +kernel
theorem dX10_whenAvailable_112 : decode cX10_whenAvailable 112 = .ok (.iload_n 3, 1) := by decide +kernel
theorem dX10_whenAvailable_113 : decode cX10_whenAvailable 113 = .ok (.if_icmp .ge 8, 3) := by decide +kernel
theorem dX10_whenAvailable_116 : decode cX10_whenAvailable 116 = .ok (.iload 5, 2) := by decide +kernel
theorem dX10_whenAvailable_118 : decode cX10_whenAvailable 118 = .ok (.goto 4, 3) := by decide +kernel
theorem dX10_whenAvailable_121 : decode cX10_whenAvailable 121 = .ok (.iload_n 3, 1) := by decide +kernel
theorem dX10_whenAvailable_122 : decode cX10_whenAvailable 122 = .ok (.istore_n 3, 1) := by decide +kernel
theorem dX10_whenAvailable_123 : decode cX10_whenAvailable 123 = .ok (.iinc 4 1, 3) := by decide +kernel
theorem dX10_whenAvailable_126 : decode cX10_whenAvailable 126 = .ok (.goto (-74), 3) := by decide +kernel
theorem dX10_whenAvailable_129 : decode cX10_whenAvailable 129 = .ok (.iload_n 3, 1) := by decide +kernel
theorem dX10_whenAvailable_130 : decode cX10_whenAvailable 130 = .ok (.ireturn, 1) := by decide +kernel
theorem dX10_rent_0 : decode cX10_rent 0 = .ok (.aload_n 0, 1) := by decide +kernel
theorem dX10_rent_1 : decode cX10_rent 1 = .ok (.aload_n 0, 1) := by decide +kernel
theorem dX10_rent_2 : decode cX10_rent 2 = .ok (.iload_n 1, 1) := by decide +kernel
theorem dX10_rent_3 : decode cX10_rent 3 = .ok (.invokevirtual 109, 3) := by decide +kernel
theorem dX10_rent_6 : decode cX10_rent 6 = .ok (.iconst 1, 1) := by decide +kernel
theorem dX10_rent_7 : decode cX10_rent 7 = .ok (.invokevirtual 113, 3) := by decide +kernel
theorem dX10_rent_10 : decode cX10_rent 10 = .ok (.ifCond .eq 7, 3) := by decide +kernel
theorem dX10_rent_13 : decode cX10_rent 13 = .ok (.fconst 0, 1) := by decide +kernel
theorem dX10_rent_14 : decode cX10_rent 14 = .ok (.goto 9, 3) := by decide +kernel
theorem dX10_rent_17 : decode cX10_rent 17 = .ok (.aload_n 0, 1) := by decide +kernel
theorem dX10_rent_18 : decode cX10_rent 18 = .ok (.getfield 22, 3) := by decide +kernel
theorem dX10_rent_21 : decode cX10_rent 21 = .ok (.iload_n 1, 1) := by decide +kernel
theorem dX10_rent_22 : decode cX10_rent 22 = .ok (.faload, 1) := by decide +kernel
theorem dX10_rent_23 : decode cX10_rent 23 = .ok (.freturn, 1) := by decide +kernel
theorem dX10_totalRent_0 : decode cX10_totalRent 0 = .ok (.aload_n 0, 1) := by decide +kernel
theorem dX10_totalRent_1 : decode cX10_totalRent 1 = .ok (.iconst 0, 1) := by decide +kernel
theorem dX10_totalRent_2 : decode cX10_totalRent 2 = .ok (.putfield 50, 3) := by decide +kernel
theorem dX10_totalRent_5 : decode cX10_totalRent 5 = .ok (.fconst 0, 1) := by decide +kernel
theorem dX10_totalRent_6 : decode cX10_totalRent 6 = .ok (.fstore_n 1, 1) := by decide +kernel
theorem dX10_totalRent_7 : decode cX10_totalRent 7 = .ok (.iconst 0, 1) := by decide +kernel
theorem dX10_totalRent_8 : decode cX10_totalRent 8 = .ok (.istore_n 2, 1) := by decide +kernel
theorem dX10_totalRent_9 : decode cX10_totalRent 9 = .ok (.iload_n 2, 1) := by decide +kernel
theorem dX10_totalRent_10 : decode cX10_totalRent 10 = .ok (.aload_n 0, 1) := by decide +kernel
theorem dX10_totalRent_11 : decode cX10_totalRent 11 = .ok (.getfield 9, 3) := by decide +kernel
theorem dX10_totalRent_14 : decode cX10_totalRent 14 = .ok (.iconst 1, 1) := by decide +kernel
theorem dX10_totalRent_15 : decode cX10_totalRent 15 = .ok (.iaload, 1) := by decide +kernel
theorem dX10_totalRent_16 : decode cX10_totalRent 16 = .ok (.if_icmp .ge 18, 3) := by decide +kernel
theorem dX10_totalRent_19 : decode cX10_totalRent 19 = .ok (.fload_n 1, 1) := by decide +kernel
theorem dX10_totalRent_20 : decode cX10_totalRent 20 = .ok (.aload_n 0, 1) := by decide +kernel
theorem dX10_totalRent_21 : decode cX10_totalRent 21 = .ok (.getfield 22, 3) := by decide +kernel
theorem dX10_totalRent_24 : decode cX10_totalRent 24 = .ok (.iload_n 2, 1) := by decide +kernel
theorem dX10_totalRent_25 : decode cX10_totalRent 25 = .ok (.faload, 1) := by decide +kernel
theorem dX10_totalRent_26 : decode cX10_totalRent 26 = .ok (.fadd, 1) := by decide +kernel
theorem dX10_totalRent_27 : decode cX10_totalRent 27 = .ok (.fstore_n 1, 1) := by decide +kernel
theorem dX10_totalRent_28 : decode cX10_totalRent 28 = .ok (.iinc 2 1, 3) := by decide +kernel
theorem dX10_totalRent_31 : decode cX10_totalRent 31 = .ok (.goto (-22), 3) := by decide +kernel
theorem dX10_totalRent_34 : decode cX10_totalRent 34 = .ok (.fload_n 1, 1) := by decide +kernel
theorem dX10_totalRent_35 : decode cX10_totalRent 35 = .ok (.freturn, 1) := by decide +kernel
theorem dX10_rentAhead_0 : decode cX10_rentAhead 0 = .ok (.aload_n 0, 1) := by decide +kernel
theorem dX10_rentAhead_1 : decode cX10_rentAhead 1 = .ok (.aload_n 0, 1) := by decide +kernel
theorem dX10_rentAhead_2 : decode cX10_rentAhead 2 = .ok (.iload_n 1, 1) := by decide +kernel
theorem dX10_rentAhead_3 : decode cX10_rentAhead 3 = .ok (.invokevirtual 109, 3) := by decide +kernel
theorem dX10_rentAhead_6 : decode cX10_rentAhead 6 = .ok (.iconst 1, 1) := by decide +kernel
theorem dX10_rentAhead_7 : decode cX10_rentAhead 7 = .ok (.invokevirtual 113, 3) := by decide +kernel
theorem dX10_rentAhead_10 : decode cX10_rentAhead 10 = .ok (.ifCond .ne 19, 3) := by decide +kernel
theorem dX10_rentAhead_13 : decode cX10_rentAhead 13 = .ok (.aload_n 0, 1) := by decide +kernel
theorem dX10_rentAhead_14 : decode cX10_rentAhead 14 = .ok (.iload_n 2, 1) := by decide +kernel
theorem dX10_rentAhead_15 : decode cX10_rentAhead 15 = .ok (.iconst 1, 1) := by decide +kernel
theorem dX10_rentAhead_16 : decode cX10_rentAhead 16 = .ok (.sipush 1000, 3) := by decide +kernel
theorem dX10_rentAhead_19 : decode cX10_rentAhead 19 = .ok (.invokestatic 54, 3) := by decide +kernel
theorem dX10_rentAhead_22 : decode cX10_rentAhead 22 = .ok (.iconst 2, 1) := by decide +kernel
theorem dX10_rentAhead_23 : decode cX10_rentAhead 23 = .ok (.invokevirtual 113, 3) := by decide +kernel
theorem dX10_rentAhead_26 : decode cX10_rentAhead 26 = .ok (.ifCond .eq 5, 3) := by decide +kernel
theorem dX10_rentAhead_29 : decode cX10_rentAhead 29 = .ok (.fconst 0, 1) := by decide +kernel
theorem dX10_rentAhead_30 : decode cX10_rentAhead 30 = .ok (.freturn, 1) := by decide +kernel
theorem dX10_rentAhead_31 : decode cX10_rentAhead 31 = .ok (.aload_n 0, 1) := by decide +kernel
theorem dX10_rentAhead_32 : decode cX10_rentAhead 32 = .ok (.iload_n 1, 1) := by decide +kernel
theorem dX10_rentAhead_33 : decode cX10_rentAhead 33 = .ok (.iload_n 2, 1) := by decide +kernel
theorem dX10_rentAhead_34 : decode cX10_rentAhead 34 = .ok (.invokevirtual 147, 3) := by decide +kernel
theorem dX10_rentAhead_37 : decode cX10_rentAhead 37 = .ok (.freturn, 1) := by decide +kernel
theorem dX10_unequal_0 : decode cX10_unequal 0 = .ok (.iconst 0, 1) := by decide +kernel
theorem dX10_unequal_1 : decode cX10_unequal 1 = .ok (.istore_n 2, 1) := by decide +kernel
theorem dX10_unequal_2 : decode cX10_unequal 2 = .ok (.iload_n 2, 1) := by decide +kernel
theorem dX10_unequal_3 : decode cX10_unequal 3 = .ok (.aload_n 0, 1) := by decide +kernel
theorem dX10_unequal_4 : decode cX10_unequal 4 = .ok (.getfield 9, 3) := by decide +kernel
theorem dX10_unequal_7 : decode cX10_unequal 7 = .ok (.iconst 1, 1) := by decide +kernel
theorem dX10_unequal_8 : decode cX10_unequal 8 = .ok (.iaload, 1) := by decide +kernel
theorem dX10_unequal_9 : decode cX10_unequal 9 = .ok (.if_icmp .ge 27, 3) := by decide +kernel
theorem dX10_unequal_12 : decode cX10_unequal 12 = .ok (.iload_n 1, 1) := by decide +kernel
theorem dX10_unequal_13 : decode cX10_unequal 13 = .ok (.aload_n 0, 1) := by decide +kernel
theorem dX10_unequal_14 : decode cX10_unequal 14 = .ok (.iload_n 2, 1) := by decide +kernel
theorem dX10_unequal_15 : decode cX10_unequal 15 = .ok (.invokevirtual 284, 3) := by decide +kernel
theorem dX10_unequal_18 : decode cX10_unequal 18 = .ok (.aload_n 0, 1) := by decide +kernel
theorem dX10_unequal_19 : decode cX10_unequal 19 = .ok (.iload_n 2, 1) := by decide +kernel
theorem dX10_unequal_20 : decode cX10_unequal 20 = .ok (.invokevirtual 62, 3) := by decide +kernel
theorem dX10_unequal_23 : decode cX10_unequal 23 = .ok (.isub, 1) := by decide +kernel
theorem dX10_unequal_24 : decode cX10_unequal 24 = .ok (.imul, 1) := by decide +kernel
theorem dX10_unequal_25 : decode cX10_unequal 25 = .ok (.ifCond .le 5, 3) := by decide +kernel
theorem dX10_unequal_28 : decode cX10_unequal 28 = .ok (.iload_n 2, 1) := by decide +kernel
theorem dX10_unequal_29 : decode cX10_unequal 29 = .ok (.ireturn, 1) := by decide +kernel
theorem dX10_unequal_30 : decode cX10_unequal 30 = .ok (.iinc 2 1, 3) := by decide +kernel
theorem dX10_unequal_33 : decode cX10_unequal 33 = .ok (.goto (-31), 3) := by decide +kernel
theorem dX10_unequal_36 : decode cX10_unequal 36 = .ok (.iconst (-1), 1) := by decide +kernel
theorem dX10_unequal_37 : decode cX10_unequal 37 = .ok (.ireturn, 1) := by decide +kernel
theorem dX10_mismatches_0 : decode cX10_mismatches 0 = .ok (.aload_n 0, 1) := by decide +kernel
theorem dX10_mismatches_1 : decode cX10_mismatches 1 = .ok (.iconst 0, 1) := by decide +kernel
theorem dX10_mismatches_2 : decode cX10_mismatches 2 = .ok (.putfield 50, 3) := by decide +kernel
theorem dX10_mismatches_5 : decode cX10_mismatches 5 = .ok (.iconst 0, 1) := by decide +kernel
theorem dX10_mismatches_6 : decode cX10_mismatches 6 = .ok (.istore_n 1, 1) := by decide +kernel
theorem dX10_mismatches_7 : decode cX10_mismatches 7 = .ok (.iconst 0, 1) := by decide +kernel
theorem dX10_mismatches_8 : decode cX10_mismatches 8 = .ok (.istore_n 2, 1) := by decide +kernel
theorem dX10_mismatches_9 : decode cX10_mismatches 9 = .ok (.iload_n 2, 1) := by decide +kernel
theorem dX10_mismatches_10 : decode cX10_mismatches 10 = .ok (.aload_n 0, 1) := by decide +kernel
theorem dX10_mismatches_11 : decode cX10_mismatches 11 = .ok (.getfield 9, 3) := by decide +kernel
theorem dX10_mismatches_14 : decode cX10_mismatches 14 = .ok (.iconst 1, 1) := by decide +kernel
theorem dX10_mismatches_15 : decode cX10_mismatches 15 = .ok (.iaload, 1) := by decide +kernel
theorem dX10_mismatches_16 : decode cX10_mismatches 16 = .ok (.if_icmp .ge 32, 3) := by decide +kernel
theorem dX10_mismatches_19 : decode cX10_mismatches 19 = .ok (.iload_n 1, 1) := by decide +kernel
theorem dX10_mismatches_20 : decode cX10_mismatches 20 = .ok (.aload_n 0, 1) := by decide +kernel
theorem dX10_mismatches_21 : decode cX10_mismatches 21 = .ok (.iload_n 2, 1) := by decide +kernel
theorem dX10_mismatches_22 : decode cX10_mismatches 22 = .ok (.invokevirtual 284, 3) := by decide +kernel
theorem dX10_mismatches_25 : decode cX10_mismatches 25 = .ok (.aload_n 0, 1) := by decide +kernel
theorem dX10_mismatches_26 : decode cX10_mismatches 26 = .ok (.iload_n 2, 1) := by decide +kernel
theorem dX10_mismatches_27 : decode cX10_mismatches 27 = .ok (.invokevirtual 62, 3) := by decide +kernel
theorem dX10_mismatches_30 : decode cX10_mismatches 30 = .ok (.if_icmp .eq 9, 3) := by decide +kernel
theorem dX10_mismatches_33 : decode cX10_mismatches 33 = .ok (.iconst 1, 1) := by decide +kernel
theorem dX10_mismatches_34 : decode cX10_mismatches 34 = .ok (.iload_n 2, 1) := by decide +kernel
theorem dX10_mismatches_35 : decode cX10_mismatches 35 = .ok (.ishl, 1) := by decide +kernel
theorem dX10_mismatches_36 : decode cX10_mismatches 36 = .ok (.goto 4, 3) := by decide +kernel
theorem dX10_mismatches_39 : decode cX10_mismatches 39 = .ok (.iconst 0, 1) := by decide +kernel
theorem dX10_mismatches_40 : decode cX10_mismatches 40 = .ok (.ior, 1) := by decide +kernel
theorem dX10_mismatches_41 : decode cX10_mismatches 41 = .ok (.istore_n 1, 1) := by decide +kernel
theorem dX10_mismatches_42 : decode cX10_mismatches 42 = .ok (.iinc 2 1, 3) := by decide +kernel
theorem dX10_mismatches_45 : decode cX10_mismatches 45 = .ok (.goto (-36), 3) := by decide +kernel
theorem dX10_mismatches_48 : decode cX10_mismatches 48 = .ok (.iload_n 1, 1) := by decide +kernel
theorem dX10_mismatches_49 : decode cX10_mismatches 49 = .ok (.ireturn, 1) := by decide +kernel
theorem dX10_reconcile_0 : decode cX10_reconcile 0 = .ok (.aload_n 0, 1) := by decide +kernel
theorem dX10_reconcile_1 : decode cX10_reconcile 1 = .ok (.iconst 0, 1) := by decide +kernel
theorem dX10_reconcile_2 : decode cX10_reconcile 2 = .ok (.putfield 50, 3) := by decide +kernel
theorem dX10_reconcile_5 : decode cX10_reconcile 5 = .ok (.aload_n 0, 1) := by decide +kernel
theorem dX10_reconcile_6 : decode cX10_reconcile 6 = .ok (.getfield 9, 3) := by decide +kernel
theorem dX10_reconcile_9 : decode cX10_reconcile 9 = .ok (.iconst 4, 1) := by decide +kernel
theorem dX10_reconcile_10 : decode cX10_reconcile 10 = .ok (.iaload, 1) := by decide +kernel
theorem dX10_reconcile_11 : decode cX10_reconcile 11 = .ok (.istore_n 1, 1) := by decide +kernel
theorem dX10_reconcile_12 : decode cX10_reconcile 12 = .ok (.aload_n 0, 1) := by decide +kernel
theorem dX10_reconcile_13 : decode cX10_reconcile 13 = .ok (.iconst 1, 1) := by decide +kernel
theorem dX10_reconcile_14 : decode cX10_reconcile 14 = .ok (.invokevirtual 311, 3) := by decide +kernel
theorem dX10_reconcile_17 : decode cX10_reconcile 17 = .ok (.istore_n 2, 1) := by decide +kernel
theorem dX10_reconcile_18 : decode cX10_reconcile 18 = .ok (.iload_n 2, 1) := by decide +kernel
theorem dX10_reconcile_19 : decode cX10_reconcile 19 = .ok (.iconst (-1), 1) := by decide +kernel
theorem dX10_reconcile_20 : decode cX10_reconcile 20 = .ok (.if_icmp .eq 69, 3) := by decide +kernel
theorem dX10_reconcile_23 : decode cX10_reconcile 23 = .ok (.aload_n 0, 1) := by decide +kernel
theorem dX10_reconcile_24 : decode cX10_reconcile 24 = .ok (.getfield 9, 3) := by decide +kernel
theorem dX10_reconcile_27 : decode cX10_reconcile 27 = .ok (.iconst 4, 1) := by decide +kernel
theorem dX10_reconcile_28 : decode cX10_reconcile 28 = .ok (.iaload, 1) := by decide +kernel
theorem dX10_reconcile_29 : decode cX10_reconcile 29 = .ok (.sipush 300, 3) := by decide +kernel
theorem dX10_reconcile_32 : decode cX10_reconcile 32 = .ok (.if_icmp .ge 57, 3) := by decide +kernel
theorem dX10_reconcile_35 : decode cX10_reconcile 35 = .ok (.aload_n 0, 1) := by decide +kernel
theorem dX10_reconcile_36 : decode cX10_reconcile 36 = .ok (.iconst (-1), 1) := by decide +kernel
theorem dX10_reconcile_37 : decode cX10_reconcile 37 = .ok (.invokevirtual 311, 3) := by decide +kernel
theorem dX10_reconcile_40 : decode cX10_reconcile 40 = .ok (.istore_n 3, 1) := by decide +kernel
theorem dX10_reconcile_41 : decode cX10_reconcile 41 = .ok (.aload_n 0, 1) := by decide +kernel
theorem dX10_reconcile_42 : decode cX10_reconcile 42 = .ok (.iload_n 2, 1) := by decide +kernel
theorem dX10_reconcile_43 : decode cX10_reconcile 43 = .ok (.invokevirtual 284, 3) := by decide +kernel
theorem dX10_reconcile_46 : decode cX10_reconcile 46 = .ok (.aload_n 0, 1) := by decide +kernel
theorem dX10_reconcile_47 : decode cX10_reconcile 47 = .ok (.iload_n 2, 1) := by decide +kernel
theorem dX10_reconcile_48 : decode cX10_reconcile 48 = .ok (.invokevirtual 62, 3) := by decide +kernel
theorem dX10_reconcile_51 : decode cX10_reconcile 51 = .ok (.isub, 1) := by decide +kernel
theorem dX10_reconcile_52 : decode cX10_reconcile 52 = .ok (.aload_n 0, 1) := by decide +kernel
theorem dX10_reconcile_53 : decode cX10_reconcile 53 = .ok (.iload_n 3, 1) := by decide +kernel
theorem dX10_reconcile_54 : decode cX10_reconcile 54 = .ok (.invokevirtual 62, 3) := by decide +kernel
theorem dX10_reconcile_57 : decode cX10_reconcile 57 = .ok (.aload_n 0, 1) := by decide +kernel
theorem dX10_reconcile_58 : decode cX10_reconcile 58 = .ok (.iload_n 3, 1) := by decide +kernel
theorem dX10_reconcile_59 : decode cX10_reconcile 59 = .ok (.invokevirtual 284, 3) := by decide +kernel
theorem dX10_reconcile_62 : decode cX10_reconcile 62 = .ok (.isub, 1) := by decide +kernel
theorem dX10_reconcile_63 : decode cX10_reconcile 63 = .ok (.invokestatic 189, 3) := by decide +kernel
theorem dX10_reconcile_66 : decode cX10_reconcile 66 = .ok (.istore 4, 2) := by decide +kernel
theorem dX10_reconcile_68 : decode cX10_reconcile 68 = .ok (.aload_n 0, 1) := by decide +kernel
theorem dX10_reconcile_69 : decode cX10_reconcile 69 = .ok (.iload_n 2, 1) := by decide +kernel
theorem dX10_reconcile_70 : decode cX10_reconcile 70 = .ok (.iload_n 3, 1) := by decide +kernel
theorem dX10_reconcile_71 : decode cX10_reconcile 71 = .ok (.iload 4, 2) := by decide +kernel
theorem dX10_reconcile_73 : decode cX10_reconcile 73 = .ok (.iconst 0, 1) := by decide +kernel
theorem dX10_reconcile_74 : decode cX10_reconcile 74 = .ok (.iconst 2, 1) := by decide +kernel
theorem dX10_reconcile_75 : decode cX10_reconcile 75 = .ok (.iconst (-1), 1) := by decide +kernel
theorem dX10_reconcile_76 : decode cX10_reconcile 76 = .ok (.invokevirtual 88, 3) := by decide +kernel
theorem dX10_reconcile_79 : decode cX10_reconcile 79 = .ok (.pop, 1) := by decide +kernel
theorem dX10_reconcile_80 : decode cX10_reconcile 80 = .ok (.aload_n 0, 1) := by decide +kernel
theorem dX10_reconcile_81 : decode cX10_reconcile 81 = .ok (.iconst 1, 1) := by decide +kernel
theorem dX10_reconcile_82 : decode cX10_reconcile 82 = .ok (.invokevirtual 311, 3) := by decide +kernel
theorem dX10_reconcile_85 : decode cX10_reconcile 85 = .ok (.istore_n 2, 1) := by decide +kernel
theorem dX10_reconcile_86 : decode cX10_reconcile 86 = .ok (.goto (-68), 3) := by decide +kernel
theorem dX10_reconcile_89 : decode cX10_reconcile 89 = .ok (.iload_n 2, 1) := by decide +kernel
theorem dX10_reconcile_90 : decode cX10_reconcile 90 = .ok (.iconst (-1), 1) := by decide +kernel
theorem dX10_reconcile_91 : decode cX10_reconcile 91 = .ok (.if_icmp .eq 13, 3) := by decide +kernel
theorem dX10_reconcile_94 : decode cX10_reconcile 94 = .ok (.aload_n 0, 1) := by decide +kernel
theorem dX10_reconcile_95 : decode cX10_reconcile 95 = .ok (.getfield 9, 3) := by decide +kernel
theorem dX10_reconcile_98 : decode cX10_reconcile 98 = .ok (.iconst 4, 1) := by decide +kernel
theorem dX10_reconcile_99 : decode cX10_reconcile 99 = .ok (.iload_n 1, 1) := by decide +kernel
theorem dX10_reconcile_100 : decode cX10_reconcile 100 = .ok (.iastore, 1) := by decide +kernel
theorem dX10_reconcile_101 : decode cX10_reconcile 101 = .ok (.bipush (-2), 2) := by decide +kernel
theorem dX10_reconcile_103 : decode cX10_reconcile 103 = .ok (.ireturn, 1) := by decide +kernel
theorem dX10_reconcile_104 : decode cX10_reconcile 104 = .ok (.aload_n 0, 1) := by decide +kernel
theorem dX10_reconcile_105 : decode cX10_reconcile 105 = .ok (.getfield 9, 3) := by decide +kernel
theorem dX10_reconcile_108 : decode cX10_reconcile 108 = .ok (.iconst 4, 1) := by decide +kernel
theorem dX10_reconcile_109 : decode cX10_reconcile 109 = .ok (.iaload, 1) := by decide +kernel
theorem dX10_reconcile_110 : decode cX10_reconcile 110 = .ok (.iload_n 1, 1) := by decide +kernel
theorem dX10_reconcile_111 : decode cX10_reconcile 111 = .ok (.isub, 1) := by decide +kernel
theorem dX10_reconcile_112 : decode cX10_reconcile 112 = .ok (.ireturn, 1) := by decide +kernel
theorem dX10_checkpoint_0 : decode cX10_checkpoint 0 = .ok (.aload_n 0, 1) := by decide +kernel
theorem dX10_checkpoint_1 : decode cX10_checkpoint 1 = .ok (.iconst 0, 1) := by decide +kernel
theorem dX10_checkpoint_2 : decode cX10_checkpoint 2 = .ok (.putfield 50, 3) := by decide +kernel
theorem dX10_checkpoint_5 : decode cX10_checkpoint 5 = .ok (.aload_n 0, 1) := by decide +kernel
theorem dX10_checkpoint_6 : decode cX10_checkpoint 6 = .ok (.getfield 9, 3) := by decide +kernel
theorem dX10_checkpoint_9 : decode cX10_checkpoint 9 = .ok (.bipush 6, 2) := by decide +kernel
theorem dX10_checkpoint_11 : decode cX10_checkpoint 11 = .ok (.iaload, 1) := by decide +kernel
theorem dX10_checkpoint_12 : decode cX10_checkpoint 12 = .ok (.bipush 10, 2) := by decide +kernel
theorem dX10_checkpoint_14 : decode cX10_checkpoint 14 = .ok (.if_icmp .ne 6, 3) := by decide +kernel
theorem dX10_checkpoint_17 : decode cX10_checkpoint 17 = .ok (.bipush (-2), 2) := by decide +kernel
theorem dX10_checkpoint_19 : decode cX10_checkpoint 19 = .ok (.ireturn, 1) := by decide +kernel
theorem dX10_checkpoint_20 : decode cX10_checkpoint 20 = .ok (.sipush 4971, 3) := by decide +kernel
theorem dX10_checkpoint_23 : decode cX10_checkpoint 23 = .ok (.bipush 9, 2) := by decide +kernel
theorem dX10_checkpoint_25 : decode cX10_checkpoint 25 = .ok (.aload_n 0, 1) := by decide +kernel
theorem dX10_checkpoint_26 : decode cX10_checkpoint 26 = .ok (.getfield 9, 3) := by decide +kernel
theorem dX10_checkpoint_29 : decode cX10_checkpoint 29 = .ok (.bipush 6, 2) := by decide +kernel
theorem dX10_checkpoint_31 : decode cX10_checkpoint 31 = .ok (.iaload, 1) := by decide +kernel
theorem dX10_checkpoint_32 : decode cX10_checkpoint 32 = .ok (.imul, 1) := by decide +kernel
theorem dX10_checkpoint_33 : decode cX10_checkpoint 33 = .ok (.iadd, 1) := by decide +kernel
theorem dX10_checkpoint_34 : decode cX10_checkpoint 34 = .ok (.istore_n 1, 1) := by decide +kernel
theorem dX10_checkpoint_35 : decode cX10_checkpoint 35 = .ok (.iconst 0, 1) := by decide +kernel
theorem dX10_checkpoint_36 : decode cX10_checkpoint 36 = .ok (.istore_n 2, 1) := by decide +kernel
theorem dX10_checkpoint_37 : decode cX10_checkpoint 37 = .ok (.iload_n 2, 1) := by decide +kernel
theorem dX10_checkpoint_38 : decode cX10_checkpoint 38 = .ok (.bipush 8, 2) := by decide +kernel
theorem dX10_checkpoint_40 : decode cX10_checkpoint 40 = .ok (.if_icmp .ge 22, 3) := by decide +kernel
theorem dX10_checkpoint_43 : decode cX10_checkpoint 43 = .ok (.aload_n 0, 1) := by decide +kernel
theorem dX10_checkpoint_44 : decode cX10_checkpoint 44 = .ok (.getfield 9, 3) := by decide +kernel
theorem dX10_checkpoint_47 : decode cX10_checkpoint 47 = .ok (.iload_n 1, 1) := by decide +kernel
theorem dX10_checkpoint_48 : decode cX10_checkpoint 48 = .ok (.iload_n 2, 1) := by decide +kernel
theorem dX10_checkpoint_49 : decode cX10_checkpoint 49 = .ok (.iadd, 1) := by decide +kernel
theorem dX10_checkpoint_50 : decode cX10_checkpoint 50 = .ok (.aload_n 0, 1) := by decide +kernel
theorem dX10_checkpoint_51 : decode cX10_checkpoint 51 = .ok (.iload_n 2, 1) := by decide +kernel
theorem dX10_checkpoint_52 : decode cX10_checkpoint 52 = .ok (.invokevirtual 62, 3) := by decide +kernel
theorem dX10_checkpoint_55 : decode cX10_checkpoint 55 = .ok (.iastore, 1) := by decide +kernel
theorem dX10_checkpoint_56 : decode cX10_checkpoint 56 = .ok (.iinc 2 1, 3) := by decide +kernel
theorem dX10_checkpoint_59 : decode cX10_checkpoint 59 = .ok (.goto (-22), 3) := by decide +kernel
theorem dX10_checkpoint_62 : decode cX10_checkpoint 62 = .ok (.aload_n 0, 1) := by decide +kernel
theorem dX10_checkpoint_63 : decode cX10_checkpoint 63 = .ok (.getfield 9, 3) := by decide +kernel
theorem dX10_checkpoint_66 : decode cX10_checkpoint 66 = .ok (.iload_n 1, 1) := by decide +kernel
theorem dX10_checkpoint_67 : decode cX10_checkpoint 67 = .ok (.bipush 8, 2) := by decide +kernel
theorem dX10_checkpoint_69 : decode cX10_checkpoint 69 = .ok (.iadd, 1) := by decide +kernel
theorem dX10_checkpoint_70 : decode cX10_checkpoint 70 = .ok (.aload_n 0, 1) := by decide +kernel
theorem dX10_checkpoint_71 : decode cX10_checkpoint 71 = .ok (.getfield 9, 3) := by decide +kernel
theorem dX10_checkpoint_74 : decode cX10_checkpoint 74 = .ok (.iconst 4, 1) := by decide +kernel
theorem dX10_checkpoint_75 : decode cX10_checkpoint 75 = .ok (.iaload, 1) := by decide +kernel
theorem dX10_checkpoint_76 : decode cX10_checkpoint 76 = .ok (.iastore, 1) := by decide +kernel
theorem dX10_checkpoint_77 : decode cX10_checkpoint 77 = .ok (.aload_n 0, 1) := by decide +kernel
theorem dX10_checkpoint_78 : decode cX10_checkpoint 78 = .ok (.getfield 9, 3) := by decide +kernel
theorem dX10_checkpoint_81 : decode cX10_checkpoint 81 = .ok (.bipush 6, 2) := by decide +kernel
theorem dX10_checkpoint_83 : decode cX10_checkpoint 83 = .ok (.dup2, 1) := by decide +kernel
theorem dX10_checkpoint_84 : decode cX10_checkpoint 84 = .ok (.iaload, 1) := by decide +kernel
theorem dX10_checkpoint_85 : decode cX10_checkpoint 85 = .ok (.iconst 1, 1) := by decide +kernel
theorem dX10_checkpoint_86 : decode cX10_checkpoint 86 = .ok (.iadd, 1) := by decide +kernel
theorem dX10_checkpoint_87 : decode cX10_checkpoint 87 = .ok (.iastore, 1) := by decide +kernel
theorem dX10_checkpoint_88 : decode cX10_checkpoint 88 = .ok (.aload_n 0, 1) := by decide +kernel
theorem dX10_checkpoint_89 : decode cX10_checkpoint 89 = .ok (.getfield 9, 3) := by decide +kernel
theorem dX10_checkpoint_92 : decode cX10_checkpoint 92 = .ok (.bipush 6, 2) := by decide +kernel
theorem dX10_checkpoint_94 : decode cX10_checkpoint 94 = .ok (.iaload, 1) := by decide +kernel
theorem dX10_checkpoint_95 : decode cX10_checkpoint 95 = .ok (.iconst 1, 1) := by decide +kernel
theorem dX10_checkpoint_96 : decode cX10_checkpoint 96 = .ok (.isub, 1) := by decide +kernel
theorem dX10_checkpoint_97 : decode cX10_checkpoint 97 = .ok (.ireturn, 1) := by decide +kernel
theorem dX10_areChecks_0 : decode cX10_areChecks 0 = .ok (.iload_n 1, 1) := by decide +kernel
theorem dX10_areChecks_1 : decode cX10_areChecks 1 = .ok (.iconst 0, 1) := by decide +kernel
theorem dX10_areChecks_2 : decode cX10_areChecks 2 = .ok (.aload_n 0, 1) := by decide +kernel
theorem dX10_areChecks_3 : decode cX10_areChecks 3 = .ok (.getfield 9, 3) := by decide +kernel
theorem dX10_areChecks_6 : decode cX10_areChecks 6 = .ok (.bipush 6, 2) := by decide +kernel
theorem dX10_areChecks_8 : decode cX10_areChecks 8 = .ok (.iaload, 1) := by decide +kernel
theorem dX10_areChecks_9 : decode cX10_areChecks 9 = .ok (.iconst 1, 1) := by decide +kernel
theorem dX10_areChecks_10 : decode cX10_areChecks 10 = .ok (.isub, 1) := by decide +kernel
theorem dX10_areChecks_11 : decode cX10_areChecks 11 = .ok (.invokestatic 54, 3) := by decide +kernel
theorem dX10_areChecks_14 : decode cX10_areChecks 14 = .ok (.ifCond .eq 24, 3) := by decide +kernel
theorem dX10_areChecks_17 : decode cX10_areChecks 17 = .ok (.iload_n 2, 1) := by decide +kernel
theorem dX10_areChecks_18 : decode cX10_areChecks 18 = .ok (.iload_n 1, 1) := by decide +kernel
theorem dX10_areChecks_19 : decode cX10_areChecks 19 = .ok (.aload_n 0, 1) := by decide +kernel
theorem dX10_areChecks_20 : decode cX10_areChecks 20 = .ok (.getfield 9, 3) := by decide +kernel
theorem dX10_areChecks_23 : decode cX10_areChecks 23 = .ok (.bipush 6, 2) := by decide +kernel
theorem dX10_areChecks_25 : decode cX10_areChecks 25 = .ok (.iaload, 1) := by decide +kernel
theorem dX10_areChecks_26 : decode cX10_areChecks 26 = .ok (.iconst 1, 1) := by decide +kernel
theorem dX10_areChecks_27 : decode cX10_areChecks 27 = .ok (.isub, 1) := by decide +kernel
theorem dX10_areChecks_28 : decode cX10_areChecks 28 = .ok (.invokestatic 54, 3) := by decide +kernel
theorem dX10_areChecks_31 : decode cX10_areChecks 31 = .ok (.ifCond .eq 7, 3) := by decide +kernel
theorem dX10_areChecks_34 : decode cX10_areChecks 34 = .ok (.iconst 1, 1) := by decide +kernel
theorem dX10_areChecks_35 : decode cX10_areChecks 35 = .ok (.goto 4, 3) := by decide +kernel
theorem dX10_areChecks_38 : decode cX10_areChecks 38 = .ok (.iconst 0, 1) := by decide +kernel
theorem dX10_areChecks_39 : decode cX10_areChecks 39 = .ok (.ireturn, 1) := by decide +kernel
theorem dX10_check_0 : decode cX10_check 0 = .ok (.aload_n 0, 1) := by decide +kernel
theorem dX10_check_1 : decode cX10_check 1 = .ok (.getfield 9, 3) := by decide +kernel
theorem dX10_check_4 : decode cX10_check 4 = .ok (.sipush 4971, 3) := by decide +kernel
theorem dX10_check_7 : decode cX10_check 7 = .ok (.bipush 9, 2) := by decide +kernel
theorem dX10_check_9 : decode cX10_check 9 = .ok (.iload_n 1, 1) := by decide +kernel
theorem dX10_check_10 : decode cX10_check 10 = .ok (.imul, 1) := by decide +kernel
theorem dX10_check_11 : decode cX10_check 11 = .ok (.iadd, 1) := by decide +kernel
theorem dX10_check_12 : decode cX10_check 12 = .ok (.iload_n 2, 1) := by decide +kernel
theorem dX10_check_13 : decode cX10_check 13 = .ok (.iadd, 1) := by decide +kernel
theorem dX10_check_14 : decode cX10_check 14 = .ok (.iaload, 1) := by decide +kernel
theorem dX10_check_15 : decode cX10_check 15 = .ok (.ireturn, 1) := by decide +kernel
theorem dX10_audited_0 : decode cX10_audited 0 = .ok (.aload_n 0, 1) := by decide +kernel
theorem dX10_audited_1 : decode cX10_audited 1 = .ok (.iload_n 2, 1) := by decide +kernel
theorem dX10_audited_2 : decode cX10_audited 2 = .ok (.iload_n 3, 1) := by decide +kernel
theorem dX10_audited_3 : decode cX10_audited 3 = .ok (.invokevirtual 314, 3) := by decide +kernel
theorem dX10_audited_6 : decode cX10_audited 6 = .ok (.aload_n 0, 1) := by decide +kernel
theorem dX10_audited_7 : decode cX10_audited 7 = .ok (.iload_n 1, 1) := by decide +kernel
theorem dX10_audited_8 : decode cX10_audited 8 = .ok (.iload_n 3, 1) := by decide +kernel
theorem dX10_audited_9 : decode cX10_audited 9 = .ok (.invokevirtual 314, 3) := by decide +kernel
theorem dX10_audited_12 : decode cX10_audited 12 = .ok (.isub, 1) := by decide +kernel
theorem dX10_audited_13 : decode cX10_audited 13 = .ok (.istore 4, 2) := by decide +kernel
theorem dX10_audited_15 : decode cX10_audited 15 = .ok (.aload_n 0, 1) := by decide +kernel
theorem dX10_audited_16 : decode cX10_audited 16 = .ok (.iload_n 3, 1) := by decide +kernel
theorem dX10_audited_17 : decode cX10_audited 17 = .ok (.aload_n 0, 1) := by decide +kernel
theorem dX10_audited_18 : decode cX10_audited 18 = .ok (.iload_n 2, 1) := by decide +kernel
theorem dX10_audited_19 : decode cX10_audited 19 = .ok (.bipush 8, 2) := by decide +kernel
theorem dX10_audited_21 : decode cX10_audited 21 = .ok (.invokevirtual 314, 3) := by decide +kernel
theorem dX10_audited_24 : decode cX10_audited 24 = .ok (.invokevirtual 281, 3) := by decide +kernel
theorem dX10_audited_27 : decode cX10_audited 27 = .ok (.aload_n 0, 1) := by decide +kernel
theorem dX10_audited_28 : decode cX10_audited 28 = .ok (.iload_n 3, 1) := by decide +kernel
theorem dX10_audited_29 : decode cX10_audited 29 = .ok (.aload_n 0, 1) := by decide +kernel
theorem dX10_audited_30 : decode cX10_audited 30 = .ok (.iload_n 1, 1) := by decide +kernel
theorem dX10_audited_31 : decode cX10_audited 31 = .ok (.bipush 8, 2) := by decide +kernel
theorem dX10_audited_33 : decode cX10_audited 33 = .ok (.invokevirtual 314, 3) := by decide +kernel
theorem dX10_audited_36 : decode cX10_audited 36 = .ok (.invokevirtual 281, 3) := by decide +kernel
theorem dX10_audited_39 : decode cX10_audited 39 = .ok (.isub, 1) := by decide +kernel
theorem dX10_audited_40 : decode cX10_audited 40 = .ok (.istore 5, 2) := by decide +kernel
theorem dX10_audited_42 : decode cX10_audited 42 = .ok (.iload 4, 2) := by decide +kernel
theorem dX10_audited_44 : decode cX10_audited 44 = .ok (.iload 5, 2) := by decide +kernel
theorem dX10_audited_46 : decode cX10_audited 46 = .ok (.isub, 1) := by decide +kernel
theorem dX10_audited_47 : decode cX10_audited 47 = .ok (.ireturn, 1) := by decide +kernel
theorem dX10_auditSet_0 : decode cX10_auditSet 0 = .ok (.aload_n 0, 1) := by decide +kernel
theorem dX10_auditSet_1 : decode cX10_auditSet 1 = .ok (.aload_n 0, 1) := by decide +kernel
theorem dX10_auditSet_2 : decode cX10_auditSet 2 = .ok (.iload_n 1, 1) := by decide +kernel
theorem dX10_auditSet_3 : decode cX10_auditSet 3 = .ok (.iload_n 2, 1) := by decide +kernel
theorem dX10_auditSet_4 : decode cX10_auditSet 4 = .ok (.invokevirtual 317, 3) := by decide +kernel
theorem dX10_auditSet_7 : decode cX10_auditSet 7 = .ok (.iconst 1, 1) := by decide +kernel
theorem dX10_auditSet_8 : decode cX10_auditSet 8 = .ok (.invokevirtual 113, 3) := by decide +kernel
theorem dX10_auditSet_11 : decode cX10_auditSet 11 = .ok (.ifCond .eq 5, 3) := by decide +kernel
theorem dX10_auditSet_14 : decode cX10_auditSet 14 = .ok (.iconst 0, 1) := by decide +kernel
theorem dX10_auditSet_15 : decode cX10_auditSet 15 = .ok (.ireturn, 1) := by decide +kernel
theorem dX10_auditSet_16 : decode cX10_auditSet 16 = .ok (.iconst 0, 1) := by decide +kernel
theorem dX10_auditSet_17 : decode cX10_auditSet 17 = .ok (.istore_n 3, 1) := by decide +kernel
theorem dX10_auditSet_18 : decode cX10_auditSet 18 = .ok (.iconst 0, 1) := by decide +kernel
theorem dX10_auditSet_19 : decode cX10_auditSet 19 = .ok (.istore 4, 2) := by decide +kernel
theorem dX10_auditSet_21 : decode cX10_auditSet 21 = .ok (.iload 4, 2) := by decide +kernel
theorem dX10_auditSet_23 : decode cX10_auditSet 23 = .ok (.aload_n 0, 1) := by decide +kernel
theorem dX10_auditSet_24 : decode cX10_auditSet 24 = .ok (.getfield 9, 3) := by decide +kernel
theorem dX10_auditSet_27 : decode cX10_auditSet 27 = .ok (.iconst 1, 1) := by decide +kernel
theorem dX10_auditSet_28 : decode cX10_auditSet 28 = .ok (.iaload, 1) := by decide +kernel
theorem dX10_auditSet_29 : decode cX10_auditSet 29 = .ok (.if_icmp .ge 31, 3) := by decide +kernel
theorem dX10_auditSet_32 : decode cX10_auditSet 32 = .ok (.iload_n 3, 1) := by decide +kernel
theorem dX10_auditSet_33 : decode cX10_auditSet 33 = .ok (.aload_n 0, 1) := by decide +kernel
theorem dX10_auditSet_34 : decode cX10_auditSet 34 = .ok (.iload_n 1, 1) := by decide +kernel
theorem dX10_auditSet_35 : decode cX10_auditSet 35 = .ok (.iload_n 2, 1) := by decide +kernel
theorem dX10_auditSet_36 : decode cX10_auditSet 36 = .ok (.iload 4, 2) := by decide +kernel
theorem dX10_auditSet_38 : decode cX10_auditSet 38 = .ok (.invokevirtual 320, 3) := by decide +kernel
theorem dX10_auditSet_41 : decode cX10_auditSet 41 = .ok (.ifCond .eq 10, 3) := by decide +kernel
theorem dX10_auditSet_44 : decode cX10_auditSet 44 = .ok (.iconst 1, 1) := by decide +kernel
theorem dX10_auditSet_45 : decode cX10_auditSet 45 = .ok (.iload 4, 2) := by decide +kernel
theorem dX10_auditSet_47 : decode cX10_auditSet 47 = .ok (.ishl, 1) := by decide +kernel
theorem dX10_auditSet_48 : decode cX10_auditSet 48 = .ok (.goto 4, 3) := by decide +kernel
theorem dX10_auditSet_51 : decode cX10_auditSet 51 = .ok (.iconst 0, 1) := by decide +kernel
theorem dX10_auditSet_52 : decode cX10_auditSet 52 = .ok (.ior, 1) := by decide +kernel
theorem dX10_auditSet_53 : decode cX10_auditSet 53 = .ok (.istore_n 3, 1) := by decide +kernel
theorem dX10_auditSet_54 : decode cX10_auditSet 54 = .ok (.iinc 4 1, 3) := by decide +kernel
theorem dX10_auditSet_57 : decode cX10_auditSet 57 = .ok (.goto (-36), 3) := by decide +kernel
theorem dX10_auditSet_60 : decode cX10_auditSet 60 = .ok (.iload_n 3, 1) := by decide +kernel
theorem dX10_auditSet_61 : decode cX10_auditSet 61 = .ok (.ireturn, 1) := by decide +kernel
theorem dX10_auditOf_0 : decode cX10_auditOf 0 = .ok (.aload_n 0, 1) := by decide +kernel
theorem dX10_auditOf_1 : decode cX10_auditOf 1 = .ok (.aload_n 0, 1) := by decide +kernel
theorem dX10_auditOf_2 : decode cX10_auditOf 2 = .ok (.iload_n 3, 1) := by decide +kernel
theorem dX10_auditOf_3 : decode cX10_auditOf 3 = .ok (.invokevirtual 109, 3) := by decide +kernel
theorem dX10_auditOf_6 : decode cX10_auditOf 6 = .ok (.iconst 1, 1) := by decide +kernel
theorem dX10_auditOf_7 : decode cX10_auditOf 7 = .ok (.invokevirtual 113, 3) := by decide +kernel
theorem dX10_auditOf_10 : decode cX10_auditOf 10 = .ok (.ifCond .ne 17, 3) := by decide +kernel
theorem dX10_auditOf_13 : decode cX10_auditOf 13 = .ok (.aload_n 0, 1) := by decide +kernel
theorem dX10_auditOf_14 : decode cX10_auditOf 14 = .ok (.aload_n 0, 1) := by decide +kernel
theorem dX10_auditOf_15 : decode cX10_auditOf 15 = .ok (.iload_n 1, 1) := by decide +kernel
theorem dX10_auditOf_16 : decode cX10_auditOf 16 = .ok (.iload_n 2, 1) := by decide +kernel
theorem dX10_auditOf_17 : decode cX10_auditOf 17 = .ok (.invokevirtual 317, 3) := by decide +kernel
theorem dX10_auditOf_20 : decode cX10_auditOf 20 = .ok (.iconst 2, 1) := by decide +kernel
theorem dX10_auditOf_21 : decode cX10_auditOf 21 = .ok (.invokevirtual 113, 3) := by decide +kernel
theorem dX10_auditOf_24 : decode cX10_auditOf 24 = .ok (.ifCond .eq 5, 3) := by decide +kernel
theorem dX10_auditOf_27 : decode cX10_auditOf 27 = .ok (.iconst 0, 1) := by decide +kernel
theorem dX10_auditOf_28 : decode cX10_auditOf 28 = .ok (.ireturn, 1) := by decide +kernel
theorem dX10_auditOf_29 : decode cX10_auditOf 29 = .ok (.aload_n 0, 1) := by decide +kernel
theorem dX10_auditOf_30 : decode cX10_auditOf 30 = .ok (.iload_n 1, 1) := by decide +kernel
theorem dX10_auditOf_31 : decode cX10_auditOf 31 = .ok (.iload_n 2, 1) := by decide +kernel
theorem dX10_auditOf_32 : decode cX10_auditOf 32 = .ok (.iload_n 3, 1) := by decide +kernel
theorem dX10_auditOf_33 : decode cX10_auditOf 33 = .ok (.invokevirtual 320, 3) := by decide +kernel
theorem dX10_auditOf_36 : decode cX10_auditOf 36 = .ok (.ireturn, 1) := by decide +kernel
theorem dX10_saveSnapshot_0 : decode cX10_saveSnapshot 0 = .ok (.aload_n 0, 1) := by decide +kernel
theorem dX10_saveSnapshot_1 : decode cX10_saveSnapshot 1 = .ok (.iload_n 1, 1) := by decide +kernel
theorem dX10_saveSnapshot_2 : decode cX10_saveSnapshot 2 = .ok (.iconst 0, 1) := by decide +kernel
theorem dX10_saveSnapshot_3 : decode cX10_saveSnapshot 3 = .ok (.iconst 1, 1) := by decide +kernel
theorem dX10_saveSnapshot_4 : decode cX10_saveSnapshot 4 = .ok (.invokestatic 54, 3) := by decide +kernel
theorem dX10_saveSnapshot_7 : decode cX10_saveSnapshot 7 = .ok (.iconst 1, 1) := by decide +kernel
theorem dX10_saveSnapshot_8 : decode cX10_saveSnapshot 8 = .ok (.invokevirtual 113, 3) := by decide +kernel
theorem dX10_saveSnapshot_11 : decode cX10_saveSnapshot 11 = .ok (.ifCond .eq 5, 3) := by decide +kernel
theorem dX10_saveSnapshot_14 : decode cX10_saveSnapshot 14 = .ok (.iconst 0, 1) := by decide +kernel
theorem dX10_saveSnapshot_15 : decode cX10_saveSnapshot 15 = .ok (.ireturn, 1) := by decide +kernel
theorem dX10_saveSnapshot_16 : decode cX10_saveSnapshot 16 = .ok (.aload_n 0, 1) := by decide +kernel
theorem dX10_saveSnapshot_17 : decode cX10_saveSnapshot 17 = .ok (.getfield 9, 3) := by decide +kernel
theorem dX10_saveSnapshot_20 : decode cX10_saveSnapshot 20 = .ok (.iconst 0, 1) := by decide +kernel
theorem dX10_saveSnapshot_21 : decode cX10_saveSnapshot 21 = .ok (.aload_n 0, 1) := by decide +kernel
theorem dX10_saveSnapshot_22 : decode cX10_saveSnapshot 22 = .ok (.getfield 19, 3) := by decide +kernel
theorem dX10_saveSnapshot_25 : decode cX10_saveSnapshot 25 = .ok (.iload_n 1, 1) := by decide +kernel
theorem dX10_saveSnapshot_26 : decode cX10_saveSnapshot 26 = .ok (.invokestatic 252, 3) := by decide +kernel
theorem dX10_saveSnapshot_29 : decode cX10_saveSnapshot 29 = .ok (.aload_n 0, 1) := by decide +kernel
theorem dX10_saveSnapshot_30 : decode cX10_saveSnapshot 30 = .ok (.getfield 22, 3) := by decide +kernel
theorem dX10_saveSnapshot_33 : decode cX10_saveSnapshot 33 = .ok (.iconst 0, 1) := by decide +kernel
theorem dX10_saveSnapshot_34 : decode cX10_saveSnapshot 34 = .ok (.aload_n 0, 1) := by decide +kernel
theorem dX10_saveSnapshot_35 : decode cX10_saveSnapshot 35 = .ok (.getfield 29, 3) := by decide +kernel
theorem dX10_saveSnapshot_38 : decode cX10_saveSnapshot 38 = .ok (.iload_n 1, 1) := by decide +kernel
theorem dX10_saveSnapshot_39 : decode cX10_saveSnapshot 39 = .ok (.invokestatic 268, 3) := by decide +kernel
theorem dX10_saveSnapshot_42 : decode cX10_saveSnapshot 42 = .ok (.aload_n 0, 1) := by decide +kernel
theorem dX10_saveSnapshot_43 : decode cX10_saveSnapshot 43 = .ok (.getfield 32, 3) := by decide +kernel
theorem dX10_saveSnapshot_46 : decode cX10_saveSnapshot 46 = .ok (.iload_n 1, 1) := by decide +kernel
theorem dX10_saveSnapshot_47 : decode cX10_saveSnapshot 47 = .ok (.iconst 1, 1) := by decide +kernel
theorem dX10_saveSnapshot_48 : decode cX10_saveSnapshot 48 = .ok (.bastore, 1) := by decide +kernel
theorem dX10_saveSnapshot_49 : decode cX10_saveSnapshot 49 = .ok (.aload_n 0, 1) := by decide +kernel
theorem dX10_saveSnapshot_50 : decode cX10_saveSnapshot 50 = .ok (.getfield 9, 3) := by decide +kernel
theorem dX10_saveSnapshot_53 : decode cX10_saveSnapshot 53 = .ok (.iconst 2, 1) := by decide +kernel
theorem dX10_saveSnapshot_54 : decode cX10_saveSnapshot 54 = .ok (.iaload, 1) := by decide +kernel
theorem dX10_saveSnapshot_55 : decode cX10_saveSnapshot 55 = .ok (.ireturn, 1) := by decide +kernel
theorem dX10_restoreSnapshot_0 : decode cX10_restoreSnapshot 0 = .ok (.aload_n 0, 1) := by decide +kernel
theorem dX10_restoreSnapshot_1 : decode cX10_restoreSnapshot 1 = .ok (.iload_n 1, 1) := by decide +kernel
theorem dX10_restoreSnapshot_2 : decode cX10_restoreSnapshot 2 = .ok (.iconst 0, 1) := by decide +kernel
theorem dX10_restoreSnapshot_3 : decode cX10_restoreSnapshot 3 = .ok (.iconst 1, 1) := by decide +kernel
theorem dX10_restoreSnapshot_4 : decode cX10_restoreSnapshot 4 = .ok (.invokestatic 54, 3) := by decide +kernel
theorem dX10_restoreSnapshot_7 : decode cX10_restoreSnapshot 7 = .ok (.iconst 1, 1) := by decide +kernel
theorem dX10_restoreSnapshot_8 : decode cX10_restoreSnapshot 8 = .ok (.invokevirtual 113, 3) := by decide +kernel
theorem dX10_restoreSnapshot_11 : decode cX10_restoreSnapshot 11 = .ok (.ifCond .eq 5, 3) := by decide +kernel
theorem dX10_restoreSnapshot_14 : decode cX10_restoreSnapshot 14 = .ok (.iconst 0, 1) := by decide +kernel
theorem dX10_restoreSnapshot_15 : decode cX10_restoreSnapshot 15 = .ok (.ireturn, 1) := by decide +kernel
theorem dX10_restoreSnapshot_16 : decode cX10_restoreSnapshot 16 = .ok (.aload_n 0, 1) := by decide +kernel
theorem dX10_restoreSnapshot_17 : decode cX10_restoreSnapshot 17 = .ok (.getfield 32, 3) := by decide +kernel
theorem dX10_restoreSnapshot_20 : decode cX10_restoreSnapshot 20 = .ok (.iload_n 1, 1) := by decide +kernel
theorem dX10_restoreSnapshot_21 : decode cX10_restoreSnapshot 21 = .ok (.baload, 1) := by decide +kernel
theorem dX10_restoreSnapshot_22 : decode cX10_restoreSnapshot 22 = .ok (.ifCond .ne 5, 3) := by decide +kernel
theorem dX10_restoreSnapshot_25 : decode cX10_restoreSnapshot 25 = .ok (.iconst (-1), 1) := by decide +kernel
theorem dX10_restoreSnapshot_26 : decode cX10_restoreSnapshot 26 = .ok (.ireturn, 1) := by decide +kernel
theorem dX10_restoreSnapshot_27 : decode cX10_restoreSnapshot 27 = .ok (.aload_n 0, 1) := by decide +kernel
theorem dX10_restoreSnapshot_28 : decode cX10_restoreSnapshot 28 = .ok (.getfield 19, 3) := by decide +kernel
theorem dX10_restoreSnapshot_31 : decode cX10_restoreSnapshot 31 = .ok (.iload_n 1, 1) := by decide +kernel
theorem dX10_restoreSnapshot_32 : decode cX10_restoreSnapshot 32 = .ok (.aload_n 0, 1) := by decide +kernel
theorem dX10_restoreSnapshot_33 : decode cX10_restoreSnapshot 33 = .ok (.getfield 9, 3) := by decide +kernel
theorem dX10_restoreSnapshot_36 : decode cX10_restoreSnapshot 36 = .ok (.iconst 0, 1) := by decide +kernel
theorem dX10_restoreSnapshot_37 : decode cX10_restoreSnapshot 37 = .ok (.invokestatic 252, 3) := by decide +kernel
theorem dX10_restoreSnapshot_40 : decode cX10_restoreSnapshot 40 = .ok (.aload_n 0, 1) := by decide +kernel
theorem dX10_restoreSnapshot_41 : decode cX10_restoreSnapshot 41 = .ok (.getfield 29, 3) := by decide +kernel
theorem dX10_restoreSnapshot_44 : decode cX10_restoreSnapshot 44 = .ok (.iload_n 1, 1) := by decide +kernel
theorem dX10_restoreSnapshot_45 : decode cX10_restoreSnapshot 45 = .ok (.aload_n 0, 1) := by decide +kernel
theorem dX10_restoreSnapshot_46 : decode cX10_restoreSnapshot 46 = .ok (.getfield 22, 3) := by decide +kernel
theorem dX10_restoreSnapshot_49 : decode cX10_restoreSnapshot 49 = .ok (.iconst 0, 1) := by decide +kernel
theorem dX10_restoreSnapshot_50 : decode cX10_restoreSnapshot 50 = .ok (.invokestatic 268, 3) := by decide +kernel
theorem dX10_restoreSnapshot_53 : decode cX10_restoreSnapshot 53 = .ok (.aload_n 0, 1) := by decide +kernel
theorem dX10_restoreSnapshot_54 : decode cX10_restoreSnapshot 54 = .ok (.getfield 9, 3) := by decide +kernel
theorem dX10_restoreSnapshot_57 : decode cX10_restoreSnapshot 57 = .ok (.iconst 2, 1) := by decide +kernel
theorem dX10_restoreSnapshot_58 : decode cX10_restoreSnapshot 58 = .ok (.iaload, 1) := by decide +kernel
theorem dX10_restoreSnapshot_59 : decode cX10_restoreSnapshot 59 = .ok (.ireturn, 1) := by decide +kernel
