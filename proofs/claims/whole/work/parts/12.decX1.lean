theorem dX1_init_0 : decode cX1_init 0 = .ok (.aload_n 0, 1) := by decide +kernel
theorem dX1_init_1 : decode cX1_init 1 = .ok (.invokespecial 3, 3) := by decide +kernel
theorem dX1_init_4 : decode cX1_init 4 = .ok (.aload_n 0, 1) := by decide +kernel
theorem dX1_init_5 : decode cX1_init 5 = .ok (.iconst 0, 1) := by decide +kernel
theorem dX1_init_6 : decode cX1_init 6 = .ok (.putfield 9, 3) := by decide +kernel
theorem dX1_init_9 : decode cX1_init 9 = .ok (.aload_n 0, 1) := by decide +kernel
theorem dX1_init_10 : decode cX1_init 10 = .ok (.sipush 200, 3) := by decide +kernel
theorem dX1_init_13 : decode cX1_init 13 = .ok (.newarray .int, 2) := by decide +kernel
theorem dX1_init_15 : decode cX1_init 15 = .ok (.putfield 15, 3) := by decide +kernel
theorem dX1_init_18 : decode cX1_init 18 = .ok (.aload_n 0, 1) := by decide +kernel
theorem dX1_init_19 : decode cX1_init 19 = .ok (.sipush 200, 3) := by decide +kernel
theorem dX1_init_22 : decode cX1_init 22 = .ok (.newarray .int, 2) := by decide +kernel
theorem dX1_init_24 : decode cX1_init 24 = .ok (.putfield 19, 3) := by decide +kernel
theorem dX1_init_27 : decode cX1_init 27 = .ok (.aload_n 0, 1) := by decide +kernel
theorem dX1_init_28 : decode cX1_init 28 = .ok (.sipush 200, 3) := by decide +kernel
theorem dX1_init_31 : decode cX1_init 31 = .ok (.newarray .boolean, 2) := by decide +kernel
theorem dX1_init_33 : decode cX1_init 33 = .ok (.putfield 22, 3) := by decide +kernel
theorem dX1_init_36 : decode cX1_init 36 = .ok (.return_, 1) := by decide +kernel
theorem dX1_begin_0 : decode cX1_begin 0 = .ok (.aload_n 0, 1) := by decide +kernel
theorem dX1_begin_1 : decode cX1_begin 1 = .ok (.iload_n 1, 1) := by decide +kernel
theorem dX1_begin_2 : decode cX1_begin 2 = .ok (.putfield 9, 3) := by decide +kernel
theorem dX1_begin_5 : decode cX1_begin 5 = .ok (.iconst 0, 1) := by decide +kernel
theorem dX1_begin_6 : decode cX1_begin 6 = .ok (.istore_n 2, 1) := by decide +kernel
theorem dX1_begin_7 : decode cX1_begin 7 = .ok (.iload_n 2, 1) := by decide +kernel
theorem dX1_begin_8 : decode cX1_begin 8 = .ok (.sipush 200, 3) := by decide +kernel
theorem dX1_begin_11 : decode cX1_begin 11 = .ok (.if_icmp .ge 16, 3) := by decide +kernel
theorem dX1_begin_14 : decode cX1_begin 14 = .ok (.aload_n 0, 1) := by decide +kernel
theorem dX1_begin_15 : decode cX1_begin 15 = .ok (.iload_n 2, 1) := by decide +kernel
theorem dX1_begin_16 : decode cX1_begin 16 = .ok (.iconst 0, 1) := by decide +kernel
theorem dX1_begin_17 : decode cX1_begin 17 = .ok (.iconst 0, 1) := by decide +kernel
theorem dX1_begin_18 : decode cX1_begin 18 = .ok (.invokevirtual 26, 3) := by decide +kernel
theorem dX1_begin_21 : decode cX1_begin 21 = .ok (.iinc 2 1, 3) := by decide +kernel
theorem dX1_begin_24 : decode cX1_begin 24 = .ok (.goto (-17), 3) := by decide +kernel
theorem dX1_begin_27 : decode cX1_begin 27 = .ok (.return_, 1) := by decide +kernel
theorem dX1_copyFrom_0 : decode cX1_copyFrom 0 = .ok (.aload_n 0, 1) := by decide +kernel
theorem dX1_copyFrom_1 : decode cX1_copyFrom 1 = .ok (.aload_n 1, 1) := by decide +kernel
theorem dX1_copyFrom_2 : decode cX1_copyFrom 2 = .ok (.getfield 9, 3) := by decide +kernel
theorem dX1_copyFrom_5 : decode cX1_copyFrom 5 = .ok (.putfield 9, 3) := by decide +kernel
theorem dX1_copyFrom_8 : decode cX1_copyFrom 8 = .ok (.aload_n 1, 1) := by decide +kernel
theorem dX1_copyFrom_9 : decode cX1_copyFrom 9 = .ok (.getfield 15, 3) := by decide +kernel
theorem dX1_copyFrom_12 : decode cX1_copyFrom 12 = .ok (.iconst 0, 1) := by decide +kernel
theorem dX1_copyFrom_13 : decode cX1_copyFrom 13 = .ok (.aload_n 0, 1) := by decide +kernel
theorem dX1_copyFrom_14 : decode cX1_copyFrom 14 = .ok (.getfield 15, 3) := by decide +kernel
theorem dX1_copyFrom_17 : decode cX1_copyFrom 17 = .ok (.iconst 0, 1) := by decide +kernel
theorem dX1_copyFrom_18 : decode cX1_copyFrom 18 = .ok (.sipush 200, 3) := by decide +kernel
theorem dX1_copyFrom_21 : decode cX1_copyFrom 21 = .ok (.invokestatic 30, 3) := by decide +kernel
theorem dX1_copyFrom_24 : decode cX1_copyFrom 24 = .ok (.aload_n 1, 1) := by decide +kernel
theorem dX1_copyFrom_25 : decode cX1_copyFrom 25 = .ok (.getfield 19, 3) := by decide +kernel
theorem dX1_copyFrom_28 : decode cX1_copyFrom 28 = .ok (.iconst 0, 1) := by decide +kernel
theorem dX1_copyFrom_29 : decode cX1_copyFrom 29 = .ok (.aload_n 0, 1) := by decide +kernel
theorem dX1_copyFrom_30 : decode cX1_copyFrom 30 = .ok (.getfield 19, 3) := by decide +kernel
theorem dX1_copyFrom_33 : decode cX1_copyFrom 33 = .ok (.iconst 0, 1) := by decide +kernel
theorem dX1_copyFrom_34 : decode cX1_copyFrom 34 = .ok (.sipush 200, 3) := by decide +kernel
theorem dX1_copyFrom_37 : decode cX1_copyFrom 37 = .ok (.invokestatic 30, 3) := by decide +kernel
theorem dX1_copyFrom_40 : decode cX1_copyFrom 40 = .ok (.return_, 1) := by decide +kernel
theorem dX1_put_0 : decode cX1_put 0 = .ok (.aload_n 0, 1) := by decide +kernel
theorem dX1_put_1 : decode cX1_put 1 = .ok (.getfield 15, 3) := by decide +kernel
theorem dX1_put_4 : decode cX1_put 4 = .ok (.iload_n 1, 1) := by decide +kernel
theorem dX1_put_5 : decode cX1_put 5 = .ok (.iload_n 2, 1) := by decide +kernel
theorem dX1_put_6 : decode cX1_put 6 = .ok (.iastore, 1) := by decide +kernel
theorem dX1_put_7 : decode cX1_put 7 = .ok (.aload_n 0, 1) := by decide +kernel
theorem dX1_put_8 : decode cX1_put 8 = .ok (.getfield 19, 3) := by decide +kernel
theorem dX1_put_11 : decode cX1_put 11 = .ok (.iload_n 1, 1) := by decide +kernel
theorem dX1_put_12 : decode cX1_put 12 = .ok (.iload_n 3, 1) := by decide +kernel
theorem dX1_put_13 : decode cX1_put 13 = .ok (.iastore, 1) := by decide +kernel
theorem dX1_put_14 : decode cX1_put 14 = .ok (.return_, 1) := by decide +kernel
theorem dX1_countIn_0 : decode cX1_countIn 0 = .ok (.iconst 0, 1) := by decide +kernel
theorem dX1_countIn_1 : decode cX1_countIn 1 = .ok (.istore_n 2, 1) := by decide +kernel
theorem dX1_countIn_2 : decode cX1_countIn 2 = .ok (.iconst 0, 1) := by decide +kernel
theorem dX1_countIn_3 : decode cX1_countIn 3 = .ok (.istore_n 3, 1) := by decide +kernel
theorem dX1_countIn_4 : decode cX1_countIn 4 = .ok (.iload_n 3, 1) := by decide +kernel
theorem dX1_countIn_5 : decode cX1_countIn 5 = .ok (.aload_n 0, 1) := by decide +kernel
theorem dX1_countIn_6 : decode cX1_countIn 6 = .ok (.getfield 9, 3) := by decide +kernel
theorem dX1_countIn_9 : decode cX1_countIn 9 = .ok (.if_icmp .ge 22, 3) := by decide +kernel
theorem dX1_countIn_12 : decode cX1_countIn 12 = .ok (.aload_n 0, 1) := by decide +kernel
theorem dX1_countIn_13 : decode cX1_countIn 13 = .ok (.getfield 15, 3) := by decide +kernel
theorem dX1_countIn_16 : decode cX1_countIn 16 = .ok (.iload_n 3, 1) := by decide +kernel
theorem dX1_countIn_17 : decode cX1_countIn 17 = .ok (.iaload, 1) := by decide +kernel
theorem dX1_countIn_18 : decode cX1_countIn 18 = .ok (.iload_n 1, 1) := by decide +kernel
theorem dX1_countIn_19 : decode cX1_countIn 19 = .ok (.if_icmp .ne 6, 3) := by decide +kernel
theorem dX1_countIn_22 : decode cX1_countIn 22 = .ok (.iinc 2 1, 3) := by decide +kernel
theorem dX1_countIn_25 : decode cX1_countIn 25 = .ok (.iinc 3 1, 3) := by decide +kernel
theorem dX1_countIn_28 : decode cX1_countIn 28 = .ok (.goto (-24), 3) := by decide +kernel
theorem dX1_countIn_31 : decode cX1_countIn 31 = .ok (.iload_n 2, 1) := by decide +kernel
theorem dX1_countIn_32 : decode cX1_countIn 32 = .ok (.ireturn, 1) := by decide +kernel
theorem dX1_memberAt_0 : decode cX1_memberAt 0 = .ok (.iconst 0, 1) := by decide +kernel
theorem dX1_memberAt_1 : decode cX1_memberAt 1 = .ok (.istore_n 3, 1) := by decide +kernel
theorem dX1_memberAt_2 : decode cX1_memberAt 2 = .ok (.iconst 0, 1) := by decide +kernel
theorem dX1_memberAt_3 : decode cX1_memberAt 3 = .ok (.istore 4, 2) := by decide +kernel
theorem dX1_memberAt_5 : decode cX1_memberAt 5 = .ok (.iload 4, 2) := by decide +kernel
theorem dX1_memberAt_7 : decode cX1_memberAt 7 = .ok (.aload_n 0, 1) := by decide +kernel
theorem dX1_memberAt_8 : decode cX1_memberAt 8 = .ok (.getfield 9, 3) := by decide +kernel
theorem dX1_memberAt_11 : decode cX1_memberAt 11 = .ok (.if_icmp .ge 31, 3) := by decide +kernel
theorem dX1_memberAt_14 : decode cX1_memberAt 14 = .ok (.aload_n 0, 1) := by decide +kernel
theorem dX1_memberAt_15 : decode cX1_memberAt 15 = .ok (.getfield 15, 3) := by decide +kernel
theorem dX1_memberAt_18 : decode cX1_memberAt 18 = .ok (.iload 4, 2) := by decide +kernel
theorem dX1_memberAt_20 : decode cX1_memberAt 20 = .ok (.iaload, 1) := by decide +kernel
theorem dX1_memberAt_21 : decode cX1_memberAt 21 = .ok (.iload_n 1, 1) := by decide +kernel
theorem dX1_memberAt_22 : decode cX1_memberAt 22 = .ok (.if_icmp .ne 14, 3) := by decide +kernel
theorem dX1_memberAt_25 : decode cX1_memberAt 25 = .ok (.iload_n 3, 1) := by decide +kernel
theorem dX1_memberAt_26 : decode cX1_memberAt 26 = .ok (.iload_n 2, 1) := by decide +kernel
theorem dX1_memberAt_27 : decode cX1_memberAt 27 = .ok (.if_icmp .ne 6, 3) := by decide +kernel
theorem dX1_memberAt_30 : decode cX1_memberAt 30 = .ok (.iload 4, 2) := by decide +kernel
theorem dX1_memberAt_32 : decode cX1_memberAt 32 = .ok (.ireturn, 1) := by decide +kernel
theorem dX1_memberAt_33 : decode cX1_memberAt 33 = .ok (.iinc 3 1, 3) := by decide +kernel
theorem dX1_memberAt_36 : decode cX1_memberAt 36 = .ok (.iinc 4 1, 3) := by decide +kernel
theorem dX1_memberAt_39 : decode cX1_memberAt 39 = .ok (.goto (-34), 3) := by decide +kernel
theorem dX1_memberAt_42 : decode cX1_memberAt 42 = .ok (.iconst (-1), 1) := by decide +kernel
theorem dX1_memberAt_43 : decode cX1_memberAt 43 = .ok (.ireturn, 1) := by decide +kernel
theorem dX1_exchange_0 : decode cX1_exchange 0 = .ok (.aload_n 0, 1) := by decide +kernel
theorem dX1_exchange_1 : decode cX1_exchange 1 = .ok (.getfield 15, 3) := by decide +kernel
theorem dX1_exchange_4 : decode cX1_exchange 4 = .ok (.iload_n 1, 1) := by decide +kernel
theorem dX1_exchange_5 : decode cX1_exchange 5 = .ok (.iaload, 1) := by decide +kernel
theorem dX1_exchange_6 : decode cX1_exchange 6 = .ok (.istore_n 3, 1) := by decide +kernel
theorem dX1_exchange_7 : decode cX1_exchange 7 = .ok (.aload_n 0, 1) := by decide +kernel
theorem dX1_exchange_8 : decode cX1_exchange 8 = .ok (.getfield 19, 3) := by decide +kernel
theorem dX1_exchange_11 : decode cX1_exchange 11 = .ok (.iload_n 1, 1) := by decide +kernel
theorem dX1_exchange_12 : decode cX1_exchange 12 = .ok (.iaload, 1) := by decide +kernel
theorem dX1_exchange_13 : decode cX1_exchange 13 = .ok (.istore 4, 2) := by decide +kernel
theorem dX1_exchange_15 : decode cX1_exchange 15 = .ok (.aload_n 0, 1) := by decide +kernel
theorem dX1_exchange_16 : decode cX1_exchange 16 = .ok (.iload_n 1, 1) := by decide +kernel
theorem dX1_exchange_17 : decode cX1_exchange 17 = .ok (.aload_n 0, 1) := by decide +kernel
theorem dX1_exchange_18 : decode cX1_exchange 18 = .ok (.getfield 15, 3) := by decide +kernel
theorem dX1_exchange_21 : decode cX1_exchange 21 = .ok (.iload_n 2, 1) := by decide +kernel
theorem dX1_exchange_22 : decode cX1_exchange 22 = .ok (.iaload, 1) := by decide +kernel
theorem dX1_exchange_23 : decode cX1_exchange 23 = .ok (.aload_n 0, 1) := by decide +kernel
theorem dX1_exchange_24 : decode cX1_exchange 24 = .ok (.getfield 19, 3) := by decide +kernel
theorem dX1_exchange_27 : decode cX1_exchange 27 = .ok (.iload_n 2, 1) := by decide +kernel
theorem dX1_exchange_28 : decode cX1_exchange 28 = .ok (.iaload, 1) := by decide +kernel
theorem dX1_exchange_29 : decode cX1_exchange 29 = .ok (.invokevirtual 26, 3) := by decide +kernel
theorem dX1_exchange_32 : decode cX1_exchange 32 = .ok (.aload_n 0, 1) := by decide +kernel
theorem dX1_exchange_33 : decode cX1_exchange 33 = .ok (.iload_n 2, 1) := by decide +kernel
theorem dX1_exchange_34 : decode cX1_exchange 34 = .ok (.iload_n 3, 1) := by decide +kernel
theorem dX1_exchange_35 : decode cX1_exchange 35 = .ok (.iload 4, 2) := by decide +kernel
theorem dX1_exchange_37 : decode cX1_exchange 37 = .ok (.invokevirtual 26, 3) := by decide +kernel
theorem dX1_exchange_40 : decode cX1_exchange 40 = .ok (.aload_n 0, 1) := by decide +kernel
theorem dX1_exchange_41 : decode cX1_exchange 41 = .ok (.getfield 15, 3) := by decide +kernel
theorem dX1_exchange_44 : decode cX1_exchange 44 = .ok (.iload_n 1, 1) := by decide +kernel
theorem dX1_exchange_45 : decode cX1_exchange 45 = .ok (.iaload, 1) := by decide +kernel
theorem dX1_exchange_46 : decode cX1_exchange 46 = .ok (.iload_n 3, 1) := by decide +kernel
theorem dX1_exchange_47 : decode cX1_exchange 47 = .ok (.if_icmp .eq 7, 3) := by decide +kernel
theorem dX1_exchange_50 : decode cX1_exchange 50 = .ok (.iconst 1, 1) := by decide +kernel
theorem dX1_exchange_51 : decode cX1_exchange 51 = .ok (.goto 4, 3) := by decide +kernel
theorem dX1_exchange_54 : decode cX1_exchange 54 = .ok (.iconst 0, 1) := by decide +kernel
theorem dX1_exchange_55 : decode cX1_exchange 55 = .ok (.ireturn, 1) := by decide +kernel
theorem dX1_pick_0 : decode cX1_pick 0 = .ok (.aload_n 0, 1) := by decide +kernel
theorem dX1_pick_1 : decode cX1_pick 1 = .ok (.invokevirtual 36, 3) := by decide +kernel
theorem dX1_pick_4 : decode cX1_pick 4 = .ok (.iload_n 1, 1) := by decide +kernel
theorem dX1_pick_5 : decode cX1_pick 5 = .ok (.tableswitch 60 1 3 #[27, 36, 45], 27) := by decide +kernel
theorem dX1_pick_32 : decode cX1_pick 32 = .ok (.aload_n 0, 1) := by decide +kernel
theorem dX1_pick_33 : decode cX1_pick 33 = .ok (.iload_n 2, 1) := by decide +kernel
theorem dX1_pick_34 : decode cX1_pick 34 = .ok (.iload_n 3, 1) := by decide +kernel
theorem dX1_pick_35 : decode cX1_pick 35 = .ok (.invokevirtual 39, 3) := by decide +kernel
theorem dX1_pick_38 : decode cX1_pick 38 = .ok (.goto 34, 3) := by decide +kernel
theorem dX1_pick_41 : decode cX1_pick 41 = .ok (.aload_n 0, 1) := by decide +kernel
theorem dX1_pick_42 : decode cX1_pick 42 = .ok (.iload_n 2, 1) := by decide +kernel
theorem dX1_pick_43 : decode cX1_pick 43 = .ok (.iload_n 3, 1) := by decide +kernel
theorem dX1_pick_44 : decode cX1_pick 44 = .ok (.invokevirtual 43, 3) := by decide +kernel
theorem dX1_pick_47 : decode cX1_pick 47 = .ok (.goto 25, 3) := by decide +kernel
theorem dX1_pick_50 : decode cX1_pick 50 = .ok (.aload_n 0, 1) := by decide +kernel
theorem dX1_pick_51 : decode cX1_pick 51 = .ok (.iload_n 2, 1) := by decide +kernel
theorem dX1_pick_52 : decode cX1_pick 52 = .ok (.iload_n 3, 1) := by decide +kernel
theorem dX1_pick_53 : decode cX1_pick 53 = .ok (.aload_n 0, 1) := by decide +kernel
theorem dX1_pick_54 : decode cX1_pick 54 = .ok (.iload_n 2, 1) := by decide +kernel
theorem dX1_pick_55 : decode cX1_pick 55 = .ok (.iload_n 3, 1) := by decide +kernel
theorem dX1_pick_56 : decode cX1_pick 56 = .ok (.invokevirtual 46, 3) := by decide +kernel
theorem dX1_pick_59 : decode cX1_pick 59 = .ok (.invokevirtual 50, 3) := by decide +kernel
theorem dX1_pick_62 : decode cX1_pick 62 = .ok (.goto 10, 3) := by decide +kernel
theorem dX1_pick_65 : decode cX1_pick 65 = .ok (.aload_n 0, 1) := by decide +kernel
theorem dX1_pick_66 : decode cX1_pick 66 = .ok (.iload_n 2, 1) := by decide +kernel
theorem dX1_pick_67 : decode cX1_pick 67 = .ok (.iload_n 3, 1) := by decide +kernel
theorem dX1_pick_68 : decode cX1_pick 68 = .ok (.iconst 0, 1) := by decide +kernel
theorem dX1_pick_69 : decode cX1_pick 69 = .ok (.invokevirtual 50, 3) := by decide +kernel
theorem dX1_pick_72 : decode cX1_pick 72 = .ok (.return_, 1) := by decide +kernel
theorem dX1_pickOne_0 : decode cX1_pickOne 0 = .ok (.aload_n 0, 1) := by decide +kernel
theorem dX1_pickOne_1 : decode cX1_pickOne 1 = .ok (.invokevirtual 36, 3) := by decide +kernel
theorem dX1_pickOne_4 : decode cX1_pickOne 4 = .ok (.aload_n 0, 1) := by decide +kernel
theorem dX1_pickOne_5 : decode cX1_pickOne 5 = .ok (.getfield 22, 3) := by decide +kernel
theorem dX1_pickOne_8 : decode cX1_pickOne 8 = .ok (.iload_n 1, 1) := by decide +kernel
theorem dX1_pickOne_9 : decode cX1_pickOne 9 = .ok (.iconst 1, 1) := by decide +kernel
theorem dX1_pickOne_10 : decode cX1_pickOne 10 = .ok (.bastore, 1) := by decide +kernel
theorem dX1_pickOne_11 : decode cX1_pickOne 11 = .ok (.return_, 1) := by decide +kernel
theorem dX1_pickNothing_0 : decode cX1_pickNothing 0 = .ok (.iconst 0, 1) := by decide +kernel
theorem dX1_pickNothing_1 : decode cX1_pickNothing 1 = .ok (.istore_n 1, 1) := by decide +kernel
theorem dX1_pickNothing_2 : decode cX1_pickNothing 2 = .ok (.iload_n 1, 1) := by decide +kernel
theorem dX1_pickNothing_3 : decode cX1_pickNothing 3 = .ok (.sipush 200, 3) := by decide +kernel
theorem dX1_pickNothing_6 : decode cX1_pickNothing 6 = .ok (.if_icmp .ge 16, 3) := by decide +kernel
theorem dX1_pickNothing_9 : decode cX1_pickNothing 9 = .ok (.aload_n 0, 1) := by decide +kernel
theorem dX1_pickNothing_10 : decode cX1_pickNothing 10 = .ok (.getfield 22, 3) := by decide +kernel
theorem dX1_pickNothing_13 : decode cX1_pickNothing 13 = .ok (.iload_n 1, 1) := by decide +kernel
theorem dX1_pickNothing_14 : decode cX1_pickNothing 14 = .ok (.iconst 0, 1) := by decide +kernel
theorem dX1_pickNothing_15 : decode cX1_pickNothing 15 = .ok (.bastore, 1) := by decide +kernel
theorem dX1_pickNothing_16 : decode cX1_pickNothing 16 = .ok (.iinc 1 1, 3) := by decide +kernel
theorem dX1_pickNothing_19 : decode cX1_pickNothing 19 = .ok (.goto (-17), 3) := by decide +kernel
theorem dX1_pickNothing_22 : decode cX1_pickNothing 22 = .ok (.return_, 1) := by decide +kernel
theorem dX1_pickLowest_0 : decode cX1_pickLowest 0 = .ok (.iload_n 2, 1) := by decide +kernel
theorem dX1_pickLowest_1 : decode cX1_pickLowest 1 = .ok (.istore 4, 2) := by decide +kernel
theorem dX1_pickLowest_3 : decode cX1_pickLowest 3 = .ok (.iload_n 3, 1) := by decide +kernel
theorem dX1_pickLowest_4 : decode cX1_pickLowest 4 = .ok (.istore 5, 2) := by decide +kernel
theorem dX1_pickLowest_6 : decode cX1_pickLowest 6 = .ok (.iload 5, 2) := by decide +kernel
theorem dX1_pickLowest_8 : decode cX1_pickLowest 8 = .ok (.aload_n 0, 1) := by decide +kernel
theorem dX1_pickLowest_9 : decode cX1_pickLowest 9 = .ok (.getfield 9, 3) := by decide +kernel
theorem dX1_pickLowest_12 : decode cX1_pickLowest 12 = .ok (.if_icmp .ge 36, 3) := by decide +kernel
theorem dX1_pickLowest_15 : decode cX1_pickLowest 15 = .ok (.iload 4, 2) := by decide +kernel
theorem dX1_pickLowest_17 : decode cX1_pickLowest 17 = .ok (.ifCond .le 31, 3) := by decide +kernel
theorem dX1_pickLowest_20 : decode cX1_pickLowest 20 = .ok (.aload_n 0, 1) := by decide +kernel
theorem dX1_pickLowest_21 : decode cX1_pickLowest 21 = .ok (.getfield 15, 3) := by decide +kernel
theorem dX1_pickLowest_24 : decode cX1_pickLowest 24 = .ok (.iload 5, 2) := by decide +kernel
theorem dX1_pickLowest_26 : decode cX1_pickLowest 26 = .ok (.iaload, 1) := by decide +kernel
theorem dX1_pickLowest_27 : decode cX1_pickLowest 27 = .ok (.iload_n 1, 1) := by decide +kernel
theorem dX1_pickLowest_28 : decode cX1_pickLowest 28 = .ok (.if_icmp .ne 14, 3) := by decide +kernel
theorem dX1_pickLowest_31 : decode cX1_pickLowest 31 = .ok (.aload_n 0, 1) := by decide +kernel
theorem dX1_pickLowest_32 : decode cX1_pickLowest 32 = .ok (.getfield 22, 3) := by decide +kernel
theorem dX1_pickLowest_35 : decode cX1_pickLowest 35 = .ok (.iload 5, 2) := by decide +kernel
theorem dX1_pickLowest_37 : decode cX1_pickLowest 37 = .ok (.iconst 1, 1) := by decide +kernel
theorem dX1_pickLowest_38 : decode cX1_pickLowest 38 = .ok (.bastore, 1) := by decide +kernel
theorem dX1_pickLowest_39 : decode cX1_pickLowest 39 = .ok (.iinc 4 (-1), 3) := by decide +kernel
theorem dX1_pickLowest_42 : decode cX1_pickLowest 42 = .ok (.iinc 5 1, 3) := by decide +kernel
theorem dX1_pickLowest_45 : decode cX1_pickLowest 45 = .ok (.goto (-39), 3) := by decide +kernel
theorem dX1_pickLowest_48 : decode cX1_pickLowest 48 = .ok (.return_, 1) := by decide +kernel
theorem dX1_pickHighest_0 : decode cX1_pickHighest 0 = .ok (.iload_n 2, 1) := by decide +kernel
theorem dX1_pickHighest_1 : decode cX1_pickHighest 1 = .ok (.istore_n 3, 1) := by decide +kernel
theorem dX1_pickHighest_2 : decode cX1_pickHighest 2 = .ok (.aload_n 0, 1) := by decide +kernel
theorem dX1_pickHighest_3 : decode cX1_pickHighest 3 = .ok (.getfield 9, 3) := by decide +kernel
theorem dX1_pickHighest_6 : decode cX1_pickHighest 6 = .ok (.iconst 1, 1) := by decide +kernel
theorem dX1_pickHighest_7 : decode cX1_pickHighest 7 = .ok (.isub, 1) := by decide +kernel
theorem dX1_pickHighest_8 : decode cX1_pickHighest 8 = .ok (.istore 4, 2) := by decide +kernel
theorem dX1_pickHighest_10 : decode cX1_pickHighest 10 = .ok (.iload 4, 2) := by decide +kernel
theorem dX1_pickHighest_12 : decode cX1_pickHighest 12 = .ok (.ifCond .lt 35, 3) := by decide +kernel
theorem dX1_pickHighest_15 : decode cX1_pickHighest 15 = .ok (.iload_n 3, 1) := by decide +kernel
theorem dX1_pickHighest_16 : decode cX1_pickHighest 16 = .ok (.ifCond .le 31, 3) := by decide +kernel
theorem dX1_pickHighest_19 : decode cX1_pickHighest 19 = .ok (.aload_n 0, 1) := by decide +kernel
theorem dX1_pickHighest_20 : decode cX1_pickHighest 20 = .ok (.getfield 15, 3) := by decide +kernel
theorem dX1_pickHighest_23 : decode cX1_pickHighest 23 = .ok (.iload 4, 2) := by decide +kernel
theorem dX1_pickHighest_25 : decode cX1_pickHighest 25 = .ok (.iaload, 1) := by decide +kernel
theorem dX1_pickHighest_26 : decode cX1_pickHighest 26 = .ok (.iload_n 1, 1) := by decide +kernel
theorem dX1_pickHighest_27 : decode cX1_pickHighest 27 = .ok (.if_icmp .ne 14, 3) := by decide +kernel
theorem dX1_pickHighest_30 : decode cX1_pickHighest 30 = .ok (.aload_n 0, 1) := by decide +kernel
theorem dX1_pickHighest_31 : decode cX1_pickHighest 31 = .ok (.getfield 22, 3) := by decide +kernel
theorem dX1_pickHighest_34 : decode cX1_pickHighest 34 = .ok (.iload 4, 2) := by decide +kernel
theorem dX1_pickHighest_36 : decode cX1_pickHighest 36 = .ok (.iconst 1, 1) := by decide +kernel
theorem dX1_pickHighest_37 : decode cX1_pickHighest 37 = .ok (.bastore, 1) := by decide +kernel
theorem dX1_pickHighest_38 : decode cX1_pickHighest 38 = .ok (.iinc 3 (-1), 3) := by decide +kernel
theorem dX1_pickHighest_41 : decode cX1_pickHighest 41 = .ok (.iinc 4 (-1), 3) := by decide +kernel
theorem dX1_pickHighest_44 : decode cX1_pickHighest 44 = .ok (.goto (-34), 3) := by decide +kernel
theorem dX1_pickHighest_47 : decode cX1_pickHighest 47 = .ok (.return_, 1) := by decide +kernel
theorem dX1_pickOldest_0 : decode cX1_pickOldest 0 = .ok (.iload_n 2, 1) := by decide +kernel
theorem dX1_pickOldest_1 : decode cX1_pickOldest 1 = .ok (.istore_n 3, 1) := by decide +kernel
theorem dX1_pickOldest_2 : decode cX1_pickOldest 2 = .ok (.aload_n 0, 1) := by decide +kernel
theorem dX1_pickOldest_3 : decode cX1_pickOldest 3 = .ok (.iload_n 1, 1) := by decide +kernel
theorem dX1_pickOldest_4 : decode cX1_pickOldest 4 = .ok (.iconst (-1), 1) := by decide +kernel
theorem dX1_pickOldest_5 : decode cX1_pickOldest 5 = .ok (.invokevirtual 53, 3) := by decide +kernel
theorem dX1_pickOldest_8 : decode cX1_pickOldest 8 = .ok (.istore 4, 2) := by decide +kernel
theorem dX1_pickOldest_10 : decode cX1_pickOldest 10 = .ok (.iconst 0, 1) := by decide +kernel
theorem dX1_pickOldest_11 : decode cX1_pickOldest 11 = .ok (.istore 5, 2) := by decide +kernel
theorem dX1_pickOldest_13 : decode cX1_pickOldest 13 = .ok (.iload 5, 2) := by decide +kernel
theorem dX1_pickOldest_15 : decode cX1_pickOldest 15 = .ok (.sipush 200, 3) := by decide +kernel
theorem dX1_pickOldest_18 : decode cX1_pickOldest 18 = .ok (.if_icmp .ge 84, 3) := by decide +kernel
theorem dX1_pickOldest_21 : decode cX1_pickOldest 21 = .ok (.iload_n 3, 1) := by decide +kernel
theorem dX1_pickOldest_22 : decode cX1_pickOldest 22 = .ok (.ifCond .le 80, 3) := by decide +kernel
theorem dX1_pickOldest_25 : decode cX1_pickOldest 25 = .ok (.iload 4, 2) := by decide +kernel
theorem dX1_pickOldest_27 : decode cX1_pickOldest 27 = .ok (.iconst (-1), 1) := by decide +kernel
theorem dX1_pickOldest_28 : decode cX1_pickOldest 28 = .ok (.if_icmp .eq 74, 3) := by decide +kernel
theorem dX1_pickOldest_31 : decode cX1_pickOldest 31 = .ok (.iconst 0, 1) := by decide +kernel
theorem dX1_pickOldest_32 : decode cX1_pickOldest 32 = .ok (.istore 6, 2) := by decide +kernel
theorem dX1_pickOldest_34 : decode cX1_pickOldest 34 = .ok (.iload 6, 2) := by decide +kernel
theorem dX1_pickOldest_36 : decode cX1_pickOldest 36 = .ok (.aload_n 0, 1) := by decide +kernel
theorem dX1_pickOldest_37 : decode cX1_pickOldest 37 = .ok (.getfield 9, 3) := by decide +kernel
theorem dX1_pickOldest_40 : decode cX1_pickOldest 40 = .ok (.if_icmp .ge 47, 3) := by decide +kernel
theorem dX1_pickOldest_43 : decode cX1_pickOldest 43 = .ok (.iload_n 3, 1) := by decide +kernel
theorem dX1_pickOldest_44 : decode cX1_pickOldest 44 = .ok (.ifCond .le 43, 3) := by decide +kernel
theorem dX1_pickOldest_47 : decode cX1_pickOldest 47 = .ok (.aload_n 0, 1) := by decide +kernel
theorem dX1_pickOldest_48 : decode cX1_pickOldest 48 = .ok (.getfield 15, 3) := by decide +kernel
theorem dX1_pickOldest_51 : decode cX1_pickOldest 51 = .ok (.iload 6, 2) := by decide +kernel
theorem dX1_pickOldest_53 : decode cX1_pickOldest 53 = .ok (.iaload, 1) := by decide +kernel
theorem dX1_pickOldest_54 : decode cX1_pickOldest 54 = .ok (.iload_n 1, 1) := by decide +kernel
theorem dX1_pickOldest_55 : decode cX1_pickOldest 55 = .ok (.if_icmp .ne 26, 3) := by decide +kernel
theorem dX1_pickOldest_58 : decode cX1_pickOldest 58 = .ok (.aload_n 0, 1) := by decide +kernel
theorem dX1_pickOldest_59 : decode cX1_pickOldest 59 = .ok (.getfield 19, 3) := by decide +kernel
theorem dX1_pickOldest_62 : decode cX1_pickOldest 62 = .ok (.iload 6, 2) := by decide +kernel
theorem dX1_pickOldest_64 : decode cX1_pickOldest 64 = .ok (.iaload, 1) := by decide +kernel
theorem dX1_pickOldest_65 : decode cX1_pickOldest 65 = .ok (.iload 4, 2) := by decide +kernel
theorem dX1_pickOldest_67 : decode cX1_pickOldest 67 = .ok (.if_icmp .ne 14, 3) := by decide +kernel
theorem dX1_pickOldest_70 : decode cX1_pickOldest 70 = .ok (.aload_n 0, 1) := by decide +kernel
theorem dX1_pickOldest_71 : decode cX1_pickOldest 71 = .ok (.getfield 22, 3) := by decide +kernel
theorem dX1_pickOldest_74 : decode cX1_pickOldest 74 = .ok (.iload 6, 2) := by decide +kernel
theorem dX1_pickOldest_76 : decode cX1_pickOldest 76 = .ok (.iconst 1, 1) := by decide +kernel
theorem dX1_pickOldest_77 : decode cX1_pickOldest 77 = .ok (.bastore, 1) := by decide +kernel
theorem dX1_pickOldest_78 : decode cX1_pickOldest 78 = .ok (.iinc 3 (-1), 3) := by decide +kernel
theorem dX1_pickOldest_81 : decode cX1_pickOldest 81 = .ok (.iinc 6 1, 3) := by decide +kernel
theorem dX1_pickOldest_84 : decode cX1_pickOldest 84 = .ok (.goto (-50), 3) := by decide +kernel
theorem dX1_pickOldest_87 : decode cX1_pickOldest 87 = .ok (.aload_n 0, 1) := by decide +kernel
theorem dX1_pickOldest_88 : decode cX1_pickOldest 88 = .ok (.iload_n 1, 1) := by decide +kernel
theorem dX1_pickOldest_89 : decode cX1_pickOldest 89 = .ok (.iload 4, 2) := by decide +kernel
theorem dX1_pickOldest_91 : decode cX1_pickOldest 91 = .ok (.invokevirtual 53, 3) := by decide +kernel
theorem dX1_pickOldest_94 : decode cX1_pickOldest 94 = .ok (.istore 4, 2) := by decide +kernel
theorem dX1_pickOldest_96 : decode cX1_pickOldest 96 = .ok (.iinc 5 1, 3) := by decide +kernel
theorem dX1_pickOldest_99 : decode cX1_pickOldest 99 = .ok (.goto (-86), 3) := by decide +kernel
theorem dX1_pickOldest_102 : decode cX1_pickOldest 102 = .ok (.return_, 1) := by decide +kernel
theorem dX1_nextTime_0 : decode cX1_nextTime 0 = .ok (.iconst (-1), 1) := by decide +kernel
theorem dX1_nextTime_1 : decode cX1_nextTime 1 = .ok (.istore_n 3, 1) := by decide +kernel
theorem dX1_nextTime_2 : decode cX1_nextTime 2 = .ok (.iconst 0, 1) := by decide +kernel
theorem dX1_nextTime_3 : decode cX1_nextTime 3 = .ok (.istore 4, 2) := by decide +kernel
theorem dX1_nextTime_5 : decode cX1_nextTime 5 = .ok (.iload 4, 2) := by decide +kernel
theorem dX1_nextTime_7 : decode cX1_nextTime 7 = .ok (.aload_n 0, 1) := by decide +kernel
theorem dX1_nextTime_8 : decode cX1_nextTime 8 = .ok (.getfield 9, 3) := by decide +kernel
theorem dX1_nextTime_11 : decode cX1_nextTime 11 = .ok (.if_icmp .ge 67, 3) := by decide +kernel
theorem dX1_nextTime_14 : decode cX1_nextTime 14 = .ok (.aload_n 0, 1) := by decide +kernel
theorem dX1_nextTime_15 : decode cX1_nextTime 15 = .ok (.getfield 15, 3) := by decide +kernel
theorem dX1_nextTime_18 : decode cX1_nextTime 18 = .ok (.iload 4, 2) := by decide +kernel
theorem dX1_nextTime_20 : decode cX1_nextTime 20 = .ok (.iaload, 1) := by decide +kernel
theorem dX1_nextTime_21 : decode cX1_nextTime 21 = .ok (.iload_n 1, 1) := by decide +kernel
theorem dX1_nextTime_22 : decode cX1_nextTime 22 = .ok (.if_icmp .ne 18, 3) := by decide +kernel
theorem dX1_nextTime_25 : decode cX1_nextTime 25 = .ok (.aload_n 0, 1) := by decide +kernel
theorem dX1_nextTime_26 : decode cX1_nextTime 26 = .ok (.getfield 19, 3) := by decide +kernel
theorem dX1_nextTime_29 : decode cX1_nextTime 29 = .ok (.iload 4, 2) := by decide +kernel
theorem dX1_nextTime_31 : decode cX1_nextTime 31 = .ok (.iaload, 1) := by decide +kernel
theorem dX1_nextTime_32 : decode cX1_nextTime 32 = .ok (.iload_n 2, 1) := by decide +kernel
theorem dX1_nextTime_33 : decode cX1_nextTime 33 = .ok (.if_icmp .le 7, 3) := by decide +kernel
theorem dX1_nextTime_36 : decode cX1_nextTime 36 = .ok (.iconst 1, 1) := by decide +kernel
theorem dX1_nextTime_37 : decode cX1_nextTime 37 = .ok (.goto 4, 3) := by decide +kernel
theorem dX1_nextTime_40 : decode cX1_nextTime 40 = .ok (.iconst 0, 1) := by decide +kernel
theorem dX1_nextTime_41 : decode cX1_nextTime 41 = .ok (.istore 5, 2) := by decide +kernel
theorem dX1_nextTime_43 : decode cX1_nextTime 43 = .ok (.iload 5, 2) := by decide +kernel
theorem dX1_nextTime_45 : decode cX1_nextTime 45 = .ok (.ifCond .eq 27, 3) := by decide +kernel
theorem dX1_nextTime_48 : decode cX1_nextTime 48 = .ok (.iload_n 3, 1) := by decide +kernel
theorem dX1_nextTime_49 : decode cX1_nextTime 49 = .ok (.iconst (-1), 1) := by decide +kernel
theorem dX1_nextTime_50 : decode cX1_nextTime 50 = .ok (.if_icmp .eq 14, 3) := by decide +kernel
theorem dX1_nextTime_53 : decode cX1_nextTime 53 = .ok (.aload_n 0, 1) := by decide +kernel
theorem dX1_nextTime_54 : decode cX1_nextTime 54 = .ok (.getfield 19, 3) := by decide +kernel
theorem dX1_nextTime_57 : decode cX1_nextTime 57 = .ok (.iload 4, 2) := by decide +kernel
theorem dX1_nextTime_59 : decode cX1_nextTime 59 = .ok (.iaload, 1) := by decide +kernel
theorem dX1_nextTime_60 : decode cX1_nextTime 60 = .ok (.iload_n 3, 1) := by decide +kernel
theorem dX1_nextTime_61 : decode cX1_nextTime 61 = .ok (.if_icmp .ge 11, 3) := by decide +kernel
theorem dX1_nextTime_64 : decode cX1_nextTime 64 = .ok (.aload_n 0, 1) := by decide +kernel
theorem dX1_nextTime_65 : decode cX1_nextTime 65 = .ok (.getfield 19, 3) := by decide +kernel
theorem dX1_nextTime_68 : decode cX1_nextTime 68 = .ok (.iload 4, 2) := by decide +kernel
theorem dX1_nextTime_70 : decode cX1_nextTime 70 = .ok (.iaload, 1) := by decide +kernel
theorem dX1_nextTime_71 : decode cX1_nextTime 71 = .ok (.istore_n 3, 1) := by decide +kernel
theorem dX1_nextTime_72 : decode cX1_nextTime 72 = .ok (.iinc 4 1, 3) := by decide +kernel
theorem dX1_nextTime_75 : decode cX1_nextTime 75 = .ok (.goto (-70), 3) := by decide +kernel
theorem dX1_nextTime_78 : decode cX1_nextTime 78 = .ok (.iload_n 3, 1) := by decide +kernel
theorem dX1_nextTime_79 : decode cX1_nextTime 79 = .ok (.ireturn, 1) := by decide +kernel
theorem dX1_fittingStart_0 : decode cX1_fittingStart 0 = .ok (.iconst 0, 1) := by decide +kernel
theorem dX1_fittingStart_1 : decode cX1_fittingStart 1 = .ok (.istore_n 3, 1) := by decide +kernel
theorem dX1_fittingStart_2 : decode cX1_fittingStart 2 = .ok (.sipush 201, 3) := by decide +kernel
theorem dX1_fittingStart_5 : decode cX1_fittingStart 5 = .ok (.istore 4, 2) := by decide +kernel
theorem dX1_fittingStart_7 : decode cX1_fittingStart 7 = .ok (.iconst 0, 1) := by decide +kernel
theorem dX1_fittingStart_8 : decode cX1_fittingStart 8 = .ok (.istore 5, 2) := by decide +kernel
theorem dX1_fittingStart_10 : decode cX1_fittingStart 10 = .ok (.iconst 0, 1) := by decide +kernel
theorem dX1_fittingStart_11 : decode cX1_fittingStart 11 = .ok (.istore 6, 2) := by decide +kernel
theorem dX1_fittingStart_13 : decode cX1_fittingStart 13 = .ok (.iload 6, 2) := by decide +kernel
theorem dX1_fittingStart_15 : decode cX1_fittingStart 15 = .ok (.aload_n 0, 1) := by decide +kernel
theorem dX1_fittingStart_16 : decode cX1_fittingStart 16 = .ok (.getfield 9, 3) := by decide +kernel
theorem dX1_fittingStart_19 : decode cX1_fittingStart 19 = .ok (.if_icmp .ge 65, 3) := by decide +kernel
theorem dX1_fittingStart_22 : decode cX1_fittingStart 22 = .ok (.aload_n 0, 1) := by decide +kernel
theorem dX1_fittingStart_23 : decode cX1_fittingStart 23 = .ok (.getfield 15, 3) := by decide +kernel
theorem dX1_fittingStart_26 : decode cX1_fittingStart 26 = .ok (.iload 6, 2) := by decide +kernel
theorem dX1_fittingStart_28 : decode cX1_fittingStart 28 = .ok (.iaload, 1) := by decide +kernel
theorem dX1_fittingStart_29 : decode cX1_fittingStart 29 = .ok (.iload_n 1, 1) := by decide +kernel
theorem dX1_fittingStart_30 : decode cX1_fittingStart 30 = .ok (.if_icmp .ne 10, 3) := by decide +kernel
theorem dX1_fittingStart_33 : decode cX1_fittingStart 33 = .ok (.iload 5, 2) := by decide +kernel
theorem dX1_fittingStart_35 : decode cX1_fittingStart 35 = .ok (.iconst 1, 1) := by decide +kernel
theorem dX1_fittingStart_36 : decode cX1_fittingStart 36 = .ok (.iadd, 1) := by decide +kernel
theorem dX1_fittingStart_37 : decode cX1_fittingStart 37 = .ok (.goto 4, 3) := by decide +kernel
theorem dX1_fittingStart_40 : decode cX1_fittingStart 40 = .ok (.iconst 0, 1) := by decide +kernel
theorem dX1_fittingStart_41 : decode cX1_fittingStart 41 = .ok (.istore 5, 2) := by decide +kernel
theorem dX1_fittingStart_43 : decode cX1_fittingStart 43 = .ok (.aload_n 0, 1) := by decide +kernel
theorem dX1_fittingStart_44 : decode cX1_fittingStart 44 = .ok (.iload_n 1, 1) := by decide +kernel
theorem dX1_fittingStart_45 : decode cX1_fittingStart 45 = .ok (.iload 6, 2) := by decide +kernel
theorem dX1_fittingStart_47 : decode cX1_fittingStart 47 = .ok (.invokevirtual 56, 3) := by decide +kernel
theorem dX1_fittingStart_50 : decode cX1_fittingStart 50 = .ok (.ifCond .eq 28, 3) := by decide +kernel
theorem dX1_fittingStart_53 : decode cX1_fittingStart 53 = .ok (.iload 5, 2) := by decide +kernel
theorem dX1_fittingStart_55 : decode cX1_fittingStart 55 = .ok (.iload_n 2, 1) := by decide +kernel
theorem dX1_fittingStart_56 : decode cX1_fittingStart 56 = .ok (.if_icmp .lt 22, 3) := by decide +kernel
theorem dX1_fittingStart_59 : decode cX1_fittingStart 59 = .ok (.iload 5, 2) := by decide +kernel
theorem dX1_fittingStart_61 : decode cX1_fittingStart 61 = .ok (.iload 4, 2) := by decide +kernel
theorem dX1_fittingStart_63 : decode cX1_fittingStart 63 = .ok (.if_icmp .ge 15, 3) := by decide +kernel
theorem dX1_fittingStart_66 : decode cX1_fittingStart 66 = .ok (.iload 5, 2) := by decide +kernel
theorem dX1_fittingStart_68 : decode cX1_fittingStart 68 = .ok (.istore 4, 2) := by decide +kernel
theorem dX1_fittingStart_70 : decode cX1_fittingStart 70 = .ok (.iload 6, 2) := by decide +kernel
theorem dX1_fittingStart_72 : decode cX1_fittingStart 72 = .ok (.iconst 1, 1) := by decide +kernel
theorem dX1_fittingStart_73 : decode cX1_fittingStart 73 = .ok (.iadd, 1) := by decide +kernel
theorem dX1_fittingStart_74 : decode cX1_fittingStart 74 = .ok (.iload 5, 2) := by decide +kernel
theorem dX1_fittingStart_76 : decode cX1_fittingStart 76 = .ok (.isub, 1) := by decide +kernel
theorem dX1_fittingStart_77 : decode cX1_fittingStart 77 = .ok (.istore_n 3, 1) := by decide +kernel
theorem dX1_fittingStart_78 : decode cX1_fittingStart 78 = .ok (.iinc 6 1, 3) := by decide +kernel
theorem dX1_fittingStart_81 : decode cX1_fittingStart 81 = .ok (.goto (-68), 3) := by decide +kernel
theorem dX1_fittingStart_84 : decode cX1_fittingStart 84 = .ok (.iload_n 3, 1) := by decide +kernel
theorem dX1_fittingStart_85 : decode cX1_fittingStart 85 = .ok (.ireturn, 1) := by decide +kernel
theorem dX1_pickedAt_0 : decode cX1_pickedAt 0 = .ok (.iconst 0, 1) := by decide +kernel
theorem dX1_pickedAt_1 : decode cX1_pickedAt 1 = .ok (.istore_n 2, 1) := by decide +kernel
theorem dX1_pickedAt_2 : decode cX1_pickedAt 2 = .ok (.iconst 0, 1) := by decide +kernel
theorem dX1_pickedAt_3 : decode cX1_pickedAt 3 = .ok (.istore_n 3, 1) := by decide +kernel
theorem dX1_pickedAt_4 : decode cX1_pickedAt 4 = .ok (.iload_n 3, 1) := by decide +kernel
theorem dX1_pickedAt_5 : decode cX1_pickedAt 5 = .ok (.aload_n 0, 1) := by decide +kernel
theorem dX1_pickedAt_6 : decode cX1_pickedAt 6 = .ok (.getfield 9, 3) := by decide +kernel
theorem dX1_pickedAt_9 : decode cX1_pickedAt 9 = .ok (.if_icmp .ge 28, 3) := by decide +kernel
theorem dX1_pickedAt_12 : decode cX1_pickedAt 12 = .ok (.aload_n 0, 1) := by decide +kernel
theorem dX1_pickedAt_13 : decode cX1_pickedAt 13 = .ok (.getfield 22, 3) := by decide +kernel
theorem dX1_pickedAt_16 : decode cX1_pickedAt 16 = .ok (.iload_n 3, 1) := by decide +kernel
theorem dX1_pickedAt_17 : decode cX1_pickedAt 17 = .ok (.baload, 1) := by decide +kernel
theorem dX1_pickedAt_18 : decode cX1_pickedAt 18 = .ok (.ifCond .eq 13, 3) := by decide +kernel
theorem dX1_pickedAt_21 : decode cX1_pickedAt 21 = .ok (.iload_n 2, 1) := by decide +kernel
theorem dX1_pickedAt_22 : decode cX1_pickedAt 22 = .ok (.iload_n 1, 1) := by decide +kernel
theorem dX1_pickedAt_23 : decode cX1_pickedAt 23 = .ok (.if_icmp .ne 5, 3) := by decide +kernel
theorem dX1_pickedAt_26 : decode cX1_pickedAt 26 = .ok (.iload_n 3, 1) := by decide +kernel
theorem dX1_pickedAt_27 : decode cX1_pickedAt 27 = .ok (.ireturn, 1) := by decide +kernel
theorem dX1_pickedAt_28 : decode cX1_pickedAt 28 = .ok (.iinc 2 1, 3) := by decide +kernel
theorem dX1_pickedAt_31 : decode cX1_pickedAt 31 = .ok (.iinc 3 1, 3) := by decide +kernel
theorem dX1_pickedAt_34 : decode cX1_pickedAt 34 = .ok (.goto (-30), 3) := by decide +kernel
theorem dX1_pickedAt_37 : decode cX1_pickedAt 37 = .ok (.iconst (-1), 1) := by decide +kernel
theorem dX1_pickedAt_38 : decode cX1_pickedAt 38 = .ok (.ireturn, 1) := by decide +kernel
theorem dX1_allPickedAreIn_0 : decode cX1_allPickedAreIn 0 = .ok (.iconst 0, 1) := by decide +kernel
theorem dX1_allPickedAreIn_1 : decode cX1_allPickedAreIn 1 = .ok (.istore_n 2, 1) := by decide +kernel
theorem dX1_allPickedAreIn_2 : decode cX1_allPickedAreIn 2 = .ok (.iload_n 2, 1) := by decide +kernel
theorem dX1_allPickedAreIn_3 : decode cX1_allPickedAreIn 3 = .ok (.aload_n 0, 1) := by decide +kernel
theorem dX1_allPickedAreIn_4 : decode cX1_allPickedAreIn 4 = .ok (.getfield 9, 3) := by decide +kernel
theorem dX1_allPickedAreIn_7 : decode cX1_allPickedAreIn 7 = .ok (.if_icmp .ge 30, 3) := by decide +kernel
theorem dX1_allPickedAreIn_10 : decode cX1_allPickedAreIn 10 = .ok (.aload_n 0, 1) := by decide +kernel
theorem dX1_allPickedAreIn_11 : decode cX1_allPickedAreIn 11 = .ok (.getfield 22, 3) := by decide +kernel
theorem dX1_allPickedAreIn_14 : decode cX1_allPickedAreIn 14 = .ok (.iload_n 2, 1) := by decide +kernel
theorem dX1_allPickedAreIn_15 : decode cX1_allPickedAreIn 15 = .ok (.baload, 1) := by decide +kernel
theorem dX1_allPickedAreIn_16 : decode cX1_allPickedAreIn 16 = .ok (.ifCond .eq 15, 3) := by decide +kernel
theorem dX1_allPickedAreIn_19 : decode cX1_allPickedAreIn 19 = .ok (.aload_n 0, 1) := by decide +kernel
theorem dX1_allPickedAreIn_20 : decode cX1_allPickedAreIn 20 = .ok (.getfield 15, 3) := by decide +kernel
theorem dX1_allPickedAreIn_23 : decode cX1_allPickedAreIn 23 = .ok (.iload_n 2, 1) := by decide +kernel
theorem dX1_allPickedAreIn_24 : decode cX1_allPickedAreIn 24 = .ok (.iaload, 1) := by decide +kernel
theorem dX1_allPickedAreIn_25 : decode cX1_allPickedAreIn 25 = .ok (.iload_n 1, 1) := by decide +kernel
theorem dX1_allPickedAreIn_26 : decode cX1_allPickedAreIn 26 = .ok (.if_icmp .eq 5, 3) := by decide +kernel
theorem dX1_allPickedAreIn_29 : decode cX1_allPickedAreIn 29 = .ok (.iconst 0, 1) := by decide +kernel
theorem dX1_allPickedAreIn_30 : decode cX1_allPickedAreIn 30 = .ok (.ireturn, 1) := by decide +kernel
theorem dX1_allPickedAreIn_31 : decode cX1_allPickedAreIn 31 = .ok (.iinc 2 1, 3) := by decide +kernel
theorem dX1_allPickedAreIn_34 : decode cX1_allPickedAreIn 34 = .ok (.goto (-32), 3) := by decide +kernel
theorem dX1_allPickedAreIn_37 : decode cX1_allPickedAreIn 37 = .ok (.iconst 1, 1) := by decide +kernel
theorem dX1_allPickedAreIn_38 : decode cX1_allPickedAreIn 38 = .ok (.ireturn, 1) := by decide +kernel
theorem dX1_putPicked_0 : decode cX1_putPicked 0 = .ok (.iconst 0, 1) := by decide +kernel
theorem dX1_putPicked_1 : decode cX1_putPicked 1 = .ok (.istore_n 3, 1) := by decide +kernel
theorem dX1_putPicked_2 : decode cX1_putPicked 2 = .ok (.iload_n 3, 1) := by decide +kernel
theorem dX1_putPicked_3 : decode cX1_putPicked 3 = .ok (.aload_n 0, 1) := by decide +kernel
theorem dX1_putPicked_4 : decode cX1_putPicked 4 = .ok (.getfield 9, 3) := by decide +kernel
theorem dX1_putPicked_7 : decode cX1_putPicked 7 = .ok (.if_icmp .ge 32, 3) := by decide +kernel
theorem dX1_putPicked_10 : decode cX1_putPicked 10 = .ok (.aload_n 0, 1) := by decide +kernel
theorem dX1_putPicked_11 : decode cX1_putPicked 11 = .ok (.getfield 22, 3) := by decide +kernel
theorem dX1_putPicked_14 : decode cX1_putPicked 14 = .ok (.iload_n 3, 1) := by decide +kernel
theorem dX1_putPicked_15 : decode cX1_putPicked 15 = .ok (.baload, 1) := by decide +kernel
theorem dX1_putPicked_16 : decode cX1_putPicked 16 = .ok (.ifCond .eq 17, 3) := by decide +kernel
theorem dX1_putPicked_19 : decode cX1_putPicked 19 = .ok (.aload_n 0, 1) := by decide +kernel
theorem dX1_putPicked_20 : decode cX1_putPicked 20 = .ok (.getfield 15, 3) := by decide +kernel
theorem dX1_putPicked_23 : decode cX1_putPicked 23 = .ok (.iload_n 3, 1) := by decide +kernel
theorem dX1_putPicked_24 : decode cX1_putPicked 24 = .ok (.iload_n 1, 1) := by decide +kernel
theorem dX1_putPicked_25 : decode cX1_putPicked 25 = .ok (.iastore, 1) := by decide +kernel
theorem dX1_putPicked_26 : decode cX1_putPicked 26 = .ok (.aload_n 0, 1) := by decide +kernel
theorem dX1_putPicked_27 : decode cX1_putPicked 27 = .ok (.getfield 19, 3) := by decide +kernel
theorem dX1_putPicked_30 : decode cX1_putPicked 30 = .ok (.iload_n 3, 1) := by decide +kernel
theorem dX1_putPicked_31 : decode cX1_putPicked 31 = .ok (.iload_n 2, 1) := by decide +kernel
theorem dX1_putPicked_32 : decode cX1_putPicked 32 = .ok (.iastore, 1) := by decide +kernel
theorem dX1_putPicked_33 : decode cX1_putPicked 33 = .ok (.iinc 3 1, 3) := by decide +kernel
theorem dX1_putPicked_36 : decode cX1_putPicked 36 = .ok (.goto (-34), 3) := by decide +kernel
theorem dX1_putPicked_39 : decode cX1_putPicked 39 = .ok (.return_, 1) := by decide +kernel
theorem dX1_endsRun_0 : decode cX1_endsRun 0 = .ok (.aload_n 0, 1) := by decide +kernel
theorem dX1_endsRun_1 : decode cX1_endsRun 1 = .ok (.getfield 15, 3) := by decide +kernel
theorem dX1_endsRun_4 : decode cX1_endsRun 4 = .ok (.iload_n 2, 1) := by decide +kernel
theorem dX1_endsRun_5 : decode cX1_endsRun 5 = .ok (.iaload, 1) := by decide +kernel
theorem dX1_endsRun_6 : decode cX1_endsRun 6 = .ok (.iload_n 1, 1) := by decide +kernel
theorem dX1_endsRun_7 : decode cX1_endsRun 7 = .ok (.if_icmp .ne 29, 3) := by decide +kernel
theorem dX1_endsRun_10 : decode cX1_endsRun 10 = .ok (.iload_n 2, 1) := by decide +kernel
theorem dX1_endsRun_11 : decode cX1_endsRun 11 = .ok (.iconst 1, 1) := by decide +kernel
theorem dX1_endsRun_12 : decode cX1_endsRun 12 = .ok (.iadd, 1) := by decide +kernel
theorem dX1_endsRun_13 : decode cX1_endsRun 13 = .ok (.aload_n 0, 1) := by decide +kernel
theorem dX1_endsRun_14 : decode cX1_endsRun 14 = .ok (.getfield 9, 3) := by decide +kernel
theorem dX1_endsRun_17 : decode cX1_endsRun 17 = .ok (.if_icmp .ge 15, 3) := by decide +kernel
theorem dX1_endsRun_20 : decode cX1_endsRun 20 = .ok (.aload_n 0, 1) := by decide +kernel
theorem dX1_endsRun_21 : decode cX1_endsRun 21 = .ok (.getfield 15, 3) := by decide +kernel
theorem dX1_endsRun_24 : decode cX1_endsRun 24 = .ok (.iload_n 2, 1) := by decide +kernel
theorem dX1_endsRun_25 : decode cX1_endsRun 25 = .ok (.iconst 1, 1) := by decide +kernel
theorem dX1_endsRun_26 : decode cX1_endsRun 26 = .ok (.iadd, 1) := by decide +kernel
theorem dX1_endsRun_27 : decode cX1_endsRun 27 = .ok (.iaload, 1) := by decide +kernel
theorem dX1_endsRun_28 : decode cX1_endsRun 28 = .ok (.iload_n 1, 1) := by decide +kernel
theorem dX1_endsRun_29 : decode cX1_endsRun 29 = .ok (.if_icmp .eq 7, 3) := by decide +kernel
theorem dX1_endsRun_32 : decode cX1_endsRun 32 = .ok (.iconst 1, 1) := by decide +kernel
theorem dX1_endsRun_33 : decode cX1_endsRun 33 = .ok (.goto 4, 3) := by decide +kernel
theorem dX1_endsRun_36 : decode cX1_endsRun 36 = .ok (.iconst 0, 1) := by decide +kernel
theorem dX1_endsRun_37 : decode cX1_endsRun 37 = .ok (.ireturn, 1) := by decide +kernel
theorem dX1_runsOf_0 : decode cX1_runsOf 0 = .ok (.iconst 0, 1) := by decide +kernel
theorem dX1_runsOf_1 : decode cX1_runsOf 1 = .ok (.istore_n 2, 1) := by decide +kernel
theorem dX1_runsOf_2 : decode cX1_runsOf 2 = .ok (.iconst 0, 1) := by decide +kernel
theorem dX1_runsOf_3 : decode cX1_runsOf 3 = .ok (.istore_n 3, 1) := by decide +kernel
theorem dX1_runsOf_4 : decode cX1_runsOf 4 = .ok (.iload_n 3, 1) := by decide +kernel
theorem dX1_runsOf_5 : decode cX1_runsOf 5 = .ok (.aload_n 0, 1) := by decide +kernel
theorem dX1_runsOf_6 : decode cX1_runsOf 6 = .ok (.getfield 9, 3) := by decide +kernel
theorem dX1_runsOf_9 : decode cX1_runsOf 9 = .ok (.if_icmp .ge 21, 3) := by decide +kernel
theorem dX1_runsOf_12 : decode cX1_runsOf 12 = .ok (.aload_n 0, 1) := by decide +kernel
theorem dX1_runsOf_13 : decode cX1_runsOf 13 = .ok (.iload_n 1, 1) := by decide +kernel
theorem dX1_runsOf_14 : decode cX1_runsOf 14 = .ok (.iload_n 3, 1) := by decide +kernel
theorem dX1_runsOf_15 : decode cX1_runsOf 15 = .ok (.invokevirtual 56, 3) := by decide +kernel
theorem dX1_runsOf_18 : decode cX1_runsOf 18 = .ok (.ifCond .eq 6, 3) := by decide +kernel
theorem dX1_runsOf_21 : decode cX1_runsOf 21 = .ok (.iinc 2 1, 3) := by decide +kernel
theorem dX1_runsOf_24 : decode cX1_runsOf 24 = .ok (.iinc 3 1, 3) := by decide +kernel
theorem dX1_runsOf_27 : decode cX1_runsOf 27 = .ok (.goto (-23), 3) := by decide +kernel
theorem dX1_runsOf_30 : decode cX1_runsOf 30 = .ok (.iload_n 2, 1) := by decide +kernel
theorem dX1_runsOf_31 : decode cX1_runsOf 31 = .ok (.ireturn, 1) := by decide +kernel
theorem dX1_longestOf_0 : decode cX1_longestOf 0 = .ok (.iconst 0, 1) := by decide +kernel
theorem dX1_longestOf_1 : decode cX1_longestOf 1 = .ok (.istore_n 2, 1) := by decide +kernel
theorem dX1_longestOf_2 : decode cX1_longestOf 2 = .ok (.iconst 0, 1) := by decide +kernel
theorem dX1_longestOf_3 : decode cX1_longestOf 3 = .ok (.istore_n 3, 1) := by decide +kernel
theorem dX1_longestOf_4 : decode cX1_longestOf 4 = .ok (.iconst 0, 1) := by decide +kernel
theorem dX1_longestOf_5 : decode cX1_longestOf 5 = .ok (.istore 4, 2) := by decide +kernel
theorem dX1_longestOf_7 : decode cX1_longestOf 7 = .ok (.iload 4, 2) := by decide +kernel
theorem dX1_longestOf_9 : decode cX1_longestOf 9 = .ok (.aload_n 0, 1) := by decide +kernel
theorem dX1_longestOf_10 : decode cX1_longestOf 10 = .ok (.getfield 9, 3) := by decide +kernel
theorem dX1_longestOf_13 : decode cX1_longestOf 13 = .ok (.if_icmp .ge 34, 3) := by decide +kernel
theorem dX1_longestOf_16 : decode cX1_longestOf 16 = .ok (.aload_n 0, 1) := by decide +kernel
theorem dX1_longestOf_17 : decode cX1_longestOf 17 = .ok (.getfield 15, 3) := by decide +kernel
theorem dX1_longestOf_20 : decode cX1_longestOf 20 = .ok (.iload 4, 2) := by decide +kernel
theorem dX1_longestOf_22 : decode cX1_longestOf 22 = .ok (.iaload, 1) := by decide +kernel
theorem dX1_longestOf_23 : decode cX1_longestOf 23 = .ok (.iload_n 1, 1) := by decide +kernel
theorem dX1_longestOf_24 : decode cX1_longestOf 24 = .ok (.if_icmp .ne 9, 3) := by decide +kernel
theorem dX1_longestOf_27 : decode cX1_longestOf 27 = .ok (.iload_n 3, 1) := by decide +kernel
theorem dX1_longestOf_28 : decode cX1_longestOf 28 = .ok (.iconst 1, 1) := by decide +kernel
theorem dX1_longestOf_29 : decode cX1_longestOf 29 = .ok (.iadd, 1) := by decide +kernel
theorem dX1_longestOf_30 : decode cX1_longestOf 30 = .ok (.goto 4, 3) := by decide +kernel
theorem dX1_longestOf_33 : decode cX1_longestOf 33 = .ok (.iconst 0, 1) := by decide +kernel
theorem dX1_longestOf_34 : decode cX1_longestOf 34 = .ok (.istore_n 3, 1) := by decide +kernel
theorem dX1_longestOf_35 : decode cX1_longestOf 35 = .ok (.iload_n 2, 1) := by decide +kernel
theorem dX1_longestOf_36 : decode cX1_longestOf 36 = .ok (.iload_n 3, 1) := by decide +kernel
theorem dX1_longestOf_37 : decode cX1_longestOf 37 = .ok (.invokestatic 60, 3) := by decide +kernel
theorem dX1_longestOf_40 : decode cX1_longestOf 40 = .ok (.istore_n 2, 1) := by decide +kernel
theorem dX1_longestOf_41 : decode cX1_longestOf 41 = .ok (.iinc 4 1, 3) := by decide +kernel
theorem dX1_longestOf_44 : decode cX1_longestOf 44 = .ok (.goto (-37), 3) := by decide +kernel
theorem dX1_longestOf_47 : decode cX1_longestOf 47 = .ok (.iload_n 2, 1) := by decide +kernel
theorem dX1_longestOf_48 : decode cX1_longestOf 48 = .ok (.ireturn, 1) := by decide +kernel
theorem dX1_bestExchange_0 : decode cX1_bestExchange 0 = .ok (.iconst (-1), 1) := by decide +kernel
theorem dX1_bestExchange_1 : decode cX1_bestExchange 1 = .ok (.istore_n 2, 1) := by decide +kernel
theorem dX1_bestExchange_2 : decode cX1_bestExchange 2 = .ok (.aload_n 0, 1) := by decide +kernel
theorem dX1_bestExchange_3 : decode cX1_bestExchange 3 = .ok (.iload_n 1, 1) := by decide +kernel
theorem dX1_bestExchange_4 : decode cX1_bestExchange 4 = .ok (.invokevirtual 65, 3) := by decide +kernel
theorem dX1_bestExchange_7 : decode cX1_bestExchange 7 = .ok (.istore_n 3, 1) := by decide +kernel
theorem dX1_bestExchange_8 : decode cX1_bestExchange 8 = .ok (.iconst 0, 1) := by decide +kernel
theorem dX1_bestExchange_9 : decode cX1_bestExchange 9 = .ok (.istore 4, 2) := by decide +kernel
theorem dX1_bestExchange_11 : decode cX1_bestExchange 11 = .ok (.iload 4, 2) := by decide +kernel
theorem dX1_bestExchange_13 : decode cX1_bestExchange 13 = .ok (.aload_n 0, 1) := by decide +kernel
theorem dX1_bestExchange_14 : decode cX1_bestExchange 14 = .ok (.getfield 9, 3) := by decide +kernel
theorem dX1_bestExchange_17 : decode cX1_bestExchange 17 = .ok (.if_icmp .ge 86, 3) := by decide +kernel
theorem dX1_bestExchange_20 : decode cX1_bestExchange 20 = .ok (.aload_n 0, 1) := by decide +kernel
theorem dX1_bestExchange_21 : decode cX1_bestExchange 21 = .ok (.getfield 15, 3) := by decide +kernel
theorem dX1_bestExchange_24 : decode cX1_bestExchange 24 = .ok (.iload 4, 2) := by decide +kernel
theorem dX1_bestExchange_26 : decode cX1_bestExchange 26 = .ok (.iaload, 1) := by decide +kernel
theorem dX1_bestExchange_27 : decode cX1_bestExchange 27 = .ok (.iload_n 1, 1) := by decide +kernel
theorem dX1_bestExchange_28 : decode cX1_bestExchange 28 = .ok (.if_icmp .eq 6, 3) := by decide +kernel
theorem dX1_bestExchange_31 : decode cX1_bestExchange 31 = .ok (.goto 66, 3) := by decide +kernel
theorem dX1_bestExchange_34 : decode cX1_bestExchange 34 = .ok (.iconst 0, 1) := by decide +kernel
theorem dX1_bestExchange_35 : decode cX1_bestExchange 35 = .ok (.istore 5, 2) := by decide +kernel
theorem dX1_bestExchange_37 : decode cX1_bestExchange 37 = .ok (.iload 5, 2) := by decide +kernel
theorem dX1_bestExchange_39 : decode cX1_bestExchange 39 = .ok (.aload_n 0, 1) := by decide +kernel
theorem dX1_bestExchange_40 : decode cX1_bestExchange 40 = .ok (.getfield 9, 3) := by decide +kernel
theorem dX1_bestExchange_43 : decode cX1_bestExchange 43 = .ok (.if_icmp .ge 54, 3) := by decide +kernel
theorem dX1_bestExchange_46 : decode cX1_bestExchange 46 = .ok (.aload_n 0, 1) := by decide +kernel
theorem dX1_bestExchange_47 : decode cX1_bestExchange 47 = .ok (.getfield 15, 3) := by decide +kernel
theorem dX1_bestExchange_50 : decode cX1_bestExchange 50 = .ok (.iload 5, 2) := by decide +kernel
theorem dX1_bestExchange_52 : decode cX1_bestExchange 52 = .ok (.iaload, 1) := by decide +kernel
theorem dX1_bestExchange_53 : decode cX1_bestExchange 53 = .ok (.iload_n 1, 1) := by decide +kernel
theorem dX1_bestExchange_54 : decode cX1_bestExchange 54 = .ok (.if_icmp .ne 7, 3) := by decide +kernel
theorem dX1_bestExchange_57 : decode cX1_bestExchange 57 = .ok (.iconst 0, 1) := by decide +kernel
theorem dX1_bestExchange_58 : decode cX1_bestExchange 58 = .ok (.goto 12, 3) := by decide +kernel
theorem dX1_bestExchange_61 : decode cX1_bestExchange 61 = .ok (.aload_n 0, 1) := by decide +kernel
theorem dX1_bestExchange_62 : decode cX1_bestExchange 62 = .ok (.iload_n 1, 1) := by decide +kernel
theorem dX1_bestExchange_63 : decode cX1_bestExchange 63 = .ok (.iload 4, 2) := by decide +kernel
theorem dX1_bestExchange_65 : decode cX1_bestExchange 65 = .ok (.iload 5, 2) := by decide +kernel
theorem dX1_bestExchange_67 : decode cX1_bestExchange 67 = .ok (.invokevirtual 69, 3) := by decide +kernel
theorem dX1_bestExchange_70 : decode cX1_bestExchange 70 = .ok (.istore 6, 2) := by decide +kernel
theorem dX1_bestExchange_72 : decode cX1_bestExchange 72 = .ok (.iload 6, 2) := by decide +kernel
theorem dX1_bestExchange_74 : decode cX1_bestExchange 74 = .ok (.iload_n 3, 1) := by decide +kernel
theorem dX1_bestExchange_75 : decode cX1_bestExchange 75 = .ok (.if_icmp .le 16, 3) := by decide +kernel
theorem dX1_bestExchange_78 : decode cX1_bestExchange 78 = .ok (.iload 6, 2) := by decide +kernel
theorem dX1_bestExchange_80 : decode cX1_bestExchange 80 = .ok (.istore_n 3, 1) := by decide +kernel
theorem dX1_bestExchange_81 : decode cX1_bestExchange 81 = .ok (.sipush 1000, 3) := by decide +kernel
theorem dX1_bestExchange_84 : decode cX1_bestExchange 84 = .ok (.iload 4, 2) := by decide +kernel
theorem dX1_bestExchange_86 : decode cX1_bestExchange 86 = .ok (.imul, 1) := by decide +kernel
theorem dX1_bestExchange_87 : decode cX1_bestExchange 87 = .ok (.iload 5, 2) := by decide +kernel
theorem dX1_bestExchange_89 : decode cX1_bestExchange 89 = .ok (.iadd, 1) := by decide +kernel
theorem dX1_bestExchange_90 : decode cX1_bestExchange 90 = .ok (.istore_n 2, 1) := by decide +kernel
theorem dX1_bestExchange_91 : decode cX1_bestExchange 91 = .ok (.iinc 5 1, 3) := by decide +kernel
theorem dX1_bestExchange_94 : decode cX1_bestExchange 94 = .ok (.goto (-57), 3) := by decide +kernel
theorem dX1_bestExchange_97 : decode cX1_bestExchange 97 = .ok (.iinc 4 1, 3) := by decide +kernel
theorem dX1_bestExchange_100 : decode cX1_bestExchange 100 = .ok (.goto (-89), 3) := by decide +kernel
theorem dX1_bestExchange_103 : decode cX1_bestExchange 103 = .ok (.iload_n 2, 1) := by decide +kernel
theorem dX1_bestExchange_104 : decode cX1_bestExchange 104 = .ok (.ireturn, 1) := by decide +kernel
theorem dX1_joinedLength_0 : decode cX1_joinedLength 0 = .ok (.iconst 1, 1) := by decide +kernel
theorem dX1_joinedLength_1 : decode cX1_joinedLength 1 = .ok (.istore 4, 2) := by decide +kernel
theorem dX1_joinedLength_3 : decode cX1_joinedLength 3 = .ok (.iload_n 3, 1) := by decide +kernel
theorem dX1_joinedLength_4 : decode cX1_joinedLength 4 = .ok (.iconst 1, 1) := by decide +kernel
theorem dX1_joinedLength_5 : decode cX1_joinedLength 5 = .ok (.isub, 1) := by decide +kernel
theorem dX1_joinedLength_6 : decode cX1_joinedLength 6 = .ok (.istore 5, 2) := by decide +kernel
theorem dX1_joinedLength_8 : decode cX1_joinedLength 8 = .ok (.iload 5, 2) := by decide +kernel
theorem dX1_joinedLength_10 : decode cX1_joinedLength 10 = .ok (.ifCond .lt 29, 3) := by decide +kernel
theorem dX1_joinedLength_13 : decode cX1_joinedLength 13 = .ok (.aload_n 0, 1) := by decide +kernel
theorem dX1_joinedLength_14 : decode cX1_joinedLength 14 = .ok (.getfield 15, 3) := by decide +kernel
theorem dX1_joinedLength_17 : decode cX1_joinedLength 17 = .ok (.iload 5, 2) := by decide +kernel
theorem dX1_joinedLength_19 : decode cX1_joinedLength 19 = .ok (.iaload, 1) := by decide +kernel
theorem dX1_joinedLength_20 : decode cX1_joinedLength 20 = .ok (.iload_n 1, 1) := by decide +kernel
theorem dX1_joinedLength_21 : decode cX1_joinedLength 21 = .ok (.if_icmp .ne 18, 3) := by decide +kernel
theorem dX1_joinedLength_24 : decode cX1_joinedLength 24 = .ok (.iload 5, 2) := by decide +kernel
theorem dX1_joinedLength_26 : decode cX1_joinedLength 26 = .ok (.iload_n 2, 1) := by decide +kernel
theorem dX1_joinedLength_27 : decode cX1_joinedLength 27 = .ok (.if_icmp .eq 12, 3) := by decide +kernel
theorem dX1_joinedLength_30 : decode cX1_joinedLength 30 = .ok (.iinc 4 1, 3) := by decide +kernel
theorem dX1_joinedLength_33 : decode cX1_joinedLength 33 = .ok (.iinc 5 (-1), 3) := by decide +kernel
theorem dX1_joinedLength_36 : decode cX1_joinedLength 36 = .ok (.goto (-28), 3) := by decide +kernel
theorem dX1_joinedLength_39 : decode cX1_joinedLength 39 = .ok (.iload_n 3, 1) := by decide +kernel
theorem dX1_joinedLength_40 : decode cX1_joinedLength 40 = .ok (.iconst 1, 1) := by decide +kernel
theorem dX1_joinedLength_41 : decode cX1_joinedLength 41 = .ok (.iadd, 1) := by decide +kernel
theorem dX1_joinedLength_42 : decode cX1_joinedLength 42 = .ok (.istore 5, 2) := by decide +kernel
theorem dX1_joinedLength_44 : decode cX1_joinedLength 44 = .ok (.iload 5, 2) := by decide +kernel
theorem dX1_joinedLength_46 : decode cX1_joinedLength 46 = .ok (.aload_n 0, 1) := by decide +kernel
theorem dX1_joinedLength_47 : decode cX1_joinedLength 47 = .ok (.getfield 9, 3) := by decide +kernel
theorem dX1_joinedLength_50 : decode cX1_joinedLength 50 = .ok (.if_icmp .ge 29, 3) := by decide +kernel
theorem dX1_joinedLength_53 : decode cX1_joinedLength 53 = .ok (.aload_n 0, 1) := by decide +kernel
theorem dX1_joinedLength_54 : decode cX1_joinedLength 54 = .ok (.getfield 15, 3) := by decide +kernel
theorem dX1_joinedLength_57 : decode cX1_joinedLength 57 = .ok (.iload 5, 2) := by decide +kernel
theorem dX1_joinedLength_59 : decode cX1_joinedLength 59 = .ok (.iaload, 1) := by decide +kernel
theorem dX1_joinedLength_60 : decode cX1_joinedLength 60 = .ok (.iload_n 1, 1) := by decide +kernel
theorem dX1_joinedLength_61 : decode cX1_joinedLength 61 = .ok (.if_icmp .ne 18, 3) := by decide +kernel
theorem dX1_joinedLength_64 : decode cX1_joinedLength 64 = .ok (.iload 5, 2) := by decide +kernel
theorem dX1_joinedLength_66 : decode cX1_joinedLength 66 = .ok (.iload_n 2, 1) := by decide +kernel
theorem dX1_joinedLength_67 : decode cX1_joinedLength 67 = .ok (.if_icmp .eq 12, 3) := by decide +kernel
theorem dX1_joinedLength_70 : decode cX1_joinedLength 70 = .ok (.iinc 4 1, 3) := by decide +kernel
theorem dX1_joinedLength_73 : decode cX1_joinedLength 73 = .ok (.iinc 5 1, 3) := by decide +kernel
theorem dX1_joinedLength_76 : decode cX1_joinedLength 76 = .ok (.goto (-32), 3) := by decide +kernel
theorem dX1_joinedLength_79 : decode cX1_joinedLength 79 = .ok (.iload 4, 2) := by decide +kernel
theorem dX1_joinedLength_81 : decode cX1_joinedLength 81 = .ok (.ireturn, 1) := by decide +kernel
