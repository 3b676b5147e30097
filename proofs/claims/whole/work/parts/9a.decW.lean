theorem dL_appendByte_0 : decode cL_appendByte 0 = .ok (.aload_n 2, 1) := by decide +kernel
theorem dL_appendByte_1 : decode cL_appendByte 1 = .ok (.iconst 0, 1) := by decide +kernel
theorem dL_appendByte_2 : decode cL_appendByte 2 = .ok (.aload_n 0, 1) := by decide +kernel
theorem dL_appendByte_3 : decode cL_appendByte 3 = .ok (.iload_n 1, 1) := by decide +kernel
theorem dL_appendByte_4 : decode cL_appendByte 4 = .ok (.invokevirtual 7, 3) := by decide +kernel
theorem dL_appendByte_7 : decode cL_appendByte 7 = .ok (.i2l, 1) := by decide +kernel
theorem dL_appendByte_8 : decode cL_appendByte 8 = .ok (.lastore, 1) := by decide +kernel
theorem dL_appendByte_9 : decode cL_appendByte 9 = .ok (.goto 6, 3) := by decide +kernel
theorem dL_appendByte_12 : decode cL_appendByte 12 = .ok (.astore_n 3, 1) := by decide +kernel
theorem dL_appendByte_13 : decode cL_appendByte 13 = .ok (.iconst 1, 1) := by decide +kernel
theorem dL_appendByte_14 : decode cL_appendByte 14 = .ok (.ireturn, 1) := by decide +kernel
theorem dL_appendByte_15 : decode cL_appendByte 15 = .ok (.iconst 0, 1) := by decide +kernel
theorem dL_appendByte_16 : decode cL_appendByte 16 = .ok (.ireturn, 1) := by decide +kernel
theorem dL_nameByte_0 : decode cL_nameByte 0 = .ok (.aload_n 3, 1) := by decide +kernel
theorem dL_nameByte_1 : decode cL_nameByte 1 = .ok (.iconst 0, 1) := by decide +kernel
theorem dL_nameByte_2 : decode cL_nameByte 2 = .ok (.aload_n 0, 1) := by decide +kernel
theorem dL_nameByte_3 : decode cL_nameByte 3 = .ok (.iload_n 1, 1) := by decide +kernel
theorem dL_nameByte_4 : decode cL_nameByte 4 = .ok (.iload_n 2, 1) := by decide +kernel
theorem dL_nameByte_5 : decode cL_nameByte 5 = .ok (.invokevirtual 15, 3) := by decide +kernel
theorem dL_nameByte_8 : decode cL_nameByte 8 = .ok (.i2l, 1) := by decide +kernel
theorem dL_nameByte_9 : decode cL_nameByte 9 = .ok (.lastore, 1) := by decide +kernel
theorem dL_nameByte_10 : decode cL_nameByte 10 = .ok (.goto 7, 3) := by decide +kernel
theorem dL_nameByte_13 : decode cL_nameByte 13 = .ok (.astore 4, 2) := by decide +kernel
theorem dL_nameByte_15 : decode cL_nameByte 15 = .ok (.iconst 1, 1) := by decide +kernel
theorem dL_nameByte_16 : decode cL_nameByte 16 = .ok (.ireturn, 1) := by decide +kernel
theorem dL_nameByte_17 : decode cL_nameByte 17 = .ok (.iconst 0, 1) := by decide +kernel
theorem dL_nameByte_18 : decode cL_nameByte 18 = .ok (.ireturn, 1) := by decide +kernel
theorem dL_advance_0 : decode cL_advance 0 = .ok (.aload_n 2, 1) := by decide +kernel
theorem dL_advance_1 : decode cL_advance 1 = .ok (.iconst 0, 1) := by decide +kernel
theorem dL_advance_2 : decode cL_advance 2 = .ok (.aload_n 0, 1) := by decide +kernel
theorem dL_advance_3 : decode cL_advance 3 = .ok (.iload_n 1, 1) := by decide +kernel
theorem dL_advance_4 : decode cL_advance 4 = .ok (.invokevirtual 21, 3) := by decide +kernel
theorem dL_advance_7 : decode cL_advance 7 = .ok (.i2l, 1) := by decide +kernel
theorem dL_advance_8 : decode cL_advance 8 = .ok (.lastore, 1) := by decide +kernel
theorem dL_advance_9 : decode cL_advance 9 = .ok (.goto 6, 3) := by decide +kernel
theorem dL_advance_12 : decode cL_advance 12 = .ok (.astore_n 3, 1) := by decide +kernel
theorem dL_advance_13 : decode cL_advance 13 = .ok (.iconst 1, 1) := by decide +kernel
theorem dL_advance_14 : decode cL_advance 14 = .ok (.ireturn, 1) := by decide +kernel
theorem dL_advance_15 : decode cL_advance 15 = .ok (.iconst 0, 1) := by decide +kernel
theorem dL_advance_16 : decode cL_advance 16 = .ok (.ireturn, 1) := by decide +kernel
theorem dL_setPick_0 : decode cL_setPick 0 = .ok (.aload_n 2, 1) := by decide +kernel
theorem dL_setPick_1 : decode cL_setPick 1 = .ok (.iconst 0, 1) := by decide +kernel
theorem dL_setPick_2 : decode cL_setPick 2 = .ok (.aload_n 0, 1) := by decide +kernel
theorem dL_setPick_3 : decode cL_setPick 3 = .ok (.iload_n 1, 1) := by decide +kernel
theorem dL_setPick_4 : decode cL_setPick 4 = .ok (.invokevirtual 24, 3) := by decide +kernel
theorem dL_setPick_7 : decode cL_setPick 7 = .ok (.i2l, 1) := by decide +kernel
theorem dL_setPick_8 : decode cL_setPick 8 = .ok (.lastore, 1) := by decide +kernel
theorem dL_setPick_9 : decode cL_setPick 9 = .ok (.goto 6, 3) := by decide +kernel
theorem dL_setPick_12 : decode cL_setPick 12 = .ok (.astore_n 3, 1) := by decide +kernel
theorem dL_setPick_13 : decode cL_setPick 13 = .ok (.iconst 1, 1) := by decide +kernel
theorem dL_setPick_14 : decode cL_setPick 14 = .ok (.ireturn, 1) := by decide +kernel
theorem dL_setPick_15 : decode cL_setPick 15 = .ok (.iconst 0, 1) := by decide +kernel
theorem dL_setPick_16 : decode cL_setPick 16 = .ok (.ireturn, 1) := by decide +kernel
theorem dL_transfer_0 : decode cL_transfer 0 = .ok (.aload 5, 2) := by decide +kernel
theorem dL_transfer_2 : decode cL_transfer 2 = .ok (.iconst 0, 1) := by decide +kernel
theorem dL_transfer_3 : decode cL_transfer 3 = .ok (.aload_n 0, 1) := by decide +kernel
theorem dL_transfer_4 : decode cL_transfer 4 = .ok (.iload_n 1, 1) := by decide +kernel
theorem dL_transfer_5 : decode cL_transfer 5 = .ok (.iload_n 2, 1) := by decide +kernel
theorem dL_transfer_6 : decode cL_transfer 6 = .ok (.iload_n 3, 1) := by decide +kernel
theorem dL_transfer_7 : decode cL_transfer 7 = .ok (.iload 4, 2) := by decide +kernel
theorem dL_transfer_9 : decode cL_transfer 9 = .ok (.invokevirtual 27, 3) := by decide +kernel
theorem dL_transfer_12 : decode cL_transfer 12 = .ok (.i2l, 1) := by decide +kernel
theorem dL_transfer_13 : decode cL_transfer 13 = .ok (.lastore, 1) := by decide +kernel
theorem dL_transfer_14 : decode cL_transfer 14 = .ok (.goto 11, 3) := by decide +kernel
theorem dL_transfer_17 : decode cL_transfer 17 = .ok (.astore 6, 2) := by decide +kernel
theorem dL_transfer_19 : decode cL_transfer 19 = .ok (.iconst 1, 1) := by decide +kernel
theorem dL_transfer_20 : decode cL_transfer 20 = .ok (.ireturn, 1) := by decide +kernel
theorem dL_transfer_21 : decode cL_transfer 21 = .ok (.astore 6, 2) := by decide +kernel
theorem dL_transfer_23 : decode cL_transfer 23 = .ok (.iconst 2, 1) := by decide +kernel
theorem dL_transfer_24 : decode cL_transfer 24 = .ok (.ireturn, 1) := by decide +kernel
theorem dL_transfer_25 : decode cL_transfer 25 = .ok (.iconst 0, 1) := by decide +kernel
theorem dL_transfer_26 : decode cL_transfer 26 = .ok (.ireturn, 1) := by decide +kernel
theorem dL_transferBlock_0 : decode cL_transferBlock 0 = .ok (.aload 4, 2) := by decide +kernel
theorem dL_transferBlock_2 : decode cL_transferBlock 2 = .ok (.iconst 0, 1) := by decide +kernel
theorem dL_transferBlock_3 : decode cL_transferBlock 3 = .ok (.aload_n 0, 1) := by decide +kernel
theorem dL_transferBlock_4 : decode cL_transferBlock 4 = .ok (.iload_n 1, 1) := by decide +kernel
theorem dL_transferBlock_5 : decode cL_transferBlock 5 = .ok (.iload_n 2, 1) := by decide +kernel
theorem dL_transferBlock_6 : decode cL_transferBlock 6 = .ok (.iload_n 3, 1) := by decide +kernel
theorem dL_transferBlock_7 : decode cL_transferBlock 7 = .ok (.invokevirtual 31, 3) := by decide +kernel
theorem dL_transferBlock_10 : decode cL_transferBlock 10 = .ok (.i2l, 1) := by decide +kernel
theorem dL_transferBlock_11 : decode cL_transferBlock 11 = .ok (.lastore, 1) := by decide +kernel
theorem dL_transferBlock_12 : decode cL_transferBlock 12 = .ok (.goto 11, 3) := by decide +kernel
theorem dL_transferBlock_15 : decode cL_transferBlock 15 = .ok (.astore 5, 2) := by decide +kernel
theorem dL_transferBlock_17 : decode cL_transferBlock 17 = .ok (.iconst 1, 1) := by decide +kernel
theorem dL_transferBlock_18 : decode cL_transferBlock 18 = .ok (.ireturn, 1) := by decide +kernel
theorem dL_transferBlock_19 : decode cL_transferBlock 19 = .ok (.astore 5, 2) := by decide +kernel
theorem dL_transferBlock_21 : decode cL_transferBlock 21 = .ok (.iconst 2, 1) := by decide +kernel
theorem dL_transferBlock_22 : decode cL_transferBlock 22 = .ok (.ireturn, 1) := by decide +kernel
theorem dL_transferBlock_23 : decode cL_transferBlock 23 = .ok (.iconst 0, 1) := by decide +kernel
theorem dL_transferBlock_24 : decode cL_transferBlock 24 = .ok (.ireturn, 1) := by decide +kernel
theorem dL_reverse_0 : decode cL_reverse 0 = .ok (.aload_n 2, 1) := by decide +kernel
theorem dL_reverse_1 : decode cL_reverse 1 = .ok (.iconst 0, 1) := by decide +kernel
theorem dL_reverse_2 : decode cL_reverse 2 = .ok (.aload_n 0, 1) := by decide +kernel
theorem dL_reverse_3 : decode cL_reverse 3 = .ok (.iload_n 1, 1) := by decide +kernel
theorem dL_reverse_4 : decode cL_reverse 4 = .ok (.invokevirtual 35, 3) := by decide +kernel
theorem dL_reverse_7 : decode cL_reverse 7 = .ok (.i2l, 1) := by decide +kernel
theorem dL_reverse_8 : decode cL_reverse 8 = .ok (.lastore, 1) := by decide +kernel
theorem dL_reverse_9 : decode cL_reverse 9 = .ok (.goto 6, 3) := by decide +kernel
theorem dL_reverse_12 : decode cL_reverse 12 = .ok (.astore_n 3, 1) := by decide +kernel
theorem dL_reverse_13 : decode cL_reverse 13 = .ok (.iconst 1, 1) := by decide +kernel
theorem dL_reverse_14 : decode cL_reverse 14 = .ok (.ireturn, 1) := by decide +kernel
theorem dL_reverse_15 : decode cL_reverse 15 = .ok (.iconst 0, 1) := by decide +kernel
theorem dL_reverse_16 : decode cL_reverse 16 = .ok (.ireturn, 1) := by decide +kernel
theorem dL_reserve_0 : decode cL_reserve 0 = .ok (.aload 5, 2) := by decide +kernel
theorem dL_reserve_2 : decode cL_reserve 2 = .ok (.iconst 0, 1) := by decide +kernel
theorem dL_reserve_3 : decode cL_reserve 3 = .ok (.aload_n 0, 1) := by decide +kernel
theorem dL_reserve_4 : decode cL_reserve 4 = .ok (.iload_n 1, 1) := by decide +kernel
theorem dL_reserve_5 : decode cL_reserve 5 = .ok (.iload_n 2, 1) := by decide +kernel
theorem dL_reserve_6 : decode cL_reserve 6 = .ok (.iload_n 3, 1) := by decide +kernel
theorem dL_reserve_7 : decode cL_reserve 7 = .ok (.iload 4, 2) := by decide +kernel
theorem dL_reserve_9 : decode cL_reserve 9 = .ok (.invokevirtual 38, 3) := by decide +kernel
theorem dL_reserve_12 : decode cL_reserve 12 = .ok (.i2l, 1) := by decide +kernel
theorem dL_reserve_13 : decode cL_reserve 13 = .ok (.lastore, 1) := by decide +kernel
theorem dL_reserve_14 : decode cL_reserve 14 = .ok (.goto 11, 3) := by decide +kernel
theorem dL_reserve_17 : decode cL_reserve 17 = .ok (.astore 6, 2) := by decide +kernel
theorem dL_reserve_19 : decode cL_reserve 19 = .ok (.iconst 1, 1) := by decide +kernel
theorem dL_reserve_20 : decode cL_reserve 20 = .ok (.ireturn, 1) := by decide +kernel
theorem dL_reserve_21 : decode cL_reserve 21 = .ok (.astore 6, 2) := by decide +kernel
theorem dL_reserve_23 : decode cL_reserve 23 = .ok (.iconst 2, 1) := by decide +kernel
theorem dL_reserve_24 : decode cL_reserve 24 = .ok (.ireturn, 1) := by decide +kernel
theorem dL_reserve_25 : decode cL_reserve 25 = .ok (.iconst 0, 1) := by decide +kernel
theorem dL_reserve_26 : decode cL_reserve 26 = .ok (.ireturn, 1) := by decide +kernel
theorem dL_commit_0 : decode cL_commit 0 = .ok (.aload_n 3, 1) := by decide +kernel
theorem dL_commit_1 : decode cL_commit 1 = .ok (.iconst 0, 1) := by decide +kernel
theorem dL_commit_2 : decode cL_commit 2 = .ok (.aload_n 0, 1) := by decide +kernel
theorem dL_commit_3 : decode cL_commit 3 = .ok (.iload_n 1, 1) := by decide +kernel
theorem dL_commit_4 : decode cL_commit 4 = .ok (.iload_n 2, 1) := by decide +kernel
theorem dL_commit_5 : decode cL_commit 5 = .ok (.invokevirtual 41, 3) := by decide +kernel
theorem dL_commit_8 : decode cL_commit 8 = .ok (.i2l, 1) := by decide +kernel
theorem dL_commit_9 : decode cL_commit 9 = .ok (.lastore, 1) := by decide +kernel
theorem dL_commit_10 : decode cL_commit 10 = .ok (.goto 11, 3) := by decide +kernel
theorem dL_commit_13 : decode cL_commit 13 = .ok (.astore 4, 2) := by decide +kernel
theorem dL_commit_15 : decode cL_commit 15 = .ok (.iconst 1, 1) := by decide +kernel
theorem dL_commit_16 : decode cL_commit 16 = .ok (.ireturn, 1) := by decide +kernel
theorem dL_commit_17 : decode cL_commit 17 = .ok (.astore 4, 2) := by decide +kernel
theorem dL_commit_19 : decode cL_commit 19 = .ok (.iconst 2, 1) := by decide +kernel
theorem dL_commit_20 : decode cL_commit 20 = .ok (.ireturn, 1) := by decide +kernel
theorem dL_commit_21 : decode cL_commit 21 = .ok (.iconst 0, 1) := by decide +kernel
theorem dL_commit_22 : decode cL_commit 22 = .ok (.ireturn, 1) := by decide +kernel
theorem dL_release_0 : decode cL_release 0 = .ok (.aload_n 2, 1) := by decide +kernel
theorem dL_release_1 : decode cL_release 1 = .ok (.iconst 0, 1) := by decide +kernel
theorem dL_release_2 : decode cL_release 2 = .ok (.aload_n 0, 1) := by decide +kernel
theorem dL_release_3 : decode cL_release 3 = .ok (.iload_n 1, 1) := by decide +kernel
theorem dL_release_4 : decode cL_release 4 = .ok (.invokevirtual 44, 3) := by decide +kernel
theorem dL_release_7 : decode cL_release 7 = .ok (.i2l, 1) := by decide +kernel
theorem dL_release_8 : decode cL_release 8 = .ok (.lastore, 1) := by decide +kernel
theorem dL_release_9 : decode cL_release 9 = .ok (.goto 6, 3) := by decide +kernel
theorem dL_release_12 : decode cL_release 12 = .ok (.astore_n 3, 1) := by decide +kernel
theorem dL_release_13 : decode cL_release 13 = .ok (.iconst 1, 1) := by decide +kernel
theorem dL_release_14 : decode cL_release 14 = .ok (.ireturn, 1) := by decide +kernel
theorem dL_release_15 : decode cL_release 15 = .ok (.iconst 0, 1) := by decide +kernel
theorem dL_release_16 : decode cL_release 16 = .ok (.ireturn, 1) := by decide +kernel
theorem dL_extend_0 : decode cL_extend 0 = .ok (.aload_n 3, 1) := by decide +kernel
theorem dL_extend_1 : decode cL_extend 1 = .ok (.iconst 0, 1) := by decide +kernel
theorem dL_extend_2 : decode cL_extend 2 = .ok (.aload_n 0, 1) := by decide +kernel
theorem dL_extend_3 : decode cL_extend 3 = .ok (.iload_n 1, 1) := by decide +kernel
theorem dL_extend_4 : decode cL_extend 4 = .ok (.iload_n 2, 1) := by decide +kernel
theorem dL_extend_5 : decode cL_extend 5 = .ok (.invokevirtual 47, 3) := by decide +kernel
theorem dL_extend_8 : decode cL_extend 8 = .ok (.i2l, 1) := by decide +kernel
theorem dL_extend_9 : decode cL_extend 9 = .ok (.lastore, 1) := by decide +kernel
theorem dL_extend_10 : decode cL_extend 10 = .ok (.goto 11, 3) := by decide +kernel
theorem dL_extend_13 : decode cL_extend 13 = .ok (.astore 4, 2) := by decide +kernel
theorem dL_extend_15 : decode cL_extend 15 = .ok (.iconst 1, 1) := by decide +kernel
theorem dL_extend_16 : decode cL_extend 16 = .ok (.ireturn, 1) := by decide +kernel
theorem dL_extend_17 : decode cL_extend 17 = .ok (.astore 4, 2) := by decide +kernel
theorem dL_extend_19 : decode cL_extend 19 = .ok (.iconst 2, 1) := by decide +kernel
theorem dL_extend_20 : decode cL_extend 20 = .ok (.ireturn, 1) := by decide +kernel
theorem dL_extend_21 : decode cL_extend 21 = .ok (.iconst 0, 1) := by decide +kernel
theorem dL_extend_22 : decode cL_extend 22 = .ok (.ireturn, 1) := by decide +kernel
theorem dL_balance_0 : decode cL_balance 0 = .ok (.aload_n 2, 1) := by decide +kernel
theorem dL_balance_1 : decode cL_balance 1 = .ok (.iconst 0, 1) := by decide +kernel
theorem dL_balance_2 : decode cL_balance 2 = .ok (.aload_n 0, 1) := by decide +kernel
theorem dL_balance_3 : decode cL_balance 3 = .ok (.iload_n 1, 1) := by decide +kernel
theorem dL_balance_4 : decode cL_balance 4 = .ok (.invokevirtual 50, 3) := by decide +kernel
theorem dL_balance_7 : decode cL_balance 7 = .ok (.i2l, 1) := by decide +kernel
theorem dL_balance_8 : decode cL_balance 8 = .ok (.lastore, 1) := by decide +kernel
theorem dL_balance_9 : decode cL_balance 9 = .ok (.goto 6, 3) := by decide +kernel
theorem dL_balance_12 : decode cL_balance 12 = .ok (.astore_n 3, 1) := by decide +kernel
theorem dL_balance_13 : decode cL_balance 13 = .ok (.iconst 1, 1) := by decide +kernel
theorem dL_balance_14 : decode cL_balance 14 = .ok (.ireturn, 1) := by decide +kernel
theorem dL_balance_15 : decode cL_balance 15 = .ok (.iconst 0, 1) := by decide +kernel
theorem dL_balance_16 : decode cL_balance 16 = .ok (.ireturn, 1) := by decide +kernel
theorem dL_booked_0 : decode cL_booked 0 = .ok (.aload_n 2, 1) := by decide +kernel
theorem dL_booked_1 : decode cL_booked 1 = .ok (.iconst 0, 1) := by decide +kernel
theorem dL_booked_2 : decode cL_booked 2 = .ok (.aload_n 0, 1) := by decide +kernel
theorem dL_booked_3 : decode cL_booked 3 = .ok (.iload_n 1, 1) := by decide +kernel
theorem dL_booked_4 : decode cL_booked 4 = .ok (.invokevirtual 53, 3) := by decide +kernel
theorem dL_booked_7 : decode cL_booked 7 = .ok (.i2l, 1) := by decide +kernel
theorem dL_booked_8 : decode cL_booked 8 = .ok (.lastore, 1) := by decide +kernel
theorem dL_booked_9 : decode cL_booked 9 = .ok (.goto 6, 3) := by decide +kernel
theorem dL_booked_12 : decode cL_booked 12 = .ok (.astore_n 3, 1) := by decide +kernel
theorem dL_booked_13 : decode cL_booked 13 = .ok (.iconst 1, 1) := by decide +kernel
theorem dL_booked_14 : decode cL_booked 14 = .ok (.ireturn, 1) := by decide +kernel
theorem dL_booked_15 : decode cL_booked 15 = .ok (.iconst 0, 1) := by decide +kernel
theorem dL_booked_16 : decode cL_booked 16 = .ok (.ireturn, 1) := by decide +kernel
theorem dL_available_0 : decode cL_available 0 = .ok (.aload_n 2, 1) := by decide +kernel
theorem dL_available_1 : decode cL_available 1 = .ok (.iconst 0, 1) := by decide +kernel
theorem dL_available_2 : decode cL_available 2 = .ok (.aload_n 0, 1) := by decide +kernel
theorem dL_available_3 : decode cL_available 3 = .ok (.iload_n 1, 1) := by decide +kernel
theorem dL_available_4 : decode cL_available 4 = .ok (.invokevirtual 56, 3) := by decide +kernel
theorem dL_available_7 : decode cL_available 7 = .ok (.i2l, 1) := by decide +kernel
theorem dL_available_8 : decode cL_available 8 = .ok (.lastore, 1) := by decide +kernel
theorem dL_available_9 : decode cL_available 9 = .ok (.goto 6, 3) := by decide +kernel
theorem dL_available_12 : decode cL_available 12 = .ok (.astore_n 3, 1) := by decide +kernel
theorem dL_available_13 : decode cL_available 13 = .ok (.iconst 1, 1) := by decide +kernel
theorem dL_available_14 : decode cL_available 14 = .ok (.ireturn, 1) := by decide +kernel
theorem dL_available_15 : decode cL_available 15 = .ok (.iconst 0, 1) := by decide +kernel
theorem dL_available_16 : decode cL_available 16 = .ok (.ireturn, 1) := by decide +kernel
theorem dL_room_0 : decode cL_room 0 = .ok (.aload_n 2, 1) := by decide +kernel
theorem dL_room_1 : decode cL_room 1 = .ok (.iconst 0, 1) := by decide +kernel
theorem dL_room_2 : decode cL_room 2 = .ok (.aload_n 0, 1) := by decide +kernel
theorem dL_room_3 : decode cL_room 3 = .ok (.iload_n 1, 1) := by decide +kernel
theorem dL_room_4 : decode cL_room 4 = .ok (.invokevirtual 59, 3) := by decide +kernel
theorem dL_room_7 : decode cL_room 7 = .ok (.i2l, 1) := by decide +kernel
theorem dL_room_8 : decode cL_room 8 = .ok (.lastore, 1) := by decide +kernel
theorem dL_room_9 : decode cL_room 9 = .ok (.goto 6, 3) := by decide +kernel
theorem dL_room_12 : decode cL_room 12 = .ok (.astore_n 3, 1) := by decide +kernel
theorem dL_room_13 : decode cL_room 13 = .ok (.iconst 1, 1) := by decide +kernel
theorem dL_room_14 : decode cL_room 14 = .ok (.ireturn, 1) := by decide +kernel
theorem dL_room_15 : decode cL_room 15 = .ok (.iconst 0, 1) := by decide +kernel
theorem dL_room_16 : decode cL_room 16 = .ok (.ireturn, 1) := by decide +kernel
theorem dL_largestTransfer_0 : decode cL_largestTransfer 0 = .ok (.aload_n 3, 1) := by decide +kernel
theorem dL_largestTransfer_1 : decode cL_largestTransfer 1 = .ok (.iconst 0, 1) := by decide +kernel
theorem dL_largestTransfer_2 : decode cL_largestTransfer 2 = .ok (.aload_n 0, 1) := by decide +kernel
theorem dL_largestTransfer_3 : decode cL_largestTransfer 3 = .ok (.iload_n 1, 1) := by decide +kernel
theorem dL_largestTransfer_4 : decode cL_largestTransfer 4 = .ok (.iload_n 2, 1) := by decide +kernel
theorem dL_largestTransfer_5 : decode cL_largestTransfer 5 = .ok (.invokevirtual 62, 3) := by decide +kernel
theorem dL_largestTransfer_8 : decode cL_largestTransfer 8 = .ok (.i2l, 1) := by decide +kernel
theorem dL_largestTransfer_9 : decode cL_largestTransfer 9 = .ok (.lastore, 1) := by decide +kernel
theorem dL_largestTransfer_10 : decode cL_largestTransfer 10 = .ok (.goto 11, 3) := by decide +kernel
theorem dL_largestTransfer_13 : decode cL_largestTransfer 13 = .ok (.astore 4, 2) := by decide +kernel
theorem dL_largestTransfer_15 : decode cL_largestTransfer 15 = .ok (.iconst 1, 1) := by decide +kernel
theorem dL_largestTransfer_16 : decode cL_largestTransfer 16 = .ok (.ireturn, 1) := by decide +kernel
theorem dL_largestTransfer_17 : decode cL_largestTransfer 17 = .ok (.astore 4, 2) := by decide +kernel
theorem dL_largestTransfer_19 : decode cL_largestTransfer 19 = .ok (.iconst 2, 1) := by decide +kernel
theorem dL_largestTransfer_20 : decode cL_largestTransfer 20 = .ok (.ireturn, 1) := by decide +kernel
theorem dL_largestTransfer_21 : decode cL_largestTransfer 21 = .ok (.iconst 0, 1) := by decide +kernel
theorem dL_largestTransfer_22 : decode cL_largestTransfer 22 = .ok (.ireturn, 1) := by decide +kernel
theorem dL_poolOf_0 : decode cL_poolOf 0 = .ok (.aload_n 2, 1) := by decide +kernel
theorem dL_poolOf_1 : decode cL_poolOf 1 = .ok (.iconst 0, 1) := by decide +kernel
theorem dL_poolOf_2 : decode cL_poolOf 2 = .ok (.aload_n 0, 1) := by decide +kernel
theorem dL_poolOf_3 : decode cL_poolOf 3 = .ok (.iload_n 1, 1) := by decide +kernel
theorem dL_poolOf_4 : decode cL_poolOf 4 = .ok (.invokevirtual 65, 3) := by decide +kernel
theorem dL_poolOf_7 : decode cL_poolOf 7 = .ok (.i2l, 1) := by decide +kernel
theorem dL_poolOf_8 : decode cL_poolOf 8 = .ok (.lastore, 1) := by decide +kernel
theorem dL_poolOf_9 : decode cL_poolOf 9 = .ok (.goto 6, 3) := by decide +kernel
theorem dL_poolOf_12 : decode cL_poolOf 12 = .ok (.astore_n 3, 1) := by decide +kernel
theorem dL_poolOf_13 : decode cL_poolOf 13 = .ok (.iconst 1, 1) := by decide +kernel
theorem dL_poolOf_14 : decode cL_poolOf 14 = .ok (.ireturn, 1) := by decide +kernel
theorem dL_poolOf_15 : decode cL_poolOf 15 = .ok (.iconst 0, 1) := by decide +kernel
theorem dL_poolOf_16 : decode cL_poolOf 16 = .ok (.ireturn, 1) := by decide +kernel
theorem dL_since_0 : decode cL_since 0 = .ok (.aload_n 2, 1) := by decide +kernel
theorem dL_since_1 : decode cL_since 1 = .ok (.iconst 0, 1) := by decide +kernel
theorem dL_since_2 : decode cL_since 2 = .ok (.aload_n 0, 1) := by decide +kernel
theorem dL_since_3 : decode cL_since 3 = .ok (.iload_n 1, 1) := by decide +kernel
theorem dL_since_4 : decode cL_since 4 = .ok (.invokevirtual 68, 3) := by decide +kernel
theorem dL_since_7 : decode cL_since 7 = .ok (.i2l, 1) := by decide +kernel
theorem dL_since_8 : decode cL_since 8 = .ok (.lastore, 1) := by decide +kernel
theorem dL_since_9 : decode cL_since 9 = .ok (.goto 6, 3) := by decide +kernel
theorem dL_since_12 : decode cL_since 12 = .ok (.astore_n 3, 1) := by decide +kernel
theorem dL_since_13 : decode cL_since 13 = .ok (.iconst 1, 1) := by decide +kernel
theorem dL_since_14 : decode cL_since 14 = .ok (.ireturn, 1) := by decide +kernel
theorem dL_since_15 : decode cL_since 15 = .ok (.iconst 0, 1) := by decide +kernel
theorem dL_since_16 : decode cL_since 16 = .ok (.ireturn, 1) := by decide +kernel
theorem dL_blockAt_0 : decode cL_blockAt 0 = .ok (.aload_n 3, 1) := by decide +kernel
theorem dL_blockAt_1 : decode cL_blockAt 1 = .ok (.iconst 0, 1) := by decide +kernel
theorem dL_blockAt_2 : decode cL_blockAt 2 = .ok (.aload_n 0, 1) := by decide +kernel
theorem dL_blockAt_3 : decode cL_blockAt 3 = .ok (.iload_n 1, 1) := by decide +kernel
theorem dL_blockAt_4 : decode cL_blockAt 4 = .ok (.iload_n 2, 1) := by decide +kernel
theorem dL_blockAt_5 : decode cL_blockAt 5 = .ok (.invokevirtual 71, 3) := by decide +kernel
theorem dL_blockAt_8 : decode cL_blockAt 8 = .ok (.i2l, 1) := by decide +kernel
theorem dL_blockAt_9 : decode cL_blockAt 9 = .ok (.lastore, 1) := by decide +kernel
theorem dL_blockAt_10 : decode cL_blockAt 10 = .ok (.goto 7, 3) := by decide +kernel
theorem dL_blockAt_13 : decode cL_blockAt 13 = .ok (.astore 4, 2) := by decide +kernel
theorem dL_blockAt_15 : decode cL_blockAt 15 = .ok (.iconst 1, 1) := by decide +kernel
theorem dL_blockAt_16 : decode cL_blockAt 16 = .ok (.ireturn, 1) := by decide +kernel
theorem dL_blockAt_17 : decode cL_blockAt 17 = .ok (.iconst 0, 1) := by decide +kernel
theorem dL_blockAt_18 : decode cL_blockAt 18 = .ok (.ireturn, 1) := by decide +kernel
theorem dL_wouldPick_0 : decode cL_wouldPick 0 = .ok (.aload 4, 2) := by decide +kernel
theorem dL_wouldPick_2 : decode cL_wouldPick 2 = .ok (.iconst 0, 1) := by decide +kernel
theorem dL_wouldPick_3 : decode cL_wouldPick 3 = .ok (.aload_n 0, 1) := by decide +kernel
theorem dL_wouldPick_4 : decode cL_wouldPick 4 = .ok (.iload_n 1, 1) := by decide +kernel
theorem dL_wouldPick_5 : decode cL_wouldPick 5 = .ok (.iload_n 2, 1) := by decide +kernel
theorem dL_wouldPick_6 : decode cL_wouldPick 6 = .ok (.iload_n 3, 1) := by decide +kernel
theorem dL_wouldPick_7 : decode cL_wouldPick 7 = .ok (.invokevirtual 74, 3) := by decide +kernel
theorem dL_wouldPick_10 : decode cL_wouldPick 10 = .ok (.i2l, 1) := by decide +kernel
theorem dL_wouldPick_11 : decode cL_wouldPick 11 = .ok (.lastore, 1) := by decide +kernel
theorem dL_wouldPick_12 : decode cL_wouldPick 12 = .ok (.goto 11, 3) := by decide +kernel
theorem dL_wouldPick_15 : decode cL_wouldPick 15 = .ok (.astore 5, 2) := by decide +kernel
theorem dL_wouldPick_17 : decode cL_wouldPick 17 = .ok (.iconst 1, 1) := by decide +kernel
theorem dL_wouldPick_18 : decode cL_wouldPick 18 = .ok (.ireturn, 1) := by decide +kernel
theorem dL_wouldPick_19 : decode cL_wouldPick 19 = .ok (.astore 5, 2) := by decide +kernel
theorem dL_wouldPick_21 : decode cL_wouldPick 21 = .ok (.iconst 2, 1) := by decide +kernel
theorem dL_wouldPick_22 : decode cL_wouldPick 22 = .ok (.ireturn, 1) := by decide +kernel
theorem dL_wouldPick_23 : decode cL_wouldPick 23 = .ok (.iconst 0, 1) := by decide +kernel
theorem dL_wouldPick_24 : decode cL_wouldPick 24 = .ok (.ireturn, 1) := by decide +kernel
theorem dL_runCount_0 : decode cL_runCount 0 = .ok (.aload_n 2, 1) := by decide +kernel
theorem dL_runCount_1 : decode cL_runCount 1 = .ok (.iconst 0, 1) := by decide +kernel
theorem dL_runCount_2 : decode cL_runCount 2 = .ok (.aload_n 0, 1) := by decide +kernel
theorem dL_runCount_3 : decode cL_runCount 3 = .ok (.iload_n 1, 1) := by decide +kernel
theorem dL_runCount_4 : decode cL_runCount 4 = .ok (.invokevirtual 77, 3) := by decide +kernel
theorem dL_runCount_7 : decode cL_runCount 7 = .ok (.i2l, 1) := by decide +kernel
theorem dL_runCount_8 : decode cL_runCount 8 = .ok (.lastore, 1) := by decide +kernel
theorem dL_runCount_9 : decode cL_runCount 9 = .ok (.goto 6, 3) := by decide +kernel
theorem dL_runCount_12 : decode cL_runCount 12 = .ok (.astore_n 3, 1) := by decide +kernel
theorem dL_runCount_13 : decode cL_runCount 13 = .ok (.iconst 1, 1) := by decide +kernel
theorem dL_runCount_14 : decode cL_runCount 14 = .ok (.ireturn, 1) := by decide +kernel
theorem dL_runCount_15 : decode cL_runCount 15 = .ok (.iconst 0, 1) := by decide +kernel
theorem dL_runCount_16 : decode cL_runCount 16 = .ok (.ireturn, 1) := by decide +kernel
theorem dL_longestRun_0 : decode cL_longestRun 0 = .ok (.aload_n 2, 1) := by decide +kernel
theorem dL_longestRun_1 : decode cL_longestRun 1 = .ok (.iconst 0, 1) := by decide +kernel
theorem dL_longestRun_2 : decode cL_longestRun 2 = .ok (.aload_n 0, 1) := by decide +kernel
theorem dL_longestRun_3 : decode cL_longestRun 3 = .ok (.iload_n 1, 1) := by decide +kernel
theorem dL_longestRun_4 : decode cL_longestRun 4 = .ok (.invokevirtual 80, 3) := by decide +kernel
theorem dL_longestRun_7 : decode cL_longestRun 7 = .ok (.i2l, 1) := by decide +kernel
theorem dL_longestRun_8 : decode cL_longestRun 8 = .ok (.lastore, 1) := by decide +kernel
theorem dL_longestRun_9 : decode cL_longestRun 9 = .ok (.goto 6, 3) := by decide +kernel
theorem dL_longestRun_12 : decode cL_longestRun 12 = .ok (.astore_n 3, 1) := by decide +kernel
theorem dL_longestRun_13 : decode cL_longestRun 13 = .ok (.iconst 1, 1) := by decide +kernel
theorem dL_longestRun_14 : decode cL_longestRun 14 = .ok (.ireturn, 1) := by decide +kernel
theorem dL_longestRun_15 : decode cL_longestRun 15 = .ok (.iconst 0, 1) := by decide +kernel
theorem dL_longestRun_16 : decode cL_longestRun 16 = .ok (.ireturn, 1) := by decide +kernel
theorem dL_fragmentation_0 : decode cL_fragmentation 0 = .ok (.aload_n 2, 1) := by decide +kernel
theorem dL_fragmentation_1 : decode cL_fragmentation 1 = .ok (.iconst 0, 1) := by decide +kernel
theorem dL_fragmentation_2 : decode cL_fragmentation 2 = .ok (.aload_n 0, 1) := by decide +kernel
theorem dL_fragmentation_3 : decode cL_fragmentation 3 = .ok (.iload_n 1, 1) := by decide +kernel
theorem dL_fragmentation_4 : decode cL_fragmentation 4 = .ok (.invokevirtual 83, 3) := by decide +kernel
theorem dL_fragmentation_7 : decode cL_fragmentation 7 = .ok (.f2d, 1) := by decide +kernel
theorem dL_fragmentation_8 : decode cL_fragmentation 8 = .ok (.dastore, 1) := by decide +kernel
theorem dL_fragmentation_9 : decode cL_fragmentation 9 = .ok (.goto 6, 3) := by decide +kernel
theorem dL_fragmentation_12 : decode cL_fragmentation 12 = .ok (.astore_n 3, 1) := by decide +kernel
theorem dL_fragmentation_13 : decode cL_fragmentation 13 = .ok (.iconst 1, 1) := by decide +kernel
theorem dL_fragmentation_14 : decode cL_fragmentation 14 = .ok (.ireturn, 1) := by decide +kernel
theorem dL_fragmentation_15 : decode cL_fragmentation 15 = .ok (.iconst 0, 1) := by decide +kernel
theorem dL_fragmentation_16 : decode cL_fragmentation 16 = .ok (.ireturn, 1) := by decide +kernel
theorem dL_swap_0 : decode cL_swap 0 = .ok (.aload_n 3, 1) := by decide +kernel
theorem dL_swap_1 : decode cL_swap 1 = .ok (.iconst 0, 1) := by decide +kernel
theorem dL_swap_2 : decode cL_swap 2 = .ok (.aload_n 0, 1) := by decide +kernel
theorem dL_swap_3 : decode cL_swap 3 = .ok (.iload_n 1, 1) := by decide +kernel
theorem dL_swap_4 : decode cL_swap 4 = .ok (.iload_n 2, 1) := by decide +kernel
theorem dL_swap_5 : decode cL_swap 5 = .ok (.invokevirtual 87, 3) := by decide +kernel
theorem dL_swap_8 : decode cL_swap 8 = .ok (.ifCond .eq 7, 3) := by decide +kernel
theorem dL_swap_11 : decode cL_swap 11 = .ok (.lconst 1, 1) := by decide +kernel
theorem dL_swap_12 : decode cL_swap 12 = .ok (.goto 4, 3) := by decide +kernel
theorem dL_swap_15 : decode cL_swap 15 = .ok (.lconst 0, 1) := by decide +kernel
theorem dL_swap_16 : decode cL_swap 16 = .ok (.lastore, 1) := by decide +kernel
theorem dL_swap_17 : decode cL_swap 17 = .ok (.goto 11, 3) := by decide +kernel
theorem dL_swap_20 : decode cL_swap 20 = .ok (.astore 4, 2) := by decide +kernel
theorem dL_swap_22 : decode cL_swap 22 = .ok (.iconst 1, 1) := by decide +kernel
theorem dL_swap_23 : decode cL_swap 23 = .ok (.ireturn, 1) := by decide +kernel
theorem dL_swap_24 : decode cL_swap 24 = .ok (.astore 4, 2) := by decide +kernel
theorem dL_swap_26 : decode cL_swap 26 = .ok (.iconst 2, 1) := by decide +kernel
theorem dL_swap_27 : decode cL_swap 27 = .ok (.ireturn, 1) := by decide +kernel
theorem dL_swap_28 : decode cL_swap 28 = .ok (.iconst 0, 1) := by decide +kernel
theorem dL_swap_29 : decode cL_swap 29 = .ok (.ireturn, 1) := by decide +kernel
theorem dL_bestSwap_0 : decode cL_bestSwap 0 = .ok (.aload_n 2, 1) := by decide +kernel
theorem dL_bestSwap_1 : decode cL_bestSwap 1 = .ok (.iconst 0, 1) := by decide +kernel
theorem dL_bestSwap_2 : decode cL_bestSwap 2 = .ok (.aload_n 0, 1) := by decide +kernel
theorem dL_bestSwap_3 : decode cL_bestSwap 3 = .ok (.iload_n 1, 1) := by decide +kernel
theorem dL_bestSwap_4 : decode cL_bestSwap 4 = .ok (.invokevirtual 91, 3) := by decide +kernel
theorem dL_bestSwap_7 : decode cL_bestSwap 7 = .ok (.i2l, 1) := by decide +kernel
theorem dL_bestSwap_8 : decode cL_bestSwap 8 = .ok (.lastore, 1) := by decide +kernel
theorem dL_bestSwap_9 : decode cL_bestSwap 9 = .ok (.goto 6, 3) := by decide +kernel
theorem dL_bestSwap_12 : decode cL_bestSwap 12 = .ok (.astore_n 3, 1) := by decide +kernel
theorem dL_bestSwap_13 : decode cL_bestSwap 13 = .ok (.iconst 1, 1) := by decide +kernel
theorem dL_bestSwap_14 : decode cL_bestSwap 14 = .ok (.ireturn, 1) := by decide +kernel
theorem dL_bestSwap_15 : decode cL_bestSwap 15 = .ok (.iconst 0, 1) := by decide +kernel
theorem dL_bestSwap_16 : decode cL_bestSwap 16 = .ok (.ireturn, 1) := by decide +kernel
theorem dL_entryValue_0 : decode cL_entryValue 0 = .ok (.aload_n 3, 1) := by decide +kernel
theorem dL_entryValue_1 : decode cL_entryValue 1 = .ok (.iconst 0, 1) := by decide +kernel
theorem dL_entryValue_2 : decode cL_entryValue 2 = .ok (.aload_n 0, 1) := by decide +kernel
theorem dL_entryValue_3 : decode cL_entryValue 3 = .ok (.iload_n 1, 1) := by decide +kernel
theorem dL_entryValue_4 : decode cL_entryValue 4 = .ok (.iload_n 2, 1) := by decide +kernel
theorem dL_entryValue_5 : decode cL_entryValue 5 = .ok (.invokevirtual 94, 3) := by decide +kernel
theorem dL_entryValue_8 : decode cL_entryValue 8 = .ok (.i2l, 1) := by decide +kernel
theorem dL_entryValue_9 : decode cL_entryValue 9 = .ok (.lastore, 1) := by decide +kernel
theorem dL_entryValue_10 : decode cL_entryValue 10 = .ok (.goto 11, 3) := by decide +kernel
theorem dL_entryValue_13 : decode cL_entryValue 13 = .ok (.astore 4, 2) := by decide +kernel
theorem dL_entryValue_15 : decode cL_entryValue 15 = .ok (.iconst 1, 1) := by decide +kernel
theorem dL_entryValue_16 : decode cL_entryValue 16 = .ok (.ireturn, 1) := by decide +kernel
theorem dL_entryValue_17 : decode cL_entryValue 17 = .ok (.astore 4, 2) := by decide +kernel
theorem dL_entryValue_19 : decode cL_entryValue 19 = .ok (.iconst 2, 1) := by decide +kernel
theorem dL_entryValue_20 : decode cL_entryValue 20 = .ok (.ireturn, 1) := by decide +kernel
theorem dL_entryValue_21 : decode cL_entryValue 21 = .ok (.iconst 0, 1) := by decide +kernel
theorem dL_entryValue_22 : decode cL_entryValue 22 = .ok (.ireturn, 1) := by decide +kernel
theorem dL_entryBlock_0 : decode cL_entryBlock 0 = .ok (.aload_n 3, 1) := by decide +kernel
theorem dL_entryBlock_1 : decode cL_entryBlock 1 = .ok (.iconst 0, 1) := by decide +kernel
theorem dL_entryBlock_2 : decode cL_entryBlock 2 = .ok (.aload_n 0, 1) := by decide +kernel
theorem dL_entryBlock_3 : decode cL_entryBlock 3 = .ok (.iload_n 1, 1) := by decide +kernel
theorem dL_entryBlock_4 : decode cL_entryBlock 4 = .ok (.iload_n 2, 1) := by decide +kernel
theorem dL_entryBlock_5 : decode cL_entryBlock 5 = .ok (.invokevirtual 97, 3) := by decide +kernel
theorem dL_entryBlock_8 : decode cL_entryBlock 8 = .ok (.i2l, 1) := by decide +kernel
theorem dL_entryBlock_9 : decode cL_entryBlock 9 = .ok (.lastore, 1) := by decide +kernel
theorem dL_entryBlock_10 : decode cL_entryBlock 10 = .ok (.goto 7, 3) := by decide +kernel
theorem dL_entryBlock_13 : decode cL_entryBlock 13 = .ok (.astore 4, 2) := by decide +kernel
theorem dL_entryBlock_15 : decode cL_entryBlock 15 = .ok (.iconst 1, 1) := by decide +kernel
theorem dL_entryBlock_16 : decode cL_entryBlock 16 = .ok (.ireturn, 1) := by decide +kernel
theorem dL_entryBlock_17 : decode cL_entryBlock 17 = .ok (.iconst 0, 1) := by decide +kernel
theorem dL_entryBlock_18 : decode cL_entryBlock 18 = .ok (.ireturn, 1) := by decide +kernel
theorem dL_bookedAt_0 : decode cL_bookedAt 0 = .ok (.aload_n 3, 1) := by decide +kernel
theorem dL_bookedAt_1 : decode cL_bookedAt 1 = .ok (.iconst 0, 1) := by decide +kernel
theorem dL_bookedAt_2 : decode cL_bookedAt 2 = .ok (.aload_n 0, 1) := by decide +kernel
theorem dL_bookedAt_3 : decode cL_bookedAt 3 = .ok (.iload_n 1, 1) := by decide +kernel
theorem dL_bookedAt_4 : decode cL_bookedAt 4 = .ok (.iload_n 2, 1) := by decide +kernel
theorem dL_bookedAt_5 : decode cL_bookedAt 5 = .ok (.invokevirtual 100, 3) := by decide +kernel
theorem dL_bookedAt_8 : decode cL_bookedAt 8 = .ok (.i2l, 1) := by decide +kernel
theorem dL_bookedAt_9 : decode cL_bookedAt 9 = .ok (.lastore, 1) := by decide +kernel
theorem dL_bookedAt_10 : decode cL_bookedAt 10 = .ok (.goto 11, 3) := by decide +kernel
theorem dL_bookedAt_13 : decode cL_bookedAt 13 = .ok (.astore 4, 2) := by decide +kernel
theorem dL_bookedAt_15 : decode cL_bookedAt 15 = .ok (.iconst 1, 1) := by decide +kernel
theorem dL_bookedAt_16 : decode cL_bookedAt 16 = .ok (.ireturn, 1) := by decide +kernel
theorem dL_bookedAt_17 : decode cL_bookedAt 17 = .ok (.astore 4, 2) := by decide +kernel
theorem dL_bookedAt_19 : decode cL_bookedAt 19 = .ok (.iconst 2, 1) := by decide +kernel
theorem dL_bookedAt_20 : decode cL_bookedAt 20 = .ok (.ireturn, 1) := by decide +kernel
theorem dL_bookedAt_21 : decode cL_bookedAt 21 = .ok (.iconst 0, 1) := by decide +kernel
theorem dL_bookedAt_22 : decode cL_bookedAt 22 = .ok (.ireturn, 1) := by decide +kernel
theorem dL_peak_0 : decode cL_peak 0 = .ok (.aload 4, 2) := by decide +kernel
theorem dL_peak_2 : decode cL_peak 2 = .ok (.iconst 0, 1) := by decide +kernel
theorem dL_peak_3 : decode cL_peak 3 = .ok (.aload_n 0, 1) := by decide +kernel
theorem dL_peak_4 : decode cL_peak 4 = .ok (.iload_n 1, 1) := by decide +kernel
theorem dL_peak_5 : decode cL_peak 5 = .ok (.iload_n 2, 1) := by decide +kernel
theorem dL_peak_6 : decode cL_peak 6 = .ok (.iload_n 3, 1) := by decide +kernel
theorem dL_peak_7 : decode cL_peak 7 = .ok (.invokevirtual 103, 3) := by decide +kernel
theorem dL_peak_10 : decode cL_peak 10 = .ok (.i2l, 1) := by decide +kernel
theorem dL_peak_11 : decode cL_peak 11 = .ok (.lastore, 1) := by decide +kernel
theorem dL_peak_12 : decode cL_peak 12 = .ok (.goto 11, 3) := by decide +kernel
theorem dL_peak_15 : decode cL_peak 15 = .ok (.astore 5, 2) := by decide +kernel
theorem dL_peak_17 : decode cL_peak 17 = .ok (.iconst 1, 1) := by decide +kernel
theorem dL_peak_18 : decode cL_peak 18 = .ok (.ireturn, 1) := by decide +kernel
theorem dL_peak_19 : decode cL_peak 19 = .ok (.astore 5, 2) := by decide +kernel
theorem dL_peak_21 : decode cL_peak 21 = .ok (.iconst 2, 1) := by decide +kernel
theorem dL_peak_22 : decode cL_peak 22 = .ok (.ireturn, 1) := by decide +kernel
theorem dL_peak_23 : decode cL_peak 23 = .ok (.iconst 0, 1) := by decide +kernel
theorem dL_peak_24 : decode cL_peak 24 = .ok (.ireturn, 1) := by decide +kernel
theorem dL_flow_0 : decode cL_flow 0 = .ok (.aload 5, 2) := by decide +kernel
theorem dL_flow_2 : decode cL_flow 2 = .ok (.iconst 0, 1) := by decide +kernel
theorem dL_flow_3 : decode cL_flow 3 = .ok (.aload_n 0, 1) := by decide +kernel
theorem dL_flow_4 : decode cL_flow 4 = .ok (.iload_n 1, 1) := by decide +kernel
theorem dL_flow_5 : decode cL_flow 5 = .ok (.iload_n 2, 1) := by decide +kernel
theorem dL_flow_6 : decode cL_flow 6 = .ok (.iload_n 3, 1) := by decide +kernel
theorem dL_flow_7 : decode cL_flow 7 = .ok (.iload 4, 2) := by decide +kernel
theorem dL_flow_9 : decode cL_flow 9 = .ok (.invokevirtual 106, 3) := by decide +kernel
theorem dL_flow_12 : decode cL_flow 12 = .ok (.i2l, 1) := by decide +kernel
theorem dL_flow_13 : decode cL_flow 13 = .ok (.lastore, 1) := by decide +kernel
theorem dL_flow_14 : decode cL_flow 14 = .ok (.goto 11, 3) := by decide +kernel
theorem dL_flow_17 : decode cL_flow 17 = .ok (.astore 6, 2) := by decide +kernel
theorem dL_flow_19 : decode cL_flow 19 = .ok (.iconst 1, 1) := by decide +kernel
theorem dL_flow_20 : decode cL_flow 20 = .ok (.ireturn, 1) := by decide +kernel
theorem dL_flow_21 : decode cL_flow 21 = .ok (.astore 6, 2) := by decide +kernel
theorem dL_flow_23 : decode cL_flow 23 = .ok (.iconst 2, 1) := by decide +kernel
theorem dL_flow_24 : decode cL_flow 24 = .ok (.ireturn, 1) := by decide +kernel
theorem dL_flow_25 : decode cL_flow 25 = .ok (.iconst 0, 1) := by decide +kernel
theorem dL_flow_26 : decode cL_flow 26 = .ok (.ireturn, 1) := by decide +kernel
theorem dL_reasonTotal_0 : decode cL_reasonTotal 0 = .ok (.aload 4, 2) := by decide +kernel
theorem dL_reasonTotal_2 : decode cL_reasonTotal 2 = .ok (.iconst 0, 1) := by decide +kernel
theorem dL_reasonTotal_3 : decode cL_reasonTotal 3 = .ok (.aload_n 0, 1) := by decide +kernel
theorem dL_reasonTotal_4 : decode cL_reasonTotal 4 = .ok (.iload_n 1, 1) := by decide +kernel
theorem dL_reasonTotal_5 : decode cL_reasonTotal 5 = .ok (.iload_n 2, 1) := by decide +kernel
theorem dL_reasonTotal_6 : decode cL_reasonTotal 6 = .ok (.iload_n 3, 1) := by decide +kernel
theorem dL_reasonTotal_7 : decode cL_reasonTotal 7 = .ok (.invokevirtual 109, 3) := by decide +kernel
theorem dL_reasonTotal_10 : decode cL_reasonTotal 10 = .ok (.i2l, 1) := by decide +kernel
theorem dL_reasonTotal_11 : decode cL_reasonTotal 11 = .ok (.lastore, 1) := by decide +kernel
theorem dL_reasonTotal_12 : decode cL_reasonTotal 12 = .ok (.goto 7, 3) := by decide +kernel
theorem dL_reasonTotal_15 : decode cL_reasonTotal 15 = .ok (.astore 5, 2) := by decide +kernel
theorem dL_reasonTotal_17 : decode cL_reasonTotal 17 = .ok (.iconst 1, 1) := by decide +kernel
theorem dL_reasonTotal_18 : decode cL_reasonTotal 18 = .ok (.ireturn, 1) := by decide +kernel
theorem dL_reasonTotal_19 : decode cL_reasonTotal 19 = .ok (.iconst 0, 1) := by decide +kernel
theorem dL_reasonTotal_20 : decode cL_reasonTotal 20 = .ok (.ireturn, 1) := by decide +kernel
theorem dL_busiest_0 : decode cL_busiest 0 = .ok (.aload_n 3, 1) := by decide +kernel
theorem dL_busiest_1 : decode cL_busiest 1 = .ok (.iconst 0, 1) := by decide +kernel
theorem dL_busiest_2 : decode cL_busiest 2 = .ok (.aload_n 0, 1) := by decide +kernel
theorem dL_busiest_3 : decode cL_busiest 3 = .ok (.iload_n 1, 1) := by decide +kernel
theorem dL_busiest_4 : decode cL_busiest 4 = .ok (.iload_n 2, 1) := by decide +kernel
theorem dL_busiest_5 : decode cL_busiest 5 = .ok (.invokevirtual 112, 3) := by decide +kernel
theorem dL_busiest_8 : decode cL_busiest 8 = .ok (.i2l, 1) := by decide +kernel
theorem dL_busiest_9 : decode cL_busiest 9 = .ok (.lastore, 1) := by decide +kernel
theorem dL_busiest_10 : decode cL_busiest 10 = .ok (.goto 7, 3) := by decide +kernel
theorem dL_busiest_13 : decode cL_busiest 13 = .ok (.astore 4, 2) := by decide +kernel
theorem dL_busiest_15 : decode cL_busiest 15 = .ok (.iconst 1, 1) := by decide +kernel
theorem dL_busiest_16 : decode cL_busiest 16 = .ok (.ireturn, 1) := by decide +kernel
theorem dL_busiest_17 : decode cL_busiest 17 = .ok (.iconst 0, 1) := by decide +kernel
theorem dL_busiest_18 : decode cL_busiest 18 = .ok (.ireturn, 1) := by decide +kernel
theorem dL_reservationValue_0 : decode cL_reservationValue 0 = .ok (.aload_n 3, 1) := by decide +kernel
theorem dL_reservationValue_1 : decode cL_reservationValue 1 = .ok (.iconst 0, 1) := by decide +kernel
theorem dL_reservationValue_2 : decode cL_reservationValue 2 = .ok (.aload_n 0, 1) := by decide +kernel
theorem dL_reservationValue_3 : decode cL_reservationValue 3 = .ok (.iload_n 1, 1) := by decide +kernel
theorem dL_reservationValue_4 : decode cL_reservationValue 4 = .ok (.iload_n 2, 1) := by decide +kernel
theorem dL_reservationValue_5 : decode cL_reservationValue 5 = .ok (.invokevirtual 115, 3) := by decide +kernel
theorem dL_reservationValue_8 : decode cL_reservationValue 8 = .ok (.i2l, 1) := by decide +kernel
theorem dL_reservationValue_9 : decode cL_reservationValue 9 = .ok (.lastore, 1) := by decide +kernel
theorem dL_reservationValue_10 : decode cL_reservationValue 10 = .ok (.goto 11, 3) := by decide +kernel
theorem dL_reservationValue_13 : decode cL_reservationValue 13 = .ok (.astore 4, 2) := by decide +kernel
theorem dL_reservationValue_15 : decode cL_reservationValue 15 = .ok (.iconst 1, 1) := by decide +kernel
theorem dL_reservationValue_16 : decode cL_reservationValue 16 = .ok (.ireturn, 1) := by decide +kernel
theorem dL_reservationValue_17 : decode cL_reservationValue 17 = .ok (.astore 4, 2) := by decide +kernel
theorem dL_reservationValue_19 : decode cL_reservationValue 19 = .ok (.iconst 2, 1) := by decide +kernel
theorem dL_reservationValue_20 : decode cL_reservationValue 20 = .ok (.ireturn, 1) := by decide +kernel
theorem dL_reservationValue_21 : decode cL_reservationValue 21 = .ok (.iconst 0, 1) := by decide +kernel
theorem dL_reservationValue_22 : decode cL_reservationValue 22 = .ok (.ireturn, 1) := by decide +kernel
theorem dL_reservedFrom_0 : decode cL_reservedFrom 0 = .ok (.aload_n 2, 1) := by decide +kernel
theorem dL_reservedFrom_1 : decode cL_reservedFrom 1 = .ok (.iconst 0, 1) := by decide +kernel
theorem dL_reservedFrom_2 : decode cL_reservedFrom 2 = .ok (.aload_n 0, 1) := by decide +kernel
theorem dL_reservedFrom_3 : decode cL_reservedFrom 3 = .ok (.iload_n 1, 1) := by decide +kernel
theorem dL_reservedFrom_4 : decode cL_reservedFrom 4 = .ok (.invokevirtual 118, 3) := by decide +kernel
theorem dL_reservedFrom_7 : decode cL_reservedFrom 7 = .ok (.i2l, 1) := by decide +kernel
theorem dL_reservedFrom_8 : decode cL_reservedFrom 8 = .ok (.lastore, 1) := by decide +kernel
theorem dL_reservedFrom_9 : decode cL_reservedFrom 9 = .ok (.goto 6, 3) := by decide +kernel
theorem dL_reservedFrom_12 : decode cL_reservedFrom 12 = .ok (.astore_n 3, 1) := by decide +kernel
theorem dL_reservedFrom_13 : decode cL_reservedFrom 13 = .ok (.iconst 1, 1) := by decide +kernel
theorem dL_reservedFrom_14 : decode cL_reservedFrom 14 = .ok (.ireturn, 1) := by decide +kernel
theorem dL_reservedFrom_15 : decode cL_reservedFrom 15 = .ok (.iconst 0, 1) := by decide +kernel
theorem dL_reservedFrom_16 : decode cL_reservedFrom 16 = .ok (.ireturn, 1) := by decide +kernel
theorem dL_whenAvailable_0 : decode cL_whenAvailable 0 = .ok (.aload_n 3, 1) := by decide +kernel
theorem dL_whenAvailable_1 : decode cL_whenAvailable 1 = .ok (.iconst 0, 1) := by decide +kernel
theorem dL_whenAvailable_2 : decode cL_whenAvailable 2 = .ok (.aload_n 0, 1) := by decide +kernel
theorem dL_whenAvailable_3 : decode cL_whenAvailable 3 = .ok (.iload_n 1, 1) := by decide +kernel
theorem dL_whenAvailable_4 : decode cL_whenAvailable 4 = .ok (.iload_n 2, 1) := by decide +kernel
theorem dL_whenAvailable_5 : decode cL_whenAvailable 5 = .ok (.invokevirtual 121, 3) := by decide +kernel
theorem dL_whenAvailable_8 : decode cL_whenAvailable 8 = .ok (.i2l, 1) := by decide +kernel
theorem dL_whenAvailable_9 : decode cL_whenAvailable 9 = .ok (.lastore, 1) := by decide +kernel
theorem dL_whenAvailable_10 : decode cL_whenAvailable 10 = .ok (.goto 11, 3) := by decide +kernel
theorem dL_whenAvailable_13 : decode cL_whenAvailable 13 = .ok (.astore 4, 2) := by decide +kernel
theorem dL_whenAvailable_15 : decode cL_whenAvailable 15 = .ok (.iconst 1, 1) := by decide +kernel
theorem dL_whenAvailable_16 : decode cL_whenAvailable 16 = .ok (.ireturn, 1) := by decide +kernel
theorem dL_whenAvailable_17 : decode cL_whenAvailable 17 = .ok (.astore 4, 2) := by decide +kernel
theorem dL_whenAvailable_19 : decode cL_whenAvailable 19 = .ok (.iconst 2, 1) := by decide +kernel
theorem dL_whenAvailable_20 : decode cL_whenAvailable 20 = .ok (.ireturn, 1) := by decide +kernel
theorem dL_whenAvailable_21 : decode cL_whenAvailable 21 = .ok (.iconst 0, 1) := by decide +kernel
theorem dL_whenAvailable_22 : decode cL_whenAvailable 22 = .ok (.ireturn, 1) := by decide +kernel
theorem dL_rent_0 : decode cL_rent 0 = .ok (.aload_n 2, 1) := by decide +kernel
theorem dL_rent_1 : decode cL_rent 1 = .ok (.iconst 0, 1) := by decide +kernel
theorem dL_rent_2 : decode cL_rent 2 = .ok (.aload_n 0, 1) := by decide +kernel
theorem dL_rent_3 : decode cL_rent 3 = .ok (.iload_n 1, 1) := by decide +kernel
theorem dL_rent_4 : decode cL_rent 4 = .ok (.invokevirtual 124, 3) := by decide +kernel
theorem dL_rent_7 : decode cL_rent 7 = .ok (.f2d, 1) := by decide +kernel
theorem dL_rent_8 : decode cL_rent 8 = .ok (.dastore, 1) := by decide +kernel
theorem dL_rent_9 : decode cL_rent 9 = .ok (.goto 6, 3) := by decide +kernel
theorem dL_rent_12 : decode cL_rent 12 = .ok (.astore_n 3, 1) := by decide +kernel
theorem dL_rent_13 : decode cL_rent 13 = .ok (.iconst 1, 1) := by decide +kernel
theorem dL_rent_14 : decode cL_rent 14 = .ok (.ireturn, 1) := by decide +kernel
theorem dL_rent_15 : decode cL_rent 15 = .ok (.iconst 0, 1) := by decide +kernel
theorem dL_rent_16 : decode cL_rent 16 = .ok (.ireturn, 1) := by decide +kernel
theorem dL_rentAhead_0 : decode cL_rentAhead 0 = .ok (.aload_n 3, 1) := by decide +kernel
theorem dL_rentAhead_1 : decode cL_rentAhead 1 = .ok (.iconst 0, 1) := by decide +kernel
theorem dL_rentAhead_2 : decode cL_rentAhead 2 = .ok (.aload_n 0, 1) := by decide +kernel
theorem dL_rentAhead_3 : decode cL_rentAhead 3 = .ok (.iload_n 1, 1) := by decide +kernel
theorem dL_rentAhead_4 : decode cL_rentAhead 4 = .ok (.iload_n 2, 1) := by decide +kernel
theorem dL_rentAhead_5 : decode cL_rentAhead 5 = .ok (.invokevirtual 127, 3) := by decide +kernel
theorem dL_rentAhead_8 : decode cL_rentAhead 8 = .ok (.f2d, 1) := by decide +kernel
theorem dL_rentAhead_9 : decode cL_rentAhead 9 = .ok (.dastore, 1) := by decide +kernel
theorem dL_rentAhead_10 : decode cL_rentAhead 10 = .ok (.goto 11, 3) := by decide +kernel
theorem dL_rentAhead_13 : decode cL_rentAhead 13 = .ok (.astore 4, 2) := by decide +kernel
theorem dL_rentAhead_15 : decode cL_rentAhead 15 = .ok (.iconst 1, 1) := by decide +kernel
theorem dL_rentAhead_16 : decode cL_rentAhead 16 = .ok (.ireturn, 1) := by decide +kernel
theorem dL_rentAhead_17 : decode cL_rentAhead 17 = .ok (.astore 4, 2) := by decide +kernel
theorem dL_rentAhead_19 : decode cL_rentAhead 19 = .ok (.iconst 2, 1) := by decide +kernel
theorem dL_rentAhead_20 : decode cL_rentAhead 20 = .ok (.ireturn, 1) := by decide +kernel
theorem dL_rentAhead_21 : decode cL_rentAhead 21 = .ok (.iconst 0, 1) := by decide +kernel
theorem dL_rentAhead_22 : decode cL_rentAhead 22 = .ok (.ireturn, 1) := by decide +kernel
theorem dL_corrupt_0 : decode cL_corrupt 0 = .ok (.aload_n 3, 1) := by decide +kernel
theorem dL_corrupt_1 : decode cL_corrupt 1 = .ok (.iconst 0, 1) := by decide +kernel
theorem dL_corrupt_2 : decode cL_corrupt 2 = .ok (.aload_n 0, 1) := by decide +kernel
theorem dL_corrupt_3 : decode cL_corrupt 3 = .ok (.iload_n 1, 1) := by decide +kernel
theorem dL_corrupt_4 : decode cL_corrupt 4 = .ok (.iload_n 2, 1) := by decide +kernel
theorem dL_corrupt_5 : decode cL_corrupt 5 = .ok (.invokevirtual 131, 3) := by decide +kernel
theorem dL_corrupt_8 : decode cL_corrupt 8 = .ok (.i2l, 1) := by decide +kernel
theorem dL_corrupt_9 : decode cL_corrupt 9 = .ok (.lastore, 1) := by decide +kernel
theorem dL_corrupt_10 : decode cL_corrupt 10 = .ok (.goto 7, 3) := by decide +kernel
theorem dL_corrupt_13 : decode cL_corrupt 13 = .ok (.astore 4, 2) := by decide +kernel
theorem dL_corrupt_15 : decode cL_corrupt 15 = .ok (.iconst 1, 1) := by decide +kernel
theorem dL_corrupt_16 : decode cL_corrupt 16 = .ok (.ireturn, 1) := by decide +kernel
theorem dL_corrupt_17 : decode cL_corrupt 17 = .ok (.iconst 0, 1) := by decide +kernel
theorem dL_corrupt_18 : decode cL_corrupt 18 = .ok (.ireturn, 1) := by decide +kernel
theorem dL_auditSet_0 : decode cL_auditSet 0 = .ok (.aload_n 3, 1) := by decide +kernel
theorem dL_auditSet_1 : decode cL_auditSet 1 = .ok (.iconst 0, 1) := by decide +kernel
theorem dL_auditSet_2 : decode cL_auditSet 2 = .ok (.aload_n 0, 1) := by decide +kernel
theorem dL_auditSet_3 : decode cL_auditSet 3 = .ok (.iload_n 1, 1) := by decide +kernel
theorem dL_auditSet_4 : decode cL_auditSet 4 = .ok (.iload_n 2, 1) := by decide +kernel
theorem dL_auditSet_5 : decode cL_auditSet 5 = .ok (.invokevirtual 134, 3) := by decide +kernel
theorem dL_auditSet_8 : decode cL_auditSet 8 = .ok (.i2l, 1) := by decide +kernel
theorem dL_auditSet_9 : decode cL_auditSet 9 = .ok (.lastore, 1) := by decide +kernel
theorem dL_auditSet_10 : decode cL_auditSet 10 = .ok (.goto 7, 3) := by decide +kernel
theorem dL_auditSet_13 : decode cL_auditSet 13 = .ok (.astore 4, 2) := by decide +kernel
theorem dL_auditSet_15 : decode cL_auditSet 15 = .ok (.iconst 1, 1) := by decide +kernel
theorem dL_auditSet_16 : decode cL_auditSet 16 = .ok (.ireturn, 1) := by decide +kernel
theorem dL_auditSet_17 : decode cL_auditSet 17 = .ok (.iconst 0, 1) := by decide +kernel
theorem dL_auditSet_18 : decode cL_auditSet 18 = .ok (.ireturn, 1) := by decide +kernel
theorem dL_auditOf_0 : decode cL_auditOf 0 = .ok (.aload 4, 2) := by decide +kernel
theorem dL_auditOf_2 : decode cL_auditOf 2 = .ok (.iconst 0, 1) := by decide +kernel
theorem dL_auditOf_3 : decode cL_auditOf 3 = .ok (.aload_n 0, 1) := by decide +kernel
theorem dL_auditOf_4 : decode cL_auditOf 4 = .ok (.iload_n 1, 1) := by decide +kernel
theorem dL_auditOf_5 : decode cL_auditOf 5 = .ok (.iload_n 2, 1) := by decide +kernel
theorem dL_auditOf_6 : decode cL_auditOf 6 = .ok (.iload_n 3, 1) := by decide +kernel
theorem dL_auditOf_7 : decode cL_auditOf 7 = .ok (.invokevirtual 137, 3) := by decide +kernel
theorem dL_auditOf_10 : decode cL_auditOf 10 = .ok (.i2l, 1) := by decide +kernel
theorem dL_auditOf_11 : decode cL_auditOf 11 = .ok (.lastore, 1) := by decide +kernel
theorem dL_auditOf_12 : decode cL_auditOf 12 = .ok (.goto 11, 3) := by decide +kernel
theorem dL_auditOf_15 : decode cL_auditOf 15 = .ok (.astore 5, 2) := by decide +kernel
theorem dL_auditOf_17 : decode cL_auditOf 17 = .ok (.iconst 1, 1) := by decide +kernel
theorem dL_auditOf_18 : decode cL_auditOf 18 = .ok (.ireturn, 1) := by decide +kernel
theorem dL_auditOf_19 : decode cL_auditOf 19 = .ok (.astore 5, 2) := by decide +kernel
theorem dL_auditOf_21 : decode cL_auditOf 21 = .ok (.iconst 2, 1) := by decide +kernel
theorem dL_auditOf_22 : decode cL_auditOf 22 = .ok (.ireturn, 1) := by decide +kernel
theorem dL_auditOf_23 : decode cL_auditOf 23 = .ok (.iconst 0, 1) := by decide +kernel
theorem dL_auditOf_24 : decode cL_auditOf 24 = .ok (.ireturn, 1) := by decide +kernel
theorem dL_saveSnapshot_0 : decode cL_saveSnapshot 0 = .ok (.aload_n 2, 1) := by decide +kernel
theorem dL_saveSnapshot_1 : decode cL_saveSnapshot 1 = .ok (.iconst 0, 1) := by decide +kernel
theorem dL_saveSnapshot_2 : decode cL_saveSnapshot 2 = .ok (.aload_n 0, 1) := by decide +kernel
theorem dL_saveSnapshot_3 : decode cL_saveSnapshot 3 = .ok (.iload_n 1, 1) := by decide +kernel
theorem dL_saveSnapshot_4 : decode cL_saveSnapshot 4 = .ok (.invokevirtual 140, 3) := by decide +kernel
theorem dL_saveSnapshot_7 : decode cL_saveSnapshot 7 = .ok (.i2l, 1) := by decide +kernel
theorem dL_saveSnapshot_8 : decode cL_saveSnapshot 8 = .ok (.lastore, 1) := by decide +kernel
theorem dL_saveSnapshot_9 : decode cL_saveSnapshot 9 = .ok (.goto 6, 3) := by decide +kernel
theorem dL_saveSnapshot_12 : decode cL_saveSnapshot 12 = .ok (.astore_n 3, 1) := by decide +kernel
theorem dL_saveSnapshot_13 : decode cL_saveSnapshot 13 = .ok (.iconst 1, 1) := by decide +kernel
theorem dL_saveSnapshot_14 : decode cL_saveSnapshot 14 = .ok (.ireturn, 1) := by decide +kernel
theorem dL_saveSnapshot_15 : decode cL_saveSnapshot 15 = .ok (.iconst 0, 1) := by decide +kernel
theorem dL_saveSnapshot_16 : decode cL_saveSnapshot 16 = .ok (.ireturn, 1) := by decide +kernel
theorem dL_restoreSnapshot_0 : decode cL_restoreSnapshot 0 = .ok (.aload_n 2, 1) := by decide +kernel
theorem dL_restoreSnapshot_1 : decode cL_restoreSnapshot 1 = .ok (.iconst 0, 1) := by decide +kernel
theorem dL_restoreSnapshot_2 : decode cL_restoreSnapshot 2 = .ok (.aload_n 0, 1) := by decide +kernel
theorem dL_restoreSnapshot_3 : decode cL_restoreSnapshot 3 = .ok (.iload_n 1, 1) := by decide +kernel
theorem dL_restoreSnapshot_4 : decode cL_restoreSnapshot 4 = .ok (.invokevirtual 143, 3) := by decide +kernel
theorem dL_restoreSnapshot_7 : decode cL_restoreSnapshot 7 = .ok (.i2l, 1) := by decide +kernel
theorem dL_restoreSnapshot_8 : decode cL_restoreSnapshot 8 = .ok (.lastore, 1) := by decide +kernel
theorem dL_restoreSnapshot_9 : decode cL_restoreSnapshot 9 = .ok (.goto 6, 3) := by decide +kernel
theorem dL_restoreSnapshot_12 : decode cL_restoreSnapshot 12 = .ok (.astore_n 3, 1) := by decide +kernel
theorem dL_restoreSnapshot_13 : decode cL_restoreSnapshot 13 = .ok (.iconst 1, 1) := by decide +kernel
theorem dL_restoreSnapshot_14 : decode cL_restoreSnapshot 14 = .ok (.ireturn, 1) := by decide +kernel
theorem dL_restoreSnapshot_15 : decode cL_restoreSnapshot 15 = .ok (.iconst 0, 1) := by decide +kernel
theorem dL_restoreSnapshot_16 : decode cL_restoreSnapshot 16 = .ok (.ireturn, 1) := by decide +kernel
