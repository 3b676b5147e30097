theorem TB_in {w : Cond} (h : w ∈ tables_1) (hg : goodWord w = true) : w ∈ TB := List.mem_filter.mpr ⟨List.mem_append_right _ h, hg⟩
theorem TB_1 {w : Cond} (i : Nat) (h : tables_1_1[i]? = some w) (hg : goodWord w = true) : w ∈ TB := TB_in (have h : w ∈ tables_1_1 := List.mem_of_getElem? h; (List.mem_append_left _ h)) hg
theorem TB_2 {w : Cond} (i : Nat) (h : tables_1_2[i]? = some w) (hg : goodWord w = true) : w ∈ TB := TB_in (have h : w ∈ tables_1_2 := List.mem_of_getElem? h; (List.mem_append_right _ (List.mem_append_left _ h))) hg
theorem TB_3 {w : Cond} (i : Nat) (h : tables_1_3[i]? = some w) (hg : goodWord w = true) : w ∈ TB := TB_in (have h : w ∈ tables_1_3 := List.mem_of_getElem? h; (List.mem_append_right _ (List.mem_append_right _ (List.mem_append_left _ h)))) hg
theorem TB_4 {w : Cond} (i : Nat) (h : tables_1_4[i]? = some w) (hg : goodWord w = true) : w ∈ TB := TB_in (have h : w ∈ tables_1_4 := List.mem_of_getElem? h; (List.mem_append_right _ (List.mem_append_right _ (List.mem_append_right _ (List.mem_append_left _ h))))) hg
theorem TB_5 {w : Cond} (i : Nat) (h : tables_1_5[i]? = some w) (hg : goodWord w = true) : w ∈ TB := TB_in (have h : w ∈ tables_1_5 := List.mem_of_getElem? h; (List.mem_append_right _ (List.mem_append_right _ (List.mem_append_right _ (List.mem_append_right _ (List.mem_append_left _ h)))))) hg
theorem TB_6 {w : Cond} (i : Nat) (h : tables_1_6[i]? = some w) (hg : goodWord w = true) : w ∈ TB := TB_in (have h : w ∈ tables_1_6 := List.mem_of_getElem? h; (List.mem_append_right _ (List.mem_append_right _ (List.mem_append_right _ (List.mem_append_right _ (List.mem_append_right _ (List.mem_append_left _ h))))))) hg
theorem TB_7 {w : Cond} (i : Nat) (h : tables_1_7[i]? = some w) (hg : goodWord w = true) : w ∈ TB := TB_in (have h : w ∈ tables_1_7 := List.mem_of_getElem? h; (List.mem_append_right _ (List.mem_append_right _ (List.mem_append_right _ (List.mem_append_right _ (List.mem_append_right _ (List.mem_append_right _ (List.mem_append_left _ h)))))))) hg
theorem TB_8 {w : Cond} (i : Nat) (h : tables_1_8[i]? = some w) (hg : goodWord w = true) : w ∈ TB := TB_in (have h : w ∈ tables_1_8 := List.mem_of_getElem? h; (List.mem_append_right _ (List.mem_append_right _ (List.mem_append_right _ (List.mem_append_right _ (List.mem_append_right _ (List.mem_append_right _ (List.mem_append_right _ h)))))))) hg
theorem TP_1 {y : MethodName} {n : Nat} (i : Nat) (h : lw_privs_1[i]? = some (y, n)) (hg : goodWord (.selects y.cls y y) = true) : .selects y.cls y y ∈ TB := List.mem_filter.mpr ⟨List.mem_append_left _ (List.mem_map.mpr ⟨(y, n), (have h : (y, n) ∈ lw_privs_1 := List.mem_of_getElem? h; (List.mem_append_left _ h)), rfl⟩), hg⟩
theorem TP_2 {y : MethodName} {n : Nat} (i : Nat) (h : lw_privs_2[i]? = some (y, n)) (hg : goodWord (.selects y.cls y y) = true) : .selects y.cls y y ∈ TB := List.mem_filter.mpr ⟨List.mem_append_left _ (List.mem_map.mpr ⟨(y, n), (have h : (y, n) ∈ lw_privs_2 := List.mem_of_getElem? h; (List.mem_append_right _ (List.mem_append_left _ h))), rfl⟩), hg⟩
theorem TP_3 {y : MethodName} {n : Nat} (i : Nat) (h : lw_privs_3[i]? = some (y, n)) (hg : goodWord (.selects y.cls y y) = true) : .selects y.cls y y ∈ TB := List.mem_filter.mpr ⟨List.mem_append_left _ (List.mem_map.mpr ⟨(y, n), (have h : (y, n) ∈ lw_privs_3 := List.mem_of_getElem? h; (List.mem_append_right _ (List.mem_append_right _ (List.mem_append_left _ h)))), rfl⟩), hg⟩
theorem TP_4 {y : MethodName} {n : Nat} (i : Nat) (h : lw_privs_4[i]? = some (y, n)) (hg : goodWord (.selects y.cls y y) = true) : .selects y.cls y y ∈ TB := List.mem_filter.mpr ⟨List.mem_append_left _ (List.mem_map.mpr ⟨(y, n), (have h : (y, n) ∈ lw_privs_4 := List.mem_of_getElem? h; (List.mem_append_right _ (List.mem_append_right _ (List.mem_append_right _ (List.mem_append_left _ h))))), rfl⟩), hg⟩
theorem TP_5 {y : MethodName} {n : Nat} (i : Nat) (h : lw_privs_5[i]? = some (y, n)) (hg : goodWord (.selects y.cls y y) = true) : .selects y.cls y y ∈ TB := List.mem_filter.mpr ⟨List.mem_append_left _ (List.mem_map.mpr ⟨(y, n), (have h : (y, n) ∈ lw_privs_5 := List.mem_of_getElem? h; (List.mem_append_right _ (List.mem_append_right _ (List.mem_append_right _ (List.mem_append_right _ (List.mem_append_left _ h)))))), rfl⟩), hg⟩
theorem TP_6 {y : MethodName} {n : Nat} (i : Nat) (h : lw_privs_6[i]? = some (y, n)) (hg : goodWord (.selects y.cls y y) = true) : .selects y.cls y y ∈ TB := List.mem_filter.mpr ⟨List.mem_append_left _ (List.mem_map.mpr ⟨(y, n), (have h : (y, n) ∈ lw_privs_6 := List.mem_of_getElem? h; (List.mem_append_right _ (List.mem_append_right _ (List.mem_append_right _ (List.mem_append_right _ (List.mem_append_right _ h)))))), rfl⟩), hg⟩
abbrev MX9_init : MD := (yX9_init, cX9_init, 1, none, [])
abbrev MX8_init : MD := (yX8_init, cX8_init, 1, none, [])
abbrev MX3_init : MD := (yX3_init, cX3_init, 2, none, [])
abbrev MX0_init : MD := (yX0_init, cX0_init, 2, none, [])
abbrev MX5_init : MD := (yX5_init, cX5_init, 1, none, [])
abbrev MX6_init : MD := (yX6_init, cX6_init, 1, none, [])
abbrev MX1_init : MD := (yX1_init, cX1_init, 1, none, [])
abbrev MX4_init : MD := (yX4_init, cX4_init, 1, none, [])
abbrev MX7_init : MD := (yX7_init, cX7_init, 1, none, [])
abbrev MX2_init : MD := (yX2_init, cX2_init, 1, none, [])
abbrev MX5_begin : MD := (yX5_begin, cX5_begin, 2, none, [])
abbrev MX6_begin : MD := (yX6_begin, cX6_begin, 3, none, [])
abbrev MX6_open : MD := (yX6_open, cX6_open, 6, (some .int), [])
abbrev MX6_setTerms : MD := (yX6_setTerms, cX6_setTerms, 4, none, [])
abbrev MX1_begin : MD := (yX1_begin, cX1_begin, 3, none, [])
abbrev MX1_put : MD := (yX1_put, cX1_put, 4, none, [])
abbrev MX9_load : MD := (yX9_load, cX9_load, 3, (some .int), [])
abbrev MX3_readInto : MD := (yX3_readInto, cX3_readInto, 3, (some .boolean), [])
abbrev MX8_rewind : MD := (yX8_rewind, cX8_rewind, 1, none, [])
abbrev MX3_readBlocks : MD := (yX3_readBlocks, cX3_readBlocks, 3, (some .boolean), [])
abbrev MX8_readWord : MD := (yX8_readWord, cX8_readWord, 1, (some .boolean), [])
abbrev MX8_next : MD := (yX8_next, cX8_next, 1, none, [])
abbrev MX8_fail : MD := (yX8_fail, cX8_fail, 2, (some .boolean), [])
abbrev MX8_isWord : MD := (yX8_isWord, cX8_isWord, 3, (some .boolean), [])
abbrev MX8_wordLength : MD := (yX8_wordLength, cX8_wordLength, 1, (some .int), [])
abbrev MJ0_length_8abf5 : MD := (yJ0_length_8abf5, cJ0_length_8abf5, 1, (some .int), [])
abbrev MJ0_coder_7d493 : MD := (yJ0_coder_7d493, cJ0_coder_7d493, 1, (some .byte), [])
abbrev MJ0_charAt_5068e : MD := (yJ0_charAt_5068e, cJ0_charAt_5068e, 2, (some .char), [])
abbrev MJ0_isLatin1_aae02 : MD := (yJ0_isLatin1_aae02, cJ0_isLatin1_aae02, 1, (some .boolean), [])
abbrev MJ1_charAt_3b067 : MD := (yJ1_charAt_3b067, cJ1_charAt_3b067, 2, (some .char), [])
abbrev MJ0_checkIndex_df160 : MD := (yJ0_checkIndex_df160, cJ0_checkIndex_df160, 2, none, [])
abbrev MJ3_checkIndex_8e157 : MD := (yJ3_checkIndex_8e157, cJ3_checkIndex_8e157, 3, (some .int), [])
abbrev MJ2_charAt_3b067 : MD := (yJ2_charAt_3b067, cJ2_charAt_3b067, 2, (some .char), [])
abbrev MJ2_checkIndex_2214a : MD := (yJ2_checkIndex_2214a, cJ2_checkIndex_2214a, 2, none, [])
abbrev MJ2_length_9d52b : MD := (yJ2_length_9d52b, cJ2_length_9d52b, 1, (some .int), [])
abbrev MJ2_getChar_3b067 : MD := (yJ2_getChar_3b067, cJ2_getChar_3b067, 2, (some .char), [])
abbrev MX8_readNumber : MD := (yX8_readNumber, cX8_readNumber, 5, (some .int), [])
abbrev MJ9_min_7cf53 : MD := (yJ9_min_7cf53, cJ9_min_7cf53, 2, (some .int), [])
abbrev MX8_readSemicolon : MD := (yX8_readSemicolon, cX8_readSemicolon, 1, (some .boolean), [])
abbrev MX3_readStatement : MD := (yX3_readStatement, cX3_readStatement, 2, (some .boolean), [])
abbrev MX3_readPool : MD := (yX3_readPool, cX3_readPool, 5, (some .boolean), [])
abbrev MX6_find : MD := (yX6_find, cX6_find, 5, (some .int), [])
abbrev MX6_hasName : MD := (yX6_hasName, cX6_hasName, 5, (some .boolean), [])
abbrev MX3_readPick : MD := (yX3_readPick, cX3_readPick, 2, (some .boolean), [])
abbrev MX3_readGrant : MD := (yX3_readGrant, cX3_readGrant, 5, (some .boolean), [])
abbrev MX5_availableIn : MD := (yX5_availableIn, cX5_availableIn, 2, (some .int), [])
abbrev MX1_countIn : MD := (yX1_countIn, cX1_countIn, 4, (some .int), [])
abbrev MX7_pendingSum : MD := (yX7_pendingSum, cX7_pendingSum, 6, (some .int), [])
abbrev MX5_roomIn : MD := (yX5_roomIn, cX5_roomIn, 2, (some .int), [])
abbrev MX5_grant : MD := (yX5_grant, cX5_grant, 3, none, [])
abbrev MX1_pickNothing : MD := (yX1_pickNothing, cX1_pickNothing, 2, none, [])
abbrev MX1_pickLowest : MD := (yX1_pickLowest, cX1_pickLowest, 6, none, [])
abbrev MX5_book : MD := (yX5_book, cX5_book, 7, (some .int), [])
abbrev MX4_add : MD := (yX4_add, cX4_add, 10, (some .int), [])
abbrev MX4_keepBlocks : MD := (yX4_keepBlocks, cX4_keepBlocks, 4, none, [])
abbrev MX1_putPicked : MD := (yX1_putPicked, cX1_putPicked, 4, none, [])
abbrev MX8_isAtEnd : MD := (yX8_isAtEnd, cX8_isAtEnd, 1, (some .boolean), [])
abbrev MX9_endReading : MD := (yX9_endReading, cX9_endReading, 2, (some .int), [])
abbrev MX8_clear : MD := (yX8_clear, cX8_clear, 1, none, [])
abbrev MX9_useDraft : MD := (yX9_useDraft, cX9_useDraft, 2, none, [])
abbrev MX9_textError : MD := (yX9_textError, cX9_textError, 1, (some .int), [])
abbrev MX9_poolNamed : MD := (yX9_poolNamed, cX9_poolNamed, 2, (some .int), [])
abbrev MX9_batch : MD := (yX9_batch, cX9_batch, 4, (some .int), [])
abbrev MX0_read : MD := (yX0_read, cX0_read, 3, (some .boolean), [])
abbrev MX0_readCommand : MD := (yX0_readCommand, cX0_readCommand, 2, (some .boolean), [])
abbrev MX0_readLong : MD := (yX0_readLong, cX0_readLong, 9, (some .boolean), [])
abbrev MX0_readPoolOtherThan : MD := (yX0_readPoolOtherThan, cX0_readPoolOtherThan, 4, (some .int), [])
abbrev MX0_addRow : MD := (yX0_addRow, cX0_addRow, 7, none, [])
abbrev MX0_readShort : MD := (yX0_readShort, cX0_readShort, 5, (some .boolean), [])
abbrev MX5_copyFrom : MD := (yX5_copyFrom, cX5_copyFrom, 2, none, [])
abbrev MX6_copyFrom : MD := (yX6_copyFrom, cX6_copyFrom, 2, none, [])
abbrev MX1_copyFrom : MD := (yX1_copyFrom, cX1_copyFrom, 2, none, [])
abbrev MX4_copyFrom : MD := (yX4_copyFrom, cX4_copyFrom, 2, none, [])
abbrev MX7_copyFrom : MD := (yX7_copyFrom, cX7_copyFrom, 2, none, [])
abbrev MX2_copyFrom : MD := (yX2_copyFrom, cX2_copyFrom, 2, none, [])
abbrev MX0_carryOut : MD := (yX0_carryOut, cX0_carryOut, 3, (some .int), [])
abbrev MX0_carryOutOne : MD := (yX0_carryOutOne, cX0_carryOutOne, 7, (some .int), [])
abbrev MX5_move : MD := (yX5_move, cX5_move, 6, (some .int), [])
abbrev MX4_isFull : MD := (yX4_isFull, cX4_isFull, 1, (some .boolean), [])
abbrev MX5_obstacle : MD := (yX5_obstacle, cX5_obstacle, 5, (some .int), [])
abbrev MX1_pick : MD := (yX1_pick, cX1_pick, 4, none, [])
abbrev MX1_pickHighest : MD := (yX1_pickHighest, cX1_pickHighest, 5, none, [])
abbrev MX1_pickOldest : MD := (yX1_pickOldest, cX1_pickOldest, 7, none, [])
abbrev MX1_nextTime : MD := (yX1_nextTime, cX1_nextTime, 6, (some .int), [])
abbrev MX1_fittingStart : MD := (yX1_fittingStart, cX1_fittingStart, 7, (some .int), [])
abbrev MX1_endsRun : MD := (yX1_endsRun, cX1_endsRun, 3, (some .boolean), [])
abbrev MX5_hold : MD := (yX5_hold, cX5_hold, 6, (some .int), [])
abbrev MX7_isFull : MD := (yX7_isFull, cX7_isFull, 1, (some .boolean), [])
abbrev MX7_add : MD := (yX7_add, cX7_add, 7, (some .int), [])
abbrev MX5_pass : MD := (yX5_pass, cX5_pass, 3, (some .int), [])
abbrev MX5_rentAfter : MD := (yX5_rentAfter, cX5_rentAfter, 3, (some .float), [])
abbrev MX7_expire : MD := (yX7_expire, cX7_expire, 4, (some .int), [])
abbrev MX7_isPending : MD := (yX7_isPending, cX7_isPending, 2, (some .boolean), [])
abbrev MX7_value : MD := (yX7_value, cX7_value, 3, (some .int), [])
abbrev MX7_end : MD := (yX7_end, cX7_end, 3, none, [])
abbrev MX5_moveBack : MD := (yX5_moveBack, cX5_moveBack, 8, (some .int), [])
abbrev MX4_isReversible : MD := (yX4_isReversible, cX4_isReversible, 2, (some .boolean), [])
abbrev MX4_value : MD := (yX4_value, cX4_value, 3, (some .int), [])
abbrev MX4_pickBlocks : MD := (yX4_pickBlocks, cX4_pickBlocks, 6, none, [])
abbrev MX1_allPickedAreIn : MD := (yX1_allPickedAreIn, cX1_allPickedAreIn, 3, (some .boolean), [])
abbrev MX4_link : MD := (yX4_link, cX4_link, 3, none, [])
abbrev MX9_blockCount : MD := (yX9_blockCount, cX9_blockCount, 1, (some .int), [])
abbrev MX9_poolCount : MD := (yX9_poolCount, cX9_poolCount, 1, (some .int), [])
abbrev MX9_now : MD := (yX9_now, cX9_now, 1, (some .int), [])
abbrev MX9_reservationCount : MD := (yX9_reservationCount, cX9_reservationCount, 1, (some .int), [])
abbrev MX9_nextExpiry : MD := (yX9_nextExpiry, cX9_nextExpiry, 1, (some .int), [])
abbrev MX7_firstToExpire : MD := (yX7_firstToExpire, cX7_firstToExpire, 4, (some .int), [])
abbrev MX9_entryCount : MD := (yX9_entryCount, cX9_entryCount, 1, (some .int), [])
abbrev MX9_totalRent : MD := (yX9_totalRent, cX9_totalRent, 1, (some .float), [])
abbrev MX6_sumOfRents : MD := (yX6_sumOfRents, cX6_sumOfRents, 3, (some .float), [])
abbrev MX9_mismatches : MD := (yX9_mismatches, cX9_mismatches, 1, (some .int), [])
abbrev MX5_unequalPools : MD := (yX5_unequalPools, cX5_unequalPools, 3, (some .int), [])
abbrev MX5_bookedIn : MD := (yX5_bookedIn, cX5_bookedIn, 2, (some .int), [])
abbrev MX5_opening : MD := (yX5_opening, cX5_opening, 2, (some .int), [])
abbrev MX4_net : MD := (yX4_net, cX4_net, 6, (some .int), [])
abbrev MX4_change : MD := (yX4_change, cX4_change, 4, (some .int), [])
abbrev MX9_reconcile : MD := (yX9_reconcile, cX9_reconcile, 1, (some .int), [])
abbrev MX5_adjust : MD := (yX5_adjust, cX5_adjust, 6, (some .int), [])
abbrev MX5_firstWithSurplus : MD := (yX5_firstWithSurplus, cX5_firstWithSurplus, 3, (some .int), [])
abbrev MX9_checkpoint : MD := (yX9_checkpoint, cX9_checkpoint, 1, (some .int), [])
abbrev MX5_mark : MD := (yX5_mark, cX5_mark, 3, (some .int), [])
abbrev MX2_add : MD := (yX2_add, cX2_add, 3, (some .int), [])
abbrev MX2_setBlocks : MD := (yX2_setBlocks, cX2_setBlocks, 4, none, [])
abbrev MX9_appendByte : MD := (yX9_appendByte, cX9_appendByte, 2, (some .int), [])
abbrev MX8_append : MD := (yX8_append, cX8_append, 2, (some .int), [])
abbrev MX9_nameByte : MD := (yX9_nameByte, cX9_nameByte, 3, (some .int), [])
abbrev MX9_needPool : MD := (yX9_needPool, cX9_needPool, 2, none, [])
abbrev MX6_letter : MD := (yX6_letter, cX6_letter, 3, (some .int), [])
abbrev MX9_advance : MD := (yX9_advance, cX9_advance, 2, (some .int), [])
abbrev MX9_needTicks : MD := (yX9_needTicks, cX9_needTicks, 1, none, [])
abbrev MX9_setPick : MD := (yX9_setPick, cX9_setPick, 3, (some .int), [])
abbrev MX9_transfer : MD := (yX9_transfer, cX9_transfer, 5, (some .int), [])
abbrev MX9_needTwoPools : MD := (yX9_needTwoPools, cX9_needTwoPools, 3, none, [])
abbrev MX9_needCount : MD := (yX9_needCount, cX9_needCount, 1, none, [])
abbrev MX9_needReason : MD := (yX9_needReason, cX9_needReason, 1, none, [])
abbrev MX9_transferBlock : MD := (yX9_transferBlock, cX9_transferBlock, 4, (some .int), [])
abbrev MX9_needBlock : MD := (yX9_needBlock, cX9_needBlock, 2, none, [])
abbrev MX5_moveBlock : MD := (yX5_moveBlock, cX5_moveBlock, 6, (some .int), [])
abbrev MX1_pickOne : MD := (yX1_pickOne, cX1_pickOne, 2, none, [])
abbrev MX9_reverse : MD := (yX9_reverse, cX9_reverse, 2, (some .int), [])
abbrev MX9_needEntry : MD := (yX9_needEntry, cX9_needEntry, 2, none, [])
abbrev MX9_reserve : MD := (yX9_reserve, cX9_reserve, 5, (some .int), [])
abbrev MX9_commit : MD := (yX9_commit, cX9_commit, 3, (some .int), [])
abbrev MX9_needReservation : MD := (yX9_needReservation, cX9_needReservation, 2, none, [])
abbrev MX5_fulfil : MD := (yX5_fulfil, cX5_fulfil, 7, (some .int), [])
abbrev MX9_release : MD := (yX9_release, cX9_release, 2, (some .int), [])
abbrev MX7_drop : MD := (yX7_drop, cX7_drop, 2, (some .int), [])
abbrev MX7_pendingCount : MD := (yX7_pendingCount, cX7_pendingCount, 3, (some .int), [])
abbrev MX9_extend : MD := (yX9_extend, cX9_extend, 3, (some .int), [])
abbrev MX7_prolong : MD := (yX7_prolong, cX7_prolong, 4, (some .int), [])
abbrev MX9_balance : MD := (yX9_balance, cX9_balance, 2, (some .int), [])
abbrev MX9_booked : MD := (yX9_booked, cX9_booked, 2, (some .int), [])
abbrev MX9_available : MD := (yX9_available, cX9_available, 2, (some .int), [])
abbrev MX9_room : MD := (yX9_room, cX9_room, 2, (some .int), [])
abbrev MX9_largestTransfer : MD := (yX9_largestTransfer, cX9_largestTransfer, 3, (some .int), [])
abbrev MJ9_max_7cf53 : MD := (yJ9_max_7cf53, cJ9_max_7cf53, 2, (some .int), [])
abbrev MX9_poolOf : MD := (yX9_poolOf, cX9_poolOf, 2, (some .int), [])
abbrev MX9_since : MD := (yX9_since, cX9_since, 2, (some .int), [])
abbrev MX9_blockAt : MD := (yX9_blockAt, cX9_blockAt, 3, (some .int), [])
abbrev MX1_memberAt : MD := (yX1_memberAt, cX1_memberAt, 5, (some .int), [])
abbrev MX9_wouldPick : MD := (yX9_wouldPick, cX9_wouldPick, 4, (some .int), [])
abbrev MX1_pickedAt : MD := (yX1_pickedAt, cX1_pickedAt, 4, (some .int), [])
abbrev MX9_runCount : MD := (yX9_runCount, cX9_runCount, 2, (some .int), [])
abbrev MX1_runsOf : MD := (yX1_runsOf, cX1_runsOf, 4, (some .int), [])
abbrev MX9_longestRun : MD := (yX9_longestRun, cX9_longestRun, 2, (some .int), [])
abbrev MX1_longestOf : MD := (yX1_longestOf, cX1_longestOf, 5, (some .int), [])
abbrev MX9_fragmentation : MD := (yX9_fragmentation, cX9_fragmentation, 3, (some .float), [])
abbrev MX9_swap : MD := (yX9_swap, cX9_swap, 3, (some .boolean), [])
abbrev MX1_exchange : MD := (yX1_exchange, cX1_exchange, 5, (some .boolean), [])
abbrev MX9_bestSwap : MD := (yX9_bestSwap, cX9_bestSwap, 2, (some .int), [])
abbrev MX1_bestExchange : MD := (yX1_bestExchange, cX1_bestExchange, 7, (some .int), [])
abbrev MX1_joinedLength : MD := (yX1_joinedLength, cX1_joinedLength, 6, (some .int), [])
abbrev MX9_entryValue : MD := (yX9_entryValue, cX9_entryValue, 3, (some .int), [])
abbrev MX9_entryBlock : MD := (yX9_entryBlock, cX9_entryBlock, 3, (some .int), [])
abbrev MX9_bookedAt : MD := (yX9_bookedAt, cX9_bookedAt, 3, (some .int), [])
abbrev MX4_netUntil : MD := (yX4_netUntil, cX4_netUntil, 5, (some .int), [])
abbrev MX9_peak : MD := (yX9_peak, cX9_peak, 4, (some .int), [])
abbrev MX9_needInterval : MD := (yX9_needInterval, cX9_needInterval, 2, none, [])
abbrev MX4_greatest : MD := (yX4_greatest, cX4_greatest, 8, (some .int), [])
abbrev MX9_flow : MD := (yX9_flow, cX9_flow, 5, (some .int), [])
abbrev MX4_sumBetween : MD := (yX4_sumBetween, cX4_sumBetween, 8, (some .int), [])
abbrev MX4_isWithin : MD := (yX4_isWithin, cX4_isWithin, 5, (some .boolean), [])
abbrev MX9_reasonTotal : MD := (yX9_reasonTotal, cX9_reasonTotal, 4, (some .int), [])
abbrev MX4_sumOfReason : MD := (yX4_sumOfReason, cX4_sumOfReason, 6, (some .int), [])
abbrev MX4_signed : MD := (yX4_signed, cX4_signed, 3, (some .int), [])
abbrev MX9_busiest : MD := (yX9_busiest, cX9_busiest, 3, (some .int), [])
abbrev MX5_mostMoved : MD := (yX5_mostMoved, cX5_mostMoved, 7, (some .int), [])
abbrev MX4_turnover : MD := (yX4_turnover, cX4_turnover, 7, (some .int), [])
abbrev MX9_reservationValue : MD := (yX9_reservationValue, cX9_reservationValue, 3, (some .int), [])
abbrev MX9_reservedFrom : MD := (yX9_reservedFrom, cX9_reservedFrom, 2, (some .int), [])
abbrev MX9_whenAvailable : MD := (yX9_whenAvailable, cX9_whenAvailable, 3, (some .int), [])
abbrev MX5_timeOfAvailable : MD := (yX5_timeOfAvailable, cX5_timeOfAvailable, 3, (some .int), [])
abbrev MX7_timeOfSum : MD := (yX7_timeOfSum, cX7_timeOfSum, 7, (some .int), [])
abbrev MX7_pendingAfter : MD := (yX7_pendingAfter, cX7_pendingAfter, 6, (some .int), [])
abbrev MX9_rent : MD := (yX9_rent, cX9_rent, 2, (some .float), [])
abbrev MX9_rentAhead : MD := (yX9_rentAhead, cX9_rentAhead, 3, (some .float), [])
abbrev MX9_corrupt : MD := (yX9_corrupt, cX9_corrupt, 4, (some .int), [])
abbrev MX9_auditSet : MD := (yX9_auditSet, cX9_auditSet, 3, (some .int), [])
abbrev MX9_needCheckpoints : MD := (yX9_needCheckpoints, cX9_needCheckpoints, 3, none, [])
abbrev MX5_auditedPools : MD := (yX5_auditedPools, cX5_auditedPools, 5, (some .int), [])
abbrev MX5_auditedChange : MD := (yX5_auditedChange, cX5_auditedChange, 6, (some .int), [])
abbrev MX2_blocksOf : MD := (yX2_blocksOf, cX2_blocksOf, 3, (some .int), [])
abbrev MX2_entriesOf : MD := (yX2_entriesOf, cX2_entriesOf, 2, (some .int), [])
abbrev MX9_auditOf : MD := (yX9_auditOf, cX9_auditOf, 4, (some .int), [])
abbrev MX9_saveSnapshot : MD := (yX9_saveSnapshot, cX9_saveSnapshot, 3, (some .int), [])
abbrev MX9_needSlot : MD := (yX9_needSlot, cX9_needSlot, 1, none, [])
abbrev MX9_restoreSnapshot : MD := (yX9_restoreSnapshot, cX9_restoreSnapshot, 3, (some .int), [])
abbrev MX10_init : MD := (yX10_init, cX10_init, 1, none, [])
abbrev MX10_begins : MD := (yX10_begins, cX10_begins, 3, none, [])
abbrev MX10_thrown : MD := (yX10_thrown, cX10_thrown, 1, (some .int), [])
abbrev MX10_transfer : MD := (yX10_transfer, cX10_transfer, 5, (some .int), [])
abbrev MX10_isPool : MD := (yX10_isPool, cX10_isPool, 2, (some .boolean), [])
abbrev MX10_in : MD := (yX10_in, cX10_in, 3, (some .boolean), [])
abbrev MX10_isThrown : MD := (yX10_isThrown, cX10_isThrown, 3, (some .boolean), [])
abbrev MX10_transfers : MD := (yX10_transfers, cX10_transfers, 6, (some .int), [])
abbrev MX10_refusal : MD := (yX10_refusal, cX10_refusal, 4, (some .int), [])
abbrev MX10_availableOf : MD := (yX10_availableOf, cX10_availableOf, 2, (some .int), [])
abbrev MX10_balanceOf : MD := (yX10_balanceOf, cX10_balanceOf, 4, (some .int), [])
abbrev MX10_reserved : MD := (yX10_reserved, cX10_reserved, 5, (some .int), [])
abbrev MX10_hold : MD := (yX10_hold, cX10_hold, 3, (some .int), [])
abbrev MX10_roomOf : MD := (yX10_roomOf, cX10_roomOf, 2, (some .int), [])
abbrev MX10_pool : MD := (yX10_pool, cX10_pool, 3, (some .int), [])
abbrev MX10_picks : MD := (yX10_picks, cX10_picks, 6, none, [])
abbrev MX10_picksNone : MD := (yX10_picksNone, cX10_picksNone, 2, none, [])
abbrev MX10_fittingRun : MD := (yX10_fittingRun, cX10_fittingRun, 7, (some .int), [])
abbrev MX10_isIn : MD := (yX10_isIn, cX10_isIn, 3, (some .boolean), [])
abbrev MX10_nextPick : MD := (yX10_nextPick, cX10_nextPick, 6, (some .int), [])
abbrev MX10_moves : MD := (yX10_moves, cX10_moves, 9, (some .int), [])
abbrev MX10_adds : MD := (yX10_adds, cX10_adds, 9, (some .int), [])
abbrev MX10_transferBlock : MD := (yX10_transferBlock, cX10_transferBlock, 6, (some .int), [])
abbrev MX10_isBlock : MD := (yX10_isBlock, cX10_isBlock, 2, (some .boolean), [])
abbrev MX10_reverse : MD := (yX10_reverse, cX10_reverse, 2, (some .int), [])
abbrev MX10_isEntry : MD := (yX10_isEntry, cX10_isEntry, 2, (some .boolean), [])
abbrev MX10_reverses : MD := (yX10_reverses, cX10_reverses, 6, (some .int), [])
abbrev MX10_entry : MD := (yX10_entry, cX10_entry, 3, (some .int), [])
abbrev MX10_picksBack : MD := (yX10_picksBack, cX10_picksBack, 4, (some .boolean), [])
abbrev MX10_hasBlock : MD := (yX10_hasBlock, cX10_hasBlock, 3, (some .boolean), [])
abbrev MX10_reserve : MD := (yX10_reserve, cX10_reserve, 5, (some .int), [])
abbrev MX10_reserves : MD := (yX10_reserves, cX10_reserves, 7, (some .int), [])
abbrev MX10_setsHold : MD := (yX10_setsHold, cX10_setsHold, 4, none, [])
abbrev MX10_commit : MD := (yX10_commit, cX10_commit, 4, (some .int), [])
abbrev MX10_isHold : MD := (yX10_isHold, cX10_isHold, 2, (some .boolean), [])
abbrev MX10_release : MD := (yX10_release, cX10_release, 4, (some .int), [])
abbrev MX10_extend : MD := (yX10_extend, cX10_extend, 3, (some .int), [])
abbrev MX10_advance : MD := (yX10_advance, cX10_advance, 2, (some .int), [])
abbrev MX10_passes : MD := (yX10_passes, cX10_passes, 4, (some .int), [])
abbrev MX10_rentBehind : MD := (yX10_rentBehind, cX10_rentBehind, 3, (some .float), [])
abbrev MX10_now : MD := (yX10_now, cX10_now, 1, (some .int), [])
abbrev MX10_setPick : MD := (yX10_setPick, cX10_setPick, 3, (some .int), [])
abbrev MX10_appendByte : MD := (yX10_appendByte, cX10_appendByte, 2, (some .int), [])
abbrev MX10_load : MD := (yX10_load, cX10_load, 2, (some .int), [])
abbrev MX10_reads : MD := (yX10_reads, cX10_reads, 1, none, [])
abbrev MX10_next : MD := (yX10_next, cX10_next, 1, (some .int), [])
abbrev MX10_here : MD := (yX10_here, cX10_here, 1, (some .int), [])
abbrev MX10_isWord : MD := (yX10_isWord, cX10_isWord, 4, (some .boolean), [])
abbrev MX10_fails : MD := (yX10_fails, cX10_fails, 3, none, [])
abbrev MX10_number : MD := (yX10_number, cX10_number, 4, (some .int), [])
abbrev MX10_isMore : MD := (yX10_isMore, cX10_isMore, 1, (some .boolean), [])
abbrev MX10_statement : MD := (yX10_statement, cX10_statement, 1, none, [])
abbrev MX10_poolPart : MD := (yX10_poolPart, cX10_poolPart, 3, none, [])
abbrev MX10_findIn : MD := (yX10_findIn, cX10_findIn, 3, (some .int), [])
abbrev MX10_isNameOf : MD := (yX10_isNameOf, cX10_isNameOf, 5, (some .boolean), [])
abbrev MX10_pickPart : MD := (yX10_pickPart, cX10_pickPart, 2, none, [])
abbrev MX10_grantPart : MD := (yX10_grantPart, cX10_grantPart, 5, none, [])
abbrev MX10_known : MD := (yX10_known, cX10_known, 5, (some .int), [])
abbrev MX10_copies : MD := (yX10_copies, cX10_copies, 5, none, [])
abbrev MX10_textError : MD := (yX10_textError, cX10_textError, 1, (some .int), [])
abbrev MX10_poolNamed : MD := (yX10_poolNamed, cX10_poolNamed, 2, (some .int), [])
abbrev MX10_batch : MD := (yX10_batch, cX10_batch, 1, (some .int), [])
abbrev MX10_command : MD := (yX10_command, cX10_command, 2, none, [])
abbrev MX10_pair : MD := (yX10_pair, cX10_pair, 5, none, [])
abbrev MX10_carriesOut : MD := (yX10_carriesOut, cX10_carriesOut, 2, (some .int), [])
abbrev MX10_copiesRents : MD := (yX10_copiesRents, cX10_copiesRents, 5, none, [])
abbrev MX10_isDone : MD := (yX10_isDone, cX10_isDone, 7, (some .boolean), [])
abbrev MX10_blockCount : MD := (yX10_blockCount, cX10_blockCount, 1, (some .int), [])
abbrev MX10_poolCount : MD := (yX10_poolCount, cX10_poolCount, 1, (some .int), [])
abbrev MX10_nameByte : MD := (yX10_nameByte, cX10_nameByte, 4, (some .int), [])
abbrev MX10_balance : MD := (yX10_balance, cX10_balance, 2, (some .int), [])
abbrev MX10_booked : MD := (yX10_booked, cX10_booked, 2, (some .int), [])
abbrev MX10_bookedOf : MD := (yX10_bookedOf, cX10_bookedOf, 2, (some .int), [])
abbrev MX10_bookedUpTo : MD := (yX10_bookedUpTo, cX10_bookedUpTo, 5, (some .int), [])
abbrev MX10_available : MD := (yX10_available, cX10_available, 2, (some .int), [])
abbrev MX10_room : MD := (yX10_room, cX10_room, 2, (some .int), [])
abbrev MX10_largestTransfer : MD := (yX10_largestTransfer, cX10_largestTransfer, 3, (some .int), [])
abbrev MX10_poolOf : MD := (yX10_poolOf, cX10_poolOf, 2, (some .int), [])
abbrev MX10_since : MD := (yX10_since, cX10_since, 2, (some .int), [])
abbrev MX10_blockAt : MD := (yX10_blockAt, cX10_blockAt, 5, (some .int), [])
abbrev MX10_wouldPick : MD := (yX10_wouldPick, cX10_wouldPick, 6, (some .int), [])
abbrev MX10_runCount : MD := (yX10_runCount, cX10_runCount, 4, (some .int), [])
abbrev MX10_longestRun : MD := (yX10_longestRun, cX10_longestRun, 2, (some .int), [])
abbrev MX10_longestOf : MD := (yX10_longestOf, cX10_longestOf, 5, (some .int), [])
abbrev MX10_fragmentation : MD := (yX10_fragmentation, cX10_fragmentation, 2, (some .float), [])
abbrev MX10_swap : MD := (yX10_swap, cX10_swap, 3, (some .boolean), [])
abbrev MX10_exchanges : MD := (yX10_exchanges, cX10_exchanges, 5, none, [])
abbrev MX10_bestSwap : MD := (yX10_bestSwap, cX10_bestSwap, 7, (some .int), [])
abbrev MX10_corrupt : MD := (yX10_corrupt, cX10_corrupt, 4, (some .int), [])
abbrev MX10_entryCount : MD := (yX10_entryCount, cX10_entryCount, 1, (some .int), [])
abbrev MX10_entryValue : MD := (yX10_entryValue, cX10_entryValue, 3, (some .int), [])
abbrev MX10_entryBlock : MD := (yX10_entryBlock, cX10_entryBlock, 5, (some .int), [])
abbrev MX10_bookedAt : MD := (yX10_bookedAt, cX10_bookedAt, 3, (some .int), [])
abbrev MX10_entriesUpTo : MD := (yX10_entriesUpTo, cX10_entriesUpTo, 2, (some .int), [])
abbrev MX10_entriesBefore : MD := (yX10_entriesBefore, cX10_entriesBefore, 3, (some .int), [])
abbrev MX10_peak : MD := (yX10_peak, cX10_peak, 6, (some .int), [])
abbrev MX10_isInterval : MD := (yX10_isInterval, cX10_isInterval, 2, (some .boolean), [])
abbrev MX10_flow : MD := (yX10_flow, cX10_flow, 7, (some .int), [])
abbrev MX10_reasonTotal : MD := (yX10_reasonTotal, cX10_reasonTotal, 7, (some .int), [])
abbrev MX10_busiest : MD := (yX10_busiest, cX10_busiest, 8, (some .int), [])
abbrev MX10_reservationCount : MD := (yX10_reservationCount, cX10_reservationCount, 1, (some .int), [])
abbrev MX10_reservationValue : MD := (yX10_reservationValue, cX10_reservationValue, 3, (some .int), [])
abbrev MX10_reservedFrom : MD := (yX10_reservedFrom, cX10_reservedFrom, 2, (some .int), [])
abbrev MX10_nextExpiry : MD := (yX10_nextExpiry, cX10_nextExpiry, 3, (some .int), [])
abbrev MX10_whenAvailable : MD := (yX10_whenAvailable, cX10_whenAvailable, 7, (some .int), [])
abbrev MX10_availableAt : MD := (yX10_availableAt, cX10_availableAt, 6, (some .int), [])
abbrev MX10_rent : MD := (yX10_rent, cX10_rent, 2, (some .float), [])
abbrev MX10_totalRent : MD := (yX10_totalRent, cX10_totalRent, 3, (some .float), [])
abbrev MX10_rentAhead : MD := (yX10_rentAhead, cX10_rentAhead, 3, (some .float), [])
abbrev MX10_mismatches : MD := (yX10_mismatches, cX10_mismatches, 3, (some .int), [])
abbrev MX10_reconcile : MD := (yX10_reconcile, cX10_reconcile, 5, (some .int), [])
abbrev MX10_unequal : MD := (yX10_unequal, cX10_unequal, 3, (some .int), [])
abbrev MX10_checkpoint : MD := (yX10_checkpoint, cX10_checkpoint, 3, (some .int), [])
abbrev MX10_auditSet : MD := (yX10_auditSet, cX10_auditSet, 5, (some .int), [])
abbrev MX10_areChecks : MD := (yX10_areChecks, cX10_areChecks, 3, (some .boolean), [])
abbrev MX10_audited : MD := (yX10_audited, cX10_audited, 6, (some .int), [])
abbrev MX10_check : MD := (yX10_check, cX10_check, 3, (some .int), [])
abbrev MX10_auditOf : MD := (yX10_auditOf, cX10_auditOf, 4, (some .int), [])
abbrev MX10_saveSnapshot : MD := (yX10_saveSnapshot, cX10_saveSnapshot, 2, (some .int), [])
abbrev MX10_restoreSnapshot : MD := (yX10_restoreSnapshot, cX10_restoreSnapshot, 2, (some .int), [])
abbrev ML_appendByte : MD := (yL_appendByte, cL_appendByte, 4, (some .int), [(0, 9, 12, 13)])
abbrev ML_nameByte : MD := (yL_nameByte, cL_nameByte, 5, (some .int), [(0, 10, 13, 19)])
abbrev ML_advance : MD := (yL_advance, cL_advance, 4, (some .int), [(0, 9, 12, 13)])
abbrev ML_setPick : MD := (yL_setPick, cL_setPick, 4, (some .int), [(0, 9, 12, 13)])
abbrev ML_transfer : MD := (yL_transfer, cL_transfer, 7, (some .int), [(0, 14, 17, 19), (0, 14, 21, 13)])
abbrev ML_transferBlock : MD := (yL_transferBlock, cL_transferBlock, 6, (some .int), [(0, 12, 15, 19), (0, 12, 19, 13)])
abbrev ML_reverse : MD := (yL_reverse, cL_reverse, 4, (some .int), [(0, 9, 12, 19)])
abbrev ML_reserve : MD := (yL_reserve, cL_reserve, 7, (some .int), [(0, 14, 17, 19), (0, 14, 21, 13)])
abbrev ML_commit : MD := (yL_commit, cL_commit, 5, (some .int), [(0, 10, 13, 19), (0, 10, 17, 13)])
abbrev ML_release : MD := (yL_release, cL_release, 4, (some .int), [(0, 9, 12, 19)])
abbrev ML_extend : MD := (yL_extend, cL_extend, 5, (some .int), [(0, 10, 13, 19), (0, 10, 17, 13)])
abbrev ML_balance : MD := (yL_balance, cL_balance, 4, (some .int), [(0, 9, 12, 19)])
abbrev ML_booked : MD := (yL_booked, cL_booked, 4, (some .int), [(0, 9, 12, 19)])
abbrev ML_available : MD := (yL_available, cL_available, 4, (some .int), [(0, 9, 12, 19)])
abbrev ML_room : MD := (yL_room, cL_room, 4, (some .int), [(0, 9, 12, 19)])
abbrev ML_largestTransfer : MD := (yL_largestTransfer, cL_largestTransfer, 5, (some .int), [(0, 10, 13, 19), (0, 10, 17, 13)])
abbrev ML_poolOf : MD := (yL_poolOf, cL_poolOf, 4, (some .int), [(0, 9, 12, 19)])
abbrev ML_since : MD := (yL_since, cL_since, 4, (some .int), [(0, 9, 12, 19)])
abbrev ML_blockAt : MD := (yL_blockAt, cL_blockAt, 5, (some .int), [(0, 10, 13, 19)])
abbrev ML_wouldPick : MD := (yL_wouldPick, cL_wouldPick, 6, (some .int), [(0, 12, 15, 19), (0, 12, 19, 13)])
abbrev ML_runCount : MD := (yL_runCount, cL_runCount, 4, (some .int), [(0, 9, 12, 19)])
abbrev ML_longestRun : MD := (yL_longestRun, cL_longestRun, 4, (some .int), [(0, 9, 12, 19)])
abbrev ML_fragmentation : MD := (yL_fragmentation, cL_fragmentation, 4, (some .int), [(0, 9, 12, 19)])
abbrev ML_swap : MD := (yL_swap, cL_swap, 5, (some .int), [(0, 17, 20, 19), (0, 17, 24, 13)])
abbrev ML_bestSwap : MD := (yL_bestSwap, cL_bestSwap, 4, (some .int), [(0, 9, 12, 19)])
abbrev ML_entryValue : MD := (yL_entryValue, cL_entryValue, 5, (some .int), [(0, 10, 13, 19), (0, 10, 17, 13)])
abbrev ML_entryBlock : MD := (yL_entryBlock, cL_entryBlock, 5, (some .int), [(0, 10, 13, 19)])
abbrev ML_bookedAt : MD := (yL_bookedAt, cL_bookedAt, 5, (some .int), [(0, 10, 13, 19), (0, 10, 17, 13)])
abbrev ML_peak : MD := (yL_peak, cL_peak, 6, (some .int), [(0, 12, 15, 19), (0, 12, 19, 13)])
abbrev ML_flow : MD := (yL_flow, cL_flow, 7, (some .int), [(0, 14, 17, 19), (0, 14, 21, 13)])
abbrev ML_reasonTotal : MD := (yL_reasonTotal, cL_reasonTotal, 6, (some .int), [(0, 12, 15, 13)])
abbrev ML_busiest : MD := (yL_busiest, cL_busiest, 5, (some .int), [(0, 10, 13, 13)])
abbrev ML_reservationValue : MD := (yL_reservationValue, cL_reservationValue, 5, (some .int), [(0, 10, 13, 19), (0, 10, 17, 13)])
abbrev ML_reservedFrom : MD := (yL_reservedFrom, cL_reservedFrom, 4, (some .int), [(0, 9, 12, 19)])
abbrev ML_whenAvailable : MD := (yL_whenAvailable, cL_whenAvailable, 5, (some .int), [(0, 10, 13, 19), (0, 10, 17, 13)])
abbrev ML_rent : MD := (yL_rent, cL_rent, 4, (some .int), [(0, 9, 12, 19)])
abbrev ML_rentAhead : MD := (yL_rentAhead, cL_rentAhead, 5, (some .int), [(0, 10, 13, 19), (0, 10, 17, 13)])
abbrev ML_corrupt : MD := (yL_corrupt, cL_corrupt, 5, (some .int), [(0, 10, 13, 19)])
abbrev ML_auditSet : MD := (yL_auditSet, cL_auditSet, 5, (some .int), [(0, 10, 13, 13)])
abbrev ML_auditOf : MD := (yL_auditOf, cL_auditOf, 6, (some .int), [(0, 12, 15, 19), (0, 12, 19, 13)])
abbrev ML_saveSnapshot : MD := (yL_saveSnapshot, cL_saveSnapshot, 4, (some .int), [(0, 9, 12, 13)])
abbrev ML_restoreSnapshot : MD := (yL_restoreSnapshot, cL_restoreSnapshot, 4, (some .int), [(0, 9, 12, 13)])
set_option maxRecDepth 20000 in
theorem mbX9_init : ax_MB MX9_init 0 := ⟨TB_1 1 rfl rfl, TB_1 27 rfl rfl, by decide, by decide +kernel, by decide, rfl⟩
set_option maxRecDepth 20000 in
theorem mbX8_init : ax_MB MX8_init 0 := ⟨TB_1 2 rfl rfl, TB_1 35 rfl rfl, by decide, by decide +kernel, by decide, rfl⟩
set_option maxRecDepth 20000 in
theorem mbX3_init : ax_MB MX3_init 1 := ⟨TB_1 3 rfl rfl, TB_1 72 rfl rfl, by decide, by decide +kernel, by decide, rfl⟩
set_option maxRecDepth 20000 in
theorem mbX0_init : ax_MB MX0_init 1 := ⟨TB_1 4 rfl rfl, TB_1 82 rfl rfl, by decide, by decide +kernel, by decide, rfl⟩
set_option maxRecDepth 20000 in
theorem mbX5_init : ax_MB MX5_init 0 := ⟨TB_1 5 rfl rfl, TB_1 100 rfl rfl, by decide, by decide +kernel, by decide, rfl⟩
set_option maxRecDepth 20000 in
theorem mbX6_init : ax_MB MX6_init 0 := ⟨TB_1 6 rfl rfl, TB_1 106 rfl rfl, by decide, by decide +kernel, by decide, rfl⟩
set_option maxRecDepth 20000 in
theorem mbX1_init : ax_MB MX1_init 0 := ⟨TB_1 7 rfl rfl, TB_1 139 rfl rfl, by decide, by decide +kernel, by decide, rfl⟩
set_option maxRecDepth 20000 in
theorem mbX4_init : ax_MB MX4_init 0 := ⟨TB_1 8 rfl rfl, TB_1 166 rfl rfl, by decide, by decide +kernel, by decide, rfl⟩
set_option maxRecDepth 20000 in
theorem mbX7_init : ax_MB MX7_init 0 := ⟨TB_1 9 rfl rfl, TB_1 186 rfl rfl, by decide, by decide +kernel, by decide, rfl⟩
set_option maxRecDepth 20000 in
theorem mbX2_init : ax_MB MX2_init 0 := ⟨TB_1 10 rfl rfl, TB_1 201 rfl rfl, by decide, by decide +kernel, by decide, rfl⟩
set_option maxRecDepth 20000 in
theorem mbX5_begin : ax_MB MX5_begin 1 := ⟨TB_1 5 rfl rfl, TB_2 10 rfl rfl, by decide, by decide +kernel, by decide, rfl⟩
set_option maxRecDepth 20000 in
theorem mbX6_begin : ax_MB MX6_begin 1 := ⟨TB_1 6 rfl rfl, TB_2 14 rfl rfl, by decide, by decide +kernel, by decide, rfl⟩
set_option maxRecDepth 20000 in
theorem mbX6_open : ax_MB MX6_open 3 := ⟨TB_1 6 rfl rfl, TB_2 20 rfl rfl, by decide, by decide +kernel, by decide, rfl⟩
set_option maxRecDepth 20000 in
theorem mbX6_setTerms : ax_MB MX6_setTerms 3 := ⟨TB_1 6 rfl rfl, TB_2 24 rfl rfl, by decide, by decide +kernel, by decide, rfl⟩
set_option maxRecDepth 20000 in
theorem mbX1_begin : ax_MB MX1_begin 1 := ⟨TB_1 7 rfl rfl, TB_2 28 rfl rfl, by decide, by decide +kernel, by decide, rfl⟩
set_option maxRecDepth 20000 in
theorem mbX1_put : ax_MB MX1_put 3 := ⟨TB_1 7 rfl rfl, TB_2 32 rfl rfl, by decide, by decide +kernel, by decide, rfl⟩
set_option maxRecDepth 20000 in
theorem mbX9_load : ax_MB MX9_load 0 := ⟨TB_1 1 rfl rfl, TB_2 58 rfl rfl, by decide, by decide +kernel, by decide, rfl⟩
set_option maxRecDepth 20000 in
theorem mbX3_readInto : ax_MB MX3_readInto 1 := ⟨TB_1 3 rfl rfl, TB_2 62 rfl rfl, by decide, by decide +kernel, by decide, rfl⟩
set_option maxRecDepth 20000 in
theorem mbX8_rewind : ax_MB MX8_rewind 0 := ⟨TB_1 2 rfl rfl, TB_2 66 rfl rfl, by decide, by decide +kernel, by decide, rfl⟩
set_option maxRecDepth 20000 in
theorem mbX3_readBlocks : ax_MB MX3_readBlocks 1 := ⟨TB_1 3 rfl rfl, TB_2 70 rfl rfl, by decide, by decide +kernel, by decide, rfl⟩
set_option maxRecDepth 20000 in
theorem mbX8_readWord : ax_MB MX8_readWord 0 := ⟨TB_1 2 rfl rfl, TB_2 74 rfl rfl, by decide, by decide +kernel, by decide, rfl⟩
set_option maxRecDepth 20000 in
theorem mbX8_next : ax_MB MX8_next 0 := ⟨TB_1 2 rfl rfl, TB_2 78 rfl rfl, by decide, by decide +kernel, by decide, rfl⟩
set_option maxRecDepth 20000 in
theorem mbX8_fail : ax_MB MX8_fail 1 := ⟨TB_1 2 rfl rfl, TB_2 82 rfl rfl, by decide, by decide +kernel, by decide, rfl⟩
set_option maxRecDepth 20000 in
theorem mbX8_isWord : ax_MB MX8_isWord 1 := ⟨TB_1 2 rfl rfl, TB_2 87 rfl rfl, by decide, by decide +kernel, by decide, rfl⟩
set_option maxRecDepth 20000 in
theorem mbX8_wordLength : ax_MB MX8_wordLength 0 := ⟨TB_1 2 rfl rfl, TB_2 91 rfl rfl, by decide, by decide +kernel, by decide, rfl⟩
set_option maxRecDepth 20000 in
theorem mbJ0_length_8abf5 : ax_MB MJ0_length_8abf5 0 := ⟨TB_1 16 rfl rfl, TB_2 95 rfl rfl, by decide, by decide +kernel, by decide, rfl⟩
set_option maxRecDepth 20000 in
theorem mbJ0_coder_7d493 : ax_MB MJ0_coder_7d493 0 := ⟨TB_1 16 rfl rfl, TB_2 99 rfl rfl, by decide, by decide +kernel, by decide, rfl⟩
set_option maxRecDepth 20000 in
theorem mbJ0_charAt_5068e : ax_MB MJ0_charAt_5068e 1 := ⟨TB_1 16 rfl rfl, TB_2 105 rfl rfl, by decide, by decide +kernel, by decide, rfl⟩
set_option maxRecDepth 20000 in
theorem mbJ0_isLatin1_aae02 : ax_MB MJ0_isLatin1_aae02 0 := ⟨TB_1 16 rfl rfl, TB_2 109 rfl rfl, by decide, by decide +kernel, by decide, rfl⟩
set_option maxRecDepth 20000 in
theorem mbJ1_charAt_3b067 : ax_MB MJ1_charAt_3b067 2 := ⟨TB_1 17 rfl rfl, TB_2 112 rfl rfl, by decide, by decide +kernel, by decide, rfl⟩
set_option maxRecDepth 20000 in
theorem mbJ0_checkIndex_df160 : ax_MB MJ0_checkIndex_df160 2 := ⟨TB_1 16 rfl rfl, TB_2 115 rfl rfl, by decide, by decide +kernel, by decide, rfl⟩
set_option maxRecDepth 20000 in
theorem mbJ3_checkIndex_8e157 : ax_MB MJ3_checkIndex_8e157 3 := ⟨TB_1 18 rfl rfl, TB_2 120 rfl rfl, by decide, by decide +kernel, by decide, rfl⟩
set_option maxRecDepth 20000 in
theorem mbJ2_charAt_3b067 : ax_MB MJ2_charAt_3b067 2 := ⟨TB_1 19 rfl rfl, TB_2 123 rfl rfl, by decide, by decide +kernel, by decide, rfl⟩
set_option maxRecDepth 20000 in
theorem mbJ2_checkIndex_2214a : ax_MB MJ2_checkIndex_2214a 2 := ⟨TB_1 19 rfl rfl, TB_2 126 rfl rfl, by decide, by decide +kernel, by decide, rfl⟩
set_option maxRecDepth 20000 in
theorem mbJ2_length_9d52b : ax_MB MJ2_length_9d52b 1 := ⟨TB_1 19 rfl rfl, TB_2 129 rfl rfl, by decide, by decide +kernel, by decide, rfl⟩
set_option maxRecDepth 20000 in
theorem mbJ2_getChar_3b067 : ax_MB MJ2_getChar_3b067 2 := ⟨TB_1 19 rfl rfl, TB_2 133 rfl rfl, by decide, by decide +kernel, by decide, rfl⟩
set_option maxRecDepth 20000 in
theorem mbX8_readNumber : ax_MB MX8_readNumber 2 := ⟨TB_1 2 rfl rfl, TB_2 144 rfl rfl, by decide, by decide +kernel, by decide, rfl⟩
set_option maxRecDepth 20000 in
theorem mbX8_readSemicolon : ax_MB MX8_readSemicolon 0 := ⟨TB_1 2 rfl rfl, TB_2 152 rfl rfl, by decide, by decide +kernel, by decide, rfl⟩
set_option maxRecDepth 20000 in
theorem mbX3_readStatement : ax_MB MX3_readStatement 1 := ⟨TB_1 3 rfl rfl, TB_2 156 rfl rfl, by decide, by decide +kernel, by decide, rfl⟩
set_option maxRecDepth 20000 in
theorem mbX3_readPool : ax_MB MX3_readPool 1 := ⟨TB_1 3 rfl rfl, TB_2 161 rfl rfl, by decide, by decide +kernel, by decide, rfl⟩
set_option maxRecDepth 20000 in
theorem mbX6_find : ax_MB MX6_find 3 := ⟨TB_1 6 rfl rfl, TB_2 167 rfl rfl, by decide, by decide +kernel, by decide, rfl⟩
set_option maxRecDepth 20000 in
theorem mbX6_hasName : ax_MB MX6_hasName 3 := ⟨TB_1 6 rfl rfl, TB_2 171 rfl rfl, by decide, by decide +kernel, by decide, rfl⟩
set_option maxRecDepth 20000 in
theorem mbX3_readPick : ax_MB MX3_readPick 1 := ⟨TB_1 3 rfl rfl, TB_2 178 rfl rfl, by decide, by decide +kernel, by decide, rfl⟩
set_option maxRecDepth 20000 in
theorem mbX3_readGrant : ax_MB MX3_readGrant 1 := ⟨TB_1 3 rfl rfl, TB_2 187 rfl rfl, by decide, by decide +kernel, by decide, rfl⟩
set_option maxRecDepth 20000 in
theorem mbX5_availableIn : ax_MB MX5_availableIn 1 := ⟨TB_1 5 rfl rfl, TB_2 191 rfl rfl, by decide, by decide +kernel, by decide, rfl⟩
set_option maxRecDepth 20000 in
theorem mbX1_countIn : ax_MB MX1_countIn 1 := ⟨TB_1 7 rfl rfl, TB_2 195 rfl rfl, by decide, by decide +kernel, by decide, rfl⟩
set_option maxRecDepth 20000 in
theorem mbX7_pendingSum : ax_MB MX7_pendingSum 2 := ⟨TB_1 9 rfl rfl, TB_2 199 rfl rfl, by decide, by decide +kernel, by decide, rfl⟩
set_option maxRecDepth 20000 in
theorem mbX5_roomIn : ax_MB MX5_roomIn 1 := ⟨TB_1 5 rfl rfl, TB_2 203 rfl rfl, by decide, by decide +kernel, by decide, rfl⟩
set_option maxRecDepth 20000 in
theorem mbX5_grant : ax_MB MX5_grant 2 := ⟨TB_1 5 rfl rfl, TB_2 208 rfl rfl, by decide, by decide +kernel, by decide, rfl⟩
set_option maxRecDepth 20000 in
theorem mbX1_pickNothing : ax_MB MX1_pickNothing 0 := ⟨TB_1 7 rfl rfl, TB_2 212 rfl rfl, by decide, by decide +kernel, by decide, rfl⟩
set_option maxRecDepth 20000 in
theorem mbX1_pickLowest : ax_MB MX1_pickLowest 3 := ⟨TB_1 7 rfl rfl, TB_2 216 rfl rfl, by decide, by decide +kernel, by decide, rfl⟩
set_option maxRecDepth 20000 in
theorem mbX5_book : ax_MB MX5_book 5 := ⟨TB_1 5 rfl rfl, TB_2 220 rfl rfl, by decide, by decide +kernel, by decide, rfl⟩
set_option maxRecDepth 20000 in
theorem mbX4_add : ax_MB MX4_add 6 := ⟨TB_1 8 rfl rfl, TB_2 224 rfl rfl, by decide, by decide +kernel, by decide, rfl⟩
set_option maxRecDepth 20000 in
theorem mbX4_keepBlocks : ax_MB MX4_keepBlocks 2 := ⟨TB_1 8 rfl rfl, TB_2 228 rfl rfl, by decide, by decide +kernel, by decide, rfl⟩
set_option maxRecDepth 20000 in
theorem mbX1_putPicked : ax_MB MX1_putPicked 2 := ⟨TB_1 7 rfl rfl, TB_2 232 rfl rfl, by decide, by decide +kernel, by decide, rfl⟩
set_option maxRecDepth 20000 in
theorem mbX8_isAtEnd : ax_MB MX8_isAtEnd 0 := ⟨TB_1 2 rfl rfl, TB_2 236 rfl rfl, by decide, by decide +kernel, by decide, rfl⟩
set_option maxRecDepth 20000 in
theorem mbX9_endReading : ax_MB MX9_endReading 0 := ⟨TB_1 1 rfl rfl, TB_3 0 rfl rfl, by decide, by decide +kernel, by decide, rfl⟩
set_option maxRecDepth 20000 in
theorem mbX8_clear : ax_MB MX8_clear 0 := ⟨TB_1 2 rfl rfl, TB_3 4 rfl rfl, by decide, by decide +kernel, by decide, rfl⟩
set_option maxRecDepth 20000 in
theorem mbX9_useDraft : ax_MB MX9_useDraft 0 := ⟨TB_1 1 rfl rfl, TB_3 8 rfl rfl, by decide, by decide +kernel, by decide, rfl⟩
set_option maxRecDepth 20000 in
theorem mbX9_textError : ax_MB MX9_textError 0 := ⟨TB_1 1 rfl rfl, TB_3 13 rfl rfl, by decide, by decide +kernel, by decide, rfl⟩
set_option maxRecDepth 20000 in
theorem mbX9_poolNamed : ax_MB MX9_poolNamed 0 := ⟨TB_1 1 rfl rfl, TB_3 17 rfl rfl, by decide, by decide +kernel, by decide, rfl⟩
set_option maxRecDepth 20000 in
theorem mbX9_batch : ax_MB MX9_batch 0 := ⟨TB_1 1 rfl rfl, TB_3 22 rfl rfl, by decide, by decide +kernel, by decide, rfl⟩
set_option maxRecDepth 20000 in
theorem mbX0_read : ax_MB MX0_read 1 := ⟨TB_1 4 rfl rfl, TB_3 26 rfl rfl, by decide, by decide +kernel, by decide, rfl⟩
set_option maxRecDepth 20000 in
theorem mbX0_readCommand : ax_MB MX0_readCommand 1 := ⟨TB_1 4 rfl rfl, TB_3 31 rfl rfl, by decide, by decide +kernel, by decide, rfl⟩
set_option maxRecDepth 20000 in
theorem mbX0_readLong : ax_MB MX0_readLong 4 := ⟨TB_1 4 rfl rfl, TB_3 38 rfl rfl, by decide, by decide +kernel, by decide, rfl⟩
set_option maxRecDepth 20000 in
theorem mbX0_readPoolOtherThan : ax_MB MX0_readPoolOtherThan 2 := ⟨TB_1 4 rfl rfl, TB_3 43 rfl rfl, by decide, by decide +kernel, by decide, rfl⟩
set_option maxRecDepth 20000 in
theorem mbX0_addRow : ax_MB MX0_addRow 5 := ⟨TB_1 4 rfl rfl, TB_3 50 rfl rfl, by decide, by decide +kernel, by decide, rfl⟩
set_option maxRecDepth 20000 in
theorem mbX0_readShort : ax_MB MX0_readShort 3 := ⟨TB_1 4 rfl rfl, TB_3 56 rfl rfl, by decide, by decide +kernel, by decide, rfl⟩
set_option maxRecDepth 20000 in
theorem mbX5_copyFrom : ax_MB MX5_copyFrom 1 := ⟨TB_1 5 rfl rfl, TB_3 63 rfl rfl, by decide, by decide +kernel, by decide, rfl⟩
set_option maxRecDepth 20000 in
theorem mbX6_copyFrom : ax_MB MX6_copyFrom 1 := ⟨TB_1 6 rfl rfl, TB_3 67 rfl rfl, by decide, by decide +kernel, by decide, rfl⟩
set_option maxRecDepth 20000 in
theorem mbX1_copyFrom : ax_MB MX1_copyFrom 1 := ⟨TB_1 7 rfl rfl, TB_3 74 rfl rfl, by decide, by decide +kernel, by decide, rfl⟩
set_option maxRecDepth 20000 in
theorem mbX4_copyFrom : ax_MB MX4_copyFrom 1 := ⟨TB_1 8 rfl rfl, TB_3 79 rfl rfl, by decide, by decide +kernel, by decide, rfl⟩
set_option maxRecDepth 20000 in
theorem mbX7_copyFrom : ax_MB MX7_copyFrom 1 := ⟨TB_1 9 rfl rfl, TB_3 84 rfl rfl, by decide, by decide +kernel, by decide, rfl⟩
set_option maxRecDepth 20000 in
theorem mbX2_copyFrom : ax_MB MX2_copyFrom 1 := ⟨TB_1 10 rfl rfl, TB_3 89 rfl rfl, by decide, by decide +kernel, by decide, rfl⟩
set_option maxRecDepth 20000 in
theorem mbX0_carryOut : ax_MB MX0_carryOut 1 := ⟨TB_1 4 rfl rfl, TB_3 94 rfl rfl, by decide, by decide +kernel, by decide, rfl⟩
set_option maxRecDepth 20000 in
theorem mbX0_carryOutOne : ax_MB MX0_carryOutOne 2 := ⟨TB_1 4 rfl rfl, TB_3 98 rfl rfl, by decide, by decide +kernel, by decide, rfl⟩
set_option maxRecDepth 20000 in
theorem mbX5_move : ax_MB MX5_move 4 := ⟨TB_1 5 rfl rfl, TB_3 102 rfl rfl, by decide, by decide +kernel, by decide, rfl⟩
set_option maxRecDepth 20000 in
theorem mbX4_isFull : ax_MB MX4_isFull 0 := ⟨TB_1 8 rfl rfl, TB_3 106 rfl rfl, by decide, by decide +kernel, by decide, rfl⟩
set_option maxRecDepth 20000 in
theorem mbX5_obstacle : ax_MB MX5_obstacle 4 := ⟨TB_1 5 rfl rfl, TB_3 110 rfl rfl, by decide, by decide +kernel, by decide, rfl⟩
set_option maxRecDepth 20000 in
theorem mbX1_pick : ax_MB MX1_pick 3 := ⟨TB_1 7 rfl rfl, TB_3 116 rfl rfl, by decide, by decide +kernel, by decide, rfl⟩
set_option maxRecDepth 20000 in
theorem mbX1_pickHighest : ax_MB MX1_pickHighest 2 := ⟨TB_1 7 rfl rfl, TB_3 121 rfl rfl, by decide, by decide +kernel, by decide, rfl⟩
set_option maxRecDepth 20000 in
theorem mbX1_pickOldest : ax_MB MX1_pickOldest 2 := ⟨TB_1 7 rfl rfl, TB_3 125 rfl rfl, by decide, by decide +kernel, by decide, rfl⟩
set_option maxRecDepth 20000 in
theorem mbX1_nextTime : ax_MB MX1_nextTime 2 := ⟨TB_1 7 rfl rfl, TB_3 129 rfl rfl, by decide, by decide +kernel, by decide, rfl⟩
set_option maxRecDepth 20000 in
theorem mbX1_fittingStart : ax_MB MX1_fittingStart 2 := ⟨TB_1 7 rfl rfl, TB_3 133 rfl rfl, by decide, by decide +kernel, by decide, rfl⟩
set_option maxRecDepth 20000 in
theorem mbX1_endsRun : ax_MB MX1_endsRun 2 := ⟨TB_1 7 rfl rfl, TB_3 137 rfl rfl, by decide, by decide +kernel, by decide, rfl⟩
set_option maxRecDepth 20000 in
theorem mbX5_hold : ax_MB MX5_hold 4 := ⟨TB_1 5 rfl rfl, TB_3 142 rfl rfl, by decide, by decide +kernel, by decide, rfl⟩
set_option maxRecDepth 20000 in
theorem mbX7_isFull : ax_MB MX7_isFull 0 := ⟨TB_1 9 rfl rfl, TB_3 146 rfl rfl, by decide, by decide +kernel, by decide, rfl⟩
set_option maxRecDepth 20000 in
theorem mbX7_add : ax_MB MX7_add 4 := ⟨TB_1 9 rfl rfl, TB_3 150 rfl rfl, by decide, by decide +kernel, by decide, rfl⟩
set_option maxRecDepth 20000 in
theorem mbX5_pass : ax_MB MX5_pass 1 := ⟨TB_1 5 rfl rfl, TB_3 154 rfl rfl, by decide, by decide +kernel, by decide, rfl⟩
set_option maxRecDepth 20000 in
theorem mbX5_rentAfter : ax_MB MX5_rentAfter 2 := ⟨TB_1 5 rfl rfl, TB_3 159 rfl rfl, by decide, by decide +kernel, by decide, rfl⟩
set_option maxRecDepth 20000 in
theorem mbX7_expire : ax_MB MX7_expire 1 := ⟨TB_1 9 rfl rfl, TB_3 164 rfl rfl, by decide, by decide +kernel, by decide, rfl⟩
set_option maxRecDepth 20000 in
theorem mbX7_isPending : ax_MB MX7_isPending 1 := ⟨TB_1 9 rfl rfl, TB_3 168 rfl rfl, by decide, by decide +kernel, by decide, rfl⟩
set_option maxRecDepth 20000 in
theorem mbX7_value : ax_MB MX7_value 2 := ⟨TB_1 9 rfl rfl, TB_3 172 rfl rfl, by decide, by decide +kernel, by decide, rfl⟩
set_option maxRecDepth 20000 in
theorem mbX7_end : ax_MB MX7_end 2 := ⟨TB_1 9 rfl rfl, TB_3 176 rfl rfl, by decide, by decide +kernel, by decide, rfl⟩
set_option maxRecDepth 20000 in
theorem mbX5_moveBack : ax_MB MX5_moveBack 1 := ⟨TB_1 5 rfl rfl, TB_3 180 rfl rfl, by decide, by decide +kernel, by decide, rfl⟩
set_option maxRecDepth 20000 in
theorem mbX4_isReversible : ax_MB MX4_isReversible 1 := ⟨TB_1 8 rfl rfl, TB_3 184 rfl rfl, by decide, by decide +kernel, by decide, rfl⟩
set_option maxRecDepth 20000 in
theorem mbX4_value : ax_MB MX4_value 2 := ⟨TB_1 8 rfl rfl, TB_3 188 rfl rfl, by decide, by decide +kernel, by decide, rfl⟩
set_option maxRecDepth 20000 in
theorem mbX4_pickBlocks : ax_MB MX4_pickBlocks 2 := ⟨TB_1 8 rfl rfl, TB_3 193 rfl rfl, by decide, by decide +kernel, by decide, rfl⟩
set_option maxRecDepth 20000 in
theorem mbX1_allPickedAreIn : ax_MB MX1_allPickedAreIn 1 := ⟨TB_1 7 rfl rfl, TB_3 197 rfl rfl, by decide, by decide +kernel, by decide, rfl⟩
set_option maxRecDepth 20000 in
theorem mbX4_link : ax_MB MX4_link 2 := ⟨TB_1 8 rfl rfl, TB_3 201 rfl rfl, by decide, by decide +kernel, by decide, rfl⟩
set_option maxRecDepth 20000 in
theorem mbX9_blockCount : ax_MB MX9_blockCount 0 := ⟨TB_1 1 rfl rfl, TB_3 205 rfl rfl, by decide, by decide +kernel, by decide, rfl⟩
set_option maxRecDepth 20000 in
theorem mbX9_poolCount : ax_MB MX9_poolCount 0 := ⟨TB_1 1 rfl rfl, TB_3 209 rfl rfl, by decide, by decide +kernel, by decide, rfl⟩
set_option maxRecDepth 20000 in
theorem mbX9_now : ax_MB MX9_now 0 := ⟨TB_1 1 rfl rfl, TB_3 213 rfl rfl, by decide, by decide +kernel, by decide, rfl⟩
set_option maxRecDepth 20000 in
theorem mbX9_reservationCount : ax_MB MX9_reservationCount 0 := ⟨TB_1 1 rfl rfl, TB_3 217 rfl rfl, by decide, by decide +kernel, by decide, rfl⟩
set_option maxRecDepth 20000 in
theorem mbX9_nextExpiry : ax_MB MX9_nextExpiry 0 := ⟨TB_1 1 rfl rfl, TB_3 221 rfl rfl, by decide, by decide +kernel, by decide, rfl⟩
set_option maxRecDepth 20000 in
theorem mbX7_firstToExpire : ax_MB MX7_firstToExpire 0 := ⟨TB_1 9 rfl rfl, TB_3 225 rfl rfl, by decide, by decide +kernel, by decide, rfl⟩
set_option maxRecDepth 20000 in
theorem mbX9_entryCount : ax_MB MX9_entryCount 0 := ⟨TB_1 1 rfl rfl, TB_3 229 rfl rfl, by decide, by decide +kernel, by decide, rfl⟩
set_option maxRecDepth 20000 in
theorem mbX9_totalRent : ax_MB MX9_totalRent 0 := ⟨TB_1 1 rfl rfl, TB_3 233 rfl rfl, by decide, by decide +kernel, by decide, rfl⟩
set_option maxRecDepth 20000 in
theorem mbX6_sumOfRents : ax_MB MX6_sumOfRents 0 := ⟨TB_1 6 rfl rfl, TB_3 237 rfl rfl, by decide, by decide +kernel, by decide, rfl⟩
set_option maxRecDepth 20000 in
theorem mbX9_mismatches : ax_MB MX9_mismatches 0 := ⟨TB_1 1 rfl rfl, TB_4 1 rfl rfl, by decide, by decide +kernel, by decide, rfl⟩
set_option maxRecDepth 20000 in
theorem mbX5_unequalPools : ax_MB MX5_unequalPools 0 := ⟨TB_1 5 rfl rfl, TB_4 5 rfl rfl, by decide, by decide +kernel, by decide, rfl⟩
set_option maxRecDepth 20000 in
theorem mbX5_bookedIn : ax_MB MX5_bookedIn 1 := ⟨TB_1 5 rfl rfl, TB_4 9 rfl rfl, by decide, by decide +kernel, by decide, rfl⟩
set_option maxRecDepth 20000 in
theorem mbX5_opening : ax_MB MX5_opening 1 := ⟨TB_1 5 rfl rfl, TB_4 13 rfl rfl, by decide, by decide +kernel, by decide, rfl⟩
set_option maxRecDepth 20000 in
theorem mbX4_net : ax_MB MX4_net 3 := ⟨TB_1 8 rfl rfl, TB_4 17 rfl rfl, by decide, by decide +kernel, by decide, rfl⟩
set_option maxRecDepth 20000 in
theorem mbX4_change : ax_MB MX4_change 2 := ⟨TB_1 8 rfl rfl, TB_4 21 rfl rfl, by decide, by decide +kernel, by decide, rfl⟩
set_option maxRecDepth 20000 in
theorem mbX9_reconcile : ax_MB MX9_reconcile 0 := ⟨TB_1 1 rfl rfl, TB_4 25 rfl rfl, by decide, by decide +kernel, by decide, rfl⟩
set_option maxRecDepth 20000 in
theorem mbX5_adjust : ax_MB MX5_adjust 0 := ⟨TB_1 5 rfl rfl, TB_4 29 rfl rfl, by decide, by decide +kernel, by decide, rfl⟩
set_option maxRecDepth 20000 in
theorem mbX5_firstWithSurplus : ax_MB MX5_firstWithSurplus 1 := ⟨TB_1 5 rfl rfl, TB_4 33 rfl rfl, by decide, by decide +kernel, by decide, rfl⟩
set_option maxRecDepth 20000 in
theorem mbX9_checkpoint : ax_MB MX9_checkpoint 0 := ⟨TB_1 1 rfl rfl, TB_4 38 rfl rfl, by decide, by decide +kernel, by decide, rfl⟩
set_option maxRecDepth 20000 in
theorem mbX5_mark : ax_MB MX5_mark 0 := ⟨TB_1 5 rfl rfl, TB_4 42 rfl rfl, by decide, by decide +kernel, by decide, rfl⟩
set_option maxRecDepth 20000 in
theorem mbX2_add : ax_MB MX2_add 1 := ⟨TB_1 10 rfl rfl, TB_4 46 rfl rfl, by decide, by decide +kernel, by decide, rfl⟩
set_option maxRecDepth 20000 in
theorem mbX2_setBlocks : ax_MB MX2_setBlocks 3 := ⟨TB_1 10 rfl rfl, TB_4 50 rfl rfl, by decide, by decide +kernel, by decide, rfl⟩
set_option maxRecDepth 20000 in
theorem mbX9_appendByte : ax_MB MX9_appendByte 1 := ⟨TB_1 1 rfl rfl, TB_4 58 rfl rfl, by decide, by decide +kernel, by decide, rfl⟩
set_option maxRecDepth 20000 in
theorem mbX8_append : ax_MB MX8_append 1 := ⟨TB_1 2 rfl rfl, TB_4 128 rfl rfl, by decide, by decide +kernel, by decide, rfl⟩
set_option maxRecDepth 20000 in
theorem mbX9_nameByte : ax_MB MX9_nameByte 2 := ⟨TB_1 1 rfl rfl, TB_4 136 rfl rfl, by decide, by decide +kernel, by decide, rfl⟩
set_option maxRecDepth 20000 in
theorem mbX9_needPool : ax_MB MX9_needPool 1 := ⟨TB_1 1 rfl rfl, TB_4 140 rfl rfl, by decide, by decide +kernel, by decide, rfl⟩
set_option maxRecDepth 20000 in
theorem mbX6_letter : ax_MB MX6_letter 2 := ⟨TB_1 6 rfl rfl, TB_4 160 rfl rfl, by decide, by decide +kernel, by decide, rfl⟩
set_option maxRecDepth 20000 in
theorem mbX9_advance : ax_MB MX9_advance 1 := ⟨TB_1 1 rfl rfl, TB_4 167 rfl rfl, by decide, by decide +kernel, by decide, rfl⟩
set_option maxRecDepth 20000 in
theorem mbX9_needTicks : ax_MB MX9_needTicks 1 := ⟨TB_1 1 rfl rfl, TB_4 170 rfl rfl, by decide, by decide +kernel, by decide, rfl⟩
set_option maxRecDepth 20000 in
theorem mbX9_setPick : ax_MB MX9_setPick 1 := ⟨TB_1 1 rfl rfl, TB_4 179 rfl rfl, by decide, by decide +kernel, by decide, rfl⟩
set_option maxRecDepth 20000 in
theorem mbX9_transfer : ax_MB MX9_transfer 4 := ⟨TB_1 1 rfl rfl, TB_4 187 rfl rfl, by decide, by decide +kernel, by decide, rfl⟩
set_option maxRecDepth 20000 in
theorem mbX9_needTwoPools : ax_MB MX9_needTwoPools 2 := ⟨TB_1 1 rfl rfl, TB_4 191 rfl rfl, by decide, by decide +kernel, by decide, rfl⟩
set_option maxRecDepth 20000 in
theorem mbX9_needCount : ax_MB MX9_needCount 1 := ⟨TB_1 1 rfl rfl, TB_4 195 rfl rfl, by decide, by decide +kernel, by decide, rfl⟩
set_option maxRecDepth 20000 in
theorem mbX9_needReason : ax_MB MX9_needReason 1 := ⟨TB_1 1 rfl rfl, TB_4 199 rfl rfl, by decide, by decide +kernel, by decide, rfl⟩
set_option maxRecDepth 20000 in
theorem mbX9_transferBlock : ax_MB MX9_transferBlock 3 := ⟨TB_1 1 rfl rfl, TB_4 208 rfl rfl, by decide, by decide +kernel, by decide, rfl⟩
set_option maxRecDepth 20000 in
theorem mbX9_needBlock : ax_MB MX9_needBlock 1 := ⟨TB_1 1 rfl rfl, TB_4 212 rfl rfl, by decide, by decide +kernel, by decide, rfl⟩
set_option maxRecDepth 20000 in
theorem mbX5_moveBlock : ax_MB MX5_moveBlock 3 := ⟨TB_1 5 rfl rfl, TB_4 217 rfl rfl, by decide, by decide +kernel, by decide, rfl⟩
set_option maxRecDepth 20000 in
theorem mbX1_pickOne : ax_MB MX1_pickOne 1 := ⟨TB_1 7 rfl rfl, TB_4 221 rfl rfl, by decide, by decide +kernel, by decide, rfl⟩
set_option maxRecDepth 20000 in
theorem mbX9_reverse : ax_MB MX9_reverse 1 := ⟨TB_1 1 rfl rfl, TB_4 228 rfl rfl, by decide, by decide +kernel, by decide, rfl⟩
set_option maxRecDepth 20000 in
theorem mbX9_needEntry : ax_MB MX9_needEntry 1 := ⟨TB_1 1 rfl rfl, TB_4 232 rfl rfl, by decide, by decide +kernel, by decide, rfl⟩
set_option maxRecDepth 20000 in
theorem mbX9_reserve : ax_MB MX9_reserve 4 := ⟨TB_1 1 rfl rfl, TB_5 1 rfl rfl, by decide, by decide +kernel, by decide, rfl⟩
set_option maxRecDepth 20000 in
theorem mbX9_commit : ax_MB MX9_commit 2 := ⟨TB_1 1 rfl rfl, TB_5 9 rfl rfl, by decide, by decide +kernel, by decide, rfl⟩
set_option maxRecDepth 20000 in
theorem mbX9_needReservation : ax_MB MX9_needReservation 1 := ⟨TB_1 1 rfl rfl, TB_5 13 rfl rfl, by decide, by decide +kernel, by decide, rfl⟩
set_option maxRecDepth 20000 in
theorem mbX5_fulfil : ax_MB MX5_fulfil 2 := ⟨TB_1 5 rfl rfl, TB_5 18 rfl rfl, by decide, by decide +kernel, by decide, rfl⟩
set_option maxRecDepth 20000 in
theorem mbX9_release : ax_MB MX9_release 1 := ⟨TB_1 1 rfl rfl, TB_5 28 rfl rfl, by decide, by decide +kernel, by decide, rfl⟩
set_option maxRecDepth 20000 in
theorem mbX7_drop : ax_MB MX7_drop 1 := ⟨TB_1 9 rfl rfl, TB_5 32 rfl rfl, by decide, by decide +kernel, by decide, rfl⟩
set_option maxRecDepth 20000 in
theorem mbX7_pendingCount : ax_MB MX7_pendingCount 0 := ⟨TB_1 9 rfl rfl, TB_5 36 rfl rfl, by decide, by decide +kernel, by decide, rfl⟩
set_option maxRecDepth 20000 in
theorem mbX9_extend : ax_MB MX9_extend 2 := ⟨TB_1 1 rfl rfl, TB_5 43 rfl rfl, by decide, by decide +kernel, by decide, rfl⟩
set_option maxRecDepth 20000 in
theorem mbX7_prolong : ax_MB MX7_prolong 2 := ⟨TB_1 9 rfl rfl, TB_5 47 rfl rfl, by decide, by decide +kernel, by decide, rfl⟩
set_option maxRecDepth 20000 in
theorem mbX9_balance : ax_MB MX9_balance 1 := ⟨TB_1 1 rfl rfl, TB_5 54 rfl rfl, by decide, by decide +kernel, by decide, rfl⟩
set_option maxRecDepth 20000 in
theorem mbX9_booked : ax_MB MX9_booked 1 := ⟨TB_1 1 rfl rfl, TB_5 62 rfl rfl, by decide, by decide +kernel, by decide, rfl⟩
set_option maxRecDepth 20000 in
theorem mbX9_available : ax_MB MX9_available 1 := ⟨TB_1 1 rfl rfl, TB_5 70 rfl rfl, by decide, by decide +kernel, by decide, rfl⟩
set_option maxRecDepth 20000 in
theorem mbX9_room : ax_MB MX9_room 1 := ⟨TB_1 1 rfl rfl, TB_5 78 rfl rfl, by decide, by decide +kernel, by decide, rfl⟩
set_option maxRecDepth 20000 in
theorem mbX9_largestTransfer : ax_MB MX9_largestTransfer 2 := ⟨TB_1 1 rfl rfl, TB_5 86 rfl rfl, by decide, by decide +kernel, by decide, rfl⟩
set_option maxRecDepth 20000 in
theorem mbX9_poolOf : ax_MB MX9_poolOf 1 := ⟨TB_1 1 rfl rfl, TB_5 97 rfl rfl, by decide, by decide +kernel, by decide, rfl⟩
set_option maxRecDepth 20000 in
theorem mbX9_since : ax_MB MX9_since 1 := ⟨TB_1 1 rfl rfl, TB_5 104 rfl rfl, by decide, by decide +kernel, by decide, rfl⟩
set_option maxRecDepth 20000 in
theorem mbX9_blockAt : ax_MB MX9_blockAt 2 := ⟨TB_1 1 rfl rfl, TB_5 111 rfl rfl, by decide, by decide +kernel, by decide, rfl⟩
set_option maxRecDepth 20000 in
theorem mbX1_memberAt : ax_MB MX1_memberAt 2 := ⟨TB_1 7 rfl rfl, TB_5 115 rfl rfl, by decide, by decide +kernel, by decide, rfl⟩
set_option maxRecDepth 20000 in
theorem mbX9_wouldPick : ax_MB MX9_wouldPick 3 := ⟨TB_1 1 rfl rfl, TB_5 122 rfl rfl, by decide, by decide +kernel, by decide, rfl⟩
set_option maxRecDepth 20000 in
theorem mbX1_pickedAt : ax_MB MX1_pickedAt 1 := ⟨TB_1 7 rfl rfl, TB_5 127 rfl rfl, by decide, by decide +kernel, by decide, rfl⟩
set_option maxRecDepth 20000 in
theorem mbX9_runCount : ax_MB MX9_runCount 1 := ⟨TB_1 1 rfl rfl, TB_5 134 rfl rfl, by decide, by decide +kernel, by decide, rfl⟩
set_option maxRecDepth 20000 in
theorem mbX1_runsOf : ax_MB MX1_runsOf 1 := ⟨TB_1 7 rfl rfl, TB_5 138 rfl rfl, by decide, by decide +kernel, by decide, rfl⟩
set_option maxRecDepth 20000 in
theorem mbX9_longestRun : ax_MB MX9_longestRun 1 := ⟨TB_1 1 rfl rfl, TB_5 145 rfl rfl, by decide, by decide +kernel, by decide, rfl⟩
set_option maxRecDepth 20000 in
theorem mbX1_longestOf : ax_MB MX1_longestOf 1 := ⟨TB_1 7 rfl rfl, TB_5 149 rfl rfl, by decide, by decide +kernel, by decide, rfl⟩
set_option maxRecDepth 20000 in
theorem mbX9_fragmentation : ax_MB MX9_fragmentation 1 := ⟨TB_1 1 rfl rfl, TB_5 157 rfl rfl, by decide, by decide +kernel, by decide, rfl⟩
set_option maxRecDepth 20000 in
theorem mbX9_swap : ax_MB MX9_swap 2 := ⟨TB_1 1 rfl rfl, TB_5 164 rfl rfl, by decide, by decide +kernel, by decide, rfl⟩
set_option maxRecDepth 20000 in
theorem mbX1_exchange : ax_MB MX1_exchange 2 := ⟨TB_1 7 rfl rfl, TB_5 169 rfl rfl, by decide, by decide +kernel, by decide, rfl⟩
set_option maxRecDepth 20000 in
theorem mbX9_bestSwap : ax_MB MX9_bestSwap 1 := ⟨TB_1 1 rfl rfl, TB_5 176 rfl rfl, by decide, by decide +kernel, by decide, rfl⟩
set_option maxRecDepth 20000 in
theorem mbX1_bestExchange : ax_MB MX1_bestExchange 1 := ⟨TB_1 7 rfl rfl, TB_5 180 rfl rfl, by decide, by decide +kernel, by decide, rfl⟩
set_option maxRecDepth 20000 in
theorem mbX1_joinedLength : ax_MB MX1_joinedLength 3 := ⟨TB_1 7 rfl rfl, TB_5 185 rfl rfl, by decide, by decide +kernel, by decide, rfl⟩
set_option maxRecDepth 20000 in
theorem mbX9_entryValue : ax_MB MX9_entryValue 2 := ⟨TB_1 1 rfl rfl, TB_5 192 rfl rfl, by decide, by decide +kernel, by decide, rfl⟩
set_option maxRecDepth 20000 in
theorem mbX9_entryBlock : ax_MB MX9_entryBlock 2 := ⟨TB_1 1 rfl rfl, TB_5 201 rfl rfl, by decide, by decide +kernel, by decide, rfl⟩
set_option maxRecDepth 20000 in
theorem mbX9_bookedAt : ax_MB MX9_bookedAt 2 := ⟨TB_1 1 rfl rfl, TB_5 209 rfl rfl, by decide, by decide +kernel, by decide, rfl⟩
set_option maxRecDepth 20000 in
theorem mbX4_netUntil : ax_MB MX4_netUntil 2 := ⟨TB_1 8 rfl rfl, TB_5 215 rfl rfl, by decide, by decide +kernel, by decide, rfl⟩
set_option maxRecDepth 20000 in
theorem mbX9_peak : ax_MB MX9_peak 3 := ⟨TB_1 1 rfl rfl, TB_5 222 rfl rfl, by decide, by decide +kernel, by decide, rfl⟩
set_option maxRecDepth 20000 in
theorem mbX9_needInterval : ax_MB MX9_needInterval 2 := ⟨TB_1 1 rfl rfl, TB_5 225 rfl rfl, by decide, by decide +kernel, by decide, rfl⟩
set_option maxRecDepth 20000 in
theorem mbX4_greatest : ax_MB MX4_greatest 4 := ⟨TB_1 8 rfl rfl, TB_5 230 rfl rfl, by decide, by decide +kernel, by decide, rfl⟩
set_option maxRecDepth 20000 in
theorem mbX9_flow : ax_MB MX9_flow 4 := ⟨TB_1 1 rfl rfl, TB_5 238 rfl rfl, by decide, by decide +kernel, by decide, rfl⟩
set_option maxRecDepth 20000 in
theorem mbX4_sumBetween : ax_MB MX4_sumBetween 4 := ⟨TB_1 8 rfl rfl, TB_6 2 rfl rfl, by decide, by decide +kernel, by decide, rfl⟩
set_option maxRecDepth 20000 in
theorem mbX4_isWithin : ax_MB MX4_isWithin 3 := ⟨TB_1 8 rfl rfl, TB_6 6 rfl rfl, by decide, by decide +kernel, by decide, rfl⟩
set_option maxRecDepth 20000 in
theorem mbX9_reasonTotal : ax_MB MX9_reasonTotal 3 := ⟨TB_1 1 rfl rfl, TB_6 13 rfl rfl, by decide, by decide +kernel, by decide, rfl⟩
set_option maxRecDepth 20000 in
theorem mbX4_sumOfReason : ax_MB MX4_sumOfReason 3 := ⟨TB_1 8 rfl rfl, TB_6 17 rfl rfl, by decide, by decide +kernel, by decide, rfl⟩
set_option maxRecDepth 20000 in
theorem mbX4_signed : ax_MB MX4_signed 1 := ⟨TB_1 8 rfl rfl, TB_6 21 rfl rfl, by decide, by decide +kernel, by decide, rfl⟩
set_option maxRecDepth 20000 in
theorem mbX9_busiest : ax_MB MX9_busiest 2 := ⟨TB_1 1 rfl rfl, TB_6 28 rfl rfl, by decide, by decide +kernel, by decide, rfl⟩
set_option maxRecDepth 20000 in
theorem mbX5_mostMoved : ax_MB MX5_mostMoved 2 := ⟨TB_1 5 rfl rfl, TB_6 32 rfl rfl, by decide, by decide +kernel, by decide, rfl⟩
set_option maxRecDepth 20000 in
theorem mbX4_turnover : ax_MB MX4_turnover 3 := ⟨TB_1 8 rfl rfl, TB_6 36 rfl rfl, by decide, by decide +kernel, by decide, rfl⟩
set_option maxRecDepth 20000 in
theorem mbX9_reservationValue : ax_MB MX9_reservationValue 2 := ⟨TB_1 1 rfl rfl, TB_6 43 rfl rfl, by decide, by decide +kernel, by decide, rfl⟩
set_option maxRecDepth 20000 in
theorem mbX9_reservedFrom : ax_MB MX9_reservedFrom 1 := ⟨TB_1 1 rfl rfl, TB_6 51 rfl rfl, by decide, by decide +kernel, by decide, rfl⟩
set_option maxRecDepth 20000 in
theorem mbX9_whenAvailable : ax_MB MX9_whenAvailable 2 := ⟨TB_1 1 rfl rfl, TB_6 59 rfl rfl, by decide, by decide +kernel, by decide, rfl⟩
set_option maxRecDepth 20000 in
theorem mbX5_timeOfAvailable : ax_MB MX5_timeOfAvailable 2 := ⟨TB_1 5 rfl rfl, TB_6 63 rfl rfl, by decide, by decide +kernel, by decide, rfl⟩
set_option maxRecDepth 20000 in
theorem mbX7_timeOfSum : ax_MB MX7_timeOfSum 2 := ⟨TB_1 9 rfl rfl, TB_6 67 rfl rfl, by decide, by decide +kernel, by decide, rfl⟩
set_option maxRecDepth 20000 in
theorem mbX7_pendingAfter : ax_MB MX7_pendingAfter 2 := ⟨TB_1 9 rfl rfl, TB_6 71 rfl rfl, by decide, by decide +kernel, by decide, rfl⟩
set_option maxRecDepth 20000 in
theorem mbX9_rent : ax_MB MX9_rent 1 := ⟨TB_1 1 rfl rfl, TB_6 78 rfl rfl, by decide, by decide +kernel, by decide, rfl⟩
set_option maxRecDepth 20000 in
theorem mbX9_rentAhead : ax_MB MX9_rentAhead 2 := ⟨TB_1 1 rfl rfl, TB_6 85 rfl rfl, by decide, by decide +kernel, by decide, rfl⟩
set_option maxRecDepth 20000 in
theorem mbX9_corrupt : ax_MB MX9_corrupt 2 := ⟨TB_1 1 rfl rfl, TB_6 93 rfl rfl, by decide, by decide +kernel, by decide, rfl⟩
set_option maxRecDepth 20000 in
theorem mbX9_auditSet : ax_MB MX9_auditSet 2 := ⟨TB_1 1 rfl rfl, TB_6 101 rfl rfl, by decide, by decide +kernel, by decide, rfl⟩
set_option maxRecDepth 20000 in
theorem mbX9_needCheckpoints : ax_MB MX9_needCheckpoints 2 := ⟨TB_1 1 rfl rfl, TB_6 105 rfl rfl, by decide, by decide +kernel, by decide, rfl⟩
set_option maxRecDepth 20000 in
theorem mbX5_auditedPools : ax_MB MX5_auditedPools 2 := ⟨TB_1 5 rfl rfl, TB_6 110 rfl rfl, by decide, by decide +kernel, by decide, rfl⟩
set_option maxRecDepth 20000 in
theorem mbX5_auditedChange : ax_MB MX5_auditedChange 3 := ⟨TB_1 5 rfl rfl, TB_6 114 rfl rfl, by decide, by decide +kernel, by decide, rfl⟩
set_option maxRecDepth 20000 in
theorem mbX2_blocksOf : ax_MB MX2_blocksOf 2 := ⟨TB_1 10 rfl rfl, TB_6 118 rfl rfl, by decide, by decide +kernel, by decide, rfl⟩
set_option maxRecDepth 20000 in
theorem mbX2_entriesOf : ax_MB MX2_entriesOf 1 := ⟨TB_1 10 rfl rfl, TB_6 122 rfl rfl, by decide, by decide +kernel, by decide, rfl⟩
set_option maxRecDepth 20000 in
theorem mbX9_auditOf : ax_MB MX9_auditOf 3 := ⟨TB_1 1 rfl rfl, TB_6 129 rfl rfl, by decide, by decide +kernel, by decide, rfl⟩
set_option maxRecDepth 20000 in
theorem mbX9_saveSnapshot : ax_MB MX9_saveSnapshot 1 := ⟨TB_1 1 rfl rfl, TB_6 137 rfl rfl, by decide, by decide +kernel, by decide, rfl⟩
set_option maxRecDepth 20000 in
theorem mbX9_needSlot : ax_MB MX9_needSlot 1 := ⟨TB_1 1 rfl rfl, TB_6 140 rfl rfl, by decide, by decide +kernel, by decide, rfl⟩
set_option maxRecDepth 20000 in
theorem mbX9_restoreSnapshot : ax_MB MX9_restoreSnapshot 1 := ⟨TB_1 1 rfl rfl, TB_6 148 rfl rfl, by decide, by decide +kernel, by decide, rfl⟩
set_option maxRecDepth 20000 in
theorem mbX10_init : ax_MB MX10_init 0 := ⟨TB_1 11 rfl rfl, TB_6 153 rfl rfl, by decide, by decide +kernel, by decide, rfl⟩
set_option maxRecDepth 20000 in
theorem mbX10_begins : ax_MB MX10_begins 2 := ⟨TB_1 11 rfl rfl, TB_6 157 rfl rfl, by decide, by decide +kernel, by decide, rfl⟩
set_option maxRecDepth 20000 in
theorem mbX10_thrown : ax_MB MX10_thrown 0 := ⟨TB_1 11 rfl rfl, TB_6 219 rfl rfl, by decide, by decide +kernel, by decide, rfl⟩
set_option maxRecDepth 20000 in
theorem mbX10_transfer : ax_MB MX10_transfer 4 := ⟨TB_1 11 rfl rfl, TB_6 223 rfl rfl, by decide, by decide +kernel, by decide, rfl⟩
set_option maxRecDepth 20000 in
theorem mbX10_isPool : ax_MB MX10_isPool 1 := ⟨TB_1 11 rfl rfl, TB_6 227 rfl rfl, by decide, by decide +kernel, by decide, rfl⟩
set_option maxRecDepth 20000 in
theorem mbX10_in : ax_MB MX10_in 3 := ⟨TB_1 11 rfl rfl, TB_6 230 rfl rfl, by decide, by decide +kernel, by decide, rfl⟩
set_option maxRecDepth 20000 in
theorem mbX10_isThrown : ax_MB MX10_isThrown 2 := ⟨TB_1 11 rfl rfl, TB_6 234 rfl rfl, by decide, by decide +kernel, by decide, rfl⟩
set_option maxRecDepth 20000 in
theorem mbX10_transfers : ax_MB MX10_transfers 4 := ⟨TB_1 11 rfl rfl, TB_6 238 rfl rfl, by decide, by decide +kernel, by decide, rfl⟩
set_option maxRecDepth 20000 in
theorem mbX10_refusal : ax_MB MX10_refusal 3 := ⟨TB_1 11 rfl rfl, TB_7 2 rfl rfl, by decide, by decide +kernel, by decide, rfl⟩
set_option maxRecDepth 20000 in
theorem mbX10_availableOf : ax_MB MX10_availableOf 1 := ⟨TB_1 11 rfl rfl, TB_7 6 rfl rfl, by decide, by decide +kernel, by decide, rfl⟩
set_option maxRecDepth 20000 in
theorem mbX10_balanceOf : ax_MB MX10_balanceOf 1 := ⟨TB_1 11 rfl rfl, TB_7 10 rfl rfl, by decide, by decide +kernel, by decide, rfl⟩
set_option maxRecDepth 20000 in
theorem mbX10_reserved : ax_MB MX10_reserved 2 := ⟨TB_1 11 rfl rfl, TB_7 14 rfl rfl, by decide, by decide +kernel, by decide, rfl⟩
set_option maxRecDepth 20000 in
theorem mbX10_hold : ax_MB MX10_hold 2 := ⟨TB_1 11 rfl rfl, TB_7 18 rfl rfl, by decide, by decide +kernel, by decide, rfl⟩
set_option maxRecDepth 20000 in
theorem mbX10_roomOf : ax_MB MX10_roomOf 1 := ⟨TB_1 11 rfl rfl, TB_7 22 rfl rfl, by decide, by decide +kernel, by decide, rfl⟩
set_option maxRecDepth 20000 in
theorem mbX10_pool : ax_MB MX10_pool 2 := ⟨TB_1 11 rfl rfl, TB_7 26 rfl rfl, by decide, by decide +kernel, by decide, rfl⟩
set_option maxRecDepth 20000 in
theorem mbX10_picks : ax_MB MX10_picks 3 := ⟨TB_1 11 rfl rfl, TB_7 30 rfl rfl, by decide, by decide +kernel, by decide, rfl⟩
set_option maxRecDepth 20000 in
theorem mbX10_picksNone : ax_MB MX10_picksNone 0 := ⟨TB_1 11 rfl rfl, TB_7 34 rfl rfl, by decide, by decide +kernel, by decide, rfl⟩
set_option maxRecDepth 20000 in
theorem mbX10_fittingRun : ax_MB MX10_fittingRun 2 := ⟨TB_1 11 rfl rfl, TB_7 38 rfl rfl, by decide, by decide +kernel, by decide, rfl⟩
set_option maxRecDepth 20000 in
theorem mbX10_isIn : ax_MB MX10_isIn 2 := ⟨TB_1 11 rfl rfl, TB_7 42 rfl rfl, by decide, by decide +kernel, by decide, rfl⟩
set_option maxRecDepth 20000 in
theorem mbX10_nextPick : ax_MB MX10_nextPick 2 := ⟨TB_1 11 rfl rfl, TB_7 46 rfl rfl, by decide, by decide +kernel, by decide, rfl⟩
set_option maxRecDepth 20000 in
theorem mbX10_moves : ax_MB MX10_moves 6 := ⟨TB_1 11 rfl rfl, TB_7 50 rfl rfl, by decide, by decide +kernel, by decide, rfl⟩
set_option maxRecDepth 20000 in
theorem mbX10_adds : ax_MB MX10_adds 6 := ⟨TB_1 11 rfl rfl, TB_7 54 rfl rfl, by decide, by decide +kernel, by decide, rfl⟩
set_option maxRecDepth 20000 in
theorem mbX10_transferBlock : ax_MB MX10_transferBlock 3 := ⟨TB_1 11 rfl rfl, TB_7 58 rfl rfl, by decide, by decide +kernel, by decide, rfl⟩
set_option maxRecDepth 20000 in
theorem mbX10_isBlock : ax_MB MX10_isBlock 1 := ⟨TB_1 11 rfl rfl, TB_7 62 rfl rfl, by decide, by decide +kernel, by decide, rfl⟩
set_option maxRecDepth 20000 in
theorem mbX10_reverse : ax_MB MX10_reverse 1 := ⟨TB_1 11 rfl rfl, TB_7 66 rfl rfl, by decide, by decide +kernel, by decide, rfl⟩
set_option maxRecDepth 20000 in
theorem mbX10_isEntry : ax_MB MX10_isEntry 1 := ⟨TB_1 11 rfl rfl, TB_7 70 rfl rfl, by decide, by decide +kernel, by decide, rfl⟩
set_option maxRecDepth 20000 in
theorem mbX10_reverses : ax_MB MX10_reverses 1 := ⟨TB_1 11 rfl rfl, TB_7 74 rfl rfl, by decide, by decide +kernel, by decide, rfl⟩
set_option maxRecDepth 20000 in
theorem mbX10_entry : ax_MB MX10_entry 2 := ⟨TB_1 11 rfl rfl, TB_7 78 rfl rfl, by decide, by decide +kernel, by decide, rfl⟩
set_option maxRecDepth 20000 in
theorem mbX10_picksBack : ax_MB MX10_picksBack 1 := ⟨TB_1 11 rfl rfl, TB_7 82 rfl rfl, by decide, by decide +kernel, by decide, rfl⟩
set_option maxRecDepth 20000 in
theorem mbX10_hasBlock : ax_MB MX10_hasBlock 2 := ⟨TB_1 11 rfl rfl, TB_7 86 rfl rfl, by decide, by decide +kernel, by decide, rfl⟩
set_option maxRecDepth 20000 in
theorem mbX10_reserve : ax_MB MX10_reserve 4 := ⟨TB_1 11 rfl rfl, TB_7 90 rfl rfl, by decide, by decide +kernel, by decide, rfl⟩
set_option maxRecDepth 20000 in
theorem mbX10_reserves : ax_MB MX10_reserves 4 := ⟨TB_1 11 rfl rfl, TB_7 94 rfl rfl, by decide, by decide +kernel, by decide, rfl⟩
set_option maxRecDepth 20000 in
theorem mbX10_setsHold : ax_MB MX10_setsHold 3 := ⟨TB_1 11 rfl rfl, TB_7 98 rfl rfl, by decide, by decide +kernel, by decide, rfl⟩
set_option maxRecDepth 20000 in
theorem mbX10_commit : ax_MB MX10_commit 2 := ⟨TB_1 11 rfl rfl, TB_7 102 rfl rfl, by decide, by decide +kernel, by decide, rfl⟩
set_option maxRecDepth 20000 in
theorem mbX10_isHold : ax_MB MX10_isHold 1 := ⟨TB_1 11 rfl rfl, TB_7 106 rfl rfl, by decide, by decide +kernel, by decide, rfl⟩
set_option maxRecDepth 20000 in
theorem mbX10_release : ax_MB MX10_release 1 := ⟨TB_1 11 rfl rfl, TB_7 110 rfl rfl, by decide, by decide +kernel, by decide, rfl⟩
set_option maxRecDepth 20000 in
theorem mbX10_extend : ax_MB MX10_extend 2 := ⟨TB_1 11 rfl rfl, TB_7 114 rfl rfl, by decide, by decide +kernel, by decide, rfl⟩
set_option maxRecDepth 20000 in
theorem mbX10_advance : ax_MB MX10_advance 1 := ⟨TB_1 11 rfl rfl, TB_7 118 rfl rfl, by decide, by decide +kernel, by decide, rfl⟩
set_option maxRecDepth 20000 in
theorem mbX10_passes : ax_MB MX10_passes 1 := ⟨TB_1 11 rfl rfl, TB_7 122 rfl rfl, by decide, by decide +kernel, by decide, rfl⟩
set_option maxRecDepth 20000 in
theorem mbX10_rentBehind : ax_MB MX10_rentBehind 2 := ⟨TB_1 11 rfl rfl, TB_7 127 rfl rfl, by decide, by decide +kernel, by decide, rfl⟩
set_option maxRecDepth 20000 in
theorem mbX10_now : ax_MB MX10_now 0 := ⟨TB_1 11 rfl rfl, TB_7 132 rfl rfl, by decide, by decide +kernel, by decide, rfl⟩
set_option maxRecDepth 20000 in
theorem mbX10_setPick : ax_MB MX10_setPick 1 := ⟨TB_1 11 rfl rfl, TB_7 136 rfl rfl, by decide, by decide +kernel, by decide, rfl⟩
set_option maxRecDepth 20000 in
theorem mbX10_appendByte : ax_MB MX10_appendByte 1 := ⟨TB_1 11 rfl rfl, TB_7 140 rfl rfl, by decide, by decide +kernel, by decide, rfl⟩
set_option maxRecDepth 20000 in
theorem mbX10_load : ax_MB MX10_load 0 := ⟨TB_1 11 rfl rfl, TB_7 144 rfl rfl, by decide, by decide +kernel, by decide, rfl⟩
set_option maxRecDepth 20000 in
theorem mbX10_reads : ax_MB MX10_reads 0 := ⟨TB_1 11 rfl rfl, TB_7 148 rfl rfl, by decide, by decide +kernel, by decide, rfl⟩
set_option maxRecDepth 20000 in
theorem mbX10_next : ax_MB MX10_next 0 := ⟨TB_1 11 rfl rfl, TB_7 152 rfl rfl, by decide, by decide +kernel, by decide, rfl⟩
set_option maxRecDepth 20000 in
theorem mbX10_here : ax_MB MX10_here 0 := ⟨TB_1 11 rfl rfl, TB_7 156 rfl rfl, by decide, by decide +kernel, by decide, rfl⟩
set_option maxRecDepth 20000 in
theorem mbX10_isWord : ax_MB MX10_isWord 1 := ⟨TB_1 11 rfl rfl, TB_7 161 rfl rfl, by decide, by decide +kernel, by decide, rfl⟩
set_option maxRecDepth 20000 in
theorem mbX10_fails : ax_MB MX10_fails 2 := ⟨TB_1 11 rfl rfl, TB_7 167 rfl rfl, by decide, by decide +kernel, by decide, rfl⟩
set_option maxRecDepth 20000 in
theorem mbX10_number : ax_MB MX10_number 2 := ⟨TB_1 11 rfl rfl, TB_7 171 rfl rfl, by decide, by decide +kernel, by decide, rfl⟩
set_option maxRecDepth 20000 in
theorem mbX10_isMore : ax_MB MX10_isMore 0 := ⟨TB_1 11 rfl rfl, TB_7 177 rfl rfl, by decide, by decide +kernel, by decide, rfl⟩
set_option maxRecDepth 20000 in
theorem mbX10_statement : ax_MB MX10_statement 0 := ⟨TB_1 11 rfl rfl, TB_7 181 rfl rfl, by decide, by decide +kernel, by decide, rfl⟩
set_option maxRecDepth 20000 in
theorem mbX10_poolPart : ax_MB MX10_poolPart 0 := ⟨TB_1 11 rfl rfl, TB_7 186 rfl rfl, by decide, by decide +kernel, by decide, rfl⟩
set_option maxRecDepth 20000 in
theorem mbX10_findIn : ax_MB MX10_findIn 1 := ⟨TB_1 11 rfl rfl, TB_7 191 rfl rfl, by decide, by decide +kernel, by decide, rfl⟩
set_option maxRecDepth 20000 in
theorem mbX10_isNameOf : ax_MB MX10_isNameOf 2 := ⟨TB_1 11 rfl rfl, TB_7 195 rfl rfl, by decide, by decide +kernel, by decide, rfl⟩
set_option maxRecDepth 20000 in
theorem mbX10_pickPart : ax_MB MX10_pickPart 0 := ⟨TB_1 11 rfl rfl, TB_7 200 rfl rfl, by decide, by decide +kernel, by decide, rfl⟩
set_option maxRecDepth 20000 in
theorem mbX10_grantPart : ax_MB MX10_grantPart 0 := ⟨TB_1 11 rfl rfl, TB_7 209 rfl rfl, by decide, by decide +kernel, by decide, rfl⟩
set_option maxRecDepth 20000 in
theorem mbX10_known : ax_MB MX10_known 3 := ⟨TB_1 11 rfl rfl, TB_7 213 rfl rfl, by decide, by decide +kernel, by decide, rfl⟩
set_option maxRecDepth 20000 in
theorem mbX10_copies : ax_MB MX10_copies 4 := ⟨TB_1 11 rfl rfl, TB_7 216 rfl rfl, by decide, by decide +kernel, by decide, rfl⟩
set_option maxRecDepth 20000 in
theorem mbX10_textError : ax_MB MX10_textError 0 := ⟨TB_1 11 rfl rfl, TB_7 220 rfl rfl, by decide, by decide +kernel, by decide, rfl⟩
set_option maxRecDepth 20000 in
theorem mbX10_poolNamed : ax_MB MX10_poolNamed 0 := ⟨TB_1 11 rfl rfl, TB_7 224 rfl rfl, by decide, by decide +kernel, by decide, rfl⟩
set_option maxRecDepth 20000 in
theorem mbX10_batch : ax_MB MX10_batch 0 := ⟨TB_1 11 rfl rfl, TB_7 228 rfl rfl, by decide, by decide +kernel, by decide, rfl⟩
set_option maxRecDepth 20000 in
theorem mbX10_command : ax_MB MX10_command 0 := ⟨TB_1 11 rfl rfl, TB_7 232 rfl rfl, by decide, by decide +kernel, by decide, rfl⟩
set_option maxRecDepth 20000 in
theorem mbX10_pair : ax_MB MX10_pair 3 := ⟨TB_1 11 rfl rfl, TB_7 237 rfl rfl, by decide, by decide +kernel, by decide, rfl⟩
set_option maxRecDepth 20000 in
theorem mbX10_carriesOut : ax_MB MX10_carriesOut 0 := ⟨TB_1 11 rfl rfl, TB_8 4 rfl rfl, by decide, by decide +kernel, by decide, rfl⟩
set_option maxRecDepth 20000 in
theorem mbX10_copiesRents : ax_MB MX10_copiesRents 4 := ⟨TB_1 11 rfl rfl, TB_8 7 rfl rfl, by decide, by decide +kernel, by decide, rfl⟩
set_option maxRecDepth 20000 in
theorem mbX10_isDone : ax_MB MX10_isDone 1 := ⟨TB_1 11 rfl rfl, TB_8 11 rfl rfl, by decide, by decide +kernel, by decide, rfl⟩
set_option maxRecDepth 20000 in
theorem mbX10_blockCount : ax_MB MX10_blockCount 0 := ⟨TB_1 11 rfl rfl, TB_8 15 rfl rfl, by decide, by decide +kernel, by decide, rfl⟩
set_option maxRecDepth 20000 in
theorem mbX10_poolCount : ax_MB MX10_poolCount 0 := ⟨TB_1 11 rfl rfl, TB_8 19 rfl rfl, by decide, by decide +kernel, by decide, rfl⟩
set_option maxRecDepth 20000 in
theorem mbX10_nameByte : ax_MB MX10_nameByte 2 := ⟨TB_1 11 rfl rfl, TB_8 23 rfl rfl, by decide, by decide +kernel, by decide, rfl⟩
set_option maxRecDepth 20000 in
theorem mbX10_balance : ax_MB MX10_balance 1 := ⟨TB_1 11 rfl rfl, TB_8 27 rfl rfl, by decide, by decide +kernel, by decide, rfl⟩
set_option maxRecDepth 20000 in
theorem mbX10_booked : ax_MB MX10_booked 1 := ⟨TB_1 11 rfl rfl, TB_8 31 rfl rfl, by decide, by decide +kernel, by decide, rfl⟩
set_option maxRecDepth 20000 in
theorem mbX10_bookedOf : ax_MB MX10_bookedOf 1 := ⟨TB_1 11 rfl rfl, TB_8 35 rfl rfl, by decide, by decide +kernel, by decide, rfl⟩
set_option maxRecDepth 20000 in
theorem mbX10_bookedUpTo : ax_MB MX10_bookedUpTo 2 := ⟨TB_1 11 rfl rfl, TB_8 39 rfl rfl, by decide, by decide +kernel, by decide, rfl⟩
set_option maxRecDepth 20000 in
theorem mbX10_available : ax_MB MX10_available 1 := ⟨TB_1 11 rfl rfl, TB_8 43 rfl rfl, by decide, by decide +kernel, by decide, rfl⟩
set_option maxRecDepth 20000 in
theorem mbX10_room : ax_MB MX10_room 1 := ⟨TB_1 11 rfl rfl, TB_8 47 rfl rfl, by decide, by decide +kernel, by decide, rfl⟩
set_option maxRecDepth 20000 in
theorem mbX10_largestTransfer : ax_MB MX10_largestTransfer 2 := ⟨TB_1 11 rfl rfl, TB_8 51 rfl rfl, by decide, by decide +kernel, by decide, rfl⟩
set_option maxRecDepth 20000 in
theorem mbX10_poolOf : ax_MB MX10_poolOf 1 := ⟨TB_1 11 rfl rfl, TB_8 56 rfl rfl, by decide, by decide +kernel, by decide, rfl⟩
set_option maxRecDepth 20000 in
theorem mbX10_since : ax_MB MX10_since 1 := ⟨TB_1 11 rfl rfl, TB_8 60 rfl rfl, by decide, by decide +kernel, by decide, rfl⟩
set_option maxRecDepth 20000 in
theorem mbX10_blockAt : ax_MB MX10_blockAt 2 := ⟨TB_1 11 rfl rfl, TB_8 64 rfl rfl, by decide, by decide +kernel, by decide, rfl⟩
set_option maxRecDepth 20000 in
theorem mbX10_wouldPick : ax_MB MX10_wouldPick 3 := ⟨TB_1 11 rfl rfl, TB_8 68 rfl rfl, by decide, by decide +kernel, by decide, rfl⟩
set_option maxRecDepth 20000 in
theorem mbX10_runCount : ax_MB MX10_runCount 1 := ⟨TB_1 11 rfl rfl, TB_8 72 rfl rfl, by decide, by decide +kernel, by decide, rfl⟩
set_option maxRecDepth 20000 in
theorem mbX10_longestRun : ax_MB MX10_longestRun 1 := ⟨TB_1 11 rfl rfl, TB_8 76 rfl rfl, by decide, by decide +kernel, by decide, rfl⟩
set_option maxRecDepth 20000 in
theorem mbX10_longestOf : ax_MB MX10_longestOf 1 := ⟨TB_1 11 rfl rfl, TB_8 80 rfl rfl, by decide, by decide +kernel, by decide, rfl⟩
set_option maxRecDepth 20000 in
theorem mbX10_fragmentation : ax_MB MX10_fragmentation 1 := ⟨TB_1 11 rfl rfl, TB_8 84 rfl rfl, by decide, by decide +kernel, by decide, rfl⟩
set_option maxRecDepth 20000 in
theorem mbX10_swap : ax_MB MX10_swap 2 := ⟨TB_1 11 rfl rfl, TB_8 88 rfl rfl, by decide, by decide +kernel, by decide, rfl⟩
set_option maxRecDepth 20000 in
theorem mbX10_exchanges : ax_MB MX10_exchanges 3 := ⟨TB_1 11 rfl rfl, TB_8 92 rfl rfl, by decide, by decide +kernel, by decide, rfl⟩
set_option maxRecDepth 20000 in
theorem mbX10_bestSwap : ax_MB MX10_bestSwap 1 := ⟨TB_1 11 rfl rfl, TB_8 96 rfl rfl, by decide, by decide +kernel, by decide, rfl⟩
set_option maxRecDepth 20000 in
theorem mbX10_corrupt : ax_MB MX10_corrupt 2 := ⟨TB_1 11 rfl rfl, TB_8 100 rfl rfl, by decide, by decide +kernel, by decide, rfl⟩
set_option maxRecDepth 20000 in
theorem mbX10_entryCount : ax_MB MX10_entryCount 0 := ⟨TB_1 11 rfl rfl, TB_8 104 rfl rfl, by decide, by decide +kernel, by decide, rfl⟩
set_option maxRecDepth 20000 in
theorem mbX10_entryValue : ax_MB MX10_entryValue 2 := ⟨TB_1 11 rfl rfl, TB_8 108 rfl rfl, by decide, by decide +kernel, by decide, rfl⟩
set_option maxRecDepth 20000 in
theorem mbX10_entryBlock : ax_MB MX10_entryBlock 2 := ⟨TB_1 11 rfl rfl, TB_8 112 rfl rfl, by decide, by decide +kernel, by decide, rfl⟩
set_option maxRecDepth 20000 in
theorem mbX10_bookedAt : ax_MB MX10_bookedAt 2 := ⟨TB_1 11 rfl rfl, TB_8 116 rfl rfl, by decide, by decide +kernel, by decide, rfl⟩
set_option maxRecDepth 20000 in
theorem mbX10_entriesUpTo : ax_MB MX10_entriesUpTo 1 := ⟨TB_1 11 rfl rfl, TB_8 120 rfl rfl, by decide, by decide +kernel, by decide, rfl⟩
set_option maxRecDepth 20000 in
theorem mbX10_entriesBefore : ax_MB MX10_entriesBefore 1 := ⟨TB_1 11 rfl rfl, TB_8 125 rfl rfl, by decide, by decide +kernel, by decide, rfl⟩
set_option maxRecDepth 20000 in
theorem mbX10_peak : ax_MB MX10_peak 3 := ⟨TB_1 11 rfl rfl, TB_8 129 rfl rfl, by decide, by decide +kernel, by decide, rfl⟩
set_option maxRecDepth 20000 in
theorem mbX10_isInterval : ax_MB MX10_isInterval 2 := ⟨TB_1 11 rfl rfl, TB_8 132 rfl rfl, by decide, by decide +kernel, by decide, rfl⟩
set_option maxRecDepth 20000 in
theorem mbX10_flow : ax_MB MX10_flow 4 := ⟨TB_1 11 rfl rfl, TB_8 136 rfl rfl, by decide, by decide +kernel, by decide, rfl⟩
set_option maxRecDepth 20000 in
theorem mbX10_reasonTotal : ax_MB MX10_reasonTotal 3 := ⟨TB_1 11 rfl rfl, TB_8 140 rfl rfl, by decide, by decide +kernel, by decide, rfl⟩
set_option maxRecDepth 20000 in
theorem mbX10_busiest : ax_MB MX10_busiest 2 := ⟨TB_1 11 rfl rfl, TB_8 144 rfl rfl, by decide, by decide +kernel, by decide, rfl⟩
set_option maxRecDepth 20000 in
theorem mbX10_reservationCount : ax_MB MX10_reservationCount 0 := ⟨TB_1 11 rfl rfl, TB_8 148 rfl rfl, by decide, by decide +kernel, by decide, rfl⟩
set_option maxRecDepth 20000 in
theorem mbX10_reservationValue : ax_MB MX10_reservationValue 2 := ⟨TB_1 11 rfl rfl, TB_8 152 rfl rfl, by decide, by decide +kernel, by decide, rfl⟩
set_option maxRecDepth 20000 in
theorem mbX10_reservedFrom : ax_MB MX10_reservedFrom 1 := ⟨TB_1 11 rfl rfl, TB_8 156 rfl rfl, by decide, by decide +kernel, by decide, rfl⟩
set_option maxRecDepth 20000 in
theorem mbX10_nextExpiry : ax_MB MX10_nextExpiry 0 := ⟨TB_1 11 rfl rfl, TB_8 160 rfl rfl, by decide, by decide +kernel, by decide, rfl⟩
set_option maxRecDepth 20000 in
theorem mbX10_whenAvailable : ax_MB MX10_whenAvailable 2 := ⟨TB_1 11 rfl rfl, TB_8 164 rfl rfl, by decide, by decide +kernel, by decide, rfl⟩
set_option maxRecDepth 20000 in
theorem mbX10_availableAt : ax_MB MX10_availableAt 2 := ⟨TB_1 11 rfl rfl, TB_8 168 rfl rfl, by decide, by decide +kernel, by decide, rfl⟩
set_option maxRecDepth 20000 in
theorem mbX10_rent : ax_MB MX10_rent 1 := ⟨TB_1 11 rfl rfl, TB_8 172 rfl rfl, by decide, by decide +kernel, by decide, rfl⟩
set_option maxRecDepth 20000 in
theorem mbX10_totalRent : ax_MB MX10_totalRent 0 := ⟨TB_1 11 rfl rfl, TB_8 176 rfl rfl, by decide, by decide +kernel, by decide, rfl⟩
set_option maxRecDepth 20000 in
theorem mbX10_rentAhead : ax_MB MX10_rentAhead 2 := ⟨TB_1 11 rfl rfl, TB_8 180 rfl rfl, by decide, by decide +kernel, by decide, rfl⟩
set_option maxRecDepth 20000 in
theorem mbX10_mismatches : ax_MB MX10_mismatches 0 := ⟨TB_1 11 rfl rfl, TB_8 184 rfl rfl, by decide, by decide +kernel, by decide, rfl⟩
set_option maxRecDepth 20000 in
theorem mbX10_reconcile : ax_MB MX10_reconcile 0 := ⟨TB_1 11 rfl rfl, TB_8 188 rfl rfl, by decide, by decide +kernel, by decide, rfl⟩
set_option maxRecDepth 20000 in
theorem mbX10_unequal : ax_MB MX10_unequal 1 := ⟨TB_1 11 rfl rfl, TB_8 192 rfl rfl, by decide, by decide +kernel, by decide, rfl⟩
set_option maxRecDepth 20000 in
theorem mbX10_checkpoint : ax_MB MX10_checkpoint 0 := ⟨TB_1 11 rfl rfl, TB_8 196 rfl rfl, by decide, by decide +kernel, by decide, rfl⟩
set_option maxRecDepth 20000 in
theorem mbX10_auditSet : ax_MB MX10_auditSet 2 := ⟨TB_1 11 rfl rfl, TB_8 200 rfl rfl, by decide, by decide +kernel, by decide, rfl⟩
set_option maxRecDepth 20000 in
theorem mbX10_areChecks : ax_MB MX10_areChecks 2 := ⟨TB_1 11 rfl rfl, TB_8 204 rfl rfl, by decide, by decide +kernel, by decide, rfl⟩
set_option maxRecDepth 20000 in
theorem mbX10_audited : ax_MB MX10_audited 3 := ⟨TB_1 11 rfl rfl, TB_8 208 rfl rfl, by decide, by decide +kernel, by decide, rfl⟩
set_option maxRecDepth 20000 in
theorem mbX10_check : ax_MB MX10_check 2 := ⟨TB_1 11 rfl rfl, TB_8 212 rfl rfl, by decide, by decide +kernel, by decide, rfl⟩
set_option maxRecDepth 20000 in
theorem mbX10_auditOf : ax_MB MX10_auditOf 3 := ⟨TB_1 11 rfl rfl, TB_8 216 rfl rfl, by decide, by decide +kernel, by decide, rfl⟩
set_option maxRecDepth 20000 in
theorem mbX10_saveSnapshot : ax_MB MX10_saveSnapshot 1 := ⟨TB_1 11 rfl rfl, TB_8 220 rfl rfl, by decide, by decide +kernel, by decide, rfl⟩
set_option maxRecDepth 20000 in
theorem mbX10_restoreSnapshot : ax_MB MX10_restoreSnapshot 1 := ⟨TB_1 11 rfl rfl, TB_8 224 rfl rfl, by decide, by decide +kernel, by decide, rfl⟩
set_option maxRecDepth 20000 in
theorem mlL_146 : ax_CI RL 146 MX9_init 0 := ⟨⟨TB_1 25 rfl rfl, mbX9_init⟩, rfl, TB_1 26 rfl rfl⟩
set_option maxRecDepth 20000 in
theorem mlX9_18 : ax_CI RX9 18 MX3_init 1 := ⟨⟨TB_1 70 rfl rfl, mbX3_init⟩, rfl, TB_1 71 rfl rfl⟩
set_option maxRecDepth 20000 in
theorem mlX9_27 : ax_CI RX9 27 MX0_init 1 := ⟨⟨TB_1 80 rfl rfl, mbX0_init⟩, rfl, TB_1 81 rfl rfl⟩
set_option maxRecDepth 20000 in
theorem mlX9_50 : ax_CV RX9 50 MX5_begin 1 := ⟨⟨TB_2 7 rfl rfl, mbX5_begin⟩, TB_2 8 rfl rfl, TB_2 9 rfl rfl⟩
set_option maxRecDepth 20000 in
theorem mlX5_57 : ax_CV RX5 57 MX6_begin 1 := ⟨⟨TB_2 11 rfl rfl, mbX6_begin⟩, TB_2 12 rfl rfl, TB_2 13 rfl rfl⟩
set_option maxRecDepth 20000 in
theorem mlX6_35 : ax_CV RX6 35 MX6_open 3 := ⟨⟨TB_2 17 rfl rfl, mbX6_open⟩, TB_2 18 rfl rfl, TB_2 19 rfl rfl⟩
set_option maxRecDepth 20000 in
theorem mlX6_39 : ax_CV RX6 39 MX6_setTerms 3 := ⟨⟨TB_2 21 rfl rfl, mbX6_setTerms⟩, TB_2 22 rfl rfl, TB_2 23 rfl rfl⟩
set_option maxRecDepth 20000 in
theorem mlX5_61 : ax_CV RX5 61 MX1_begin 1 := ⟨⟨TB_2 25 rfl rfl, mbX1_begin⟩, TB_2 26 rfl rfl, TB_2 27 rfl rfl⟩
set_option maxRecDepth 20000 in
theorem mlX1_26 : ax_CV RX1 26 MX1_put 3 := ⟨⟨TB_2 29 rfl rfl, mbX1_put⟩, TB_2 30 rfl rfl, TB_2 31 rfl rfl⟩
set_option maxRecDepth 20000 in
theorem mlL_160 : ax_CV RL 160 MX9_load 0 := ⟨⟨TB_2 55 rfl rfl, mbX9_load⟩, TB_2 56 rfl rfl, TB_2 57 rfl rfl⟩
set_option maxRecDepth 20000 in
theorem mlX9_65 : ax_CV RX9 65 MX3_readInto 1 := ⟨⟨TB_2 59 rfl rfl, mbX3_readInto⟩, TB_2 60 rfl rfl, TB_2 61 rfl rfl⟩
set_option maxRecDepth 20000 in
theorem mlX3_15 : ax_CV RX3 15 MX8_rewind 0 := ⟨⟨TB_2 63 rfl rfl, mbX8_rewind⟩, TB_2 64 rfl rfl, TB_2 65 rfl rfl⟩
set_option maxRecDepth 20000 in
theorem mlX3_20 : ax_CV RX3 20 MX3_readBlocks 1 := ⟨⟨TB_2 67 rfl rfl, mbX3_readBlocks⟩, TB_2 69 rfl rfl, TP_1 0 rfl rfl⟩
set_option maxRecDepth 20000 in
theorem mlX3_34 : ax_CV RX3 34 MX8_readWord 0 := ⟨⟨TB_2 71 rfl rfl, mbX8_readWord⟩, TB_2 72 rfl rfl, TB_2 73 rfl rfl⟩
set_option maxRecDepth 20000 in
theorem mlX8_34 : ax_CV RX8 34 MX8_next 0 := ⟨⟨TB_2 75 rfl rfl, mbX8_next⟩, TB_2 77 rfl rfl, TP_1 1 rfl rfl⟩
set_option maxRecDepth 20000 in
theorem mlX8_37 : ax_CV RX8 37 MX8_fail 1 := ⟨⟨TB_2 79 rfl rfl, mbX8_fail⟩, TB_2 80 rfl rfl, TB_2 81 rfl rfl⟩
set_option maxRecDepth 20000 in
theorem mlX3_39 : ax_CV RX3 39 MX8_isWord 1 := ⟨⟨TB_2 84 rfl rfl, mbX8_isWord⟩, TB_2 85 rfl rfl, TB_2 86 rfl rfl⟩
set_option maxRecDepth 20000 in
theorem mlX8_47 : ax_CV RX8 47 MX8_wordLength 0 := ⟨⟨TB_2 88 rfl rfl, mbX8_wordLength⟩, TB_2 89 rfl rfl, TB_2 90 rfl rfl⟩
set_option maxRecDepth 20000 in
theorem mlX8_51 : ax_CV RX8 51 MJ0_length_8abf5 0 := ⟨⟨TB_2 92 rfl rfl, mbJ0_length_8abf5⟩, TB_2 93 rfl rfl, TB_2 94 rfl rfl⟩
set_option maxRecDepth 20000 in
theorem mlJ0_335 : ax_CV RJ0 335 MJ0_coder_7d493 0 := ⟨⟨TB_2 96 rfl rfl, mbJ0_coder_7d493⟩, TB_2 97 rfl rfl, TB_2 98 rfl rfl⟩
set_option maxRecDepth 20000 in
theorem mlX8_55 : ax_CV RX8 55 MJ0_charAt_5068e 1 := ⟨⟨TB_2 102 rfl rfl, mbJ0_charAt_5068e⟩, TB_2 103 rfl rfl, TB_2 104 rfl rfl⟩
set_option maxRecDepth 20000 in
theorem mlJ0_492 : ax_CV RJ0 492 MJ0_isLatin1_aae02 0 := ⟨⟨TB_2 106 rfl rfl, mbJ0_isLatin1_aae02⟩, TB_2 107 rfl rfl, TB_2 108 rfl rfl⟩
set_option maxRecDepth 20000 in
theorem mlJ0_495 : ax_CS RJ0 495 MJ1_charAt_3b067 2 := ⟨⟨TB_2 110 rfl rfl, mbJ1_charAt_3b067⟩, TB_2 111 rfl rfl⟩
set_option maxRecDepth 20000 in
theorem mlJ1_9 : ax_CS RJ1 9 MJ0_checkIndex_df160 2 := ⟨⟨TB_2 113 rfl rfl, mbJ0_checkIndex_df160⟩, TB_2 114 rfl rfl⟩
set_option maxRecDepth 20000 in
theorem mlJ0_1059 : ax_CS RJ0 1059 MJ3_checkIndex_8e157 3 := ⟨⟨TB_2 118 rfl rfl, mbJ3_checkIndex_8e157⟩, TB_2 119 rfl rfl⟩
set_option maxRecDepth 20000 in
theorem mlJ0_498 : ax_CS RJ0 498 MJ2_charAt_3b067 2 := ⟨⟨TB_2 121 rfl rfl, mbJ2_charAt_3b067⟩, TB_2 122 rfl rfl⟩
set_option maxRecDepth 20000 in
theorem mlJ2_67 : ax_CS RJ2 67 MJ2_checkIndex_2214a 2 := ⟨⟨TB_2 124 rfl rfl, mbJ2_checkIndex_2214a⟩, TB_2 125 rfl rfl⟩
set_option maxRecDepth 20000 in
theorem mlJ2_48 : ax_CS RJ2 48 MJ2_length_9d52b 1 := ⟨⟨TB_2 127 rfl rfl, mbJ2_length_9d52b⟩, TB_2 128 rfl rfl⟩
set_option maxRecDepth 20000 in
theorem mlJ2_414 : ax_CS RJ2 414 MJ0_checkIndex_df160 2 := ⟨⟨TB_2 130 rfl rfl, mbJ0_checkIndex_df160⟩, TB_2 114 rfl rfl⟩
set_option maxRecDepth 20000 in
theorem mlJ2_71 : ax_CS RJ2 71 MJ2_getChar_3b067 2 := ⟨⟨TB_2 131 rfl rfl, mbJ2_getChar_3b067⟩, TB_2 132 rfl rfl⟩
set_option maxRecDepth 20000 in
theorem mlX3_43 : ax_CV RX3 43 MX8_fail 1 := ⟨⟨TB_2 140 rfl rfl, mbX8_fail⟩, TB_2 80 rfl rfl, TB_2 81 rfl rfl⟩
set_option maxRecDepth 20000 in
theorem mlX3_47 : ax_CV RX3 47 MX8_readNumber 2 := ⟨⟨TB_2 141 rfl rfl, mbX8_readNumber⟩, TB_2 142 rfl rfl, TB_2 143 rfl rfl⟩
set_option maxRecDepth 20000 in
theorem mlX3_51 : ax_CV RX3 51 MX5_begin 1 := ⟨⟨TB_2 148 rfl rfl, mbX5_begin⟩, TB_2 8 rfl rfl, TB_2 9 rfl rfl⟩
set_option maxRecDepth 20000 in
theorem mlX3_24 : ax_CV RX3 24 MX8_readSemicolon 0 := ⟨⟨TB_2 149 rfl rfl, mbX8_readSemicolon⟩, TB_2 150 rfl rfl, TB_2 151 rfl rfl⟩
set_option maxRecDepth 20000 in
theorem mlX3_28 : ax_CV RX3 28 MX3_readStatement 1 := ⟨⟨TB_2 153 rfl rfl, mbX3_readStatement⟩, TB_2 155 rfl rfl, TP_1 2 rfl rfl⟩
set_option maxRecDepth 20000 in
theorem mlX3_63 : ax_CV RX3 63 MX3_readPool 1 := ⟨⟨TB_2 158 rfl rfl, mbX3_readPool⟩, TB_2 160 rfl rfl, TP_1 3 rfl rfl⟩
set_option maxRecDepth 20000 in
theorem mlX3_83 : ax_CV RX3 83 MX8_wordLength 0 := ⟨⟨TB_2 162 rfl rfl, mbX8_wordLength⟩, TB_2 89 rfl rfl, TB_2 90 rfl rfl⟩
set_option maxRecDepth 20000 in
theorem mlX3_96 : ax_CV RX3 96 MX6_find 3 := ⟨⟨TB_2 164 rfl rfl, mbX6_find⟩, TB_2 165 rfl rfl, TB_2 166 rfl rfl⟩
set_option maxRecDepth 20000 in
theorem mlX6_43 : ax_CV RX6 43 MX6_hasName 3 := ⟨⟨TB_2 168 rfl rfl, mbX6_hasName⟩, TB_2 170 rfl rfl, TP_1 4 rfl rfl⟩
set_option maxRecDepth 20000 in
theorem mlX3_100 : ax_CV RX3 100 MX6_open 3 := ⟨⟨TB_2 172 rfl rfl, mbX6_open⟩, TB_2 18 rfl rfl, TB_2 19 rfl rfl⟩
set_option maxRecDepth 20000 in
theorem mlX3_103 : ax_CV RX3 103 MX6_setTerms 3 := ⟨⟨TB_2 173 rfl rfl, mbX6_setTerms⟩, TB_2 22 rfl rfl, TB_2 23 rfl rfl⟩
set_option maxRecDepth 20000 in
theorem mlX3_69 : ax_CV RX3 69 MX3_readPick 1 := ⟨⟨TB_2 175 rfl rfl, mbX3_readPick⟩, TB_2 177 rfl rfl, TP_1 5 rfl rfl⟩
set_option maxRecDepth 20000 in
theorem mlX3_74 : ax_CV RX3 74 MX3_readGrant 1 := ⟨⟨TB_2 184 rfl rfl, mbX3_readGrant⟩, TB_2 186 rfl rfl, TP_1 6 rfl rfl⟩
set_option maxRecDepth 20000 in
theorem mlX3_118 : ax_CV RX3 118 MX5_availableIn 1 := ⟨⟨TB_2 188 rfl rfl, mbX5_availableIn⟩, TB_2 189 rfl rfl, TB_2 190 rfl rfl⟩
set_option maxRecDepth 20000 in
theorem mlX5_83 : ax_CV RX5 83 MX1_countIn 1 := ⟨⟨TB_2 192 rfl rfl, mbX1_countIn⟩, TB_2 193 rfl rfl, TB_2 194 rfl rfl⟩
set_option maxRecDepth 20000 in
theorem mlX5_87 : ax_CV RX5 87 MX7_pendingSum 2 := ⟨⟨TB_2 196 rfl rfl, mbX7_pendingSum⟩, TB_2 197 rfl rfl, TB_2 198 rfl rfl⟩
set_option maxRecDepth 20000 in
theorem mlX3_122 : ax_CV RX3 122 MX5_roomIn 1 := ⟨⟨TB_2 200 rfl rfl, mbX5_roomIn⟩, TB_2 201 rfl rfl, TB_2 202 rfl rfl⟩
set_option maxRecDepth 20000 in
theorem mlX3_130 : ax_CV RX3 130 MX5_grant 2 := ⟨⟨TB_2 205 rfl rfl, mbX5_grant⟩, TB_2 206 rfl rfl, TB_2 207 rfl rfl⟩
set_option maxRecDepth 20000 in
theorem mlX5_102 : ax_CV RX5 102 MX1_pickNothing 0 := ⟨⟨TB_2 209 rfl rfl, mbX1_pickNothing⟩, TB_2 210 rfl rfl, TB_2 211 rfl rfl⟩
set_option maxRecDepth 20000 in
theorem mlX5_105 : ax_CV RX5 105 MX1_pickLowest 3 := ⟨⟨TB_2 213 rfl rfl, mbX1_pickLowest⟩, TB_2 214 rfl rfl, TB_2 215 rfl rfl⟩
set_option maxRecDepth 20000 in
theorem mlX5_109 : ax_CV RX5 109 MX5_book 5 := ⟨⟨TB_2 217 rfl rfl, mbX5_book⟩, TB_2 219 rfl rfl, TP_1 7 rfl rfl⟩
set_option maxRecDepth 20000 in
theorem mlX5_157 : ax_CV RX5 157 MX4_add 6 := ⟨⟨TB_2 221 rfl rfl, mbX4_add⟩, TB_2 222 rfl rfl, TB_2 223 rfl rfl⟩
set_option maxRecDepth 20000 in
theorem mlX5_161 : ax_CV RX5 161 MX4_keepBlocks 2 := ⟨⟨TB_2 225 rfl rfl, mbX4_keepBlocks⟩, TB_2 226 rfl rfl, TB_2 227 rfl rfl⟩
set_option maxRecDepth 20000 in
theorem mlX5_164 : ax_CV RX5 164 MX1_putPicked 2 := ⟨⟨TB_2 229 rfl rfl, mbX1_putPicked⟩, TB_2 230 rfl rfl, TB_2 231 rfl rfl⟩
set_option maxRecDepth 20000 in
theorem mlX3_31 : ax_CV RX3 31 MX8_isAtEnd 0 := ⟨⟨TB_2 233 rfl rfl, mbX8_isAtEnd⟩, TB_2 234 rfl rfl, TB_2 235 rfl rfl⟩
set_option maxRecDepth 20000 in
theorem mlX9_69 : ax_CV RX9 69 MX9_endReading 0 := ⟨⟨TB_2 237 rfl rfl, mbX9_endReading⟩, TB_2 239 rfl rfl, TP_1 8 rfl rfl⟩
set_option maxRecDepth 20000 in
theorem mlX9_96 : ax_CV RX9 96 MX8_clear 0 := ⟨⟨TB_3 1 rfl rfl, mbX8_clear⟩, TB_3 2 rfl rfl, TB_3 3 rfl rfl⟩
set_option maxRecDepth 20000 in
theorem mlX9_73 : ax_CV RX9 73 MX9_useDraft 0 := ⟨⟨TB_3 5 rfl rfl, mbX9_useDraft⟩, TB_3 7 rfl rfl, TP_1 9 rfl rfl⟩
set_option maxRecDepth 20000 in
theorem mlL_164 : ax_CV RL 164 MX9_textError 0 := ⟨⟨TB_3 10 rfl rfl, mbX9_textError⟩, TB_3 11 rfl rfl, TB_3 12 rfl rfl⟩
set_option maxRecDepth 20000 in
theorem mlL_168 : ax_CV RL 168 MX9_poolNamed 0 := ⟨⟨TB_3 14 rfl rfl, mbX9_poolNamed⟩, TB_3 15 rfl rfl, TB_3 16 rfl rfl⟩
set_option maxRecDepth 20000 in
theorem mlX9_92 : ax_CV RX9 92 MX6_find 3 := ⟨⟨TB_3 18 rfl rfl, mbX6_find⟩, TB_2 165 rfl rfl, TB_2 166 rfl rfl⟩
set_option maxRecDepth 20000 in
theorem mlL_217 : ax_CV RL 217 MX9_batch 0 := ⟨⟨TB_3 19 rfl rfl, mbX9_batch⟩, TB_3 20 rfl rfl, TB_3 21 rfl rfl⟩
set_option maxRecDepth 20000 in
theorem mlX9_99 : ax_CV RX9 99 MX0_read 1 := ⟨⟨TB_3 23 rfl rfl, mbX0_read⟩, TB_3 24 rfl rfl, TB_3 25 rfl rfl⟩
set_option maxRecDepth 20000 in
theorem mlX0_23 : ax_CV RX0 23 MX8_rewind 0 := ⟨⟨TB_3 27 rfl rfl, mbX8_rewind⟩, TB_2 64 rfl rfl, TB_2 65 rfl rfl⟩
set_option maxRecDepth 20000 in
theorem mlX0_28 : ax_CV RX0 28 MX0_readCommand 1 := ⟨⟨TB_3 28 rfl rfl, mbX0_readCommand⟩, TB_3 30 rfl rfl, TP_1 10 rfl rfl⟩
set_option maxRecDepth 20000 in
theorem mlX0_43 : ax_CV RX0 43 MX8_readWord 0 := ⟨⟨TB_3 32 rfl rfl, mbX8_readWord⟩, TB_2 72 rfl rfl, TB_2 73 rfl rfl⟩
set_option maxRecDepth 20000 in
theorem mlX0_48 : ax_CV RX0 48 MX8_isWord 1 := ⟨⟨TB_3 34 rfl rfl, mbX8_isWord⟩, TB_2 85 rfl rfl, TB_2 86 rfl rfl⟩
set_option maxRecDepth 20000 in
theorem mlX0_52 : ax_CV RX0 52 MX0_readLong 4 := ⟨⟨TB_3 35 rfl rfl, mbX0_readLong⟩, TB_3 37 rfl rfl, TP_1 11 rfl rfl⟩
set_option maxRecDepth 20000 in
theorem mlX0_70 : ax_CV RX0 70 MX8_readNumber 2 := ⟨⟨TB_3 39 rfl rfl, mbX8_readNumber⟩, TB_2 142 rfl rfl, TB_2 143 rfl rfl⟩
set_option maxRecDepth 20000 in
theorem mlX0_74 : ax_CV RX0 74 MX0_readPoolOtherThan 2 := ⟨⟨TB_3 40 rfl rfl, mbX0_readPoolOtherThan⟩, TB_3 42 rfl rfl, TP_1 12 rfl rfl⟩
set_option maxRecDepth 20000 in
theorem mlX0_88 : ax_CV RX0 88 MX8_wordLength 0 := ⟨⟨TB_3 44 rfl rfl, mbX8_wordLength⟩, TB_2 89 rfl rfl, TB_2 90 rfl rfl⟩
set_option maxRecDepth 20000 in
theorem mlX0_92 : ax_CV RX0 92 MX6_find 3 := ⟨⟨TB_3 45 rfl rfl, mbX6_find⟩, TB_2 165 rfl rfl, TB_2 166 rfl rfl⟩
set_option maxRecDepth 20000 in
theorem mlX0_66 : ax_CV RX0 66 MX8_fail 1 := ⟨⟨TB_3 46 rfl rfl, mbX8_fail⟩, TB_2 80 rfl rfl, TB_2 81 rfl rfl⟩
set_option maxRecDepth 20000 in
theorem mlX0_78 : ax_CV RX0 78 MX0_addRow 5 := ⟨⟨TB_3 47 rfl rfl, mbX0_addRow⟩, TB_3 49 rfl rfl, TP_1 13 rfl rfl⟩
set_option maxRecDepth 20000 in
theorem mlX0_60 : ax_CV RX0 60 MX0_readShort 3 := ⟨⟨TB_3 53 rfl rfl, mbX0_readShort⟩, TB_3 55 rfl rfl, TP_1 14 rfl rfl⟩
set_option maxRecDepth 20000 in
theorem mlX0_32 : ax_CV RX0 32 MX8_readSemicolon 0 := ⟨⟨TB_3 58 rfl rfl, mbX8_readSemicolon⟩, TB_2 150 rfl rfl, TB_2 151 rfl rfl⟩
set_option maxRecDepth 20000 in
theorem mlX0_36 : ax_CV RX0 36 MX8_isAtEnd 0 := ⟨⟨TB_3 59 rfl rfl, mbX8_isAtEnd⟩, TB_2 234 rfl rfl, TB_2 235 rfl rfl⟩
set_option maxRecDepth 20000 in
theorem mlX9_103 : ax_CV RX9 103 MX5_copyFrom 1 := ⟨⟨TB_3 60 rfl rfl, mbX5_copyFrom⟩, TB_3 61 rfl rfl, TB_3 62 rfl rfl⟩
set_option maxRecDepth 20000 in
theorem mlX5_67 : ax_CV RX5 67 MX6_copyFrom 1 := ⟨⟨TB_3 64 rfl rfl, mbX6_copyFrom⟩, TB_3 65 rfl rfl, TB_3 66 rfl rfl⟩
set_option maxRecDepth 20000 in
theorem mlX5_71 : ax_CV RX5 71 MX1_copyFrom 1 := ⟨⟨TB_3 71 rfl rfl, mbX1_copyFrom⟩, TB_3 72 rfl rfl, TB_3 73 rfl rfl⟩
set_option maxRecDepth 20000 in
theorem mlX5_74 : ax_CV RX5 74 MX4_copyFrom 1 := ⟨⟨TB_3 76 rfl rfl, mbX4_copyFrom⟩, TB_3 77 rfl rfl, TB_3 78 rfl rfl⟩
set_option maxRecDepth 20000 in
theorem mlX5_77 : ax_CV RX5 77 MX7_copyFrom 1 := ⟨⟨TB_3 81 rfl rfl, mbX7_copyFrom⟩, TB_3 82 rfl rfl, TB_3 83 rfl rfl⟩
set_option maxRecDepth 20000 in
theorem mlX5_80 : ax_CV RX5 80 MX2_copyFrom 1 := ⟨⟨TB_3 86 rfl rfl, mbX2_copyFrom⟩, TB_3 87 rfl rfl, TB_3 88 rfl rfl⟩
set_option maxRecDepth 20000 in
theorem mlX9_107 : ax_CV RX9 107 MX0_carryOut 1 := ⟨⟨TB_3 91 rfl rfl, mbX0_carryOut⟩, TB_3 92 rfl rfl, TB_3 93 rfl rfl⟩
set_option maxRecDepth 20000 in
theorem mlX0_39 : ax_CV RX0 39 MX0_carryOutOne 2 := ⟨⟨TB_3 95 rfl rfl, mbX0_carryOutOne⟩, TB_3 97 rfl rfl, TP_1 15 rfl rfl⟩
set_option maxRecDepth 20000 in
theorem mlX0_98 : ax_CV RX0 98 MX5_move 4 := ⟨⟨TB_3 99 rfl rfl, mbX5_move⟩, TB_3 100 rfl rfl, TB_3 101 rfl rfl⟩
set_option maxRecDepth 20000 in
theorem mlX5_113 : ax_CV RX5 113 MX4_isFull 0 := ⟨⟨TB_3 103 rfl rfl, mbX4_isFull⟩, TB_3 104 rfl rfl, TB_3 105 rfl rfl⟩
set_option maxRecDepth 20000 in
theorem mlX5_117 : ax_CV RX5 117 MX5_obstacle 4 := ⟨⟨TB_3 107 rfl rfl, mbX5_obstacle⟩, TB_3 109 rfl rfl, TP_2 0 rfl rfl⟩
set_option maxRecDepth 20000 in
theorem mlX5_151 : ax_CV RX5 151 MX5_availableIn 1 := ⟨⟨TB_3 111 rfl rfl, mbX5_availableIn⟩, TB_2 189 rfl rfl, TB_2 190 rfl rfl⟩
set_option maxRecDepth 20000 in
theorem mlX5_154 : ax_CV RX5 154 MX5_roomIn 1 := ⟨⟨TB_3 112 rfl rfl, mbX5_roomIn⟩, TB_2 201 rfl rfl, TB_2 202 rfl rfl⟩
set_option maxRecDepth 20000 in
theorem mlX5_121 : ax_CV RX5 121 MX1_pick 3 := ⟨⟨TB_3 113 rfl rfl, mbX1_pick⟩, TB_3 114 rfl rfl, TB_3 115 rfl rfl⟩
set_option maxRecDepth 20000 in
theorem mlX1_36 : ax_CV RX1 36 MX1_pickNothing 0 := ⟨⟨TB_3 117 rfl rfl, mbX1_pickNothing⟩, TB_2 210 rfl rfl, TB_2 211 rfl rfl⟩
set_option maxRecDepth 20000 in
theorem mlX1_39 : ax_CV RX1 39 MX1_pickHighest 2 := ⟨⟨TB_3 118 rfl rfl, mbX1_pickHighest⟩, TB_3 120 rfl rfl, TP_2 1 rfl rfl⟩
set_option maxRecDepth 20000 in
theorem mlX1_43 : ax_CV RX1 43 MX1_pickOldest 2 := ⟨⟨TB_3 122 rfl rfl, mbX1_pickOldest⟩, TB_3 124 rfl rfl, TP_2 2 rfl rfl⟩
set_option maxRecDepth 20000 in
theorem mlX1_53 : ax_CV RX1 53 MX1_nextTime 2 := ⟨⟨TB_3 126 rfl rfl, mbX1_nextTime⟩, TB_3 128 rfl rfl, TP_2 3 rfl rfl⟩
set_option maxRecDepth 20000 in
theorem mlX1_46 : ax_CV RX1 46 MX1_fittingStart 2 := ⟨⟨TB_3 130 rfl rfl, mbX1_fittingStart⟩, TB_3 132 rfl rfl, TP_2 4 rfl rfl⟩
set_option maxRecDepth 20000 in
theorem mlX1_56 : ax_CV RX1 56 MX1_endsRun 2 := ⟨⟨TB_3 134 rfl rfl, mbX1_endsRun⟩, TB_3 136 rfl rfl, TP_2 5 rfl rfl⟩
set_option maxRecDepth 20000 in
theorem mlX1_50 : ax_CV RX1 50 MX1_pickLowest 3 := ⟨⟨TB_3 138 rfl rfl, mbX1_pickLowest⟩, TB_2 214 rfl rfl, TB_2 215 rfl rfl⟩
set_option maxRecDepth 20000 in
theorem mlX0_103 : ax_CV RX0 103 MX5_hold 4 := ⟨⟨TB_3 139 rfl rfl, mbX5_hold⟩, TB_3 140 rfl rfl, TB_3 141 rfl rfl⟩
set_option maxRecDepth 20000 in
theorem mlX5_171 : ax_CV RX5 171 MX7_isFull 0 := ⟨⟨TB_3 143 rfl rfl, mbX7_isFull⟩, TB_3 144 rfl rfl, TB_3 145 rfl rfl⟩
set_option maxRecDepth 20000 in
theorem mlX5_172 : ax_CV RX5 172 MX7_add 4 := ⟨⟨TB_3 147 rfl rfl, mbX7_add⟩, TB_3 148 rfl rfl, TB_3 149 rfl rfl⟩
set_option maxRecDepth 20000 in
theorem mlX0_105 : ax_CV RX0 105 MX5_pass 1 := ⟨⟨TB_3 151 rfl rfl, mbX5_pass⟩, TB_3 152 rfl rfl, TB_3 153 rfl rfl⟩
set_option maxRecDepth 20000 in
theorem mlX5_189 : ax_CV RX5 189 MX5_rentAfter 2 := ⟨⟨TB_3 156 rfl rfl, mbX5_rentAfter⟩, TB_3 157 rfl rfl, TB_3 158 rfl rfl⟩
set_option maxRecDepth 20000 in
theorem mlX5_193 : ax_CV RX5 193 MX7_expire 1 := ⟨⟨TB_3 161 rfl rfl, mbX7_expire⟩, TB_3 162 rfl rfl, TB_3 163 rfl rfl⟩
set_option maxRecDepth 20000 in
theorem mlX7_23 : ax_CV RX7 23 MX7_isPending 1 := ⟨⟨TB_3 165 rfl rfl, mbX7_isPending⟩, TB_3 166 rfl rfl, TB_3 167 rfl rfl⟩
set_option maxRecDepth 20000 in
theorem mlX7_19 : ax_CV RX7 19 MX7_value 2 := ⟨⟨TB_3 169 rfl rfl, mbX7_value⟩, TB_3 170 rfl rfl, TB_3 171 rfl rfl⟩
set_option maxRecDepth 20000 in
theorem mlX7_27 : ax_CV RX7 27 MX7_end 2 := ⟨⟨TB_3 173 rfl rfl, mbX7_end⟩, TB_3 174 rfl rfl, TB_3 175 rfl rfl⟩
set_option maxRecDepth 20000 in
theorem mlX0_116 : ax_CV RX0 116 MX5_moveBack 1 := ⟨⟨TB_3 177 rfl rfl, mbX5_moveBack⟩, TB_3 178 rfl rfl, TB_3 179 rfl rfl⟩
set_option maxRecDepth 20000 in
theorem mlX5_129 : ax_CV RX5 129 MX4_isReversible 1 := ⟨⟨TB_3 181 rfl rfl, mbX4_isReversible⟩, TB_3 182 rfl rfl, TB_3 183 rfl rfl⟩
set_option maxRecDepth 20000 in
theorem mlX4_23 : ax_CV RX4 23 MX4_value 2 := ⟨⟨TB_3 185 rfl rfl, mbX4_value⟩, TB_3 186 rfl rfl, TB_3 187 rfl rfl⟩
set_option maxRecDepth 20000 in
theorem mlX5_133 : ax_CV RX5 133 MX4_value 2 := ⟨⟨TB_3 189 rfl rfl, mbX4_value⟩, TB_3 186 rfl rfl, TB_3 187 rfl rfl⟩
set_option maxRecDepth 20000 in
theorem mlX5_140 : ax_CV RX5 140 MX4_pickBlocks 2 := ⟨⟨TB_3 190 rfl rfl, mbX4_pickBlocks⟩, TB_3 191 rfl rfl, TB_3 192 rfl rfl⟩
set_option maxRecDepth 20000 in
theorem mlX5_144 : ax_CV RX5 144 MX1_allPickedAreIn 1 := ⟨⟨TB_3 194 rfl rfl, mbX1_allPickedAreIn⟩, TB_3 195 rfl rfl, TB_3 196 rfl rfl⟩
set_option maxRecDepth 20000 in
theorem mlX5_147 : ax_CV RX5 147 MX4_link 2 := ⟨⟨TB_3 198 rfl rfl, mbX4_link⟩, TB_3 199 rfl rfl, TB_3 200 rfl rfl⟩
set_option maxRecDepth 20000 in
theorem mlL_172 : ax_CV RL 172 MX9_blockCount 0 := ⟨⟨TB_3 202 rfl rfl, mbX9_blockCount⟩, TB_3 203 rfl rfl, TB_3 204 rfl rfl⟩
set_option maxRecDepth 20000 in
theorem mlL_176 : ax_CV RL 176 MX9_poolCount 0 := ⟨⟨TB_3 206 rfl rfl, mbX9_poolCount⟩, TB_3 207 rfl rfl, TB_3 208 rfl rfl⟩
set_option maxRecDepth 20000 in
theorem mlL_184 : ax_CV RL 184 MX9_now 0 := ⟨⟨TB_3 210 rfl rfl, mbX9_now⟩, TB_3 211 rfl rfl, TB_3 212 rfl rfl⟩
set_option maxRecDepth 20000 in
theorem mlL_289 : ax_CV RL 289 MX9_reservationCount 0 := ⟨⟨TB_3 214 rfl rfl, mbX9_reservationCount⟩, TB_3 215 rfl rfl, TB_3 216 rfl rfl⟩
set_option maxRecDepth 20000 in
theorem mlL_299 : ax_CV RL 299 MX9_nextExpiry 0 := ⟨⟨TB_3 218 rfl rfl, mbX9_nextExpiry⟩, TB_3 219 rfl rfl, TB_3 220 rfl rfl⟩
set_option maxRecDepth 20000 in
theorem mlX9_217 : ax_CV RX9 217 MX7_firstToExpire 0 := ⟨⟨TB_3 222 rfl rfl, mbX7_firstToExpire⟩, TB_3 223 rfl rfl, TB_3 224 rfl rfl⟩
set_option maxRecDepth 20000 in
theorem mlL_264 : ax_CV RL 264 MX9_entryCount 0 := ⟨⟨TB_3 226 rfl rfl, mbX9_entryCount⟩, TB_3 227 rfl rfl, TB_3 228 rfl rfl⟩
set_option maxRecDepth 20000 in
theorem mlL_309 : ax_CV RL 309 MX9_totalRent 0 := ⟨⟨TB_3 230 rfl rfl, mbX9_totalRent⟩, TB_3 231 rfl rfl, TB_3 232 rfl rfl⟩
set_option maxRecDepth 20000 in
theorem mlX9_307 : ax_CV RX9 307 MX6_sumOfRents 0 := ⟨⟨TB_3 234 rfl rfl, mbX6_sumOfRents⟩, TB_3 235 rfl rfl, TB_3 236 rfl rfl⟩
set_option maxRecDepth 20000 in
theorem mlL_321 : ax_CV RL 321 MX9_mismatches 0 := ⟨⟨TB_3 238 rfl rfl, mbX9_mismatches⟩, TB_3 239 rfl rfl, TB_4 0 rfl rfl⟩
set_option maxRecDepth 20000 in
theorem mlX9_315 : ax_CV RX9 315 MX5_unequalPools 0 := ⟨⟨TB_4 2 rfl rfl, mbX5_unequalPools⟩, TB_4 3 rfl rfl, TB_4 4 rfl rfl⟩
set_option maxRecDepth 20000 in
theorem mlX5_200 : ax_CV RX5 200 MX5_bookedIn 1 := ⟨⟨TB_4 6 rfl rfl, mbX5_bookedIn⟩, TB_4 7 rfl rfl, TB_4 8 rfl rfl⟩
set_option maxRecDepth 20000 in
theorem mlX5_95 : ax_CV RX5 95 MX5_opening 1 := ⟨⟨TB_4 10 rfl rfl, mbX5_opening⟩, TB_4 11 rfl rfl, TB_4 12 rfl rfl⟩
set_option maxRecDepth 20000 in
theorem mlX5_98 : ax_CV RX5 98 MX4_net 3 := ⟨⟨TB_4 14 rfl rfl, mbX4_net⟩, TB_4 15 rfl rfl, TB_4 16 rfl rfl⟩
set_option maxRecDepth 20000 in
theorem mlX4_33 : ax_CV RX4 33 MX4_change 2 := ⟨⟨TB_4 18 rfl rfl, mbX4_change⟩, TB_4 20 rfl rfl, TP_2 6 rfl rfl⟩
set_option maxRecDepth 20000 in
theorem mlL_325 : ax_CV RL 325 MX9_reconcile 0 := ⟨⟨TB_4 22 rfl rfl, mbX9_reconcile⟩, TB_4 23 rfl rfl, TB_4 24 rfl rfl⟩
set_option maxRecDepth 20000 in
theorem mlX9_318 : ax_CV RX9 318 MX5_adjust 0 := ⟨⟨TB_4 26 rfl rfl, mbX5_adjust⟩, TB_4 27 rfl rfl, TB_4 28 rfl rfl⟩
set_option maxRecDepth 20000 in
theorem mlX5_203 : ax_CV RX5 203 MX5_firstWithSurplus 1 := ⟨⟨TB_4 30 rfl rfl, mbX5_firstWithSurplus⟩, TB_4 32 rfl rfl, TP_2 7 rfl rfl⟩
set_option maxRecDepth 20000 in
theorem mlL_329 : ax_CV RL 329 MX9_checkpoint 0 := ⟨⟨TB_4 35 rfl rfl, mbX9_checkpoint⟩, TB_4 36 rfl rfl, TB_4 37 rfl rfl⟩
set_option maxRecDepth 20000 in
theorem mlX9_321 : ax_CV RX9 321 MX5_mark 0 := ⟨⟨TB_4 39 rfl rfl, mbX5_mark⟩, TB_4 40 rfl rfl, TB_4 41 rfl rfl⟩
set_option maxRecDepth 20000 in
theorem mlX5_211 : ax_CV RX5 211 MX2_add 1 := ⟨⟨TB_4 43 rfl rfl, mbX2_add⟩, TB_4 44 rfl rfl, TB_4 45 rfl rfl⟩
set_option maxRecDepth 20000 in
theorem mlX5_213 : ax_CV RX5 213 MX2_setBlocks 3 := ⟨⟨TB_4 47 rfl rfl, mbX2_setBlocks⟩, TB_4 48 rfl rfl, TB_4 49 rfl rfl⟩
set_option maxRecDepth 20000 in
theorem mlL_7 : ax_CV RL 7 MX9_appendByte 1 := ⟨⟨TB_4 55 rfl rfl, mbX9_appendByte⟩, TB_4 56 rfl rfl, TB_4 57 rfl rfl⟩
set_option maxRecDepth 20000 in
theorem mlX9_61 : ax_CV RX9 61 MX8_append 1 := ⟨⟨TB_4 125 rfl rfl, mbX8_append⟩, TB_4 126 rfl rfl, TB_4 127 rfl rfl⟩
set_option maxRecDepth 20000 in
theorem mlL_15 : ax_CV RL 15 MX9_nameByte 2 := ⟨⟨TB_4 133 rfl rfl, mbX9_nameByte⟩, TB_4 134 rfl rfl, TB_4 135 rfl rfl⟩
set_option maxRecDepth 20000 in
theorem mlX9_125 : ax_CV RX9 125 MX9_needPool 1 := ⟨⟨TB_4 137 rfl rfl, mbX9_needPool⟩, TB_4 139 rfl rfl, TP_2 9 rfl rfl⟩
set_option maxRecDepth 20000 in
theorem mlX9_128 : ax_CV RX9 128 MX6_letter 2 := ⟨⟨TB_4 157 rfl rfl, mbX6_letter⟩, TB_4 158 rfl rfl, TB_4 159 rfl rfl⟩
set_option maxRecDepth 20000 in
theorem mlL_21 : ax_CV RL 21 MX9_advance 1 := ⟨⟨TB_4 164 rfl rfl, mbX9_advance⟩, TB_4 165 rfl rfl, TB_4 166 rfl rfl⟩
set_option maxRecDepth 20000 in
theorem mlX9_140 : ax_CS RX9 140 MX9_needTicks 1 := ⟨⟨TB_4 168 rfl rfl, mbX9_needTicks⟩, TB_4 169 rfl rfl⟩
set_option maxRecDepth 20000 in
theorem mlX9_143 : ax_CV RX9 143 MX5_pass 1 := ⟨⟨TB_4 172 rfl rfl, mbX5_pass⟩, TB_3 152 rfl rfl, TB_3 153 rfl rfl⟩
set_option maxRecDepth 20000 in
theorem mlL_24 : ax_CV RL 24 MX9_setPick 1 := ⟨⟨TB_4 176 rfl rfl, mbX9_setPick⟩, TB_4 177 rfl rfl, TB_4 178 rfl rfl⟩
set_option maxRecDepth 20000 in
theorem mlL_27 : ax_CV RL 27 MX9_transfer 4 := ⟨⟨TB_4 184 rfl rfl, mbX9_transfer⟩, TB_4 185 rfl rfl, TB_4 186 rfl rfl⟩
set_option maxRecDepth 20000 in
theorem mlX9_146 : ax_CV RX9 146 MX9_needTwoPools 2 := ⟨⟨TB_4 188 rfl rfl, mbX9_needTwoPools⟩, TB_4 190 rfl rfl, TP_2 10 rfl rfl⟩
set_option maxRecDepth 20000 in
theorem mlX9_150 : ax_CS RX9 150 MX9_needCount 1 := ⟨⟨TB_4 193 rfl rfl, mbX9_needCount⟩, TB_4 194 rfl rfl⟩
set_option maxRecDepth 20000 in
theorem mlX9_153 : ax_CS RX9 153 MX9_needReason 1 := ⟨⟨TB_4 197 rfl rfl, mbX9_needReason⟩, TB_4 198 rfl rfl⟩
set_option maxRecDepth 20000 in
theorem mlX9_156 : ax_CV RX9 156 MX5_move 4 := ⟨⟨TB_4 201 rfl rfl, mbX5_move⟩, TB_3 100 rfl rfl, TB_3 101 rfl rfl⟩
set_option maxRecDepth 20000 in
theorem mlL_31 : ax_CV RL 31 MX9_transferBlock 3 := ⟨⟨TB_4 205 rfl rfl, mbX9_transferBlock⟩, TB_4 206 rfl rfl, TB_4 207 rfl rfl⟩
set_option maxRecDepth 20000 in
theorem mlX9_160 : ax_CV RX9 160 MX9_needBlock 1 := ⟨⟨TB_4 209 rfl rfl, mbX9_needBlock⟩, TB_4 211 rfl rfl, TP_2 11 rfl rfl⟩
set_option maxRecDepth 20000 in
theorem mlX9_163 : ax_CV RX9 163 MX5_moveBlock 3 := ⟨⟨TB_4 214 rfl rfl, mbX5_moveBlock⟩, TB_4 215 rfl rfl, TB_4 216 rfl rfl⟩
set_option maxRecDepth 20000 in
theorem mlX5_126 : ax_CV RX5 126 MX1_pickOne 1 := ⟨⟨TB_4 218 rfl rfl, mbX1_pickOne⟩, TB_4 219 rfl rfl, TB_4 220 rfl rfl⟩
set_option maxRecDepth 20000 in
theorem mlL_35 : ax_CV RL 35 MX9_reverse 1 := ⟨⟨TB_4 225 rfl rfl, mbX9_reverse⟩, TB_4 226 rfl rfl, TB_4 227 rfl rfl⟩
set_option maxRecDepth 20000 in
theorem mlX9_167 : ax_CV RX9 167 MX9_needEntry 1 := ⟨⟨TB_4 229 rfl rfl, mbX9_needEntry⟩, TB_4 231 rfl rfl, TP_2 12 rfl rfl⟩
set_option maxRecDepth 20000 in
theorem mlX9_170 : ax_CV RX9 170 MX5_moveBack 1 := ⟨⟨TB_4 234 rfl rfl, mbX5_moveBack⟩, TB_3 178 rfl rfl, TB_3 179 rfl rfl⟩
set_option maxRecDepth 20000 in
theorem mlL_38 : ax_CV RL 38 MX9_reserve 4 := ⟨⟨TB_4 238 rfl rfl, mbX9_reserve⟩, TB_4 239 rfl rfl, TB_5 0 rfl rfl⟩
set_option maxRecDepth 20000 in
theorem mlX9_187 : ax_CV RX9 187 MX5_hold 4 := ⟨⟨TB_5 2 rfl rfl, mbX5_hold⟩, TB_3 140 rfl rfl, TB_3 141 rfl rfl⟩
set_option maxRecDepth 20000 in
theorem mlL_41 : ax_CV RL 41 MX9_commit 2 := ⟨⟨TB_5 6 rfl rfl, mbX9_commit⟩, TB_5 7 rfl rfl, TB_5 8 rfl rfl⟩
set_option maxRecDepth 20000 in
theorem mlX9_190 : ax_CV RX9 190 MX9_needReservation 1 := ⟨⟨TB_5 10 rfl rfl, mbX9_needReservation⟩, TB_5 12 rfl rfl, TP_2 13 rfl rfl⟩
set_option maxRecDepth 20000 in
theorem mlX9_193 : ax_CV RX9 193 MX5_fulfil 2 := ⟨⟨TB_5 15 rfl rfl, mbX5_fulfil⟩, TB_5 16 rfl rfl, TB_5 17 rfl rfl⟩
set_option maxRecDepth 20000 in
theorem mlX5_174 : ax_CV RX5 174 MX7_isPending 1 := ⟨⟨TB_5 19 rfl rfl, mbX7_isPending⟩, TB_3 166 rfl rfl, TB_3 167 rfl rfl⟩
set_option maxRecDepth 20000 in
theorem mlX5_177 : ax_CV RX5 177 MX7_value 2 := ⟨⟨TB_5 20 rfl rfl, mbX7_value⟩, TB_3 170 rfl rfl, TB_3 171 rfl rfl⟩
set_option maxRecDepth 20000 in
theorem mlX5_178 : ax_CV RX5 178 MX7_end 2 := ⟨⟨TB_5 21 rfl rfl, mbX7_end⟩, TB_3 174 rfl rfl, TB_3 175 rfl rfl⟩
set_option maxRecDepth 20000 in
theorem mlL_44 : ax_CV RL 44 MX9_release 1 := ⟨⟨TB_5 25 rfl rfl, mbX9_release⟩, TB_5 26 rfl rfl, TB_5 27 rfl rfl⟩
set_option maxRecDepth 20000 in
theorem mlX9_200 : ax_CV RX9 200 MX7_drop 1 := ⟨⟨TB_5 29 rfl rfl, mbX7_drop⟩, TB_5 30 rfl rfl, TB_5 31 rfl rfl⟩
set_option maxRecDepth 20000 in
theorem mlX7_31 : ax_CV RX7 31 MX7_pendingCount 0 := ⟨⟨TB_5 33 rfl rfl, mbX7_pendingCount⟩, TB_5 35 rfl rfl, TP_2 14 rfl rfl⟩
set_option maxRecDepth 20000 in
theorem mlL_47 : ax_CV RL 47 MX9_extend 2 := ⟨⟨TB_5 40 rfl rfl, mbX9_extend⟩, TB_5 41 rfl rfl, TB_5 42 rfl rfl⟩
set_option maxRecDepth 20000 in
theorem mlX9_205 : ax_CV RX9 205 MX7_prolong 2 := ⟨⟨TB_5 44 rfl rfl, mbX7_prolong⟩, TB_5 45 rfl rfl, TB_5 46 rfl rfl⟩
set_option maxRecDepth 20000 in
theorem mlL_50 : ax_CV RL 50 MX9_balance 1 := ⟨⟨TB_5 51 rfl rfl, mbX9_balance⟩, TB_5 52 rfl rfl, TB_5 53 rfl rfl⟩
set_option maxRecDepth 20000 in
theorem mlX9_225 : ax_CV RX9 225 MX1_countIn 1 := ⟨⟨TB_5 55 rfl rfl, mbX1_countIn⟩, TB_2 193 rfl rfl, TB_2 194 rfl rfl⟩
set_option maxRecDepth 20000 in
theorem mlL_53 : ax_CV RL 53 MX9_booked 1 := ⟨⟨TB_5 59 rfl rfl, mbX9_booked⟩, TB_5 60 rfl rfl, TB_5 61 rfl rfl⟩
set_option maxRecDepth 20000 in
theorem mlX9_228 : ax_CV RX9 228 MX5_bookedIn 1 := ⟨⟨TB_5 63 rfl rfl, mbX5_bookedIn⟩, TB_4 7 rfl rfl, TB_4 8 rfl rfl⟩
set_option maxRecDepth 20000 in
theorem mlL_56 : ax_CV RL 56 MX9_available 1 := ⟨⟨TB_5 67 rfl rfl, mbX9_available⟩, TB_5 68 rfl rfl, TB_5 69 rfl rfl⟩
set_option maxRecDepth 20000 in
theorem mlX9_173 : ax_CV RX9 173 MX5_availableIn 1 := ⟨⟨TB_5 71 rfl rfl, mbX5_availableIn⟩, TB_2 189 rfl rfl, TB_2 190 rfl rfl⟩
set_option maxRecDepth 20000 in
theorem mlL_59 : ax_CV RL 59 MX9_room 1 := ⟨⟨TB_5 75 rfl rfl, mbX9_room⟩, TB_5 76 rfl rfl, TB_5 77 rfl rfl⟩
set_option maxRecDepth 20000 in
theorem mlX9_176 : ax_CV RX9 176 MX5_roomIn 1 := ⟨⟨TB_5 79 rfl rfl, mbX5_roomIn⟩, TB_2 201 rfl rfl, TB_2 202 rfl rfl⟩
set_option maxRecDepth 20000 in
theorem mlL_62 : ax_CV RL 62 MX9_largestTransfer 2 := ⟨⟨TB_5 83 rfl rfl, mbX9_largestTransfer⟩, TB_5 84 rfl rfl, TB_5 85 rfl rfl⟩
set_option maxRecDepth 20000 in
theorem mlL_65 : ax_CV RL 65 MX9_poolOf 1 := ⟨⟨TB_5 94 rfl rfl, mbX9_poolOf⟩, TB_5 95 rfl rfl, TB_5 96 rfl rfl⟩
set_option maxRecDepth 20000 in
theorem mlL_68 : ax_CV RL 68 MX9_since 1 := ⟨⟨TB_5 101 rfl rfl, mbX9_since⟩, TB_5 102 rfl rfl, TB_5 103 rfl rfl⟩
set_option maxRecDepth 20000 in
theorem mlL_71 : ax_CV RL 71 MX9_blockAt 2 := ⟨⟨TB_5 108 rfl rfl, mbX9_blockAt⟩, TB_5 109 rfl rfl, TB_5 110 rfl rfl⟩
set_option maxRecDepth 20000 in
theorem mlX9_236 : ax_CV RX9 236 MX1_memberAt 2 := ⟨⟨TB_5 112 rfl rfl, mbX1_memberAt⟩, TB_5 113 rfl rfl, TB_5 114 rfl rfl⟩
set_option maxRecDepth 20000 in
theorem mlL_74 : ax_CV RL 74 MX9_wouldPick 3 := ⟨⟨TB_5 119 rfl rfl, mbX9_wouldPick⟩, TB_5 120 rfl rfl, TB_5 121 rfl rfl⟩
set_option maxRecDepth 20000 in
theorem mlX9_239 : ax_CV RX9 239 MX1_pick 3 := ⟨⟨TB_5 123 rfl rfl, mbX1_pick⟩, TB_3 114 rfl rfl, TB_3 115 rfl rfl⟩
set_option maxRecDepth 20000 in
theorem mlX9_243 : ax_CV RX9 243 MX1_pickedAt 1 := ⟨⟨TB_5 124 rfl rfl, mbX1_pickedAt⟩, TB_5 125 rfl rfl, TB_5 126 rfl rfl⟩
set_option maxRecDepth 20000 in
theorem mlL_77 : ax_CV RL 77 MX9_runCount 1 := ⟨⟨TB_5 131 rfl rfl, mbX9_runCount⟩, TB_5 132 rfl rfl, TB_5 133 rfl rfl⟩
set_option maxRecDepth 20000 in
theorem mlX9_246 : ax_CV RX9 246 MX1_runsOf 1 := ⟨⟨TB_5 135 rfl rfl, mbX1_runsOf⟩, TB_5 136 rfl rfl, TB_5 137 rfl rfl⟩
set_option maxRecDepth 20000 in
theorem mlL_80 : ax_CV RL 80 MX9_longestRun 1 := ⟨⟨TB_5 142 rfl rfl, mbX9_longestRun⟩, TB_5 143 rfl rfl, TB_5 144 rfl rfl⟩
set_option maxRecDepth 20000 in
theorem mlX9_249 : ax_CV RX9 249 MX1_longestOf 1 := ⟨⟨TB_5 146 rfl rfl, mbX1_longestOf⟩, TB_5 147 rfl rfl, TB_5 148 rfl rfl⟩
set_option maxRecDepth 20000 in
theorem mlL_83 : ax_CV RL 83 MX9_fragmentation 1 := ⟨⟨TB_5 154 rfl rfl, mbX9_fragmentation⟩, TB_5 155 rfl rfl, TB_5 156 rfl rfl⟩
set_option maxRecDepth 20000 in
theorem mlL_87 : ax_CV RL 87 MX9_swap 2 := ⟨⟨TB_5 161 rfl rfl, mbX9_swap⟩, TB_5 162 rfl rfl, TB_5 163 rfl rfl⟩
set_option maxRecDepth 20000 in
theorem mlX9_254 : ax_CV RX9 254 MX1_exchange 2 := ⟨⟨TB_5 166 rfl rfl, mbX1_exchange⟩, TB_5 167 rfl rfl, TB_5 168 rfl rfl⟩
set_option maxRecDepth 20000 in
theorem mlL_91 : ax_CV RL 91 MX9_bestSwap 1 := ⟨⟨TB_5 173 rfl rfl, mbX9_bestSwap⟩, TB_5 174 rfl rfl, TB_5 175 rfl rfl⟩
set_option maxRecDepth 20000 in
theorem mlX9_258 : ax_CV RX9 258 MX1_bestExchange 1 := ⟨⟨TB_5 177 rfl rfl, mbX1_bestExchange⟩, TB_5 178 rfl rfl, TB_5 179 rfl rfl⟩
set_option maxRecDepth 20000 in
theorem mlX1_65 : ax_CV RX1 65 MX1_longestOf 1 := ⟨⟨TB_5 181 rfl rfl, mbX1_longestOf⟩, TB_5 147 rfl rfl, TB_5 148 rfl rfl⟩
set_option maxRecDepth 20000 in
theorem mlX1_69 : ax_CV RX1 69 MX1_joinedLength 3 := ⟨⟨TB_5 182 rfl rfl, mbX1_joinedLength⟩, TB_5 184 rfl rfl, TP_2 15 rfl rfl⟩
set_option maxRecDepth 20000 in
theorem mlL_94 : ax_CV RL 94 MX9_entryValue 2 := ⟨⟨TB_5 189 rfl rfl, mbX9_entryValue⟩, TB_5 190 rfl rfl, TB_5 191 rfl rfl⟩
set_option maxRecDepth 20000 in
theorem mlX9_271 : ax_CV RX9 271 MX4_value 2 := ⟨⟨TB_5 194 rfl rfl, mbX4_value⟩, TB_3 186 rfl rfl, TB_3 187 rfl rfl⟩
set_option maxRecDepth 20000 in
theorem mlL_97 : ax_CV RL 97 MX9_entryBlock 2 := ⟨⟨TB_5 198 rfl rfl, mbX9_entryBlock⟩, TB_5 199 rfl rfl, TB_5 200 rfl rfl⟩
set_option maxRecDepth 20000 in
theorem mlX9_276 : ax_CV RX9 276 MX4_pickBlocks 2 := ⟨⟨TB_5 202 rfl rfl, mbX4_pickBlocks⟩, TB_3 191 rfl rfl, TB_3 192 rfl rfl⟩
set_option maxRecDepth 20000 in
theorem mlL_100 : ax_CV RL 100 MX9_bookedAt 2 := ⟨⟨TB_5 206 rfl rfl, mbX9_bookedAt⟩, TB_5 207 rfl rfl, TB_5 208 rfl rfl⟩
set_option maxRecDepth 20000 in
theorem mlX9_282 : ax_CV RX9 282 MX5_opening 1 := ⟨⟨TB_5 211 rfl rfl, mbX5_opening⟩, TB_4 11 rfl rfl, TB_4 12 rfl rfl⟩
set_option maxRecDepth 20000 in
theorem mlX9_285 : ax_CV RX9 285 MX4_netUntil 2 := ⟨⟨TB_5 212 rfl rfl, mbX4_netUntil⟩, TB_5 213 rfl rfl, TB_5 214 rfl rfl⟩
set_option maxRecDepth 20000 in
theorem mlL_103 : ax_CV RL 103 MX9_peak 3 := ⟨⟨TB_5 219 rfl rfl, mbX9_peak⟩, TB_5 220 rfl rfl, TB_5 221 rfl rfl⟩
set_option maxRecDepth 20000 in
theorem mlX9_288 : ax_CS RX9 288 MX9_needInterval 2 := ⟨⟨TB_5 223 rfl rfl, mbX9_needInterval⟩, TB_5 224 rfl rfl⟩
set_option maxRecDepth 20000 in
theorem mlX9_291 : ax_CV RX9 291 MX4_greatest 4 := ⟨⟨TB_5 227 rfl rfl, mbX4_greatest⟩, TB_5 228 rfl rfl, TB_5 229 rfl rfl⟩
set_option maxRecDepth 20000 in
theorem mlL_106 : ax_CV RL 106 MX9_flow 4 := ⟨⟨TB_5 235 rfl rfl, mbX9_flow⟩, TB_5 236 rfl rfl, TB_5 237 rfl rfl⟩
set_option maxRecDepth 20000 in
theorem mlX9_294 : ax_CV RX9 294 MX4_sumBetween 4 := ⟨⟨TB_5 239 rfl rfl, mbX4_sumBetween⟩, TB_6 0 rfl rfl, TB_6 1 rfl rfl⟩
set_option maxRecDepth 20000 in
theorem mlX4_41 : ax_CV RX4 41 MX4_isWithin 3 := ⟨⟨TB_6 3 rfl rfl, mbX4_isWithin⟩, TB_6 5 rfl rfl, TP_3 0 rfl rfl⟩
set_option maxRecDepth 20000 in
theorem mlL_109 : ax_CV RL 109 MX9_reasonTotal 3 := ⟨⟨TB_6 10 rfl rfl, mbX9_reasonTotal⟩, TB_6 11 rfl rfl, TB_6 12 rfl rfl⟩
set_option maxRecDepth 20000 in
theorem mlX9_297 : ax_CV RX9 297 MX4_sumOfReason 3 := ⟨⟨TB_6 14 rfl rfl, mbX4_sumOfReason⟩, TB_6 15 rfl rfl, TB_6 16 rfl rfl⟩
set_option maxRecDepth 20000 in
theorem mlX4_45 : ax_CV RX4 45 MX4_signed 1 := ⟨⟨TB_6 18 rfl rfl, mbX4_signed⟩, TB_6 20 rfl rfl, TP_3 1 rfl rfl⟩
set_option maxRecDepth 20000 in
theorem mlL_112 : ax_CV RL 112 MX9_busiest 2 := ⟨⟨TB_6 25 rfl rfl, mbX9_busiest⟩, TB_6 26 rfl rfl, TB_6 27 rfl rfl⟩
set_option maxRecDepth 20000 in
theorem mlX9_300 : ax_CV RX9 300 MX5_mostMoved 2 := ⟨⟨TB_6 29 rfl rfl, mbX5_mostMoved⟩, TB_6 30 rfl rfl, TB_6 31 rfl rfl⟩
set_option maxRecDepth 20000 in
theorem mlX5_168 : ax_CV RX5 168 MX4_turnover 3 := ⟨⟨TB_6 33 rfl rfl, mbX4_turnover⟩, TB_6 34 rfl rfl, TB_6 35 rfl rfl⟩
set_option maxRecDepth 20000 in
theorem mlL_115 : ax_CV RL 115 MX9_reservationValue 2 := ⟨⟨TB_6 40 rfl rfl, mbX9_reservationValue⟩, TB_6 41 rfl rfl, TB_6 42 rfl rfl⟩
set_option maxRecDepth 20000 in
theorem mlX9_211 : ax_CV RX9 211 MX7_value 2 := ⟨⟨TB_6 44 rfl rfl, mbX7_value⟩, TB_3 170 rfl rfl, TB_3 171 rfl rfl⟩
set_option maxRecDepth 20000 in
theorem mlL_118 : ax_CV RL 118 MX9_reservedFrom 1 := ⟨⟨TB_6 48 rfl rfl, mbX9_reservedFrom⟩, TB_6 49 rfl rfl, TB_6 50 rfl rfl⟩
set_option maxRecDepth 20000 in
theorem mlX9_214 : ax_CV RX9 214 MX7_pendingSum 2 := ⟨⟨TB_6 52 rfl rfl, mbX7_pendingSum⟩, TB_2 197 rfl rfl, TB_2 198 rfl rfl⟩
set_option maxRecDepth 20000 in
theorem mlL_121 : ax_CV RL 121 MX9_whenAvailable 2 := ⟨⟨TB_6 56 rfl rfl, mbX9_whenAvailable⟩, TB_6 57 rfl rfl, TB_6 58 rfl rfl⟩
set_option maxRecDepth 20000 in
theorem mlX9_222 : ax_CV RX9 222 MX5_timeOfAvailable 2 := ⟨⟨TB_6 60 rfl rfl, mbX5_timeOfAvailable⟩, TB_6 61 rfl rfl, TB_6 62 rfl rfl⟩
set_option maxRecDepth 20000 in
theorem mlX5_181 : ax_CV RX5 181 MX7_timeOfSum 2 := ⟨⟨TB_6 64 rfl rfl, mbX7_timeOfSum⟩, TB_6 65 rfl rfl, TB_6 66 rfl rfl⟩
set_option maxRecDepth 20000 in
theorem mlX7_35 : ax_CV RX7 35 MX7_pendingAfter 2 := ⟨⟨TB_6 68 rfl rfl, mbX7_pendingAfter⟩, TB_6 70 rfl rfl, TP_3 2 rfl rfl⟩
set_option maxRecDepth 20000 in
theorem mlL_124 : ax_CV RL 124 MX9_rent 1 := ⟨⟨TB_6 75 rfl rfl, mbX9_rent⟩, TB_6 76 rfl rfl, TB_6 77 rfl rfl⟩
set_option maxRecDepth 20000 in
theorem mlL_127 : ax_CV RL 127 MX9_rentAhead 2 := ⟨⟨TB_6 82 rfl rfl, mbX9_rentAhead⟩, TB_6 83 rfl rfl, TB_6 84 rfl rfl⟩
set_option maxRecDepth 20000 in
theorem mlX9_311 : ax_CV RX9 311 MX5_rentAfter 2 := ⟨⟨TB_6 86 rfl rfl, mbX5_rentAfter⟩, TB_3 157 rfl rfl, TB_3 158 rfl rfl⟩
set_option maxRecDepth 20000 in
theorem mlL_131 : ax_CV RL 131 MX9_corrupt 2 := ⟨⟨TB_6 90 rfl rfl, mbX9_corrupt⟩, TB_6 91 rfl rfl, TB_6 92 rfl rfl⟩
set_option maxRecDepth 20000 in
theorem mlX9_261 : ax_CV RX9 261 MX1_put 3 := ⟨⟨TB_6 94 rfl rfl, mbX1_put⟩, TB_2 30 rfl rfl, TB_2 31 rfl rfl⟩
set_option maxRecDepth 20000 in
theorem mlL_134 : ax_CV RL 134 MX9_auditSet 2 := ⟨⟨TB_6 98 rfl rfl, mbX9_auditSet⟩, TB_6 99 rfl rfl, TB_6 100 rfl rfl⟩
set_option maxRecDepth 20000 in
theorem mlX9_324 : ax_CV RX9 324 MX9_needCheckpoints 2 := ⟨⟨TB_6 102 rfl rfl, mbX9_needCheckpoints⟩, TB_6 104 rfl rfl, TP_3 3 rfl rfl⟩
set_option maxRecDepth 20000 in
theorem mlX9_327 : ax_CV RX9 327 MX5_auditedPools 2 := ⟨⟨TB_6 107 rfl rfl, mbX5_auditedPools⟩, TB_6 108 rfl rfl, TB_6 109 rfl rfl⟩
set_option maxRecDepth 20000 in
theorem mlX5_216 : ax_CV RX5 216 MX5_auditedChange 3 := ⟨⟨TB_6 111 rfl rfl, mbX5_auditedChange⟩, TB_6 112 rfl rfl, TB_6 113 rfl rfl⟩
set_option maxRecDepth 20000 in
theorem mlX5_219 : ax_CV RX5 219 MX2_blocksOf 2 := ⟨⟨TB_6 115 rfl rfl, mbX2_blocksOf⟩, TB_6 116 rfl rfl, TB_6 117 rfl rfl⟩
set_option maxRecDepth 20000 in
theorem mlX5_222 : ax_CV RX5 222 MX2_entriesOf 1 := ⟨⟨TB_6 119 rfl rfl, mbX2_entriesOf⟩, TB_6 120 rfl rfl, TB_6 121 rfl rfl⟩
set_option maxRecDepth 20000 in
theorem mlL_137 : ax_CV RL 137 MX9_auditOf 3 := ⟨⟨TB_6 126 rfl rfl, mbX9_auditOf⟩, TB_6 127 rfl rfl, TB_6 128 rfl rfl⟩
set_option maxRecDepth 20000 in
theorem mlX9_330 : ax_CV RX9 330 MX5_auditedChange 3 := ⟨⟨TB_6 130 rfl rfl, mbX5_auditedChange⟩, TB_6 112 rfl rfl, TB_6 113 rfl rfl⟩
set_option maxRecDepth 20000 in
theorem mlL_140 : ax_CV RL 140 MX9_saveSnapshot 1 := ⟨⟨TB_6 134 rfl rfl, mbX9_saveSnapshot⟩, TB_6 135 rfl rfl, TB_6 136 rfl rfl⟩
set_option maxRecDepth 20000 in
theorem mlX9_333 : ax_CS RX9 333 MX9_needSlot 1 := ⟨⟨TB_6 138 rfl rfl, mbX9_needSlot⟩, TB_6 139 rfl rfl⟩
set_option maxRecDepth 20000 in
theorem mlL_143 : ax_CV RL 143 MX9_restoreSnapshot 1 := ⟨⟨TB_6 145 rfl rfl, mbX9_restoreSnapshot⟩, TB_6 146 rfl rfl, TB_6 147 rfl rfl⟩
set_option maxRecDepth 20000 in
theorem mlL_149 : ax_CI RL 149 MX10_init 0 := ⟨⟨TB_6 151 rfl rfl, mbX10_init⟩, rfl, TB_6 152 rfl rfl⟩
set_option maxRecDepth 20000 in
theorem mlX10_46 : ax_CS RX10 46 MX10_begins 2 := ⟨⟨TB_6 155 rfl rfl, mbX10_begins⟩, TB_6 156 rfl rfl⟩
set_option maxRecDepth 20000 in
theorem mlL_156 : ax_CV RL 156 MX10_thrown 0 := ⟨⟨TB_6 216 rfl rfl, mbX10_thrown⟩, TB_6 217 rfl rfl, TB_6 218 rfl rfl⟩
set_option maxRecDepth 20000 in
theorem mlL_197 : ax_CV RL 197 MX10_transfer 4 := ⟨⟨TB_6 220 rfl rfl, mbX10_transfer⟩, TB_6 221 rfl rfl, TB_6 222 rfl rfl⟩
set_option maxRecDepth 20000 in
theorem mlX10_109 : ax_CV RX10 109 MX10_isPool 1 := ⟨⟨TB_6 224 rfl rfl, mbX10_isPool⟩, TB_6 226 rfl rfl, TP_3 4 rfl rfl⟩
set_option maxRecDepth 20000 in
theorem mlX10_54 : ax_CS RX10 54 MX10_in 3 := ⟨⟨TB_6 228 rfl rfl, mbX10_in⟩, TB_6 229 rfl rfl⟩
set_option maxRecDepth 20000 in
theorem mlX10_113 : ax_CV RX10 113 MX10_isThrown 2 := ⟨⟨TB_6 231 rfl rfl, mbX10_isThrown⟩, TB_6 233 rfl rfl, TP_3 5 rfl rfl⟩
set_option maxRecDepth 20000 in
theorem mlX10_117 : ax_CV RX10 117 MX10_transfers 4 := ⟨⟨TB_6 235 rfl rfl, mbX10_transfers⟩, TB_6 237 rfl rfl, TP_3 6 rfl rfl⟩
set_option maxRecDepth 20000 in
theorem mlX10_98 : ax_CV RX10 98 MX10_refusal 3 := ⟨⟨TB_6 239 rfl rfl, mbX10_refusal⟩, TB_7 1 rfl rfl, TP_3 7 rfl rfl⟩
set_option maxRecDepth 20000 in
theorem mlX10_92 : ax_CV RX10 92 MX10_availableOf 1 := ⟨⟨TB_7 3 rfl rfl, mbX10_availableOf⟩, TB_7 5 rfl rfl, TP_3 8 rfl rfl⟩
set_option maxRecDepth 20000 in
theorem mlX10_62 : ax_CV RX10 62 MX10_balanceOf 1 := ⟨⟨TB_7 7 rfl rfl, mbX10_balanceOf⟩, TB_7 9 rfl rfl, TP_3 9 rfl rfl⟩
set_option maxRecDepth 20000 in
theorem mlX10_66 : ax_CV RX10 66 MX10_reserved 2 := ⟨⟨TB_7 11 rfl rfl, mbX10_reserved⟩, TB_7 13 rfl rfl, TP_3 10 rfl rfl⟩
set_option maxRecDepth 20000 in
theorem mlX10_58 : ax_CV RX10 58 MX10_hold 2 := ⟨⟨TB_7 15 rfl rfl, mbX10_hold⟩, TB_7 17 rfl rfl, TP_3 11 rfl rfl⟩
set_option maxRecDepth 20000 in
theorem mlX10_95 : ax_CV RX10 95 MX10_roomOf 1 := ⟨⟨TB_7 19 rfl rfl, mbX10_roomOf⟩, TB_7 21 rfl rfl, TP_3 12 rfl rfl⟩
set_option maxRecDepth 20000 in
theorem mlX10_69 : ax_CV RX10 69 MX10_pool 2 := ⟨⟨TB_7 23 rfl rfl, mbX10_pool⟩, TB_7 25 rfl rfl, TP_3 13 rfl rfl⟩
set_option maxRecDepth 20000 in
theorem mlX10_102 : ax_CV RX10 102 MX10_picks 3 := ⟨⟨TB_7 27 rfl rfl, mbX10_picks⟩, TB_7 29 rfl rfl, TP_3 14 rfl rfl⟩
set_option maxRecDepth 20000 in
theorem mlX10_76 : ax_CV RX10 76 MX10_picksNone 0 := ⟨⟨TB_7 31 rfl rfl, mbX10_picksNone⟩, TB_7 33 rfl rfl, TP_3 15 rfl rfl⟩
set_option maxRecDepth 20000 in
theorem mlX10_79 : ax_CV RX10 79 MX10_fittingRun 2 := ⟨⟨TB_7 35 rfl rfl, mbX10_fittingRun⟩, TB_7 37 rfl rfl, TP_4 0 rfl rfl⟩
set_option maxRecDepth 20000 in
theorem mlX10_72 : ax_CV RX10 72 MX10_isIn 2 := ⟨⟨TB_7 39 rfl rfl, mbX10_isIn⟩, TB_7 41 rfl rfl, TP_4 1 rfl rfl⟩
set_option maxRecDepth 20000 in
theorem mlX10_82 : ax_CV RX10 82 MX10_nextPick 2 := ⟨⟨TB_7 43 rfl rfl, mbX10_nextPick⟩, TB_7 45 rfl rfl, TP_4 2 rfl rfl⟩
set_option maxRecDepth 20000 in
theorem mlX10_106 : ax_CV RX10 106 MX10_moves 6 := ⟨⟨TB_7 47 rfl rfl, mbX10_moves⟩, TB_7 49 rfl rfl, TP_4 3 rfl rfl⟩
set_option maxRecDepth 20000 in
theorem mlX10_88 : ax_CV RX10 88 MX10_adds 6 := ⟨⟨TB_7 51 rfl rfl, mbX10_adds⟩, TB_7 53 rfl rfl, TP_4 4 rfl rfl⟩
set_option maxRecDepth 20000 in
theorem mlL_201 : ax_CV RL 201 MX10_transferBlock 3 := ⟨⟨TB_7 55 rfl rfl, mbX10_transferBlock⟩, TB_7 56 rfl rfl, TB_7 57 rfl rfl⟩
set_option maxRecDepth 20000 in
theorem mlX10_121 : ax_CV RX10 121 MX10_isBlock 1 := ⟨⟨TB_7 59 rfl rfl, mbX10_isBlock⟩, TB_7 61 rfl rfl, TP_4 5 rfl rfl⟩
set_option maxRecDepth 20000 in
theorem mlL_204 : ax_CV RL 204 MX10_reverse 1 := ⟨⟨TB_7 63 rfl rfl, mbX10_reverse⟩, TB_7 64 rfl rfl, TB_7 65 rfl rfl⟩
set_option maxRecDepth 20000 in
theorem mlX10_130 : ax_CV RX10 130 MX10_isEntry 1 := ⟨⟨TB_7 67 rfl rfl, mbX10_isEntry⟩, TB_7 69 rfl rfl, TP_4 6 rfl rfl⟩
set_option maxRecDepth 20000 in
theorem mlX10_133 : ax_CV RX10 133 MX10_reverses 1 := ⟨⟨TB_7 71 rfl rfl, mbX10_reverses⟩, TB_7 73 rfl rfl, TP_4 7 rfl rfl⟩
set_option maxRecDepth 20000 in
theorem mlX10_85 : ax_CV RX10 85 MX10_entry 2 := ⟨⟨TB_7 75 rfl rfl, mbX10_entry⟩, TB_7 77 rfl rfl, TP_4 8 rfl rfl⟩
set_option maxRecDepth 20000 in
theorem mlX10_127 : ax_CV RX10 127 MX10_picksBack 1 := ⟨⟨TB_7 79 rfl rfl, mbX10_picksBack⟩, TB_7 81 rfl rfl, TP_4 9 rfl rfl⟩
set_option maxRecDepth 20000 in
theorem mlX10_124 : ax_CV RX10 124 MX10_hasBlock 2 := ⟨⟨TB_7 83 rfl rfl, mbX10_hasBlock⟩, TB_7 85 rfl rfl, TP_4 10 rfl rfl⟩
set_option maxRecDepth 20000 in
theorem mlL_207 : ax_CV RL 207 MX10_reserve 4 := ⟨⟨TB_7 87 rfl rfl, mbX10_reserve⟩, TB_7 88 rfl rfl, TB_7 89 rfl rfl⟩
set_option maxRecDepth 20000 in
theorem mlX10_139 : ax_CV RX10 139 MX10_reserves 4 := ⟨⟨TB_7 91 rfl rfl, mbX10_reserves⟩, TB_7 93 rfl rfl, TP_4 11 rfl rfl⟩
set_option maxRecDepth 20000 in
theorem mlX10_136 : ax_CV RX10 136 MX10_setsHold 3 := ⟨⟨TB_7 95 rfl rfl, mbX10_setsHold⟩, TB_7 97 rfl rfl, TP_4 12 rfl rfl⟩
set_option maxRecDepth 20000 in
theorem mlL_210 : ax_CV RL 210 MX10_commit 2 := ⟨⟨TB_7 99 rfl rfl, mbX10_commit⟩, TB_7 100 rfl rfl, TB_7 101 rfl rfl⟩
set_option maxRecDepth 20000 in
theorem mlX10_142 : ax_CV RX10 142 MX10_isHold 1 := ⟨⟨TB_7 103 rfl rfl, mbX10_isHold⟩, TB_7 105 rfl rfl, TP_4 13 rfl rfl⟩
set_option maxRecDepth 20000 in
theorem mlL_213 : ax_CV RL 213 MX10_release 1 := ⟨⟨TB_7 107 rfl rfl, mbX10_release⟩, TB_7 108 rfl rfl, TB_7 109 rfl rfl⟩
set_option maxRecDepth 20000 in
theorem mlL_216 : ax_CV RL 216 MX10_extend 2 := ⟨⟨TB_7 111 rfl rfl, mbX10_extend⟩, TB_7 112 rfl rfl, TB_7 113 rfl rfl⟩
set_option maxRecDepth 20000 in
theorem mlL_190 : ax_CV RL 190 MX10_advance 1 := ⟨⟨TB_7 115 rfl rfl, mbX10_advance⟩, TB_7 116 rfl rfl, TB_7 117 rfl rfl⟩
set_option maxRecDepth 20000 in
theorem mlX10_151 : ax_CV RX10 151 MX10_passes 1 := ⟨⟨TB_7 119 rfl rfl, mbX10_passes⟩, TB_7 121 rfl rfl, TP_4 14 rfl rfl⟩
set_option maxRecDepth 20000 in
theorem mlX10_147 : ax_CV RX10 147 MX10_rentBehind 2 := ⟨⟨TB_7 124 rfl rfl, mbX10_rentBehind⟩, TB_7 126 rfl rfl, TP_4 15 rfl rfl⟩
set_option maxRecDepth 20000 in
theorem mlL_187 : ax_CV RL 187 MX10_now 0 := ⟨⟨TB_7 129 rfl rfl, mbX10_now⟩, TB_7 130 rfl rfl, TB_7 131 rfl rfl⟩
set_option maxRecDepth 20000 in
theorem mlL_193 : ax_CV RL 193 MX10_setPick 1 := ⟨⟨TB_7 133 rfl rfl, mbX10_setPick⟩, TB_7 134 rfl rfl, TB_7 135 rfl rfl⟩
set_option maxRecDepth 20000 in
theorem mlL_155 : ax_CV RL 155 MX10_appendByte 1 := ⟨⟨TB_7 137 rfl rfl, mbX10_appendByte⟩, TB_7 138 rfl rfl, TB_7 139 rfl rfl⟩
set_option maxRecDepth 20000 in
theorem mlL_163 : ax_CV RL 163 MX10_load 0 := ⟨⟨TB_7 141 rfl rfl, mbX10_load⟩, TB_7 142 rfl rfl, TB_7 143 rfl rfl⟩
set_option maxRecDepth 20000 in
theorem mlX10_198 : ax_CV RX10 198 MX10_reads 0 := ⟨⟨TB_7 145 rfl rfl, mbX10_reads⟩, TB_7 147 rfl rfl, TP_5 0 rfl rfl⟩
set_option maxRecDepth 20000 in
theorem mlX10_173 : ax_CV RX10 173 MX10_next 0 := ⟨⟨TB_7 149 rfl rfl, mbX10_next⟩, TB_7 151 rfl rfl, TP_5 1 rfl rfl⟩
set_option maxRecDepth 20000 in
theorem mlX10_160 : ax_CV RX10 160 MX10_here 0 := ⟨⟨TB_7 153 rfl rfl, mbX10_here⟩, TB_7 155 rfl rfl, TP_5 2 rfl rfl⟩
set_option maxRecDepth 20000 in
theorem mlX10_207 : ax_CV RX10 207 MX10_isWord 1 := ⟨⟨TB_7 158 rfl rfl, mbX10_isWord⟩, TB_7 160 rfl rfl, TP_5 3 rfl rfl⟩
set_option maxRecDepth 20000 in
theorem mlX10_176 : ax_CV RX10 176 MJ0_length_8abf5 0 := ⟨⟨TB_7 162 rfl rfl, mbJ0_length_8abf5⟩, TB_2 93 rfl rfl, TB_2 94 rfl rfl⟩
set_option maxRecDepth 20000 in
theorem mlX10_180 : ax_CV RX10 180 MJ0_charAt_5068e 1 := ⟨⟨TB_7 163 rfl rfl, mbJ0_charAt_5068e⟩, TB_2 103 rfl rfl, TB_2 104 rfl rfl⟩
set_option maxRecDepth 20000 in
theorem mlX10_184 : ax_CV RX10 184 MX10_fails 2 := ⟨⟨TB_7 164 rfl rfl, mbX10_fails⟩, TB_7 166 rfl rfl, TP_5 4 rfl rfl⟩
set_option maxRecDepth 20000 in
theorem mlX10_211 : ax_CV RX10 211 MX10_number 2 := ⟨⟨TB_7 168 rfl rfl, mbX10_number⟩, TB_7 170 rfl rfl, TP_5 5 rfl rfl⟩
set_option maxRecDepth 20000 in
theorem mlX10_242 : ax_CV RX10 242 MX10_isMore 0 := ⟨⟨TB_7 174 rfl rfl, mbX10_isMore⟩, TB_7 176 rfl rfl, TP_5 6 rfl rfl⟩
set_option maxRecDepth 20000 in
theorem mlX10_246 : ax_CV RX10 246 MX10_statement 0 := ⟨⟨TB_7 178 rfl rfl, mbX10_statement⟩, TB_7 180 rfl rfl, TP_5 7 rfl rfl⟩
set_option maxRecDepth 20000 in
theorem mlX10_227 : ax_CV RX10 227 MX10_poolPart 0 := ⟨⟨TB_7 183 rfl rfl, mbX10_poolPart⟩, TB_7 185 rfl rfl, TP_5 8 rfl rfl⟩
set_option maxRecDepth 20000 in
theorem mlX10_201 : ax_CV RX10 201 MX10_findIn 1 := ⟨⟨TB_7 188 rfl rfl, mbX10_findIn⟩, TB_7 190 rfl rfl, TP_5 9 rfl rfl⟩
set_option maxRecDepth 20000 in
theorem mlX10_194 : ax_CV RX10 194 MX10_isNameOf 2 := ⟨⟨TB_7 192 rfl rfl, mbX10_isNameOf⟩, TB_7 194 rfl rfl, TP_5 10 rfl rfl⟩
set_option maxRecDepth 20000 in
theorem mlX10_232 : ax_CV RX10 232 MX10_pickPart 0 := ⟨⟨TB_7 197 rfl rfl, mbX10_pickPart⟩, TB_7 199 rfl rfl, TP_5 11 rfl rfl⟩
set_option maxRecDepth 20000 in
theorem mlX10_237 : ax_CV RX10 237 MX10_grantPart 0 := ⟨⟨TB_7 206 rfl rfl, mbX10_grantPart⟩, TB_7 208 rfl rfl, TP_5 12 rfl rfl⟩
set_option maxRecDepth 20000 in
theorem mlX10_222 : ax_CV RX10 222 MX10_known 3 := ⟨⟨TB_7 210 rfl rfl, mbX10_known⟩, TB_7 212 rfl rfl, TP_5 13 rfl rfl⟩
set_option maxRecDepth 20000 in
theorem mlX10_252 : ax_CS RX10 252 MX10_copies 4 := ⟨⟨TB_7 214 rfl rfl, mbX10_copies⟩, TB_7 215 rfl rfl⟩
set_option maxRecDepth 20000 in
theorem mlL_167 : ax_CV RL 167 MX10_textError 0 := ⟨⟨TB_7 217 rfl rfl, mbX10_textError⟩, TB_7 218 rfl rfl, TB_7 219 rfl rfl⟩
set_option maxRecDepth 20000 in
theorem mlL_171 : ax_CV RL 171 MX10_poolNamed 0 := ⟨⟨TB_7 221 rfl rfl, mbX10_poolNamed⟩, TB_7 222 rfl rfl, TB_7 223 rfl rfl⟩
set_option maxRecDepth 20000 in
theorem mlL_220 : ax_CV RL 220 MX10_batch 0 := ⟨⟨TB_7 225 rfl rfl, mbX10_batch⟩, TB_7 226 rfl rfl, TB_7 227 rfl rfl⟩
set_option maxRecDepth 20000 in
theorem mlX10_275 : ax_CV RX10 275 MX10_command 0 := ⟨⟨TB_7 229 rfl rfl, mbX10_command⟩, TB_7 231 rfl rfl, TP_5 14 rfl rfl⟩
set_option maxRecDepth 20000 in
theorem mlX10_260 : ax_CV RX10 260 MX10_pair 3 := ⟨⟨TB_7 234 rfl rfl, mbX10_pair⟩, TB_7 236 rfl rfl, TP_5 15 rfl rfl⟩
set_option maxRecDepth 20000 in
theorem mlX10_278 : ax_CV RX10 278 MX10_carriesOut 0 := ⟨⟨TB_8 1 rfl rfl, mbX10_carriesOut⟩, TB_8 3 rfl rfl, TP_6 0 rfl rfl⟩
set_option maxRecDepth 20000 in
theorem mlX10_268 : ax_CS RX10 268 MX10_copiesRents 4 := ⟨⟨TB_8 5 rfl rfl, mbX10_copiesRents⟩, TB_8 6 rfl rfl⟩
set_option maxRecDepth 20000 in
theorem mlX10_272 : ax_CV RX10 272 MX10_isDone 1 := ⟨⟨TB_8 8 rfl rfl, mbX10_isDone⟩, TB_8 10 rfl rfl, TP_6 1 rfl rfl⟩
set_option maxRecDepth 20000 in
theorem mlL_175 : ax_CV RL 175 MX10_blockCount 0 := ⟨⟨TB_8 12 rfl rfl, mbX10_blockCount⟩, TB_8 13 rfl rfl, TB_8 14 rfl rfl⟩
set_option maxRecDepth 20000 in
theorem mlL_179 : ax_CV RL 179 MX10_poolCount 0 := ⟨⟨TB_8 16 rfl rfl, mbX10_poolCount⟩, TB_8 17 rfl rfl, TB_8 18 rfl rfl⟩
set_option maxRecDepth 20000 in
theorem mlL_183 : ax_CV RL 183 MX10_nameByte 2 := ⟨⟨TB_8 20 rfl rfl, mbX10_nameByte⟩, TB_8 21 rfl rfl, TB_8 22 rfl rfl⟩
set_option maxRecDepth 20000 in
theorem mlL_223 : ax_CV RL 223 MX10_balance 1 := ⟨⟨TB_8 24 rfl rfl, mbX10_balance⟩, TB_8 25 rfl rfl, TB_8 26 rfl rfl⟩
set_option maxRecDepth 20000 in
theorem mlL_226 : ax_CV RL 226 MX10_booked 1 := ⟨⟨TB_8 28 rfl rfl, mbX10_booked⟩, TB_8 29 rfl rfl, TB_8 30 rfl rfl⟩
set_option maxRecDepth 20000 in
theorem mlX10_284 : ax_CV RX10 284 MX10_bookedOf 1 := ⟨⟨TB_8 32 rfl rfl, mbX10_bookedOf⟩, TB_8 34 rfl rfl, TP_6 2 rfl rfl⟩
set_option maxRecDepth 20000 in
theorem mlX10_281 : ax_CV RX10 281 MX10_bookedUpTo 2 := ⟨⟨TB_8 36 rfl rfl, mbX10_bookedUpTo⟩, TB_8 38 rfl rfl, TP_6 3 rfl rfl⟩
set_option maxRecDepth 20000 in
theorem mlL_229 : ax_CV RL 229 MX10_available 1 := ⟨⟨TB_8 40 rfl rfl, mbX10_available⟩, TB_8 41 rfl rfl, TB_8 42 rfl rfl⟩
set_option maxRecDepth 20000 in
theorem mlL_232 : ax_CV RL 232 MX10_room 1 := ⟨⟨TB_8 44 rfl rfl, mbX10_room⟩, TB_8 45 rfl rfl, TB_8 46 rfl rfl⟩
set_option maxRecDepth 20000 in
theorem mlL_235 : ax_CV RL 235 MX10_largestTransfer 2 := ⟨⟨TB_8 48 rfl rfl, mbX10_largestTransfer⟩, TB_8 49 rfl rfl, TB_8 50 rfl rfl⟩
set_option maxRecDepth 20000 in
theorem mlL_238 : ax_CV RL 238 MX10_poolOf 1 := ⟨⟨TB_8 53 rfl rfl, mbX10_poolOf⟩, TB_8 54 rfl rfl, TB_8 55 rfl rfl⟩
set_option maxRecDepth 20000 in
theorem mlL_241 : ax_CV RL 241 MX10_since 1 := ⟨⟨TB_8 57 rfl rfl, mbX10_since⟩, TB_8 58 rfl rfl, TB_8 59 rfl rfl⟩
set_option maxRecDepth 20000 in
theorem mlL_244 : ax_CV RL 244 MX10_blockAt 2 := ⟨⟨TB_8 61 rfl rfl, mbX10_blockAt⟩, TB_8 62 rfl rfl, TB_8 63 rfl rfl⟩
set_option maxRecDepth 20000 in
theorem mlL_247 : ax_CV RL 247 MX10_wouldPick 3 := ⟨⟨TB_8 65 rfl rfl, mbX10_wouldPick⟩, TB_8 66 rfl rfl, TB_8 67 rfl rfl⟩
set_option maxRecDepth 20000 in
theorem mlL_250 : ax_CV RL 250 MX10_runCount 1 := ⟨⟨TB_8 69 rfl rfl, mbX10_runCount⟩, TB_8 70 rfl rfl, TB_8 71 rfl rfl⟩
set_option maxRecDepth 20000 in
theorem mlL_253 : ax_CV RL 253 MX10_longestRun 1 := ⟨⟨TB_8 73 rfl rfl, mbX10_longestRun⟩, TB_8 74 rfl rfl, TB_8 75 rfl rfl⟩
set_option maxRecDepth 20000 in
theorem mlX10_290 : ax_CV RX10 290 MX10_longestOf 1 := ⟨⟨TB_8 77 rfl rfl, mbX10_longestOf⟩, TB_8 79 rfl rfl, TP_6 4 rfl rfl⟩
set_option maxRecDepth 20000 in
theorem mlL_257 : ax_CV RL 257 MX10_fragmentation 1 := ⟨⟨TB_8 81 rfl rfl, mbX10_fragmentation⟩, TB_8 82 rfl rfl, TB_8 83 rfl rfl⟩
set_option maxRecDepth 20000 in
theorem mlL_260 : ax_CV RL 260 MX10_swap 2 := ⟨⟨TB_8 85 rfl rfl, mbX10_swap⟩, TB_8 86 rfl rfl, TB_8 87 rfl rfl⟩
set_option maxRecDepth 20000 in
theorem mlX10_293 : ax_CV RX10 293 MX10_exchanges 3 := ⟨⟨TB_8 89 rfl rfl, mbX10_exchanges⟩, TB_8 91 rfl rfl, TP_6 5 rfl rfl⟩
set_option maxRecDepth 20000 in
theorem mlL_263 : ax_CV RL 263 MX10_bestSwap 1 := ⟨⟨TB_8 93 rfl rfl, mbX10_bestSwap⟩, TB_8 94 rfl rfl, TB_8 95 rfl rfl⟩
set_option maxRecDepth 20000 in
theorem mlL_320 : ax_CV RL 320 MX10_corrupt 2 := ⟨⟨TB_8 97 rfl rfl, mbX10_corrupt⟩, TB_8 98 rfl rfl, TB_8 99 rfl rfl⟩
set_option maxRecDepth 20000 in
theorem mlL_267 : ax_CV RL 267 MX10_entryCount 0 := ⟨⟨TB_8 101 rfl rfl, mbX10_entryCount⟩, TB_8 102 rfl rfl, TB_8 103 rfl rfl⟩
set_option maxRecDepth 20000 in
theorem mlL_270 : ax_CV RL 270 MX10_entryValue 2 := ⟨⟨TB_8 105 rfl rfl, mbX10_entryValue⟩, TB_8 106 rfl rfl, TB_8 107 rfl rfl⟩
set_option maxRecDepth 20000 in
theorem mlL_273 : ax_CV RL 273 MX10_entryBlock 2 := ⟨⟨TB_8 109 rfl rfl, mbX10_entryBlock⟩, TB_8 110 rfl rfl, TB_8 111 rfl rfl⟩
set_option maxRecDepth 20000 in
theorem mlL_276 : ax_CV RL 276 MX10_bookedAt 2 := ⟨⟨TB_8 113 rfl rfl, mbX10_bookedAt⟩, TB_8 114 rfl rfl, TB_8 115 rfl rfl⟩
set_option maxRecDepth 20000 in
theorem mlX10_302 : ax_CV RX10 302 MX10_entriesUpTo 1 := ⟨⟨TB_8 117 rfl rfl, mbX10_entriesUpTo⟩, TB_8 119 rfl rfl, TP_6 6 rfl rfl⟩
set_option maxRecDepth 20000 in
theorem mlX10_299 : ax_CV RX10 299 MX10_entriesBefore 1 := ⟨⟨TB_8 122 rfl rfl, mbX10_entriesBefore⟩, TB_8 124 rfl rfl, TP_6 7 rfl rfl⟩
set_option maxRecDepth 20000 in
theorem mlL_279 : ax_CV RL 279 MX10_peak 3 := ⟨⟨TB_8 126 rfl rfl, mbX10_peak⟩, TB_8 127 rfl rfl, TB_8 128 rfl rfl⟩
set_option maxRecDepth 20000 in
theorem mlX10_305 : ax_CS RX10 305 MX10_isInterval 2 := ⟨⟨TB_8 130 rfl rfl, mbX10_isInterval⟩, TB_8 131 rfl rfl⟩
set_option maxRecDepth 20000 in
theorem mlL_282 : ax_CV RL 282 MX10_flow 4 := ⟨⟨TB_8 133 rfl rfl, mbX10_flow⟩, TB_8 134 rfl rfl, TB_8 135 rfl rfl⟩
set_option maxRecDepth 20000 in
theorem mlL_285 : ax_CV RL 285 MX10_reasonTotal 3 := ⟨⟨TB_8 137 rfl rfl, mbX10_reasonTotal⟩, TB_8 138 rfl rfl, TB_8 139 rfl rfl⟩
set_option maxRecDepth 20000 in
theorem mlL_288 : ax_CV RL 288 MX10_busiest 2 := ⟨⟨TB_8 141 rfl rfl, mbX10_busiest⟩, TB_8 142 rfl rfl, TB_8 143 rfl rfl⟩
set_option maxRecDepth 20000 in
theorem mlL_292 : ax_CV RL 292 MX10_reservationCount 0 := ⟨⟨TB_8 145 rfl rfl, mbX10_reservationCount⟩, TB_8 146 rfl rfl, TB_8 147 rfl rfl⟩
set_option maxRecDepth 20000 in
theorem mlL_295 : ax_CV RL 295 MX10_reservationValue 2 := ⟨⟨TB_8 149 rfl rfl, mbX10_reservationValue⟩, TB_8 150 rfl rfl, TB_8 151 rfl rfl⟩
set_option maxRecDepth 20000 in
theorem mlL_298 : ax_CV RL 298 MX10_reservedFrom 1 := ⟨⟨TB_8 153 rfl rfl, mbX10_reservedFrom⟩, TB_8 154 rfl rfl, TB_8 155 rfl rfl⟩
set_option maxRecDepth 20000 in
theorem mlL_302 : ax_CV RL 302 MX10_nextExpiry 0 := ⟨⟨TB_8 157 rfl rfl, mbX10_nextExpiry⟩, TB_8 158 rfl rfl, TB_8 159 rfl rfl⟩
set_option maxRecDepth 20000 in
theorem mlL_305 : ax_CV RL 305 MX10_whenAvailable 2 := ⟨⟨TB_8 161 rfl rfl, mbX10_whenAvailable⟩, TB_8 162 rfl rfl, TB_8 163 rfl rfl⟩
set_option maxRecDepth 20000 in
theorem mlX10_308 : ax_CV RX10 308 MX10_availableAt 2 := ⟨⟨TB_8 165 rfl rfl, mbX10_availableAt⟩, TB_8 167 rfl rfl, TP_6 8 rfl rfl⟩
set_option maxRecDepth 20000 in
theorem mlL_308 : ax_CV RL 308 MX10_rent 1 := ⟨⟨TB_8 169 rfl rfl, mbX10_rent⟩, TB_8 170 rfl rfl, TB_8 171 rfl rfl⟩
set_option maxRecDepth 20000 in
theorem mlL_313 : ax_CV RL 313 MX10_totalRent 0 := ⟨⟨TB_8 173 rfl rfl, mbX10_totalRent⟩, TB_8 174 rfl rfl, TB_8 175 rfl rfl⟩
set_option maxRecDepth 20000 in
theorem mlL_317 : ax_CV RL 317 MX10_rentAhead 2 := ⟨⟨TB_8 177 rfl rfl, mbX10_rentAhead⟩, TB_8 178 rfl rfl, TB_8 179 rfl rfl⟩
set_option maxRecDepth 20000 in
theorem mlL_324 : ax_CV RL 324 MX10_mismatches 0 := ⟨⟨TB_8 181 rfl rfl, mbX10_mismatches⟩, TB_8 182 rfl rfl, TB_8 183 rfl rfl⟩
set_option maxRecDepth 20000 in
theorem mlL_328 : ax_CV RL 328 MX10_reconcile 0 := ⟨⟨TB_8 185 rfl rfl, mbX10_reconcile⟩, TB_8 186 rfl rfl, TB_8 187 rfl rfl⟩
set_option maxRecDepth 20000 in
theorem mlX10_311 : ax_CV RX10 311 MX10_unequal 1 := ⟨⟨TB_8 189 rfl rfl, mbX10_unequal⟩, TB_8 191 rfl rfl, TP_6 9 rfl rfl⟩
set_option maxRecDepth 20000 in
theorem mlL_332 : ax_CV RL 332 MX10_checkpoint 0 := ⟨⟨TB_8 193 rfl rfl, mbX10_checkpoint⟩, TB_8 194 rfl rfl, TB_8 195 rfl rfl⟩
set_option maxRecDepth 20000 in
theorem mlL_335 : ax_CV RL 335 MX10_auditSet 2 := ⟨⟨TB_8 197 rfl rfl, mbX10_auditSet⟩, TB_8 198 rfl rfl, TB_8 199 rfl rfl⟩
set_option maxRecDepth 20000 in
theorem mlX10_317 : ax_CV RX10 317 MX10_areChecks 2 := ⟨⟨TB_8 201 rfl rfl, mbX10_areChecks⟩, TB_8 203 rfl rfl, TP_6 10 rfl rfl⟩
set_option maxRecDepth 20000 in
theorem mlX10_320 : ax_CV RX10 320 MX10_audited 3 := ⟨⟨TB_8 205 rfl rfl, mbX10_audited⟩, TB_8 207 rfl rfl, TP_6 11 rfl rfl⟩
set_option maxRecDepth 20000 in
theorem mlX10_314 : ax_CV RX10 314 MX10_check 2 := ⟨⟨TB_8 209 rfl rfl, mbX10_check⟩, TB_8 211 rfl rfl, TP_6 12 rfl rfl⟩
set_option maxRecDepth 20000 in
theorem mlL_338 : ax_CV RL 338 MX10_auditOf 3 := ⟨⟨TB_8 213 rfl rfl, mbX10_auditOf⟩, TB_8 214 rfl rfl, TB_8 215 rfl rfl⟩
set_option maxRecDepth 20000 in
theorem mlL_341 : ax_CV RL 341 MX10_saveSnapshot 1 := ⟨⟨TB_8 217 rfl rfl, mbX10_saveSnapshot⟩, TB_8 218 rfl rfl, TB_8 219 rfl rfl⟩
set_option maxRecDepth 20000 in
theorem mlL_344 : ax_CV RL 344 MX10_restoreSnapshot 1 := ⟨⟨TB_8 221 rfl rfl, mbX10_restoreSnapshot⟩, TB_8 222 rfl rfl, TB_8 223 rfl rfl⟩
theorem inX0 : ∀ w ∈ u_ws RX0 TX0 3, w ∈ TB := fun w hw => List.mem_filter.mpr ⟨(by decide +kernel : ∀ w ∈ u_ws RX0 TX0 3, w ∈ lw_tbl) w hw, (by decide +kernel : ∀ w ∈ u_ws RX0 TX0 3, goodWord w = true) w hw⟩
theorem inX1 : ∀ w ∈ u_ws RX1 TX1 4, w ∈ TB := fun w hw => List.mem_filter.mpr ⟨(by decide +kernel : ∀ w ∈ u_ws RX1 TX1 4, w ∈ lw_tbl) w hw, (by decide +kernel : ∀ w ∈ u_ws RX1 TX1 4, goodWord w = true) w hw⟩
theorem inX2 : ∀ w ∈ u_ws RX2 TX2 2, w ∈ TB := fun w hw => List.mem_filter.mpr ⟨(by decide +kernel : ∀ w ∈ u_ws RX2 TX2 2, w ∈ lw_tbl) w hw, (by decide +kernel : ∀ w ∈ u_ws RX2 TX2 2, goodWord w = true) w hw⟩
theorem inX3 : ∀ w ∈ u_ws RX3 TX3 1, w ∈ TB := fun w hw => List.mem_filter.mpr ⟨(by decide +kernel : ∀ w ∈ u_ws RX3 TX3 1, w ∈ lw_tbl) w hw, (by decide +kernel : ∀ w ∈ u_ws RX3 TX3 1, goodWord w = true) w hw⟩
theorem inX4 : ∀ w ∈ u_ws RX4 TX4 3, w ∈ TB := fun w hw => List.mem_filter.mpr ⟨(by decide +kernel : ∀ w ∈ u_ws RX4 TX4 3, w ∈ lw_tbl) w hw, (by decide +kernel : ∀ w ∈ u_ws RX4 TX4 3, goodWord w = true) w hw⟩
theorem inX5 : ∀ w ∈ u_ws RX5 TX5 8, w ∈ TB := fun w hw => List.mem_filter.mpr ⟨(by decide +kernel : ∀ w ∈ u_ws RX5 TX5 8, w ∈ lw_tbl) w hw, (by decide +kernel : ∀ w ∈ u_ws RX5 TX5 8, goodWord w = true) w hw⟩
theorem inX6 : ∀ w ∈ u_ws RX6 TX6 6, w ∈ TB := fun w hw => List.mem_filter.mpr ⟨(by decide +kernel : ∀ w ∈ u_ws RX6 TX6 6, w ∈ lw_tbl) w hw, (by decide +kernel : ∀ w ∈ u_ws RX6 TX6 6, goodWord w = true) w hw⟩
theorem inX7 : ∀ w ∈ u_ws RX7 TX7 2, w ∈ TB := fun w hw => List.mem_filter.mpr ⟨(by decide +kernel : ∀ w ∈ u_ws RX7 TX7 2, w ∈ lw_tbl) w hw, (by decide +kernel : ∀ w ∈ u_ws RX7 TX7 2, goodWord w = true) w hw⟩
theorem inX8 : ∀ w ∈ u_ws RX8 TX8 7, w ∈ TB := fun w hw => List.mem_filter.mpr ⟨(by decide +kernel : ∀ w ∈ u_ws RX8 TX8 7, w ∈ lw_tbl) w hw, (by decide +kernel : ∀ w ∈ u_ws RX8 TX8 7, goodWord w = true) w hw⟩
theorem inX9 : ∀ w ∈ u_ws RX9 TX9 7, w ∈ TB := fun w hw => List.mem_filter.mpr ⟨(by decide +kernel : ∀ w ∈ u_ws RX9 TX9 7, w ∈ lw_tbl) w hw, (by decide +kernel : ∀ w ∈ u_ws RX9 TX9 7, goodWord w = true) w hw⟩
theorem inX10 : ∀ w ∈ u_ws RX10 TX10 19, w ∈ TB := fun w hw => List.mem_filter.mpr ⟨(by decide +kernel : ∀ w ∈ u_ws RX10 TX10 19, w ∈ lw_tbl) w hw, (by decide +kernel : ∀ w ∈ u_ws RX10 TX10 19, goodWord w = true) w hw⟩
set_option maxRecDepth 20000 in
theorem flX8_9 : ax_FL RX8 9 8 0 (.array .int) true := ⟨RX8, TX8, 7, tyX8, rfl, by decide, TB_1 37 rfl rfl, inX8, tyX8_ok, nmX8, rfl, rfl, rfl⟩
set_option maxRecDepth 20000 in
theorem flX9_85 : ax_FL RX9 85 8 0 (.array .int) true := ⟨RX8, TX8, 7, tyX8, rfl, by decide, TB_1 38 rfl rfl, inX8, tyX8_ok, nmX8, rfl, rfl, rfl⟩
set_option maxRecDepth 20000 in
theorem flX3_89 : ax_FL RX3 89 8 0 (.array .int) true := ⟨RX8, TX8, 7, tyX8, rfl, by decide, TB_1 39 rfl rfl, inX8, tyX8_ok, nmX8, rfl, rfl, rfl⟩
set_option maxRecDepth 20000 in
theorem flX0_82 : ax_FL RX0 82 8 0 (.array .int) true := ⟨RX8, TX8, 7, tyX8, rfl, by decide, TB_1 40 rfl rfl, inX8, tyX8_ok, nmX8, rfl, rfl, rfl⟩
set_option maxRecDepth 20000 in
theorem flX8_15 : ax_FL RX8 15 8 1 (.int) false := ⟨RX8, TX8, 7, tyX8, rfl, by decide, TB_1 41 rfl rfl, inX8, tyX8_ok, nmX8, rfl, rfl, rfl⟩
set_option maxRecDepth 20000 in
theorem flX9_89 : ax_FL RX9 89 8 1 (.int) false := ⟨RX8, TX8, 7, tyX8, rfl, by decide, TB_1 42 rfl rfl, inX8, tyX8_ok, nmX8, rfl, rfl, rfl⟩
set_option maxRecDepth 20000 in
theorem flX8_19 : ax_FL RX8 19 8 2 (.int) false := ⟨RX8, TX8, 7, tyX8, rfl, by decide, TB_1 43 rfl rfl, inX8, tyX8_ok, nmX8, rfl, rfl, rfl⟩
set_option maxRecDepth 20000 in
theorem flX8_22 : ax_FL RX8 22 8 3 (.int) false := ⟨RX8, TX8, 7, tyX8, rfl, by decide, TB_1 44 rfl rfl, inX8, tyX8_ok, nmX8, rfl, rfl, rfl⟩
set_option maxRecDepth 20000 in
theorem flX3_93 : ax_FL RX3 93 8 3 (.int) false := ⟨RX8, TX8, 7, tyX8, rfl, by decide, TB_1 45 rfl rfl, inX8, tyX8_ok, nmX8, rfl, rfl, rfl⟩
set_option maxRecDepth 20000 in
theorem flX0_85 : ax_FL RX0 85 8 3 (.int) false := ⟨RX8, TX8, 7, tyX8, rfl, by decide, TB_1 46 rfl rfl, inX8, tyX8_ok, nmX8, rfl, rfl, rfl⟩
set_option maxRecDepth 20000 in
theorem flX8_25 : ax_FL RX8 25 8 4 (.int) false := ⟨RX8, TX8, 7, tyX8, rfl, by decide, TB_1 47 rfl rfl, inX8, tyX8_ok, nmX8, rfl, rfl, rfl⟩
set_option maxRecDepth 20000 in
theorem flX8_28 : ax_FL RX8 28 8 5 (.int) false := ⟨RX8, TX8, 7, tyX8, rfl, by decide, TB_1 48 rfl rfl, inX8, tyX8_ok, nmX8, rfl, rfl, rfl⟩
set_option maxRecDepth 20000 in
theorem flX9_112 : ax_FL RX9 112 8 5 (.int) false := ⟨RX8, TX8, 7, tyX8, rfl, by decide, TB_1 49 rfl rfl, inX8, tyX8_ok, nmX8, rfl, rfl, rfl⟩
set_option maxRecDepth 20000 in
theorem flX8_31 : ax_FL RX8 31 8 6 (.int) false := ⟨RX8, TX8, 7, tyX8, rfl, by decide, TB_1 50 rfl rfl, inX8, tyX8_ok, nmX8, rfl, rfl, rfl⟩
set_option maxRecDepth 20000 in
theorem flX9_115 : ax_FL RX9 115 8 6 (.int) false := ⟨RX8, TX8, 7, tyX8, rfl, by decide, TB_1 51 rfl rfl, inX8, tyX8_ok, nmX8, rfl, rfl, rfl⟩
set_option maxRecDepth 20000 in
theorem flX3_9 : ax_FL RX3 9 3 0 (.object "StorageLedger$Text") true := ⟨RX3, TX3, 1, tyX3, rfl, by decide, TB_1 74 rfl rfl, inX3, tyX3_ok, nmX3, rfl, rfl, rfl⟩
set_option maxRecDepth 20000 in
theorem flX0_19 : ax_FL RX0 19 0 0 (.object "StorageLedger$Text") true := ⟨RX0, TX0, 3, tyX0, rfl, by decide, TB_1 84 rfl rfl, inX0, tyX0_ok, nmX0, rfl, rfl, rfl⟩
set_option maxRecDepth 20000 in
theorem flX0_11 : ax_FL RX0 11 0 1 (.array .int) true := ⟨RX0, TX0, 3, tyX0, rfl, by decide, TB_1 85 rfl rfl, inX0, tyX0_ok, nmX0, rfl, rfl, rfl⟩
set_option maxRecDepth 20000 in
theorem flX0_15 : ax_FL RX0 15 0 2 (.int) false := ⟨RX0, TX0, 3, tyX0, rfl, by decide, TB_1 86 rfl rfl, inX0, tyX0_ok, nmX0, rfl, rfl, rfl⟩
set_option maxRecDepth 20000 in
theorem flX9_111 : ax_FL RX9 111 0 2 (.int) false := ⟨RX0, TX0, 3, tyX0, rfl, by decide, TB_1 87 rfl rfl, inX0, tyX0_ok, nmX0, rfl, rfl, rfl⟩
set_option maxRecDepth 20000 in
theorem flX6_9 : ax_FL RX6 9 6 0 (.int) false := ⟨RX6, TX6, 6, tyX6, rfl, by decide, TB_1 108 rfl rfl, inX6, tyX6_ok, nmX6, rfl, rfl, rfl⟩
set_option maxRecDepth 20000 in
theorem flX9_80 : ax_FL RX9 80 6 0 (.int) false := ⟨RX6, TX6, 6, tyX6, rfl, by decide, TB_1 109 rfl rfl, inX6, tyX6_ok, nmX6, rfl, rfl, rfl⟩
set_option maxRecDepth 20000 in
theorem flX3_77 : ax_FL RX3 77 6 0 (.int) false := ⟨RX6, TX6, 6, tyX6, rfl, by decide, TB_1 110 rfl rfl, inX6, tyX6_ok, nmX6, rfl, rfl, rfl⟩
set_option maxRecDepth 20000 in
theorem flX5_167 : ax_FL RX5 167 6 0 (.int) false := ⟨RX6, TX6, 6, tyX6, rfl, by decide, TB_1 111 rfl rfl, inX6, tyX6_ok, nmX6, rfl, rfl, rfl⟩
set_option maxRecDepth 20000 in
theorem flX6_15 : ax_FL RX6 15 6 1 (.array .int) true := ⟨RX6, TX6, 6, tyX6, rfl, by decide, TB_1 112 rfl rfl, inX6, tyX6_ok, nmX6, rfl, rfl, rfl⟩
set_option maxRecDepth 20000 in
theorem flX5_91 : ax_FL RX5 91 6 1 (.array .int) true := ⟨RX6, TX6, 6, tyX6, rfl, by decide, TB_1 113 rfl rfl, inX6, tyX6_ok, nmX6, rfl, rfl, rfl⟩
set_option maxRecDepth 20000 in
theorem flX6_19 : ax_FL RX6 19 6 2 (.array .int) true := ⟨RX6, TX6, 6, tyX6, rfl, by decide, TB_1 114 rfl rfl, inX6, tyX6_ok, nmX6, rfl, rfl, rfl⟩
set_option maxRecDepth 20000 in
theorem flX5_196 : ax_FL RX5 196 6 2 (.array .int) true := ⟨RX6, TX6, 6, tyX6, rfl, by decide, TB_1 115 rfl rfl, inX6, tyX6_ok, nmX6, rfl, rfl, rfl⟩
set_option maxRecDepth 20000 in
theorem flX6_22 : ax_FL RX6 22 6 3 (.array .float) true := ⟨RX6, TX6, 6, tyX6, rfl, by decide, TB_1 116 rfl rfl, inX6, tyX6_ok, nmX6, rfl, rfl, rfl⟩
set_option maxRecDepth 20000 in
theorem flX5_185 : ax_FL RX5 185 6 3 (.array .float) true := ⟨RX6, TX6, 6, tyX6, rfl, by decide, TB_1 117 rfl rfl, inX6, tyX6_ok, nmX6, rfl, rfl, rfl⟩
set_option maxRecDepth 20000 in
theorem flX9_303 : ax_FL RX9 303 6 3 (.array .float) true := ⟨RX6, TX6, 6, tyX6, rfl, by decide, TB_1 118 rfl rfl, inX6, tyX6_ok, nmX6, rfl, rfl, rfl⟩
set_option maxRecDepth 20000 in
theorem flX6_26 : ax_FL RX6 26 6 4 (.array .int) true := ⟨RX6, TX6, 6, tyX6, rfl, by decide, TB_1 119 rfl rfl, inX6, tyX6_ok, nmX6, rfl, rfl, rfl⟩
set_option maxRecDepth 20000 in
theorem flX6_29 : ax_FL RX6 29 6 5 (.array .int) true := ⟨RX6, TX6, 6, tyX6, rfl, by decide, TB_1 120 rfl rfl, inX6, tyX6_ok, nmX6, rfl, rfl, rfl⟩
set_option maxRecDepth 20000 in
theorem flX1_9 : ax_FL RX1 9 1 0 (.int) false := ⟨RX1, TX1, 4, tyX1, rfl, by decide, TB_1 141 rfl rfl, inX1, tyX1_ok, nmX1, rfl, rfl, rfl⟩
set_option maxRecDepth 20000 in
theorem flX5_94 : ax_FL RX5 94 1 0 (.int) false := ⟨RX1, TX1, 4, tyX1, rfl, by decide, TB_1 142 rfl rfl, inX1, tyX1_ok, nmX1, rfl, rfl, rfl⟩
set_option maxRecDepth 20000 in
theorem flX9_122 : ax_FL RX9 122 1 0 (.int) false := ⟨RX1, TX1, 4, tyX1, rfl, by decide, TB_1 143 rfl rfl, inX1, tyX1_ok, nmX1, rfl, rfl, rfl⟩
set_option maxRecDepth 20000 in
theorem flX1_15 : ax_FL RX1 15 1 1 (.array .int) true := ⟨RX1, TX1, 4, tyX1, rfl, by decide, TB_1 144 rfl rfl, inX1, tyX1_ok, nmX1, rfl, rfl, rfl⟩
set_option maxRecDepth 20000 in
theorem flX5_124 : ax_FL RX5 124 1 1 (.array .int) true := ⟨RX1, TX1, 4, tyX1, rfl, by decide, TB_1 145 rfl rfl, inX1, tyX1_ok, nmX1, rfl, rfl, rfl⟩
set_option maxRecDepth 20000 in
theorem flX9_231 : ax_FL RX9 231 1 1 (.array .int) true := ⟨RX1, TX1, 4, tyX1, rfl, by decide, TB_1 146 rfl rfl, inX1, tyX1_ok, nmX1, rfl, rfl, rfl⟩
set_option maxRecDepth 20000 in
theorem flX1_19 : ax_FL RX1 19 1 2 (.array .int) true := ⟨RX1, TX1, 4, tyX1, rfl, by decide, TB_1 147 rfl rfl, inX1, tyX1_ok, nmX1, rfl, rfl, rfl⟩
set_option maxRecDepth 20000 in
theorem flX9_233 : ax_FL RX9 233 1 2 (.array .int) true := ⟨RX1, TX1, 4, tyX1, rfl, by decide, TB_1 148 rfl rfl, inX1, tyX1_ok, nmX1, rfl, rfl, rfl⟩
set_option maxRecDepth 20000 in
theorem flX1_22 : ax_FL RX1 22 1 3 (.array .boolean) true := ⟨RX1, TX1, 4, tyX1, rfl, by decide, TB_1 149 rfl rfl, inX1, tyX1_ok, nmX1, rfl, rfl, rfl⟩
set_option maxRecDepth 20000 in
theorem flX5_136 : ax_FL RX5 136 1 3 (.array .boolean) true := ⟨RX1, TX1, 4, tyX1, rfl, by decide, TB_1 150 rfl rfl, inX1, tyX1_ok, nmX1, rfl, rfl, rfl⟩
set_option maxRecDepth 20000 in
theorem flX9_272 : ax_FL RX9 272 1 3 (.array .boolean) true := ⟨RX1, TX1, 4, tyX1, rfl, by decide, TB_1 151 rfl rfl, inX1, tyX1_ok, nmX1, rfl, rfl, rfl⟩
set_option maxRecDepth 20000 in
theorem flX4_9 : ax_FL RX4 9 4 0 (.int) false := ⟨RX4, TX4, 3, tyX4, rfl, by decide, TB_1 168 rfl rfl, inX4, tyX4_ok, nmX4, rfl, rfl, rfl⟩
set_option maxRecDepth 20000 in
theorem flX5_62 : ax_FL RX5 62 4 0 (.int) false := ⟨RX4, TX4, 3, tyX4, rfl, by decide, TB_1 169 rfl rfl, inX4, tyX4_ok, nmX4, rfl, rfl, rfl⟩
set_option maxRecDepth 20000 in
theorem flX0_113 : ax_FL RX0 113 4 0 (.int) false := ⟨RX4, TX4, 3, tyX4, rfl, by decide, TB_1 170 rfl rfl, inX4, tyX4_ok, nmX4, rfl, rfl, rfl⟩
set_option maxRecDepth 20000 in
theorem flX9_268 : ax_FL RX9 268 4 0 (.int) false := ⟨RX4, TX4, 3, tyX4, rfl, by decide, TB_1 171 rfl rfl, inX4, tyX4_ok, nmX4, rfl, rfl, rfl⟩
set_option maxRecDepth 20000 in
theorem flX4_15 : ax_FL RX4 15 4 1 (.array .int) true := ⟨RX4, TX4, 3, tyX4, rfl, by decide, TB_1 172 rfl rfl, inX4, tyX4_ok, nmX4, rfl, rfl, rfl⟩
set_option maxRecDepth 20000 in
theorem flX4_19 : ax_FL RX4 19 4 2 (.array .long) true := ⟨RX4, TX4, 3, tyX4, rfl, by decide, TB_1 173 rfl rfl, inX4, tyX4_ok, nmX4, rfl, rfl, rfl⟩
set_option maxRecDepth 20000 in
theorem flX7_9 : ax_FL RX7 9 7 0 (.int) false := ⟨RX7, TX7, 2, tyX7, rfl, by decide, TB_1 188 rfl rfl, inX7, tyX7_ok, nmX7, rfl, rfl, rfl⟩
set_option maxRecDepth 20000 in
theorem flX5_65 : ax_FL RX5 65 7 0 (.int) false := ⟨RX7, TX7, 2, tyX7, rfl, by decide, TB_1 189 rfl rfl, inX7, tyX7_ok, nmX7, rfl, rfl, rfl⟩
set_option maxRecDepth 20000 in
theorem flX9_208 : ax_FL RX9 208 7 0 (.int) false := ⟨RX7, TX7, 2, tyX7, rfl, by decide, TB_1 190 rfl rfl, inX7, tyX7_ok, nmX7, rfl, rfl, rfl⟩
set_option maxRecDepth 20000 in
theorem flX7_15 : ax_FL RX7 15 7 1 (.array .int) true := ⟨RX7, TX7, 2, tyX7, rfl, by decide, TB_1 191 rfl rfl, inX7, tyX7_ok, nmX7, rfl, rfl, rfl⟩
set_option maxRecDepth 20000 in
theorem flX2_9 : ax_FL RX2 9 2 0 (.int) false := ⟨RX2, TX2, 2, tyX2, rfl, by decide, TB_1 203 rfl rfl, inX2, tyX2_ok, nmX2, rfl, rfl, rfl⟩
set_option maxRecDepth 20000 in
theorem flX5_66 : ax_FL RX5 66 2 0 (.int) false := ⟨RX2, TX2, 2, tyX2, rfl, by decide, TB_1 204 rfl rfl, inX2, tyX2_ok, nmX2, rfl, rfl, rfl⟩
set_option maxRecDepth 20000 in
theorem flX9_353 : ax_FL RX9 353 2 0 (.int) false := ⟨RX2, TX2, 2, tyX2, rfl, by decide, TB_1 205 rfl rfl, inX2, tyX2_ok, nmX2, rfl, rfl, rfl⟩
set_option maxRecDepth 20000 in
theorem flX2_15 : ax_FL RX2 15 2 1 (.array .int) true := ⟨RX2, TX2, 2, tyX2, rfl, by decide, TB_1 206 rfl rfl, inX2, tyX2_ok, nmX2, rfl, rfl, rfl⟩
set_option maxRecDepth 20000 in
theorem flX5_12 : ax_FL RX5 12 5 0 (.object "StorageLedger$Pools") true := ⟨RX5, TX5, 8, tyX5, rfl, by decide, TB_1 212 rfl rfl, inX5, tyX5_ok, nmX5, rfl, rfl, rfl⟩
set_option maxRecDepth 20000 in
theorem flX9_76 : ax_FL RX9 76 5 0 (.object "StorageLedger$Pools") true := ⟨RX5, TX5, 8, tyX5, rfl, by decide, TB_1 213 rfl rfl, inX5, tyX5_ok, nmX5, rfl, rfl, rfl⟩
set_option maxRecDepth 20000 in
theorem flX3_59 : ax_FL RX3 59 5 0 (.object "StorageLedger$Pools") true := ⟨RX5, TX5, 8, tyX5, rfl, by decide, TB_1 214 rfl rfl, inX5, tyX5_ok, nmX5, rfl, rfl, rfl⟩
set_option maxRecDepth 20000 in
theorem flX5_21 : ax_FL RX5 21 5 1 (.object "StorageLedger$BlockMap") true := ⟨RX5, TX5, 8, tyX5, rfl, by decide, TB_1 215 rfl rfl, inX5, tyX5_ok, nmX5, rfl, rfl, rfl⟩
set_option maxRecDepth 20000 in
theorem flX9_118 : ax_FL RX9 118 5 1 (.object "StorageLedger$BlockMap") true := ⟨RX5, TX5, 8, tyX5, rfl, by decide, TB_1 216 rfl rfl, inX5, tyX5_ok, nmX5, rfl, rfl, rfl⟩
set_option maxRecDepth 20000 in
theorem flX5_28 : ax_FL RX5 28 5 2 (.object "StorageLedger$Journal") true := ⟨RX5, TX5, 8, tyX5, rfl, by decide, TB_1 217 rfl rfl, inX5, tyX5_ok, nmX5, rfl, rfl, rfl⟩
set_option maxRecDepth 20000 in
theorem flX0_109 : ax_FL RX0 109 5 2 (.object "StorageLedger$Journal") true := ⟨RX5, TX5, 8, tyX5, rfl, by decide, TB_1 218 rfl rfl, inX5, tyX5_ok, nmX5, rfl, rfl, rfl⟩
set_option maxRecDepth 20000 in
theorem flX9_264 : ax_FL RX9 264 5 2 (.object "StorageLedger$Journal") true := ⟨RX5, TX5, 8, tyX5, rfl, by decide, TB_1 219 rfl rfl, inX5, tyX5_ok, nmX5, rfl, rfl, rfl⟩
set_option maxRecDepth 20000 in
theorem flX5_35 : ax_FL RX5 35 5 3 (.object "StorageLedger$Reservations") true := ⟨RX5, TX5, 8, tyX5, rfl, by decide, TB_1 220 rfl rfl, inX5, tyX5_ok, nmX5, rfl, rfl, rfl⟩
set_option maxRecDepth 20000 in
theorem flX9_196 : ax_FL RX9 196 5 3 (.object "StorageLedger$Reservations") true := ⟨RX5, TX5, 8, tyX5, rfl, by decide, TB_1 221 rfl rfl, inX5, tyX5_ok, nmX5, rfl, rfl, rfl⟩
set_option maxRecDepth 20000 in
theorem flX5_42 : ax_FL RX5 42 5 4 (.object "StorageLedger$Checkpoints") true := ⟨RX5, TX5, 8, tyX5, rfl, by decide, TB_1 222 rfl rfl, inX5, tyX5_ok, nmX5, rfl, rfl, rfl⟩
set_option maxRecDepth 20000 in
theorem flX9_349 : ax_FL RX9 349 5 4 (.object "StorageLedger$Checkpoints") true := ⟨RX5, TX5, 8, tyX5, rfl, by decide, TB_1 223 rfl rfl, inX5, tyX5_ok, nmX5, rfl, rfl, rfl⟩
set_option maxRecDepth 20000 in
theorem flX5_46 : ax_FL RX5 46 5 5 (.int) false := ⟨RX5, TX5, 8, tyX5, rfl, by decide, TB_1 224 rfl rfl, inX5, tyX5_ok, nmX5, rfl, rfl, rfl⟩
set_option maxRecDepth 20000 in
theorem flX9_137 : ax_FL RX9 137 5 5 (.int) false := ⟨RX5, TX5, 8, tyX5, rfl, by decide, TB_1 225 rfl rfl, inX5, tyX5_ok, nmX5, rfl, rfl, rfl⟩
set_option maxRecDepth 20000 in
theorem flX5_50 : ax_FL RX5 50 5 6 (.int) false := ⟨RX5, TX5, 8, tyX5, rfl, by decide, TB_1 226 rfl rfl, inX5, tyX5_ok, nmX5, rfl, rfl, rfl⟩
set_option maxRecDepth 20000 in
theorem flX3_109 : ax_FL RX3 109 5 6 (.int) false := ⟨RX5, TX5, 8, tyX5, rfl, by decide, TB_1 227 rfl rfl, inX5, tyX5_ok, nmX5, rfl, rfl, rfl⟩
set_option maxRecDepth 20000 in
theorem flX9_134 : ax_FL RX9 134 5 6 (.int) false := ⟨RX5, TX5, 8, tyX5, rfl, by decide, TB_1 228 rfl rfl, inX5, tyX5_ok, nmX5, rfl, rfl, rfl⟩
set_option maxRecDepth 20000 in
theorem flX5_53 : ax_FL RX5 53 5 7 (.array .int) true := ⟨RX5, TX5, 8, tyX5, rfl, by decide, TB_1 229 rfl rfl, inX5, tyX5_ok, nmX5, rfl, rfl, rfl⟩
set_option maxRecDepth 20000 in
theorem flX9_10 : ax_FL RX9 10 9 0 (.object "StorageLedger$Text") true := ⟨RX9, TX9, 7, tyX9, rfl, by decide, TB_2 33 rfl rfl, inX9, tyX9_ok, nmX9, rfl, rfl, rfl⟩
set_option maxRecDepth 20000 in
theorem flX9_21 : ax_FL RX9 21 9 1 (.object "StorageLedger$DescriptionReader") true := ⟨RX9, TX9, 7, tyX9, rfl, by decide, TB_2 34 rfl rfl, inX9, tyX9_ok, nmX9, rfl, rfl, rfl⟩
set_option maxRecDepth 20000 in
theorem flX9_28 : ax_FL RX9 28 9 2 (.object "StorageLedger$BatchReader") true := ⟨RX9, TX9, 7, tyX9, rfl, by decide, TB_2 35 rfl rfl, inX9, tyX9_ok, nmX9, rfl, rfl, rfl⟩
set_option maxRecDepth 20000 in
theorem flX9_34 : ax_FL RX9 34 9 3 (.array (.object "StorageLedger$Ledger")) true := ⟨RX9, TX9, 7, tyX9, rfl, by decide, TB_2 36 rfl rfl, inX9, tyX9_ok, nmX9, rfl, rfl, rfl⟩
set_option maxRecDepth 20000 in
theorem flX9_39 : ax_FL RX9 39 9 4 (.object "StorageLedger$Ledger") false := ⟨RX9, TX9, 7, tyX9, rfl, by decide, TB_2 37 rfl rfl, inX9, tyX9_ok, nmX9, rfl, rfl, rfl⟩
set_option maxRecDepth 20000 in
theorem flX9_43 : ax_FL RX9 43 9 5 (.object "StorageLedger$Ledger") false := ⟨RX9, TX9, 7, tyX9, rfl, by decide, TB_2 38 rfl rfl, inX9, tyX9_ok, nmX9, rfl, rfl, rfl⟩
set_option maxRecDepth 20000 in
theorem flX9_46 : ax_FL RX9 46 9 6 (.int) false := ⟨RX9, TX9, 7, tyX9, rfl, by decide, TB_2 39 rfl rfl, inX9, tyX9_ok, nmX9, rfl, rfl, rfl⟩
set_option maxRecDepth 20000 in
theorem flX10_9 : ax_FL RX10 9 10 0 (.array .int) false := ⟨RX10, TX10, 19, tyX10, rfl, by decide, TB_6 158 rfl rfl, inX10, tyX10_ok, nmX10, rfl, rfl, rfl⟩
set_option maxRecDepth 20000 in
theorem flX10_13 : ax_FL RX10 13 10 1 (.array .int) true := ⟨RX10, TX10, 19, tyX10, rfl, by decide, TB_6 159 rfl rfl, inX10, tyX10_ok, nmX10, rfl, rfl, rfl⟩
set_option maxRecDepth 20000 in
theorem flX10_16 : ax_FL RX10 16 10 2 (.array .int) true := ⟨RX10, TX10, 19, tyX10, rfl, by decide, TB_6 160 rfl rfl, inX10, tyX10_ok, nmX10, rfl, rfl, rfl⟩
set_option maxRecDepth 20000 in
theorem flX10_19 : ax_FL RX10 19 10 3 (.array .int) true := ⟨RX10, TX10, 19, tyX10, rfl, by decide, TB_6 161 rfl rfl, inX10, tyX10_ok, nmX10, rfl, rfl, rfl⟩
set_option maxRecDepth 20000 in
theorem flX10_22 : ax_FL RX10 22 10 4 (.array .float) true := ⟨RX10, TX10, 19, tyX10, rfl, by decide, TB_6 162 rfl rfl, inX10, tyX10_ok, nmX10, rfl, rfl, rfl⟩
set_option maxRecDepth 20000 in
theorem flX10_26 : ax_FL RX10 26 10 5 (.array .float) true := ⟨RX10, TX10, 19, tyX10, rfl, by decide, TB_6 163 rfl rfl, inX10, tyX10_ok, nmX10, rfl, rfl, rfl⟩
set_option maxRecDepth 20000 in
theorem flX10_29 : ax_FL RX10 29 10 6 (.array .float) true := ⟨RX10, TX10, 19, tyX10, rfl, by decide, TB_6 164 rfl rfl, inX10, tyX10_ok, nmX10, rfl, rfl, rfl⟩
set_option maxRecDepth 20000 in
theorem flX10_32 : ax_FL RX10 32 10 7 (.array .boolean) true := ⟨RX10, TX10, 19, tyX10, rfl, by decide, TB_6 165 rfl rfl, inX10, tyX10_ok, nmX10, rfl, rfl, rfl⟩
set_option maxRecDepth 20000 in
theorem flX10_50 : ax_FL RX10 50 10 8 (.int) false := ⟨RX10, TX10, 19, tyX10, rfl, by decide, TB_6 166 rfl rfl, inX10, tyX10_ok, nmX10, rfl, rfl, rfl⟩
set_option maxRecDepth 20000 in
theorem flX10_36 : ax_FL RX10 36 10 9 (.array .boolean) true := ⟨RX10, TX10, 19, tyX10, rfl, by decide, TB_6 167 rfl rfl, inX10, tyX10_ok, nmX10, rfl, rfl, rfl⟩
set_option maxRecDepth 20000 in
theorem flX10_39 : ax_FL RX10 39 10 10 (.array .byte) true := ⟨RX10, TX10, 19, tyX10, rfl, by decide, TB_6 168 rfl rfl, inX10, tyX10_ok, nmX10, rfl, rfl, rfl⟩
set_option maxRecDepth 20000 in
theorem flX10_154 : ax_FL RX10 154 10 11 (.int) false := ⟨RX10, TX10, 19, tyX10, rfl, by decide, TB_6 169 rfl rfl, inX10, tyX10_ok, nmX10, rfl, rfl, rfl⟩
set_option maxRecDepth 20000 in
theorem flX10_157 : ax_FL RX10 157 10 12 (.int) false := ⟨RX10, TX10, 19, tyX10, rfl, by decide, TB_6 170 rfl rfl, inX10, tyX10_ok, nmX10, rfl, rfl, rfl⟩
set_option maxRecDepth 20000 in
theorem flX10_164 : ax_FL RX10 164 10 13 (.int) false := ⟨RX10, TX10, 19, tyX10, rfl, by decide, TB_6 171 rfl rfl, inX10, tyX10_ok, nmX10, rfl, rfl, rfl⟩
set_option maxRecDepth 20000 in
theorem flX10_167 : ax_FL RX10 167 10 14 (.int) false := ⟨RX10, TX10, 19, tyX10, rfl, by decide, TB_6 172 rfl rfl, inX10, tyX10_ok, nmX10, rfl, rfl, rfl⟩
set_option maxRecDepth 20000 in
theorem flX10_170 : ax_FL RX10 170 10 15 (.int) false := ⟨RX10, TX10, 19, tyX10, rfl, by decide, TB_6 173 rfl rfl, inX10, tyX10_ok, nmX10, rfl, rfl, rfl⟩
set_option maxRecDepth 20000 in
theorem flX10_249 : ax_FL RX10 249 10 16 (.int) false := ⟨RX10, TX10, 19, tyX10, rfl, by decide, TB_6 174 rfl rfl, inX10, tyX10_ok, nmX10, rfl, rfl, rfl⟩
set_option maxRecDepth 20000 in
theorem flX10_43 : ax_FL RX10 43 10 17 (.array .int) true := ⟨RX10, TX10, 19, tyX10, rfl, by decide, TB_6 175 rfl rfl, inX10, tyX10_ok, nmX10, rfl, rfl, rfl⟩
set_option maxRecDepth 20000 in
theorem flX10_255 : ax_FL RX10 255 10 18 (.int) false := ⟨RX10, TX10, 19, tyX10, rfl, by decide, TB_6 176 rfl rfl, inX10, tyX10_ok, nmX10, rfl, rfl, rfl⟩
set_option maxRecDepth 20000 in
theorem nlL_8 : ax_NL RL 8 9 [.null, .null, .null, .null, .null, .null, .int 0] := ⟨RX9, TX9, 7, tyX9, rfl, TB_1 23 rfl rfl, TB_1 24 rfl rfl, TB_1 1 rfl rfl, inX9, tyX9_ok, rfl, by decide +kernel⟩
set_option maxRecDepth 20000 in
theorem nlX9_7 : ax_NL RX9 7 8 [.null, .int 0, .int 0, .int 0, .int 0, .int 0, .int 0] := ⟨RX8, TX8, 7, tyX8, rfl, TB_1 31 rfl rfl, TB_1 32 rfl rfl, TB_1 2 rfl rfl, inX8, tyX8_ok, rfl, by decide +kernel⟩
set_option maxRecDepth 20000 in
theorem nlX9_16 : ax_NL RX9 16 3 [.null] := ⟨RX3, TX3, 1, tyX3, rfl, TB_1 68 rfl rfl, TB_1 69 rfl rfl, TB_1 3 rfl rfl, inX3, tyX3_ok, rfl, by decide +kernel⟩
set_option maxRecDepth 20000 in
theorem nlX9_25 : ax_NL RX9 25 0 [.null, .null, .int 0] := ⟨RX0, TX0, 3, tyX0, rfl, TB_1 78 rfl rfl, TB_1 79 rfl rfl, TB_1 4 rfl rfl, inX0, tyX0_ok, rfl, by decide +kernel⟩
set_option maxRecDepth 20000 in
theorem nlX9_32 : ax_NL RX9 32 5 [.null, .null, .null, .null, .null, .int 0, .int 0, .null] := ⟨RX5, TX5, 8, tyX5, rfl, TB_1 95 rfl rfl, TB_1 97 rfl rfl, TB_1 5 rfl rfl, inX5, tyX5_ok, rfl, by decide +kernel⟩
set_option maxRecDepth 20000 in
theorem nlX5_9 : ax_NL RX5 9 6 [.int 0, .null, .null, .null, .null, .null] := ⟨RX6, TX6, 6, tyX6, rfl, TB_1 102 rfl rfl, TB_1 103 rfl rfl, TB_1 6 rfl rfl, inX6, tyX6_ok, rfl, by decide +kernel⟩
set_option maxRecDepth 20000 in
theorem nlX5_18 : ax_NL RX5 18 1 [.int 0, .null, .null, .null] := ⟨RX1, TX1, 4, tyX1, rfl, TB_1 135 rfl rfl, TB_1 136 rfl rfl, TB_1 7 rfl rfl, inX1, tyX1_ok, rfl, by decide +kernel⟩
set_option maxRecDepth 20000 in
theorem nlX5_25 : ax_NL RX5 25 4 [.int 0, .null, .null] := ⟨RX4, TX4, 3, tyX4, rfl, TB_1 162 rfl rfl, TB_1 163 rfl rfl, TB_1 8 rfl rfl, inX4, tyX4_ok, rfl, by decide +kernel⟩
set_option maxRecDepth 20000 in
theorem nlX5_32 : ax_NL RX5 32 7 [.int 0, .null] := ⟨RX7, TX7, 2, tyX7, rfl, TB_1 182 rfl rfl, TB_1 183 rfl rfl, TB_1 9 rfl rfl, inX7, tyX7_ok, rfl, by decide +kernel⟩
set_option maxRecDepth 20000 in
theorem nlX5_39 : ax_NL RX5 39 2 [.int 0, .null] := ⟨RX2, TX2, 2, tyX2, rfl, TB_1 197 rfl rfl, TB_1 198 rfl rfl, TB_1 10 rfl rfl, inX2, tyX2_ok, rfl, by decide +kernel⟩
set_option maxRecDepth 20000 in
theorem nlL_147 : ax_NL RL 147 10 [.null, .null, .null, .null, .null, .null, .null, .null, .int 0, .null, .null, .int 0, .int 0, .int 0, .int 0, .int 0, .int 0, .null, .int 0] := ⟨RX10, TX10, 19, tyX10, rfl, TB_6 149 rfl rfl, TB_6 150 rfl rfl, TB_1 11 rfl rfl, inX10, tyX10_ok, rfl, by decide +kernel⟩
set_option maxRecDepth 20000 in
theorem ac_int : Cond.arrayClass (newarray.typeOf .int) ∈ TB := TB_1 67 rfl rfl
set_option maxRecDepth 20000 in
theorem ac_float : Cond.arrayClass (newarray.typeOf .float) ∈ TB := TB_1 134 rfl rfl
set_option maxRecDepth 20000 in
theorem ac_boolean : Cond.arrayClass (newarray.typeOf .boolean) ∈ TB := TB_1 161 rfl rfl
set_option maxRecDepth 20000 in
theorem ac_long : Cond.arrayClass (newarray.typeOf .long) ∈ TB := TB_1 181 rfl rfl
set_option maxRecDepth 20000 in
theorem ac_byte : Cond.arrayClass (newarray.typeOf .byte) ∈ TB := TB_3 9 rfl rfl
set_option maxRecDepth 20000 in
theorem ac_double : Cond.arrayClass (newarray.typeOf .double) ∈ TB := TB_8 225 rfl rfl
