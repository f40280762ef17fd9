theorem dX2_placeOfName_1 : decode cX2_placeOfName 1 = .ok (.istore_n 3, 1) := by decide +kernel
theorem dX2_placeOfName_2 : decode cX2_placeOfName 2 = .ok (.iload_n 3, 1) := by decide +kernel
theorem dX2_placeOfName_3 : decode cX2_placeOfName 3 = .ok (.bipush 8, 2) := by decide +kernel
theorem dX2_placeOfName_5 : decode cX2_placeOfName 5 = .ok (.if_icmp .ge 24, 3) := by decide +kernel
theorem dX2_placeOfName_8 : decode cX2_placeOfName 8 = .ok (.aload_n 0, 1) := by decide +kernel
theorem dX2_placeOfName_9 : decode cX2_placeOfName 9 = .ok (.iload_n 1, 1) := by decide +kernel
theorem dX2_placeOfName_10 : decode cX2_placeOfName 10 = .ok (.iload_n 3, 1) := by decide +kernel
theorem dX2_placeOfName_11 : decode cX2_placeOfName 11 = .ok (.invokevirtual 88, 3) := by decide +kernel
theorem dX2_placeOfName_14 : decode cX2_placeOfName 14 = .ok (.invokestatic 180, 3) := by decide +kernel
theorem dX2_placeOfName_17 : decode cX2_placeOfName 17 = .ok (.iload_n 2, 1) := by decide +kernel
theorem dX2_placeOfName_18 : decode cX2_placeOfName 18 = .ok (.if_icmp .ne 5, 3) := by decide +kernel
theorem dX2_placeOfName_21 : decode cX2_placeOfName 21 = .ok (.iload_n 3, 1) := by decide +kernel
theorem dX2_placeOfName_22 : decode cX2_placeOfName 22 = .ok (.ireturn, 1) := by decide +kernel
theorem dX2_placeOfName_23 : decode cX2_placeOfName 23 = .ok (.iinc 3 1, 3) := by decide +kernel
theorem dX2_placeOfName_26 : decode cX2_placeOfName 26 = .ok (.goto (-24), 3) := by decide +kernel
theorem dX2_placeOfName_29 : decode cX2_placeOfName 29 = .ok (.bipush (-3), 2) := by decide +kernel
theorem dX2_placeOfName_31 : decode cX2_placeOfName 31 = .ok (.ireturn, 1) := by decide +kernel
set_option maxRecDepth 20000 in
theorem ggX2_leastPlaceWithoutEntry_X2_placeOf : GoodIn wsX2_leastPlaceWithoutEntry wsX2_placeOf := goodIn_r _ [5, 6, 7, 8, 4, 9, 10, 11, 12, 13, 14, 15, 16, 17, 18, 19, 20, 21, 22, 23, 24, 25, 26, 27] (by decide +kernel) (by decide +kernel)
set_option maxRecDepth 20000 in
theorem gX2_leastPlaceWithoutEntry_X2_placeOf : GoodIn wsX2_leastPlaceWithoutEntry (wsV RX2 88 RX2 yX2_placeOf wsX2_placeOf) := goodIn_app (goodIn_of _ (by decide +kernel)) ggX2_leastPlaceWithoutEntry_X2_placeOf
theorem dX2_leastPlaceWithoutEntry_0 : decode cX2_leastPlaceWithoutEntry 0 = .ok (.iconst 0, 1) := by decide +kernel
theorem dX2_leastPlaceWithoutEntry_1 : decode cX2_leastPlaceWithoutEntry 1 = .ok (.istore_n 2, 1) := by decide +kernel
theorem dX2_leastPlaceWithoutEntry_2 : decode cX2_leastPlaceWithoutEntry 2 = .ok (.iload_n 2, 1) := by decide +kernel
theorem dX2_leastPlaceWithoutEntry_3 : decode cX2_leastPlaceWithoutEntry 3 = .ok (.bipush 8, 2) := by decide +kernel
theorem dX2_leastPlaceWithoutEntry_5 : decode cX2_leastPlaceWithoutEntry 5 = .ok (.if_icmp .ge 20, 3) := by decide +kernel
theorem dX2_leastPlaceWithoutEntry_8 : decode cX2_leastPlaceWithoutEntry 8 = .ok (.aload_n 0, 1) := by decide +kernel
theorem dX2_leastPlaceWithoutEntry_9 : decode cX2_leastPlaceWithoutEntry 9 = .ok (.iload_n 1, 1) := by decide +kernel
theorem dX2_leastPlaceWithoutEntry_10 : decode cX2_leastPlaceWithoutEntry 10 = .ok (.iload_n 2, 1) := by decide +kernel
theorem dX2_leastPlaceWithoutEntry_11 : decode cX2_leastPlaceWithoutEntry 11 = .ok (.invokevirtual 88, 3) := by decide +kernel
theorem dX2_leastPlaceWithoutEntry_14 : decode cX2_leastPlaceWithoutEntry 14 = .ok (.ifCond .ne 5, 3) := by decide +kernel
theorem dX2_leastPlaceWithoutEntry_17 : decode cX2_leastPlaceWithoutEntry 17 = .ok (.iload_n 2, 1) := by decide +kernel
theorem dX2_leastPlaceWithoutEntry_18 : decode cX2_leastPlaceWithoutEntry 18 = .ok (.ireturn, 1) := by decide +kernel
theorem dX2_leastPlaceWithoutEntry_19 : decode cX2_leastPlaceWithoutEntry 19 = .ok (.iinc 2 1, 3) := by decide +kernel
theorem dX2_leastPlaceWithoutEntry_22 : decode cX2_leastPlaceWithoutEntry 22 = .ok (.goto (-20), 3) := by decide +kernel
theorem dX2_leastPlaceWithoutEntry_25 : decode cX2_leastPlaceWithoutEntry 25 = .ok (.bipush (-3), 2) := by decide +kernel
theorem dX2_leastPlaceWithoutEntry_27 : decode cX2_leastPlaceWithoutEntry 27 = .ok (.ireturn, 1) := by decide +kernel
set_option maxRecDepth 20000 in
theorem ggX2_entriesOf_X2_placeOf : GoodIn wsX2_entriesOf wsX2_placeOf := goodIn_r _ [5, 6, 7, 8, 4, 9, 10, 11, 12, 13, 14, 15, 16, 17, 18, 19, 20, 21, 22, 23, 24, 25, 26, 27] (by decide +kernel) (by decide +kernel)
set_option maxRecDepth 20000 in
theorem gX2_entriesOf_X2_placeOf : GoodIn wsX2_entriesOf (wsV RX2 88 RX2 yX2_placeOf wsX2_placeOf) := goodIn_app (goodIn_of _ (by decide +kernel)) ggX2_entriesOf_X2_placeOf
theorem dX2_entriesOf_0 : decode cX2_entriesOf 0 = .ok (.iconst 0, 1) := by decide +kernel
theorem dX2_entriesOf_1 : decode cX2_entriesOf 1 = .ok (.istore_n 2, 1) := by decide +kernel
theorem dX2_entriesOf_2 : decode cX2_entriesOf 2 = .ok (.iconst 0, 1) := by decide +kernel
theorem dX2_entriesOf_3 : decode cX2_entriesOf 3 = .ok (.istore_n 3, 1) := by decide +kernel
theorem dX2_entriesOf_4 : decode cX2_entriesOf 4 = .ok (.iload_n 3, 1) := by decide +kernel
theorem dX2_entriesOf_5 : decode cX2_entriesOf 5 = .ok (.bipush 8, 2) := by decide +kernel
theorem dX2_entriesOf_7 : decode cX2_entriesOf 7 = .ok (.if_icmp .ge 21, 3) := by decide +kernel
theorem dX2_entriesOf_10 : decode cX2_entriesOf 10 = .ok (.aload_n 0, 1) := by decide +kernel
theorem dX2_entriesOf_11 : decode cX2_entriesOf 11 = .ok (.iload_n 1, 1) := by decide +kernel
theorem dX2_entriesOf_12 : decode cX2_entriesOf 12 = .ok (.iload_n 3, 1) := by decide +kernel
theorem dX2_entriesOf_13 : decode cX2_entriesOf 13 = .ok (.invokevirtual 88, 3) := by decide +kernel
theorem dX2_entriesOf_16 : decode cX2_entriesOf 16 = .ok (.ifCond .eq 6, 3) := by decide +kernel
theorem dX2_entriesOf_19 : decode cX2_entriesOf 19 = .ok (.iinc 2 1, 3) := by decide +kernel
theorem dX2_entriesOf_22 : decode cX2_entriesOf 22 = .ok (.iinc 3 1, 3) := by decide +kernel
theorem dX2_entriesOf_25 : decode cX2_entriesOf 25 = .ok (.goto (-21), 3) := by decide +kernel
theorem dX2_entriesOf_28 : decode cX2_entriesOf 28 = .ok (.iload_n 2, 1) := by decide +kernel
theorem dX2_entriesOf_29 : decode cX2_entriesOf 29 = .ok (.ireturn, 1) := by decide +kernel
set_option maxRecDepth 20000 in
theorem ggX2_hasEntryOf_X2_placeOf : GoodIn wsX2_hasEntryOf wsX2_placeOf := goodIn_r _ [5, 6, 7, 8, 4, 9, 10, 11, 12, 13, 14, 15, 16, 17, 18, 22, 23, 24, 25, 26, 27, 28, 29, 30] (by decide +kernel) (by decide +kernel)
set_option maxRecDepth 20000 in
theorem gX2_hasEntryOf_X2_placeOf : GoodIn wsX2_hasEntryOf (wsV RX2 88 RX2 yX2_placeOf wsX2_placeOf) := goodIn_app (goodIn_of _ (by decide +kernel)) ggX2_hasEntryOf_X2_placeOf
set_option maxRecDepth 20000 in
theorem ggX2_hasEntryOf_X2_inodeOfEntry : GoodIn wsX2_hasEntryOf wsX2_inodeOfEntry := goodIn_r _ [21] (by decide +kernel) (by decide +kernel)
set_option maxRecDepth 20000 in
theorem gX2_hasEntryOf_X2_inodeOfEntry : GoodIn wsX2_hasEntryOf (va_wsS RX2 91 yX2_inodeOfEntry wsX2_inodeOfEntry) := goodIn_app (goodIn_of _ (by decide +kernel)) ggX2_hasEntryOf_X2_inodeOfEntry
theorem dX2_hasEntryOf_0 : decode cX2_hasEntryOf 0 = .ok (.iconst 0, 1) := by decide +kernel
theorem dX2_hasEntryOf_1 : decode cX2_hasEntryOf 1 = .ok (.istore_n 3, 1) := by decide +kernel
theorem dX2_hasEntryOf_2 : decode cX2_hasEntryOf 2 = .ok (.iload_n 3, 1) := by decide +kernel
theorem dX2_hasEntryOf_3 : decode cX2_hasEntryOf 3 = .ok (.bipush 8, 2) := by decide +kernel
theorem dX2_hasEntryOf_5 : decode cX2_hasEntryOf 5 = .ok (.if_icmp .ge 33, 3) := by decide +kernel
theorem dX2_hasEntryOf_8 : decode cX2_hasEntryOf 8 = .ok (.aload_n 0, 1) := by decide +kernel
theorem dX2_hasEntryOf_9 : decode cX2_hasEntryOf 9 = .ok (.iload_n 1, 1) := by decide +kernel
theorem dX2_hasEntryOf_10 : decode cX2_hasEntryOf 10 = .ok (.iload_n 3, 1) := by decide +kernel
theorem dX2_hasEntryOf_11 : decode cX2_hasEntryOf 11 = .ok (.invokevirtual 88, 3) := by decide +kernel
theorem dX2_hasEntryOf_14 : decode cX2_hasEntryOf 14 = .ok (.istore 4, 2) := by decide +kernel
theorem dX2_hasEntryOf_16 : decode cX2_hasEntryOf 16 = .ok (.iload 4, 2) := by decide +kernel
theorem dX2_hasEntryOf_18 : decode cX2_hasEntryOf 18 = .ok (.ifCond .eq 14, 3) := by decide +kernel
theorem dX2_hasEntryOf_21 : decode cX2_hasEntryOf 21 = .ok (.iload 4, 2) := by decide +kernel
theorem dX2_hasEntryOf_23 : decode cX2_hasEntryOf 23 = .ok (.invokestatic 91, 3) := by decide +kernel
theorem dX2_hasEntryOf_26 : decode cX2_hasEntryOf 26 = .ok (.iload_n 2, 1) := by decide +kernel
theorem dX2_hasEntryOf_27 : decode cX2_hasEntryOf 27 = .ok (.if_icmp .ne 5, 3) := by decide +kernel
theorem dX2_hasEntryOf_30 : decode cX2_hasEntryOf 30 = .ok (.iconst 1, 1) := by decide +kernel
theorem dX2_hasEntryOf_31 : decode cX2_hasEntryOf 31 = .ok (.ireturn, 1) := by decide +kernel
theorem dX2_hasEntryOf_32 : decode cX2_hasEntryOf 32 = .ok (.iinc 3 1, 3) := by decide +kernel
theorem dX2_hasEntryOf_35 : decode cX2_hasEntryOf 35 = .ok (.goto (-33), 3) := by decide +kernel
theorem dX2_hasEntryOf_38 : decode cX2_hasEntryOf 38 = .ok (.iconst 0, 1) := by decide +kernel
theorem dX2_hasEntryOf_39 : decode cX2_hasEntryOf 39 = .ok (.ireturn, 1) := by decide +kernel
set_option maxRecDepth 20000 in
theorem ggX2_directoryAbove_X2_kindOf : GoodIn wsX2_directoryAbove wsX2_kindOf := goodIn_r _ [5, 6, 7, 8, 4, 9, 10, 11, 12, 13, 14, 15, 30, 31, 32, 33, 34, 35, 36, 37, 38] (by decide +kernel) (by decide +kernel)
set_option maxRecDepth 20000 in
theorem gX2_directoryAbove_X2_kindOf : GoodIn wsX2_directoryAbove (wsV RX2 94 RX2 yX2_kindOf wsX2_kindOf) := goodIn_app (goodIn_of _ (by decide +kernel)) ggX2_directoryAbove_X2_kindOf
set_option maxRecDepth 20000 in
theorem ggX2_directoryAbove_X2_hasEntryOf : GoodIn wsX2_directoryAbove wsX2_hasEntryOf := goodIn_r _ [19, 20, 21, 22, 4, 23, 6, 24, 25, 26, 7, 8, 9, 10, 11, 12, 13, 14, 15, 27, 28, 29, 30, 31, 32, 33, 34, 35, 36, 37, 38] (by decide +kernel) (by decide +kernel)
set_option maxRecDepth 20000 in
theorem gX2_directoryAbove_X2_hasEntryOf : GoodIn wsX2_directoryAbove (wsV RX2 183 RX2 yX2_hasEntryOf wsX2_hasEntryOf) := goodIn_app (goodIn_of _ (by decide +kernel)) ggX2_directoryAbove_X2_hasEntryOf
theorem dX2_directoryAbove_0 : decode cX2_directoryAbove 0 = .ok (.iconst 0, 1) := by decide +kernel
theorem dX2_directoryAbove_1 : decode cX2_directoryAbove 1 = .ok (.istore_n 2, 1) := by decide +kernel
theorem dX2_directoryAbove_2 : decode cX2_directoryAbove 2 = .ok (.iload_n 2, 1) := by decide +kernel
theorem dX2_directoryAbove_3 : decode cX2_directoryAbove 3 = .ok (.bipush 12, 2) := by decide +kernel
theorem dX2_directoryAbove_5 : decode cX2_directoryAbove 5 = .ok (.if_icmp .ge 29, 3) := by decide +kernel
theorem dX2_directoryAbove_8 : decode cX2_directoryAbove 8 = .ok (.aload_n 0, 1) := by decide +kernel
theorem dX2_directoryAbove_9 : decode cX2_directoryAbove 9 = .ok (.iload_n 2, 1) := by decide +kernel
theorem dX2_directoryAbove_10 : decode cX2_directoryAbove 10 = .ok (.invokevirtual 94, 3) := by decide +kernel
theorem dX2_directoryAbove_13 : decode cX2_directoryAbove 13 = .ok (.iconst 1, 1) := by decide +kernel
theorem dX2_directoryAbove_14 : decode cX2_directoryAbove 14 = .ok (.if_icmp .ne 14, 3) := by decide +kernel
theorem dX2_directoryAbove_17 : decode cX2_directoryAbove 17 = .ok (.aload_n 0, 1) := by decide +kernel
theorem dX2_directoryAbove_18 : decode cX2_directoryAbove 18 = .ok (.iload_n 2, 1) := by decide +kernel
theorem dX2_directoryAbove_19 : decode cX2_directoryAbove 19 = .ok (.iload_n 1, 1) := by decide +kernel
theorem dX2_directoryAbove_20 : decode cX2_directoryAbove 20 = .ok (.invokevirtual 183, 3) := by decide +kernel
theorem dX2_directoryAbove_23 : decode cX2_directoryAbove 23 = .ok (.ifCond .eq 5, 3) := by decide +kernel
theorem dX2_directoryAbove_26 : decode cX2_directoryAbove 26 = .ok (.iload_n 2, 1) := by decide +kernel
theorem dX2_directoryAbove_27 : decode cX2_directoryAbove 27 = .ok (.ireturn, 1) := by decide +kernel
theorem dX2_directoryAbove_28 : decode cX2_directoryAbove 28 = .ok (.iinc 2 1, 3) := by decide +kernel
theorem dX2_directoryAbove_31 : decode cX2_directoryAbove 31 = .ok (.goto (-29), 3) := by decide +kernel
theorem dX2_directoryAbove_34 : decode cX2_directoryAbove 34 = .ok (.bipush (-3), 2) := by decide +kernel
theorem dX2_directoryAbove_36 : decode cX2_directoryAbove 36 = .ok (.ireturn, 1) := by decide +kernel
set_option maxRecDepth 20000 in
theorem ggX2_isWithin_X2_directoryAbove : GoodIn wsX2_isWithin wsX2_directoryAbove := goodIn_r _ [5, 6, 7, 8, 4, 9, 10, 11, 12, 13, 14, 15, 16, 17, 18, 19, 20, 21, 22, 23, 24, 25, 26, 27, 28, 29, 30, 31, 32, 33, 34, 35, 36, 37, 38, 39, 40, 41, 42] (by decide +kernel) (by decide +kernel)
set_option maxRecDepth 20000 in
theorem gX2_isWithin_X2_directoryAbove : GoodIn wsX2_isWithin (wsV RX2 186 RX2 yX2_directoryAbove wsX2_directoryAbove) := goodIn_app (goodIn_of _ (by decide +kernel)) ggX2_isWithin_X2_directoryAbove
theorem dX2_isWithin_0 : decode cX2_isWithin 0 = .ok (.iload_n 1, 1) := by decide +kernel
theorem dX2_isWithin_1 : decode cX2_isWithin 1 = .ok (.istore_n 3, 1) := by decide +kernel
theorem dX2_isWithin_2 : decode cX2_isWithin 2 = .ok (.iconst 0, 1) := by decide +kernel
theorem dX2_isWithin_3 : decode cX2_isWithin 3 = .ok (.istore 4, 2) := by decide +kernel
theorem dX2_isWithin_5 : decode cX2_isWithin 5 = .ok (.iload 4, 2) := by decide +kernel
theorem dX2_isWithin_7 : decode cX2_isWithin 7 = .ok (.bipush 12, 2) := by decide +kernel
theorem dX2_isWithin_9 : decode cX2_isWithin 9 = .ok (.if_icmp .ge 28, 3) := by decide +kernel
theorem dX2_isWithin_12 : decode cX2_isWithin 12 = .ok (.iload_n 3, 1) := by decide +kernel
theorem dX2_isWithin_13 : decode cX2_isWithin 13 = .ok (.bipush (-3), 2) := by decide +kernel
theorem dX2_isWithin_15 : decode cX2_isWithin 15 = .ok (.if_icmp .eq 22, 3) := by decide +kernel
theorem dX2_isWithin_18 : decode cX2_isWithin 18 = .ok (.iload_n 3, 1) := by decide +kernel
theorem dX2_isWithin_19 : decode cX2_isWithin 19 = .ok (.iload_n 2, 1) := by decide +kernel
theorem dX2_isWithin_20 : decode cX2_isWithin 20 = .ok (.if_icmp .ne 5, 3) := by decide +kernel
theorem dX2_isWithin_23 : decode cX2_isWithin 23 = .ok (.iconst 1, 1) := by decide +kernel
theorem dX2_isWithin_24 : decode cX2_isWithin 24 = .ok (.ireturn, 1) := by decide +kernel
theorem dX2_isWithin_25 : decode cX2_isWithin 25 = .ok (.aload_n 0, 1) := by decide +kernel
theorem dX2_isWithin_26 : decode cX2_isWithin 26 = .ok (.iload_n 3, 1) := by decide +kernel
theorem dX2_isWithin_27 : decode cX2_isWithin 27 = .ok (.invokevirtual 186, 3) := by decide +kernel
theorem dX2_isWithin_30 : decode cX2_isWithin 30 = .ok (.istore_n 3, 1) := by decide +kernel
theorem dX2_isWithin_31 : decode cX2_isWithin 31 = .ok (.iinc 4 1, 3) := by decide +kernel
theorem dX2_isWithin_34 : decode cX2_isWithin 34 = .ok (.goto (-29), 3) := by decide +kernel
theorem dX2_isWithin_37 : decode cX2_isWithin 37 = .ok (.iconst 0, 1) := by decide +kernel
theorem dX2_isWithin_38 : decode cX2_isWithin 38 = .ok (.ireturn, 1) := by decide +kernel
set_option maxRecDepth 20000 in
theorem ggX2_leastInodeOfNoKind_X2_kindOf : GoodIn wsX2_leastInodeOfNoKind wsX2_kindOf := goodIn_r _ [5, 6, 7, 8, 4, 9, 10, 11, 12, 13, 14, 15, 16, 17, 18, 19, 20, 21, 22, 23, 24] (by decide +kernel) (by decide +kernel)
set_option maxRecDepth 20000 in
theorem gX2_leastInodeOfNoKind_X2_kindOf : GoodIn wsX2_leastInodeOfNoKind (wsV RX2 94 RX2 yX2_kindOf wsX2_kindOf) := goodIn_app (goodIn_of _ (by decide +kernel)) ggX2_leastInodeOfNoKind_X2_kindOf
theorem dX2_leastInodeOfNoKind_0 : decode cX2_leastInodeOfNoKind 0 = .ok (.iconst 0, 1) := by decide +kernel
theorem dX2_leastInodeOfNoKind_1 : decode cX2_leastInodeOfNoKind 1 = .ok (.istore_n 1, 1) := by decide +kernel
theorem dX2_leastInodeOfNoKind_2 : decode cX2_leastInodeOfNoKind 2 = .ok (.iload_n 1, 1) := by decide +kernel
theorem dX2_leastInodeOfNoKind_3 : decode cX2_leastInodeOfNoKind 3 = .ok (.bipush 12, 2) := by decide +kernel
theorem dX2_leastInodeOfNoKind_5 : decode cX2_leastInodeOfNoKind 5 = .ok (.if_icmp .ge 19, 3) := by decide +kernel
theorem dX2_leastInodeOfNoKind_8 : decode cX2_leastInodeOfNoKind 8 = .ok (.aload_n 0, 1) := by decide +kernel
theorem dX2_leastInodeOfNoKind_9 : decode cX2_leastInodeOfNoKind 9 = .ok (.iload_n 1, 1) := by decide +kernel
theorem dX2_leastInodeOfNoKind_10 : decode cX2_leastInodeOfNoKind 10 = .ok (.invokevirtual 94, 3) := by decide +kernel
theorem dX2_leastInodeOfNoKind_13 : decode cX2_leastInodeOfNoKind 13 = .ok (.ifCond .ne 5, 3) := by decide +kernel
theorem dX2_leastInodeOfNoKind_16 : decode cX2_leastInodeOfNoKind 16 = .ok (.iload_n 1, 1) := by decide +kernel
theorem dX2_leastInodeOfNoKind_17 : decode cX2_leastInodeOfNoKind 17 = .ok (.ireturn, 1) := by decide +kernel
theorem dX2_leastInodeOfNoKind_18 : decode cX2_leastInodeOfNoKind 18 = .ok (.iinc 1 1, 3) := by decide +kernel
theorem dX2_leastInodeOfNoKind_21 : decode cX2_leastInodeOfNoKind 21 = .ok (.goto (-19), 3) := by decide +kernel
theorem dX2_leastInodeOfNoKind_24 : decode cX2_leastInodeOfNoKind 24 = .ok (.bipush (-3), 2) := by decide +kernel
theorem dX2_leastInodeOfNoKind_26 : decode cX2_leastInodeOfNoKind 26 = .ok (.ireturn, 1) := by decide +kernel
set_option maxRecDepth 20000 in
theorem ggX2_blocksOf_X2_kindOf : GoodIn wsX2_blocksOf wsX2_kindOf := goodIn_r _ [5, 6, 7, 8, 4, 9, 10, 11, 12, 13, 14, 15, 20, 21, 22, 23, 24, 25, 26, 27, 28] (by decide +kernel) (by decide +kernel)
set_option maxRecDepth 20000 in
theorem gX2_blocksOf_X2_kindOf : GoodIn wsX2_blocksOf (wsV RX2 94 RX2 yX2_kindOf wsX2_kindOf) := goodIn_app (goodIn_of _ (by decide +kernel)) ggX2_blocksOf_X2_kindOf
set_option maxRecDepth 20000 in
theorem ggX2_blocksOf_X2_sizeOf : GoodIn wsX2_blocksOf wsX2_sizeOf := goodIn_r _ [19, 6, 7, 8, 4, 9, 10, 11, 12, 13, 14, 15, 20, 21, 22, 23, 24, 25, 26, 27, 28] (by decide +kernel) (by decide +kernel)
set_option maxRecDepth 20000 in
theorem gX2_blocksOf_X2_sizeOf : GoodIn wsX2_blocksOf (wsV RX2 70 RX2 yX2_sizeOf wsX2_sizeOf) := goodIn_app (goodIn_of _ (by decide +kernel)) ggX2_blocksOf_X2_sizeOf
theorem dX2_blocksOf_0 : decode cX2_blocksOf 0 = .ok (.aload_n 0, 1) := by decide +kernel
theorem dX2_blocksOf_1 : decode cX2_blocksOf 1 = .ok (.iload_n 1, 1) := by decide +kernel
theorem dX2_blocksOf_2 : decode cX2_blocksOf 2 = .ok (.invokevirtual 94, 3) := by decide +kernel
theorem dX2_blocksOf_5 : decode cX2_blocksOf 5 = .ok (.iconst 2, 1) := by decide +kernel
theorem dX2_blocksOf_6 : decode cX2_blocksOf 6 = .ok (.if_icmp .ne 11, 3) := by decide +kernel
theorem dX2_blocksOf_9 : decode cX2_blocksOf 9 = .ok (.aload_n 0, 1) := by decide +kernel
theorem dX2_blocksOf_10 : decode cX2_blocksOf 10 = .ok (.iload_n 1, 1) := by decide +kernel
theorem dX2_blocksOf_11 : decode cX2_blocksOf 11 = .ok (.invokevirtual 70, 3) := by decide +kernel
theorem dX2_blocksOf_14 : decode cX2_blocksOf 14 = .ok (.goto 4, 3) := by decide +kernel
theorem dX2_blocksOf_17 : decode cX2_blocksOf 17 = .ok (.iconst 0, 1) := by decide +kernel
theorem dX2_blocksOf_18 : decode cX2_blocksOf 18 = .ok (.ireturn, 1) := by decide +kernel
set_option maxRecDepth 20000 in
theorem ggX2_usedBlocks_X2_blocksOf : GoodIn wsX2_usedBlocks wsX2_blocksOf := goodIn_r _ [5, 6, 7, 8, 4, 9, 10, 11, 12, 13, 14, 15, 16, 17, 18, 19, 20, 21, 22, 23, 31, 32, 33, 34, 35, 36, 37, 38, 39] (by decide +kernel) (by decide +kernel)
set_option maxRecDepth 20000 in
theorem gX2_usedBlocks_X2_blocksOf : GoodIn wsX2_usedBlocks (wsV RX2 189 RX2 yX2_blocksOf wsX2_blocksOf) := goodIn_app (goodIn_of _ (by decide +kernel)) ggX2_usedBlocks_X2_blocksOf
set_option maxRecDepth 20000 in
theorem ggX2_usedBlocks_X2_placeOf : GoodIn wsX2_usedBlocks wsX2_placeOf := goodIn_r _ [27, 10, 28, 29, 4, 30, 11, 12, 13, 14, 15, 16, 17, 18, 19, 31, 32, 33, 34, 35, 36, 37, 38, 39] (by decide +kernel) (by decide +kernel)
set_option maxRecDepth 20000 in
theorem gX2_usedBlocks_X2_placeOf : GoodIn wsX2_usedBlocks (wsV RX2 88 RX2 yX2_placeOf wsX2_placeOf) := goodIn_app (goodIn_of _ (by decide +kernel)) ggX2_usedBlocks_X2_placeOf
theorem dX2_usedBlocks_0 : decode cX2_usedBlocks 0 = .ok (.lconst 0, 1) := by decide +kernel
theorem dX2_usedBlocks_1 : decode cX2_usedBlocks 1 = .ok (.lstore_n 1, 1) := by decide +kernel
theorem dX2_usedBlocks_2 : decode cX2_usedBlocks 2 = .ok (.iconst 0, 1) := by decide +kernel
theorem dX2_usedBlocks_3 : decode cX2_usedBlocks 3 = .ok (.istore_n 3, 1) := by decide +kernel
theorem dX2_usedBlocks_4 : decode cX2_usedBlocks 4 = .ok (.iload_n 3, 1) := by decide +kernel
theorem dX2_usedBlocks_5 : decode cX2_usedBlocks 5 = .ok (.bipush 12, 2) := by decide +kernel
theorem dX2_usedBlocks_7 : decode cX2_usedBlocks 7 = .ok (.if_icmp .ge 44, 3) := by decide +kernel
theorem dX2_usedBlocks_10 : decode cX2_usedBlocks 10 = .ok (.aload_n 0, 1) := by decide +kernel
theorem dX2_usedBlocks_11 : decode cX2_usedBlocks 11 = .ok (.iload_n 3, 1) := by decide +kernel
theorem dX2_usedBlocks_12 : decode cX2_usedBlocks 12 = .ok (.invokevirtual 189, 3) := by decide +kernel
theorem dX2_usedBlocks_15 : decode cX2_usedBlocks 15 = .ok (.istore 4, 2) := by decide +kernel
theorem dX2_usedBlocks_17 : decode cX2_usedBlocks 17 = .ok (.iconst 0, 1) := by decide +kernel
theorem dX2_usedBlocks_18 : decode cX2_usedBlocks 18 = .ok (.istore 5, 2) := by decide +kernel
theorem dX2_usedBlocks_20 : decode cX2_usedBlocks 20 = .ok (.iload 5, 2) := by decide +kernel
theorem dX2_usedBlocks_22 : decode cX2_usedBlocks 22 = .ok (.iload 4, 2) := by decide +kernel
theorem dX2_usedBlocks_24 : decode cX2_usedBlocks 24 = .ok (.if_icmp .ge 21, 3) := by decide +kernel
theorem dX2_usedBlocks_27 : decode cX2_usedBlocks 27 = .ok (.lload_n 1, 1) := by decide +kernel
theorem dX2_usedBlocks_28 : decode cX2_usedBlocks 28 = .ok (.lconst 1, 1) := by decide +kernel
theorem dX2_usedBlocks_29 : decode cX2_usedBlocks 29 = .ok (.aload_n 0, 1) := by decide +kernel
theorem dX2_usedBlocks_30 : decode cX2_usedBlocks 30 = .ok (.iload_n 3, 1) := by decide +kernel
theorem dX2_usedBlocks_31 : decode cX2_usedBlocks 31 = .ok (.iload 5, 2) := by decide +kernel
theorem dX2_usedBlocks_33 : decode cX2_usedBlocks 33 = .ok (.invokevirtual 88, 3) := by decide +kernel
theorem dX2_usedBlocks_36 : decode cX2_usedBlocks 36 = .ok (.lshl, 1) := by decide +kernel
theorem dX2_usedBlocks_37 : decode cX2_usedBlocks 37 = .ok (.lor, 1) := by decide +kernel
theorem dX2_usedBlocks_38 : decode cX2_usedBlocks 38 = .ok (.lstore_n 1, 1) := by decide +kernel
theorem dX2_usedBlocks_39 : decode cX2_usedBlocks 39 = .ok (.iinc 5 1, 3) := by decide +kernel
theorem dX2_usedBlocks_42 : decode cX2_usedBlocks 42 = .ok (.goto (-22), 3) := by decide +kernel
theorem dX2_usedBlocks_45 : decode cX2_usedBlocks 45 = .ok (.iinc 3 1, 3) := by decide +kernel
theorem dX2_usedBlocks_48 : decode cX2_usedBlocks 48 = .ok (.goto (-44), 3) := by decide +kernel
theorem dX2_usedBlocks_51 : decode cX2_usedBlocks 51 = .ok (.lload_n 1, 1) := by decide +kernel
theorem dX2_usedBlocks_52 : decode cX2_usedBlocks 52 = .ok (.lreturn, 1) := by decide +kernel
theorem dX2_isUsed_0 : decode cX2_isUsed 0 = .ok (.lload_n 0, 1) := by decide +kernel
theorem dX2_isUsed_1 : decode cX2_isUsed 1 = .ok (.iload_n 2, 1) := by decide +kernel
theorem dX2_isUsed_2 : decode cX2_isUsed 2 = .ok (.lshr, 1) := by decide +kernel
theorem dX2_isUsed_3 : decode cX2_isUsed 3 = .ok (.lconst 1, 1) := by decide +kernel
theorem dX2_isUsed_4 : decode cX2_isUsed 4 = .ok (.land, 1) := by decide +kernel
theorem dX2_isUsed_5 : decode cX2_isUsed 5 = .ok (.lconst 1, 1) := by decide +kernel
theorem dX2_isUsed_6 : decode cX2_isUsed 6 = .ok (.lcmp, 1) := by decide +kernel
theorem dX2_isUsed_7 : decode cX2_isUsed 7 = .ok (.ifCond .ne 7, 3) := by decide +kernel
theorem dX2_isUsed_10 : decode cX2_isUsed 10 = .ok (.iconst 1, 1) := by decide +kernel
theorem dX2_isUsed_11 : decode cX2_isUsed 11 = .ok (.goto 4, 3) := by decide +kernel
theorem dX2_isUsed_14 : decode cX2_isUsed 14 = .ok (.iconst 0, 1) := by decide +kernel
theorem dX2_isUsed_15 : decode cX2_isUsed 15 = .ok (.ireturn, 1) := by decide +kernel
set_option maxRecDepth 20000 in
theorem ggX2_leastFree_X2_isUsed : GoodIn wsX2_leastFree wsX2_isUsed := goodIn_r _ [4] (by decide +kernel) (by decide +kernel)
set_option maxRecDepth 20000 in
theorem gX2_leastFree_X2_isUsed : GoodIn wsX2_leastFree (va_wsS RX2 192 yX2_isUsed wsX2_isUsed) := goodIn_app (goodIn_of _ (by decide +kernel)) ggX2_leastFree_X2_isUsed
theorem dX2_leastFree_0 : decode cX2_leastFree 0 = .ok (.iconst 0, 1) := by decide +kernel
theorem dX2_leastFree_1 : decode cX2_leastFree 1 = .ok (.istore_n 2, 1) := by decide +kernel
theorem dX2_leastFree_2 : decode cX2_leastFree 2 = .ok (.iload_n 2, 1) := by decide +kernel
theorem dX2_leastFree_3 : decode cX2_leastFree 3 = .ok (.bipush 40, 2) := by decide +kernel
theorem dX2_leastFree_5 : decode cX2_leastFree 5 = .ok (.if_icmp .ge 19, 3) := by decide +kernel
theorem dX2_leastFree_8 : decode cX2_leastFree 8 = .ok (.lload_n 0, 1) := by decide +kernel
theorem dX2_leastFree_9 : decode cX2_leastFree 9 = .ok (.iload_n 2, 1) := by decide +kernel
theorem dX2_leastFree_10 : decode cX2_leastFree 10 = .ok (.invokestatic 192, 3) := by decide +kernel
theorem dX2_leastFree_13 : decode cX2_leastFree 13 = .ok (.ifCond .ne 5, 3) := by decide +kernel
theorem dX2_leastFree_16 : decode cX2_leastFree 16 = .ok (.iload_n 2, 1) := by decide +kernel
theorem dX2_leastFree_17 : decode cX2_leastFree 17 = .ok (.ireturn, 1) := by decide +kernel
theorem dX2_leastFree_18 : decode cX2_leastFree 18 = .ok (.iinc 2 1, 3) := by decide +kernel
theorem dX2_leastFree_21 : decode cX2_leastFree 21 = .ok (.goto (-19), 3) := by decide +kernel
theorem dX2_leastFree_24 : decode cX2_leastFree 24 = .ok (.bipush (-3), 2) := by decide +kernel
theorem dX2_leastFree_26 : decode cX2_leastFree 26 = .ok (.ireturn, 1) := by decide +kernel
set_option maxRecDepth 20000 in
theorem ggX2_greatestFree_X2_isUsed : GoodIn wsX2_greatestFree wsX2_isUsed := goodIn_r _ [4] (by decide +kernel) (by decide +kernel)
set_option maxRecDepth 20000 in
theorem gX2_greatestFree_X2_isUsed : GoodIn wsX2_greatestFree (va_wsS RX2 192 yX2_isUsed wsX2_isUsed) := goodIn_app (goodIn_of _ (by decide +kernel)) ggX2_greatestFree_X2_isUsed
theorem dX2_greatestFree_0 : decode cX2_greatestFree 0 = .ok (.bipush 39, 2) := by decide +kernel
theorem dX2_greatestFree_2 : decode cX2_greatestFree 2 = .ok (.istore_n 2, 1) := by decide +kernel
theorem dX2_greatestFree_3 : decode cX2_greatestFree 3 = .ok (.iload_n 2, 1) := by decide +kernel
theorem dX2_greatestFree_4 : decode cX2_greatestFree 4 = .ok (.ifCond .lt 19, 3) := by decide +kernel
theorem dX2_greatestFree_7 : decode cX2_greatestFree 7 = .ok (.lload_n 0, 1) := by decide +kernel
theorem dX2_greatestFree_8 : decode cX2_greatestFree 8 = .ok (.iload_n 2, 1) := by decide +kernel
theorem dX2_greatestFree_9 : decode cX2_greatestFree 9 = .ok (.invokestatic 192, 3) := by decide +kernel
theorem dX2_greatestFree_12 : decode cX2_greatestFree 12 = .ok (.ifCond .ne 5, 3) := by decide +kernel
theorem dX2_greatestFree_15 : decode cX2_greatestFree 15 = .ok (.iload_n 2, 1) := by decide +kernel
theorem dX2_greatestFree_16 : decode cX2_greatestFree 16 = .ok (.ireturn, 1) := by decide +kernel
theorem dX2_greatestFree_17 : decode cX2_greatestFree 17 = .ok (.iinc 2 (-1), 3) := by decide +kernel
theorem dX2_greatestFree_20 : decode cX2_greatestFree 20 = .ok (.goto (-17), 3) := by decide +kernel
theorem dX2_greatestFree_23 : decode cX2_greatestFree 23 = .ok (.bipush (-3), 2) := by decide +kernel
theorem dX2_greatestFree_25 : decode cX2_greatestFree 25 = .ok (.ireturn, 1) := by decide +kernel
set_option maxRecDepth 20000 in
theorem ggX2_findNextMove_X2_blocksOf : GoodIn wsX2_findNextMove wsX2_blocksOf := goodIn_r _ [5, 6, 7, 8, 4, 9, 10, 11, 12, 13, 14, 15, 16, 17, 18, 19, 20, 21, 22, 23, 58, 59, 60, 61, 62, 63, 64, 65, 66] (by decide +kernel) (by decide +kernel)
set_option maxRecDepth 20000 in
theorem gX2_findNextMove_X2_blocksOf : GoodIn wsX2_findNextMove (wsV RX2 189 RX2 yX2_blocksOf wsX2_blocksOf) := goodIn_app (goodIn_of _ (by decide +kernel)) ggX2_findNextMove_X2_blocksOf
set_option maxRecDepth 20000 in
theorem ggX2_findNextMove_X2_placeOf : GoodIn wsX2_findNextMove wsX2_placeOf := goodIn_r _ [27, 10, 28, 29, 4, 30, 11, 12, 13, 14, 15, 16, 17, 18, 19, 58, 59, 60, 61, 62, 63, 64, 65, 66] (by decide +kernel) (by decide +kernel)
set_option maxRecDepth 20000 in
theorem gX2_findNextMove_X2_placeOf : GoodIn wsX2_findNextMove (wsV RX2 88 RX2 yX2_placeOf wsX2_placeOf) := goodIn_app (goodIn_of _ (by decide +kernel)) ggX2_findNextMove_X2_placeOf
set_option maxRecDepth 20000 in
theorem ggX2_findNextMove_X2_chooseMove : GoodIn wsX2_findNextMove wsX2_chooseMove := goodIn_r _ [34, 35, 36, 37, 38, 4, 39, 1, 2, 3, 5, 6, 7, 8, 9, 10, 11, 12, 13, 14, 15, 16, 17, 18, 19, 20, 21, 22, 23, 24, 25, 26, 27, 28, 29, 30, 40, 41, 42, 43, 44, 45, 46, 47, 48, 49, 50, 51, 52, 53, 54, 55, 56, 57, 58, 59, 60, 61, 62, 63, 64, 65, 66, 67, 68, 69] (by decide +kernel) (by decide +kernel)
set_option maxRecDepth 20000 in
theorem gX2_findNextMove_X2_chooseMove : GoodIn wsX2_findNextMove (wsV RX2 196 RX2 yX2_chooseMove wsX2_chooseMove) := goodIn_app (goodIn_of _ (by decide +kernel)) ggX2_findNextMove_X2_chooseMove
theorem dX2_findNextMove_0 : decode cX2_findNextMove 0 = .ok (.iconst 0, 1) := by decide +kernel
theorem dX2_findNextMove_1 : decode cX2_findNextMove 1 = .ok (.istore_n 1, 1) := by decide +kernel
theorem dX2_findNextMove_2 : decode cX2_findNextMove 2 = .ok (.iconst 0, 1) := by decide +kernel
theorem dX2_findNextMove_3 : decode cX2_findNextMove 3 = .ok (.istore_n 2, 1) := by decide +kernel
theorem dX2_findNextMove_4 : decode cX2_findNextMove 4 = .ok (.iload_n 2, 1) := by decide +kernel
theorem dX2_findNextMove_5 : decode cX2_findNextMove 5 = .ok (.bipush 12, 2) := by decide +kernel
theorem dX2_findNextMove_7 : decode cX2_findNextMove 7 = .ok (.if_icmp .ge 53, 3) := by decide +kernel
theorem dX2_findNextMove_10 : decode cX2_findNextMove 10 = .ok (.aload_n 0, 1) := by decide +kernel
theorem dX2_findNextMove_11 : decode cX2_findNextMove 11 = .ok (.iload_n 2, 1) := by decide +kernel
theorem dX2_findNextMove_12 : decode cX2_findNextMove 12 = .ok (.invokevirtual 189, 3) := by decide +kernel
theorem dX2_findNextMove_15 : decode cX2_findNextMove 15 = .ok (.istore_n 3, 1) := by decide +kernel
theorem dX2_findNextMove_16 : decode cX2_findNextMove 16 = .ok (.iconst 0, 1) := by decide +kernel
theorem dX2_findNextMove_17 : decode cX2_findNextMove 17 = .ok (.istore 4, 2) := by decide +kernel
theorem dX2_findNextMove_19 : decode cX2_findNextMove 19 = .ok (.iload 4, 2) := by decide +kernel
theorem dX2_findNextMove_21 : decode cX2_findNextMove 21 = .ok (.iload_n 3, 1) := by decide +kernel
theorem dX2_findNextMove_22 : decode cX2_findNextMove 22 = .ok (.if_icmp .ge 32, 3) := by decide +kernel
theorem dX2_findNextMove_25 : decode cX2_findNextMove 25 = .ok (.aload_n 0, 1) := by decide +kernel
theorem dX2_findNextMove_26 : decode cX2_findNextMove 26 = .ok (.iload_n 2, 1) := by decide +kernel
theorem dX2_findNextMove_27 : decode cX2_findNextMove 27 = .ok (.iload 4, 2) := by decide +kernel
theorem dX2_findNextMove_29 : decode cX2_findNextMove 29 = .ok (.invokevirtual 88, 3) := by decide +kernel
theorem dX2_findNextMove_32 : decode cX2_findNextMove 32 = .ok (.iload_n 1, 1) := by decide +kernel
theorem dX2_findNextMove_33 : decode cX2_findNextMove 33 = .ok (.if_icmp .eq 12, 3) := by decide +kernel
theorem dX2_findNextMove_36 : decode cX2_findNextMove 36 = .ok (.aload_n 0, 1) := by decide +kernel
theorem dX2_findNextMove_37 : decode cX2_findNextMove 37 = .ok (.iload_n 2, 1) := by decide +kernel
theorem dX2_findNextMove_38 : decode cX2_findNextMove 38 = .ok (.iload 4, 2) := by decide +kernel
theorem dX2_findNextMove_40 : decode cX2_findNextMove 40 = .ok (.iload_n 1, 1) := by decide +kernel
theorem dX2_findNextMove_41 : decode cX2_findNextMove 41 = .ok (.invokevirtual 196, 3) := by decide +kernel
theorem dX2_findNextMove_44 : decode cX2_findNextMove 44 = .ok (.ireturn, 1) := by decide +kernel
theorem dX2_findNextMove_45 : decode cX2_findNextMove 45 = .ok (.iinc 1 1, 3) := by decide +kernel
theorem dX2_findNextMove_48 : decode cX2_findNextMove 48 = .ok (.iinc 4 1, 3) := by decide +kernel
theorem dX2_findNextMove_51 : decode cX2_findNextMove 51 = .ok (.goto (-32), 3) := by decide +kernel
theorem dX2_findNextMove_54 : decode cX2_findNextMove 54 = .ok (.iinc 2 1, 3) := by decide +kernel
theorem dX2_findNextMove_57 : decode cX2_findNextMove 57 = .ok (.goto (-53), 3) := by decide +kernel
theorem dX2_findNextMove_60 : decode cX2_findNextMove 60 = .ok (.bipush (-3), 2) := by decide +kernel
theorem dX2_findNextMove_62 : decode cX2_findNextMove 62 = .ok (.ireturn, 1) := by decide +kernel
set_option maxRecDepth 20000 in
theorem ggX2_chooseMove_X2_usedBlocks : GoodIn wsX2_chooseMove wsX2_usedBlocks := goodIn_r _ [6, 7, 8, 9, 5, 10, 11, 12, 13, 14, 15, 16, 17, 18, 19, 20, 21, 22, 23, 24, 25, 26, 27, 28, 29, 30, 31, 32, 33, 34, 35, 54, 55, 56, 57, 58, 59, 60, 61, 62] (by decide +kernel) (by decide +kernel)
set_option maxRecDepth 20000 in
theorem gX2_chooseMove_X2_usedBlocks : GoodIn wsX2_chooseMove (wsV RX2 73 RX2 yX2_usedBlocks wsX2_usedBlocks) := goodIn_app (goodIn_of _ (by decide +kernel)) ggX2_chooseMove_X2_usedBlocks
set_option maxRecDepth 20000 in
theorem ggX2_chooseMove_X2_isUsed : GoodIn wsX2_chooseMove wsX2_isUsed := goodIn_r _ [38] (by decide +kernel) (by decide +kernel)
set_option maxRecDepth 20000 in
theorem gX2_chooseMove_X2_isUsed : GoodIn wsX2_chooseMove (va_wsS RX2 192 yX2_isUsed wsX2_isUsed) := goodIn_app (goodIn_of _ (by decide +kernel)) ggX2_chooseMove_X2_isUsed
set_option maxRecDepth 20000 in
theorem ggX2_chooseMove_X1_set : GoodIn wsX2_chooseMove wsX1_set := goodIn_r _ [43, 44, 45, 46, 63, 64, 65] (by decide +kernel) (by decide +kernel)
set_option maxRecDepth 20000 in
theorem gX2_chooseMove_X1_set : GoodIn wsX2_chooseMove (wsV RX2 200 RX1 yX1_set wsX1_set) := goodIn_app (goodIn_of _ (by decide +kernel)) ggX2_chooseMove_X1_set
set_option maxRecDepth 20000 in
theorem ggX2_chooseMove_X2_greatestFree : GoodIn wsX2_chooseMove wsX2_greatestFree := goodIn_r _ [49, 36, 37, 5, 38] (by decide +kernel) (by decide +kernel)
set_option maxRecDepth 20000 in
theorem gX2_chooseMove_X2_greatestFree : GoodIn wsX2_chooseMove (va_wsS RX2 204 yX2_greatestFree wsX2_greatestFree) := goodIn_app (goodIn_of _ (by decide +kernel)) ggX2_chooseMove_X2_greatestFree
set_option maxRecDepth 20000 in
theorem ggX2_chooseMove_X2_chooseMoveAway : GoodIn wsX2_chooseMove wsX2_chooseMoveAway := goodIn_r _ [53, 1, 7, 8, 9, 5, 10, 11, 12, 13, 14, 15, 16, 17, 18, 19, 20, 21, 22, 23, 24, 25, 26, 27, 28, 29, 30, 31, 32, 33, 34, 35, 39, 40, 41, 42, 43, 44, 45, 46, 54, 55, 56, 57, 58, 59, 60, 61, 62, 63, 64, 65] (by decide +kernel) (by decide +kernel)
set_option maxRecDepth 20000 in
theorem gX2_chooseMove_X2_chooseMoveAway : GoodIn wsX2_chooseMove (wsV RX2 207 RX2 yX2_chooseMoveAway wsX2_chooseMoveAway) := goodIn_app (goodIn_of _ (by decide +kernel)) ggX2_chooseMove_X2_chooseMoveAway
theorem dX2_chooseMove_0 : decode cX2_chooseMove 0 = .ok (.aload_n 0, 1) := by decide +kernel
theorem dX2_chooseMove_1 : decode cX2_chooseMove 1 = .ok (.invokevirtual 73, 3) := by decide +kernel
theorem dX2_chooseMove_4 : decode cX2_chooseMove 4 = .ok (.lstore 4, 2) := by decide +kernel
theorem dX2_chooseMove_6 : decode cX2_chooseMove 6 = .ok (.lload 4, 2) := by decide +kernel
theorem dX2_chooseMove_8 : decode cX2_chooseMove 8 = .ok (.iload_n 3, 1) := by decide +kernel
theorem dX2_chooseMove_9 : decode cX2_chooseMove 9 = .ok (.invokestatic 192, 3) := by decide +kernel
theorem dX2_chooseMove_12 : decode cX2_chooseMove 12 = .ok (.ifCond .ne 15, 3) := by decide +kernel
theorem dX2_chooseMove_15 : decode cX2_chooseMove 15 = .ok (.aload_n 0, 1) := by decide +kernel
theorem dX2_chooseMove_16 : decode cX2_chooseMove 16 = .ok (.getfield 19, 3) := by decide +kernel
theorem dX2_chooseMove_19 : decode cX2_chooseMove 19 = .ok (.iload_n 1, 1) := by decide +kernel
theorem dX2_chooseMove_20 : decode cX2_chooseMove 20 = .ok (.iload_n 2, 1) := by decide +kernel
theorem dX2_chooseMove_21 : decode cX2_chooseMove 21 = .ok (.iload_n 3, 1) := by decide +kernel
theorem dX2_chooseMove_22 : decode cX2_chooseMove 22 = .ok (.invokevirtual 200, 3) := by decide +kernel
theorem dX2_chooseMove_25 : decode cX2_chooseMove 25 = .ok (.iconst 1, 1) := by decide +kernel
theorem dX2_chooseMove_26 : decode cX2_chooseMove 26 = .ok (.ireturn, 1) := by decide +kernel
theorem dX2_chooseMove_27 : decode cX2_chooseMove 27 = .ok (.lload 4, 2) := by decide +kernel
theorem dX2_chooseMove_29 : decode cX2_chooseMove 29 = .ok (.invokestatic 204, 3) := by decide +kernel
theorem dX2_chooseMove_32 : decode cX2_chooseMove 32 = .ok (.istore 6, 2) := by decide +kernel
theorem dX2_chooseMove_34 : decode cX2_chooseMove 34 = .ok (.iload 6, 2) := by decide +kernel
theorem dX2_chooseMove_36 : decode cX2_chooseMove 36 = .ok (.bipush (-3), 2) := by decide +kernel
theorem dX2_chooseMove_38 : decode cX2_chooseMove 38 = .ok (.if_icmp .ne 8, 3) := by decide +kernel
theorem dX2_chooseMove_41 : decode cX2_chooseMove 41 = .ok (.bipush (-5), 2) := by decide +kernel
theorem dX2_chooseMove_43 : decode cX2_chooseMove 43 = .ok (.goto 10, 3) := by decide +kernel
theorem dX2_chooseMove_46 : decode cX2_chooseMove 46 = .ok (.aload_n 0, 1) := by decide +kernel
theorem dX2_chooseMove_47 : decode cX2_chooseMove 47 = .ok (.iload_n 3, 1) := by decide +kernel
theorem dX2_chooseMove_48 : decode cX2_chooseMove 48 = .ok (.iload 6, 2) := by decide +kernel
theorem dX2_chooseMove_50 : decode cX2_chooseMove 50 = .ok (.invokevirtual 207, 3) := by decide +kernel
theorem dX2_chooseMove_53 : decode cX2_chooseMove 53 = .ok (.ireturn, 1) := by decide +kernel
set_option maxRecDepth 20000 in
theorem ggX2_chooseMoveAway_X2_blocksOf : GoodIn wsX2_chooseMoveAway wsX2_blocksOf := goodIn_r _ [6, 7, 8, 9, 5, 10, 11, 12, 13, 14, 15, 16, 17, 18, 19, 20, 21, 22, 23, 24, 40, 41, 42, 43, 44, 45, 46, 47, 48] (by decide +kernel) (by decide +kernel)
set_option maxRecDepth 20000 in
theorem gX2_chooseMoveAway_X2_blocksOf : GoodIn wsX2_chooseMoveAway (wsV RX2 189 RX2 yX2_blocksOf wsX2_blocksOf) := goodIn_app (goodIn_of _ (by decide +kernel)) ggX2_chooseMoveAway_X2_blocksOf
set_option maxRecDepth 20000 in
theorem ggX2_chooseMoveAway_X2_placeOf : GoodIn wsX2_chooseMoveAway wsX2_placeOf := goodIn_r _ [28, 11, 29, 30, 5, 31, 12, 13, 14, 15, 16, 17, 18, 19, 20, 40, 41, 42, 43, 44, 45, 46, 47, 48] (by decide +kernel) (by decide +kernel)
set_option maxRecDepth 20000 in
theorem gX2_chooseMoveAway_X2_placeOf : GoodIn wsX2_chooseMoveAway (wsV RX2 88 RX2 yX2_placeOf wsX2_placeOf) := goodIn_app (goodIn_of _ (by decide +kernel)) ggX2_chooseMoveAway_X2_placeOf
set_option maxRecDepth 20000 in
theorem ggX2_chooseMoveAway_X1_set : GoodIn wsX2_chooseMoveAway wsX1_set := goodIn_r _ [36, 37, 38, 39, 49, 50, 51] (by decide +kernel) (by decide +kernel)
set_option maxRecDepth 20000 in
theorem gX2_chooseMoveAway_X1_set : GoodIn wsX2_chooseMoveAway (wsV RX2 200 RX1 yX1_set wsX1_set) := goodIn_app (goodIn_of _ (by decide +kernel)) ggX2_chooseMoveAway_X1_set
theorem dX2_chooseMoveAway_0 : decode cX2_chooseMoveAway 0 = .ok (.iconst 0, 1) := by decide +kernel
theorem dX2_chooseMoveAway_1 : decode cX2_chooseMoveAway 1 = .ok (.istore_n 3, 1) := by decide +kernel
theorem dX2_chooseMoveAway_2 : decode cX2_chooseMoveAway 2 = .ok (.iload_n 3, 1) := by decide +kernel
theorem dX2_chooseMoveAway_3 : decode cX2_chooseMoveAway 3 = .ok (.bipush 12, 2) := by decide +kernel
theorem dX2_chooseMoveAway_5 : decode cX2_chooseMoveAway 5 = .ok (.if_icmp .ge 56, 3) := by decide +kernel
theorem dX2_chooseMoveAway_8 : decode cX2_chooseMoveAway 8 = .ok (.aload_n 0, 1) := by decide +kernel
theorem dX2_chooseMoveAway_9 : decode cX2_chooseMoveAway 9 = .ok (.iload_n 3, 1) := by decide +kernel
theorem dX2_chooseMoveAway_10 : decode cX2_chooseMoveAway 10 = .ok (.invokevirtual 189, 3) := by decide +kernel
theorem dX2_chooseMoveAway_13 : decode cX2_chooseMoveAway 13 = .ok (.istore 4, 2) := by decide +kernel
theorem dX2_chooseMoveAway_15 : decode cX2_chooseMoveAway 15 = .ok (.iconst 0, 1) := by decide +kernel
theorem dX2_chooseMoveAway_16 : decode cX2_chooseMoveAway 16 = .ok (.istore 5, 2) := by decide +kernel
theorem dX2_chooseMoveAway_18 : decode cX2_chooseMoveAway 18 = .ok (.iload 5, 2) := by decide +kernel
theorem dX2_chooseMoveAway_20 : decode cX2_chooseMoveAway 20 = .ok (.iload 4, 2) := by decide +kernel
theorem dX2_chooseMoveAway_22 : decode cX2_chooseMoveAway 22 = .ok (.if_icmp .ge 33, 3) := by decide +kernel
theorem dX2_chooseMoveAway_25 : decode cX2_chooseMoveAway 25 = .ok (.aload_n 0, 1) := by decide +kernel
theorem dX2_chooseMoveAway_26 : decode cX2_chooseMoveAway 26 = .ok (.iload_n 3, 1) := by decide +kernel
theorem dX2_chooseMoveAway_27 : decode cX2_chooseMoveAway 27 = .ok (.iload 5, 2) := by decide +kernel
theorem dX2_chooseMoveAway_29 : decode cX2_chooseMoveAway 29 = .ok (.invokevirtual 88, 3) := by decide +kernel
theorem dX2_chooseMoveAway_32 : decode cX2_chooseMoveAway 32 = .ok (.iload_n 1, 1) := by decide +kernel
theorem dX2_chooseMoveAway_33 : decode cX2_chooseMoveAway 33 = .ok (.if_icmp .ne 16, 3) := by decide +kernel
theorem dX2_chooseMoveAway_36 : decode cX2_chooseMoveAway 36 = .ok (.aload_n 0, 1) := by decide +kernel
theorem dX2_chooseMoveAway_37 : decode cX2_chooseMoveAway 37 = .ok (.getfield 19, 3) := by decide +kernel
theorem dX2_chooseMoveAway_40 : decode cX2_chooseMoveAway 40 = .ok (.iload_n 3, 1) := by decide +kernel
theorem dX2_chooseMoveAway_41 : decode cX2_chooseMoveAway 41 = .ok (.iload 5, 2) := by decide +kernel
theorem dX2_chooseMoveAway_43 : decode cX2_chooseMoveAway 43 = .ok (.iload_n 2, 1) := by decide +kernel
theorem dX2_chooseMoveAway_44 : decode cX2_chooseMoveAway 44 = .ok (.invokevirtual 200, 3) := by decide +kernel
theorem dX2_chooseMoveAway_47 : decode cX2_chooseMoveAway 47 = .ok (.iconst 1, 1) := by decide +kernel
theorem dX2_chooseMoveAway_48 : decode cX2_chooseMoveAway 48 = .ok (.ireturn, 1) := by decide +kernel
theorem dX2_chooseMoveAway_49 : decode cX2_chooseMoveAway 49 = .ok (.iinc 5 1, 3) := by decide +kernel
theorem dX2_chooseMoveAway_52 : decode cX2_chooseMoveAway 52 = .ok (.goto (-34), 3) := by decide +kernel
theorem dX2_chooseMoveAway_55 : decode cX2_chooseMoveAway 55 = .ok (.iinc 3 1, 3) := by decide +kernel
theorem dX2_chooseMoveAway_58 : decode cX2_chooseMoveAway 58 = .ok (.goto (-56), 3) := by decide +kernel
theorem dX2_chooseMoveAway_61 : decode cX2_chooseMoveAway 61 = .ok (.bipush (-3), 2) := by decide +kernel
theorem dX2_chooseMoveAway_63 : decode cX2_chooseMoveAway 63 = .ok (.ireturn, 1) := by decide +kernel
set_option maxRecDepth 20000 in
theorem ggX2_copyMovedBlock_X2_recorded : GoodIn wsX2_copyMovedBlock wsX2_recorded := goodIn_r _ [7, 1, 8, 9, 6, 10, 11, 12, 13, 14, 15, 16, 37, 38, 39, 40, 41, 42, 43, 44, 45] (by decide +kernel) (by decide +kernel)
set_option maxRecDepth 20000 in
theorem gX2_copyMovedBlock_X2_recorded : GoodIn wsX2_copyMovedBlock (wsV RX2 144 RX2 yX2_recorded wsX2_recorded) := goodIn_app (goodIn_of _ (by decide +kernel)) ggX2_copyMovedBlock_X2_recorded
set_option maxRecDepth 20000 in
theorem ggX2_copyMovedBlock_X2_placeOf : GoodIn wsX2_copyMovedBlock wsX2_placeOf := goodIn_r _ [20, 1, 21, 22, 6, 23, 24, 25, 26, 11, 12, 13, 14, 15, 16, 37, 38, 39, 40, 41, 42, 43, 44, 45] (by decide +kernel) (by decide +kernel)
set_option maxRecDepth 20000 in
theorem gX2_copyMovedBlock_X2_placeOf : GoodIn wsX2_copyMovedBlock (wsV RX2 88 RX2 yX2_placeOf wsX2_placeOf) := goodIn_app (goodIn_of _ (by decide +kernel)) ggX2_copyMovedBlock_X2_placeOf
set_option maxRecDepth 20000 in
theorem ggX2_copyMovedBlock_X2_dataAt : GoodIn wsX2_copyMovedBlock wsX2_dataAt := goodIn_r _ [29] (by decide +kernel) (by decide +kernel)
set_option maxRecDepth 20000 in
theorem gX2_copyMovedBlock_X2_dataAt : GoodIn wsX2_copyMovedBlock (va_wsS RX2 81 yX2_dataAt wsX2_dataAt) := goodIn_app (goodIn_of _ (by decide +kernel)) ggX2_copyMovedBlock_X2_dataAt
set_option maxRecDepth 20000 in
theorem ggX2_copyMovedBlock_X0_word : GoodIn wsX2_copyMovedBlock wsX0_word := goodIn_r _ [15, 16, 42, 43, 44, 45] (by decide +kernel) (by decide +kernel)
set_option maxRecDepth 20000 in
theorem gX2_copyMovedBlock_X0_word : GoodIn wsX2_copyMovedBlock (wsV RX2 136 RX0 yX0_word wsX0_word) := goodIn_app (goodIn_of _ (by decide +kernel)) ggX2_copyMovedBlock_X0_word
set_option maxRecDepth 20000 in
theorem ggX2_copyMovedBlock_X0_write : GoodIn wsX2_copyMovedBlock wsX0_write := goodIn_r _ [33, 34, 16, 35, 36, 42, 43, 44, 45] (by decide +kernel) (by decide +kernel)
set_option maxRecDepth 20000 in
theorem gX2_copyMovedBlock_X0_write : GoodIn wsX2_copyMovedBlock (wsV RX2 57 RX0 yX0_write wsX0_write) := goodIn_app (goodIn_of _ (by decide +kernel)) ggX2_copyMovedBlock_X0_write
set_option maxRecDepth 20000 in
theorem ggX2_copyMovedBlock_X2_recordAt : GoodIn wsX2_copyMovedBlock wsX2_recordAt := goodIn_r _ [10] (by decide +kernel) (by decide +kernel)
set_option maxRecDepth 20000 in
theorem gX2_copyMovedBlock_X2_recordAt : GoodIn wsX2_copyMovedBlock (va_wsS RX2 106 yX2_recordAt wsX2_recordAt) := goodIn_app (goodIn_of _ (by decide +kernel)) ggX2_copyMovedBlock_X2_recordAt
theorem dX2_copyMovedBlock_0 : decode cX2_copyMovedBlock 0 = .ok (.aload_n 0, 1) := by decide +kernel
theorem dX2_copyMovedBlock_1 : decode cX2_copyMovedBlock 1 = .ok (.aload_n 0, 1) := by decide +kernel
theorem dX2_copyMovedBlock_2 : decode cX2_copyMovedBlock 2 = .ok (.iconst 1, 1) := by decide +kernel
theorem dX2_copyMovedBlock_3 : decode cX2_copyMovedBlock 3 = .ok (.invokevirtual 144, 3) := by decide +kernel
theorem dX2_copyMovedBlock_6 : decode cX2_copyMovedBlock 6 = .ok (.aload_n 0, 1) := by decide +kernel
theorem dX2_copyMovedBlock_7 : decode cX2_copyMovedBlock 7 = .ok (.iconst 2, 1) := by decide +kernel
theorem dX2_copyMovedBlock_8 : decode cX2_copyMovedBlock 8 = .ok (.invokevirtual 144, 3) := by decide +kernel
theorem dX2_copyMovedBlock_11 : decode cX2_copyMovedBlock 11 = .ok (.invokevirtual 88, 3) := by decide +kernel
theorem dX2_copyMovedBlock_14 : decode cX2_copyMovedBlock 14 = .ok (.istore_n 1, 1) := by decide +kernel
theorem dX2_copyMovedBlock_15 : decode cX2_copyMovedBlock 15 = .ok (.aload_n 0, 1) := by decide +kernel
theorem dX2_copyMovedBlock_16 : decode cX2_copyMovedBlock 16 = .ok (.iconst 3, 1) := by decide +kernel
theorem dX2_copyMovedBlock_17 : decode cX2_copyMovedBlock 17 = .ok (.invokevirtual 144, 3) := by decide +kernel
theorem dX2_copyMovedBlock_20 : decode cX2_copyMovedBlock 20 = .ok (.istore_n 2, 1) := by decide +kernel
theorem dX2_copyMovedBlock_21 : decode cX2_copyMovedBlock 21 = .ok (.iconst 0, 1) := by decide +kernel
theorem dX2_copyMovedBlock_22 : decode cX2_copyMovedBlock 22 = .ok (.istore_n 3, 1) := by decide +kernel
theorem dX2_copyMovedBlock_23 : decode cX2_copyMovedBlock 23 = .ok (.iload_n 3, 1) := by decide +kernel
theorem dX2_copyMovedBlock_24 : decode cX2_copyMovedBlock 24 = .ok (.iconst 3, 1) := by decide +kernel
theorem dX2_copyMovedBlock_25 : decode cX2_copyMovedBlock 25 = .ok (.if_icmp .ge 33, 3) := by decide +kernel
theorem dX2_copyMovedBlock_28 : decode cX2_copyMovedBlock 28 = .ok (.aload_n 0, 1) := by decide +kernel
theorem dX2_copyMovedBlock_29 : decode cX2_copyMovedBlock 29 = .ok (.getfield 12, 3) := by decide +kernel
theorem dX2_copyMovedBlock_32 : decode cX2_copyMovedBlock 32 = .ok (.iload_n 2, 1) := by decide +kernel
theorem dX2_copyMovedBlock_33 : decode cX2_copyMovedBlock 33 = .ok (.iload_n 3, 1) := by decide +kernel
theorem dX2_copyMovedBlock_34 : decode cX2_copyMovedBlock 34 = .ok (.invokestatic 81, 3) := by decide +kernel
theorem dX2_copyMovedBlock_37 : decode cX2_copyMovedBlock 37 = .ok (.aload_n 0, 1) := by decide +kernel
theorem dX2_copyMovedBlock_38 : decode cX2_copyMovedBlock 38 = .ok (.getfield 12, 3) := by decide +kernel
theorem dX2_copyMovedBlock_41 : decode cX2_copyMovedBlock 41 = .ok (.iload_n 1, 1) := by decide +kernel
theorem dX2_copyMovedBlock_42 : decode cX2_copyMovedBlock 42 = .ok (.iload_n 3, 1) := by decide +kernel
theorem dX2_copyMovedBlock_43 : decode cX2_copyMovedBlock 43 = .ok (.invokestatic 81, 3) := by decide +kernel
theorem dX2_copyMovedBlock_46 : decode cX2_copyMovedBlock 46 = .ok (.invokevirtual 136, 3) := by decide +kernel
theorem dX2_copyMovedBlock_49 : decode cX2_copyMovedBlock 49 = .ok (.invokevirtual 57, 3) := by decide +kernel
theorem dX2_copyMovedBlock_52 : decode cX2_copyMovedBlock 52 = .ok (.iinc 3 1, 3) := by decide +kernel
theorem dX2_copyMovedBlock_55 : decode cX2_copyMovedBlock 55 = .ok (.goto (-32), 3) := by decide +kernel
theorem dX2_copyMovedBlock_58 : decode cX2_copyMovedBlock 58 = .ok (.aload_n 0, 1) := by decide +kernel
theorem dX2_copyMovedBlock_59 : decode cX2_copyMovedBlock 59 = .ok (.getfield 12, 3) := by decide +kernel
theorem dX2_copyMovedBlock_62 : decode cX2_copyMovedBlock 62 = .ok (.iconst 0, 1) := by decide +kernel
theorem dX2_copyMovedBlock_63 : decode cX2_copyMovedBlock 63 = .ok (.invokestatic 106, 3) := by decide +kernel
theorem dX2_copyMovedBlock_66 : decode cX2_copyMovedBlock 66 = .ok (.ldc2_w 210, 3) := by decide +kernel
theorem dX2_copyMovedBlock_69 : decode cX2_copyMovedBlock 69 = .ok (.invokevirtual 57, 3) := by decide +kernel
theorem dX2_copyMovedBlock_72 : decode cX2_copyMovedBlock 72 = .ok (.return_, 1) := by decide +kernel
set_option maxRecDepth 20000 in
theorem ggX2_linkMovedBlock_X2_recorded : GoodIn wsX2_linkMovedBlock wsX2_recorded := goodIn_r _ [8, 1, 9, 10, 7, 11, 12, 13, 14, 15, 16, 17, 31, 32, 33, 34, 35, 36, 37, 38, 39] (by decide +kernel) (by decide +kernel)
set_option maxRecDepth 20000 in
theorem gX2_linkMovedBlock_X2_recorded : GoodIn wsX2_linkMovedBlock (wsV RX2 144 RX2 yX2_recorded wsX2_recorded) := goodIn_app (goodIn_of _ (by decide +kernel)) ggX2_linkMovedBlock_X2_recorded
set_option maxRecDepth 20000 in
theorem ggX2_linkMovedBlock_X2_placeAt : GoodIn wsX2_linkMovedBlock wsX2_placeAt := goodIn_r _ [20, 21, 22, 7, 23] (by decide +kernel) (by decide +kernel)
set_option maxRecDepth 20000 in
theorem gX2_linkMovedBlock_X2_placeAt : GoodIn wsX2_linkMovedBlock (va_wsS RX2 61 yX2_placeAt wsX2_placeAt) := goodIn_app (goodIn_of _ (by decide +kernel)) ggX2_linkMovedBlock_X2_placeAt
set_option maxRecDepth 20000 in
theorem ggX2_linkMovedBlock_X0_write : GoodIn wsX2_linkMovedBlock wsX0_write := goodIn_r _ [27, 28, 17, 29, 30, 36, 37, 38, 39] (by decide +kernel) (by decide +kernel)
set_option maxRecDepth 20000 in
theorem gX2_linkMovedBlock_X0_write : GoodIn wsX2_linkMovedBlock (wsV RX2 57 RX0 yX0_write wsX0_write) := goodIn_app (goodIn_of _ (by decide +kernel)) ggX2_linkMovedBlock_X0_write
set_option maxRecDepth 20000 in
theorem ggX2_linkMovedBlock_X2_recordAt : GoodIn wsX2_linkMovedBlock wsX2_recordAt := goodIn_r _ [11] (by decide +kernel) (by decide +kernel)
set_option maxRecDepth 20000 in
theorem gX2_linkMovedBlock_X2_recordAt : GoodIn wsX2_linkMovedBlock (va_wsS RX2 106 yX2_recordAt wsX2_recordAt) := goodIn_app (goodIn_of _ (by decide +kernel)) ggX2_linkMovedBlock_X2_recordAt
theorem dX2_linkMovedBlock_0 : decode cX2_linkMovedBlock 0 = .ok (.aload_n 0, 1) := by decide +kernel
theorem dX2_linkMovedBlock_1 : decode cX2_linkMovedBlock 1 = .ok (.getfield 12, 3) := by decide +kernel
theorem dX2_linkMovedBlock_4 : decode cX2_linkMovedBlock 4 = .ok (.aload_n 0, 1) := by decide +kernel
theorem dX2_linkMovedBlock_5 : decode cX2_linkMovedBlock 5 = .ok (.iconst 1, 1) := by decide +kernel
theorem dX2_linkMovedBlock_6 : decode cX2_linkMovedBlock 6 = .ok (.invokevirtual 144, 3) := by decide +kernel
theorem dX2_linkMovedBlock_9 : decode cX2_linkMovedBlock 9 = .ok (.aload_n 0, 1) := by decide +kernel
theorem dX2_linkMovedBlock_10 : decode cX2_linkMovedBlock 10 = .ok (.iconst 2, 1) := by decide +kernel
theorem dX2_linkMovedBlock_11 : decode cX2_linkMovedBlock 11 = .ok (.invokevirtual 144, 3) := by decide +kernel
theorem dX2_linkMovedBlock_14 : decode cX2_linkMovedBlock 14 = .ok (.invokestatic 61, 3) := by decide +kernel
theorem dX2_linkMovedBlock_17 : decode cX2_linkMovedBlock 17 = .ok (.aload_n 0, 1) := by decide +kernel
theorem dX2_linkMovedBlock_18 : decode cX2_linkMovedBlock 18 = .ok (.iconst 3, 1) := by decide +kernel
theorem dX2_linkMovedBlock_19 : decode cX2_linkMovedBlock 19 = .ok (.invokevirtual 144, 3) := by decide +kernel
theorem dX2_linkMovedBlock_22 : decode cX2_linkMovedBlock 22 = .ok (.i2l, 1) := by decide +kernel
theorem dX2_linkMovedBlock_23 : decode cX2_linkMovedBlock 23 = .ok (.invokevirtual 57, 3) := by decide +kernel
theorem dX2_linkMovedBlock_26 : decode cX2_linkMovedBlock 26 = .ok (.aload_n 0, 1) := by decide +kernel
theorem dX2_linkMovedBlock_27 : decode cX2_linkMovedBlock 27 = .ok (.getfield 12, 3) := by decide +kernel
theorem dX2_linkMovedBlock_30 : decode cX2_linkMovedBlock 30 = .ok (.iconst 0, 1) := by decide +kernel
theorem dX2_linkMovedBlock_31 : decode cX2_linkMovedBlock 31 = .ok (.invokestatic 106, 3) := by decide +kernel
theorem dX2_linkMovedBlock_34 : decode cX2_linkMovedBlock 34 = .ok (.lconst 0, 1) := by decide +kernel
theorem dX2_linkMovedBlock_35 : decode cX2_linkMovedBlock 35 = .ok (.invokevirtual 57, 3) := by decide +kernel
theorem dX2_linkMovedBlock_38 : decode cX2_linkMovedBlock 38 = .ok (.aload_n 0, 1) := by decide +kernel
theorem dX2_linkMovedBlock_39 : decode cX2_linkMovedBlock 39 = .ok (.getfield 12, 3) := by decide +kernel
theorem dX2_linkMovedBlock_42 : decode cX2_linkMovedBlock 42 = .ok (.getfield 31, 3) := by decide +kernel
theorem dX2_linkMovedBlock_45 : decode cX2_linkMovedBlock 45 = .ok (.ifCond .ne 13, 3) := by decide +kernel
theorem dX2_linkMovedBlock_48 : decode cX2_linkMovedBlock 48 = .ok (.aload_n 0, 1) := by decide +kernel
theorem dX2_linkMovedBlock_49 : decode cX2_linkMovedBlock 49 = .ok (.dup, 1) := by decide +kernel
theorem dX2_linkMovedBlock_50 : decode cX2_linkMovedBlock 50 = .ok (.getfield 155, 3) := by decide +kernel
theorem dX2_linkMovedBlock_53 : decode cX2_linkMovedBlock 53 = .ok (.iconst 1, 1) := by decide +kernel
theorem dX2_linkMovedBlock_54 : decode cX2_linkMovedBlock 54 = .ok (.iadd, 1) := by decide +kernel
theorem dX2_linkMovedBlock_55 : decode cX2_linkMovedBlock 55 = .ok (.putfield 155, 3) := by decide +kernel
theorem dX2_linkMovedBlock_58 : decode cX2_linkMovedBlock 58 = .ok (.return_, 1) := by decide +kernel
set_option maxRecDepth 20000 in
theorem ggX2_finishRecordedMove_X2_recorded : GoodIn wsX2_finishRecordedMove wsX2_recorded := goodIn_r _ [5, 6, 7, 8, 4, 9, 10, 11, 12, 13, 14, 15, 47, 48, 49, 50, 51, 52, 53, 54, 55] (by decide +kernel) (by decide +kernel)
set_option maxRecDepth 20000 in
theorem gX2_finishRecordedMove_X2_recorded : GoodIn wsX2_finishRecordedMove (wsV RX2 144 RX2 yX2_recorded wsX2_recorded) := goodIn_app (goodIn_of _ (by decide +kernel)) ggX2_finishRecordedMove_X2_recorded
set_option maxRecDepth 20000 in
theorem ggX2_finishRecordedMove_X2_copyMovedBlock : GoodIn wsX2_finishRecordedMove wsX2_copyMovedBlock := goodIn_r _ [19, 6, 20, 1, 2, 3, 4, 5, 7, 8, 9, 10, 11, 12, 13, 14, 15, 21, 22, 23, 24, 25, 26, 27, 28, 29, 30, 31, 32, 33, 34, 35, 36, 37, 38, 39, 40, 47, 48, 49, 50, 51, 52, 53, 54, 55] (by decide +kernel) (by decide +kernel)
set_option maxRecDepth 20000 in
theorem gX2_finishRecordedMove_X2_copyMovedBlock : GoodIn wsX2_finishRecordedMove (wsV RX2 118 RX2 yX2_copyMovedBlock wsX2_copyMovedBlock) := goodIn_app (goodIn_of _ (by decide +kernel)) ggX2_finishRecordedMove_X2_copyMovedBlock
set_option maxRecDepth 20000 in
theorem ggX2_finishRecordedMove_X2_linkMovedBlock : GoodIn wsX2_finishRecordedMove wsX2_linkMovedBlock := goodIn_r _ [44, 6, 45, 46, 1, 2, 3, 4, 5, 7, 8, 9, 10, 11, 12, 13, 14, 15, 25, 26, 27, 28, 29, 30, 34, 35, 36, 37, 38, 39, 40, 47, 48, 49, 50, 51, 52, 53, 54, 55] (by decide +kernel) (by decide +kernel)
set_option maxRecDepth 20000 in
theorem gX2_finishRecordedMove_X2_linkMovedBlock : GoodIn wsX2_finishRecordedMove (wsV RX2 121 RX2 yX2_linkMovedBlock wsX2_linkMovedBlock) := goodIn_app (goodIn_of _ (by decide +kernel)) ggX2_finishRecordedMove_X2_linkMovedBlock
theorem dX2_finishRecordedMove_0 : decode cX2_finishRecordedMove 0 = .ok (.aload_n 0, 1) := by decide +kernel
theorem dX2_finishRecordedMove_1 : decode cX2_finishRecordedMove 1 = .ok (.iconst 0, 1) := by decide +kernel
theorem dX2_finishRecordedMove_2 : decode cX2_finishRecordedMove 2 = .ok (.invokevirtual 144, 3) := by decide +kernel
theorem dX2_finishRecordedMove_5 : decode cX2_finishRecordedMove 5 = .ok (.istore_n 1, 1) := by decide +kernel
theorem dX2_finishRecordedMove_6 : decode cX2_finishRecordedMove 6 = .ok (.iload_n 1, 1) := by decide +kernel
theorem dX2_finishRecordedMove_7 : decode cX2_finishRecordedMove 7 = .ok (.iconst 1, 1) := by decide +kernel
theorem dX2_finishRecordedMove_8 : decode cX2_finishRecordedMove 8 = .ok (.if_icmp .ne 7, 3) := by decide +kernel
theorem dX2_finishRecordedMove_11 : decode cX2_finishRecordedMove 11 = .ok (.aload_n 0, 1) := by decide +kernel
theorem dX2_finishRecordedMove_12 : decode cX2_finishRecordedMove 12 = .ok (.invokevirtual 118, 3) := by decide +kernel
theorem dX2_finishRecordedMove_15 : decode cX2_finishRecordedMove 15 = .ok (.iload_n 1, 1) := by decide +kernel
theorem dX2_finishRecordedMove_16 : decode cX2_finishRecordedMove 16 = .ok (.ifCond .eq 7, 3) := by decide +kernel
theorem dX2_finishRecordedMove_19 : decode cX2_finishRecordedMove 19 = .ok (.aload_n 0, 1) := by decide +kernel
theorem dX2_finishRecordedMove_20 : decode cX2_finishRecordedMove 20 = .ok (.invokevirtual 121, 3) := by decide +kernel
theorem dX2_finishRecordedMove_23 : decode cX2_finishRecordedMove 23 = .ok (.return_, 1) := by decide +kernel
set_option maxRecDepth 20000 in
theorem ggX2_clearWrongEntries_X2_kindOf : GoodIn wsX2_clearWrongEntries wsX2_kindOf := goodIn_r _ [6, 7, 8, 9, 5, 10, 11, 12, 13, 14, 15, 16, 42, 43, 44, 45, 46, 47, 48, 49, 50] (by decide +kernel) (by decide +kernel)
set_option maxRecDepth 20000 in
theorem gX2_clearWrongEntries_X2_kindOf : GoodIn wsX2_clearWrongEntries (wsV RX2 94 RX2 yX2_kindOf wsX2_kindOf) := goodIn_app (goodIn_of _ (by decide +kernel)) ggX2_clearWrongEntries_X2_kindOf
set_option maxRecDepth 20000 in
theorem ggX2_clearWrongEntries_X2_clearWrongEntriesOf : GoodIn wsX2_clearWrongEntries wsX2_clearWrongEntriesOf := goodIn_r _ [20, 7, 21, 22, 23, 5, 24, 25, 26, 27, 8, 9, 10, 11, 12, 13, 14, 15, 16, 28, 29, 30, 31, 32, 33, 34, 1, 2, 3, 4, 6, 35, 36, 37, 38, 39, 40, 41, 42, 43, 44, 45, 46, 47, 48, 49, 50] (by decide +kernel) (by decide +kernel)
set_option maxRecDepth 20000 in
theorem gX2_clearWrongEntries_X2_clearWrongEntriesOf : GoodIn wsX2_clearWrongEntries (wsV RX2 212 RX2 yX2_clearWrongEntriesOf wsX2_clearWrongEntriesOf) := goodIn_app (goodIn_of _ (by decide +kernel)) ggX2_clearWrongEntries_X2_clearWrongEntriesOf
theorem dX2_clearWrongEntries_0 : decode cX2_clearWrongEntries 0 = .ok (.aload_n 0, 1) := by decide +kernel
theorem dX2_clearWrongEntries_1 : decode cX2_clearWrongEntries 1 = .ok (.iconst 0, 1) := by decide +kernel
theorem dX2_clearWrongEntries_2 : decode cX2_clearWrongEntries 2 = .ok (.putfield 164, 3) := by decide +kernel
theorem dX2_clearWrongEntries_5 : decode cX2_clearWrongEntries 5 = .ok (.iconst 0, 1) := by decide +kernel
theorem dX2_clearWrongEntries_6 : decode cX2_clearWrongEntries 6 = .ok (.istore_n 1, 1) := by decide +kernel
theorem dX2_clearWrongEntries_7 : decode cX2_clearWrongEntries 7 = .ok (.iload_n 1, 1) := by decide +kernel
theorem dX2_clearWrongEntries_8 : decode cX2_clearWrongEntries 8 = .ok (.bipush 12, 2) := by decide +kernel
theorem dX2_clearWrongEntries_10 : decode cX2_clearWrongEntries 10 = .ok (.if_icmp .ge 23, 3) := by decide +kernel
theorem dX2_clearWrongEntries_13 : decode cX2_clearWrongEntries 13 = .ok (.aload_n 0, 1) := by decide +kernel
theorem dX2_clearWrongEntries_14 : decode cX2_clearWrongEntries 14 = .ok (.iload_n 1, 1) := by decide +kernel
theorem dX2_clearWrongEntries_15 : decode cX2_clearWrongEntries 15 = .ok (.invokevirtual 94, 3) := by decide +kernel
theorem dX2_clearWrongEntries_18 : decode cX2_clearWrongEntries 18 = .ok (.iconst 1, 1) := by decide +kernel
theorem dX2_clearWrongEntries_19 : decode cX2_clearWrongEntries 19 = .ok (.if_icmp .ne 8, 3) := by decide +kernel
theorem dX2_clearWrongEntries_22 : decode cX2_clearWrongEntries 22 = .ok (.aload_n 0, 1) := by decide +kernel
theorem dX2_clearWrongEntries_23 : decode cX2_clearWrongEntries 23 = .ok (.iload_n 1, 1) := by decide +kernel
theorem dX2_clearWrongEntries_24 : decode cX2_clearWrongEntries 24 = .ok (.invokevirtual 212, 3) := by decide +kernel
theorem dX2_clearWrongEntries_27 : decode cX2_clearWrongEntries 27 = .ok (.iinc 1 1, 3) := by decide +kernel
theorem dX2_clearWrongEntries_30 : decode cX2_clearWrongEntries 30 = .ok (.goto (-23), 3) := by decide +kernel
theorem dX2_clearWrongEntries_33 : decode cX2_clearWrongEntries 33 = .ok (.return_, 1) := by decide +kernel
set_option maxRecDepth 20000 in
theorem ggX2_clearWrongEntriesOf_X2_placeOf : GoodIn wsX2_clearWrongEntriesOf wsX2_placeOf := goodIn_r _ [6, 1, 7, 8, 5, 9, 10, 11, 12, 13, 14, 15, 16, 17, 18, 38, 39, 40, 41, 42, 43, 44, 45, 46] (by decide +kernel) (by decide +kernel)
set_option maxRecDepth 20000 in
theorem gX2_clearWrongEntriesOf_X2_placeOf : GoodIn wsX2_clearWrongEntriesOf (wsV RX2 88 RX2 yX2_placeOf wsX2_placeOf) := goodIn_app (goodIn_of _ (by decide +kernel)) ggX2_clearWrongEntriesOf_X2_placeOf
set_option maxRecDepth 20000 in
theorem ggX2_clearWrongEntriesOf_X2_inodeOfEntry : GoodIn wsX2_clearWrongEntriesOf wsX2_inodeOfEntry := goodIn_r _ [21] (by decide +kernel) (by decide +kernel)
set_option maxRecDepth 20000 in
theorem gX2_clearWrongEntriesOf_X2_inodeOfEntry : GoodIn wsX2_clearWrongEntriesOf (va_wsS RX2 91 yX2_inodeOfEntry wsX2_inodeOfEntry) := goodIn_app (goodIn_of _ (by decide +kernel)) ggX2_clearWrongEntriesOf_X2_inodeOfEntry
set_option maxRecDepth 20000 in
theorem ggX2_clearWrongEntriesOf_X2_meet : GoodIn wsX2_clearWrongEntriesOf wsX2_meet := goodIn_r _ [25, 26, 27, 28, 29, 5, 30, 1, 10, 11, 12, 13, 14, 15, 16, 17, 18, 38, 39, 40, 41, 42, 43, 44, 45, 46] (by decide +kernel) (by decide +kernel)
set_option maxRecDepth 20000 in
theorem gX2_clearWrongEntriesOf_X2_meet : GoodIn wsX2_clearWrongEntriesOf (wsV RX2 216 RX2 yX2_meet wsX2_meet) := goodIn_app (goodIn_of _ (by decide +kernel)) ggX2_clearWrongEntriesOf_X2_meet
set_option maxRecDepth 20000 in
theorem ggX2_clearWrongEntriesOf_X2_placeAt : GoodIn wsX2_clearWrongEntriesOf wsX2_placeAt := goodIn_r _ [9, 10, 11, 5, 12] (by decide +kernel) (by decide +kernel)
set_option maxRecDepth 20000 in
theorem gX2_clearWrongEntriesOf_X2_placeAt : GoodIn wsX2_clearWrongEntriesOf (va_wsS RX2 61 yX2_placeAt wsX2_placeAt) := goodIn_app (goodIn_of _ (by decide +kernel)) ggX2_clearWrongEntriesOf_X2_placeAt
set_option maxRecDepth 20000 in
theorem ggX2_clearWrongEntriesOf_X0_write : GoodIn wsX2_clearWrongEntriesOf wsX0_write := goodIn_r _ [34, 35, 18, 36, 37, 43, 44, 45, 46] (by decide +kernel) (by decide +kernel)
set_option maxRecDepth 20000 in
theorem gX2_clearWrongEntriesOf_X0_write : GoodIn wsX2_clearWrongEntriesOf (wsV RX2 57 RX0 yX0_write wsX0_write) := goodIn_app (goodIn_of _ (by decide +kernel)) ggX2_clearWrongEntriesOf_X0_write
theorem dX2_clearWrongEntriesOf_0 : decode cX2_clearWrongEntriesOf 0 = .ok (.iconst 0, 1) := by decide +kernel
theorem dX2_clearWrongEntriesOf_1 : decode cX2_clearWrongEntriesOf 1 = .ok (.istore_n 2, 1) := by decide +kernel
theorem dX2_clearWrongEntriesOf_2 : decode cX2_clearWrongEntriesOf 2 = .ok (.iload_n 2, 1) := by decide +kernel
theorem dX2_clearWrongEntriesOf_3 : decode cX2_clearWrongEntriesOf 3 = .ok (.bipush 8, 2) := by decide +kernel
theorem dX2_clearWrongEntriesOf_5 : decode cX2_clearWrongEntriesOf 5 = .ok (.if_icmp .ge 44, 3) := by decide +kernel
theorem dX2_clearWrongEntriesOf_8 : decode cX2_clearWrongEntriesOf 8 = .ok (.aload_n 0, 1) := by decide +kernel
theorem dX2_clearWrongEntriesOf_9 : decode cX2_clearWrongEntriesOf 9 = .ok (.iload_n 1, 1) := by decide +kernel
theorem dX2_clearWrongEntriesOf_10 : decode cX2_clearWrongEntriesOf 10 = .ok (.iload_n 2, 1) := by decide +kernel
theorem dX2_clearWrongEntriesOf_11 : decode cX2_clearWrongEntriesOf 11 = .ok (.invokevirtual 88, 3) := by decide +kernel
theorem dX2_clearWrongEntriesOf_14 : decode cX2_clearWrongEntriesOf 14 = .ok (.istore_n 3, 1) := by decide +kernel
theorem dX2_clearWrongEntriesOf_15 : decode cX2_clearWrongEntriesOf 15 = .ok (.iload_n 3, 1) := by decide +kernel
theorem dX2_clearWrongEntriesOf_16 : decode cX2_clearWrongEntriesOf 16 = .ok (.ifCond .eq 27, 3) := by decide +kernel
theorem dX2_clearWrongEntriesOf_19 : decode cX2_clearWrongEntriesOf 19 = .ok (.aload_n 0, 1) := by decide +kernel
theorem dX2_clearWrongEntriesOf_20 : decode cX2_clearWrongEntriesOf 20 = .ok (.iload_n 3, 1) := by decide +kernel
theorem dX2_clearWrongEntriesOf_21 : decode cX2_clearWrongEntriesOf 21 = .ok (.invokestatic 91, 3) := by decide +kernel
theorem dX2_clearWrongEntriesOf_24 : decode cX2_clearWrongEntriesOf 24 = .ok (.invokevirtual 216, 3) := by decide +kernel
theorem dX2_clearWrongEntriesOf_27 : decode cX2_clearWrongEntriesOf 27 = .ok (.ifCond .ne 16, 3) := by decide +kernel
theorem dX2_clearWrongEntriesOf_30 : decode cX2_clearWrongEntriesOf 30 = .ok (.aload_n 0, 1) := by decide +kernel
theorem dX2_clearWrongEntriesOf_31 : decode cX2_clearWrongEntriesOf 31 = .ok (.getfield 12, 3) := by decide +kernel
theorem dX2_clearWrongEntriesOf_34 : decode cX2_clearWrongEntriesOf 34 = .ok (.iload_n 1, 1) := by decide +kernel
theorem dX2_clearWrongEntriesOf_35 : decode cX2_clearWrongEntriesOf 35 = .ok (.iload_n 2, 1) := by decide +kernel
theorem dX2_clearWrongEntriesOf_36 : decode cX2_clearWrongEntriesOf 36 = .ok (.invokestatic 61, 3) := by decide +kernel
theorem dX2_clearWrongEntriesOf_39 : decode cX2_clearWrongEntriesOf 39 = .ok (.lconst 0, 1) := by decide +kernel
theorem dX2_clearWrongEntriesOf_40 : decode cX2_clearWrongEntriesOf 40 = .ok (.invokevirtual 57, 3) := by decide +kernel
theorem dX2_clearWrongEntriesOf_43 : decode cX2_clearWrongEntriesOf 43 = .ok (.iinc 2 1, 3) := by decide +kernel
theorem dX2_clearWrongEntriesOf_46 : decode cX2_clearWrongEntriesOf 46 = .ok (.goto (-44), 3) := by decide +kernel
theorem dX2_clearWrongEntriesOf_49 : decode cX2_clearWrongEntriesOf 49 = .ok (.return_, 1) := by decide +kernel
set_option maxRecDepth 20000 in
theorem ggX2_clearInodesWithoutEntry_X2_kindOf : GoodIn wsX2_clearInodesWithoutEntry wsX2_kindOf := goodIn_r _ [6, 1, 7, 8, 5, 9, 10, 11, 12, 13, 14, 15, 41, 42, 43, 44, 45, 46, 47, 48, 49] (by decide +kernel) (by decide +kernel)
set_option maxRecDepth 20000 in
theorem gX2_clearInodesWithoutEntry_X2_kindOf : GoodIn wsX2_clearInodesWithoutEntry (wsV RX2 94 RX2 yX2_kindOf wsX2_kindOf) := goodIn_app (goodIn_of _ (by decide +kernel)) ggX2_clearInodesWithoutEntry_X2_kindOf
set_option maxRecDepth 20000 in
theorem ggX2_clearInodesWithoutEntry_X2_directoryAbove : GoodIn wsX2_clearInodesWithoutEntry wsX2_directoryAbove := goodIn_r _ [19, 2, 3, 4, 5, 6, 1, 7, 8, 9, 10, 11, 12, 13, 14, 15, 20, 21, 22, 23, 24, 25, 26, 27, 28, 29, 30, 31, 32, 33, 41, 42, 43, 44, 45, 46, 47, 48, 49] (by decide +kernel) (by decide +kernel)
set_option maxRecDepth 20000 in
theorem gX2_clearInodesWithoutEntry_X2_directoryAbove : GoodIn wsX2_clearInodesWithoutEntry (wsV RX2 186 RX2 yX2_directoryAbove wsX2_directoryAbove) := goodIn_app (goodIn_of _ (by decide +kernel)) ggX2_clearInodesWithoutEntry_X2_directoryAbove
set_option maxRecDepth 20000 in
theorem ggX2_clearInodesWithoutEntry_X2_inodeAt : GoodIn wsX2_clearInodesWithoutEntry wsX2_inodeAt := goodIn_r _ [9] (by decide +kernel) (by decide +kernel)
set_option maxRecDepth 20000 in
theorem gX2_clearInodesWithoutEntry_X2_inodeAt : GoodIn wsX2_clearInodesWithoutEntry (va_wsS RX2 54 yX2_inodeAt wsX2_inodeAt) := goodIn_app (goodIn_of _ (by decide +kernel)) ggX2_clearInodesWithoutEntry_X2_inodeAt
set_option maxRecDepth 20000 in
theorem ggX2_clearInodesWithoutEntry_X0_write : GoodIn wsX2_clearInodesWithoutEntry wsX0_write := goodIn_r _ [37, 38, 15, 39, 40, 46, 47, 48, 49] (by decide +kernel) (by decide +kernel)
set_option maxRecDepth 20000 in
theorem gX2_clearInodesWithoutEntry_X0_write : GoodIn wsX2_clearInodesWithoutEntry (wsV RX2 57 RX0 yX0_write wsX0_write) := goodIn_app (goodIn_of _ (by decide +kernel)) ggX2_clearInodesWithoutEntry_X0_write
theorem dX2_clearInodesWithoutEntry_0 : decode cX2_clearInodesWithoutEntry 0 = .ok (.iconst 1, 1) := by decide +kernel
theorem dX2_clearInodesWithoutEntry_1 : decode cX2_clearInodesWithoutEntry 1 = .ok (.istore_n 1, 1) := by decide +kernel
theorem dX2_clearInodesWithoutEntry_2 : decode cX2_clearInodesWithoutEntry 2 = .ok (.iload_n 1, 1) := by decide +kernel
theorem dX2_clearInodesWithoutEntry_3 : decode cX2_clearInodesWithoutEntry 3 = .ok (.bipush 12, 2) := by decide +kernel
theorem dX2_clearInodesWithoutEntry_5 : decode cX2_clearInodesWithoutEntry 5 = .ok (.if_icmp .ge 40, 3) := by decide +kernel
theorem dX2_clearInodesWithoutEntry_8 : decode cX2_clearInodesWithoutEntry 8 = .ok (.aload_n 0, 1) := by decide +kernel
theorem dX2_clearInodesWithoutEntry_9 : decode cX2_clearInodesWithoutEntry 9 = .ok (.iload_n 1, 1) := by decide +kernel
theorem dX2_clearInodesWithoutEntry_10 : decode cX2_clearInodesWithoutEntry 10 = .ok (.invokevirtual 94, 3) := by decide +kernel
theorem dX2_clearInodesWithoutEntry_13 : decode cX2_clearInodesWithoutEntry 13 = .ok (.ifCond .eq 26, 3) := by decide +kernel
theorem dX2_clearInodesWithoutEntry_16 : decode cX2_clearInodesWithoutEntry 16 = .ok (.aload_n 0, 1) := by decide +kernel
theorem dX2_clearInodesWithoutEntry_17 : decode cX2_clearInodesWithoutEntry 17 = .ok (.iload_n 1, 1) := by decide +kernel
theorem dX2_clearInodesWithoutEntry_18 : decode cX2_clearInodesWithoutEntry 18 = .ok (.invokevirtual 186, 3) := by decide +kernel
theorem dX2_clearInodesWithoutEntry_21 : decode cX2_clearInodesWithoutEntry 21 = .ok (.bipush (-3), 2) := by decide +kernel
theorem dX2_clearInodesWithoutEntry_23 : decode cX2_clearInodesWithoutEntry 23 = .ok (.if_icmp .ne 16, 3) := by decide +kernel
theorem dX2_clearInodesWithoutEntry_26 : decode cX2_clearInodesWithoutEntry 26 = .ok (.aload_n 0, 1) := by decide +kernel
theorem dX2_clearInodesWithoutEntry_27 : decode cX2_clearInodesWithoutEntry 27 = .ok (.getfield 12, 3) := by decide +kernel
theorem dX2_clearInodesWithoutEntry_30 : decode cX2_clearInodesWithoutEntry 30 = .ok (.iload_n 1, 1) := by decide +kernel
theorem dX2_clearInodesWithoutEntry_31 : decode cX2_clearInodesWithoutEntry 31 = .ok (.iconst 0, 1) := by decide +kernel
theorem dX2_clearInodesWithoutEntry_32 : decode cX2_clearInodesWithoutEntry 32 = .ok (.invokestatic 54, 3) := by decide +kernel
theorem dX2_clearInodesWithoutEntry_35 : decode cX2_clearInodesWithoutEntry 35 = .ok (.lconst 0, 1) := by decide +kernel
theorem dX2_clearInodesWithoutEntry_36 : decode cX2_clearInodesWithoutEntry 36 = .ok (.invokevirtual 57, 3) := by decide +kernel
theorem dX2_clearInodesWithoutEntry_39 : decode cX2_clearInodesWithoutEntry 39 = .ok (.iinc 1 1, 3) := by decide +kernel
theorem dX2_clearInodesWithoutEntry_42 : decode cX2_clearInodesWithoutEntry 42 = .ok (.goto (-40), 3) := by decide +kernel
theorem dX2_clearInodesWithoutEntry_45 : decode cX2_clearInodesWithoutEntry 45 = .ok (.return_, 1) := by decide +kernel
set_option maxRecDepth 20000 in
theorem ggX2_meet_X2_kindOf : GoodIn wsX2_meet wsX2_kindOf := goodIn_r _ [6, 7, 8, 9, 5, 10, 11, 12, 13, 14, 15, 16, 17, 18, 19, 20, 21, 22, 23, 24, 25] (by decide +kernel) (by decide +kernel)
set_option maxRecDepth 20000 in
theorem gX2_meet_X2_kindOf : GoodIn wsX2_meet (wsV RX2 94 RX2 yX2_kindOf wsX2_kindOf) := goodIn_app (goodIn_of _ (by decide +kernel)) ggX2_meet_X2_kindOf
theorem dX2_meet_0 : decode cX2_meet 0 = .ok (.aload_n 0, 1) := by decide +kernel
theorem dX2_meet_1 : decode cX2_meet 1 = .ok (.iload_n 1, 1) := by decide +kernel
theorem dX2_meet_2 : decode cX2_meet 2 = .ok (.invokevirtual 94, 3) := by decide +kernel
theorem dX2_meet_5 : decode cX2_meet 5 = .ok (.ifCond .eq 15, 3) := by decide +kernel
theorem dX2_meet_8 : decode cX2_meet 8 = .ok (.aload_n 0, 1) := by decide +kernel
theorem dX2_meet_9 : decode cX2_meet 9 = .ok (.getfield 164, 3) := by decide +kernel
theorem dX2_meet_12 : decode cX2_meet 12 = .ok (.iload_n 1, 1) := by decide +kernel
theorem dX2_meet_13 : decode cX2_meet 13 = .ok (.ishr, 1) := by decide +kernel
theorem dX2_meet_14 : decode cX2_meet 14 = .ok (.iconst 1, 1) := by decide +kernel
theorem dX2_meet_15 : decode cX2_meet 15 = .ok (.iand, 1) := by decide +kernel
theorem dX2_meet_16 : decode cX2_meet 16 = .ok (.iconst 1, 1) := by decide +kernel
theorem dX2_meet_17 : decode cX2_meet 17 = .ok (.if_icmp .ne 5, 3) := by decide +kernel
theorem dX2_meet_20 : decode cX2_meet 20 = .ok (.iconst 0, 1) := by decide +kernel
theorem dX2_meet_21 : decode cX2_meet 21 = .ok (.ireturn, 1) := by decide +kernel
theorem dX2_meet_22 : decode cX2_meet 22 = .ok (.aload_n 0, 1) := by decide +kernel
theorem dX2_meet_23 : decode cX2_meet 23 = .ok (.dup, 1) := by decide +kernel
theorem dX2_meet_24 : decode cX2_meet 24 = .ok (.getfield 164, 3) := by decide +kernel
theorem dX2_meet_27 : decode cX2_meet 27 = .ok (.iconst 1, 1) := by decide +kernel
theorem dX2_meet_28 : decode cX2_meet 28 = .ok (.iload_n 1, 1) := by decide +kernel
theorem dX2_meet_29 : decode cX2_meet 29 = .ok (.ishl, 1) := by decide +kernel
theorem dX2_meet_30 : decode cX2_meet 30 = .ok (.ior, 1) := by decide +kernel
theorem dX2_meet_31 : decode cX2_meet 31 = .ok (.putfield 164, 3) := by decide +kernel
theorem dX2_meet_34 : decode cX2_meet 34 = .ok (.iconst 1, 1) := by decide +kernel
theorem dX2_meet_35 : decode cX2_meet 35 = .ok (.ireturn, 1) := by decide +kernel
set_option maxRecDepth 20000 in
theorem ggX2_countInodes_X2_kindOf : GoodIn wsX2_countInodes wsX2_kindOf := goodIn_r _ [5, 6, 7, 8, 4, 9, 10, 11, 12, 13, 14, 15, 16, 17, 18, 19, 20, 21, 22, 23, 24] (by decide +kernel) (by decide +kernel)
set_option maxRecDepth 20000 in
theorem gX2_countInodes_X2_kindOf : GoodIn wsX2_countInodes (wsV RX2 94 RX2 yX2_kindOf wsX2_kindOf) := goodIn_app (goodIn_of _ (by decide +kernel)) ggX2_countInodes_X2_kindOf
theorem dX2_countInodes_0 : decode cX2_countInodes 0 = .ok (.iconst 0, 1) := by decide +kernel
theorem dX2_countInodes_1 : decode cX2_countInodes 1 = .ok (.istore_n 1, 1) := by decide +kernel
theorem dX2_countInodes_2 : decode cX2_countInodes 2 = .ok (.iconst 0, 1) := by decide +kernel
theorem dX2_countInodes_3 : decode cX2_countInodes 3 = .ok (.istore_n 2, 1) := by decide +kernel
theorem dX2_countInodes_4 : decode cX2_countInodes 4 = .ok (.iload_n 2, 1) := by decide +kernel
theorem dX2_countInodes_5 : decode cX2_countInodes 5 = .ok (.bipush 12, 2) := by decide +kernel
theorem dX2_countInodes_7 : decode cX2_countInodes 7 = .ok (.if_icmp .ge 20, 3) := by decide +kernel
theorem dX2_countInodes_10 : decode cX2_countInodes 10 = .ok (.aload_n 0, 1) := by decide +kernel
theorem dX2_countInodes_11 : decode cX2_countInodes 11 = .ok (.iload_n 2, 1) := by decide +kernel
theorem dX2_countInodes_12 : decode cX2_countInodes 12 = .ok (.invokevirtual 94, 3) := by decide +kernel
theorem dX2_countInodes_15 : decode cX2_countInodes 15 = .ok (.ifCond .eq 6, 3) := by decide +kernel
theorem dX2_countInodes_18 : decode cX2_countInodes 18 = .ok (.iinc 1 1, 3) := by decide +kernel
theorem dX2_countInodes_21 : decode cX2_countInodes 21 = .ok (.iinc 2 1, 3) := by decide +kernel
theorem dX2_countInodes_24 : decode cX2_countInodes 24 = .ok (.goto (-20), 3) := by decide +kernel
theorem dX2_countInodes_27 : decode cX2_countInodes 27 = .ok (.iload_n 1, 1) := by decide +kernel
theorem dX2_countInodes_28 : decode cX2_countInodes 28 = .ok (.ireturn, 1) := by decide +kernel
set_option maxRecDepth 20000 in
theorem ggX2_countMisplacedBlocks_X2_blocksOf : GoodIn wsX2_countMisplacedBlocks wsX2_blocksOf := goodIn_r _ [5, 6, 7, 8, 4, 9, 10, 11, 12, 13, 14, 15, 16, 17, 18, 19, 20, 21, 22, 23, 31, 32, 33, 34, 35, 36, 37, 38, 39] (by decide +kernel) (by decide +kernel)
set_option maxRecDepth 20000 in
theorem gX2_countMisplacedBlocks_X2_blocksOf : GoodIn wsX2_countMisplacedBlocks (wsV RX2 189 RX2 yX2_blocksOf wsX2_blocksOf) := goodIn_app (goodIn_of _ (by decide +kernel)) ggX2_countMisplacedBlocks_X2_blocksOf
set_option maxRecDepth 20000 in
theorem ggX2_countMisplacedBlocks_X2_placeOf : GoodIn wsX2_countMisplacedBlocks wsX2_placeOf := goodIn_r _ [27, 10, 28, 29, 4, 30, 11, 12, 13, 14, 15, 16, 17, 18, 19, 31, 32, 33, 34, 35, 36, 37, 38, 39] (by decide +kernel) (by decide +kernel)
set_option maxRecDepth 20000 in
theorem gX2_countMisplacedBlocks_X2_placeOf : GoodIn wsX2_countMisplacedBlocks (wsV RX2 88 RX2 yX2_placeOf wsX2_placeOf) := goodIn_app (goodIn_of _ (by decide +kernel)) ggX2_countMisplacedBlocks_X2_placeOf
theorem dX2_countMisplacedBlocks_0 : decode cX2_countMisplacedBlocks 0 = .ok (.iconst 0, 1) := by decide +kernel
theorem dX2_countMisplacedBlocks_1 : decode cX2_countMisplacedBlocks 1 = .ok (.istore_n 1, 1) := by decide +kernel
theorem dX2_countMisplacedBlocks_2 : decode cX2_countMisplacedBlocks 2 = .ok (.iconst 0, 1) := by decide +kernel
theorem dX2_countMisplacedBlocks_3 : decode cX2_countMisplacedBlocks 3 = .ok (.istore_n 2, 1) := by decide +kernel
theorem dX2_countMisplacedBlocks_4 : decode cX2_countMisplacedBlocks 4 = .ok (.iconst 0, 1) := by decide +kernel
theorem dX2_countMisplacedBlocks_5 : decode cX2_countMisplacedBlocks 5 = .ok (.istore_n 3, 1) := by decide +kernel
theorem dX2_countMisplacedBlocks_6 : decode cX2_countMisplacedBlocks 6 = .ok (.iload_n 3, 1) := by decide +kernel
theorem dX2_countMisplacedBlocks_7 : decode cX2_countMisplacedBlocks 7 = .ok (.bipush 12, 2) := by decide +kernel
theorem dX2_countMisplacedBlocks_9 : decode cX2_countMisplacedBlocks 9 = .ok (.if_icmp .ge 49, 3) := by decide +kernel
theorem dX2_countMisplacedBlocks_12 : decode cX2_countMisplacedBlocks 12 = .ok (.aload_n 0, 1) := by decide +kernel
theorem dX2_countMisplacedBlocks_13 : decode cX2_countMisplacedBlocks 13 = .ok (.iload_n 3, 1) := by decide +kernel
theorem dX2_countMisplacedBlocks_14 : decode cX2_countMisplacedBlocks 14 = .ok (.invokevirtual 189, 3) := by decide +kernel
theorem dX2_countMisplacedBlocks_17 : decode cX2_countMisplacedBlocks 17 = .ok (.istore 4, 2) := by decide +kernel
theorem dX2_countMisplacedBlocks_19 : decode cX2_countMisplacedBlocks 19 = .ok (.iconst 0, 1) := by decide +kernel
theorem dX2_countMisplacedBlocks_20 : decode cX2_countMisplacedBlocks 20 = .ok (.istore 5, 2) := by decide +kernel
theorem dX2_countMisplacedBlocks_22 : decode cX2_countMisplacedBlocks 22 = .ok (.iload 5, 2) := by decide +kernel
theorem dX2_countMisplacedBlocks_24 : decode cX2_countMisplacedBlocks 24 = .ok (.iload 4, 2) := by decide +kernel
theorem dX2_countMisplacedBlocks_26 : decode cX2_countMisplacedBlocks 26 = .ok (.if_icmp .ge 26, 3) := by decide +kernel
theorem dX2_countMisplacedBlocks_29 : decode cX2_countMisplacedBlocks 29 = .ok (.aload_n 0, 1) := by decide +kernel
theorem dX2_countMisplacedBlocks_30 : decode cX2_countMisplacedBlocks 30 = .ok (.iload_n 3, 1) := by decide +kernel
theorem dX2_countMisplacedBlocks_31 : decode cX2_countMisplacedBlocks 31 = .ok (.iload 5, 2) := by decide +kernel
theorem dX2_countMisplacedBlocks_33 : decode cX2_countMisplacedBlocks 33 = .ok (.invokevirtual 88, 3) := by decide +kernel
theorem dX2_countMisplacedBlocks_36 : decode cX2_countMisplacedBlocks 36 = .ok (.iload_n 1, 1) := by decide +kernel
theorem dX2_countMisplacedBlocks_37 : decode cX2_countMisplacedBlocks 37 = .ok (.if_icmp .eq 6, 3) := by decide +kernel
theorem dX2_countMisplacedBlocks_40 : decode cX2_countMisplacedBlocks 40 = .ok (.iinc 2 1, 3) := by decide +kernel
theorem dX2_countMisplacedBlocks_43 : decode cX2_countMisplacedBlocks 43 = .ok (.iinc 1 1, 3) := by decide +kernel
theorem dX2_countMisplacedBlocks_46 : decode cX2_countMisplacedBlocks 46 = .ok (.iinc 5 1, 3) := by decide +kernel
theorem dX2_countMisplacedBlocks_49 : decode cX2_countMisplacedBlocks 49 = .ok (.goto (-27), 3) := by decide +kernel
theorem dX2_countMisplacedBlocks_52 : decode cX2_countMisplacedBlocks 52 = .ok (.iinc 3 1, 3) := by decide +kernel
theorem dX2_countMisplacedBlocks_55 : decode cX2_countMisplacedBlocks 55 = .ok (.goto (-49), 3) := by decide +kernel
theorem dX2_countMisplacedBlocks_58 : decode cX2_countMisplacedBlocks 58 = .ok (.iload_n 2, 1) := by decide +kernel
theorem dX2_countMisplacedBlocks_59 : decode cX2_countMisplacedBlocks 59 = .ok (.ireturn, 1) := by decide +kernel
set_option maxRecDepth 20000 in
theorem ggX2_countEntries_X2_kindOf : GoodIn wsX2_countEntries wsX2_kindOf := goodIn_r _ [5, 6, 7, 8, 4, 9, 10, 11, 12, 13, 14, 15, 27, 28, 29, 30, 31, 32, 33, 34, 35] (by decide +kernel) (by decide +kernel)
set_option maxRecDepth 20000 in
theorem gX2_countEntries_X2_kindOf : GoodIn wsX2_countEntries (wsV RX2 94 RX2 yX2_kindOf wsX2_kindOf) := goodIn_app (goodIn_of _ (by decide +kernel)) ggX2_countEntries_X2_kindOf
set_option maxRecDepth 20000 in
theorem ggX2_countEntries_X2_entriesOf : GoodIn wsX2_countEntries wsX2_entriesOf := goodIn_r _ [19, 20, 21, 22, 4, 23, 6, 24, 25, 26, 7, 8, 9, 10, 11, 12, 13, 14, 15, 27, 28, 29, 30, 31, 32, 33, 34, 35] (by decide +kernel) (by decide +kernel)
set_option maxRecDepth 20000 in
theorem gX2_countEntries_X2_entriesOf : GoodIn wsX2_countEntries (wsV RX2 97 RX2 yX2_entriesOf wsX2_entriesOf) := goodIn_app (goodIn_of _ (by decide +kernel)) ggX2_countEntries_X2_entriesOf
theorem dX2_countEntries_0 : decode cX2_countEntries 0 = .ok (.iconst 0, 1) := by decide +kernel
theorem dX2_countEntries_1 : decode cX2_countEntries 1 = .ok (.istore_n 1, 1) := by decide +kernel
theorem dX2_countEntries_2 : decode cX2_countEntries 2 = .ok (.iconst 0, 1) := by decide +kernel
theorem dX2_countEntries_3 : decode cX2_countEntries 3 = .ok (.istore_n 2, 1) := by decide +kernel
theorem dX2_countEntries_4 : decode cX2_countEntries 4 = .ok (.iload_n 2, 1) := by decide +kernel
theorem dX2_countEntries_5 : decode cX2_countEntries 5 = .ok (.bipush 12, 2) := by decide +kernel
theorem dX2_countEntries_7 : decode cX2_countEntries 7 = .ok (.if_icmp .ge 26, 3) := by decide +kernel
theorem dX2_countEntries_10 : decode cX2_countEntries 10 = .ok (.aload_n 0, 1) := by decide +kernel
theorem dX2_countEntries_11 : decode cX2_countEntries 11 = .ok (.iload_n 2, 1) := by decide +kernel
theorem dX2_countEntries_12 : decode cX2_countEntries 12 = .ok (.invokevirtual 94, 3) := by decide +kernel
theorem dX2_countEntries_15 : decode cX2_countEntries 15 = .ok (.iconst 1, 1) := by decide +kernel
theorem dX2_countEntries_16 : decode cX2_countEntries 16 = .ok (.if_icmp .ne 11, 3) := by decide +kernel
theorem dX2_countEntries_19 : decode cX2_countEntries 19 = .ok (.iload_n 1, 1) := by decide +kernel
theorem dX2_countEntries_20 : decode cX2_countEntries 20 = .ok (.aload_n 0, 1) := by decide +kernel
theorem dX2_countEntries_21 : decode cX2_countEntries 21 = .ok (.iload_n 2, 1) := by decide +kernel
theorem dX2_countEntries_22 : decode cX2_countEntries 22 = .ok (.invokevirtual 97, 3) := by decide +kernel
theorem dX2_countEntries_25 : decode cX2_countEntries 25 = .ok (.iadd, 1) := by decide +kernel
theorem dX2_countEntries_26 : decode cX2_countEntries 26 = .ok (.istore_n 1, 1) := by decide +kernel
theorem dX2_countEntries_27 : decode cX2_countEntries 27 = .ok (.iinc 2 1, 3) := by decide +kernel
theorem dX2_countEntries_30 : decode cX2_countEntries 30 = .ok (.goto (-26), 3) := by decide +kernel
theorem dX2_countEntries_33 : decode cX2_countEntries 33 = .ok (.iload_n 1, 1) := by decide +kernel
theorem dX2_countEntries_34 : decode cX2_countEntries 34 = .ok (.ireturn, 1) := by decide +kernel
set_option maxRecDepth 20000 in
theorem ggX2_hashOfInode_X2_kindOf : GoodIn wsX2_hashOfInode wsX2_kindOf := goodIn_r _ [5, 6, 7, 8, 4, 9, 10, 11, 12, 13, 14, 15, 59, 60, 61, 62, 63, 64, 65, 66, 67] (by decide +kernel) (by decide +kernel)
set_option maxRecDepth 20000 in
theorem gX2_hashOfInode_X2_kindOf : GoodIn wsX2_hashOfInode (wsV RX2 94 RX2 yX2_kindOf wsX2_kindOf) := goodIn_app (goodIn_of _ (by decide +kernel)) ggX2_hashOfInode_X2_kindOf
set_option maxRecDepth 20000 in
theorem ggX2_hashOfInode_X2_hashOfDirectory : GoodIn wsX2_hashOfInode wsX2_hashOfDirectory := goodIn_r _ [39, 23, 40, 41, 42, 43, 4, 44, 29, 30, 31, 32, 6, 33, 34, 35, 7, 8, 9, 10, 11, 12, 13, 14, 15, 45, 46, 47, 48, 49, 50, 51, 52, 53, 54, 55, 1, 2, 3, 5, 56, 57, 58, 0, 16, 17, 18, 19, 20, 21, 22, 24, 25, 26, 27, 28, 36, 37, 38, 59, 60, 61, 62, 63, 64, 65, 66, 67] (by decide +kernel) (by decide +kernel)
set_option maxRecDepth 20000 in
theorem gX2_hashOfInode_X2_hashOfDirectory : GoodIn wsX2_hashOfInode (wsV RX2 219 RX2 yX2_hashOfDirectory wsX2_hashOfDirectory) := goodIn_app (goodIn_of _ (by decide +kernel)) ggX2_hashOfInode_X2_hashOfDirectory
set_option maxRecDepth 20000 in
theorem ggX2_hashOfInode_X2_hashOfFile : GoodIn wsX2_hashOfInode wsX2_hashOfFile := goodIn_r _ [22, 23, 24, 6, 25, 26, 27, 4, 28, 7, 8, 9, 10, 11, 12, 13, 14, 15, 29, 30, 31, 32, 33, 34, 35, 36, 37, 38, 59, 60, 61, 62, 63, 64, 65, 66, 67] (by decide +kernel) (by decide +kernel)
set_option maxRecDepth 20000 in
theorem gX2_hashOfInode_X2_hashOfFile : GoodIn wsX2_hashOfInode (wsV RX2 222 RX2 yX2_hashOfFile wsX2_hashOfFile) := goodIn_app (goodIn_of _ (by decide +kernel)) ggX2_hashOfInode_X2_hashOfFile
theorem dX2_hashOfInode_0 : decode cX2_hashOfInode 0 = .ok (.iload 4, 2) := by decide +kernel
theorem dX2_hashOfInode_2 : decode cX2_hashOfInode 2 = .ok (.bipush 12, 2) := by decide +kernel
theorem dX2_hashOfInode_4 : decode cX2_hashOfInode 4 = .ok (.if_icmp .lt 5, 3) := by decide +kernel
theorem dX2_hashOfInode_7 : decode cX2_hashOfInode 7 = .ok (.lload_n 1, 1) := by decide +kernel
theorem dX2_hashOfInode_8 : decode cX2_hashOfInode 8 = .ok (.lreturn, 1) := by decide +kernel
theorem dX2_hashOfInode_9 : decode cX2_hashOfInode 9 = .ok (.aload_n 0, 1) := by decide +kernel
theorem dX2_hashOfInode_10 : decode cX2_hashOfInode 10 = .ok (.iload_n 3, 1) := by decide +kernel
theorem dX2_hashOfInode_11 : decode cX2_hashOfInode 11 = .ok (.invokevirtual 94, 3) := by decide +kernel
theorem dX2_hashOfInode_14 : decode cX2_hashOfInode 14 = .ok (.iconst 1, 1) := by decide +kernel
theorem dX2_hashOfInode_15 : decode cX2_hashOfInode 15 = .ok (.if_icmp .ne 14, 3) := by decide +kernel
theorem dX2_hashOfInode_18 : decode cX2_hashOfInode 18 = .ok (.aload_n 0, 1) := by decide +kernel
theorem dX2_hashOfInode_19 : decode cX2_hashOfInode 19 = .ok (.lload_n 1, 1) := by decide +kernel
theorem dX2_hashOfInode_20 : decode cX2_hashOfInode 20 = .ok (.iload_n 3, 1) := by decide +kernel
theorem dX2_hashOfInode_21 : decode cX2_hashOfInode 21 = .ok (.iload 4, 2) := by decide +kernel
theorem dX2_hashOfInode_23 : decode cX2_hashOfInode 23 = .ok (.invokevirtual 219, 3) := by decide +kernel
theorem dX2_hashOfInode_26 : decode cX2_hashOfInode 26 = .ok (.goto 9, 3) := by decide +kernel
theorem dX2_hashOfInode_29 : decode cX2_hashOfInode 29 = .ok (.aload_n 0, 1) := by decide +kernel
theorem dX2_hashOfInode_30 : decode cX2_hashOfInode 30 = .ok (.lload_n 1, 1) := by decide +kernel
theorem dX2_hashOfInode_31 : decode cX2_hashOfInode 31 = .ok (.iload_n 3, 1) := by decide +kernel
theorem dX2_hashOfInode_32 : decode cX2_hashOfInode 32 = .ok (.invokevirtual 222, 3) := by decide +kernel
theorem dX2_hashOfInode_35 : decode cX2_hashOfInode 35 = .ok (.lreturn, 1) := by decide +kernel
set_option maxRecDepth 20000 in
theorem ggX2_hashOfDirectory_X2_entryBehindName : GoodIn wsX2_hashOfDirectory wsX2_entryBehindName := goodIn_r _ [7, 8, 9, 10, 6, 11, 12, 13, 14, 15, 16, 17, 18, 19, 20, 21, 22, 23, 24, 25, 26, 27, 59, 60, 61, 62, 63, 64, 65, 66, 67] (by decide +kernel) (by decide +kernel)
set_option maxRecDepth 20000 in
theorem gX2_hashOfDirectory_X2_entryBehindName : GoodIn wsX2_hashOfDirectory (wsV RX2 226 RX2 yX2_entryBehindName wsX2_entryBehindName) := goodIn_app (goodIn_of _ (by decide +kernel)) ggX2_hashOfDirectory_X2_entryBehindName
set_option maxRecDepth 20000 in
theorem ggX2_hashOfDirectory_X2_inodeOfEntry : GoodIn wsX2_hashOfDirectory wsX2_inodeOfEntry := goodIn_r _ [30] (by decide +kernel) (by decide +kernel)
set_option maxRecDepth 20000 in
theorem gX2_hashOfDirectory_X2_inodeOfEntry : GoodIn wsX2_hashOfDirectory (va_wsS RX2 91 yX2_inodeOfEntry wsX2_inodeOfEntry) := goodIn_app (goodIn_of _ (by decide +kernel)) ggX2_hashOfDirectory_X2_inodeOfEntry
set_option maxRecDepth 20000 in
theorem ggX2_hashOfDirectory_X2_meet : GoodIn wsX2_hashOfDirectory wsX2_meet := goodIn_r _ [34, 35, 36, 37, 38, 6, 39, 12, 16, 17, 18, 19, 20, 21, 22, 23, 24, 59, 60, 61, 62, 63, 64, 65, 66, 67] (by decide +kernel) (by decide +kernel)
set_option maxRecDepth 20000 in
theorem gX2_hashOfDirectory_X2_meet : GoodIn wsX2_hashOfDirectory (wsV RX2 216 RX2 yX2_meet wsX2_meet) := goodIn_app (goodIn_of _ (by decide +kernel)) ggX2_hashOfDirectory_X2_meet
set_option maxRecDepth 20000 in
theorem ggX2_hashOfDirectory_X2_nameOfEntry : GoodIn wsX2_hashOfDirectory wsX2_nameOfEntry := goodIn_r _ [27] (by decide +kernel) (by decide +kernel)
set_option maxRecDepth 20000 in
theorem gX2_hashOfDirectory_X2_nameOfEntry : GoodIn wsX2_hashOfDirectory (va_wsS RX2 180 yX2_nameOfEntry wsX2_nameOfEntry) := goodIn_app (goodIn_of _ (by decide +kernel)) ggX2_hashOfDirectory_X2_nameOfEntry
set_option maxRecDepth 20000 in
theorem ggX2_hashOfDirectory_X2_hashOfInode : GoodIn wsX2_hashOfDirectory wsX2_hashOfInode := goodIn_r _ [43, 36, 37, 38, 6, 39, 12, 16, 17, 18, 19, 20, 21, 22, 23, 24, 44, 45, 46, 47, 48, 49, 50, 1, 51, 52, 53, 54, 55, 8, 9, 10, 11, 13, 14, 15, 56, 57, 58, 0, 2, 3, 4, 5, 7, 25, 26, 27, 28, 29, 30, 31, 32, 33, 34, 35, 40, 41, 42, 59, 60, 61, 62, 63, 64, 65, 66, 67] (by decide +kernel) (by decide +kernel)
set_option maxRecDepth 20000 in
theorem gX2_hashOfDirectory_X2_hashOfInode : GoodIn wsX2_hashOfDirectory (wsV RX2 169 RX2 yX2_hashOfInode wsX2_hashOfInode) := goodIn_app (goodIn_of _ (by decide +kernel)) ggX2_hashOfDirectory_X2_hashOfInode
theorem dX2_hashOfDirectory_0 : decode cX2_hashOfDirectory 0 = .ok (.ldc2_w 175, 3) := by decide +kernel
theorem dX2_hashOfDirectory_3 : decode cX2_hashOfDirectory 3 = .ok (.lload_n 1, 1) := by decide +kernel
theorem dX2_hashOfDirectory_4 : decode cX2_hashOfDirectory 4 = .ok (.lmul, 1) := by decide +kernel
theorem dX2_hashOfDirectory_5 : decode cX2_hashOfDirectory 5 = .ok (.lconst 1, 1) := by decide +kernel
theorem dX2_hashOfDirectory_6 : decode cX2_hashOfDirectory 6 = .ok (.ladd, 1) := by decide +kernel
theorem dX2_hashOfDirectory_7 : decode cX2_hashOfDirectory 7 = .ok (.lstore 5, 2) := by decide +kernel
theorem dX2_hashOfDirectory_9 : decode cX2_hashOfDirectory 9 = .ok (.aload_n 0, 1) := by decide +kernel
theorem dX2_hashOfDirectory_10 : decode cX2_hashOfDirectory 10 = .ok (.iload_n 3, 1) := by decide +kernel
theorem dX2_hashOfDirectory_11 : decode cX2_hashOfDirectory 11 = .ok (.iconst 0, 1) := by decide +kernel
theorem dX2_hashOfDirectory_12 : decode cX2_hashOfDirectory 12 = .ok (.invokevirtual 226, 3) := by decide +kernel
theorem dX2_hashOfDirectory_15 : decode cX2_hashOfDirectory 15 = .ok (.istore 7, 2) := by decide +kernel
theorem dX2_hashOfDirectory_17 : decode cX2_hashOfDirectory 17 = .ok (.iconst 0, 1) := by decide +kernel
theorem dX2_hashOfDirectory_18 : decode cX2_hashOfDirectory 18 = .ok (.istore 8, 2) := by decide +kernel
theorem dX2_hashOfDirectory_20 : decode cX2_hashOfDirectory 20 = .ok (.iload 8, 2) := by decide +kernel
theorem dX2_hashOfDirectory_22 : decode cX2_hashOfDirectory 22 = .ok (.bipush 8, 2) := by decide +kernel
theorem dX2_hashOfDirectory_24 : decode cX2_hashOfDirectory 24 = .ok (.if_icmp .ge 66, 3) := by decide +kernel
theorem dX2_hashOfDirectory_27 : decode cX2_hashOfDirectory 27 = .ok (.iload 7, 2) := by decide +kernel
theorem dX2_hashOfDirectory_29 : decode cX2_hashOfDirectory 29 = .ok (.ifCond .eq 61, 3) := by decide +kernel
theorem dX2_hashOfDirectory_32 : decode cX2_hashOfDirectory 32 = .ok (.aload_n 0, 1) := by decide +kernel
theorem dX2_hashOfDirectory_33 : decode cX2_hashOfDirectory 33 = .ok (.iload 7, 2) := by decide +kernel
theorem dX2_hashOfDirectory_35 : decode cX2_hashOfDirectory 35 = .ok (.invokestatic 91, 3) := by decide +kernel
theorem dX2_hashOfDirectory_38 : decode cX2_hashOfDirectory 38 = .ok (.invokevirtual 216, 3) := by decide +kernel
theorem dX2_hashOfDirectory_41 : decode cX2_hashOfDirectory 41 = .ok (.ifCond .eq 31, 3) := by decide +kernel
theorem dX2_hashOfDirectory_44 : decode cX2_hashOfDirectory 44 = .ok (.aload_n 0, 1) := by decide +kernel
theorem dX2_hashOfDirectory_45 : decode cX2_hashOfDirectory 45 = .ok (.ldc2_w 175, 3) := by decide +kernel
theorem dX2_hashOfDirectory_48 : decode cX2_hashOfDirectory 48 = .ok (.lload 5, 2) := by decide +kernel
theorem dX2_hashOfDirectory_50 : decode cX2_hashOfDirectory 50 = .ok (.lmul, 1) := by decide +kernel
theorem dX2_hashOfDirectory_51 : decode cX2_hashOfDirectory 51 = .ok (.iload 7, 2) := by decide +kernel
theorem dX2_hashOfDirectory_53 : decode cX2_hashOfDirectory 53 = .ok (.invokestatic 180, 3) := by decide +kernel
theorem dX2_hashOfDirectory_56 : decode cX2_hashOfDirectory 56 = .ok (.i2l, 1) := by decide +kernel
theorem dX2_hashOfDirectory_57 : decode cX2_hashOfDirectory 57 = .ok (.ladd, 1) := by decide +kernel
theorem dX2_hashOfDirectory_58 : decode cX2_hashOfDirectory 58 = .ok (.iload 7, 2) := by decide +kernel
theorem dX2_hashOfDirectory_60 : decode cX2_hashOfDirectory 60 = .ok (.invokestatic 91, 3) := by decide +kernel
theorem dX2_hashOfDirectory_63 : decode cX2_hashOfDirectory 63 = .ok (.iload 4, 2) := by decide +kernel
theorem dX2_hashOfDirectory_65 : decode cX2_hashOfDirectory 65 = .ok (.iconst 1, 1) := by decide +kernel
theorem dX2_hashOfDirectory_66 : decode cX2_hashOfDirectory 66 = .ok (.iadd, 1) := by decide +kernel
theorem dX2_hashOfDirectory_67 : decode cX2_hashOfDirectory 67 = .ok (.invokevirtual 169, 3) := by decide +kernel
theorem dX2_hashOfDirectory_70 : decode cX2_hashOfDirectory 70 = .ok (.lstore 5, 2) := by decide +kernel
theorem dX2_hashOfDirectory_72 : decode cX2_hashOfDirectory 72 = .ok (.aload_n 0, 1) := by decide +kernel
theorem dX2_hashOfDirectory_73 : decode cX2_hashOfDirectory 73 = .ok (.iload_n 3, 1) := by decide +kernel
theorem dX2_hashOfDirectory_74 : decode cX2_hashOfDirectory 74 = .ok (.iload 7, 2) := by decide +kernel
theorem dX2_hashOfDirectory_76 : decode cX2_hashOfDirectory 76 = .ok (.invokestatic 180, 3) := by decide +kernel
theorem dX2_hashOfDirectory_79 : decode cX2_hashOfDirectory 79 = .ok (.invokevirtual 226, 3) := by decide +kernel
theorem dX2_hashOfDirectory_82 : decode cX2_hashOfDirectory 82 = .ok (.istore 7, 2) := by decide +kernel
theorem dX2_hashOfDirectory_84 : decode cX2_hashOfDirectory 84 = .ok (.iinc 8 1, 3) := by decide +kernel
theorem dX2_hashOfDirectory_87 : decode cX2_hashOfDirectory 87 = .ok (.goto (-67), 3) := by decide +kernel
theorem dX2_hashOfDirectory_90 : decode cX2_hashOfDirectory 90 = .ok (.ldc2_w 175, 3) := by decide +kernel
theorem dX2_hashOfDirectory_93 : decode cX2_hashOfDirectory 93 = .ok (.lload 5, 2) := by decide +kernel
theorem dX2_hashOfDirectory_95 : decode cX2_hashOfDirectory 95 = .ok (.lmul, 1) := by decide +kernel
theorem dX2_hashOfDirectory_96 : decode cX2_hashOfDirectory 96 = .ok (.ldc2_w 229, 3) := by decide +kernel
theorem dX2_hashOfDirectory_99 : decode cX2_hashOfDirectory 99 = .ok (.ladd, 1) := by decide +kernel
theorem dX2_hashOfDirectory_100 : decode cX2_hashOfDirectory 100 = .ok (.lreturn, 1) := by decide +kernel
set_option maxRecDepth 20000 in
theorem ggX2_entryBehindName_X2_placeOf : GoodIn wsX2_entryBehindName wsX2_placeOf := goodIn_r _ [5, 6, 7, 8, 4, 9, 10, 11, 12, 13, 14, 15, 16, 17, 18, 22, 23, 24, 25, 26, 27, 28, 29, 30] (by decide +kernel) (by decide +kernel)
set_option maxRecDepth 20000 in
theorem gX2_entryBehindName_X2_placeOf : GoodIn wsX2_entryBehindName (wsV RX2 88 RX2 yX2_placeOf wsX2_placeOf) := goodIn_app (goodIn_of _ (by decide +kernel)) ggX2_entryBehindName_X2_placeOf
set_option maxRecDepth 20000 in
theorem ggX2_entryBehindName_X2_nameOfEntry : GoodIn wsX2_entryBehindName wsX2_nameOfEntry := goodIn_r _ [21] (by decide +kernel) (by decide +kernel)
set_option maxRecDepth 20000 in
theorem gX2_entryBehindName_X2_nameOfEntry : GoodIn wsX2_entryBehindName (va_wsS RX2 180 yX2_nameOfEntry wsX2_nameOfEntry) := goodIn_app (goodIn_of _ (by decide +kernel)) ggX2_entryBehindName_X2_nameOfEntry
theorem dX2_entryBehindName_0 : decode cX2_entryBehindName 0 = .ok (.iconst 0, 1) := by decide +kernel
theorem dX2_entryBehindName_1 : decode cX2_entryBehindName 1 = .ok (.istore_n 3, 1) := by decide +kernel
theorem dX2_entryBehindName_2 : decode cX2_entryBehindName 2 = .ok (.iconst 0, 1) := by decide +kernel
theorem dX2_entryBehindName_3 : decode cX2_entryBehindName 3 = .ok (.istore 4, 2) := by decide +kernel
theorem dX2_entryBehindName_5 : decode cX2_entryBehindName 5 = .ok (.iload 4, 2) := by decide +kernel
theorem dX2_entryBehindName_7 : decode cX2_entryBehindName 7 = .ok (.bipush 8, 2) := by decide +kernel
theorem dX2_entryBehindName_9 : decode cX2_entryBehindName 9 = .ok (.if_icmp .ge 46, 3) := by decide +kernel
theorem dX2_entryBehindName_12 : decode cX2_entryBehindName 12 = .ok (.aload_n 0, 1) := by decide +kernel
theorem dX2_entryBehindName_13 : decode cX2_entryBehindName 13 = .ok (.iload_n 1, 1) := by decide +kernel
theorem dX2_entryBehindName_14 : decode cX2_entryBehindName 14 = .ok (.iload 4, 2) := by decide +kernel
theorem dX2_entryBehindName_16 : decode cX2_entryBehindName 16 = .ok (.invokevirtual 88, 3) := by decide +kernel
theorem dX2_entryBehindName_19 : decode cX2_entryBehindName 19 = .ok (.istore 5, 2) := by decide +kernel
theorem dX2_entryBehindName_21 : decode cX2_entryBehindName 21 = .ok (.iload 5, 2) := by decide +kernel
theorem dX2_entryBehindName_23 : decode cX2_entryBehindName 23 = .ok (.invokestatic 180, 3) := by decide +kernel
theorem dX2_entryBehindName_26 : decode cX2_entryBehindName 26 = .ok (.iload_n 2, 1) := by decide +kernel
theorem dX2_entryBehindName_27 : decode cX2_entryBehindName 27 = .ok (.if_icmp .le 22, 3) := by decide +kernel
theorem dX2_entryBehindName_30 : decode cX2_entryBehindName 30 = .ok (.iload_n 3, 1) := by decide +kernel
theorem dX2_entryBehindName_31 : decode cX2_entryBehindName 31 = .ok (.ifCond .eq 15, 3) := by decide +kernel
theorem dX2_entryBehindName_34 : decode cX2_entryBehindName 34 = .ok (.iload 5, 2) := by decide +kernel
theorem dX2_entryBehindName_36 : decode cX2_entryBehindName 36 = .ok (.invokestatic 180, 3) := by decide +kernel
theorem dX2_entryBehindName_39 : decode cX2_entryBehindName 39 = .ok (.iload_n 3, 1) := by decide +kernel
theorem dX2_entryBehindName_40 : decode cX2_entryBehindName 40 = .ok (.invokestatic 180, 3) := by decide +kernel
theorem dX2_entryBehindName_43 : decode cX2_entryBehindName 43 = .ok (.if_icmp .ge 6, 3) := by decide +kernel
theorem dX2_entryBehindName_46 : decode cX2_entryBehindName 46 = .ok (.iload 5, 2) := by decide +kernel
theorem dX2_entryBehindName_48 : decode cX2_entryBehindName 48 = .ok (.istore_n 3, 1) := by decide +kernel
theorem dX2_entryBehindName_49 : decode cX2_entryBehindName 49 = .ok (.iinc 4 1, 3) := by decide +kernel
theorem dX2_entryBehindName_52 : decode cX2_entryBehindName 52 = .ok (.goto (-47), 3) := by decide +kernel
theorem dX2_entryBehindName_55 : decode cX2_entryBehindName 55 = .ok (.iload_n 3, 1) := by decide +kernel
theorem dX2_entryBehindName_56 : decode cX2_entryBehindName 56 = .ok (.ireturn, 1) := by decide +kernel
set_option maxRecDepth 20000 in
theorem ggX2_hashOfFile_X2_sizeOf : GoodIn wsX2_hashOfFile wsX2_sizeOf := goodIn_r _ [8, 3, 9, 10, 7, 11, 12, 13, 14, 15, 16, 17, 28, 29, 30, 31, 32, 33, 34, 35, 36] (by decide +kernel) (by decide +kernel)
set_option maxRecDepth 20000 in
theorem gX2_hashOfFile_X2_sizeOf : GoodIn wsX2_hashOfFile (wsV RX2 70 RX2 yX2_sizeOf wsX2_sizeOf) := goodIn_app (goodIn_of _ (by decide +kernel)) ggX2_hashOfFile_X2_sizeOf
set_option maxRecDepth 20000 in
theorem ggX2_hashOfFile_X2_placeOf : GoodIn wsX2_hashOfFile wsX2_placeOf := goodIn_r _ [21, 3, 22, 23, 7, 24, 9, 10, 11, 12, 13, 14, 15, 16, 17, 28, 29, 30, 31, 32, 33, 34, 35, 36] (by decide +kernel) (by decide +kernel)
set_option maxRecDepth 20000 in
theorem gX2_hashOfFile_X2_placeOf : GoodIn wsX2_hashOfFile (wsV RX2 88 RX2 yX2_placeOf wsX2_placeOf) := goodIn_app (goodIn_of _ (by decide +kernel)) ggX2_hashOfFile_X2_placeOf
set_option maxRecDepth 20000 in
theorem ggX2_hashOfFile_X2_dataAt : GoodIn wsX2_hashOfFile wsX2_dataAt := goodIn_r _ [27] (by decide +kernel) (by decide +kernel)
set_option maxRecDepth 20000 in
theorem gX2_hashOfFile_X2_dataAt : GoodIn wsX2_hashOfFile (va_wsS RX2 81 yX2_dataAt wsX2_dataAt) := goodIn_app (goodIn_of _ (by decide +kernel)) ggX2_hashOfFile_X2_dataAt
set_option maxRecDepth 20000 in
theorem ggX2_hashOfFile_X0_word : GoodIn wsX2_hashOfFile wsX0_word := goodIn_r _ [16, 17, 33, 34, 35, 36] (by decide +kernel) (by decide +kernel)
set_option maxRecDepth 20000 in
theorem gX2_hashOfFile_X0_word : GoodIn wsX2_hashOfFile (wsV RX2 136 RX0 yX0_word wsX0_word) := goodIn_app (goodIn_of _ (by decide +kernel)) ggX2_hashOfFile_X0_word
theorem dX2_hashOfFile_0 : decode cX2_hashOfFile 0 = .ok (.aload_n 0, 1) := by decide +kernel
theorem dX2_hashOfFile_1 : decode cX2_hashOfFile 1 = .ok (.iload_n 3, 1) := by decide +kernel
theorem dX2_hashOfFile_2 : decode cX2_hashOfFile 2 = .ok (.invokevirtual 70, 3) := by decide +kernel
theorem dX2_hashOfFile_5 : decode cX2_hashOfFile 5 = .ok (.istore 4, 2) := by decide +kernel
theorem dX2_hashOfFile_7 : decode cX2_hashOfFile 7 = .ok (.ldc2_w 175, 3) := by decide +kernel
theorem dX2_hashOfFile_10 : decode cX2_hashOfFile 10 = .ok (.ldc2_w 175, 3) := by decide +kernel
theorem dX2_hashOfFile_13 : decode cX2_hashOfFile 13 = .ok (.lload_n 1, 1) := by decide +kernel
theorem dX2_hashOfFile_14 : decode cX2_hashOfFile 14 = .ok (.lmul, 1) := by decide +kernel
theorem dX2_hashOfFile_15 : decode cX2_hashOfFile 15 = .ok (.ldc2_w 210, 3) := by decide +kernel
theorem dX2_hashOfFile_18 : decode cX2_hashOfFile 18 = .ok (.ladd, 1) := by decide +kernel
theorem dX2_hashOfFile_19 : decode cX2_hashOfFile 19 = .ok (.lmul, 1) := by decide +kernel
theorem dX2_hashOfFile_20 : decode cX2_hashOfFile 20 = .ok (.iload 4, 2) := by decide +kernel
theorem dX2_hashOfFile_22 : decode cX2_hashOfFile 22 = .ok (.i2l, 1) := by decide +kernel
theorem dX2_hashOfFile_23 : decode cX2_hashOfFile 23 = .ok (.ladd, 1) := by decide +kernel
theorem dX2_hashOfFile_24 : decode cX2_hashOfFile 24 = .ok (.lstore 5, 2) := by decide +kernel
theorem dX2_hashOfFile_26 : decode cX2_hashOfFile 26 = .ok (.iconst 0, 1) := by decide +kernel
theorem dX2_hashOfFile_27 : decode cX2_hashOfFile 27 = .ok (.istore 7, 2) := by decide +kernel
theorem dX2_hashOfFile_29 : decode cX2_hashOfFile 29 = .ok (.iload 7, 2) := by decide +kernel
theorem dX2_hashOfFile_31 : decode cX2_hashOfFile 31 = .ok (.iload 4, 2) := by decide +kernel
theorem dX2_hashOfFile_33 : decode cX2_hashOfFile 33 = .ok (.if_icmp .ge 52, 3) := by decide +kernel
theorem dX2_hashOfFile_36 : decode cX2_hashOfFile 36 = .ok (.iconst 0, 1) := by decide +kernel
theorem dX2_hashOfFile_37 : decode cX2_hashOfFile 37 = .ok (.istore 8, 2) := by decide +kernel
theorem dX2_hashOfFile_39 : decode cX2_hashOfFile 39 = .ok (.iload 8, 2) := by decide +kernel
theorem dX2_hashOfFile_41 : decode cX2_hashOfFile 41 = .ok (.iconst 3, 1) := by decide +kernel
theorem dX2_hashOfFile_42 : decode cX2_hashOfFile 42 = .ok (.if_icmp .ge 37, 3) := by decide +kernel
theorem dX2_hashOfFile_45 : decode cX2_hashOfFile 45 = .ok (.ldc2_w 175, 3) := by decide +kernel
theorem dX2_hashOfFile_48 : decode cX2_hashOfFile 48 = .ok (.lload 5, 2) := by decide +kernel
theorem dX2_hashOfFile_50 : decode cX2_hashOfFile 50 = .ok (.lmul, 1) := by decide +kernel
theorem dX2_hashOfFile_51 : decode cX2_hashOfFile 51 = .ok (.aload_n 0, 1) := by decide +kernel
theorem dX2_hashOfFile_52 : decode cX2_hashOfFile 52 = .ok (.getfield 12, 3) := by decide +kernel
theorem dX2_hashOfFile_55 : decode cX2_hashOfFile 55 = .ok (.aload_n 0, 1) := by decide +kernel
theorem dX2_hashOfFile_56 : decode cX2_hashOfFile 56 = .ok (.iload_n 3, 1) := by decide +kernel
theorem dX2_hashOfFile_57 : decode cX2_hashOfFile 57 = .ok (.iload 7, 2) := by decide +kernel
theorem dX2_hashOfFile_59 : decode cX2_hashOfFile 59 = .ok (.invokevirtual 88, 3) := by decide +kernel
theorem dX2_hashOfFile_62 : decode cX2_hashOfFile 62 = .ok (.iload 8, 2) := by decide +kernel
theorem dX2_hashOfFile_64 : decode cX2_hashOfFile 64 = .ok (.invokestatic 81, 3) := by decide +kernel
theorem dX2_hashOfFile_67 : decode cX2_hashOfFile 67 = .ok (.invokevirtual 136, 3) := by decide +kernel
theorem dX2_hashOfFile_70 : decode cX2_hashOfFile 70 = .ok (.ladd, 1) := by decide +kernel
theorem dX2_hashOfFile_71 : decode cX2_hashOfFile 71 = .ok (.lstore 5, 2) := by decide +kernel
theorem dX2_hashOfFile_73 : decode cX2_hashOfFile 73 = .ok (.iinc 8 1, 3) := by decide +kernel
theorem dX2_hashOfFile_76 : decode cX2_hashOfFile 76 = .ok (.goto (-37), 3) := by decide +kernel
theorem dX2_hashOfFile_79 : decode cX2_hashOfFile 79 = .ok (.iinc 7 1, 3) := by decide +kernel
theorem dX2_hashOfFile_82 : decode cX2_hashOfFile 82 = .ok (.goto (-53), 3) := by decide +kernel
theorem dX2_hashOfFile_85 : decode cX2_hashOfFile 85 = .ok (.lload 5, 2) := by decide +kernel
theorem dX2_hashOfFile_87 : decode cX2_hashOfFile 87 = .ok (.lreturn, 1) := by decide +kernel
theorem dX3_init_0 : decode cX3_init 0 = .ok (.aload_n 0, 1) := by decide +kernel
theorem dX3_init_1 : decode cX3_init 1 = .ok (.invokespecial 1, 3) := by decide +kernel
theorem dX3_init_4 : decode cX3_init 4 = .ok (.aload_n 0, 1) := by decide +kernel
theorem dX3_init_5 : decode cX3_init 5 = .ok (.bipush 12, 2) := by decide +kernel
theorem dX3_init_7 : decode cX3_init 7 = .ok (.newarray .int, 2) := by decide +kernel
theorem dX3_init_9 : decode cX3_init 9 = .ok (.putfield 7, 3) := by decide +kernel
theorem dX3_init_12 : decode cX3_init 12 = .ok (.aload_n 0, 1) := by decide +kernel
theorem dX3_init_13 : decode cX3_init 13 = .ok (.bipush 12, 2) := by decide +kernel
theorem dX3_init_15 : decode cX3_init 15 = .ok (.newarray .int, 2) := by decide +kernel
theorem dX3_init_17 : decode cX3_init 17 = .ok (.putfield 13, 3) := by decide +kernel
theorem dX3_init_20 : decode cX3_init 20 = .ok (.aload_n 0, 1) := by decide +kernel
theorem dX3_init_21 : decode cX3_init 21 = .ok (.bipush 96, 2) := by decide +kernel
theorem dX3_init_23 : decode cX3_init 23 = .ok (.newarray .int, 2) := by decide +kernel
theorem dX3_init_25 : decode cX3_init 25 = .ok (.putfield 16, 3) := by decide +kernel
theorem dX3_init_28 : decode cX3_init 28 = .ok (.aload_n 0, 1) := by decide +kernel
theorem dX3_init_29 : decode cX3_init 29 = .ok (.bipush 120, 2) := by decide +kernel
theorem dX3_init_31 : decode cX3_init 31 = .ok (.newarray .long, 2) := by decide +kernel
theorem dX3_init_33 : decode cX3_init 33 = .ok (.putfield 19, 3) := by decide +kernel
theorem dX3_init_36 : decode cX3_init 36 = .ok (.aload_n 0, 1) := by decide +kernel
theorem dX3_init_37 : decode cX3_init 37 = .ok (.iconst 4, 1) := by decide +kernel
theorem dX3_init_38 : decode cX3_init 38 = .ok (.newarray .int, 2) := by decide +kernel
theorem dX3_init_40 : decode cX3_init 40 = .ok (.putfield 23, 3) := by decide +kernel
theorem dX3_init_43 : decode cX3_init 43 = .ok (.aload_n 0, 1) := by decide +kernel
theorem dX3_init_44 : decode cX3_init 44 = .ok (.bipush (-3), 2) := by decide +kernel
theorem dX3_init_46 : decode cX3_init 46 = .ok (.putfield 26, 3) := by decide +kernel
theorem dX3_init_49 : decode cX3_init 49 = .ok (.aload_n 0, 1) := by decide +kernel
theorem dX3_init_50 : decode cX3_init 50 = .ok (.bipush 12, 2) := by decide +kernel
theorem dX3_init_52 : decode cX3_init 52 = .ok (.newarray .int, 2) := by decide +kernel
theorem dX3_init_54 : decode cX3_init 54 = .ok (.putfield 30, 3) := by decide +kernel
theorem dX3_init_57 : decode cX3_init 57 = .ok (.aload_n 0, 1) := by decide +kernel
theorem dX3_init_58 : decode cX3_init 58 = .ok (.bipush 12, 2) := by decide +kernel
theorem dX3_init_60 : decode cX3_init 60 = .ok (.newarray .int, 2) := by decide +kernel
theorem dX3_init_62 : decode cX3_init 62 = .ok (.putfield 33, 3) := by decide +kernel
theorem dX3_init_65 : decode cX3_init 65 = .ok (.aload_n 0, 1) := by decide +kernel
theorem dX3_init_66 : decode cX3_init 66 = .ok (.getfield 7, 3) := by decide +kernel
theorem dX3_init_69 : decode cX3_init 69 = .ok (.iconst 0, 1) := by decide +kernel
theorem dX3_init_70 : decode cX3_init 70 = .ok (.iconst 1, 1) := by decide +kernel
theorem dX3_init_71 : decode cX3_init 71 = .ok (.iastore, 1) := by decide +kernel
theorem dX3_init_72 : decode cX3_init 72 = .ok (.return_, 1) := by decide +kernel
theorem dX3_in_0 : decode cX3_in 0 = .ok (.lload_n 0, 1) := by decide +kernel
theorem dX3_in_1 : decode cX3_in 1 = .ok (.lload_n 2, 1) := by decide +kernel
theorem dX3_in_2 : decode cX3_in 2 = .ok (.lcmp, 1) := by decide +kernel
theorem dX3_in_3 : decode cX3_in 3 = .ok (.ifCond .lt 14, 3) := by decide +kernel
theorem dX3_in_6 : decode cX3_in 6 = .ok (.lload_n 0, 1) := by decide +kernel
theorem dX3_in_7 : decode cX3_in 7 = .ok (.lload 4, 2) := by decide +kernel
theorem dX3_in_9 : decode cX3_in 9 = .ok (.lcmp, 1) := by decide +kernel
theorem dX3_in_10 : decode cX3_in 10 = .ok (.ifCond .gt 7, 3) := by decide +kernel
theorem dX3_in_13 : decode cX3_in 13 = .ok (.iconst 1, 1) := by decide +kernel
theorem dX3_in_14 : decode cX3_in 14 = .ok (.goto 4, 3) := by decide +kernel
theorem dX3_in_17 : decode cX3_in 17 = .ok (.iconst 0, 1) := by decide +kernel
theorem dX3_in_18 : decode cX3_in 18 = .ok (.ireturn, 1) := by decide +kernel
theorem dX3_power_0 : decode cX3_power 0 = .ok (.aload_n 0, 1) := by decide +kernel
theorem dX3_power_1 : decode cX3_power 1 = .ok (.getfield 36, 3) := by decide +kernel
theorem dX3_power_4 : decode cX3_power 4 = .ok (.ifCond .eq 5, 3) := by decide +kernel
theorem dX3_power_7 : decode cX3_power 7 = .ok (.iconst 0, 1) := by decide +kernel
theorem dX3_power_8 : decode cX3_power 8 = .ok (.ireturn, 1) := by decide +kernel
theorem dX3_power_9 : decode cX3_power 9 = .ok (.aload_n 0, 1) := by decide +kernel
theorem dX3_power_10 : decode cX3_power 10 = .ok (.getfield 26, 3) := by decide +kernel
theorem dX3_power_13 : decode cX3_power 13 = .ok (.ifCond .ne 16, 3) := by decide +kernel
theorem dX3_power_16 : decode cX3_power 16 = .ok (.aload_n 0, 1) := by decide +kernel
theorem dX3_power_17 : decode cX3_power 17 = .ok (.iconst 1, 1) := by decide +kernel
theorem dX3_power_18 : decode cX3_power 18 = .ok (.putfield 36, 3) := by decide +kernel
theorem dX3_power_21 : decode cX3_power 21 = .ok (.aload_n 0, 1) := by decide +kernel
theorem dX3_power_22 : decode cX3_power 22 = .ok (.bipush (-3), 2) := by decide +kernel
theorem dX3_power_24 : decode cX3_power 24 = .ok (.putfield 26, 3) := by decide +kernel
theorem dX3_power_27 : decode cX3_power 27 = .ok (.iconst 0, 1) := by decide +kernel
theorem dX3_power_28 : decode cX3_power 28 = .ok (.ireturn, 1) := by decide +kernel
theorem dX3_power_29 : decode cX3_power 29 = .ok (.aload_n 0, 1) := by decide +kernel
theorem dX3_power_30 : decode cX3_power 30 = .ok (.dup, 1) := by decide +kernel
theorem dX3_power_31 : decode cX3_power 31 = .ok (.getfield 26, 3) := by decide +kernel
theorem dX3_power_34 : decode cX3_power 34 = .ok (.aload_n 0, 1) := by decide +kernel
theorem dX3_power_35 : decode cX3_power 35 = .ok (.getfield 26, 3) := by decide +kernel
theorem dX3_power_38 : decode cX3_power 38 = .ok (.ifCond .le 7, 3) := by decide +kernel
theorem dX3_power_41 : decode cX3_power 41 = .ok (.iconst 1, 1) := by decide +kernel
theorem dX3_power_42 : decode cX3_power 42 = .ok (.goto 4, 3) := by decide +kernel
theorem dX3_power_45 : decode cX3_power 45 = .ok (.iconst 0, 1) := by decide +kernel
theorem dX3_power_46 : decode cX3_power 46 = .ok (.isub, 1) := by decide +kernel
theorem dX3_power_47 : decode cX3_power 47 = .ok (.putfield 26, 3) := by decide +kernel
theorem dX3_power_50 : decode cX3_power 50 = .ok (.aload_n 0, 1) := by decide +kernel
theorem dX3_power_51 : decode cX3_power 51 = .ok (.dup, 1) := by decide +kernel
theorem dX3_power_52 : decode cX3_power 52 = .ok (.getfield 40, 3) := by decide +kernel
theorem dX3_power_55 : decode cX3_power 55 = .ok (.iconst 1, 1) := by decide +kernel
theorem dX3_power_56 : decode cX3_power 56 = .ok (.iadd, 1) := by decide +kernel
theorem dX3_power_57 : decode cX3_power 57 = .ok (.putfield 40, 3) := by decide +kernel
theorem dX3_power_60 : decode cX3_power 60 = .ok (.iconst 1, 1) := by decide +kernel
theorem dX3_power_61 : decode cX3_power 61 = .ok (.ireturn, 1) := by decide +kernel
set_option maxRecDepth 20000 in
theorem ggX3_setKind_X3_power : GoodIn wsX3_setKind wsX3_power := goodIn_r _ [6, 7, 8, 9, 10, 11, 12, 13, 14, 15, 16, 17, 18, 19, 20, 21, 22, 23, 24, 25] (by decide +kernel) (by decide +kernel)
set_option maxRecDepth 20000 in
theorem gX3_setKind_X3_power : GoodIn wsX3_setKind (wsV RX3 43 RX3 yX3_power wsX3_power) := goodIn_app (goodIn_of _ (by decide +kernel)) ggX3_setKind_X3_power
theorem dX3_setKind_0 : decode cX3_setKind 0 = .ok (.aload_n 0, 1) := by decide +kernel
theorem dX3_setKind_1 : decode cX3_setKind 1 = .ok (.invokevirtual 43, 3) := by decide +kernel
theorem dX3_setKind_4 : decode cX3_setKind 4 = .ok (.ifCond .eq 10, 3) := by decide +kernel
theorem dX3_setKind_7 : decode cX3_setKind 7 = .ok (.aload_n 0, 1) := by decide +kernel
theorem dX3_setKind_8 : decode cX3_setKind 8 = .ok (.getfield 7, 3) := by decide +kernel
theorem dX3_setKind_11 : decode cX3_setKind 11 = .ok (.iload_n 1, 1) := by decide +kernel
theorem dX3_setKind_12 : decode cX3_setKind 12 = .ok (.iload_n 2, 1) := by decide +kernel
theorem dX3_setKind_13 : decode cX3_setKind 13 = .ok (.iastore, 1) := by decide +kernel
theorem dX3_setKind_14 : decode cX3_setKind 14 = .ok (.return_, 1) := by decide +kernel
set_option maxRecDepth 20000 in
theorem ggX3_setSize_X3_power : GoodIn wsX3_setSize wsX3_power := goodIn_r _ [6, 7, 8, 9, 10, 11, 12, 13, 14, 15, 16, 17, 18, 19, 20, 21, 22, 23, 24, 25] (by decide +kernel) (by decide +kernel)
set_option maxRecDepth 20000 in
theorem gX3_setSize_X3_power : GoodIn wsX3_setSize (wsV RX3 43 RX3 yX3_power wsX3_power) := goodIn_app (goodIn_of _ (by decide +kernel)) ggX3_setSize_X3_power
theorem dX3_setSize_0 : decode cX3_setSize 0 = .ok (.aload_n 0, 1) := by decide +kernel
theorem dX3_setSize_1 : decode cX3_setSize 1 = .ok (.invokevirtual 43, 3) := by decide +kernel
theorem dX3_setSize_4 : decode cX3_setSize 4 = .ok (.ifCond .eq 10, 3) := by decide +kernel
theorem dX3_setSize_7 : decode cX3_setSize 7 = .ok (.aload_n 0, 1) := by decide +kernel
theorem dX3_setSize_8 : decode cX3_setSize 8 = .ok (.getfield 13, 3) := by decide +kernel
theorem dX3_setSize_11 : decode cX3_setSize 11 = .ok (.iload_n 1, 1) := by decide +kernel
theorem dX3_setSize_12 : decode cX3_setSize 12 = .ok (.iload_n 2, 1) := by decide +kernel
theorem dX3_setSize_13 : decode cX3_setSize 13 = .ok (.iastore, 1) := by decide +kernel
theorem dX3_setSize_14 : decode cX3_setSize 14 = .ok (.return_, 1) := by decide +kernel
set_option maxRecDepth 20000 in
theorem ggX3_setPlace_X3_power : GoodIn wsX3_setPlace wsX3_power := goodIn_r _ [6, 7, 8, 9, 10, 11, 12, 13, 14, 15, 16, 17, 18, 19, 20, 21, 22, 23, 24, 25] (by decide +kernel) (by decide +kernel)
set_option maxRecDepth 20000 in
theorem gX3_setPlace_X3_power : GoodIn wsX3_setPlace (wsV RX3 43 RX3 yX3_power wsX3_power) := goodIn_app (goodIn_of _ (by decide +kernel)) ggX3_setPlace_X3_power
theorem dX3_setPlace_0 : decode cX3_setPlace 0 = .ok (.aload_n 0, 1) := by decide +kernel
theorem dX3_setPlace_1 : decode cX3_setPlace 1 = .ok (.invokevirtual 43, 3) := by decide +kernel
theorem dX3_setPlace_4 : decode cX3_setPlace 4 = .ok (.ifCond .eq 15, 3) := by decide +kernel
theorem dX3_setPlace_7 : decode cX3_setPlace 7 = .ok (.aload_n 0, 1) := by decide +kernel
theorem dX3_setPlace_8 : decode cX3_setPlace 8 = .ok (.getfield 16, 3) := by decide +kernel
theorem dX3_setPlace_11 : decode cX3_setPlace 11 = .ok (.bipush 8, 2) := by decide +kernel
theorem dX3_setPlace_13 : decode cX3_setPlace 13 = .ok (.iload_n 1, 1) := by decide +kernel
theorem dX3_setPlace_14 : decode cX3_setPlace 14 = .ok (.imul, 1) := by decide +kernel
theorem dX3_setPlace_15 : decode cX3_setPlace 15 = .ok (.iload_n 2, 1) := by decide +kernel
theorem dX3_setPlace_16 : decode cX3_setPlace 16 = .ok (.iadd, 1) := by decide +kernel
theorem dX3_setPlace_17 : decode cX3_setPlace 17 = .ok (.iload_n 3, 1) := by decide +kernel
theorem dX3_setPlace_18 : decode cX3_setPlace 18 = .ok (.iastore, 1) := by decide +kernel
theorem dX3_setPlace_19 : decode cX3_setPlace 19 = .ok (.return_, 1) := by decide +kernel
set_option maxRecDepth 20000 in
theorem ggX3_setData_X3_power : GoodIn wsX3_setData wsX3_power := goodIn_r _ [6, 7, 8, 9, 10, 11, 12, 13, 14, 15, 16, 17, 18, 19, 20, 21, 22, 23, 24, 25] (by decide +kernel) (by decide +kernel)
set_option maxRecDepth 20000 in
theorem gX3_setData_X3_power : GoodIn wsX3_setData (wsV RX3 43 RX3 yX3_power wsX3_power) := goodIn_app (goodIn_of _ (by decide +kernel)) ggX3_setData_X3_power
theorem dX3_setData_0 : decode cX3_setData 0 = .ok (.aload_n 0, 1) := by decide +kernel
theorem dX3_setData_1 : decode cX3_setData 1 = .ok (.invokevirtual 43, 3) := by decide +kernel
theorem dX3_setData_4 : decode cX3_setData 4 = .ok (.ifCond .eq 14, 3) := by decide +kernel
theorem dX3_setData_7 : decode cX3_setData 7 = .ok (.aload_n 0, 1) := by decide +kernel
theorem dX3_setData_8 : decode cX3_setData 8 = .ok (.getfield 19, 3) := by decide +kernel
theorem dX3_setData_11 : decode cX3_setData 11 = .ok (.iconst 3, 1) := by decide +kernel
theorem dX3_setData_12 : decode cX3_setData 12 = .ok (.iload_n 1, 1) := by decide +kernel
theorem dX3_setData_13 : decode cX3_setData 13 = .ok (.imul, 1) := by decide +kernel
theorem dX3_setData_14 : decode cX3_setData 14 = .ok (.iload_n 2, 1) := by decide +kernel
theorem dX3_setData_15 : decode cX3_setData 15 = .ok (.iadd, 1) := by decide +kernel
theorem dX3_setData_16 : decode cX3_setData 16 = .ok (.lload_n 3, 1) := by decide +kernel
theorem dX3_setData_17 : decode cX3_setData 17 = .ok (.lastore, 1) := by decide +kernel
theorem dX3_setData_18 : decode cX3_setData 18 = .ok (.return_, 1) := by decide +kernel
set_option maxRecDepth 20000 in
theorem ggX3_setRecord_X3_power : GoodIn wsX3_setRecord wsX3_power := goodIn_r _ [6, 7, 8, 9, 10, 11, 12, 13, 14, 15, 16, 17, 18, 19, 20, 21, 22, 23, 24, 25] (by decide +kernel) (by decide +kernel)
set_option maxRecDepth 20000 in
theorem gX3_setRecord_X3_power : GoodIn wsX3_setRecord (wsV RX3 43 RX3 yX3_power wsX3_power) := goodIn_app (goodIn_of _ (by decide +kernel)) ggX3_setRecord_X3_power
theorem dX3_setRecord_0 : decode cX3_setRecord 0 = .ok (.aload_n 0, 1) := by decide +kernel
theorem dX3_setRecord_1 : decode cX3_setRecord 1 = .ok (.invokevirtual 43, 3) := by decide +kernel
theorem dX3_setRecord_4 : decode cX3_setRecord 4 = .ok (.ifCond .eq 10, 3) := by decide +kernel
theorem dX3_setRecord_7 : decode cX3_setRecord 7 = .ok (.aload_n 0, 1) := by decide +kernel
theorem dX3_setRecord_8 : decode cX3_setRecord 8 = .ok (.getfield 23, 3) := by decide +kernel
theorem dX3_setRecord_11 : decode cX3_setRecord 11 = .ok (.iload_n 1, 1) := by decide +kernel
theorem dX3_setRecord_12 : decode cX3_setRecord 12 = .ok (.iload_n 2, 1) := by decide +kernel
theorem dX3_setRecord_13 : decode cX3_setRecord 13 = .ok (.iastore, 1) := by decide +kernel
theorem dX3_setRecord_14 : decode cX3_setRecord 14 = .ok (.return_, 1) := by decide +kernel
set_option maxRecDepth 20000 in
theorem ggX3_cut_X3_in : GoodIn wsX3_cut wsX3_in := goodIn_r _ [6] (by decide +kernel) (by decide +kernel)
set_option maxRecDepth 20000 in
theorem gX3_cut_X3_in : GoodIn wsX3_cut (va_wsS RX3 49 yX3_in wsX3_in) := goodIn_app (goodIn_of _ (by decide +kernel)) ggX3_cut_X3_in
theorem dX3_cut_0 : decode cX3_cut 0 = .ok (.iload_n 1, 1) := by decide +kernel
theorem dX3_cut_1 : decode cX3_cut 1 = .ok (.bipush (-3), 2) := by decide +kernel
theorem dX3_cut_3 : decode cX3_cut 3 = .ok (.if_icmp .eq 17, 3) := by decide +kernel
theorem dX3_cut_6 : decode cX3_cut 6 = .ok (.iload_n 1, 1) := by decide +kernel
theorem dX3_cut_7 : decode cX3_cut 7 = .ok (.i2l, 1) := by decide +kernel
theorem dX3_cut_8 : decode cX3_cut 8 = .ok (.lconst 0, 1) := by decide +kernel
theorem dX3_cut_9 : decode cX3_cut 9 = .ok (.ldc2_w 47, 3) := by decide +kernel
theorem dX3_cut_12 : decode cX3_cut 12 = .ok (.invokestatic 49, 3) := by decide +kernel
theorem dX3_cut_15 : decode cX3_cut 15 = .ok (.ifCond .ne 5, 3) := by decide +kernel
theorem dX3_cut_18 : decode cX3_cut 18 = .ok (.iconst (-1), 1) := by decide +kernel
theorem dX3_cut_19 : decode cX3_cut 19 = .ok (.ireturn, 1) := by decide +kernel
theorem dX3_cut_20 : decode cX3_cut 20 = .ok (.aload_n 0, 1) := by decide +kernel
theorem dX3_cut_21 : decode cX3_cut 21 = .ok (.getfield 26, 3) := by decide +kernel
theorem dX3_cut_24 : decode cX3_cut 24 = .ok (.istore_n 2, 1) := by decide +kernel
theorem dX3_cut_25 : decode cX3_cut 25 = .ok (.aload_n 0, 1) := by decide +kernel
theorem dX3_cut_26 : decode cX3_cut 26 = .ok (.iload_n 1, 1) := by decide +kernel
theorem dX3_cut_27 : decode cX3_cut 27 = .ok (.putfield 26, 3) := by decide +kernel
theorem dX3_cut_30 : decode cX3_cut 30 = .ok (.iload_n 2, 1) := by decide +kernel
theorem dX3_cut_31 : decode cX3_cut 31 = .ok (.ireturn, 1) := by decide +kernel
set_option maxRecDepth 20000 in
theorem ggX3_isInode_X3_in : GoodIn wsX3_isInode wsX3_in := goodIn_r _ [6] (by decide +kernel) (by decide +kernel)
set_option maxRecDepth 20000 in
theorem gX3_isInode_X3_in : GoodIn wsX3_isInode (va_wsS RX3 49 yX3_in wsX3_in) := goodIn_app (goodIn_of _ (by decide +kernel)) ggX3_isInode_X3_in
theorem dX3_isInode_0 : decode cX3_isInode 0 = .ok (.iload_n 1, 1) := by decide +kernel
theorem dX3_isInode_1 : decode cX3_isInode 1 = .ok (.i2l, 1) := by decide +kernel
theorem dX3_isInode_2 : decode cX3_isInode 2 = .ok (.lconst 0, 1) := by decide +kernel
theorem dX3_isInode_3 : decode cX3_isInode 3 = .ok (.ldc2_w 53, 3) := by decide +kernel
theorem dX3_isInode_6 : decode cX3_isInode 6 = .ok (.invokestatic 49, 3) := by decide +kernel
theorem dX3_isInode_9 : decode cX3_isInode 9 = .ok (.ifCond .eq 17, 3) := by decide +kernel
theorem dX3_isInode_12 : decode cX3_isInode 12 = .ok (.aload_n 0, 1) := by decide +kernel
theorem dX3_isInode_13 : decode cX3_isInode 13 = .ok (.getfield 7, 3) := by decide +kernel
theorem dX3_isInode_16 : decode cX3_isInode 16 = .ok (.iload_n 1, 1) := by decide +kernel
theorem dX3_isInode_17 : decode cX3_isInode 17 = .ok (.iaload, 1) := by decide +kernel
theorem dX3_isInode_18 : decode cX3_isInode 18 = .ok (.iload_n 2, 1) := by decide +kernel
theorem dX3_isInode_19 : decode cX3_isInode 19 = .ok (.if_icmp .ne 7, 3) := by decide +kernel
theorem dX3_isInode_22 : decode cX3_isInode 22 = .ok (.iconst 1, 1) := by decide +kernel
theorem dX3_isInode_23 : decode cX3_isInode 23 = .ok (.goto 4, 3) := by decide +kernel
theorem dX3_isInode_26 : decode cX3_isInode 26 = .ok (.iconst 0, 1) := by decide +kernel
theorem dX3_isInode_27 : decode cX3_isInode 27 = .ok (.ireturn, 1) := by decide +kernel
set_option maxRecDepth 20000 in
theorem ggX3_isName_X3_in : GoodIn wsX3_isName wsX3_in := goodIn_r _ [5] (by decide +kernel) (by decide +kernel)
set_option maxRecDepth 20000 in
theorem gX3_isName_X3_in : GoodIn wsX3_isName (va_wsS RX3 49 yX3_in wsX3_in) := goodIn_app (goodIn_of _ (by decide +kernel)) ggX3_isName_X3_in
theorem dX3_isName_0 : decode cX3_isName 0 = .ok (.iload_n 0, 1) := by decide +kernel
theorem dX3_isName_1 : decode cX3_isName 1 = .ok (.i2l, 1) := by decide +kernel
theorem dX3_isName_2 : decode cX3_isName 2 = .ok (.lconst 1, 1) := by decide +kernel
theorem dX3_isName_3 : decode cX3_isName 3 = .ok (.ldc2_w 55, 3) := by decide +kernel
theorem dX3_isName_6 : decode cX3_isName 6 = .ok (.invokestatic 49, 3) := by decide +kernel
theorem dX3_isName_9 : decode cX3_isName 9 = .ok (.ireturn, 1) := by decide +kernel
theorem dX3_entry_0 : decode cX3_entry 0 = .ok (.iconst 0, 1) := by decide +kernel
theorem dX3_entry_1 : decode cX3_entry 1 = .ok (.istore_n 3, 1) := by decide +kernel
theorem dX3_entry_2 : decode cX3_entry 2 = .ok (.iload_n 3, 1) := by decide +kernel
theorem dX3_entry_3 : decode cX3_entry 3 = .ok (.bipush 8, 2) := by decide +kernel
theorem dX3_entry_5 : decode cX3_entry 5 = .ok (.if_icmp .ge 43, 3) := by decide +kernel
theorem dX3_entry_8 : decode cX3_entry 8 = .ok (.aload_n 0, 1) := by decide +kernel
theorem dX3_entry_9 : decode cX3_entry 9 = .ok (.getfield 16, 3) := by decide +kernel
theorem dX3_entry_12 : decode cX3_entry 12 = .ok (.bipush 8, 2) := by decide +kernel
theorem dX3_entry_14 : decode cX3_entry 14 = .ok (.iload_n 1, 1) := by decide +kernel
theorem dX3_entry_15 : decode cX3_entry 15 = .ok (.imul, 1) := by decide +kernel
theorem dX3_entry_16 : decode cX3_entry 16 = .ok (.iload_n 3, 1) := by decide +kernel
theorem dX3_entry_17 : decode cX3_entry 17 = .ok (.iadd, 1) := by decide +kernel
theorem dX3_entry_18 : decode cX3_entry 18 = .ok (.iaload, 1) := by decide +kernel
theorem dX3_entry_19 : decode cX3_entry 19 = .ok (.ifCond .le 23, 3) := by decide +kernel
theorem dX3_entry_22 : decode cX3_entry 22 = .ok (.aload_n 0, 1) := by decide +kernel
