theorem dX3_entry_23 : decode cX3_entry 23 = .ok (.getfield 16, 3) := by decide +kernel
theorem dX3_entry_26 : decode cX3_entry 26 = .ok (.bipush 8, 2) := by decide +kernel
theorem dX3_entry_28 : decode cX3_entry 28 = .ok (.iload_n 1, 1) := by decide +kernel
theorem dX3_entry_29 : decode cX3_entry 29 = .ok (.imul, 1) := by decide +kernel
theorem dX3_entry_30 : decode cX3_entry 30 = .ok (.iload_n 3, 1) := by decide +kernel
theorem dX3_entry_31 : decode cX3_entry 31 = .ok (.iadd, 1) := by decide +kernel
theorem dX3_entry_32 : decode cX3_entry 32 = .ok (.iaload, 1) := by decide +kernel
theorem dX3_entry_33 : decode cX3_entry 33 = .ok (.bipush 100, 2) := by decide +kernel
theorem dX3_entry_35 : decode cX3_entry 35 = .ok (.irem, 1) := by decide +kernel
theorem dX3_entry_36 : decode cX3_entry 36 = .ok (.iload_n 2, 1) := by decide +kernel
theorem dX3_entry_37 : decode cX3_entry 37 = .ok (.if_icmp .ne 5, 3) := by decide +kernel
theorem dX3_entry_40 : decode cX3_entry 40 = .ok (.iload_n 3, 1) := by decide +kernel
theorem dX3_entry_41 : decode cX3_entry 41 = .ok (.ireturn, 1) := by decide +kernel
theorem dX3_entry_42 : decode cX3_entry 42 = .ok (.iinc 3 1, 3) := by decide +kernel
theorem dX3_entry_45 : decode cX3_entry 45 = .ok (.goto (-43), 3) := by decide +kernel
theorem dX3_entry_48 : decode cX3_entry 48 = .ok (.iconst (-1), 1) := by decide +kernel
theorem dX3_entry_49 : decode cX3_entry 49 = .ok (.ireturn, 1) := by decide +kernel
theorem dX3_noEntry_0 : decode cX3_noEntry 0 = .ok (.iconst 0, 1) := by decide +kernel
theorem dX3_noEntry_1 : decode cX3_noEntry 1 = .ok (.istore_n 2, 1) := by decide +kernel
theorem dX3_noEntry_2 : decode cX3_noEntry 2 = .ok (.iload_n 2, 1) := by decide +kernel
theorem dX3_noEntry_3 : decode cX3_noEntry 3 = .ok (.bipush 8, 2) := by decide +kernel
theorem dX3_noEntry_5 : decode cX3_noEntry 5 = .ok (.if_icmp .ge 25, 3) := by decide +kernel
theorem dX3_noEntry_8 : decode cX3_noEntry 8 = .ok (.aload_n 0, 1) := by decide +kernel
theorem dX3_noEntry_9 : decode cX3_noEntry 9 = .ok (.getfield 16, 3) := by decide +kernel
theorem dX3_noEntry_12 : decode cX3_noEntry 12 = .ok (.bipush 8, 2) := by decide +kernel
theorem dX3_noEntry_14 : decode cX3_noEntry 14 = .ok (.iload_n 1, 1) := by decide +kernel
theorem dX3_noEntry_15 : decode cX3_noEntry 15 = .ok (.imul, 1) := by decide +kernel
theorem dX3_noEntry_16 : decode cX3_noEntry 16 = .ok (.iload_n 2, 1) := by decide +kernel
theorem dX3_noEntry_17 : decode cX3_noEntry 17 = .ok (.iadd, 1) := by decide +kernel
theorem dX3_noEntry_18 : decode cX3_noEntry 18 = .ok (.iaload, 1) := by decide +kernel
theorem dX3_noEntry_19 : decode cX3_noEntry 19 = .ok (.ifCond .ne 5, 3) := by decide +kernel
theorem dX3_noEntry_22 : decode cX3_noEntry 22 = .ok (.iload_n 2, 1) := by decide +kernel
theorem dX3_noEntry_23 : decode cX3_noEntry 23 = .ok (.ireturn, 1) := by decide +kernel
theorem dX3_noEntry_24 : decode cX3_noEntry 24 = .ok (.iinc 2 1, 3) := by decide +kernel
theorem dX3_noEntry_27 : decode cX3_noEntry 27 = .ok (.goto (-25), 3) := by decide +kernel
theorem dX3_noEntry_30 : decode cX3_noEntry 30 = .ok (.iconst (-1), 1) := by decide +kernel
theorem dX3_noEntry_31 : decode cX3_noEntry 31 = .ok (.ireturn, 1) := by decide +kernel
theorem dX3_isUsed_0 : decode cX3_isUsed 0 = .ok (.iconst 0, 1) := by decide +kernel
theorem dX3_isUsed_1 : decode cX3_isUsed 1 = .ok (.istore_n 2, 1) := by decide +kernel
theorem dX3_isUsed_2 : decode cX3_isUsed 2 = .ok (.iload_n 2, 1) := by decide +kernel
theorem dX3_isUsed_3 : decode cX3_isUsed 3 = .ok (.bipush 12, 2) := by decide +kernel
theorem dX3_isUsed_5 : decode cX3_isUsed 5 = .ok (.if_icmp .ge 54, 3) := by decide +kernel
theorem dX3_isUsed_8 : decode cX3_isUsed 8 = .ok (.iconst 0, 1) := by decide +kernel
theorem dX3_isUsed_9 : decode cX3_isUsed 9 = .ok (.istore_n 3, 1) := by decide +kernel
theorem dX3_isUsed_10 : decode cX3_isUsed 10 = .ok (.aload_n 0, 1) := by decide +kernel
theorem dX3_isUsed_11 : decode cX3_isUsed 11 = .ok (.getfield 7, 3) := by decide +kernel
theorem dX3_isUsed_14 : decode cX3_isUsed 14 = .ok (.iload_n 2, 1) := by decide +kernel
theorem dX3_isUsed_15 : decode cX3_isUsed 15 = .ok (.iaload, 1) := by decide +kernel
theorem dX3_isUsed_16 : decode cX3_isUsed 16 = .ok (.iconst 2, 1) := by decide +kernel
theorem dX3_isUsed_17 : decode cX3_isUsed 17 = .ok (.if_icmp .ne 36, 3) := by decide +kernel
theorem dX3_isUsed_20 : decode cX3_isUsed 20 = .ok (.iload_n 3, 1) := by decide +kernel
theorem dX3_isUsed_21 : decode cX3_isUsed 21 = .ok (.aload_n 0, 1) := by decide +kernel
theorem dX3_isUsed_22 : decode cX3_isUsed 22 = .ok (.getfield 13, 3) := by decide +kernel
theorem dX3_isUsed_25 : decode cX3_isUsed 25 = .ok (.iload_n 2, 1) := by decide +kernel
theorem dX3_isUsed_26 : decode cX3_isUsed 26 = .ok (.iaload, 1) := by decide +kernel
theorem dX3_isUsed_27 : decode cX3_isUsed 27 = .ok (.if_icmp .ge 26, 3) := by decide +kernel
theorem dX3_isUsed_30 : decode cX3_isUsed 30 = .ok (.aload_n 0, 1) := by decide +kernel
theorem dX3_isUsed_31 : decode cX3_isUsed 31 = .ok (.getfield 16, 3) := by decide +kernel
theorem dX3_isUsed_34 : decode cX3_isUsed 34 = .ok (.bipush 8, 2) := by decide +kernel
theorem dX3_isUsed_36 : decode cX3_isUsed 36 = .ok (.iload_n 2, 1) := by decide +kernel
theorem dX3_isUsed_37 : decode cX3_isUsed 37 = .ok (.imul, 1) := by decide +kernel
theorem dX3_isUsed_38 : decode cX3_isUsed 38 = .ok (.iload_n 3, 1) := by decide +kernel
theorem dX3_isUsed_39 : decode cX3_isUsed 39 = .ok (.iadd, 1) := by decide +kernel
theorem dX3_isUsed_40 : decode cX3_isUsed 40 = .ok (.iaload, 1) := by decide +kernel
theorem dX3_isUsed_41 : decode cX3_isUsed 41 = .ok (.iload_n 1, 1) := by decide +kernel
theorem dX3_isUsed_42 : decode cX3_isUsed 42 = .ok (.if_icmp .ne 5, 3) := by decide +kernel
theorem dX3_isUsed_45 : decode cX3_isUsed 45 = .ok (.iconst 1, 1) := by decide +kernel
theorem dX3_isUsed_46 : decode cX3_isUsed 46 = .ok (.ireturn, 1) := by decide +kernel
theorem dX3_isUsed_47 : decode cX3_isUsed 47 = .ok (.iinc 3 1, 3) := by decide +kernel
theorem dX3_isUsed_50 : decode cX3_isUsed 50 = .ok (.goto (-40), 3) := by decide +kernel
theorem dX3_isUsed_53 : decode cX3_isUsed 53 = .ok (.iinc 2 1, 3) := by decide +kernel
theorem dX3_isUsed_56 : decode cX3_isUsed 56 = .ok (.goto (-54), 3) := by decide +kernel
theorem dX3_isUsed_59 : decode cX3_isUsed 59 = .ok (.iconst 0, 1) := by decide +kernel
theorem dX3_isUsed_60 : decode cX3_isUsed 60 = .ok (.ireturn, 1) := by decide +kernel
set_option maxRecDepth 20000 in
theorem ggX3_leastFree_X3_isUsed : GoodIn wsX3_leastFree wsX3_isUsed := goodIn_r _ [5, 6, 7, 8, 9, 10, 11, 12, 13, 14, 15, 16, 17, 18, 19, 20, 21, 22, 23, 24] (by decide +kernel) (by decide +kernel)
set_option maxRecDepth 20000 in
theorem gX3_leastFree_X3_isUsed : GoodIn wsX3_leastFree (wsV RX3 57 RX3 yX3_isUsed wsX3_isUsed) := goodIn_app (goodIn_of _ (by decide +kernel)) ggX3_leastFree_X3_isUsed
theorem dX3_leastFree_0 : decode cX3_leastFree 0 = .ok (.iconst 0, 1) := by decide +kernel
theorem dX3_leastFree_1 : decode cX3_leastFree 1 = .ok (.istore_n 1, 1) := by decide +kernel
theorem dX3_leastFree_2 : decode cX3_leastFree 2 = .ok (.iload_n 1, 1) := by decide +kernel
theorem dX3_leastFree_3 : decode cX3_leastFree 3 = .ok (.bipush 40, 2) := by decide +kernel
theorem dX3_leastFree_5 : decode cX3_leastFree 5 = .ok (.if_icmp .ge 19, 3) := by decide +kernel
theorem dX3_leastFree_8 : decode cX3_leastFree 8 = .ok (.aload_n 0, 1) := by decide +kernel
theorem dX3_leastFree_9 : decode cX3_leastFree 9 = .ok (.iload_n 1, 1) := by decide +kernel
theorem dX3_leastFree_10 : decode cX3_leastFree 10 = .ok (.invokevirtual 57, 3) := by decide +kernel
theorem dX3_leastFree_13 : decode cX3_leastFree 13 = .ok (.ifCond .ne 5, 3) := by decide +kernel
theorem dX3_leastFree_16 : decode cX3_leastFree 16 = .ok (.iload_n 1, 1) := by decide +kernel
theorem dX3_leastFree_17 : decode cX3_leastFree 17 = .ok (.ireturn, 1) := by decide +kernel
theorem dX3_leastFree_18 : decode cX3_leastFree 18 = .ok (.iinc 1 1, 3) := by decide +kernel
theorem dX3_leastFree_21 : decode cX3_leastFree 21 = .ok (.goto (-19), 3) := by decide +kernel
theorem dX3_leastFree_24 : decode cX3_leastFree 24 = .ok (.iconst (-1), 1) := by decide +kernel
theorem dX3_leastFree_25 : decode cX3_leastFree 25 = .ok (.ireturn, 1) := by decide +kernel
set_option maxRecDepth 20000 in
theorem ggX3_greatestFree_X3_isUsed : GoodIn wsX3_greatestFree wsX3_isUsed := goodIn_r _ [5, 6, 7, 8, 9, 10, 11, 12, 13, 14, 15, 16, 17, 18, 19, 20, 21, 22, 23, 24] (by decide +kernel) (by decide +kernel)
set_option maxRecDepth 20000 in
theorem gX3_greatestFree_X3_isUsed : GoodIn wsX3_greatestFree (wsV RX3 57 RX3 yX3_isUsed wsX3_isUsed) := goodIn_app (goodIn_of _ (by decide +kernel)) ggX3_greatestFree_X3_isUsed
theorem dX3_greatestFree_0 : decode cX3_greatestFree 0 = .ok (.bipush 39, 2) := by decide +kernel
theorem dX3_greatestFree_2 : decode cX3_greatestFree 2 = .ok (.istore_n 1, 1) := by decide +kernel
theorem dX3_greatestFree_3 : decode cX3_greatestFree 3 = .ok (.iload_n 1, 1) := by decide +kernel
theorem dX3_greatestFree_4 : decode cX3_greatestFree 4 = .ok (.ifCond .lt 19, 3) := by decide +kernel
theorem dX3_greatestFree_7 : decode cX3_greatestFree 7 = .ok (.aload_n 0, 1) := by decide +kernel
theorem dX3_greatestFree_8 : decode cX3_greatestFree 8 = .ok (.iload_n 1, 1) := by decide +kernel
theorem dX3_greatestFree_9 : decode cX3_greatestFree 9 = .ok (.invokevirtual 57, 3) := by decide +kernel
theorem dX3_greatestFree_12 : decode cX3_greatestFree 12 = .ok (.ifCond .ne 5, 3) := by decide +kernel
theorem dX3_greatestFree_15 : decode cX3_greatestFree 15 = .ok (.iload_n 1, 1) := by decide +kernel
theorem dX3_greatestFree_16 : decode cX3_greatestFree 16 = .ok (.ireturn, 1) := by decide +kernel
theorem dX3_greatestFree_17 : decode cX3_greatestFree 17 = .ok (.iinc 1 (-1), 3) := by decide +kernel
theorem dX3_greatestFree_20 : decode cX3_greatestFree 20 = .ok (.goto (-17), 3) := by decide +kernel
theorem dX3_greatestFree_23 : decode cX3_greatestFree 23 = .ok (.iconst (-1), 1) := by decide +kernel
theorem dX3_greatestFree_24 : decode cX3_greatestFree 24 = .ok (.ireturn, 1) := by decide +kernel
set_option maxRecDepth 20000 in
theorem ggX3_make_X3_isInode : GoodIn wsX3_make wsX3_isInode := goodIn_r _ [8, 9, 3, 10, 11, 7, 12, 45, 46, 47, 48, 49, 50, 51, 52, 53, 54, 55, 56, 57, 58, 59, 60] (by decide +kernel) (by decide +kernel)
set_option maxRecDepth 20000 in
theorem gX3_make_X3_isInode : GoodIn wsX3_make (wsV RX3 61 RX3 yX3_isInode wsX3_isInode) := goodIn_app (goodIn_of _ (by decide +kernel)) ggX3_make_X3_isInode
set_option maxRecDepth 20000 in
theorem ggX3_make_X3_isName : GoodIn wsX3_make wsX3_isName := goodIn_r _ [15, 16, 10, 11, 7, 12] (by decide +kernel) (by decide +kernel)
set_option maxRecDepth 20000 in
theorem gX3_make_X3_isName : GoodIn wsX3_make (va_wsS RX3 65 yX3_isName wsX3_isName) := goodIn_app (goodIn_of _ (by decide +kernel)) ggX3_make_X3_isName
set_option maxRecDepth 20000 in
theorem ggX3_make_X3_in : GoodIn wsX3_make wsX3_in := goodIn_r _ [12] (by decide +kernel) (by decide +kernel)
set_option maxRecDepth 20000 in
theorem gX3_make_X3_in : GoodIn wsX3_make (va_wsS RX3 49 yX3_in wsX3_in) := goodIn_app (goodIn_of _ (by decide +kernel)) ggX3_make_X3_in
set_option maxRecDepth 20000 in
theorem ggX3_make_X3_entry : GoodIn wsX3_make wsX3_entry := goodIn_r _ [20, 21, 45, 46, 47, 48, 49, 50, 51, 52, 53, 54, 55, 56, 57, 58, 59, 60] (by decide +kernel) (by decide +kernel)
set_option maxRecDepth 20000 in
theorem gX3_make_X3_entry : GoodIn wsX3_make (wsV RX3 70 RX3 yX3_entry wsX3_entry) := goodIn_app (goodIn_of _ (by decide +kernel)) ggX3_make_X3_entry
set_option maxRecDepth 20000 in
theorem ggX3_make_X3_noEntry : GoodIn wsX3_make wsX3_noEntry := goodIn_r _ [25, 21, 45, 46, 47, 48, 49, 50, 51, 52, 53, 54, 55, 56, 57, 58, 59, 60] (by decide +kernel) (by decide +kernel)
set_option maxRecDepth 20000 in
theorem gX3_make_X3_noEntry : GoodIn wsX3_make (wsV RX3 74 RX3 yX3_noEntry wsX3_noEntry) := goodIn_app (goodIn_of _ (by decide +kernel)) ggX3_make_X3_noEntry
set_option maxRecDepth 20000 in
theorem ggX3_make_X3_setSize : GoodIn wsX3_make wsX3_setSize := goodIn_r _ [29, 30, 31, 32, 33, 7, 34, 2, 35, 36, 45, 46, 47, 48, 49, 50, 51, 52, 53, 54, 55, 56, 57, 58, 59, 60] (by decide +kernel) (by decide +kernel)
set_option maxRecDepth 20000 in
theorem gX3_make_X3_setSize : GoodIn wsX3_make (wsV RX3 78 RX3 yX3_setSize wsX3_setSize) := goodIn_app (goodIn_of _ (by decide +kernel)) ggX3_make_X3_setSize
set_option maxRecDepth 20000 in
theorem ggX3_make_X3_setPlace : GoodIn wsX3_make wsX3_setPlace := goodIn_r _ [40, 21, 31, 32, 33, 7, 34, 2, 35, 36, 45, 46, 47, 48, 49, 50, 51, 52, 53, 54, 55, 56, 57, 58, 59, 60] (by decide +kernel) (by decide +kernel)
set_option maxRecDepth 20000 in
theorem gX3_make_X3_setPlace : GoodIn wsX3_make (wsV RX3 82 RX3 yX3_setPlace wsX3_setPlace) := goodIn_app (goodIn_of _ (by decide +kernel)) ggX3_make_X3_setPlace
set_option maxRecDepth 20000 in
theorem ggX3_make_X3_setKind : GoodIn wsX3_make wsX3_setKind := goodIn_r _ [44, 3, 31, 32, 33, 7, 34, 2, 35, 36, 45, 46, 47, 48, 49, 50, 51, 52, 53, 54, 55, 56, 57, 58, 59, 60] (by decide +kernel) (by decide +kernel)
set_option maxRecDepth 20000 in
theorem gX3_make_X3_setKind : GoodIn wsX3_make (wsV RX3 86 RX3 yX3_setKind wsX3_setKind) := goodIn_app (goodIn_of _ (by decide +kernel)) ggX3_make_X3_setKind
theorem dX3_make_0 : decode cX3_make 0 = .ok (.aload_n 0, 1) := by decide +kernel
theorem dX3_make_1 : decode cX3_make 1 = .ok (.iload_n 1, 1) := by decide +kernel
theorem dX3_make_2 : decode cX3_make 2 = .ok (.iconst 1, 1) := by decide +kernel
theorem dX3_make_3 : decode cX3_make 3 = .ok (.invokevirtual 61, 3) := by decide +kernel
theorem dX3_make_6 : decode cX3_make 6 = .ok (.ifCond .eq 22, 3) := by decide +kernel
theorem dX3_make_9 : decode cX3_make 9 = .ok (.iload_n 2, 1) := by decide +kernel
theorem dX3_make_10 : decode cX3_make 10 = .ok (.invokestatic 65, 3) := by decide +kernel
theorem dX3_make_13 : decode cX3_make 13 = .ok (.ifCond .eq 15, 3) := by decide +kernel
theorem dX3_make_16 : decode cX3_make 16 = .ok (.iload_n 3, 1) := by decide +kernel
theorem dX3_make_17 : decode cX3_make 17 = .ok (.i2l, 1) := by decide +kernel
theorem dX3_make_18 : decode cX3_make 18 = .ok (.lconst 1, 1) := by decide +kernel
theorem dX3_make_19 : decode cX3_make 19 = .ok (.ldc2_w 68, 3) := by decide +kernel
theorem dX3_make_22 : decode cX3_make 22 = .ok (.invokestatic 49, 3) := by decide +kernel
theorem dX3_make_25 : decode cX3_make 25 = .ok (.ifCond .ne 5, 3) := by decide +kernel
theorem dX3_make_28 : decode cX3_make 28 = .ok (.iconst (-1), 1) := by decide +kernel
theorem dX3_make_29 : decode cX3_make 29 = .ok (.ireturn, 1) := by decide +kernel
theorem dX3_make_30 : decode cX3_make 30 = .ok (.aload_n 0, 1) := by decide +kernel
theorem dX3_make_31 : decode cX3_make 31 = .ok (.getfield 36, 3) := by decide +kernel
theorem dX3_make_34 : decode cX3_make 34 = .ok (.ifCond .eq 6, 3) := by decide +kernel
theorem dX3_make_37 : decode cX3_make 37 = .ok (.bipush (-2), 2) := by decide +kernel
theorem dX3_make_39 : decode cX3_make 39 = .ok (.ireturn, 1) := by decide +kernel
theorem dX3_make_40 : decode cX3_make 40 = .ok (.aload_n 0, 1) := by decide +kernel
theorem dX3_make_41 : decode cX3_make 41 = .ok (.iload_n 1, 1) := by decide +kernel
theorem dX3_make_42 : decode cX3_make 42 = .ok (.iload_n 2, 1) := by decide +kernel
theorem dX3_make_43 : decode cX3_make 43 = .ok (.invokevirtual 70, 3) := by decide +kernel
theorem dX3_make_46 : decode cX3_make 46 = .ok (.ifCond .lt 6, 3) := by decide +kernel
theorem dX3_make_49 : decode cX3_make 49 = .ok (.bipush (-4), 2) := by decide +kernel
theorem dX3_make_51 : decode cX3_make 51 = .ok (.ireturn, 1) := by decide +kernel
theorem dX3_make_52 : decode cX3_make 52 = .ok (.iconst 0, 1) := by decide +kernel
theorem dX3_make_53 : decode cX3_make 53 = .ok (.istore 4, 2) := by decide +kernel
theorem dX3_make_55 : decode cX3_make 55 = .ok (.iload 4, 2) := by decide +kernel
theorem dX3_make_57 : decode cX3_make 57 = .ok (.bipush 12, 2) := by decide +kernel
theorem dX3_make_59 : decode cX3_make 59 = .ok (.if_icmp .ge 19, 3) := by decide +kernel
theorem dX3_make_62 : decode cX3_make 62 = .ok (.aload_n 0, 1) := by decide +kernel
theorem dX3_make_63 : decode cX3_make 63 = .ok (.getfield 7, 3) := by decide +kernel
theorem dX3_make_66 : decode cX3_make 66 = .ok (.iload 4, 2) := by decide +kernel
theorem dX3_make_68 : decode cX3_make 68 = .ok (.iaload, 1) := by decide +kernel
theorem dX3_make_69 : decode cX3_make 69 = .ok (.ifCond .eq 9, 3) := by decide +kernel
theorem dX3_make_72 : decode cX3_make 72 = .ok (.iinc 4 1, 3) := by decide +kernel
theorem dX3_make_75 : decode cX3_make 75 = .ok (.goto (-20), 3) := by decide +kernel
theorem dX3_make_78 : decode cX3_make 78 = .ok (.aload_n 0, 1) := by decide +kernel
theorem dX3_make_79 : decode cX3_make 79 = .ok (.iload_n 1, 1) := by decide +kernel
theorem dX3_make_80 : decode cX3_make 80 = .ok (.invokevirtual 74, 3) := by decide +kernel
theorem dX3_make_83 : decode cX3_make 83 = .ok (.istore 5, 2) := by decide +kernel
theorem dX3_make_85 : decode cX3_make 85 = .ok (.iload 4, 2) := by decide +kernel
theorem dX3_make_87 : decode cX3_make 87 = .ok (.bipush 12, 2) := by decide +kernel
theorem dX3_make_89 : decode cX3_make 89 = .ok (.if_icmp .eq 8, 3) := by decide +kernel
theorem dX3_make_92 : decode cX3_make 92 = .ok (.iload 5, 2) := by decide +kernel
theorem dX3_make_94 : decode cX3_make 94 = .ok (.ifCond .ge 6, 3) := by decide +kernel
theorem dX3_make_97 : decode cX3_make 97 = .ok (.bipush (-5), 2) := by decide +kernel
theorem dX3_make_99 : decode cX3_make 99 = .ok (.ireturn, 1) := by decide +kernel
theorem dX3_make_100 : decode cX3_make 100 = .ok (.aload_n 0, 1) := by decide +kernel
theorem dX3_make_101 : decode cX3_make 101 = .ok (.iload 4, 2) := by decide +kernel
theorem dX3_make_103 : decode cX3_make 103 = .ok (.iconst 0, 1) := by decide +kernel
theorem dX3_make_104 : decode cX3_make 104 = .ok (.invokevirtual 78, 3) := by decide +kernel
theorem dX3_make_107 : decode cX3_make 107 = .ok (.iconst 0, 1) := by decide +kernel
theorem dX3_make_108 : decode cX3_make 108 = .ok (.istore 6, 2) := by decide +kernel
theorem dX3_make_110 : decode cX3_make 110 = .ok (.iload 6, 2) := by decide +kernel
theorem dX3_make_112 : decode cX3_make 112 = .ok (.bipush 8, 2) := by decide +kernel
theorem dX3_make_114 : decode cX3_make 114 = .ok (.if_icmp .ge 18, 3) := by decide +kernel
theorem dX3_make_117 : decode cX3_make 117 = .ok (.aload_n 0, 1) := by decide +kernel
theorem dX3_make_118 : decode cX3_make 118 = .ok (.iload 4, 2) := by decide +kernel
theorem dX3_make_120 : decode cX3_make 120 = .ok (.iload 6, 2) := by decide +kernel
theorem dX3_make_122 : decode cX3_make 122 = .ok (.iconst 0, 1) := by decide +kernel
theorem dX3_make_123 : decode cX3_make 123 = .ok (.invokevirtual 82, 3) := by decide +kernel
theorem dX3_make_126 : decode cX3_make 126 = .ok (.iinc 6 1, 3) := by decide +kernel
theorem dX3_make_129 : decode cX3_make 129 = .ok (.goto (-19), 3) := by decide +kernel
theorem dX3_make_132 : decode cX3_make 132 = .ok (.aload_n 0, 1) := by decide +kernel
theorem dX3_make_133 : decode cX3_make 133 = .ok (.iload 4, 2) := by decide +kernel
theorem dX3_make_135 : decode cX3_make 135 = .ok (.iload_n 3, 1) := by decide +kernel
theorem dX3_make_136 : decode cX3_make 136 = .ok (.invokevirtual 86, 3) := by decide +kernel
theorem dX3_make_139 : decode cX3_make 139 = .ok (.aload_n 0, 1) := by decide +kernel
theorem dX3_make_140 : decode cX3_make 140 = .ok (.iload_n 1, 1) := by decide +kernel
theorem dX3_make_141 : decode cX3_make 141 = .ok (.iload 5, 2) := by decide +kernel
theorem dX3_make_143 : decode cX3_make 143 = .ok (.bipush 100, 2) := by decide +kernel
theorem dX3_make_145 : decode cX3_make 145 = .ok (.iload 4, 2) := by decide +kernel
theorem dX3_make_147 : decode cX3_make 147 = .ok (.imul, 1) := by decide +kernel
theorem dX3_make_148 : decode cX3_make 148 = .ok (.iload_n 2, 1) := by decide +kernel
theorem dX3_make_149 : decode cX3_make 149 = .ok (.iadd, 1) := by decide +kernel
theorem dX3_make_150 : decode cX3_make 150 = .ok (.invokevirtual 82, 3) := by decide +kernel
theorem dX3_make_153 : decode cX3_make 153 = .ok (.aload_n 0, 1) := by decide +kernel
theorem dX3_make_154 : decode cX3_make 154 = .ok (.getfield 36, 3) := by decide +kernel
theorem dX3_make_157 : decode cX3_make 157 = .ok (.ifCond .eq 8, 3) := by decide +kernel
theorem dX3_make_160 : decode cX3_make 160 = .ok (.bipush (-2), 2) := by decide +kernel
theorem dX3_make_162 : decode cX3_make 162 = .ok (.goto 5, 3) := by decide +kernel
theorem dX3_make_165 : decode cX3_make 165 = .ok (.iload 4, 2) := by decide +kernel
theorem dX3_make_167 : decode cX3_make 167 = .ok (.ireturn, 1) := by decide +kernel
set_option maxRecDepth 20000 in
theorem ggX3_append_X3_isInode : GoodIn wsX3_append wsX3_isInode := goodIn_r _ [7, 8, 9, 10, 11, 6, 12, 41, 42, 43, 44, 45, 46, 47, 48, 49, 50, 51, 52, 53, 54, 55, 56] (by decide +kernel) (by decide +kernel)
set_option maxRecDepth 20000 in
theorem gX3_append_X3_isInode : GoodIn wsX3_append (wsV RX3 61 RX3 yX3_isInode wsX3_isInode) := goodIn_app (goodIn_of _ (by decide +kernel)) ggX3_append_X3_isInode
set_option maxRecDepth 20000 in
theorem ggX3_append_X3_leastFree : GoodIn wsX3_append wsX3_leastFree := goodIn_r _ [16, 17, 18, 19, 6, 20, 9, 2, 21, 41, 42, 43, 44, 45, 46, 47, 48, 49, 50, 51, 52, 53, 54, 55, 56] (by decide +kernel) (by decide +kernel)
set_option maxRecDepth 20000 in
theorem gX3_append_X3_leastFree : GoodIn wsX3_append (wsV RX3 89 RX3 yX3_leastFree wsX3_leastFree) := goodIn_app (goodIn_of _ (by decide +kernel)) ggX3_append_X3_leastFree
set_option maxRecDepth 20000 in
theorem ggX3_append_X3_setData : GoodIn wsX3_append wsX3_setData := goodIn_r _ [25, 26, 27, 28, 29, 6, 30, 1, 31, 32, 41, 42, 43, 44, 45, 46, 47, 48, 49, 50, 51, 52, 53, 54, 55, 56] (by decide +kernel) (by decide +kernel)
set_option maxRecDepth 20000 in
theorem gX3_append_X3_setData : GoodIn wsX3_append (wsV RX3 93 RX3 yX3_setData wsX3_setData) := goodIn_app (goodIn_of _ (by decide +kernel)) ggX3_append_X3_setData
set_option maxRecDepth 20000 in
theorem ggX3_append_X3_setPlace : GoodIn wsX3_append wsX3_setPlace := goodIn_r _ [36, 21, 27, 28, 29, 6, 30, 1, 31, 32, 41, 42, 43, 44, 45, 46, 47, 48, 49, 50, 51, 52, 53, 54, 55, 56] (by decide +kernel) (by decide +kernel)
set_option maxRecDepth 20000 in
theorem gX3_append_X3_setPlace : GoodIn wsX3_append (wsV RX3 82 RX3 yX3_setPlace wsX3_setPlace) := goodIn_app (goodIn_of _ (by decide +kernel)) ggX3_append_X3_setPlace
set_option maxRecDepth 20000 in
theorem ggX3_append_X3_setSize : GoodIn wsX3_append wsX3_setSize := goodIn_r _ [40, 2, 27, 28, 29, 6, 30, 1, 31, 32, 41, 42, 43, 44, 45, 46, 47, 48, 49, 50, 51, 52, 53, 54, 55, 56] (by decide +kernel) (by decide +kernel)
set_option maxRecDepth 20000 in
theorem gX3_append_X3_setSize : GoodIn wsX3_append (wsV RX3 78 RX3 yX3_setSize wsX3_setSize) := goodIn_app (goodIn_of _ (by decide +kernel)) ggX3_append_X3_setSize
theorem dX3_append_0 : decode cX3_append 0 = .ok (.aload_n 0, 1) := by decide +kernel
theorem dX3_append_1 : decode cX3_append 1 = .ok (.iload_n 1, 1) := by decide +kernel
theorem dX3_append_2 : decode cX3_append 2 = .ok (.iconst 2, 1) := by decide +kernel
theorem dX3_append_3 : decode cX3_append 3 = .ok (.invokevirtual 61, 3) := by decide +kernel
theorem dX3_append_6 : decode cX3_append 6 = .ok (.ifCond .ne 5, 3) := by decide +kernel
theorem dX3_append_9 : decode cX3_append 9 = .ok (.iconst (-1), 1) := by decide +kernel
theorem dX3_append_10 : decode cX3_append 10 = .ok (.ireturn, 1) := by decide +kernel
theorem dX3_append_11 : decode cX3_append 11 = .ok (.aload_n 0, 1) := by decide +kernel
theorem dX3_append_12 : decode cX3_append 12 = .ok (.getfield 36, 3) := by decide +kernel
theorem dX3_append_15 : decode cX3_append 15 = .ok (.ifCond .eq 6, 3) := by decide +kernel
theorem dX3_append_18 : decode cX3_append 18 = .ok (.bipush (-2), 2) := by decide +kernel
theorem dX3_append_20 : decode cX3_append 20 = .ok (.ireturn, 1) := by decide +kernel
theorem dX3_append_21 : decode cX3_append 21 = .ok (.aload_n 0, 1) := by decide +kernel
theorem dX3_append_22 : decode cX3_append 22 = .ok (.invokevirtual 89, 3) := by decide +kernel
theorem dX3_append_25 : decode cX3_append 25 = .ok (.istore 8, 2) := by decide +kernel
theorem dX3_append_27 : decode cX3_append 27 = .ok (.aload_n 0, 1) := by decide +kernel
theorem dX3_append_28 : decode cX3_append 28 = .ok (.getfield 13, 3) := by decide +kernel
theorem dX3_append_31 : decode cX3_append 31 = .ok (.iload_n 1, 1) := by decide +kernel
theorem dX3_append_32 : decode cX3_append 32 = .ok (.iaload, 1) := by decide +kernel
theorem dX3_append_33 : decode cX3_append 33 = .ok (.bipush 8, 2) := by decide +kernel
theorem dX3_append_35 : decode cX3_append 35 = .ok (.if_icmp .eq 8, 3) := by decide +kernel
theorem dX3_append_38 : decode cX3_append 38 = .ok (.iload 8, 2) := by decide +kernel
theorem dX3_append_40 : decode cX3_append 40 = .ok (.ifCond .ge 6, 3) := by decide +kernel
theorem dX3_append_43 : decode cX3_append 43 = .ok (.bipush (-5), 2) := by decide +kernel
theorem dX3_append_45 : decode cX3_append 45 = .ok (.ireturn, 1) := by decide +kernel
theorem dX3_append_46 : decode cX3_append 46 = .ok (.aload_n 0, 1) := by decide +kernel
theorem dX3_append_47 : decode cX3_append 47 = .ok (.iload 8, 2) := by decide +kernel
theorem dX3_append_49 : decode cX3_append 49 = .ok (.iconst 0, 1) := by decide +kernel
theorem dX3_append_50 : decode cX3_append 50 = .ok (.lload_n 2, 1) := by decide +kernel
theorem dX3_append_51 : decode cX3_append 51 = .ok (.invokevirtual 93, 3) := by decide +kernel
theorem dX3_append_54 : decode cX3_append 54 = .ok (.aload_n 0, 1) := by decide +kernel
theorem dX3_append_55 : decode cX3_append 55 = .ok (.iload 8, 2) := by decide +kernel
theorem dX3_append_57 : decode cX3_append 57 = .ok (.iconst 1, 1) := by decide +kernel
theorem dX3_append_58 : decode cX3_append 58 = .ok (.lload 4, 2) := by decide +kernel
theorem dX3_append_60 : decode cX3_append 60 = .ok (.invokevirtual 93, 3) := by decide +kernel
theorem dX3_append_63 : decode cX3_append 63 = .ok (.aload_n 0, 1) := by decide +kernel
theorem dX3_append_64 : decode cX3_append 64 = .ok (.iload 8, 2) := by decide +kernel
theorem dX3_append_66 : decode cX3_append 66 = .ok (.iconst 2, 1) := by decide +kernel
theorem dX3_append_67 : decode cX3_append 67 = .ok (.lload 6, 2) := by decide +kernel
theorem dX3_append_69 : decode cX3_append 69 = .ok (.invokevirtual 93, 3) := by decide +kernel
theorem dX3_append_72 : decode cX3_append 72 = .ok (.aload_n 0, 1) := by decide +kernel
theorem dX3_append_73 : decode cX3_append 73 = .ok (.iload_n 1, 1) := by decide +kernel
theorem dX3_append_74 : decode cX3_append 74 = .ok (.aload_n 0, 1) := by decide +kernel
theorem dX3_append_75 : decode cX3_append 75 = .ok (.getfield 13, 3) := by decide +kernel
theorem dX3_append_78 : decode cX3_append 78 = .ok (.iload_n 1, 1) := by decide +kernel
theorem dX3_append_79 : decode cX3_append 79 = .ok (.iaload, 1) := by decide +kernel
theorem dX3_append_80 : decode cX3_append 80 = .ok (.iload 8, 2) := by decide +kernel
theorem dX3_append_82 : decode cX3_append 82 = .ok (.invokevirtual 82, 3) := by decide +kernel
theorem dX3_append_85 : decode cX3_append 85 = .ok (.aload_n 0, 1) := by decide +kernel
theorem dX3_append_86 : decode cX3_append 86 = .ok (.iload_n 1, 1) := by decide +kernel
theorem dX3_append_87 : decode cX3_append 87 = .ok (.aload_n 0, 1) := by decide +kernel
theorem dX3_append_88 : decode cX3_append 88 = .ok (.getfield 13, 3) := by decide +kernel
theorem dX3_append_91 : decode cX3_append 91 = .ok (.iload_n 1, 1) := by decide +kernel
theorem dX3_append_92 : decode cX3_append 92 = .ok (.iaload, 1) := by decide +kernel
theorem dX3_append_93 : decode cX3_append 93 = .ok (.iconst 1, 1) := by decide +kernel
theorem dX3_append_94 : decode cX3_append 94 = .ok (.iadd, 1) := by decide +kernel
theorem dX3_append_95 : decode cX3_append 95 = .ok (.invokevirtual 78, 3) := by decide +kernel
theorem dX3_append_98 : decode cX3_append 98 = .ok (.aload_n 0, 1) := by decide +kernel
theorem dX3_append_99 : decode cX3_append 99 = .ok (.getfield 36, 3) := by decide +kernel
theorem dX3_append_102 : decode cX3_append 102 = .ok (.ifCond .eq 8, 3) := by decide +kernel
theorem dX3_append_105 : decode cX3_append 105 = .ok (.bipush (-2), 2) := by decide +kernel
theorem dX3_append_107 : decode cX3_append 107 = .ok (.goto 9, 3) := by decide +kernel
theorem dX3_append_110 : decode cX3_append 110 = .ok (.aload_n 0, 1) := by decide +kernel
theorem dX3_append_111 : decode cX3_append 111 = .ok (.getfield 13, 3) := by decide +kernel
theorem dX3_append_114 : decode cX3_append 114 = .ok (.iload_n 1, 1) := by decide +kernel
theorem dX3_append_115 : decode cX3_append 115 = .ok (.iaload, 1) := by decide +kernel
theorem dX3_append_116 : decode cX3_append 116 = .ok (.ireturn, 1) := by decide +kernel
set_option maxRecDepth 20000 in
theorem ggX3_put_X3_isInode : GoodIn wsX3_put wsX3_isInode := goodIn_r _ [9, 10, 11, 12, 13, 8, 14, 26, 27, 28, 29, 30, 31, 32, 33, 34, 35, 36, 37, 38, 39, 40, 41] (by decide +kernel) (by decide +kernel)
set_option maxRecDepth 20000 in
theorem gX3_put_X3_isInode : GoodIn wsX3_put (wsV RX3 61 RX3 yX3_isInode wsX3_isInode) := goodIn_app (goodIn_of _ (by decide +kernel)) ggX3_put_X3_isInode
set_option maxRecDepth 20000 in
theorem ggX3_put_X3_in : GoodIn wsX3_put wsX3_in := goodIn_r _ [14] (by decide +kernel) (by decide +kernel)
set_option maxRecDepth 20000 in
theorem gX3_put_X3_in : GoodIn wsX3_put (va_wsS RX3 49 yX3_in wsX3_in) := goodIn_app (goodIn_of _ (by decide +kernel)) ggX3_put_X3_in
set_option maxRecDepth 20000 in
theorem ggX3_put_X3_setData : GoodIn wsX3_put wsX3_setData := goodIn_r _ [18, 19, 20, 21, 22, 8, 23, 3, 24, 25, 26, 27, 28, 29, 30, 31, 32, 33, 34, 35, 36, 37, 38, 39, 40, 41] (by decide +kernel) (by decide +kernel)
set_option maxRecDepth 20000 in
theorem gX3_put_X3_setData : GoodIn wsX3_put (wsV RX3 93 RX3 yX3_setData wsX3_setData) := goodIn_app (goodIn_of _ (by decide +kernel)) ggX3_put_X3_setData
theorem dX3_put_0 : decode cX3_put 0 = .ok (.aload_n 0, 1) := by decide +kernel
theorem dX3_put_1 : decode cX3_put 1 = .ok (.iload_n 1, 1) := by decide +kernel
theorem dX3_put_2 : decode cX3_put 2 = .ok (.iconst 2, 1) := by decide +kernel
theorem dX3_put_3 : decode cX3_put 3 = .ok (.invokevirtual 61, 3) := by decide +kernel
theorem dX3_put_6 : decode cX3_put 6 = .ok (.ifCond .eq 33, 3) := by decide +kernel
theorem dX3_put_9 : decode cX3_put 9 = .ok (.iload_n 2, 1) := by decide +kernel
theorem dX3_put_10 : decode cX3_put 10 = .ok (.i2l, 1) := by decide +kernel
theorem dX3_put_11 : decode cX3_put 11 = .ok (.lconst 0, 1) := by decide +kernel
theorem dX3_put_12 : decode cX3_put 12 = .ok (.aload_n 0, 1) := by decide +kernel
theorem dX3_put_13 : decode cX3_put 13 = .ok (.getfield 13, 3) := by decide +kernel
theorem dX3_put_16 : decode cX3_put 16 = .ok (.iload_n 1, 1) := by decide +kernel
theorem dX3_put_17 : decode cX3_put 17 = .ok (.iaload, 1) := by decide +kernel
theorem dX3_put_18 : decode cX3_put 18 = .ok (.iconst 1, 1) := by decide +kernel
theorem dX3_put_19 : decode cX3_put 19 = .ok (.isub, 1) := by decide +kernel
theorem dX3_put_20 : decode cX3_put 20 = .ok (.i2l, 1) := by decide +kernel
theorem dX3_put_21 : decode cX3_put 21 = .ok (.invokestatic 49, 3) := by decide +kernel
theorem dX3_put_24 : decode cX3_put 24 = .ok (.ifCond .eq 15, 3) := by decide +kernel
theorem dX3_put_27 : decode cX3_put 27 = .ok (.iload_n 3, 1) := by decide +kernel
theorem dX3_put_28 : decode cX3_put 28 = .ok (.i2l, 1) := by decide +kernel
theorem dX3_put_29 : decode cX3_put 29 = .ok (.lconst 0, 1) := by decide +kernel
theorem dX3_put_30 : decode cX3_put 30 = .ok (.ldc2_w 68, 3) := by decide +kernel
theorem dX3_put_33 : decode cX3_put 33 = .ok (.invokestatic 49, 3) := by decide +kernel
theorem dX3_put_36 : decode cX3_put 36 = .ok (.ifCond .ne 5, 3) := by decide +kernel
theorem dX3_put_39 : decode cX3_put 39 = .ok (.iconst (-1), 1) := by decide +kernel
theorem dX3_put_40 : decode cX3_put 40 = .ok (.ireturn, 1) := by decide +kernel
theorem dX3_put_41 : decode cX3_put 41 = .ok (.aload_n 0, 1) := by decide +kernel
theorem dX3_put_42 : decode cX3_put 42 = .ok (.getfield 36, 3) := by decide +kernel
theorem dX3_put_45 : decode cX3_put 45 = .ok (.ifCond .eq 6, 3) := by decide +kernel
theorem dX3_put_48 : decode cX3_put 48 = .ok (.bipush (-2), 2) := by decide +kernel
theorem dX3_put_50 : decode cX3_put 50 = .ok (.ireturn, 1) := by decide +kernel
theorem dX3_put_51 : decode cX3_put 51 = .ok (.aload_n 0, 1) := by decide +kernel
theorem dX3_put_52 : decode cX3_put 52 = .ok (.aload_n 0, 1) := by decide +kernel
theorem dX3_put_53 : decode cX3_put 53 = .ok (.getfield 16, 3) := by decide +kernel
theorem dX3_put_56 : decode cX3_put 56 = .ok (.bipush 8, 2) := by decide +kernel
theorem dX3_put_58 : decode cX3_put 58 = .ok (.iload_n 1, 1) := by decide +kernel
theorem dX3_put_59 : decode cX3_put 59 = .ok (.imul, 1) := by decide +kernel
theorem dX3_put_60 : decode cX3_put 60 = .ok (.iload_n 2, 1) := by decide +kernel
theorem dX3_put_61 : decode cX3_put 61 = .ok (.iadd, 1) := by decide +kernel
theorem dX3_put_62 : decode cX3_put 62 = .ok (.iaload, 1) := by decide +kernel
theorem dX3_put_63 : decode cX3_put 63 = .ok (.iload_n 3, 1) := by decide +kernel
theorem dX3_put_64 : decode cX3_put 64 = .ok (.lload 4, 2) := by decide +kernel
theorem dX3_put_66 : decode cX3_put 66 = .ok (.invokevirtual 93, 3) := by decide +kernel
theorem dX3_put_69 : decode cX3_put 69 = .ok (.aload_n 0, 1) := by decide +kernel
theorem dX3_put_70 : decode cX3_put 70 = .ok (.getfield 36, 3) := by decide +kernel
theorem dX3_put_73 : decode cX3_put 73 = .ok (.ifCond .eq 8, 3) := by decide +kernel
theorem dX3_put_76 : decode cX3_put 76 = .ok (.bipush (-2), 2) := by decide +kernel
theorem dX3_put_78 : decode cX3_put 78 = .ok (.goto 4, 3) := by decide +kernel
theorem dX3_put_81 : decode cX3_put 81 = .ok (.iconst 1, 1) := by decide +kernel
theorem dX3_put_82 : decode cX3_put 82 = .ok (.ireturn, 1) := by decide +kernel
theorem dX3_hasEntries_0 : decode cX3_hasEntries 0 = .ok (.iconst 0, 1) := by decide +kernel
theorem dX3_hasEntries_1 : decode cX3_hasEntries 1 = .ok (.istore_n 2, 1) := by decide +kernel
theorem dX3_hasEntries_2 : decode cX3_hasEntries 2 = .ok (.iload_n 2, 1) := by decide +kernel
theorem dX3_hasEntries_3 : decode cX3_hasEntries 3 = .ok (.bipush 8, 2) := by decide +kernel
theorem dX3_hasEntries_5 : decode cX3_hasEntries 5 = .ok (.if_icmp .ge 25, 3) := by decide +kernel
theorem dX3_hasEntries_8 : decode cX3_hasEntries 8 = .ok (.aload_n 0, 1) := by decide +kernel
theorem dX3_hasEntries_9 : decode cX3_hasEntries 9 = .ok (.getfield 16, 3) := by decide +kernel
theorem dX3_hasEntries_12 : decode cX3_hasEntries 12 = .ok (.bipush 8, 2) := by decide +kernel
theorem dX3_hasEntries_14 : decode cX3_hasEntries 14 = .ok (.iload_n 1, 1) := by decide +kernel
theorem dX3_hasEntries_15 : decode cX3_hasEntries 15 = .ok (.imul, 1) := by decide +kernel
theorem dX3_hasEntries_16 : decode cX3_hasEntries 16 = .ok (.iload_n 2, 1) := by decide +kernel
theorem dX3_hasEntries_17 : decode cX3_hasEntries 17 = .ok (.iadd, 1) := by decide +kernel
theorem dX3_hasEntries_18 : decode cX3_hasEntries 18 = .ok (.iaload, 1) := by decide +kernel
theorem dX3_hasEntries_19 : decode cX3_hasEntries 19 = .ok (.ifCond .eq 5, 3) := by decide +kernel
theorem dX3_hasEntries_22 : decode cX3_hasEntries 22 = .ok (.iconst 1, 1) := by decide +kernel
theorem dX3_hasEntries_23 : decode cX3_hasEntries 23 = .ok (.ireturn, 1) := by decide +kernel
theorem dX3_hasEntries_24 : decode cX3_hasEntries 24 = .ok (.iinc 2 1, 3) := by decide +kernel
theorem dX3_hasEntries_27 : decode cX3_hasEntries 27 = .ok (.goto (-25), 3) := by decide +kernel
theorem dX3_hasEntries_30 : decode cX3_hasEntries 30 = .ok (.iconst 0, 1) := by decide +kernel
theorem dX3_hasEntries_31 : decode cX3_hasEntries 31 = .ok (.ireturn, 1) := by decide +kernel
set_option maxRecDepth 20000 in
theorem ggX3_remove_X3_isInode : GoodIn wsX3_remove wsX3_isInode := goodIn_r _ [8, 9, 3, 10, 11, 7, 12, 39, 40, 41, 42, 43, 44, 45, 46, 47, 48, 49, 50, 51, 52, 53, 54] (by decide +kernel) (by decide +kernel)
set_option maxRecDepth 20000 in
theorem gX3_remove_X3_isInode : GoodIn wsX3_remove (wsV RX3 61 RX3 yX3_isInode wsX3_isInode) := goodIn_app (goodIn_of _ (by decide +kernel)) ggX3_remove_X3_isInode
set_option maxRecDepth 20000 in
theorem ggX3_remove_X3_isName : GoodIn wsX3_remove wsX3_isName := goodIn_r _ [15, 16, 10, 11, 7, 12] (by decide +kernel) (by decide +kernel)
set_option maxRecDepth 20000 in
theorem gX3_remove_X3_isName : GoodIn wsX3_remove (va_wsS RX3 65 yX3_isName wsX3_isName) := goodIn_app (goodIn_of _ (by decide +kernel)) ggX3_remove_X3_isName
set_option maxRecDepth 20000 in
theorem ggX3_remove_X3_entry : GoodIn wsX3_remove wsX3_entry := goodIn_r _ [20, 2, 39, 40, 41, 42, 43, 44, 45, 46, 47, 48, 49, 50, 51, 52, 53, 54] (by decide +kernel) (by decide +kernel)
set_option maxRecDepth 20000 in
theorem gX3_remove_X3_entry : GoodIn wsX3_remove (wsV RX3 70 RX3 yX3_entry wsX3_entry) := goodIn_app (goodIn_of _ (by decide +kernel)) ggX3_remove_X3_entry
set_option maxRecDepth 20000 in
theorem ggX3_remove_X3_hasEntries : GoodIn wsX3_remove wsX3_hasEntries := goodIn_r _ [24, 2, 39, 40, 41, 42, 43, 44, 45, 46, 47, 48, 49, 50, 51, 52, 53, 54] (by decide +kernel) (by decide +kernel)
set_option maxRecDepth 20000 in
theorem gX3_remove_X3_hasEntries : GoodIn wsX3_remove (wsV RX3 97 RX3 yX3_hasEntries wsX3_hasEntries) := goodIn_app (goodIn_of _ (by decide +kernel)) ggX3_remove_X3_hasEntries
set_option maxRecDepth 20000 in
theorem ggX3_remove_X3_setPlace : GoodIn wsX3_remove wsX3_setPlace := goodIn_r _ [28, 2, 29, 30, 31, 7, 32, 1, 33, 34, 39, 40, 41, 42, 43, 44, 45, 46, 47, 48, 49, 50, 51, 52, 53, 54] (by decide +kernel) (by decide +kernel)
set_option maxRecDepth 20000 in
theorem gX3_remove_X3_setPlace : GoodIn wsX3_remove (wsV RX3 82 RX3 yX3_setPlace wsX3_setPlace) := goodIn_app (goodIn_of _ (by decide +kernel)) ggX3_remove_X3_setPlace
set_option maxRecDepth 20000 in
theorem ggX3_remove_X3_setKind : GoodIn wsX3_remove wsX3_setKind := goodIn_r _ [38, 3, 29, 30, 31, 7, 32, 1, 33, 34, 39, 40, 41, 42, 43, 44, 45, 46, 47, 48, 49, 50, 51, 52, 53, 54] (by decide +kernel) (by decide +kernel)
set_option maxRecDepth 20000 in
theorem gX3_remove_X3_setKind : GoodIn wsX3_remove (wsV RX3 86 RX3 yX3_setKind wsX3_setKind) := goodIn_app (goodIn_of _ (by decide +kernel)) ggX3_remove_X3_setKind
theorem dX3_remove_0 : decode cX3_remove 0 = .ok (.aload_n 0, 1) := by decide +kernel
theorem dX3_remove_1 : decode cX3_remove 1 = .ok (.iload_n 1, 1) := by decide +kernel
theorem dX3_remove_2 : decode cX3_remove 2 = .ok (.iconst 1, 1) := by decide +kernel
theorem dX3_remove_3 : decode cX3_remove 3 = .ok (.invokevirtual 61, 3) := by decide +kernel
theorem dX3_remove_6 : decode cX3_remove 6 = .ok (.ifCond .eq 10, 3) := by decide +kernel
theorem dX3_remove_9 : decode cX3_remove 9 = .ok (.iload_n 2, 1) := by decide +kernel
theorem dX3_remove_10 : decode cX3_remove 10 = .ok (.invokestatic 65, 3) := by decide +kernel
theorem dX3_remove_13 : decode cX3_remove 13 = .ok (.ifCond .ne 5, 3) := by decide +kernel
theorem dX3_remove_16 : decode cX3_remove 16 = .ok (.iconst (-1), 1) := by decide +kernel
theorem dX3_remove_17 : decode cX3_remove 17 = .ok (.ireturn, 1) := by decide +kernel
theorem dX3_remove_18 : decode cX3_remove 18 = .ok (.aload_n 0, 1) := by decide +kernel
theorem dX3_remove_19 : decode cX3_remove 19 = .ok (.getfield 36, 3) := by decide +kernel
theorem dX3_remove_22 : decode cX3_remove 22 = .ok (.ifCond .eq 6, 3) := by decide +kernel
theorem dX3_remove_25 : decode cX3_remove 25 = .ok (.bipush (-2), 2) := by decide +kernel
theorem dX3_remove_27 : decode cX3_remove 27 = .ok (.ireturn, 1) := by decide +kernel
theorem dX3_remove_28 : decode cX3_remove 28 = .ok (.aload_n 0, 1) := by decide +kernel
theorem dX3_remove_29 : decode cX3_remove 29 = .ok (.iload_n 1, 1) := by decide +kernel
theorem dX3_remove_30 : decode cX3_remove 30 = .ok (.iload_n 2, 1) := by decide +kernel
theorem dX3_remove_31 : decode cX3_remove 31 = .ok (.invokevirtual 70, 3) := by decide +kernel
theorem dX3_remove_34 : decode cX3_remove 34 = .ok (.istore_n 3, 1) := by decide +kernel
theorem dX3_remove_35 : decode cX3_remove 35 = .ok (.iload_n 3, 1) := by decide +kernel
theorem dX3_remove_36 : decode cX3_remove 36 = .ok (.ifCond .ge 6, 3) := by decide +kernel
theorem dX3_remove_39 : decode cX3_remove 39 = .ok (.bipush (-3), 2) := by decide +kernel
theorem dX3_remove_41 : decode cX3_remove 41 = .ok (.ireturn, 1) := by decide +kernel
theorem dX3_remove_42 : decode cX3_remove 42 = .ok (.aload_n 0, 1) := by decide +kernel
theorem dX3_remove_43 : decode cX3_remove 43 = .ok (.getfield 16, 3) := by decide +kernel
theorem dX3_remove_46 : decode cX3_remove 46 = .ok (.bipush 8, 2) := by decide +kernel
theorem dX3_remove_48 : decode cX3_remove 48 = .ok (.iload_n 1, 1) := by decide +kernel
theorem dX3_remove_49 : decode cX3_remove 49 = .ok (.imul, 1) := by decide +kernel
theorem dX3_remove_50 : decode cX3_remove 50 = .ok (.iload_n 3, 1) := by decide +kernel
theorem dX3_remove_51 : decode cX3_remove 51 = .ok (.iadd, 1) := by decide +kernel
theorem dX3_remove_52 : decode cX3_remove 52 = .ok (.iaload, 1) := by decide +kernel
theorem dX3_remove_53 : decode cX3_remove 53 = .ok (.bipush 100, 2) := by decide +kernel
theorem dX3_remove_55 : decode cX3_remove 55 = .ok (.idiv, 1) := by decide +kernel
theorem dX3_remove_56 : decode cX3_remove 56 = .ok (.istore 4, 2) := by decide +kernel
theorem dX3_remove_58 : decode cX3_remove 58 = .ok (.aload_n 0, 1) := by decide +kernel
theorem dX3_remove_59 : decode cX3_remove 59 = .ok (.getfield 7, 3) := by decide +kernel
theorem dX3_remove_62 : decode cX3_remove 62 = .ok (.iload 4, 2) := by decide +kernel
theorem dX3_remove_64 : decode cX3_remove 64 = .ok (.iaload, 1) := by decide +kernel
theorem dX3_remove_65 : decode cX3_remove 65 = .ok (.iconst 1, 1) := by decide +kernel
theorem dX3_remove_66 : decode cX3_remove 66 = .ok (.if_icmp .ne 15, 3) := by decide +kernel
theorem dX3_remove_69 : decode cX3_remove 69 = .ok (.aload_n 0, 1) := by decide +kernel
theorem dX3_remove_70 : decode cX3_remove 70 = .ok (.iload 4, 2) := by decide +kernel
theorem dX3_remove_72 : decode cX3_remove 72 = .ok (.invokevirtual 97, 3) := by decide +kernel
theorem dX3_remove_75 : decode cX3_remove 75 = .ok (.ifCond .eq 6, 3) := by decide +kernel
theorem dX3_remove_78 : decode cX3_remove 78 = .ok (.bipush (-6), 2) := by decide +kernel
theorem dX3_remove_80 : decode cX3_remove 80 = .ok (.ireturn, 1) := by decide +kernel
theorem dX3_remove_81 : decode cX3_remove 81 = .ok (.aload_n 0, 1) := by decide +kernel
theorem dX3_remove_82 : decode cX3_remove 82 = .ok (.iload_n 1, 1) := by decide +kernel
theorem dX3_remove_83 : decode cX3_remove 83 = .ok (.iload_n 3, 1) := by decide +kernel
theorem dX3_remove_84 : decode cX3_remove 84 = .ok (.iconst 0, 1) := by decide +kernel
theorem dX3_remove_85 : decode cX3_remove 85 = .ok (.invokevirtual 82, 3) := by decide +kernel
theorem dX3_remove_88 : decode cX3_remove 88 = .ok (.aload_n 0, 1) := by decide +kernel
theorem dX3_remove_89 : decode cX3_remove 89 = .ok (.iload 4, 2) := by decide +kernel
theorem dX3_remove_91 : decode cX3_remove 91 = .ok (.iconst 0, 1) := by decide +kernel
theorem dX3_remove_92 : decode cX3_remove 92 = .ok (.invokevirtual 86, 3) := by decide +kernel
theorem dX3_remove_95 : decode cX3_remove 95 = .ok (.aload_n 0, 1) := by decide +kernel
theorem dX3_remove_96 : decode cX3_remove 96 = .ok (.getfield 36, 3) := by decide +kernel
theorem dX3_remove_99 : decode cX3_remove 99 = .ok (.ifCond .eq 8, 3) := by decide +kernel
theorem dX3_remove_102 : decode cX3_remove 102 = .ok (.bipush (-2), 2) := by decide +kernel
theorem dX3_remove_104 : decode cX3_remove 104 = .ok (.goto 5, 3) := by decide +kernel
theorem dX3_remove_107 : decode cX3_remove 107 = .ok (.iload 4, 2) := by decide +kernel
theorem dX3_remove_109 : decode cX3_remove 109 = .ok (.ireturn, 1) := by decide +kernel
theorem dX3_isWithin_0 : decode cX3_isWithin 0 = .ok (.iconst 1, 1) := by decide +kernel
theorem dX3_isWithin_1 : decode cX3_isWithin 1 = .ok (.iload_n 2, 1) := by decide +kernel
theorem dX3_isWithin_2 : decode cX3_isWithin 2 = .ok (.ishl, 1) := by decide +kernel
theorem dX3_isWithin_3 : decode cX3_isWithin 3 = .ok (.istore_n 3, 1) := by decide +kernel
theorem dX3_isWithin_4 : decode cX3_isWithin 4 = .ok (.iconst 1, 1) := by decide +kernel
theorem dX3_isWithin_5 : decode cX3_isWithin 5 = .ok (.istore 4, 2) := by decide +kernel
theorem dX3_isWithin_7 : decode cX3_isWithin 7 = .ok (.iload 4, 2) := by decide +kernel
theorem dX3_isWithin_9 : decode cX3_isWithin 9 = .ok (.ifCond .eq 116, 3) := by decide +kernel
theorem dX3_isWithin_12 : decode cX3_isWithin 12 = .ok (.iload_n 3, 1) := by decide +kernel
theorem dX3_isWithin_13 : decode cX3_isWithin 13 = .ok (.istore 5, 2) := by decide +kernel
theorem dX3_isWithin_15 : decode cX3_isWithin 15 = .ok (.iconst 0, 1) := by decide +kernel
theorem dX3_isWithin_16 : decode cX3_isWithin 16 = .ok (.istore 6, 2) := by decide +kernel
theorem dX3_isWithin_18 : decode cX3_isWithin 18 = .ok (.iload 6, 2) := by decide +kernel
theorem dX3_isWithin_20 : decode cX3_isWithin 20 = .ok (.bipush 12, 2) := by decide +kernel
theorem dX3_isWithin_22 : decode cX3_isWithin 22 = .ok (.if_icmp .ge 87, 3) := by decide +kernel
theorem dX3_isWithin_25 : decode cX3_isWithin 25 = .ok (.iconst 0, 1) := by decide +kernel
theorem dX3_isWithin_26 : decode cX3_isWithin 26 = .ok (.istore 7, 2) := by decide +kernel
theorem dX3_isWithin_28 : decode cX3_isWithin 28 = .ok (.iload 7, 2) := by decide +kernel
theorem dX3_isWithin_30 : decode cX3_isWithin 30 = .ok (.bipush 8, 2) := by decide +kernel
theorem dX3_isWithin_32 : decode cX3_isWithin 32 = .ok (.if_icmp .ge 71, 3) := by decide +kernel
theorem dX3_isWithin_35 : decode cX3_isWithin 35 = .ok (.aload_n 0, 1) := by decide +kernel
theorem dX3_isWithin_36 : decode cX3_isWithin 36 = .ok (.getfield 7, 3) := by decide +kernel
theorem dX3_isWithin_39 : decode cX3_isWithin 39 = .ok (.iload 6, 2) := by decide +kernel
theorem dX3_isWithin_41 : decode cX3_isWithin 41 = .ok (.iaload, 1) := by decide +kernel
theorem dX3_isWithin_42 : decode cX3_isWithin 42 = .ok (.iconst 1, 1) := by decide +kernel
theorem dX3_isWithin_43 : decode cX3_isWithin 43 = .ok (.if_icmp .ne 60, 3) := by decide +kernel
theorem dX3_isWithin_46 : decode cX3_isWithin 46 = .ok (.iload_n 3, 1) := by decide +kernel
theorem dX3_isWithin_47 : decode cX3_isWithin 47 = .ok (.iload 6, 2) := by decide +kernel
theorem dX3_isWithin_49 : decode cX3_isWithin 49 = .ok (.ishr, 1) := by decide +kernel
theorem dX3_isWithin_50 : decode cX3_isWithin 50 = .ok (.iconst 1, 1) := by decide +kernel
theorem dX3_isWithin_51 : decode cX3_isWithin 51 = .ok (.iand, 1) := by decide +kernel
theorem dX3_isWithin_52 : decode cX3_isWithin 52 = .ok (.iconst 1, 1) := by decide +kernel
theorem dX3_isWithin_53 : decode cX3_isWithin 53 = .ok (.if_icmp .ne 50, 3) := by decide +kernel
theorem dX3_isWithin_56 : decode cX3_isWithin 56 = .ok (.iload_n 3, 1) := by decide +kernel
theorem dX3_isWithin_57 : decode cX3_isWithin 57 = .ok (.aload_n 0, 1) := by decide +kernel
theorem dX3_isWithin_58 : decode cX3_isWithin 58 = .ok (.getfield 16, 3) := by decide +kernel
theorem dX3_isWithin_61 : decode cX3_isWithin 61 = .ok (.bipush 8, 2) := by decide +kernel
theorem dX3_isWithin_63 : decode cX3_isWithin 63 = .ok (.iload 6, 2) := by decide +kernel
theorem dX3_isWithin_65 : decode cX3_isWithin 65 = .ok (.imul, 1) := by decide +kernel
theorem dX3_isWithin_66 : decode cX3_isWithin 66 = .ok (.iload 7, 2) := by decide +kernel
theorem dX3_isWithin_68 : decode cX3_isWithin 68 = .ok (.iadd, 1) := by decide +kernel
theorem dX3_isWithin_69 : decode cX3_isWithin 69 = .ok (.iaload, 1) := by decide +kernel
theorem dX3_isWithin_70 : decode cX3_isWithin 70 = .ok (.ifCond .le 24, 3) := by decide +kernel
theorem dX3_isWithin_73 : decode cX3_isWithin 73 = .ok (.iconst 1, 1) := by decide +kernel
theorem dX3_isWithin_74 : decode cX3_isWithin 74 = .ok (.aload_n 0, 1) := by decide +kernel
theorem dX3_isWithin_75 : decode cX3_isWithin 75 = .ok (.getfield 16, 3) := by decide +kernel
theorem dX3_isWithin_78 : decode cX3_isWithin 78 = .ok (.bipush 8, 2) := by decide +kernel
theorem dX3_isWithin_80 : decode cX3_isWithin 80 = .ok (.iload 6, 2) := by decide +kernel
theorem dX3_isWithin_82 : decode cX3_isWithin 82 = .ok (.imul, 1) := by decide +kernel
theorem dX3_isWithin_83 : decode cX3_isWithin 83 = .ok (.iload 7, 2) := by decide +kernel
theorem dX3_isWithin_85 : decode cX3_isWithin 85 = .ok (.iadd, 1) := by decide +kernel
theorem dX3_isWithin_86 : decode cX3_isWithin 86 = .ok (.iaload, 1) := by decide +kernel
theorem dX3_isWithin_87 : decode cX3_isWithin 87 = .ok (.bipush 100, 2) := by decide +kernel
theorem dX3_isWithin_89 : decode cX3_isWithin 89 = .ok (.idiv, 1) := by decide +kernel
theorem dX3_isWithin_90 : decode cX3_isWithin 90 = .ok (.ishl, 1) := by decide +kernel
theorem dX3_isWithin_91 : decode cX3_isWithin 91 = .ok (.goto 4, 3) := by decide +kernel
theorem dX3_isWithin_94 : decode cX3_isWithin 94 = .ok (.iconst 0, 1) := by decide +kernel
theorem dX3_isWithin_95 : decode cX3_isWithin 95 = .ok (.ior, 1) := by decide +kernel
theorem dX3_isWithin_96 : decode cX3_isWithin 96 = .ok (.istore_n 3, 1) := by decide +kernel
theorem dX3_isWithin_97 : decode cX3_isWithin 97 = .ok (.iinc 7 1, 3) := by decide +kernel
theorem dX3_isWithin_100 : decode cX3_isWithin 100 = .ok (.goto (-72), 3) := by decide +kernel
theorem dX3_isWithin_103 : decode cX3_isWithin 103 = .ok (.iinc 6 1, 3) := by decide +kernel
theorem dX3_isWithin_106 : decode cX3_isWithin 106 = .ok (.goto (-88), 3) := by decide +kernel
theorem dX3_isWithin_109 : decode cX3_isWithin 109 = .ok (.iload_n 3, 1) := by decide +kernel
theorem dX3_isWithin_110 : decode cX3_isWithin 110 = .ok (.iload 5, 2) := by decide +kernel
theorem dX3_isWithin_112 : decode cX3_isWithin 112 = .ok (.if_icmp .eq 7, 3) := by decide +kernel
theorem dX3_isWithin_115 : decode cX3_isWithin 115 = .ok (.iconst 1, 1) := by decide +kernel
theorem dX3_isWithin_116 : decode cX3_isWithin 116 = .ok (.goto 4, 3) := by decide +kernel
theorem dX3_isWithin_119 : decode cX3_isWithin 119 = .ok (.iconst 0, 1) := by decide +kernel
theorem dX3_isWithin_120 : decode cX3_isWithin 120 = .ok (.istore 4, 2) := by decide +kernel
theorem dX3_isWithin_122 : decode cX3_isWithin 122 = .ok (.goto (-115), 3) := by decide +kernel
theorem dX3_isWithin_125 : decode cX3_isWithin 125 = .ok (.iload_n 3, 1) := by decide +kernel
theorem dX3_isWithin_126 : decode cX3_isWithin 126 = .ok (.iload_n 1, 1) := by decide +kernel
theorem dX3_isWithin_127 : decode cX3_isWithin 127 = .ok (.ishr, 1) := by decide +kernel
theorem dX3_isWithin_128 : decode cX3_isWithin 128 = .ok (.iconst 1, 1) := by decide +kernel
theorem dX3_isWithin_129 : decode cX3_isWithin 129 = .ok (.iand, 1) := by decide +kernel
theorem dX3_isWithin_130 : decode cX3_isWithin 130 = .ok (.iconst 1, 1) := by decide +kernel
theorem dX3_isWithin_131 : decode cX3_isWithin 131 = .ok (.if_icmp .ne 7, 3) := by decide +kernel
theorem dX3_isWithin_134 : decode cX3_isWithin 134 = .ok (.iconst 1, 1) := by decide +kernel
theorem dX3_isWithin_135 : decode cX3_isWithin 135 = .ok (.goto 4, 3) := by decide +kernel
theorem dX3_isWithin_138 : decode cX3_isWithin 138 = .ok (.iconst 0, 1) := by decide +kernel
theorem dX3_isWithin_139 : decode cX3_isWithin 139 = .ok (.ireturn, 1) := by decide +kernel
set_option maxRecDepth 20000 in
theorem ggX3_rename_X3_isInode : GoodIn wsX3_rename wsX3_isInode := goodIn_r _ [8, 9, 3, 10, 11, 7, 12, 39, 40, 41, 42, 43, 44, 45, 46, 47, 48, 49, 50, 51, 52, 53, 54] (by decide +kernel) (by decide +kernel)
set_option maxRecDepth 20000 in
theorem gX3_rename_X3_isInode : GoodIn wsX3_rename (wsV RX3 61 RX3 yX3_isInode wsX3_isInode) := goodIn_app (goodIn_of _ (by decide +kernel)) ggX3_rename_X3_isInode
set_option maxRecDepth 20000 in
theorem ggX3_rename_X3_isName : GoodIn wsX3_rename wsX3_isName := goodIn_r _ [15, 16, 10, 11, 7, 12] (by decide +kernel) (by decide +kernel)
set_option maxRecDepth 20000 in
theorem gX3_rename_X3_isName : GoodIn wsX3_rename (va_wsS RX3 65 yX3_isName wsX3_isName) := goodIn_app (goodIn_of _ (by decide +kernel)) ggX3_rename_X3_isName
set_option maxRecDepth 20000 in
theorem ggX3_rename_X3_entry : GoodIn wsX3_rename wsX3_entry := goodIn_r _ [20, 2, 39, 40, 41, 42, 43, 44, 45, 46, 47, 48, 49, 50, 51, 52, 53, 54] (by decide +kernel) (by decide +kernel)
set_option maxRecDepth 20000 in
theorem gX3_rename_X3_entry : GoodIn wsX3_rename (wsV RX3 70 RX3 yX3_entry wsX3_entry) := goodIn_app (goodIn_of _ (by decide +kernel)) ggX3_rename_X3_entry
set_option maxRecDepth 20000 in
theorem ggX3_rename_X3_noEntry : GoodIn wsX3_rename wsX3_noEntry := goodIn_r _ [24, 2, 39, 40, 41, 42, 43, 44, 45, 46, 47, 48, 49, 50, 51, 52, 53, 54] (by decide +kernel) (by decide +kernel)
set_option maxRecDepth 20000 in
theorem gX3_rename_X3_noEntry : GoodIn wsX3_rename (wsV RX3 74 RX3 yX3_noEntry wsX3_noEntry) := goodIn_app (goodIn_of _ (by decide +kernel)) ggX3_rename_X3_noEntry
set_option maxRecDepth 20000 in
theorem ggX3_rename_X3_isWithin : GoodIn wsX3_rename wsX3_isWithin := goodIn_r _ [28, 3, 2, 39, 40, 41, 42, 43, 44, 45, 46, 47, 48, 49, 50, 51, 52, 53, 54] (by decide +kernel) (by decide +kernel)
set_option maxRecDepth 20000 in
theorem gX3_rename_X3_isWithin : GoodIn wsX3_rename (wsV RX3 100 RX3 yX3_isWithin wsX3_isWithin) := goodIn_app (goodIn_of _ (by decide +kernel)) ggX3_rename_X3_isWithin
set_option maxRecDepth 20000 in
theorem ggX3_rename_X3_setPlace : GoodIn wsX3_rename wsX3_setPlace := goodIn_r _ [32, 2, 33, 34, 35, 7, 36, 1, 37, 38, 39, 40, 41, 42, 43, 44, 45, 46, 47, 48, 49, 50, 51, 52, 53, 54] (by decide +kernel) (by decide +kernel)
set_option maxRecDepth 20000 in
theorem gX3_rename_X3_setPlace : GoodIn wsX3_rename (wsV RX3 82 RX3 yX3_setPlace wsX3_setPlace) := goodIn_app (goodIn_of _ (by decide +kernel)) ggX3_rename_X3_setPlace
theorem dX3_rename_0 : decode cX3_rename 0 = .ok (.aload_n 0, 1) := by decide +kernel
theorem dX3_rename_1 : decode cX3_rename 1 = .ok (.iload_n 1, 1) := by decide +kernel
theorem dX3_rename_2 : decode cX3_rename 2 = .ok (.iconst 1, 1) := by decide +kernel
theorem dX3_rename_3 : decode cX3_rename 3 = .ok (.invokevirtual 61, 3) := by decide +kernel
theorem dX3_rename_6 : decode cX3_rename 6 = .ok (.ifCond .eq 27, 3) := by decide +kernel
theorem dX3_rename_9 : decode cX3_rename 9 = .ok (.iload_n 2, 1) := by decide +kernel
theorem dX3_rename_10 : decode cX3_rename 10 = .ok (.invokestatic 65, 3) := by decide +kernel
theorem dX3_rename_13 : decode cX3_rename 13 = .ok (.ifCond .eq 20, 3) := by decide +kernel
theorem dX3_rename_16 : decode cX3_rename 16 = .ok (.aload_n 0, 1) := by decide +kernel
theorem dX3_rename_17 : decode cX3_rename 17 = .ok (.iload_n 3, 1) := by decide +kernel
theorem dX3_rename_18 : decode cX3_rename 18 = .ok (.iconst 1, 1) := by decide +kernel
theorem dX3_rename_19 : decode cX3_rename 19 = .ok (.invokevirtual 61, 3) := by decide +kernel
theorem dX3_rename_22 : decode cX3_rename 22 = .ok (.ifCond .eq 11, 3) := by decide +kernel
theorem dX3_rename_25 : decode cX3_rename 25 = .ok (.iload 4, 2) := by decide +kernel
theorem dX3_rename_27 : decode cX3_rename 27 = .ok (.invokestatic 65, 3) := by decide +kernel
theorem dX3_rename_30 : decode cX3_rename 30 = .ok (.ifCond .ne 5, 3) := by decide +kernel
theorem dX3_rename_33 : decode cX3_rename 33 = .ok (.iconst (-1), 1) := by decide +kernel
theorem dX3_rename_34 : decode cX3_rename 34 = .ok (.ireturn, 1) := by decide +kernel
theorem dX3_rename_35 : decode cX3_rename 35 = .ok (.aload_n 0, 1) := by decide +kernel
theorem dX3_rename_36 : decode cX3_rename 36 = .ok (.getfield 36, 3) := by decide +kernel
theorem dX3_rename_39 : decode cX3_rename 39 = .ok (.ifCond .eq 6, 3) := by decide +kernel
theorem dX3_rename_42 : decode cX3_rename 42 = .ok (.bipush (-2), 2) := by decide +kernel
theorem dX3_rename_44 : decode cX3_rename 44 = .ok (.ireturn, 1) := by decide +kernel
theorem dX3_rename_45 : decode cX3_rename 45 = .ok (.aload_n 0, 1) := by decide +kernel
theorem dX3_rename_46 : decode cX3_rename 46 = .ok (.iload_n 1, 1) := by decide +kernel
theorem dX3_rename_47 : decode cX3_rename 47 = .ok (.iload_n 2, 1) := by decide +kernel
theorem dX3_rename_48 : decode cX3_rename 48 = .ok (.invokevirtual 70, 3) := by decide +kernel
theorem dX3_rename_51 : decode cX3_rename 51 = .ok (.istore 5, 2) := by decide +kernel
theorem dX3_rename_53 : decode cX3_rename 53 = .ok (.iload 5, 2) := by decide +kernel
theorem dX3_rename_55 : decode cX3_rename 55 = .ok (.ifCond .ge 6, 3) := by decide +kernel
theorem dX3_rename_58 : decode cX3_rename 58 = .ok (.bipush (-3), 2) := by decide +kernel
theorem dX3_rename_60 : decode cX3_rename 60 = .ok (.ireturn, 1) := by decide +kernel
theorem dX3_rename_61 : decode cX3_rename 61 = .ok (.aload_n 0, 1) := by decide +kernel
theorem dX3_rename_62 : decode cX3_rename 62 = .ok (.iload_n 3, 1) := by decide +kernel
theorem dX3_rename_63 : decode cX3_rename 63 = .ok (.iload 4, 2) := by decide +kernel
theorem dX3_rename_65 : decode cX3_rename 65 = .ok (.invokevirtual 70, 3) := by decide +kernel
theorem dX3_rename_68 : decode cX3_rename 68 = .ok (.ifCond .lt 6, 3) := by decide +kernel
theorem dX3_rename_71 : decode cX3_rename 71 = .ok (.bipush (-4), 2) := by decide +kernel
theorem dX3_rename_73 : decode cX3_rename 73 = .ok (.ireturn, 1) := by decide +kernel
theorem dX3_rename_74 : decode cX3_rename 74 = .ok (.aload_n 0, 1) := by decide +kernel
theorem dX3_rename_75 : decode cX3_rename 75 = .ok (.iload_n 3, 1) := by decide +kernel
theorem dX3_rename_76 : decode cX3_rename 76 = .ok (.invokevirtual 74, 3) := by decide +kernel
theorem dX3_rename_79 : decode cX3_rename 79 = .ok (.istore 6, 2) := by decide +kernel
theorem dX3_rename_81 : decode cX3_rename 81 = .ok (.iload 6, 2) := by decide +kernel
theorem dX3_rename_83 : decode cX3_rename 83 = .ok (.ifCond .ge 6, 3) := by decide +kernel
theorem dX3_rename_86 : decode cX3_rename 86 = .ok (.bipush (-5), 2) := by decide +kernel
theorem dX3_rename_88 : decode cX3_rename 88 = .ok (.ireturn, 1) := by decide +kernel
theorem dX3_rename_89 : decode cX3_rename 89 = .ok (.aload_n 0, 1) := by decide +kernel
theorem dX3_rename_90 : decode cX3_rename 90 = .ok (.getfield 16, 3) := by decide +kernel
theorem dX3_rename_93 : decode cX3_rename 93 = .ok (.bipush 8, 2) := by decide +kernel
theorem dX3_rename_95 : decode cX3_rename 95 = .ok (.iload_n 1, 1) := by decide +kernel
theorem dX3_rename_96 : decode cX3_rename 96 = .ok (.imul, 1) := by decide +kernel
theorem dX3_rename_97 : decode cX3_rename 97 = .ok (.iload 5, 2) := by decide +kernel
theorem dX3_rename_99 : decode cX3_rename 99 = .ok (.iadd, 1) := by decide +kernel
theorem dX3_rename_100 : decode cX3_rename 100 = .ok (.iaload, 1) := by decide +kernel
theorem dX3_rename_101 : decode cX3_rename 101 = .ok (.bipush 100, 2) := by decide +kernel
theorem dX3_rename_103 : decode cX3_rename 103 = .ok (.idiv, 1) := by decide +kernel
theorem dX3_rename_104 : decode cX3_rename 104 = .ok (.istore 7, 2) := by decide +kernel
theorem dX3_rename_106 : decode cX3_rename 106 = .ok (.aload_n 0, 1) := by decide +kernel
theorem dX3_rename_107 : decode cX3_rename 107 = .ok (.getfield 7, 3) := by decide +kernel
theorem dX3_rename_110 : decode cX3_rename 110 = .ok (.iload 7, 2) := by decide +kernel
theorem dX3_rename_112 : decode cX3_rename 112 = .ok (.iaload, 1) := by decide +kernel
theorem dX3_rename_113 : decode cX3_rename 113 = .ok (.iconst 1, 1) := by decide +kernel
theorem dX3_rename_114 : decode cX3_rename 114 = .ok (.if_icmp .ne 16, 3) := by decide +kernel
theorem dX3_rename_117 : decode cX3_rename 117 = .ok (.aload_n 0, 1) := by decide +kernel
theorem dX3_rename_118 : decode cX3_rename 118 = .ok (.iload_n 3, 1) := by decide +kernel
theorem dX3_rename_119 : decode cX3_rename 119 = .ok (.iload 7, 2) := by decide +kernel
theorem dX3_rename_121 : decode cX3_rename 121 = .ok (.invokevirtual 100, 3) := by decide +kernel
theorem dX3_rename_124 : decode cX3_rename 124 = .ok (.ifCond .eq 6, 3) := by decide +kernel
theorem dX3_rename_127 : decode cX3_rename 127 = .ok (.bipush (-6), 2) := by decide +kernel
theorem dX3_rename_129 : decode cX3_rename 129 = .ok (.ireturn, 1) := by decide +kernel
theorem dX3_rename_130 : decode cX3_rename 130 = .ok (.aload_n 0, 1) := by decide +kernel
theorem dX3_rename_131 : decode cX3_rename 131 = .ok (.iload_n 3, 1) := by decide +kernel
theorem dX3_rename_132 : decode cX3_rename 132 = .ok (.iload 6, 2) := by decide +kernel
theorem dX3_rename_134 : decode cX3_rename 134 = .ok (.bipush 100, 2) := by decide +kernel
theorem dX3_rename_136 : decode cX3_rename 136 = .ok (.iload 7, 2) := by decide +kernel
theorem dX3_rename_138 : decode cX3_rename 138 = .ok (.imul, 1) := by decide +kernel
theorem dX3_rename_139 : decode cX3_rename 139 = .ok (.iload 4, 2) := by decide +kernel
theorem dX3_rename_141 : decode cX3_rename 141 = .ok (.iadd, 1) := by decide +kernel
theorem dX3_rename_142 : decode cX3_rename 142 = .ok (.invokevirtual 82, 3) := by decide +kernel
theorem dX3_rename_145 : decode cX3_rename 145 = .ok (.aload_n 0, 1) := by decide +kernel
theorem dX3_rename_146 : decode cX3_rename 146 = .ok (.iload_n 1, 1) := by decide +kernel
theorem dX3_rename_147 : decode cX3_rename 147 = .ok (.iload 5, 2) := by decide +kernel
theorem dX3_rename_149 : decode cX3_rename 149 = .ok (.iconst 0, 1) := by decide +kernel
theorem dX3_rename_150 : decode cX3_rename 150 = .ok (.invokevirtual 82, 3) := by decide +kernel
theorem dX3_rename_153 : decode cX3_rename 153 = .ok (.aload_n 0, 1) := by decide +kernel
theorem dX3_rename_154 : decode cX3_rename 154 = .ok (.getfield 36, 3) := by decide +kernel
theorem dX3_rename_157 : decode cX3_rename 157 = .ok (.ifCond .eq 8, 3) := by decide +kernel
theorem dX3_rename_160 : decode cX3_rename 160 = .ok (.bipush (-2), 2) := by decide +kernel
theorem dX3_rename_162 : decode cX3_rename 162 = .ok (.goto 5, 3) := by decide +kernel
theorem dX3_rename_165 : decode cX3_rename 165 = .ok (.iload 7, 2) := by decide +kernel
theorem dX3_rename_167 : decode cX3_rename 167 = .ok (.ireturn, 1) := by decide +kernel
set_option maxRecDepth 20000 in
theorem ggX3_look_X3_lookAt : GoodIn wsX3_look wsX3_lookAt := goodIn_r _ [8, 9, 10, 11, 1, 2, 3, 12, 13, 14, 15, 7, 16, 17, 18, 19, 20, 21, 22, 23, 24, 25, 26, 27, 28, 29, 30, 31, 32, 33, 34, 35, 36] (by decide +kernel) (by decide +kernel)
set_option maxRecDepth 20000 in
theorem gX3_look_X3_lookAt : GoodIn wsX3_look (wsV RX3 103 RX3 yX3_lookAt wsX3_lookAt) := goodIn_app (goodIn_of _ (by decide +kernel)) ggX3_look_X3_lookAt
theorem dX3_look_0 : decode cX3_look 0 = .ok (.iconst 0, 1) := by decide +kernel
theorem dX3_look_1 : decode cX3_look 1 = .ok (.istore_n 1, 1) := by decide +kernel
theorem dX3_look_2 : decode cX3_look 2 = .ok (.iconst 0, 1) := by decide +kernel
theorem dX3_look_3 : decode cX3_look 3 = .ok (.istore_n 2, 1) := by decide +kernel
theorem dX3_look_4 : decode cX3_look 4 = .ok (.iload_n 2, 1) := by decide +kernel
theorem dX3_look_5 : decode cX3_look 5 = .ok (.bipush 12, 2) := by decide +kernel
theorem dX3_look_7 : decode cX3_look 7 = .ok (.if_icmp .ge 63, 3) := by decide +kernel
theorem dX3_look_10 : decode cX3_look 10 = .ok (.iconst 0, 1) := by decide +kernel
theorem dX3_look_11 : decode cX3_look 11 = .ok (.istore_n 3, 1) := by decide +kernel
theorem dX3_look_12 : decode cX3_look 12 = .ok (.aload_n 0, 1) := by decide +kernel
theorem dX3_look_13 : decode cX3_look 13 = .ok (.getfield 7, 3) := by decide +kernel
theorem dX3_look_16 : decode cX3_look 16 = .ok (.iload_n 2, 1) := by decide +kernel
theorem dX3_look_17 : decode cX3_look 17 = .ok (.iaload, 1) := by decide +kernel
theorem dX3_look_18 : decode cX3_look 18 = .ok (.iconst 2, 1) := by decide +kernel
theorem dX3_look_19 : decode cX3_look 19 = .ok (.if_icmp .ne 45, 3) := by decide +kernel
theorem dX3_look_22 : decode cX3_look 22 = .ok (.iload_n 3, 1) := by decide +kernel
theorem dX3_look_23 : decode cX3_look 23 = .ok (.aload_n 0, 1) := by decide +kernel
theorem dX3_look_24 : decode cX3_look 24 = .ok (.getfield 13, 3) := by decide +kernel
theorem dX3_look_27 : decode cX3_look 27 = .ok (.iload_n 2, 1) := by decide +kernel
theorem dX3_look_28 : decode cX3_look 28 = .ok (.iaload, 1) := by decide +kernel
theorem dX3_look_29 : decode cX3_look 29 = .ok (.if_icmp .ge 35, 3) := by decide +kernel
theorem dX3_look_32 : decode cX3_look 32 = .ok (.aload_n 0, 1) := by decide +kernel
theorem dX3_look_33 : decode cX3_look 33 = .ok (.getfield 16, 3) := by decide +kernel
theorem dX3_look_36 : decode cX3_look 36 = .ok (.bipush 8, 2) := by decide +kernel
theorem dX3_look_38 : decode cX3_look 38 = .ok (.iload_n 2, 1) := by decide +kernel
theorem dX3_look_39 : decode cX3_look 39 = .ok (.imul, 1) := by decide +kernel
theorem dX3_look_40 : decode cX3_look 40 = .ok (.iload_n 3, 1) := by decide +kernel
theorem dX3_look_41 : decode cX3_look 41 = .ok (.iadd, 1) := by decide +kernel
theorem dX3_look_42 : decode cX3_look 42 = .ok (.iaload, 1) := by decide +kernel
theorem dX3_look_43 : decode cX3_look 43 = .ok (.iload_n 1, 1) := by decide +kernel
theorem dX3_look_44 : decode cX3_look 44 = .ok (.if_icmp .eq 11, 3) := by decide +kernel
theorem dX3_look_47 : decode cX3_look 47 = .ok (.aload_n 0, 1) := by decide +kernel
theorem dX3_look_48 : decode cX3_look 48 = .ok (.iload_n 2, 1) := by decide +kernel
theorem dX3_look_49 : decode cX3_look 49 = .ok (.iload_n 3, 1) := by decide +kernel
theorem dX3_look_50 : decode cX3_look 50 = .ok (.iload_n 1, 1) := by decide +kernel
theorem dX3_look_51 : decode cX3_look 51 = .ok (.invokevirtual 103, 3) := by decide +kernel
theorem dX3_look_54 : decode cX3_look 54 = .ok (.ireturn, 1) := by decide +kernel
theorem dX3_look_55 : decode cX3_look 55 = .ok (.iinc 1 1, 3) := by decide +kernel
theorem dX3_look_58 : decode cX3_look 58 = .ok (.iinc 3 1, 3) := by decide +kernel
theorem dX3_look_61 : decode cX3_look 61 = .ok (.goto (-49), 3) := by decide +kernel
theorem dX3_look_64 : decode cX3_look 64 = .ok (.iinc 2 1, 3) := by decide +kernel
theorem dX3_look_67 : decode cX3_look 67 = .ok (.goto (-63), 3) := by decide +kernel
theorem dX3_look_70 : decode cX3_look 70 = .ok (.iconst 0, 1) := by decide +kernel
theorem dX3_look_71 : decode cX3_look 71 = .ok (.ireturn, 1) := by decide +kernel
set_option maxRecDepth 20000 in
theorem ggX3_lookAt_X3_isUsed : GoodIn wsX3_lookAt wsX3_isUsed := goodIn_r _ [12, 4, 5, 6, 17, 18, 19, 20, 21, 22, 23, 24, 25, 26, 27, 28, 29, 30, 31, 32] (by decide +kernel) (by decide +kernel)
set_option maxRecDepth 20000 in
theorem gX3_lookAt_X3_isUsed : GoodIn wsX3_lookAt (wsV RX3 57 RX3 yX3_isUsed wsX3_isUsed) := goodIn_app (goodIn_of _ (by decide +kernel)) ggX3_lookAt_X3_isUsed
set_option maxRecDepth 20000 in
theorem ggX3_lookAt_X3_greatestFree : GoodIn wsX3_lookAt wsX3_greatestFree := goodIn_r _ [16, 8, 9, 10, 11, 12, 4, 5, 6, 17, 18, 19, 20, 21, 22, 23, 24, 25, 26, 27, 28, 29, 30, 31, 32] (by decide +kernel) (by decide +kernel)
set_option maxRecDepth 20000 in
theorem gX3_lookAt_X3_greatestFree : GoodIn wsX3_lookAt (wsV RX3 116 RX3 yX3_greatestFree wsX3_greatestFree) := goodIn_app (goodIn_of _ (by decide +kernel)) ggX3_lookAt_X3_greatestFree
theorem dX3_lookAt_0 : decode cX3_lookAt 0 = .ok (.aload_n 0, 1) := by decide +kernel
theorem dX3_lookAt_1 : decode cX3_lookAt 1 = .ok (.iload_n 1, 1) := by decide +kernel
theorem dX3_lookAt_2 : decode cX3_lookAt 2 = .ok (.putfield 107, 3) := by decide +kernel
theorem dX3_lookAt_5 : decode cX3_lookAt 5 = .ok (.aload_n 0, 1) := by decide +kernel
theorem dX3_lookAt_6 : decode cX3_lookAt 6 = .ok (.iload_n 2, 1) := by decide +kernel
theorem dX3_lookAt_7 : decode cX3_lookAt 7 = .ok (.putfield 110, 3) := by decide +kernel
theorem dX3_lookAt_10 : decode cX3_lookAt 10 = .ok (.aload_n 0, 1) := by decide +kernel
theorem dX3_lookAt_11 : decode cX3_lookAt 11 = .ok (.iload_n 3, 1) := by decide +kernel
theorem dX3_lookAt_12 : decode cX3_lookAt 12 = .ok (.putfield 113, 3) := by decide +kernel
theorem dX3_lookAt_15 : decode cX3_lookAt 15 = .ok (.aload_n 0, 1) := by decide +kernel
theorem dX3_lookAt_16 : decode cX3_lookAt 16 = .ok (.iload_n 3, 1) := by decide +kernel
theorem dX3_lookAt_17 : decode cX3_lookAt 17 = .ok (.invokevirtual 57, 3) := by decide +kernel
theorem dX3_lookAt_20 : decode cX3_lookAt 20 = .ok (.ifCond .eq 93, 3) := by decide +kernel
theorem dX3_lookAt_23 : decode cX3_lookAt 23 = .ok (.aload_n 0, 1) := by decide +kernel
theorem dX3_lookAt_24 : decode cX3_lookAt 24 = .ok (.aload_n 0, 1) := by decide +kernel
theorem dX3_lookAt_25 : decode cX3_lookAt 25 = .ok (.invokevirtual 116, 3) := by decide +kernel
theorem dX3_lookAt_28 : decode cX3_lookAt 28 = .ok (.putfield 113, 3) := by decide +kernel
theorem dX3_lookAt_31 : decode cX3_lookAt 31 = .ok (.bipush 11, 2) := by decide +kernel
theorem dX3_lookAt_33 : decode cX3_lookAt 33 = .ok (.istore 4, 2) := by decide +kernel
theorem dX3_lookAt_35 : decode cX3_lookAt 35 = .ok (.iload 4, 2) := by decide +kernel
theorem dX3_lookAt_37 : decode cX3_lookAt 37 = .ok (.ifCond .lt 76, 3) := by decide +kernel
theorem dX3_lookAt_40 : decode cX3_lookAt 40 = .ok (.bipush 7, 2) := by decide +kernel
theorem dX3_lookAt_42 : decode cX3_lookAt 42 = .ok (.istore 5, 2) := by decide +kernel
theorem dX3_lookAt_44 : decode cX3_lookAt 44 = .ok (.iload 5, 2) := by decide +kernel
theorem dX3_lookAt_46 : decode cX3_lookAt 46 = .ok (.ifCond .lt 61, 3) := by decide +kernel
theorem dX3_lookAt_49 : decode cX3_lookAt 49 = .ok (.aload_n 0, 1) := by decide +kernel
theorem dX3_lookAt_50 : decode cX3_lookAt 50 = .ok (.getfield 7, 3) := by decide +kernel
theorem dX3_lookAt_53 : decode cX3_lookAt 53 = .ok (.iload 4, 2) := by decide +kernel
theorem dX3_lookAt_55 : decode cX3_lookAt 55 = .ok (.iaload, 1) := by decide +kernel
theorem dX3_lookAt_56 : decode cX3_lookAt 56 = .ok (.iconst 2, 1) := by decide +kernel
theorem dX3_lookAt_57 : decode cX3_lookAt 57 = .ok (.if_icmp .ne 44, 3) := by decide +kernel
theorem dX3_lookAt_60 : decode cX3_lookAt 60 = .ok (.iload 5, 2) := by decide +kernel
theorem dX3_lookAt_62 : decode cX3_lookAt 62 = .ok (.aload_n 0, 1) := by decide +kernel
theorem dX3_lookAt_63 : decode cX3_lookAt 63 = .ok (.getfield 13, 3) := by decide +kernel
theorem dX3_lookAt_66 : decode cX3_lookAt 66 = .ok (.iload 4, 2) := by decide +kernel
theorem dX3_lookAt_68 : decode cX3_lookAt 68 = .ok (.iaload, 1) := by decide +kernel
theorem dX3_lookAt_69 : decode cX3_lookAt 69 = .ok (.if_icmp .ge 32, 3) := by decide +kernel
theorem dX3_lookAt_72 : decode cX3_lookAt 72 = .ok (.aload_n 0, 1) := by decide +kernel
theorem dX3_lookAt_73 : decode cX3_lookAt 73 = .ok (.getfield 16, 3) := by decide +kernel
theorem dX3_lookAt_76 : decode cX3_lookAt 76 = .ok (.bipush 8, 2) := by decide +kernel
theorem dX3_lookAt_78 : decode cX3_lookAt 78 = .ok (.iload 4, 2) := by decide +kernel
theorem dX3_lookAt_80 : decode cX3_lookAt 80 = .ok (.imul, 1) := by decide +kernel
theorem dX3_lookAt_81 : decode cX3_lookAt 81 = .ok (.iload 5, 2) := by decide +kernel
theorem dX3_lookAt_83 : decode cX3_lookAt 83 = .ok (.iadd, 1) := by decide +kernel
theorem dX3_lookAt_84 : decode cX3_lookAt 84 = .ok (.iaload, 1) := by decide +kernel
theorem dX3_lookAt_85 : decode cX3_lookAt 85 = .ok (.iload_n 3, 1) := by decide +kernel
theorem dX3_lookAt_86 : decode cX3_lookAt 86 = .ok (.if_icmp .ne 15, 3) := by decide +kernel
theorem dX3_lookAt_89 : decode cX3_lookAt 89 = .ok (.aload_n 0, 1) := by decide +kernel
theorem dX3_lookAt_90 : decode cX3_lookAt 90 = .ok (.iload 4, 2) := by decide +kernel
theorem dX3_lookAt_92 : decode cX3_lookAt 92 = .ok (.putfield 107, 3) := by decide +kernel
theorem dX3_lookAt_95 : decode cX3_lookAt 95 = .ok (.aload_n 0, 1) := by decide +kernel
theorem dX3_lookAt_96 : decode cX3_lookAt 96 = .ok (.iload 5, 2) := by decide +kernel
theorem dX3_lookAt_98 : decode cX3_lookAt 98 = .ok (.putfield 110, 3) := by decide +kernel
theorem dX3_lookAt_101 : decode cX3_lookAt 101 = .ok (.iinc 5 (-1), 3) := by decide +kernel
theorem dX3_lookAt_104 : decode cX3_lookAt 104 = .ok (.goto (-60), 3) := by decide +kernel
theorem dX3_lookAt_107 : decode cX3_lookAt 107 = .ok (.iinc 4 (-1), 3) := by decide +kernel
theorem dX3_lookAt_110 : decode cX3_lookAt 110 = .ok (.goto (-75), 3) := by decide +kernel
theorem dX3_lookAt_113 : decode cX3_lookAt 113 = .ok (.aload_n 0, 1) := by decide +kernel
theorem dX3_lookAt_114 : decode cX3_lookAt 114 = .ok (.aload_n 0, 1) := by decide +kernel
theorem dX3_lookAt_115 : decode cX3_lookAt 115 = .ok (.getfield 16, 3) := by decide +kernel
theorem dX3_lookAt_118 : decode cX3_lookAt 118 = .ok (.bipush 8, 2) := by decide +kernel
theorem dX3_lookAt_120 : decode cX3_lookAt 120 = .ok (.aload_n 0, 1) := by decide +kernel
theorem dX3_lookAt_121 : decode cX3_lookAt 121 = .ok (.getfield 107, 3) := by decide +kernel
theorem dX3_lookAt_124 : decode cX3_lookAt 124 = .ok (.imul, 1) := by decide +kernel
theorem dX3_lookAt_125 : decode cX3_lookAt 125 = .ok (.aload_n 0, 1) := by decide +kernel
theorem dX3_lookAt_126 : decode cX3_lookAt 126 = .ok (.getfield 110, 3) := by decide +kernel
theorem dX3_lookAt_129 : decode cX3_lookAt 129 = .ok (.iadd, 1) := by decide +kernel
theorem dX3_lookAt_130 : decode cX3_lookAt 130 = .ok (.iaload, 1) := by decide +kernel
theorem dX3_lookAt_131 : decode cX3_lookAt 131 = .ok (.putfield 119, 3) := by decide +kernel
theorem dX3_lookAt_134 : decode cX3_lookAt 134 = .ok (.aload_n 0, 1) := by decide +kernel
theorem dX3_lookAt_135 : decode cX3_lookAt 135 = .ok (.getfield 113, 3) := by decide +kernel
theorem dX3_lookAt_138 : decode cX3_lookAt 138 = .ok (.ifCond .ge 8, 3) := by decide +kernel
theorem dX3_lookAt_141 : decode cX3_lookAt 141 = .ok (.bipush (-5), 2) := by decide +kernel
theorem dX3_lookAt_143 : decode cX3_lookAt 143 = .ok (.goto 4, 3) := by decide +kernel
theorem dX3_lookAt_146 : decode cX3_lookAt 146 = .ok (.iconst 1, 1) := by decide +kernel
theorem dX3_lookAt_147 : decode cX3_lookAt 147 = .ok (.ireturn, 1) := by decide +kernel
set_option maxRecDepth 20000 in
theorem ggX3_move_X3_setRecord : GoodIn wsX3_move wsX3_setRecord := goodIn_r _ [13, 2, 14, 15, 16, 12, 17, 8, 18, 19, 28, 29, 30, 31, 32, 33, 34, 35, 36, 37, 38, 39, 40, 41, 42, 43] (by decide +kernel) (by decide +kernel)
set_option maxRecDepth 20000 in
theorem gX3_move_X3_setRecord : GoodIn wsX3_move (wsV RX3 122 RX3 yX3_setRecord wsX3_setRecord) := goodIn_app (goodIn_of _ (by decide +kernel)) ggX3_move_X3_setRecord
set_option maxRecDepth 20000 in
theorem ggX3_move_X3_setData : GoodIn wsX3_move wsX3_setData := goodIn_r _ [23, 6, 14, 15, 16, 12, 17, 8, 18, 19, 28, 29, 30, 31, 32, 33, 34, 35, 36, 37, 38, 39, 40, 41, 42, 43] (by decide +kernel) (by decide +kernel)
set_option maxRecDepth 20000 in
theorem gX3_move_X3_setData : GoodIn wsX3_move (wsV RX3 93 RX3 yX3_setData wsX3_setData) := goodIn_app (goodIn_of _ (by decide +kernel)) ggX3_move_X3_setData
set_option maxRecDepth 20000 in
theorem ggX3_move_X3_setPlace : GoodIn wsX3_move wsX3_setPlace := goodIn_r _ [27, 5, 14, 15, 16, 12, 17, 8, 18, 19, 28, 29, 30, 31, 32, 33, 34, 35, 36, 37, 38, 39, 40, 41, 42, 43] (by decide +kernel) (by decide +kernel)
set_option maxRecDepth 20000 in
theorem gX3_move_X3_setPlace : GoodIn wsX3_move (wsV RX3 82 RX3 yX3_setPlace wsX3_setPlace) := goodIn_app (goodIn_of _ (by decide +kernel)) ggX3_move_X3_setPlace
theorem dX3_move_0 : decode cX3_move 0 = .ok (.iload_n 1, 1) := by decide +kernel
theorem dX3_move_1 : decode cX3_move 1 = .ok (.ifCond .ne 10, 3) := by decide +kernel
theorem dX3_move_4 : decode cX3_move 4 = .ok (.aload_n 0, 1) := by decide +kernel
theorem dX3_move_5 : decode cX3_move 5 = .ok (.getfield 107, 3) := by decide +kernel
theorem dX3_move_8 : decode cX3_move 8 = .ok (.goto 9, 3) := by decide +kernel
theorem dX3_move_11 : decode cX3_move 11 = .ok (.aload_n 0, 1) := by decide +kernel
theorem dX3_move_12 : decode cX3_move 12 = .ok (.getfield 23, 3) := by decide +kernel
theorem dX3_move_15 : decode cX3_move 15 = .ok (.iconst 1, 1) := by decide +kernel
theorem dX3_move_16 : decode cX3_move 16 = .ok (.iaload, 1) := by decide +kernel
theorem dX3_move_17 : decode cX3_move 17 = .ok (.istore_n 2, 1) := by decide +kernel
theorem dX3_move_18 : decode cX3_move 18 = .ok (.iload_n 1, 1) := by decide +kernel
theorem dX3_move_19 : decode cX3_move 19 = .ok (.ifCond .ne 10, 3) := by decide +kernel
theorem dX3_move_22 : decode cX3_move 22 = .ok (.aload_n 0, 1) := by decide +kernel
theorem dX3_move_23 : decode cX3_move 23 = .ok (.getfield 110, 3) := by decide +kernel
theorem dX3_move_26 : decode cX3_move 26 = .ok (.goto 9, 3) := by decide +kernel
theorem dX3_move_29 : decode cX3_move 29 = .ok (.aload_n 0, 1) := by decide +kernel
theorem dX3_move_30 : decode cX3_move 30 = .ok (.getfield 23, 3) := by decide +kernel
theorem dX3_move_33 : decode cX3_move 33 = .ok (.iconst 2, 1) := by decide +kernel
theorem dX3_move_34 : decode cX3_move 34 = .ok (.iaload, 1) := by decide +kernel
theorem dX3_move_35 : decode cX3_move 35 = .ok (.istore_n 3, 1) := by decide +kernel
theorem dX3_move_36 : decode cX3_move 36 = .ok (.iload_n 1, 1) := by decide +kernel
theorem dX3_move_37 : decode cX3_move 37 = .ok (.ifCond .ne 10, 3) := by decide +kernel
theorem dX3_move_40 : decode cX3_move 40 = .ok (.aload_n 0, 1) := by decide +kernel
theorem dX3_move_41 : decode cX3_move 41 = .ok (.getfield 113, 3) := by decide +kernel
theorem dX3_move_44 : decode cX3_move 44 = .ok (.goto 9, 3) := by decide +kernel
theorem dX3_move_47 : decode cX3_move 47 = .ok (.aload_n 0, 1) := by decide +kernel
theorem dX3_move_48 : decode cX3_move 48 = .ok (.getfield 23, 3) := by decide +kernel
theorem dX3_move_51 : decode cX3_move 51 = .ok (.iconst 3, 1) := by decide +kernel
theorem dX3_move_52 : decode cX3_move 52 = .ok (.iaload, 1) := by decide +kernel
theorem dX3_move_53 : decode cX3_move 53 = .ok (.istore 4, 2) := by decide +kernel
theorem dX3_move_55 : decode cX3_move 55 = .ok (.iload_n 1, 1) := by decide +kernel
theorem dX3_move_56 : decode cX3_move 56 = .ok (.ifCond .ne 28, 3) := by decide +kernel
theorem dX3_move_59 : decode cX3_move 59 = .ok (.aload_n 0, 1) := by decide +kernel
theorem dX3_move_60 : decode cX3_move 60 = .ok (.iconst 1, 1) := by decide +kernel
theorem dX3_move_61 : decode cX3_move 61 = .ok (.iload_n 2, 1) := by decide +kernel
theorem dX3_move_62 : decode cX3_move 62 = .ok (.invokevirtual 122, 3) := by decide +kernel
theorem dX3_move_65 : decode cX3_move 65 = .ok (.aload_n 0, 1) := by decide +kernel
theorem dX3_move_66 : decode cX3_move 66 = .ok (.iconst 2, 1) := by decide +kernel
theorem dX3_move_67 : decode cX3_move 67 = .ok (.iload_n 3, 1) := by decide +kernel
theorem dX3_move_68 : decode cX3_move 68 = .ok (.invokevirtual 122, 3) := by decide +kernel
theorem dX3_move_71 : decode cX3_move 71 = .ok (.aload_n 0, 1) := by decide +kernel
theorem dX3_move_72 : decode cX3_move 72 = .ok (.iconst 3, 1) := by decide +kernel
theorem dX3_move_73 : decode cX3_move 73 = .ok (.iload 4, 2) := by decide +kernel
theorem dX3_move_75 : decode cX3_move 75 = .ok (.invokevirtual 122, 3) := by decide +kernel
theorem dX3_move_78 : decode cX3_move 78 = .ok (.aload_n 0, 1) := by decide +kernel
theorem dX3_move_79 : decode cX3_move 79 = .ok (.iconst 0, 1) := by decide +kernel
theorem dX3_move_80 : decode cX3_move 80 = .ok (.iconst 1, 1) := by decide +kernel
theorem dX3_move_81 : decode cX3_move 81 = .ok (.invokevirtual 122, 3) := by decide +kernel
theorem dX3_move_84 : decode cX3_move 84 = .ok (.iload_n 1, 1) := by decide +kernel
theorem dX3_move_85 : decode cX3_move 85 = .ok (.iconst 2, 1) := by decide +kernel
theorem dX3_move_86 : decode cX3_move 86 = .ok (.if_icmp .ge 57, 3) := by decide +kernel
theorem dX3_move_89 : decode cX3_move 89 = .ok (.aload_n 0, 1) := by decide +kernel
theorem dX3_move_90 : decode cX3_move 90 = .ok (.getfield 16, 3) := by decide +kernel
theorem dX3_move_93 : decode cX3_move 93 = .ok (.bipush 8, 2) := by decide +kernel
theorem dX3_move_95 : decode cX3_move 95 = .ok (.iload_n 2, 1) := by decide +kernel
theorem dX3_move_96 : decode cX3_move 96 = .ok (.imul, 1) := by decide +kernel
theorem dX3_move_97 : decode cX3_move 97 = .ok (.iload_n 3, 1) := by decide +kernel
theorem dX3_move_98 : decode cX3_move 98 = .ok (.iadd, 1) := by decide +kernel
theorem dX3_move_99 : decode cX3_move 99 = .ok (.iaload, 1) := by decide +kernel
theorem dX3_move_100 : decode cX3_move 100 = .ok (.istore 5, 2) := by decide +kernel
theorem dX3_move_102 : decode cX3_move 102 = .ok (.iconst 0, 1) := by decide +kernel
theorem dX3_move_103 : decode cX3_move 103 = .ok (.istore 6, 2) := by decide +kernel
theorem dX3_move_105 : decode cX3_move 105 = .ok (.iload 6, 2) := by decide +kernel
theorem dX3_move_107 : decode cX3_move 107 = .ok (.iconst 3, 1) := by decide +kernel
theorem dX3_move_108 : decode cX3_move 108 = .ok (.if_icmp .ge 29, 3) := by decide +kernel
theorem dX3_move_111 : decode cX3_move 111 = .ok (.aload_n 0, 1) := by decide +kernel
theorem dX3_move_112 : decode cX3_move 112 = .ok (.iload 4, 2) := by decide +kernel
theorem dX3_move_114 : decode cX3_move 114 = .ok (.iload 6, 2) := by decide +kernel
theorem dX3_move_116 : decode cX3_move 116 = .ok (.aload_n 0, 1) := by decide +kernel
theorem dX3_move_117 : decode cX3_move 117 = .ok (.getfield 19, 3) := by decide +kernel
theorem dX3_move_120 : decode cX3_move 120 = .ok (.iconst 3, 1) := by decide +kernel
theorem dX3_move_121 : decode cX3_move 121 = .ok (.iload 5, 2) := by decide +kernel
theorem dX3_move_123 : decode cX3_move 123 = .ok (.imul, 1) := by decide +kernel
theorem dX3_move_124 : decode cX3_move 124 = .ok (.iload 6, 2) := by decide +kernel
theorem dX3_move_126 : decode cX3_move 126 = .ok (.iadd, 1) := by decide +kernel
theorem dX3_move_127 : decode cX3_move 127 = .ok (.laload, 1) := by decide +kernel
theorem dX3_move_128 : decode cX3_move 128 = .ok (.invokevirtual 93, 3) := by decide +kernel
theorem dX3_move_131 : decode cX3_move 131 = .ok (.iinc 6 1, 3) := by decide +kernel
theorem dX3_move_134 : decode cX3_move 134 = .ok (.goto (-29), 3) := by decide +kernel
theorem dX3_move_137 : decode cX3_move 137 = .ok (.aload_n 0, 1) := by decide +kernel
theorem dX3_move_138 : decode cX3_move 138 = .ok (.iconst 0, 1) := by decide +kernel
theorem dX3_move_139 : decode cX3_move 139 = .ok (.iconst 2, 1) := by decide +kernel
theorem dX3_move_140 : decode cX3_move 140 = .ok (.invokevirtual 122, 3) := by decide +kernel
theorem dX3_move_143 : decode cX3_move 143 = .ok (.aload_n 0, 1) := by decide +kernel
theorem dX3_move_144 : decode cX3_move 144 = .ok (.iload_n 2, 1) := by decide +kernel
theorem dX3_move_145 : decode cX3_move 145 = .ok (.iload_n 3, 1) := by decide +kernel
theorem dX3_move_146 : decode cX3_move 146 = .ok (.iload 4, 2) := by decide +kernel
theorem dX3_move_148 : decode cX3_move 148 = .ok (.invokevirtual 82, 3) := by decide +kernel
theorem dX3_move_151 : decode cX3_move 151 = .ok (.aload_n 0, 1) := by decide +kernel
theorem dX3_move_152 : decode cX3_move 152 = .ok (.iconst 0, 1) := by decide +kernel
theorem dX3_move_153 : decode cX3_move 153 = .ok (.iconst 0, 1) := by decide +kernel
theorem dX3_move_154 : decode cX3_move 154 = .ok (.invokevirtual 122, 3) := by decide +kernel
theorem dX3_move_157 : decode cX3_move 157 = .ok (.aload_n 0, 1) := by decide +kernel
theorem dX3_move_158 : decode cX3_move 158 = .ok (.dup, 1) := by decide +kernel
theorem dX3_move_159 : decode cX3_move 159 = .ok (.getfield 125, 3) := by decide +kernel
theorem dX3_move_162 : decode cX3_move 162 = .ok (.aload_n 0, 1) := by decide +kernel
theorem dX3_move_163 : decode cX3_move 163 = .ok (.getfield 36, 3) := by decide +kernel
theorem dX3_move_166 : decode cX3_move 166 = .ok (.ifCond .eq 7, 3) := by decide +kernel
theorem dX3_move_169 : decode cX3_move 169 = .ok (.iconst 0, 1) := by decide +kernel
theorem dX3_move_170 : decode cX3_move 170 = .ok (.goto 4, 3) := by decide +kernel
theorem dX3_move_173 : decode cX3_move 173 = .ok (.iconst 1, 1) := by decide +kernel
theorem dX3_move_174 : decode cX3_move 174 = .ok (.iadd, 1) := by decide +kernel
theorem dX3_move_175 : decode cX3_move 175 = .ok (.putfield 125, 3) := by decide +kernel
theorem dX3_move_178 : decode cX3_move 178 = .ok (.return_, 1) := by decide +kernel
set_option maxRecDepth 20000 in
theorem ggX3_step_X3_look : GoodIn wsX3_step wsX3_look := goodIn_r _ [6, 7, 8, 9, 10, 11, 12, 5, 13, 14, 15, 16, 17, 18, 19, 20, 21, 22, 23, 24, 25, 51, 52, 53, 54, 55, 56, 57, 58, 59, 60, 61, 62, 63, 64, 65, 66] (by decide +kernel) (by decide +kernel)
set_option maxRecDepth 20000 in
theorem gX3_step_X3_look : GoodIn wsX3_step (wsV RX3 128 RX3 yX3_look wsX3_look) := goodIn_app (goodIn_of _ (by decide +kernel)) ggX3_step_X3_look
set_option maxRecDepth 20000 in
theorem ggX3_step_X3_move : GoodIn wsX3_step wsX3_move := goodIn_r _ [29, 14, 30, 15, 16, 9, 31, 32, 1, 33, 34, 35, 5, 36, 37, 38, 39, 40, 41, 42, 43, 44, 45, 46, 47, 48, 49, 50, 51, 52, 53, 54, 55, 56, 57, 58, 59, 60, 61, 62, 63, 64, 65, 66] (by decide +kernel) (by decide +kernel)
set_option maxRecDepth 20000 in
theorem gX3_step_X3_move : GoodIn wsX3_step (wsV RX3 131 RX3 yX3_move wsX3_move) := goodIn_app (goodIn_of _ (by decide +kernel)) ggX3_step_X3_move
theorem dX3_step_0 : decode cX3_step 0 = .ok (.aload_n 0, 1) := by decide +kernel
theorem dX3_step_1 : decode cX3_step 1 = .ok (.getfield 36, 3) := by decide +kernel
theorem dX3_step_4 : decode cX3_step 4 = .ok (.ifCond .eq 6, 3) := by decide +kernel
theorem dX3_step_7 : decode cX3_step 7 = .ok (.bipush (-2), 2) := by decide +kernel
theorem dX3_step_9 : decode cX3_step 9 = .ok (.ireturn, 1) := by decide +kernel
theorem dX3_step_10 : decode cX3_step 10 = .ok (.aload_n 0, 1) := by decide +kernel
theorem dX3_step_11 : decode cX3_step 11 = .ok (.invokevirtual 128, 3) := by decide +kernel
theorem dX3_step_14 : decode cX3_step 14 = .ok (.istore_n 1, 1) := by decide +kernel
theorem dX3_step_15 : decode cX3_step 15 = .ok (.iload_n 1, 1) := by decide +kernel
theorem dX3_step_16 : decode cX3_step 16 = .ok (.iconst 1, 1) := by decide +kernel
theorem dX3_step_17 : decode cX3_step 17 = .ok (.if_icmp .ge 5, 3) := by decide +kernel
theorem dX3_step_20 : decode cX3_step 20 = .ok (.iload_n 1, 1) := by decide +kernel
theorem dX3_step_21 : decode cX3_step 21 = .ok (.ireturn, 1) := by decide +kernel
theorem dX3_step_22 : decode cX3_step 22 = .ok (.aload_n 0, 1) := by decide +kernel
theorem dX3_step_23 : decode cX3_step 23 = .ok (.iconst 0, 1) := by decide +kernel
theorem dX3_step_24 : decode cX3_step 24 = .ok (.invokevirtual 131, 3) := by decide +kernel
theorem dX3_step_27 : decode cX3_step 27 = .ok (.aload_n 0, 1) := by decide +kernel
theorem dX3_step_28 : decode cX3_step 28 = .ok (.getfield 36, 3) := by decide +kernel
theorem dX3_step_31 : decode cX3_step 31 = .ok (.ifCond .eq 8, 3) := by decide +kernel
theorem dX3_step_34 : decode cX3_step 34 = .ok (.bipush (-2), 2) := by decide +kernel
theorem dX3_step_36 : decode cX3_step 36 = .ok (.goto 4, 3) := by decide +kernel
theorem dX3_step_39 : decode cX3_step 39 = .ok (.iconst 1, 1) := by decide +kernel
theorem dX3_step_40 : decode cX3_step 40 = .ok (.ireturn, 1) := by decide +kernel
theorem dX3_stands_0 : decode cX3_stands 0 = .ok (.iconst 0, 1) := by decide +kernel
theorem dX3_stands_1 : decode cX3_stands 1 = .ok (.istore_n 3, 1) := by decide +kernel
theorem dX3_stands_2 : decode cX3_stands 2 = .ok (.iload_n 3, 1) := by decide +kernel
theorem dX3_stands_3 : decode cX3_stands 3 = .ok (.iload_n 2, 1) := by decide +kernel
theorem dX3_stands_4 : decode cX3_stands 4 = .ok (.if_icmp .ge 46, 3) := by decide +kernel
theorem dX3_stands_7 : decode cX3_stands 7 = .ok (.aload_n 0, 1) := by decide +kernel
theorem dX3_stands_8 : decode cX3_stands 8 = .ok (.getfield 7, 3) := by decide +kernel
theorem dX3_stands_11 : decode cX3_stands 11 = .ok (.iload_n 3, 1) := by decide +kernel
theorem dX3_stands_12 : decode cX3_stands 12 = .ok (.bipush 8, 2) := by decide +kernel
theorem dX3_stands_14 : decode cX3_stands 14 = .ok (.idiv, 1) := by decide +kernel
theorem dX3_stands_15 : decode cX3_stands 15 = .ok (.iaload, 1) := by decide +kernel
theorem dX3_stands_16 : decode cX3_stands 16 = .ok (.iconst 1, 1) := by decide +kernel
theorem dX3_stands_17 : decode cX3_stands 17 = .ok (.if_icmp .ne 27, 3) := by decide +kernel
theorem dX3_stands_20 : decode cX3_stands 20 = .ok (.aload_n 0, 1) := by decide +kernel
theorem dX3_stands_21 : decode cX3_stands 21 = .ok (.getfield 16, 3) := by decide +kernel
theorem dX3_stands_24 : decode cX3_stands 24 = .ok (.iload_n 3, 1) := by decide +kernel
theorem dX3_stands_25 : decode cX3_stands 25 = .ok (.iaload, 1) := by decide +kernel
theorem dX3_stands_26 : decode cX3_stands 26 = .ok (.ifCond .le 18, 3) := by decide +kernel
theorem dX3_stands_29 : decode cX3_stands 29 = .ok (.aload_n 0, 1) := by decide +kernel
theorem dX3_stands_30 : decode cX3_stands 30 = .ok (.getfield 16, 3) := by decide +kernel
theorem dX3_stands_33 : decode cX3_stands 33 = .ok (.iload_n 3, 1) := by decide +kernel
theorem dX3_stands_34 : decode cX3_stands 34 = .ok (.iaload, 1) := by decide +kernel
theorem dX3_stands_35 : decode cX3_stands 35 = .ok (.bipush 100, 2) := by decide +kernel
theorem dX3_stands_37 : decode cX3_stands 37 = .ok (.idiv, 1) := by decide +kernel
theorem dX3_stands_38 : decode cX3_stands 38 = .ok (.iload_n 1, 1) := by decide +kernel
theorem dX3_stands_39 : decode cX3_stands 39 = .ok (.if_icmp .ne 5, 3) := by decide +kernel
theorem dX3_stands_42 : decode cX3_stands 42 = .ok (.iconst 1, 1) := by decide +kernel
theorem dX3_stands_43 : decode cX3_stands 43 = .ok (.ireturn, 1) := by decide +kernel
theorem dX3_stands_44 : decode cX3_stands 44 = .ok (.iinc 3 1, 3) := by decide +kernel
theorem dX3_stands_47 : decode cX3_stands 47 = .ok (.goto (-45), 3) := by decide +kernel
theorem dX3_stands_50 : decode cX3_stands 50 = .ok (.iconst 0, 1) := by decide +kernel
theorem dX3_stands_51 : decode cX3_stands 51 = .ok (.ireturn, 1) := by decide +kernel
set_option maxRecDepth 20000 in
theorem ggX3_restart_X3_move : GoodIn wsX3_restart wsX3_move := goodIn_r _ [10, 11, 3, 12, 13, 5, 14, 15, 2, 16, 17, 18, 9, 19, 20, 21, 22, 23, 24, 1, 25, 26, 27, 28, 29, 30, 31, 32, 41, 42, 43, 44, 45, 46, 47, 48, 49, 50, 51, 52, 53, 54, 55, 56] (by decide +kernel) (by decide +kernel)
set_option maxRecDepth 20000 in
theorem gX3_restart_X3_move : GoodIn wsX3_restart (wsV RX3 131 RX3 yX3_move wsX3_move) := goodIn_app (goodIn_of _ (by decide +kernel)) ggX3_restart_X3_move
set_option maxRecDepth 20000 in
theorem ggX3_restart_X3_stands : GoodIn wsX3_restart wsX3_stands := goodIn_r _ [36, 4, 5, 41, 42, 43, 44, 45, 46, 47, 48, 49, 50, 51, 52, 53, 54, 55, 56] (by decide +kernel) (by decide +kernel)
set_option maxRecDepth 20000 in
theorem gX3_restart_X3_stands : GoodIn wsX3_restart (wsV RX3 135 RX3 yX3_stands wsX3_stands) := goodIn_app (goodIn_of _ (by decide +kernel)) ggX3_restart_X3_stands
set_option maxRecDepth 20000 in
theorem ggX3_restart_X3_setPlace : GoodIn wsX3_restart wsX3_setPlace := goodIn_r _ [32, 5, 20, 21, 22, 9, 23, 2, 24, 1, 41, 42, 43, 44, 45, 46, 47, 48, 49, 50, 51, 52, 53, 54, 55, 56] (by decide +kernel) (by decide +kernel)
set_option maxRecDepth 20000 in
theorem gX3_restart_X3_setPlace : GoodIn wsX3_restart (wsV RX3 82 RX3 yX3_setPlace wsX3_setPlace) := goodIn_app (goodIn_of _ (by decide +kernel)) ggX3_restart_X3_setPlace
set_option maxRecDepth 20000 in
theorem ggX3_restart_X3_setKind : GoodIn wsX3_restart wsX3_setKind := goodIn_r _ [40, 4, 20, 21, 22, 9, 23, 2, 24, 1, 41, 42, 43, 44, 45, 46, 47, 48, 49, 50, 51, 52, 53, 54, 55, 56] (by decide +kernel) (by decide +kernel)
set_option maxRecDepth 20000 in
theorem gX3_restart_X3_setKind : GoodIn wsX3_restart (wsV RX3 86 RX3 yX3_setKind wsX3_setKind) := goodIn_app (goodIn_of _ (by decide +kernel)) ggX3_restart_X3_setKind
theorem dX3_restart_0 : decode cX3_restart 0 = .ok (.aload_n 0, 1) := by decide +kernel
theorem dX3_restart_1 : decode cX3_restart 1 = .ok (.getfield 40, 3) := by decide +kernel
theorem dX3_restart_4 : decode cX3_restart 4 = .ok (.istore_n 1, 1) := by decide +kernel
theorem dX3_restart_5 : decode cX3_restart 5 = .ok (.aload_n 0, 1) := by decide +kernel
theorem dX3_restart_6 : decode cX3_restart 6 = .ok (.iconst 0, 1) := by decide +kernel
theorem dX3_restart_7 : decode cX3_restart 7 = .ok (.putfield 36, 3) := by decide +kernel
theorem dX3_restart_10 : decode cX3_restart 10 = .ok (.aload_n 0, 1) := by decide +kernel
theorem dX3_restart_11 : decode cX3_restart 11 = .ok (.getfield 23, 3) := by decide +kernel
theorem dX3_restart_14 : decode cX3_restart 14 = .ok (.iconst 0, 1) := by decide +kernel
theorem dX3_restart_15 : decode cX3_restart 15 = .ok (.iaload, 1) := by decide +kernel
theorem dX3_restart_16 : decode cX3_restart 16 = .ok (.ifCond .le 13, 3) := by decide +kernel
theorem dX3_restart_19 : decode cX3_restart 19 = .ok (.aload_n 0, 1) := by decide +kernel
theorem dX3_restart_20 : decode cX3_restart 20 = .ok (.aload_n 0, 1) := by decide +kernel
theorem dX3_restart_21 : decode cX3_restart 21 = .ok (.getfield 23, 3) := by decide +kernel
theorem dX3_restart_24 : decode cX3_restart 24 = .ok (.iconst 0, 1) := by decide +kernel
theorem dX3_restart_25 : decode cX3_restart 25 = .ok (.iaload, 1) := by decide +kernel
theorem dX3_restart_26 : decode cX3_restart 26 = .ok (.invokevirtual 131, 3) := by decide +kernel
theorem dX3_restart_29 : decode cX3_restart 29 = .ok (.iconst (-1), 1) := by decide +kernel
theorem dX3_restart_30 : decode cX3_restart 30 = .ok (.istore_n 2, 1) := by decide +kernel
theorem dX3_restart_31 : decode cX3_restart 31 = .ok (.iload_n 2, 1) := by decide +kernel
theorem dX3_restart_32 : decode cX3_restart 32 = .ok (.aload_n 0, 1) := by decide +kernel
theorem dX3_restart_33 : decode cX3_restart 33 = .ok (.getfield 40, 3) := by decide +kernel
theorem dX3_restart_36 : decode cX3_restart 36 = .ok (.if_icmp .eq 154, 3) := by decide +kernel
theorem dX3_restart_39 : decode cX3_restart 39 = .ok (.aload_n 0, 1) := by decide +kernel
theorem dX3_restart_40 : decode cX3_restart 40 = .ok (.getfield 36, 3) := by decide +kernel
theorem dX3_restart_43 : decode cX3_restart 43 = .ok (.ifCond .ne 147, 3) := by decide +kernel
theorem dX3_restart_46 : decode cX3_restart 46 = .ok (.aload_n 0, 1) := by decide +kernel
theorem dX3_restart_47 : decode cX3_restart 47 = .ok (.getfield 40, 3) := by decide +kernel
theorem dX3_restart_50 : decode cX3_restart 50 = .ok (.istore_n 2, 1) := by decide +kernel
theorem dX3_restart_51 : decode cX3_restart 51 = .ok (.iconst 0, 1) := by decide +kernel
theorem dX3_restart_52 : decode cX3_restart 52 = .ok (.istore_n 3, 1) := by decide +kernel
theorem dX3_restart_53 : decode cX3_restart 53 = .ok (.iload_n 3, 1) := by decide +kernel
theorem dX3_restart_54 : decode cX3_restart 54 = .ok (.bipush 96, 2) := by decide +kernel
theorem dX3_restart_56 : decode cX3_restart 56 = .ok (.if_icmp .ge 85, 3) := by decide +kernel
theorem dX3_restart_59 : decode cX3_restart 59 = .ok (.aload_n 0, 1) := by decide +kernel
theorem dX3_restart_60 : decode cX3_restart 60 = .ok (.getfield 36, 3) := by decide +kernel
theorem dX3_restart_63 : decode cX3_restart 63 = .ok (.ifCond .ne 78, 3) := by decide +kernel
theorem dX3_restart_66 : decode cX3_restart 66 = .ok (.aload_n 0, 1) := by decide +kernel
theorem dX3_restart_67 : decode cX3_restart 67 = .ok (.getfield 7, 3) := by decide +kernel
theorem dX3_restart_70 : decode cX3_restart 70 = .ok (.iload_n 3, 1) := by decide +kernel
theorem dX3_restart_71 : decode cX3_restart 71 = .ok (.bipush 8, 2) := by decide +kernel
theorem dX3_restart_73 : decode cX3_restart 73 = .ok (.idiv, 1) := by decide +kernel
theorem dX3_restart_74 : decode cX3_restart 74 = .ok (.iaload, 1) := by decide +kernel
theorem dX3_restart_75 : decode cX3_restart 75 = .ok (.iconst 1, 1) := by decide +kernel
theorem dX3_restart_76 : decode cX3_restart 76 = .ok (.if_icmp .ne 59, 3) := by decide +kernel
theorem dX3_restart_79 : decode cX3_restart 79 = .ok (.aload_n 0, 1) := by decide +kernel
theorem dX3_restart_80 : decode cX3_restart 80 = .ok (.getfield 16, 3) := by decide +kernel
theorem dX3_restart_83 : decode cX3_restart 83 = .ok (.iload_n 3, 1) := by decide +kernel
theorem dX3_restart_84 : decode cX3_restart 84 = .ok (.iaload, 1) := by decide +kernel
theorem dX3_restart_85 : decode cX3_restart 85 = .ok (.ifCond .le 50, 3) := by decide +kernel
theorem dX3_restart_88 : decode cX3_restart 88 = .ok (.aload_n 0, 1) := by decide +kernel
theorem dX3_restart_89 : decode cX3_restart 89 = .ok (.getfield 7, 3) := by decide +kernel
theorem dX3_restart_92 : decode cX3_restart 92 = .ok (.aload_n 0, 1) := by decide +kernel
theorem dX3_restart_93 : decode cX3_restart 93 = .ok (.getfield 16, 3) := by decide +kernel
theorem dX3_restart_96 : decode cX3_restart 96 = .ok (.iload_n 3, 1) := by decide +kernel
theorem dX3_restart_97 : decode cX3_restart 97 = .ok (.iaload, 1) := by decide +kernel
theorem dX3_restart_98 : decode cX3_restart 98 = .ok (.bipush 100, 2) := by decide +kernel
theorem dX3_restart_100 : decode cX3_restart 100 = .ok (.idiv, 1) := by decide +kernel
theorem dX3_restart_101 : decode cX3_restart 101 = .ok (.iaload, 1) := by decide +kernel
theorem dX3_restart_102 : decode cX3_restart 102 = .ok (.ifCond .eq 20, 3) := by decide +kernel
theorem dX3_restart_105 : decode cX3_restart 105 = .ok (.aload_n 0, 1) := by decide +kernel
theorem dX3_restart_106 : decode cX3_restart 106 = .ok (.aload_n 0, 1) := by decide +kernel
theorem dX3_restart_107 : decode cX3_restart 107 = .ok (.getfield 16, 3) := by decide +kernel
theorem dX3_restart_110 : decode cX3_restart 110 = .ok (.iload_n 3, 1) := by decide +kernel
theorem dX3_restart_111 : decode cX3_restart 111 = .ok (.iaload, 1) := by decide +kernel
theorem dX3_restart_112 : decode cX3_restart 112 = .ok (.bipush 100, 2) := by decide +kernel
theorem dX3_restart_114 : decode cX3_restart 114 = .ok (.idiv, 1) := by decide +kernel
theorem dX3_restart_115 : decode cX3_restart 115 = .ok (.iload_n 3, 1) := by decide +kernel
theorem dX3_restart_116 : decode cX3_restart 116 = .ok (.invokevirtual 135, 3) := by decide +kernel
theorem dX3_restart_119 : decode cX3_restart 119 = .ok (.ifCond .eq 16, 3) := by decide +kernel
theorem dX3_restart_122 : decode cX3_restart 122 = .ok (.aload_n 0, 1) := by decide +kernel
theorem dX3_restart_123 : decode cX3_restart 123 = .ok (.iload_n 3, 1) := by decide +kernel
theorem dX3_restart_124 : decode cX3_restart 124 = .ok (.bipush 8, 2) := by decide +kernel
theorem dX3_restart_126 : decode cX3_restart 126 = .ok (.idiv, 1) := by decide +kernel
theorem dX3_restart_127 : decode cX3_restart 127 = .ok (.iload_n 3, 1) := by decide +kernel
theorem dX3_restart_128 : decode cX3_restart 128 = .ok (.bipush 8, 2) := by decide +kernel
theorem dX3_restart_130 : decode cX3_restart 130 = .ok (.irem, 1) := by decide +kernel
theorem dX3_restart_131 : decode cX3_restart 131 = .ok (.iconst 0, 1) := by decide +kernel
theorem dX3_restart_132 : decode cX3_restart 132 = .ok (.invokevirtual 82, 3) := by decide +kernel
theorem dX3_restart_135 : decode cX3_restart 135 = .ok (.iinc 3 1, 3) := by decide +kernel
theorem dX3_restart_138 : decode cX3_restart 138 = .ok (.goto (-85), 3) := by decide +kernel
theorem dX3_restart_141 : decode cX3_restart 141 = .ok (.iconst 1, 1) := by decide +kernel
theorem dX3_restart_142 : decode cX3_restart 142 = .ok (.istore_n 3, 1) := by decide +kernel
theorem dX3_restart_143 : decode cX3_restart 143 = .ok (.iload_n 3, 1) := by decide +kernel
theorem dX3_restart_144 : decode cX3_restart 144 = .ok (.bipush 12, 2) := by decide +kernel
theorem dX3_restart_146 : decode cX3_restart 146 = .ok (.if_icmp .ge 41, 3) := by decide +kernel
theorem dX3_restart_149 : decode cX3_restart 149 = .ok (.aload_n 0, 1) := by decide +kernel
theorem dX3_restart_150 : decode cX3_restart 150 = .ok (.getfield 36, 3) := by decide +kernel
theorem dX3_restart_153 : decode cX3_restart 153 = .ok (.ifCond .ne 34, 3) := by decide +kernel
theorem dX3_restart_156 : decode cX3_restart 156 = .ok (.aload_n 0, 1) := by decide +kernel
theorem dX3_restart_157 : decode cX3_restart 157 = .ok (.getfield 7, 3) := by decide +kernel
theorem dX3_restart_160 : decode cX3_restart 160 = .ok (.iload_n 3, 1) := by decide +kernel
theorem dX3_restart_161 : decode cX3_restart 161 = .ok (.iaload, 1) := by decide +kernel
theorem dX3_restart_162 : decode cX3_restart 162 = .ok (.ifCond .eq 19, 3) := by decide +kernel
theorem dX3_restart_165 : decode cX3_restart 165 = .ok (.aload_n 0, 1) := by decide +kernel
theorem dX3_restart_166 : decode cX3_restart 166 = .ok (.iload_n 3, 1) := by decide +kernel
theorem dX3_restart_167 : decode cX3_restart 167 = .ok (.bipush 96, 2) := by decide +kernel
theorem dX3_restart_169 : decode cX3_restart 169 = .ok (.invokevirtual 135, 3) := by decide +kernel
theorem dX3_restart_172 : decode cX3_restart 172 = .ok (.ifCond .ne 9, 3) := by decide +kernel
theorem dX3_restart_175 : decode cX3_restart 175 = .ok (.aload_n 0, 1) := by decide +kernel
theorem dX3_restart_176 : decode cX3_restart 176 = .ok (.iload_n 3, 1) := by decide +kernel
theorem dX3_restart_177 : decode cX3_restart 177 = .ok (.iconst 0, 1) := by decide +kernel
theorem dX3_restart_178 : decode cX3_restart 178 = .ok (.invokevirtual 86, 3) := by decide +kernel
theorem dX3_restart_181 : decode cX3_restart 181 = .ok (.iinc 3 1, 3) := by decide +kernel
theorem dX3_restart_184 : decode cX3_restart 184 = .ok (.goto (-41), 3) := by decide +kernel
theorem dX3_restart_187 : decode cX3_restart 187 = .ok (.goto (-156), 3) := by decide +kernel
theorem dX3_restart_190 : decode cX3_restart 190 = .ok (.aload_n 0, 1) := by decide +kernel
theorem dX3_restart_191 : decode cX3_restart 191 = .ok (.getfield 36, 3) := by decide +kernel
theorem dX3_restart_194 : decode cX3_restart 194 = .ok (.ifCond .eq 8, 3) := by decide +kernel
theorem dX3_restart_197 : decode cX3_restart 197 = .ok (.bipush (-2), 2) := by decide +kernel
theorem dX3_restart_199 : decode cX3_restart 199 = .ok (.goto 9, 3) := by decide +kernel
theorem dX3_restart_202 : decode cX3_restart 202 = .ok (.aload_n 0, 1) := by decide +kernel
theorem dX3_restart_203 : decode cX3_restart 203 = .ok (.getfield 40, 3) := by decide +kernel
theorem dX3_restart_206 : decode cX3_restart 206 = .ok (.iload_n 1, 1) := by decide +kernel
theorem dX3_restart_207 : decode cX3_restart 207 = .ok (.isub, 1) := by decide +kernel
theorem dX3_restart_208 : decode cX3_restart 208 = .ok (.ireturn, 1) := by decide +kernel
theorem dX3_isDown_0 : decode cX3_isDown 0 = .ok (.aload_n 0, 1) := by decide +kernel
theorem dX3_isDown_1 : decode cX3_isDown 1 = .ok (.getfield 36, 3) := by decide +kernel
theorem dX3_isDown_4 : decode cX3_isDown 4 = .ok (.ifCond .eq 7, 3) := by decide +kernel
theorem dX3_isDown_7 : decode cX3_isDown 7 = .ok (.iconst 1, 1) := by decide +kernel
theorem dX3_isDown_8 : decode cX3_isDown 8 = .ok (.goto 4, 3) := by decide +kernel
theorem dX3_isDown_11 : decode cX3_isDown 11 = .ok (.iconst 0, 1) := by decide +kernel
theorem dX3_isDown_12 : decode cX3_isDown 12 = .ok (.ireturn, 1) := by decide +kernel
set_option maxRecDepth 20000 in
theorem ggX3_find_X3_isInode : GoodIn wsX3_find wsX3_isInode := goodIn_r _ [6, 7, 8, 9, 10, 5, 11, 20, 21, 22, 23, 24, 25, 26, 27, 28, 29, 30, 31, 32, 33, 34, 35] (by decide +kernel) (by decide +kernel)
set_option maxRecDepth 20000 in
theorem gX3_find_X3_isInode : GoodIn wsX3_find (wsV RX3 61 RX3 yX3_isInode wsX3_isInode) := goodIn_app (goodIn_of _ (by decide +kernel)) ggX3_find_X3_isInode
set_option maxRecDepth 20000 in
theorem ggX3_find_X3_isName : GoodIn wsX3_find wsX3_isName := goodIn_r _ [14, 15, 9, 10, 5, 11] (by decide +kernel) (by decide +kernel)
set_option maxRecDepth 20000 in
theorem gX3_find_X3_isName : GoodIn wsX3_find (va_wsS RX3 65 yX3_isName wsX3_isName) := goodIn_app (goodIn_of _ (by decide +kernel)) ggX3_find_X3_isName
set_option maxRecDepth 20000 in
theorem ggX3_find_X3_entry : GoodIn wsX3_find wsX3_entry := goodIn_r _ [19, 1, 20, 21, 22, 23, 24, 25, 26, 27, 28, 29, 30, 31, 32, 33, 34, 35] (by decide +kernel) (by decide +kernel)
set_option maxRecDepth 20000 in
theorem gX3_find_X3_entry : GoodIn wsX3_find (wsV RX3 70 RX3 yX3_entry wsX3_entry) := goodIn_app (goodIn_of _ (by decide +kernel)) ggX3_find_X3_entry
theorem dX3_find_0 : decode cX3_find 0 = .ok (.aload_n 0, 1) := by decide +kernel
theorem dX3_find_1 : decode cX3_find 1 = .ok (.iload_n 1, 1) := by decide +kernel
theorem dX3_find_2 : decode cX3_find 2 = .ok (.iconst 1, 1) := by decide +kernel
theorem dX3_find_3 : decode cX3_find 3 = .ok (.invokevirtual 61, 3) := by decide +kernel
theorem dX3_find_6 : decode cX3_find 6 = .ok (.ifCond .eq 10, 3) := by decide +kernel
theorem dX3_find_9 : decode cX3_find 9 = .ok (.iload_n 2, 1) := by decide +kernel
theorem dX3_find_10 : decode cX3_find 10 = .ok (.invokestatic 65, 3) := by decide +kernel
theorem dX3_find_13 : decode cX3_find 13 = .ok (.ifCond .ne 5, 3) := by decide +kernel
theorem dX3_find_16 : decode cX3_find 16 = .ok (.iconst (-1), 1) := by decide +kernel
theorem dX3_find_17 : decode cX3_find 17 = .ok (.ireturn, 1) := by decide +kernel
theorem dX3_find_18 : decode cX3_find 18 = .ok (.aload_n 0, 1) := by decide +kernel
theorem dX3_find_19 : decode cX3_find 19 = .ok (.iload_n 1, 1) := by decide +kernel
theorem dX3_find_20 : decode cX3_find 20 = .ok (.iload_n 2, 1) := by decide +kernel
theorem dX3_find_21 : decode cX3_find 21 = .ok (.invokevirtual 70, 3) := by decide +kernel
theorem dX3_find_24 : decode cX3_find 24 = .ok (.istore_n 3, 1) := by decide +kernel
theorem dX3_find_25 : decode cX3_find 25 = .ok (.iload_n 3, 1) := by decide +kernel
theorem dX3_find_26 : decode cX3_find 26 = .ok (.ifCond .ge 8, 3) := by decide +kernel
theorem dX3_find_29 : decode cX3_find 29 = .ok (.bipush (-3), 2) := by decide +kernel
theorem dX3_find_31 : decode cX3_find 31 = .ok (.goto 17, 3) := by decide +kernel
theorem dX3_find_34 : decode cX3_find 34 = .ok (.aload_n 0, 1) := by decide +kernel
theorem dX3_find_35 : decode cX3_find 35 = .ok (.getfield 16, 3) := by decide +kernel
theorem dX3_find_38 : decode cX3_find 38 = .ok (.bipush 8, 2) := by decide +kernel
theorem dX3_find_40 : decode cX3_find 40 = .ok (.iload_n 1, 1) := by decide +kernel
theorem dX3_find_41 : decode cX3_find 41 = .ok (.imul, 1) := by decide +kernel
theorem dX3_find_42 : decode cX3_find 42 = .ok (.iload_n 3, 1) := by decide +kernel
theorem dX3_find_43 : decode cX3_find 43 = .ok (.iadd, 1) := by decide +kernel
theorem dX3_find_44 : decode cX3_find 44 = .ok (.iaload, 1) := by decide +kernel
theorem dX3_find_45 : decode cX3_find 45 = .ok (.bipush 100, 2) := by decide +kernel
theorem dX3_find_47 : decode cX3_find 47 = .ok (.idiv, 1) := by decide +kernel
theorem dX3_find_48 : decode cX3_find 48 = .ok (.ireturn, 1) := by decide +kernel
theorem dX3_inodeOf_0 : decode cX3_inodeOf 0 = .ok (.iload_n 2, 1) := by decide +kernel
theorem dX3_inodeOf_1 : decode cX3_inodeOf 1 = .ok (.ifCond .ne 12, 3) := by decide +kernel
theorem dX3_inodeOf_4 : decode cX3_inodeOf 4 = .ok (.aload_n 0, 1) := by decide +kernel
theorem dX3_inodeOf_5 : decode cX3_inodeOf 5 = .ok (.getfield 7, 3) := by decide +kernel
theorem dX3_inodeOf_8 : decode cX3_inodeOf 8 = .ok (.iload_n 1, 1) := by decide +kernel
theorem dX3_inodeOf_9 : decode cX3_inodeOf 9 = .ok (.iaload, 1) := by decide +kernel
theorem dX3_inodeOf_10 : decode cX3_inodeOf 10 = .ok (.goto 30, 3) := by decide +kernel
theorem dX3_inodeOf_13 : decode cX3_inodeOf 13 = .ok (.iload_n 2, 1) := by decide +kernel
theorem dX3_inodeOf_14 : decode cX3_inodeOf 14 = .ok (.iconst 1, 1) := by decide +kernel
theorem dX3_inodeOf_15 : decode cX3_inodeOf 15 = .ok (.if_icmp .ne 12, 3) := by decide +kernel
theorem dX3_inodeOf_18 : decode cX3_inodeOf 18 = .ok (.aload_n 0, 1) := by decide +kernel
theorem dX3_inodeOf_19 : decode cX3_inodeOf 19 = .ok (.getfield 13, 3) := by decide +kernel
theorem dX3_inodeOf_22 : decode cX3_inodeOf 22 = .ok (.iload_n 1, 1) := by decide +kernel
theorem dX3_inodeOf_23 : decode cX3_inodeOf 23 = .ok (.iaload, 1) := by decide +kernel
theorem dX3_inodeOf_24 : decode cX3_inodeOf 24 = .ok (.goto 16, 3) := by decide +kernel
theorem dX3_inodeOf_27 : decode cX3_inodeOf 27 = .ok (.aload_n 0, 1) := by decide +kernel
theorem dX3_inodeOf_28 : decode cX3_inodeOf 28 = .ok (.getfield 16, 3) := by decide +kernel
theorem dX3_inodeOf_31 : decode cX3_inodeOf 31 = .ok (.bipush 8, 2) := by decide +kernel
theorem dX3_inodeOf_33 : decode cX3_inodeOf 33 = .ok (.iload_n 1, 1) := by decide +kernel
theorem dX3_inodeOf_34 : decode cX3_inodeOf 34 = .ok (.imul, 1) := by decide +kernel
theorem dX3_inodeOf_35 : decode cX3_inodeOf 35 = .ok (.iload_n 2, 1) := by decide +kernel
theorem dX3_inodeOf_36 : decode cX3_inodeOf 36 = .ok (.iadd, 1) := by decide +kernel
theorem dX3_inodeOf_37 : decode cX3_inodeOf 37 = .ok (.iconst 2, 1) := by decide +kernel
theorem dX3_inodeOf_38 : decode cX3_inodeOf 38 = .ok (.isub, 1) := by decide +kernel
theorem dX3_inodeOf_39 : decode cX3_inodeOf 39 = .ok (.iaload, 1) := by decide +kernel
theorem dX3_inodeOf_40 : decode cX3_inodeOf 40 = .ok (.ireturn, 1) := by decide +kernel
set_option maxRecDepth 20000 in
theorem ggX3_inode_X3_in : GoodIn wsX3_inode wsX3_in := goodIn_r _ [6] (by decide +kernel) (by decide +kernel)
set_option maxRecDepth 20000 in
theorem gX3_inode_X3_in : GoodIn wsX3_inode (va_wsS RX3 49 yX3_in wsX3_in) := goodIn_app (goodIn_of _ (by decide +kernel)) ggX3_inode_X3_in
set_option maxRecDepth 20000 in
theorem ggX3_inode_X3_inodeOf : GoodIn wsX3_inode wsX3_inodeOf := goodIn_r _ [10, 11, 12, 13, 14, 15, 16, 17, 18, 19, 20, 21, 22, 23, 24, 25, 26, 27, 28, 29] (by decide +kernel) (by decide +kernel)
set_option maxRecDepth 20000 in
theorem gX3_inode_X3_inodeOf : GoodIn wsX3_inode (wsV RX3 140 RX3 yX3_inodeOf wsX3_inodeOf) := goodIn_app (goodIn_of _ (by decide +kernel)) ggX3_inode_X3_inodeOf
theorem dX3_inode_0 : decode cX3_inode 0 = .ok (.iload_n 1, 1) := by decide +kernel
theorem dX3_inode_1 : decode cX3_inode 1 = .ok (.i2l, 1) := by decide +kernel
theorem dX3_inode_2 : decode cX3_inode 2 = .ok (.lconst 0, 1) := by decide +kernel
theorem dX3_inode_3 : decode cX3_inode 3 = .ok (.ldc2_w 53, 3) := by decide +kernel
theorem dX3_inode_6 : decode cX3_inode 6 = .ok (.invokestatic 49, 3) := by decide +kernel
theorem dX3_inode_9 : decode cX3_inode 9 = .ok (.ifCond .eq 24, 3) := by decide +kernel
theorem dX3_inode_12 : decode cX3_inode 12 = .ok (.iload_n 2, 1) := by decide +kernel
theorem dX3_inode_13 : decode cX3_inode 13 = .ok (.i2l, 1) := by decide +kernel
theorem dX3_inode_14 : decode cX3_inode 14 = .ok (.lconst 0, 1) := by decide +kernel
theorem dX3_inode_15 : decode cX3_inode 15 = .ok (.ldc2_w 138, 3) := by decide +kernel
theorem dX3_inode_18 : decode cX3_inode 18 = .ok (.invokestatic 49, 3) := by decide +kernel
theorem dX3_inode_21 : decode cX3_inode 21 = .ok (.ifCond .eq 12, 3) := by decide +kernel
theorem dX3_inode_24 : decode cX3_inode 24 = .ok (.aload_n 0, 1) := by decide +kernel
theorem dX3_inode_25 : decode cX3_inode 25 = .ok (.iload_n 1, 1) := by decide +kernel
theorem dX3_inode_26 : decode cX3_inode 26 = .ok (.iload_n 2, 1) := by decide +kernel
theorem dX3_inode_27 : decode cX3_inode 27 = .ok (.invokevirtual 140, 3) := by decide +kernel
theorem dX3_inode_30 : decode cX3_inode 30 = .ok (.goto 4, 3) := by decide +kernel
theorem dX3_inode_33 : decode cX3_inode 33 = .ok (.iconst (-1), 1) := by decide +kernel
theorem dX3_inode_34 : decode cX3_inode 34 = .ok (.ireturn, 1) := by decide +kernel
set_option maxRecDepth 20000 in
theorem ggX3_data_X3_in : GoodIn wsX3_data wsX3_in := goodIn_r _ [8] (by decide +kernel) (by decide +kernel)
set_option maxRecDepth 20000 in
theorem gX3_data_X3_in : GoodIn wsX3_data (va_wsS RX3 49 yX3_in wsX3_in) := goodIn_app (goodIn_of _ (by decide +kernel)) ggX3_data_X3_in
theorem dX3_data_0 : decode cX3_data 0 = .ok (.iload_n 1, 1) := by decide +kernel
theorem dX3_data_1 : decode cX3_data 1 = .ok (.i2l, 1) := by decide +kernel
theorem dX3_data_2 : decode cX3_data 2 = .ok (.lconst 0, 1) := by decide +kernel
theorem dX3_data_3 : decode cX3_data 3 = .ok (.ldc2_w 143, 3) := by decide +kernel
theorem dX3_data_6 : decode cX3_data 6 = .ok (.invokestatic 49, 3) := by decide +kernel
theorem dX3_data_9 : decode cX3_data 9 = .ok (.ifCond .eq 15, 3) := by decide +kernel
theorem dX3_data_12 : decode cX3_data 12 = .ok (.iload_n 2, 1) := by decide +kernel
theorem dX3_data_13 : decode cX3_data 13 = .ok (.i2l, 1) := by decide +kernel
theorem dX3_data_14 : decode cX3_data 14 = .ok (.lconst 0, 1) := by decide +kernel
theorem dX3_data_15 : decode cX3_data 15 = .ok (.ldc2_w 68, 3) := by decide +kernel
theorem dX3_data_18 : decode cX3_data 18 = .ok (.invokestatic 49, 3) := by decide +kernel
theorem dX3_data_21 : decode cX3_data 21 = .ok (.ifCond .ne 5, 3) := by decide +kernel
theorem dX3_data_24 : decode cX3_data 24 = .ok (.iconst (-1), 1) := by decide +kernel
theorem dX3_data_25 : decode cX3_data 25 = .ok (.ireturn, 1) := by decide +kernel
theorem dX3_data_26 : decode cX3_data 26 = .ok (.aload_n 0, 1) := by decide +kernel
theorem dX3_data_27 : decode cX3_data 27 = .ok (.aload_n 0, 1) := by decide +kernel
theorem dX3_data_28 : decode cX3_data 28 = .ok (.getfield 19, 3) := by decide +kernel
theorem dX3_data_31 : decode cX3_data 31 = .ok (.iconst 3, 1) := by decide +kernel
theorem dX3_data_32 : decode cX3_data 32 = .ok (.iload_n 1, 1) := by decide +kernel
theorem dX3_data_33 : decode cX3_data 33 = .ok (.imul, 1) := by decide +kernel
theorem dX3_data_34 : decode cX3_data 34 = .ok (.iload_n 2, 1) := by decide +kernel
theorem dX3_data_35 : decode cX3_data 35 = .ok (.iadd, 1) := by decide +kernel
theorem dX3_data_36 : decode cX3_data 36 = .ok (.laload, 1) := by decide +kernel
theorem dX3_data_37 : decode cX3_data 37 = .ok (.putfield 145, 3) := by decide +kernel
theorem dX3_data_40 : decode cX3_data 40 = .ok (.iconst 1, 1) := by decide +kernel
theorem dX3_data_41 : decode cX3_data 41 = .ok (.ireturn, 1) := by decide +kernel
set_option maxRecDepth 20000 in
theorem ggX3_read_X3_isInode : GoodIn wsX3_read wsX3_isInode := goodIn_r _ [10, 11, 12, 13, 14, 9, 15, 16, 17, 18, 19, 20, 21, 22, 23, 24, 25, 26, 27, 28, 29, 30, 31] (by decide +kernel) (by decide +kernel)
set_option maxRecDepth 20000 in
theorem gX3_read_X3_isInode : GoodIn wsX3_read (wsV RX3 61 RX3 yX3_isInode wsX3_isInode) := goodIn_app (goodIn_of _ (by decide +kernel)) ggX3_read_X3_isInode
set_option maxRecDepth 20000 in
theorem ggX3_read_X3_in : GoodIn wsX3_read wsX3_in := goodIn_r _ [15] (by decide +kernel) (by decide +kernel)
set_option maxRecDepth 20000 in
theorem gX3_read_X3_in : GoodIn wsX3_read (va_wsS RX3 49 yX3_in wsX3_in) := goodIn_app (goodIn_of _ (by decide +kernel)) ggX3_read_X3_in
theorem dX3_read_0 : decode cX3_read 0 = .ok (.aload_n 0, 1) := by decide +kernel
theorem dX3_read_1 : decode cX3_read 1 = .ok (.iload_n 1, 1) := by decide +kernel
theorem dX3_read_2 : decode cX3_read 2 = .ok (.iconst 2, 1) := by decide +kernel
theorem dX3_read_3 : decode cX3_read 3 = .ok (.invokevirtual 61, 3) := by decide +kernel
theorem dX3_read_6 : decode cX3_read 6 = .ok (.ifCond .eq 33, 3) := by decide +kernel
theorem dX3_read_9 : decode cX3_read 9 = .ok (.iload_n 2, 1) := by decide +kernel
theorem dX3_read_10 : decode cX3_read 10 = .ok (.i2l, 1) := by decide +kernel
theorem dX3_read_11 : decode cX3_read 11 = .ok (.lconst 0, 1) := by decide +kernel
theorem dX3_read_12 : decode cX3_read 12 = .ok (.aload_n 0, 1) := by decide +kernel
theorem dX3_read_13 : decode cX3_read 13 = .ok (.getfield 13, 3) := by decide +kernel
theorem dX3_read_16 : decode cX3_read 16 = .ok (.iload_n 1, 1) := by decide +kernel
theorem dX3_read_17 : decode cX3_read 17 = .ok (.iaload, 1) := by decide +kernel
theorem dX3_read_18 : decode cX3_read 18 = .ok (.iconst 1, 1) := by decide +kernel
theorem dX3_read_19 : decode cX3_read 19 = .ok (.isub, 1) := by decide +kernel
theorem dX3_read_20 : decode cX3_read 20 = .ok (.i2l, 1) := by decide +kernel
theorem dX3_read_21 : decode cX3_read 21 = .ok (.invokestatic 49, 3) := by decide +kernel
theorem dX3_read_24 : decode cX3_read 24 = .ok (.ifCond .eq 15, 3) := by decide +kernel
theorem dX3_read_27 : decode cX3_read 27 = .ok (.iload_n 3, 1) := by decide +kernel
theorem dX3_read_28 : decode cX3_read 28 = .ok (.i2l, 1) := by decide +kernel
theorem dX3_read_29 : decode cX3_read 29 = .ok (.lconst 0, 1) := by decide +kernel
theorem dX3_read_30 : decode cX3_read 30 = .ok (.ldc2_w 68, 3) := by decide +kernel
theorem dX3_read_33 : decode cX3_read 33 = .ok (.invokestatic 49, 3) := by decide +kernel
theorem dX3_read_36 : decode cX3_read 36 = .ok (.ifCond .ne 5, 3) := by decide +kernel
theorem dX3_read_39 : decode cX3_read 39 = .ok (.iconst (-1), 1) := by decide +kernel
theorem dX3_read_40 : decode cX3_read 40 = .ok (.ireturn, 1) := by decide +kernel
theorem dX3_read_41 : decode cX3_read 41 = .ok (.aload_n 0, 1) := by decide +kernel
theorem dX3_read_42 : decode cX3_read 42 = .ok (.aload_n 0, 1) := by decide +kernel
theorem dX3_read_43 : decode cX3_read 43 = .ok (.getfield 19, 3) := by decide +kernel
theorem dX3_read_46 : decode cX3_read 46 = .ok (.iconst 3, 1) := by decide +kernel
theorem dX3_read_47 : decode cX3_read 47 = .ok (.aload_n 0, 1) := by decide +kernel
theorem dX3_read_48 : decode cX3_read 48 = .ok (.getfield 16, 3) := by decide +kernel
theorem dX3_read_51 : decode cX3_read 51 = .ok (.bipush 8, 2) := by decide +kernel
theorem dX3_read_53 : decode cX3_read 53 = .ok (.iload_n 1, 1) := by decide +kernel
theorem dX3_read_54 : decode cX3_read 54 = .ok (.imul, 1) := by decide +kernel
theorem dX3_read_55 : decode cX3_read 55 = .ok (.iload_n 2, 1) := by decide +kernel
theorem dX3_read_56 : decode cX3_read 56 = .ok (.iadd, 1) := by decide +kernel
theorem dX3_read_57 : decode cX3_read 57 = .ok (.iaload, 1) := by decide +kernel
theorem dX3_read_58 : decode cX3_read 58 = .ok (.imul, 1) := by decide +kernel
theorem dX3_read_59 : decode cX3_read 59 = .ok (.iload_n 3, 1) := by decide +kernel
theorem dX3_read_60 : decode cX3_read 60 = .ok (.iadd, 1) := by decide +kernel
theorem dX3_read_61 : decode cX3_read 61 = .ok (.laload, 1) := by decide +kernel
theorem dX3_read_62 : decode cX3_read 62 = .ok (.putfield 145, 3) := by decide +kernel
theorem dX3_read_65 : decode cX3_read 65 = .ok (.iconst 1, 1) := by decide +kernel
theorem dX3_read_66 : decode cX3_read 66 = .ok (.ireturn, 1) := by decide +kernel
theorem dX3_asked_0 : decode cX3_asked 0 = .ok (.aload_n 0, 1) := by decide +kernel
theorem dX3_asked_1 : decode cX3_asked 1 = .ok (.getfield 145, 3) := by decide +kernel
theorem dX3_asked_4 : decode cX3_asked 4 = .ok (.lreturn, 1) := by decide +kernel
set_option maxRecDepth 20000 in
theorem ggX3_record_X3_in : GoodIn wsX3_record wsX3_in := goodIn_r _ [6] (by decide +kernel) (by decide +kernel)
set_option maxRecDepth 20000 in
theorem gX3_record_X3_in : GoodIn wsX3_record (va_wsS RX3 49 yX3_in wsX3_in) := goodIn_app (goodIn_of _ (by decide +kernel)) ggX3_record_X3_in
theorem dX3_record_0 : decode cX3_record 0 = .ok (.iload_n 1, 1) := by decide +kernel
theorem dX3_record_1 : decode cX3_record 1 = .ok (.i2l, 1) := by decide +kernel
theorem dX3_record_2 : decode cX3_record 2 = .ok (.lconst 0, 1) := by decide +kernel
theorem dX3_record_3 : decode cX3_record 3 = .ok (.ldc2_w 149, 3) := by decide +kernel
theorem dX3_record_6 : decode cX3_record 6 = .ok (.invokestatic 49, 3) := by decide +kernel
theorem dX3_record_9 : decode cX3_record 9 = .ok (.ifCond .eq 12, 3) := by decide +kernel
theorem dX3_record_12 : decode cX3_record 12 = .ok (.aload_n 0, 1) := by decide +kernel
theorem dX3_record_13 : decode cX3_record 13 = .ok (.getfield 23, 3) := by decide +kernel
theorem dX3_record_16 : decode cX3_record 16 = .ok (.iload_n 1, 1) := by decide +kernel
theorem dX3_record_17 : decode cX3_record 17 = .ok (.iaload, 1) := by decide +kernel
theorem dX3_record_18 : decode cX3_record 18 = .ok (.goto 4, 3) := by decide +kernel
theorem dX3_record_21 : decode cX3_record 21 = .ok (.iconst (-1), 1) := by decide +kernel
theorem dX3_record_22 : decode cX3_record 22 = .ok (.ireturn, 1) := by decide +kernel
set_option maxRecDepth 20000 in
theorem ggX3_plan_X3_in : GoodIn wsX3_plan wsX3_in := goodIn_r _ [9] (by decide +kernel) (by decide +kernel)
set_option maxRecDepth 20000 in
theorem gX3_plan_X3_in : GoodIn wsX3_plan (va_wsS RX3 49 yX3_in wsX3_in) := goodIn_app (goodIn_of _ (by decide +kernel)) ggX3_plan_X3_in
set_option maxRecDepth 20000 in
theorem ggX3_plan_X3_look : GoodIn wsX3_plan wsX3_look := goodIn_r _ [13, 14, 15, 16, 17, 18, 19, 8, 20, 4, 5, 3, 2, 21, 22, 23, 24, 25, 26, 27, 28, 29, 30, 31, 32, 33, 34, 35, 36, 37, 38, 39, 40, 41, 42, 43, 44] (by decide +kernel) (by decide +kernel)
set_option maxRecDepth 20000 in
theorem gX3_plan_X3_look : GoodIn wsX3_plan (wsV RX3 128 RX3 yX3_look wsX3_look) := goodIn_app (goodIn_of _ (by decide +kernel)) ggX3_plan_X3_look
theorem dX3_plan_0 : decode cX3_plan 0 = .ok (.iload_n 1, 1) := by decide +kernel
theorem dX3_plan_1 : decode cX3_plan 1 = .ok (.i2l, 1) := by decide +kernel
theorem dX3_plan_2 : decode cX3_plan 2 = .ok (.lconst 0, 1) := by decide +kernel
theorem dX3_plan_3 : decode cX3_plan 3 = .ok (.ldc2_w 149, 3) := by decide +kernel
theorem dX3_plan_6 : decode cX3_plan 6 = .ok (.invokestatic 49, 3) := by decide +kernel
theorem dX3_plan_9 : decode cX3_plan 9 = .ok (.ifCond .ne 5, 3) := by decide +kernel
theorem dX3_plan_12 : decode cX3_plan 12 = .ok (.iconst (-1), 1) := by decide +kernel
theorem dX3_plan_13 : decode cX3_plan 13 = .ok (.ireturn, 1) := by decide +kernel
theorem dX3_plan_14 : decode cX3_plan 14 = .ok (.aload_n 0, 1) := by decide +kernel
theorem dX3_plan_15 : decode cX3_plan 15 = .ok (.invokevirtual 128, 3) := by decide +kernel
theorem dX3_plan_18 : decode cX3_plan 18 = .ok (.istore_n 2, 1) := by decide +kernel
theorem dX3_plan_19 : decode cX3_plan 19 = .ok (.iload_n 2, 1) := by decide +kernel
theorem dX3_plan_20 : decode cX3_plan 20 = .ok (.iconst 1, 1) := by decide +kernel
theorem dX3_plan_21 : decode cX3_plan 21 = .ok (.if_icmp .ge 15, 3) := by decide +kernel
theorem dX3_plan_24 : decode cX3_plan 24 = .ok (.iload_n 2, 1) := by decide +kernel
theorem dX3_plan_25 : decode cX3_plan 25 = .ok (.ifCond .ne 8, 3) := by decide +kernel
theorem dX3_plan_28 : decode cX3_plan 28 = .ok (.bipush (-3), 2) := by decide +kernel
theorem dX3_plan_30 : decode cX3_plan 30 = .ok (.goto 5, 3) := by decide +kernel
theorem dX3_plan_33 : decode cX3_plan 33 = .ok (.bipush (-5), 2) := by decide +kernel
theorem dX3_plan_35 : decode cX3_plan 35 = .ok (.ireturn, 1) := by decide +kernel
theorem dX3_plan_36 : decode cX3_plan 36 = .ok (.iload_n 1, 1) := by decide +kernel
theorem dX3_plan_37 : decode cX3_plan 37 = .ok (.ifCond .ne 10, 3) := by decide +kernel
theorem dX3_plan_40 : decode cX3_plan 40 = .ok (.aload_n 0, 1) := by decide +kernel
theorem dX3_plan_41 : decode cX3_plan 41 = .ok (.getfield 119, 3) := by decide +kernel
theorem dX3_plan_44 : decode cX3_plan 44 = .ok (.goto 31, 3) := by decide +kernel
theorem dX3_plan_47 : decode cX3_plan 47 = .ok (.iload_n 1, 1) := by decide +kernel
theorem dX3_plan_48 : decode cX3_plan 48 = .ok (.iconst 1, 1) := by decide +kernel
theorem dX3_plan_49 : decode cX3_plan 49 = .ok (.if_icmp .ne 10, 3) := by decide +kernel
theorem dX3_plan_52 : decode cX3_plan 52 = .ok (.aload_n 0, 1) := by decide +kernel
theorem dX3_plan_53 : decode cX3_plan 53 = .ok (.getfield 113, 3) := by decide +kernel
theorem dX3_plan_56 : decode cX3_plan 56 = .ok (.goto 19, 3) := by decide +kernel
theorem dX3_plan_59 : decode cX3_plan 59 = .ok (.iload_n 1, 1) := by decide +kernel
theorem dX3_plan_60 : decode cX3_plan 60 = .ok (.iconst 2, 1) := by decide +kernel
theorem dX3_plan_61 : decode cX3_plan 61 = .ok (.if_icmp .ne 10, 3) := by decide +kernel
theorem dX3_plan_64 : decode cX3_plan 64 = .ok (.aload_n 0, 1) := by decide +kernel
theorem dX3_plan_65 : decode cX3_plan 65 = .ok (.getfield 107, 3) := by decide +kernel
theorem dX3_plan_68 : decode cX3_plan 68 = .ok (.goto 7, 3) := by decide +kernel
theorem dX3_plan_71 : decode cX3_plan 71 = .ok (.aload_n 0, 1) := by decide +kernel
theorem dX3_plan_72 : decode cX3_plan 72 = .ok (.getfield 110, 3) := by decide +kernel
theorem dX3_plan_75 : decode cX3_plan 75 = .ok (.ireturn, 1) := by decide +kernel
set_option maxRecDepth 20000 in
theorem ggX3_runs_X3_isInode : GoodIn wsX3_runs wsX3_isInode := goodIn_r _ [7, 8, 9, 10, 11, 6, 12, 13, 14, 15, 16, 17, 18, 19, 20, 21, 22, 23, 24, 25, 26, 27, 28] (by decide +kernel) (by decide +kernel)
set_option maxRecDepth 20000 in
theorem gX3_runs_X3_isInode : GoodIn wsX3_runs (wsV RX3 61 RX3 yX3_isInode wsX3_isInode) := goodIn_app (goodIn_of _ (by decide +kernel)) ggX3_runs_X3_isInode
theorem dX3_runs_0 : decode cX3_runs 0 = .ok (.aload_n 0, 1) := by decide +kernel
theorem dX3_runs_1 : decode cX3_runs 1 = .ok (.iload_n 1, 1) := by decide +kernel
theorem dX3_runs_2 : decode cX3_runs 2 = .ok (.iconst 2, 1) := by decide +kernel
theorem dX3_runs_3 : decode cX3_runs 3 = .ok (.invokevirtual 61, 3) := by decide +kernel
theorem dX3_runs_6 : decode cX3_runs 6 = .ok (.ifCond .ne 5, 3) := by decide +kernel
