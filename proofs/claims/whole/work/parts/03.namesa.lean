theorem dX0_init_0 : decode cX0_init 0 = .ok (.aload_n 0, 1) := by decide +kernel
theorem dX0_init_1 : decode cX0_init 1 = .ok (.invokespecial 3, 3) := by decide +kernel
theorem dX0_init_4 : decode cX0_init 4 = .ok (.aload_n 0, 1) := by decide +kernel
theorem dX0_init_5 : decode cX0_init 5 = .ok (.sipush 244, 3) := by decide +kernel
theorem dX0_init_8 : decode cX0_init 8 = .ok (.newarray .long, 2) := by decide +kernel
theorem dX0_init_10 : decode cX0_init 10 = .ok (.putfield 9, 3) := by decide +kernel
theorem dX0_init_13 : decode cX0_init 13 = .ok (.aload_n 0, 1) := by decide +kernel
theorem dX0_init_14 : decode cX0_init 14 = .ok (.getfield 9, 3) := by decide +kernel
theorem dX0_init_17 : decode cX0_init 17 = .ok (.iconst 0, 1) := by decide +kernel
theorem dX0_init_18 : decode cX0_init 18 = .ok (.lconst 1, 1) := by decide +kernel
theorem dX0_init_19 : decode cX0_init 19 = .ok (.lastore, 1) := by decide +kernel
theorem dX0_init_20 : decode cX0_init 20 = .ok (.aload_n 0, 1) := by decide +kernel
theorem dX0_init_21 : decode cX0_init 21 = .ok (.bipush (-3), 2) := by decide +kernel
theorem dX0_init_23 : decode cX0_init 23 = .ok (.putfield 15, 3) := by decide +kernel
theorem dX0_init_26 : decode cX0_init 26 = .ok (.return_, 1) := by decide +kernel
theorem dX0_word_0 : decode cX0_word 0 = .ok (.iload_n 1, 1) := by decide +kernel
theorem dX0_word_1 : decode cX0_word 1 = .ok (.ifCond .lt 21, 3) := by decide +kernel
theorem dX0_word_4 : decode cX0_word 4 = .ok (.iload_n 1, 1) := by decide +kernel
theorem dX0_word_5 : decode cX0_word 5 = .ok (.aload_n 0, 1) := by decide +kernel
theorem dX0_word_6 : decode cX0_word 6 = .ok (.getfield 9, 3) := by decide +kernel
theorem dX0_word_9 : decode cX0_word 9 = .ok (.arraylength, 1) := by decide +kernel
theorem dX0_word_10 : decode cX0_word 10 = .ok (.if_icmp .ge 12, 3) := by decide +kernel
theorem dX0_word_13 : decode cX0_word 13 = .ok (.aload_n 0, 1) := by decide +kernel
theorem dX0_word_14 : decode cX0_word 14 = .ok (.getfield 9, 3) := by decide +kernel
theorem dX0_word_17 : decode cX0_word 17 = .ok (.iload_n 1, 1) := by decide +kernel
theorem dX0_word_18 : decode cX0_word 18 = .ok (.laload, 1) := by decide +kernel
theorem dX0_word_19 : decode cX0_word 19 = .ok (.goto 4, 3) := by decide +kernel
theorem dX0_word_22 : decode cX0_word 22 = .ok (.lconst 0, 1) := by decide +kernel
theorem dX0_word_23 : decode cX0_word 23 = .ok (.lreturn, 1) := by decide +kernel
theorem dX0_write_0 : decode cX0_write 0 = .ok (.aload_n 0, 1) := by decide +kernel
theorem dX0_write_1 : decode cX0_write 1 = .ok (.getfield 19, 3) := by decide +kernel
theorem dX0_write_4 : decode cX0_write 4 = .ok (.ifCond .ne 16, 3) := by decide +kernel
theorem dX0_write_7 : decode cX0_write 7 = .ok (.iload_n 1, 1) := by decide +kernel
theorem dX0_write_8 : decode cX0_write 8 = .ok (.ifCond .lt 12, 3) := by decide +kernel
theorem dX0_write_11 : decode cX0_write 11 = .ok (.iload_n 1, 1) := by decide +kernel
theorem dX0_write_12 : decode cX0_write 12 = .ok (.aload_n 0, 1) := by decide +kernel
theorem dX0_write_13 : decode cX0_write 13 = .ok (.getfield 9, 3) := by decide +kernel
theorem dX0_write_16 : decode cX0_write 16 = .ok (.arraylength, 1) := by decide +kernel
theorem dX0_write_17 : decode cX0_write 17 = .ok (.if_icmp .lt 4, 3) := by decide +kernel
theorem dX0_write_20 : decode cX0_write 20 = .ok (.return_, 1) := by decide +kernel
theorem dX0_write_21 : decode cX0_write 21 = .ok (.aload_n 0, 1) := by decide +kernel
theorem dX0_write_22 : decode cX0_write 22 = .ok (.getfield 15, 3) := by decide +kernel
theorem dX0_write_25 : decode cX0_write 25 = .ok (.ifCond .ne 15, 3) := by decide +kernel
theorem dX0_write_28 : decode cX0_write 28 = .ok (.aload_n 0, 1) := by decide +kernel
theorem dX0_write_29 : decode cX0_write 29 = .ok (.iconst 1, 1) := by decide +kernel
theorem dX0_write_30 : decode cX0_write 30 = .ok (.putfield 19, 3) := by decide +kernel
theorem dX0_write_33 : decode cX0_write 33 = .ok (.aload_n 0, 1) := by decide +kernel
theorem dX0_write_34 : decode cX0_write 34 = .ok (.bipush (-3), 2) := by decide +kernel
theorem dX0_write_36 : decode cX0_write 36 = .ok (.putfield 15, 3) := by decide +kernel
theorem dX0_write_39 : decode cX0_write 39 = .ok (.return_, 1) := by decide +kernel
theorem dX0_write_40 : decode cX0_write 40 = .ok (.aload_n 0, 1) := by decide +kernel
theorem dX0_write_41 : decode cX0_write 41 = .ok (.getfield 15, 3) := by decide +kernel
theorem dX0_write_44 : decode cX0_write 44 = .ok (.bipush (-3), 2) := by decide +kernel
theorem dX0_write_46 : decode cX0_write 46 = .ok (.if_icmp .eq 13, 3) := by decide +kernel
theorem dX0_write_49 : decode cX0_write 49 = .ok (.aload_n 0, 1) := by decide +kernel
theorem dX0_write_50 : decode cX0_write 50 = .ok (.dup, 1) := by decide +kernel
theorem dX0_write_51 : decode cX0_write 51 = .ok (.getfield 15, 3) := by decide +kernel
theorem dX0_write_54 : decode cX0_write 54 = .ok (.iconst 1, 1) := by decide +kernel
theorem dX0_write_55 : decode cX0_write 55 = .ok (.isub, 1) := by decide +kernel
theorem dX0_write_56 : decode cX0_write 56 = .ok (.putfield 15, 3) := by decide +kernel
theorem dX0_write_59 : decode cX0_write 59 = .ok (.aload_n 0, 1) := by decide +kernel
theorem dX0_write_60 : decode cX0_write 60 = .ok (.getfield 9, 3) := by decide +kernel
theorem dX0_write_63 : decode cX0_write 63 = .ok (.iload_n 1, 1) := by decide +kernel
theorem dX0_write_64 : decode cX0_write 64 = .ok (.lload_n 2, 1) := by decide +kernel
theorem dX0_write_65 : decode cX0_write 65 = .ok (.lastore, 1) := by decide +kernel
theorem dX0_write_66 : decode cX0_write 66 = .ok (.aload_n 0, 1) := by decide +kernel
theorem dX0_write_67 : decode cX0_write 67 = .ok (.dup, 1) := by decide +kernel
theorem dX0_write_68 : decode cX0_write 68 = .ok (.getfield 23, 3) := by decide +kernel
theorem dX0_write_71 : decode cX0_write 71 = .ok (.iconst 1, 1) := by decide +kernel
theorem dX0_write_72 : decode cX0_write 72 = .ok (.iadd, 1) := by decide +kernel
theorem dX0_write_73 : decode cX0_write 73 = .ok (.putfield 23, 3) := by decide +kernel
theorem dX0_write_76 : decode cX0_write 76 = .ok (.return_, 1) := by decide +kernel
theorem dX1_init_0 : decode cX1_init 0 = .ok (.aload_n 0, 1) := by decide +kernel
theorem dX1_init_1 : decode cX1_init 1 = .ok (.invokespecial 1, 3) := by decide +kernel
theorem dX1_init_4 : decode cX1_init 4 = .ok (.return_, 1) := by decide +kernel
theorem dX1_set_0 : decode cX1_set 0 = .ok (.aload_n 0, 1) := by decide +kernel
theorem dX1_set_1 : decode cX1_set 1 = .ok (.iload_n 1, 1) := by decide +kernel
theorem dX1_set_2 : decode cX1_set 2 = .ok (.putfield 7, 3) := by decide +kernel
theorem dX1_set_5 : decode cX1_set 5 = .ok (.aload_n 0, 1) := by decide +kernel
theorem dX1_set_6 : decode cX1_set 6 = .ok (.iload_n 2, 1) := by decide +kernel
theorem dX1_set_7 : decode cX1_set 7 = .ok (.putfield 13, 3) := by decide +kernel
theorem dX1_set_10 : decode cX1_set 10 = .ok (.aload_n 0, 1) := by decide +kernel
theorem dX1_set_11 : decode cX1_set 11 = .ok (.iload_n 3, 1) := by decide +kernel
theorem dX1_set_12 : decode cX1_set 12 = .ok (.putfield 16, 3) := by decide +kernel
theorem dX1_set_15 : decode cX1_set 15 = .ok (.return_, 1) := by decide +kernel
set_option maxRecDepth 20000 in
theorem ggX2_init_X0_init : GoodIn wsX2_init wsX0_init := goodIn_r _ [14, 15, 2, 3, 16, 17, 18, 22, 23, 24, 25] (by decide +kernel) (by decide +kernel)
set_option maxRecDepth 20000 in
theorem gX2_init_X0_init : GoodIn wsX2_init (wsX0_init) := ggX2_init_X0_init
set_option maxRecDepth 20000 in
theorem ggX2_init_X1_init : GoodIn wsX2_init wsX1_init := goodIn_r _ [20, 21, 2, 3] (by decide +kernel) (by decide +kernel)
set_option maxRecDepth 20000 in
theorem gX2_init_X1_init_n18 : GoodIn wsX2_init (wsX1_init) := ggX2_init_X1_init
theorem dX2_init_0 : decode cX2_init 0 = .ok (.aload_n 0, 1) := by decide +kernel
theorem dX2_init_1 : decode cX2_init 1 = .ok (.invokespecial 3, 3) := by decide +kernel
theorem dX2_init_4 : decode cX2_init 4 = .ok (.aload_n 0, 1) := by decide +kernel
theorem dX2_init_5 : decode cX2_init 5 = .ok (.new 9, 3) := by decide +kernel
theorem dX2_init_8 : decode cX2_init 8 = .ok (.dup, 1) := by decide +kernel
theorem dX2_init_9 : decode cX2_init 9 = .ok (.invokespecial 11, 3) := by decide +kernel
theorem dX2_init_12 : decode cX2_init 12 = .ok (.putfield 12, 3) := by decide +kernel
theorem dX2_init_15 : decode cX2_init 15 = .ok (.aload_n 0, 1) := by decide +kernel
theorem dX2_init_16 : decode cX2_init 16 = .ok (.new 16, 3) := by decide +kernel
theorem dX2_init_19 : decode cX2_init 19 = .ok (.dup, 1) := by decide +kernel
theorem dX2_init_20 : decode cX2_init 20 = .ok (.invokespecial 18, 3) := by decide +kernel
theorem dX2_init_23 : decode cX2_init 23 = .ok (.putfield 19, 3) := by decide +kernel
theorem dX2_init_26 : decode cX2_init 26 = .ok (.return_, 1) := by decide +kernel
set_option maxRecDepth 20000 in
theorem ggX2_cut_X2_isBelow : GoodIn wsX2_cut wsX2_isBelow := goodIn_r _ [6] (by decide +kernel) (by decide +kernel)
set_option maxRecDepth 20000 in
theorem gX2_cut_X2_isBelow : GoodIn wsX2_cut (va_wsS RX2 23 yX2_isBelow wsX2_isBelow) := goodIn_app (goodIn_of _ (by decide +kernel)) ggX2_cut_X2_isBelow
theorem dX2_cut_0 : decode cX2_cut 0 = .ok (.iload_n 1, 1) := by decide +kernel
theorem dX2_cut_1 : decode cX2_cut 1 = .ok (.bipush (-3), 2) := by decide +kernel
theorem dX2_cut_3 : decode cX2_cut 3 = .ok (.if_icmp .eq 14, 3) := by decide +kernel
theorem dX2_cut_6 : decode cX2_cut 6 = .ok (.iload_n 1, 1) := by decide +kernel
theorem dX2_cut_7 : decode cX2_cut 7 = .ok (.bipush 41, 2) := by decide +kernel
theorem dX2_cut_9 : decode cX2_cut 9 = .ok (.invokestatic 23, 3) := by decide +kernel
theorem dX2_cut_12 : decode cX2_cut 12 = .ok (.ifCond .ne 5, 3) := by decide +kernel
theorem dX2_cut_15 : decode cX2_cut 15 = .ok (.iconst (-1), 1) := by decide +kernel
theorem dX2_cut_16 : decode cX2_cut 16 = .ok (.ireturn, 1) := by decide +kernel
theorem dX2_cut_17 : decode cX2_cut 17 = .ok (.aload_n 0, 1) := by decide +kernel
theorem dX2_cut_18 : decode cX2_cut 18 = .ok (.getfield 12, 3) := by decide +kernel
theorem dX2_cut_21 : decode cX2_cut 21 = .ok (.getfield 27, 3) := by decide +kernel
theorem dX2_cut_24 : decode cX2_cut 24 = .ok (.istore_n 2, 1) := by decide +kernel
theorem dX2_cut_25 : decode cX2_cut 25 = .ok (.aload_n 0, 1) := by decide +kernel
theorem dX2_cut_26 : decode cX2_cut 26 = .ok (.getfield 12, 3) := by decide +kernel
theorem dX2_cut_29 : decode cX2_cut 29 = .ok (.iload_n 1, 1) := by decide +kernel
theorem dX2_cut_30 : decode cX2_cut 30 = .ok (.putfield 27, 3) := by decide +kernel
theorem dX2_cut_33 : decode cX2_cut 33 = .ok (.iload_n 2, 1) := by decide +kernel
theorem dX2_cut_34 : decode cX2_cut 34 = .ok (.ireturn, 1) := by decide +kernel
theorem dX2_isDown_0 : decode cX2_isDown 0 = .ok (.aload_n 0, 1) := by decide +kernel
theorem dX2_isDown_1 : decode cX2_isDown 1 = .ok (.getfield 12, 3) := by decide +kernel
theorem dX2_isDown_4 : decode cX2_isDown 4 = .ok (.getfield 31, 3) := by decide +kernel
theorem dX2_isDown_7 : decode cX2_isDown 7 = .ok (.ifCond .eq 7, 3) := by decide +kernel
theorem dX2_isDown_10 : decode cX2_isDown 10 = .ok (.iconst 1, 1) := by decide +kernel
theorem dX2_isDown_11 : decode cX2_isDown 11 = .ok (.goto 4, 3) := by decide +kernel
theorem dX2_isDown_14 : decode cX2_isDown 14 = .ok (.iconst 0, 1) := by decide +kernel
theorem dX2_isDown_15 : decode cX2_isDown 15 = .ok (.ireturn, 1) := by decide +kernel
set_option maxRecDepth 20000 in
theorem ggX2_make_X2_isOfKind : GoodIn wsX2_make wsX2_isOfKind := goodIn_r _ [7, 8, 9, 6, 10, 11, 12, 13, 14, 1, 15, 16, 17, 18, 19, 20, 21, 22, 23, 63, 64, 65, 66, 67, 68, 69, 70, 71] (by decide +kernel) (by decide +kernel)
set_option maxRecDepth 20000 in
theorem gX2_make_X2_isOfKind : GoodIn wsX2_make (wsV RX2 35 RX2 yX2_isOfKind wsX2_isOfKind) := goodIn_app (goodIn_of _ (by decide +kernel)) ggX2_make_X2_isOfKind
set_option maxRecDepth 20000 in
theorem ggX2_make_X2_isName : GoodIn wsX2_make wsX2_isName := goodIn_r _ [26] (by decide +kernel) (by decide +kernel)
set_option maxRecDepth 20000 in
theorem gX2_make_X2_isName : GoodIn wsX2_make (va_wsS RX2 38 yX2_isName wsX2_isName) := goodIn_app (goodIn_of _ (by decide +kernel)) ggX2_make_X2_isName
set_option maxRecDepth 20000 in
theorem ggX2_make_X2_placeOfName : GoodIn wsX2_make wsX2_placeOfName := goodIn_r _ [30, 31, 32, 33, 6, 34, 1, 35, 36, 37, 15, 16, 17, 18, 19, 20, 21, 22, 23, 38, 39, 40, 63, 64, 65, 66, 67, 68, 69, 70, 71] (by decide +kernel) (by decide +kernel)
set_option maxRecDepth 20000 in
theorem gX2_make_X2_placeOfName : GoodIn wsX2_make (wsV RX2 42 RX2 yX2_placeOfName wsX2_placeOfName) := goodIn_app (goodIn_of _ (by decide +kernel)) ggX2_make_X2_placeOfName
set_option maxRecDepth 20000 in
theorem ggX2_make_X2_leastInodeOfNoKind : GoodIn wsX2_make wsX2_leastInodeOfNoKind := goodIn_r _ [44, 11, 12, 13, 6, 14, 1, 15, 16, 17, 18, 19, 20, 21, 22, 23, 63, 64, 65, 66, 67, 68, 69, 70, 71] (by decide +kernel) (by decide +kernel)
set_option maxRecDepth 20000 in
theorem gX2_make_X2_leastInodeOfNoKind : GoodIn wsX2_make (wsV RX2 46 RX2 yX2_leastInodeOfNoKind wsX2_leastInodeOfNoKind) := goodIn_app (goodIn_of _ (by decide +kernel)) ggX2_make_X2_leastInodeOfNoKind
set_option maxRecDepth 20000 in
theorem ggX2_make_X2_leastPlaceWithoutEntry : GoodIn wsX2_make wsX2_leastPlaceWithoutEntry := goodIn_r _ [48, 31, 32, 33, 6, 34, 1, 35, 36, 37, 15, 16, 17, 18, 19, 20, 21, 22, 23, 63, 64, 65, 66, 67, 68, 69, 70, 71] (by decide +kernel) (by decide +kernel)
set_option maxRecDepth 20000 in
theorem gX2_make_X2_leastPlaceWithoutEntry : GoodIn wsX2_make (wsV RX2 50 RX2 yX2_leastPlaceWithoutEntry wsX2_leastPlaceWithoutEntry) := goodIn_app (goodIn_of _ (by decide +kernel)) ggX2_make_X2_leastPlaceWithoutEntry
set_option maxRecDepth 20000 in
theorem ggX2_make_X2_inodeAt : GoodIn wsX2_make wsX2_inodeAt := goodIn_r _ [17] (by decide +kernel) (by decide +kernel)
set_option maxRecDepth 20000 in
theorem gX2_make_X2_inodeAt : GoodIn wsX2_make (va_wsS RX2 54 yX2_inodeAt wsX2_inodeAt) := goodIn_app (goodIn_of _ (by decide +kernel)) ggX2_make_X2_inodeAt
set_option maxRecDepth 20000 in
theorem ggX2_make_X0_write : GoodIn wsX2_make wsX0_write := goodIn_r _ [52, 53, 23, 54, 55, 68, 69, 70, 71] (by decide +kernel) (by decide +kernel)
set_option maxRecDepth 20000 in
theorem gX2_make_X0_write : GoodIn wsX2_make (wsV RX2 57 RX0 yX0_write wsX0_write) := goodIn_app (goodIn_of _ (by decide +kernel)) ggX2_make_X0_write
set_option maxRecDepth 20000 in
theorem ggX2_make_X2_placeAt : GoodIn wsX2_make wsX2_placeAt := goodIn_r _ [37, 15, 16, 6, 17] (by decide +kernel) (by decide +kernel)
set_option maxRecDepth 20000 in
theorem gX2_make_X2_placeAt : GoodIn wsX2_make (va_wsS RX2 61 yX2_placeAt wsX2_placeAt) := goodIn_app (goodIn_of _ (by decide +kernel)) ggX2_make_X2_placeAt
set_option maxRecDepth 20000 in
theorem ggX2_make_X2_entryOf : GoodIn wsX2_make wsX2_entryOf := goodIn_r _ [58] (by decide +kernel) (by decide +kernel)
set_option maxRecDepth 20000 in
theorem gX2_make_X2_entryOf : GoodIn wsX2_make (va_wsS RX2 64 yX2_entryOf wsX2_entryOf) := goodIn_app (goodIn_of _ (by decide +kernel)) ggX2_make_X2_entryOf
set_option maxRecDepth 20000 in
theorem ggX2_make_X2_answerOrDown : GoodIn wsX2_make wsX2_answerOrDown := goodIn_r _ [62, 1, 2, 63, 64, 65, 66, 67, 68, 69, 70, 71] (by decide +kernel) (by decide +kernel)
set_option maxRecDepth 20000 in
theorem gX2_make_X2_answerOrDown : GoodIn wsX2_make (wsV RX2 67 RX2 yX2_answerOrDown wsX2_answerOrDown) := goodIn_app (goodIn_of _ (by decide +kernel)) ggX2_make_X2_answerOrDown
theorem dX2_make_0 : decode cX2_make 0 = .ok (.aload_n 0, 1) := by decide +kernel
theorem dX2_make_1 : decode cX2_make 1 = .ok (.iload_n 1, 1) := by decide +kernel
theorem dX2_make_2 : decode cX2_make 2 = .ok (.iconst 1, 1) := by decide +kernel
theorem dX2_make_3 : decode cX2_make 3 = .ok (.invokevirtual 35, 3) := by decide +kernel
theorem dX2_make_6 : decode cX2_make 6 = .ok (.ifCond .eq 20, 3) := by decide +kernel
theorem dX2_make_9 : decode cX2_make 9 = .ok (.iload_n 2, 1) := by decide +kernel
theorem dX2_make_10 : decode cX2_make 10 = .ok (.invokestatic 38, 3) := by decide +kernel
theorem dX2_make_13 : decode cX2_make 13 = .ok (.ifCond .eq 13, 3) := by decide +kernel
theorem dX2_make_16 : decode cX2_make 16 = .ok (.iload_n 3, 1) := by decide +kernel
theorem dX2_make_17 : decode cX2_make 17 = .ok (.iconst 1, 1) := by decide +kernel
theorem dX2_make_18 : decode cX2_make 18 = .ok (.if_icmp .eq 10, 3) := by decide +kernel
theorem dX2_make_21 : decode cX2_make 21 = .ok (.iload_n 3, 1) := by decide +kernel
theorem dX2_make_22 : decode cX2_make 22 = .ok (.iconst 2, 1) := by decide +kernel
theorem dX2_make_23 : decode cX2_make 23 = .ok (.if_icmp .eq 5, 3) := by decide +kernel
theorem dX2_make_26 : decode cX2_make 26 = .ok (.iconst (-1), 1) := by decide +kernel
theorem dX2_make_27 : decode cX2_make 27 = .ok (.ireturn, 1) := by decide +kernel
theorem dX2_make_28 : decode cX2_make 28 = .ok (.aload_n 0, 1) := by decide +kernel
theorem dX2_make_29 : decode cX2_make 29 = .ok (.getfield 12, 3) := by decide +kernel
theorem dX2_make_32 : decode cX2_make 32 = .ok (.getfield 31, 3) := by decide +kernel
theorem dX2_make_35 : decode cX2_make 35 = .ok (.ifCond .eq 6, 3) := by decide +kernel
theorem dX2_make_38 : decode cX2_make 38 = .ok (.bipush (-2), 2) := by decide +kernel
theorem dX2_make_40 : decode cX2_make 40 = .ok (.ireturn, 1) := by decide +kernel
theorem dX2_make_41 : decode cX2_make 41 = .ok (.aload_n 0, 1) := by decide +kernel
theorem dX2_make_42 : decode cX2_make 42 = .ok (.iload_n 1, 1) := by decide +kernel
theorem dX2_make_43 : decode cX2_make 43 = .ok (.iload_n 2, 1) := by decide +kernel
theorem dX2_make_44 : decode cX2_make 44 = .ok (.invokevirtual 42, 3) := by decide +kernel
theorem dX2_make_47 : decode cX2_make 47 = .ok (.bipush (-3), 2) := by decide +kernel
theorem dX2_make_49 : decode cX2_make 49 = .ok (.if_icmp .eq 6, 3) := by decide +kernel
theorem dX2_make_52 : decode cX2_make 52 = .ok (.bipush (-4), 2) := by decide +kernel
theorem dX2_make_54 : decode cX2_make 54 = .ok (.ireturn, 1) := by decide +kernel
theorem dX2_make_55 : decode cX2_make 55 = .ok (.aload_n 0, 1) := by decide +kernel
theorem dX2_make_56 : decode cX2_make 56 = .ok (.invokevirtual 46, 3) := by decide +kernel
theorem dX2_make_59 : decode cX2_make 59 = .ok (.istore 4, 2) := by decide +kernel
theorem dX2_make_61 : decode cX2_make 61 = .ok (.aload_n 0, 1) := by decide +kernel
theorem dX2_make_62 : decode cX2_make 62 = .ok (.iload_n 1, 1) := by decide +kernel
theorem dX2_make_63 : decode cX2_make 63 = .ok (.invokevirtual 50, 3) := by decide +kernel
theorem dX2_make_66 : decode cX2_make 66 = .ok (.istore 5, 2) := by decide +kernel
theorem dX2_make_68 : decode cX2_make 68 = .ok (.iload 4, 2) := by decide +kernel
theorem dX2_make_70 : decode cX2_make 70 = .ok (.bipush (-3), 2) := by decide +kernel
theorem dX2_make_72 : decode cX2_make 72 = .ok (.if_icmp .eq 10, 3) := by decide +kernel
theorem dX2_make_75 : decode cX2_make 75 = .ok (.iload 5, 2) := by decide +kernel
theorem dX2_make_77 : decode cX2_make 77 = .ok (.bipush (-3), 2) := by decide +kernel
theorem dX2_make_79 : decode cX2_make 79 = .ok (.if_icmp .ne 6, 3) := by decide +kernel
theorem dX2_make_82 : decode cX2_make 82 = .ok (.bipush (-5), 2) := by decide +kernel
theorem dX2_make_84 : decode cX2_make 84 = .ok (.ireturn, 1) := by decide +kernel
theorem dX2_make_85 : decode cX2_make 85 = .ok (.aload_n 0, 1) := by decide +kernel
theorem dX2_make_86 : decode cX2_make 86 = .ok (.getfield 12, 3) := by decide +kernel
theorem dX2_make_89 : decode cX2_make 89 = .ok (.iload 4, 2) := by decide +kernel
theorem dX2_make_91 : decode cX2_make 91 = .ok (.iconst 1, 1) := by decide +kernel
theorem dX2_make_92 : decode cX2_make 92 = .ok (.invokestatic 54, 3) := by decide +kernel
theorem dX2_make_95 : decode cX2_make 95 = .ok (.lconst 0, 1) := by decide +kernel
theorem dX2_make_96 : decode cX2_make 96 = .ok (.invokevirtual 57, 3) := by decide +kernel
theorem dX2_make_99 : decode cX2_make 99 = .ok (.iconst 0, 1) := by decide +kernel
theorem dX2_make_100 : decode cX2_make 100 = .ok (.istore 6, 2) := by decide +kernel
theorem dX2_make_102 : decode cX2_make 102 = .ok (.iload 6, 2) := by decide +kernel
theorem dX2_make_104 : decode cX2_make 104 = .ok (.bipush 8, 2) := by decide +kernel
theorem dX2_make_106 : decode cX2_make 106 = .ok (.if_icmp .ge 24, 3) := by decide +kernel
theorem dX2_make_109 : decode cX2_make 109 = .ok (.aload_n 0, 1) := by decide +kernel
theorem dX2_make_110 : decode cX2_make 110 = .ok (.getfield 12, 3) := by decide +kernel
theorem dX2_make_113 : decode cX2_make 113 = .ok (.iload 4, 2) := by decide +kernel
theorem dX2_make_115 : decode cX2_make 115 = .ok (.iload 6, 2) := by decide +kernel
theorem dX2_make_117 : decode cX2_make 117 = .ok (.invokestatic 61, 3) := by decide +kernel
theorem dX2_make_120 : decode cX2_make 120 = .ok (.lconst 0, 1) := by decide +kernel
theorem dX2_make_121 : decode cX2_make 121 = .ok (.invokevirtual 57, 3) := by decide +kernel
theorem dX2_make_124 : decode cX2_make 124 = .ok (.iinc 6 1, 3) := by decide +kernel
theorem dX2_make_127 : decode cX2_make 127 = .ok (.goto (-25), 3) := by decide +kernel
theorem dX2_make_130 : decode cX2_make 130 = .ok (.aload_n 0, 1) := by decide +kernel
theorem dX2_make_131 : decode cX2_make 131 = .ok (.getfield 12, 3) := by decide +kernel
theorem dX2_make_134 : decode cX2_make 134 = .ok (.iload 4, 2) := by decide +kernel
theorem dX2_make_136 : decode cX2_make 136 = .ok (.iconst 0, 1) := by decide +kernel
theorem dX2_make_137 : decode cX2_make 137 = .ok (.invokestatic 54, 3) := by decide +kernel
theorem dX2_make_140 : decode cX2_make 140 = .ok (.iload_n 3, 1) := by decide +kernel
theorem dX2_make_141 : decode cX2_make 141 = .ok (.i2l, 1) := by decide +kernel
theorem dX2_make_142 : decode cX2_make 142 = .ok (.invokevirtual 57, 3) := by decide +kernel
theorem dX2_make_145 : decode cX2_make 145 = .ok (.aload_n 0, 1) := by decide +kernel
theorem dX2_make_146 : decode cX2_make 146 = .ok (.getfield 12, 3) := by decide +kernel
theorem dX2_make_149 : decode cX2_make 149 = .ok (.iload_n 1, 1) := by decide +kernel
theorem dX2_make_150 : decode cX2_make 150 = .ok (.iload 5, 2) := by decide +kernel
theorem dX2_make_152 : decode cX2_make 152 = .ok (.invokestatic 61, 3) := by decide +kernel
theorem dX2_make_155 : decode cX2_make 155 = .ok (.iload 4, 2) := by decide +kernel
theorem dX2_make_157 : decode cX2_make 157 = .ok (.iload_n 2, 1) := by decide +kernel
theorem dX2_make_158 : decode cX2_make 158 = .ok (.invokestatic 64, 3) := by decide +kernel
theorem dX2_make_161 : decode cX2_make 161 = .ok (.i2l, 1) := by decide +kernel
theorem dX2_make_162 : decode cX2_make 162 = .ok (.invokevirtual 57, 3) := by decide +kernel
theorem dX2_make_165 : decode cX2_make 165 = .ok (.aload_n 0, 1) := by decide +kernel
theorem dX2_make_166 : decode cX2_make 166 = .ok (.iload 4, 2) := by decide +kernel
theorem dX2_make_168 : decode cX2_make 168 = .ok (.invokevirtual 67, 3) := by decide +kernel
theorem dX2_make_171 : decode cX2_make 171 = .ok (.ireturn, 1) := by decide +kernel
set_option maxRecDepth 20000 in
theorem ggX2_append_X2_isOfKind : GoodIn wsX2_append wsX2_isOfKind := goodIn_r _ [7, 8, 9, 6, 10, 11, 12, 13, 14, 1, 15, 16, 17, 18, 19, 20, 21, 22, 23, 63, 64, 65, 66, 67, 68, 69, 70, 71] (by decide +kernel) (by decide +kernel)
set_option maxRecDepth 20000 in
theorem gX2_append_X2_isOfKind : GoodIn wsX2_append (wsV RX2 35 RX2 yX2_isOfKind wsX2_isOfKind) := goodIn_app (goodIn_of _ (by decide +kernel)) ggX2_append_X2_isOfKind
set_option maxRecDepth 20000 in
theorem ggX2_append_X2_sizeOf : GoodIn wsX2_append wsX2_sizeOf := goodIn_r _ [27, 1, 15, 16, 6, 17, 18, 19, 20, 21, 22, 23, 63, 64, 65, 66, 67, 68, 69, 70, 71] (by decide +kernel) (by decide +kernel)
set_option maxRecDepth 20000 in
theorem gX2_append_X2_sizeOf : GoodIn wsX2_append (wsV RX2 70 RX2 yX2_sizeOf wsX2_sizeOf) := goodIn_app (goodIn_of _ (by decide +kernel)) ggX2_append_X2_sizeOf
set_option maxRecDepth 20000 in
theorem ggX2_append_X2_usedBlocks : GoodIn wsX2_append wsX2_usedBlocks := goodIn_r _ [31, 32, 33, 34, 6, 35, 11, 12, 13, 14, 1, 15, 16, 17, 18, 19, 20, 21, 22, 23, 24, 25, 26, 27, 36, 37, 38, 39, 40, 41, 42, 63, 64, 65, 66, 67, 68, 69, 70, 71] (by decide +kernel) (by decide +kernel)
set_option maxRecDepth 20000 in
theorem gX2_append_X2_usedBlocks : GoodIn wsX2_append (wsV RX2 73 RX2 yX2_usedBlocks wsX2_usedBlocks) := goodIn_app (goodIn_of _ (by decide +kernel)) ggX2_append_X2_usedBlocks
set_option maxRecDepth 20000 in
theorem ggX2_append_X2_leastFree : GoodIn wsX2_append wsX2_leastFree := goodIn_r _ [45, 46, 47, 6, 48] (by decide +kernel) (by decide +kernel)
set_option maxRecDepth 20000 in
theorem gX2_append_X2_leastFree : GoodIn wsX2_append (va_wsS RX2 77 yX2_leastFree wsX2_leastFree) := goodIn_app (goodIn_of _ (by decide +kernel)) ggX2_append_X2_leastFree
set_option maxRecDepth 20000 in
theorem ggX2_append_X2_dataAt : GoodIn wsX2_append wsX2_dataAt := goodIn_r _ [51] (by decide +kernel) (by decide +kernel)
set_option maxRecDepth 20000 in
theorem gX2_append_X2_dataAt : GoodIn wsX2_append (va_wsS RX2 81 yX2_dataAt wsX2_dataAt) := goodIn_app (goodIn_of _ (by decide +kernel)) ggX2_append_X2_dataAt
set_option maxRecDepth 20000 in
theorem ggX2_append_X0_write : GoodIn wsX2_append wsX0_write := goodIn_r _ [55, 56, 23, 57, 58, 68, 69, 70, 71] (by decide +kernel) (by decide +kernel)
set_option maxRecDepth 20000 in
theorem gX2_append_X0_write : GoodIn wsX2_append (wsV RX2 57 RX0 yX0_write wsX0_write) := goodIn_app (goodIn_of _ (by decide +kernel)) ggX2_append_X0_write
set_option maxRecDepth 20000 in
theorem ggX2_append_X2_placeAt : GoodIn wsX2_append wsX2_placeAt := goodIn_r _ [42, 15, 16, 6, 17] (by decide +kernel) (by decide +kernel)
set_option maxRecDepth 20000 in
theorem gX2_append_X2_placeAt : GoodIn wsX2_append (va_wsS RX2 61 yX2_placeAt wsX2_placeAt) := goodIn_app (goodIn_of _ (by decide +kernel)) ggX2_append_X2_placeAt
set_option maxRecDepth 20000 in
theorem ggX2_append_X2_inodeAt : GoodIn wsX2_append wsX2_inodeAt := goodIn_r _ [17] (by decide +kernel) (by decide +kernel)
set_option maxRecDepth 20000 in
theorem gX2_append_X2_inodeAt : GoodIn wsX2_append (va_wsS RX2 54 yX2_inodeAt wsX2_inodeAt) := goodIn_app (goodIn_of _ (by decide +kernel)) ggX2_append_X2_inodeAt
set_option maxRecDepth 20000 in
theorem ggX2_append_X2_answerOrDown : GoodIn wsX2_append wsX2_answerOrDown := goodIn_r _ [62, 1, 2, 63, 64, 65, 66, 67, 68, 69, 70, 71] (by decide +kernel) (by decide +kernel)
set_option maxRecDepth 20000 in
theorem gX2_append_X2_answerOrDown : GoodIn wsX2_append (wsV RX2 67 RX2 yX2_answerOrDown wsX2_answerOrDown) := goodIn_app (goodIn_of _ (by decide +kernel)) ggX2_append_X2_answerOrDown
theorem dX2_append_0 : decode cX2_append 0 = .ok (.aload_n 0, 1) := by decide +kernel
theorem dX2_append_1 : decode cX2_append 1 = .ok (.iload_n 1, 1) := by decide +kernel
theorem dX2_append_2 : decode cX2_append 2 = .ok (.iconst 2, 1) := by decide +kernel
theorem dX2_append_3 : decode cX2_append 3 = .ok (.invokevirtual 35, 3) := by decide +kernel
theorem dX2_append_6 : decode cX2_append 6 = .ok (.ifCond .ne 5, 3) := by decide +kernel
theorem dX2_append_9 : decode cX2_append 9 = .ok (.iconst (-1), 1) := by decide +kernel
theorem dX2_append_10 : decode cX2_append 10 = .ok (.ireturn, 1) := by decide +kernel
theorem dX2_append_11 : decode cX2_append 11 = .ok (.aload_n 0, 1) := by decide +kernel
theorem dX2_append_12 : decode cX2_append 12 = .ok (.getfield 12, 3) := by decide +kernel
theorem dX2_append_15 : decode cX2_append 15 = .ok (.getfield 31, 3) := by decide +kernel
theorem dX2_append_18 : decode cX2_append 18 = .ok (.ifCond .eq 6, 3) := by decide +kernel
theorem dX2_append_21 : decode cX2_append 21 = .ok (.bipush (-2), 2) := by decide +kernel
theorem dX2_append_23 : decode cX2_append 23 = .ok (.ireturn, 1) := by decide +kernel
theorem dX2_append_24 : decode cX2_append 24 = .ok (.aload_n 0, 1) := by decide +kernel
theorem dX2_append_25 : decode cX2_append 25 = .ok (.iload_n 1, 1) := by decide +kernel
theorem dX2_append_26 : decode cX2_append 26 = .ok (.invokevirtual 70, 3) := by decide +kernel
theorem dX2_append_29 : decode cX2_append 29 = .ok (.istore 8, 2) := by decide +kernel
theorem dX2_append_31 : decode cX2_append 31 = .ok (.aload_n 0, 1) := by decide +kernel
theorem dX2_append_32 : decode cX2_append 32 = .ok (.invokevirtual 73, 3) := by decide +kernel
theorem dX2_append_35 : decode cX2_append 35 = .ok (.invokestatic 77, 3) := by decide +kernel
theorem dX2_append_38 : decode cX2_append 38 = .ok (.istore 9, 2) := by decide +kernel
theorem dX2_append_40 : decode cX2_append 40 = .ok (.iload 8, 2) := by decide +kernel
theorem dX2_append_42 : decode cX2_append 42 = .ok (.bipush 8, 2) := by decide +kernel
theorem dX2_append_44 : decode cX2_append 44 = .ok (.if_icmp .ge 10, 3) := by decide +kernel
theorem dX2_append_47 : decode cX2_append 47 = .ok (.iload 9, 2) := by decide +kernel
theorem dX2_append_49 : decode cX2_append 49 = .ok (.bipush (-3), 2) := by decide +kernel
theorem dX2_append_51 : decode cX2_append 51 = .ok (.if_icmp .ne 6, 3) := by decide +kernel
theorem dX2_append_54 : decode cX2_append 54 = .ok (.bipush (-5), 2) := by decide +kernel
theorem dX2_append_56 : decode cX2_append 56 = .ok (.ireturn, 1) := by decide +kernel
theorem dX2_append_57 : decode cX2_append 57 = .ok (.aload_n 0, 1) := by decide +kernel
theorem dX2_append_58 : decode cX2_append 58 = .ok (.getfield 12, 3) := by decide +kernel
theorem dX2_append_61 : decode cX2_append 61 = .ok (.iload 9, 2) := by decide +kernel
theorem dX2_append_63 : decode cX2_append 63 = .ok (.iconst 0, 1) := by decide +kernel
theorem dX2_append_64 : decode cX2_append 64 = .ok (.invokestatic 81, 3) := by decide +kernel
theorem dX2_append_67 : decode cX2_append 67 = .ok (.lload_n 2, 1) := by decide +kernel
theorem dX2_append_68 : decode cX2_append 68 = .ok (.invokevirtual 57, 3) := by decide +kernel
theorem dX2_append_71 : decode cX2_append 71 = .ok (.aload_n 0, 1) := by decide +kernel
theorem dX2_append_72 : decode cX2_append 72 = .ok (.getfield 12, 3) := by decide +kernel
theorem dX2_append_75 : decode cX2_append 75 = .ok (.iload 9, 2) := by decide +kernel
theorem dX2_append_77 : decode cX2_append 77 = .ok (.iconst 1, 1) := by decide +kernel
theorem dX2_append_78 : decode cX2_append 78 = .ok (.invokestatic 81, 3) := by decide +kernel
theorem dX2_append_81 : decode cX2_append 81 = .ok (.lload 4, 2) := by decide +kernel
theorem dX2_append_83 : decode cX2_append 83 = .ok (.invokevirtual 57, 3) := by decide +kernel
theorem dX2_append_86 : decode cX2_append 86 = .ok (.aload_n 0, 1) := by decide +kernel
theorem dX2_append_87 : decode cX2_append 87 = .ok (.getfield 12, 3) := by decide +kernel
theorem dX2_append_90 : decode cX2_append 90 = .ok (.iload 9, 2) := by decide +kernel
theorem dX2_append_92 : decode cX2_append 92 = .ok (.iconst 2, 1) := by decide +kernel
theorem dX2_append_93 : decode cX2_append 93 = .ok (.invokestatic 81, 3) := by decide +kernel
theorem dX2_append_96 : decode cX2_append 96 = .ok (.lload 6, 2) := by decide +kernel
theorem dX2_append_98 : decode cX2_append 98 = .ok (.invokevirtual 57, 3) := by decide +kernel
theorem dX2_append_101 : decode cX2_append 101 = .ok (.aload_n 0, 1) := by decide +kernel
theorem dX2_append_102 : decode cX2_append 102 = .ok (.getfield 12, 3) := by decide +kernel
theorem dX2_append_105 : decode cX2_append 105 = .ok (.iload_n 1, 1) := by decide +kernel
theorem dX2_append_106 : decode cX2_append 106 = .ok (.iload 8, 2) := by decide +kernel
theorem dX2_append_108 : decode cX2_append 108 = .ok (.invokestatic 61, 3) := by decide +kernel
theorem dX2_append_111 : decode cX2_append 111 = .ok (.iload 9, 2) := by decide +kernel
theorem dX2_append_113 : decode cX2_append 113 = .ok (.i2l, 1) := by decide +kernel
theorem dX2_append_114 : decode cX2_append 114 = .ok (.invokevirtual 57, 3) := by decide +kernel
theorem dX2_append_117 : decode cX2_append 117 = .ok (.aload_n 0, 1) := by decide +kernel
theorem dX2_append_118 : decode cX2_append 118 = .ok (.getfield 12, 3) := by decide +kernel
theorem dX2_append_121 : decode cX2_append 121 = .ok (.iload_n 1, 1) := by decide +kernel
theorem dX2_append_122 : decode cX2_append 122 = .ok (.iconst 1, 1) := by decide +kernel
theorem dX2_append_123 : decode cX2_append 123 = .ok (.invokestatic 54, 3) := by decide +kernel
theorem dX2_append_126 : decode cX2_append 126 = .ok (.iload 8, 2) := by decide +kernel
theorem dX2_append_128 : decode cX2_append 128 = .ok (.iconst 1, 1) := by decide +kernel
theorem dX2_append_129 : decode cX2_append 129 = .ok (.iadd, 1) := by decide +kernel
theorem dX2_append_130 : decode cX2_append 130 = .ok (.i2l, 1) := by decide +kernel
theorem dX2_append_131 : decode cX2_append 131 = .ok (.invokevirtual 57, 3) := by decide +kernel
theorem dX2_append_134 : decode cX2_append 134 = .ok (.aload_n 0, 1) := by decide +kernel
theorem dX2_append_135 : decode cX2_append 135 = .ok (.iload 8, 2) := by decide +kernel
theorem dX2_append_137 : decode cX2_append 137 = .ok (.iconst 1, 1) := by decide +kernel
theorem dX2_append_138 : decode cX2_append 138 = .ok (.iadd, 1) := by decide +kernel
theorem dX2_append_139 : decode cX2_append 139 = .ok (.invokevirtual 67, 3) := by decide +kernel
theorem dX2_append_142 : decode cX2_append 142 = .ok (.ireturn, 1) := by decide +kernel
set_option maxRecDepth 20000 in
theorem ggX2_put_X2_isDataOfFile : GoodIn wsX2_put wsX2_isDataOfFile := goodIn_r _ [7, 8, 9, 10, 6, 11, 12, 13, 14, 15, 16, 17, 18, 1, 19, 20, 21, 22, 23, 24, 25, 26, 27, 28, 29, 30, 31, 53, 54, 55, 56, 57, 58, 59, 60, 61] (by decide +kernel) (by decide +kernel)
set_option maxRecDepth 20000 in
theorem gX2_put_X2_isDataOfFile : GoodIn wsX2_put (wsV RX2 84 RX2 yX2_isDataOfFile wsX2_isDataOfFile) := goodIn_app (goodIn_of _ (by decide +kernel)) ggX2_put_X2_isDataOfFile
set_option maxRecDepth 20000 in
theorem ggX2_put_X2_placeOf : GoodIn wsX2_put wsX2_placeOf := goodIn_r _ [35, 1, 36, 37, 6, 38, 19, 20, 21, 22, 23, 24, 25, 26, 27, 53, 54, 55, 56, 57, 58, 59, 60, 61] (by decide +kernel) (by decide +kernel)
set_option maxRecDepth 20000 in
theorem gX2_put_X2_placeOf : GoodIn wsX2_put (wsV RX2 88 RX2 yX2_placeOf wsX2_placeOf) := goodIn_app (goodIn_of _ (by decide +kernel)) ggX2_put_X2_placeOf
set_option maxRecDepth 20000 in
theorem ggX2_put_X2_dataAt : GoodIn wsX2_put wsX2_dataAt := goodIn_r _ [41] (by decide +kernel) (by decide +kernel)
set_option maxRecDepth 20000 in
theorem gX2_put_X2_dataAt : GoodIn wsX2_put (va_wsS RX2 81 yX2_dataAt wsX2_dataAt) := goodIn_app (goodIn_of _ (by decide +kernel)) ggX2_put_X2_dataAt
set_option maxRecDepth 20000 in
theorem ggX2_put_X0_write : GoodIn wsX2_put wsX0_write := goodIn_r _ [45, 46, 27, 47, 48, 58, 59, 60, 61] (by decide +kernel) (by decide +kernel)
set_option maxRecDepth 20000 in
theorem gX2_put_X0_write : GoodIn wsX2_put (wsV RX2 57 RX0 yX0_write wsX0_write) := goodIn_app (goodIn_of _ (by decide +kernel)) ggX2_put_X0_write
set_option maxRecDepth 20000 in
theorem ggX2_put_X2_answerOrDown : GoodIn wsX2_put wsX2_answerOrDown := goodIn_r _ [52, 1, 2, 53, 54, 55, 56, 57, 58, 59, 60, 61] (by decide +kernel) (by decide +kernel)
set_option maxRecDepth 20000 in
theorem gX2_put_X2_answerOrDown : GoodIn wsX2_put (wsV RX2 67 RX2 yX2_answerOrDown wsX2_answerOrDown) := goodIn_app (goodIn_of _ (by decide +kernel)) ggX2_put_X2_answerOrDown
theorem dX2_put_0 : decode cX2_put 0 = .ok (.aload_n 0, 1) := by decide +kernel
theorem dX2_put_1 : decode cX2_put 1 = .ok (.iload_n 1, 1) := by decide +kernel
theorem dX2_put_2 : decode cX2_put 2 = .ok (.iload_n 2, 1) := by decide +kernel
theorem dX2_put_3 : decode cX2_put 3 = .ok (.iload_n 3, 1) := by decide +kernel
theorem dX2_put_4 : decode cX2_put 4 = .ok (.invokevirtual 84, 3) := by decide +kernel
theorem dX2_put_7 : decode cX2_put 7 = .ok (.ifCond .ne 5, 3) := by decide +kernel
theorem dX2_put_10 : decode cX2_put 10 = .ok (.iconst (-1), 1) := by decide +kernel
theorem dX2_put_11 : decode cX2_put 11 = .ok (.ireturn, 1) := by decide +kernel
theorem dX2_put_12 : decode cX2_put 12 = .ok (.aload_n 0, 1) := by decide +kernel
theorem dX2_put_13 : decode cX2_put 13 = .ok (.getfield 12, 3) := by decide +kernel
theorem dX2_put_16 : decode cX2_put 16 = .ok (.getfield 31, 3) := by decide +kernel
theorem dX2_put_19 : decode cX2_put 19 = .ok (.ifCond .eq 6, 3) := by decide +kernel
theorem dX2_put_22 : decode cX2_put 22 = .ok (.bipush (-2), 2) := by decide +kernel
theorem dX2_put_24 : decode cX2_put 24 = .ok (.ireturn, 1) := by decide +kernel
theorem dX2_put_25 : decode cX2_put 25 = .ok (.aload_n 0, 1) := by decide +kernel
theorem dX2_put_26 : decode cX2_put 26 = .ok (.getfield 12, 3) := by decide +kernel
theorem dX2_put_29 : decode cX2_put 29 = .ok (.aload_n 0, 1) := by decide +kernel
theorem dX2_put_30 : decode cX2_put 30 = .ok (.iload_n 1, 1) := by decide +kernel
theorem dX2_put_31 : decode cX2_put 31 = .ok (.iload_n 2, 1) := by decide +kernel
theorem dX2_put_32 : decode cX2_put 32 = .ok (.invokevirtual 88, 3) := by decide +kernel
theorem dX2_put_35 : decode cX2_put 35 = .ok (.iload_n 3, 1) := by decide +kernel
theorem dX2_put_36 : decode cX2_put 36 = .ok (.invokestatic 81, 3) := by decide +kernel
theorem dX2_put_39 : decode cX2_put 39 = .ok (.lload 4, 2) := by decide +kernel
theorem dX2_put_41 : decode cX2_put 41 = .ok (.invokevirtual 57, 3) := by decide +kernel
theorem dX2_put_44 : decode cX2_put 44 = .ok (.aload_n 0, 1) := by decide +kernel
theorem dX2_put_45 : decode cX2_put 45 = .ok (.iconst 1, 1) := by decide +kernel
theorem dX2_put_46 : decode cX2_put 46 = .ok (.invokevirtual 67, 3) := by decide +kernel
theorem dX2_put_49 : decode cX2_put 49 = .ok (.ireturn, 1) := by decide +kernel
set_option maxRecDepth 20000 in
theorem ggX2_remove_X2_isOfKind : GoodIn wsX2_remove wsX2_isOfKind := goodIn_r _ [7, 8, 9, 6, 10, 11, 12, 13, 14, 1, 15, 16, 17, 18, 19, 20, 21, 22, 23, 59, 60, 61, 62, 63, 64, 65, 66, 67] (by decide +kernel) (by decide +kernel)
set_option maxRecDepth 20000 in
theorem gX2_remove_X2_isOfKind : GoodIn wsX2_remove (wsV RX2 35 RX2 yX2_isOfKind wsX2_isOfKind) := goodIn_app (goodIn_of _ (by decide +kernel)) ggX2_remove_X2_isOfKind
set_option maxRecDepth 20000 in
theorem ggX2_remove_X2_isName : GoodIn wsX2_remove wsX2_isName := goodIn_r _ [26] (by decide +kernel) (by decide +kernel)
set_option maxRecDepth 20000 in
theorem gX2_remove_X2_isName : GoodIn wsX2_remove (va_wsS RX2 38 yX2_isName wsX2_isName) := goodIn_app (goodIn_of _ (by decide +kernel)) ggX2_remove_X2_isName
set_option maxRecDepth 20000 in
theorem ggX2_remove_X2_placeOfName : GoodIn wsX2_remove wsX2_placeOfName := goodIn_r _ [30, 31, 32, 33, 6, 34, 1, 35, 36, 37, 15, 16, 17, 18, 19, 20, 21, 22, 23, 38, 39, 40, 59, 60, 61, 62, 63, 64, 65, 66, 67] (by decide +kernel) (by decide +kernel)
set_option maxRecDepth 20000 in
theorem gX2_remove_X2_placeOfName : GoodIn wsX2_remove (wsV RX2 42 RX2 yX2_placeOfName wsX2_placeOfName) := goodIn_app (goodIn_of _ (by decide +kernel)) ggX2_remove_X2_placeOfName
set_option maxRecDepth 20000 in
theorem ggX2_remove_X2_placeOf : GoodIn wsX2_remove wsX2_placeOf := goodIn_r _ [34, 1, 35, 36, 6, 37, 15, 16, 17, 18, 19, 20, 21, 22, 23, 59, 60, 61, 62, 63, 64, 65, 66, 67] (by decide +kernel) (by decide +kernel)
set_option maxRecDepth 20000 in
theorem gX2_remove_X2_placeOf : GoodIn wsX2_remove (wsV RX2 88 RX2 yX2_placeOf wsX2_placeOf) := goodIn_app (goodIn_of _ (by decide +kernel)) ggX2_remove_X2_placeOf
set_option maxRecDepth 20000 in
theorem ggX2_remove_X2_inodeOfEntry : GoodIn wsX2_remove wsX2_inodeOfEntry := goodIn_r _ [43] (by decide +kernel) (by decide +kernel)
set_option maxRecDepth 20000 in
theorem gX2_remove_X2_inodeOfEntry : GoodIn wsX2_remove (va_wsS RX2 91 yX2_inodeOfEntry wsX2_inodeOfEntry) := goodIn_app (goodIn_of _ (by decide +kernel)) ggX2_remove_X2_inodeOfEntry
set_option maxRecDepth 20000 in
theorem ggX2_remove_X2_kindOf : GoodIn wsX2_remove wsX2_kindOf := goodIn_r _ [14, 1, 15, 16, 6, 17, 18, 19, 20, 21, 22, 23, 59, 60, 61, 62, 63, 64, 65, 66, 67] (by decide +kernel) (by decide +kernel)
set_option maxRecDepth 20000 in
theorem gX2_remove_X2_kindOf : GoodIn wsX2_remove (wsV RX2 94 RX2 yX2_kindOf wsX2_kindOf) := goodIn_app (goodIn_of _ (by decide +kernel)) ggX2_remove_X2_kindOf
set_option maxRecDepth 20000 in
theorem ggX2_remove_X2_entriesOf : GoodIn wsX2_remove wsX2_entriesOf := goodIn_r _ [47, 31, 32, 33, 6, 34, 1, 35, 36, 37, 15, 16, 17, 18, 19, 20, 21, 22, 23, 59, 60, 61, 62, 63, 64, 65, 66, 67] (by decide +kernel) (by decide +kernel)
set_option maxRecDepth 20000 in
theorem gX2_remove_X2_entriesOf : GoodIn wsX2_remove (wsV RX2 97 RX2 yX2_entriesOf wsX2_entriesOf) := goodIn_app (goodIn_of _ (by decide +kernel)) ggX2_remove_X2_entriesOf
set_option maxRecDepth 20000 in
theorem ggX2_remove_X2_placeAt : GoodIn wsX2_remove wsX2_placeAt := goodIn_r _ [37, 15, 16, 6, 17] (by decide +kernel) (by decide +kernel)
set_option maxRecDepth 20000 in
theorem gX2_remove_X2_placeAt : GoodIn wsX2_remove (va_wsS RX2 61 yX2_placeAt wsX2_placeAt) := goodIn_app (goodIn_of _ (by decide +kernel)) ggX2_remove_X2_placeAt
set_option maxRecDepth 20000 in
theorem ggX2_remove_X0_write : GoodIn wsX2_remove wsX0_write := goodIn_r _ [51, 52, 23, 53, 54, 64, 65, 66, 67] (by decide +kernel) (by decide +kernel)
set_option maxRecDepth 20000 in
theorem gX2_remove_X0_write : GoodIn wsX2_remove (wsV RX2 57 RX0 yX0_write wsX0_write) := goodIn_app (goodIn_of _ (by decide +kernel)) ggX2_remove_X0_write
set_option maxRecDepth 20000 in
theorem ggX2_remove_X2_inodeAt : GoodIn wsX2_remove wsX2_inodeAt := goodIn_r _ [17] (by decide +kernel) (by decide +kernel)
set_option maxRecDepth 20000 in
theorem gX2_remove_X2_inodeAt : GoodIn wsX2_remove (va_wsS RX2 54 yX2_inodeAt wsX2_inodeAt) := goodIn_app (goodIn_of _ (by decide +kernel)) ggX2_remove_X2_inodeAt
set_option maxRecDepth 20000 in
theorem ggX2_remove_X2_answerOrDown : GoodIn wsX2_remove wsX2_answerOrDown := goodIn_r _ [58, 1, 2, 59, 60, 61, 62, 63, 64, 65, 66, 67] (by decide +kernel) (by decide +kernel)
set_option maxRecDepth 20000 in
theorem gX2_remove_X2_answerOrDown : GoodIn wsX2_remove (wsV RX2 67 RX2 yX2_answerOrDown wsX2_answerOrDown) := goodIn_app (goodIn_of _ (by decide +kernel)) ggX2_remove_X2_answerOrDown
theorem dX2_remove_0 : decode cX2_remove 0 = .ok (.aload_n 0, 1) := by decide +kernel
theorem dX2_remove_1 : decode cX2_remove 1 = .ok (.iload_n 1, 1) := by decide +kernel
theorem dX2_remove_2 : decode cX2_remove 2 = .ok (.iconst 1, 1) := by decide +kernel
theorem dX2_remove_3 : decode cX2_remove 3 = .ok (.invokevirtual 35, 3) := by decide +kernel
theorem dX2_remove_6 : decode cX2_remove 6 = .ok (.ifCond .eq 10, 3) := by decide +kernel
theorem dX2_remove_9 : decode cX2_remove 9 = .ok (.iload_n 2, 1) := by decide +kernel
theorem dX2_remove_10 : decode cX2_remove 10 = .ok (.invokestatic 38, 3) := by decide +kernel
theorem dX2_remove_13 : decode cX2_remove 13 = .ok (.ifCond .ne 5, 3) := by decide +kernel
theorem dX2_remove_16 : decode cX2_remove 16 = .ok (.iconst (-1), 1) := by decide +kernel
theorem dX2_remove_17 : decode cX2_remove 17 = .ok (.ireturn, 1) := by decide +kernel
theorem dX2_remove_18 : decode cX2_remove 18 = .ok (.aload_n 0, 1) := by decide +kernel
theorem dX2_remove_19 : decode cX2_remove 19 = .ok (.getfield 12, 3) := by decide +kernel
theorem dX2_remove_22 : decode cX2_remove 22 = .ok (.getfield 31, 3) := by decide +kernel
theorem dX2_remove_25 : decode cX2_remove 25 = .ok (.ifCond .eq 6, 3) := by decide +kernel
theorem dX2_remove_28 : decode cX2_remove 28 = .ok (.bipush (-2), 2) := by decide +kernel
theorem dX2_remove_30 : decode cX2_remove 30 = .ok (.ireturn, 1) := by decide +kernel
theorem dX2_remove_31 : decode cX2_remove 31 = .ok (.aload_n 0, 1) := by decide +kernel
theorem dX2_remove_32 : decode cX2_remove 32 = .ok (.iload_n 1, 1) := by decide +kernel
theorem dX2_remove_33 : decode cX2_remove 33 = .ok (.iload_n 2, 1) := by decide +kernel
theorem dX2_remove_34 : decode cX2_remove 34 = .ok (.invokevirtual 42, 3) := by decide +kernel
theorem dX2_remove_37 : decode cX2_remove 37 = .ok (.istore_n 3, 1) := by decide +kernel
theorem dX2_remove_38 : decode cX2_remove 38 = .ok (.iload_n 3, 1) := by decide +kernel
theorem dX2_remove_39 : decode cX2_remove 39 = .ok (.bipush (-3), 2) := by decide +kernel
theorem dX2_remove_41 : decode cX2_remove 41 = .ok (.if_icmp .ne 6, 3) := by decide +kernel
theorem dX2_remove_44 : decode cX2_remove 44 = .ok (.bipush (-3), 2) := by decide +kernel
theorem dX2_remove_46 : decode cX2_remove 46 = .ok (.ireturn, 1) := by decide +kernel
theorem dX2_remove_47 : decode cX2_remove 47 = .ok (.aload_n 0, 1) := by decide +kernel
theorem dX2_remove_48 : decode cX2_remove 48 = .ok (.iload_n 1, 1) := by decide +kernel
theorem dX2_remove_49 : decode cX2_remove 49 = .ok (.iload_n 3, 1) := by decide +kernel
theorem dX2_remove_50 : decode cX2_remove 50 = .ok (.invokevirtual 88, 3) := by decide +kernel
theorem dX2_remove_53 : decode cX2_remove 53 = .ok (.invokestatic 91, 3) := by decide +kernel
theorem dX2_remove_56 : decode cX2_remove 56 = .ok (.istore 4, 2) := by decide +kernel
theorem dX2_remove_58 : decode cX2_remove 58 = .ok (.aload_n 0, 1) := by decide +kernel
theorem dX2_remove_59 : decode cX2_remove 59 = .ok (.iload 4, 2) := by decide +kernel
theorem dX2_remove_61 : decode cX2_remove 61 = .ok (.invokevirtual 94, 3) := by decide +kernel
theorem dX2_remove_64 : decode cX2_remove 64 = .ok (.iconst 1, 1) := by decide +kernel
theorem dX2_remove_65 : decode cX2_remove 65 = .ok (.if_icmp .ne 15, 3) := by decide +kernel
theorem dX2_remove_68 : decode cX2_remove 68 = .ok (.aload_n 0, 1) := by decide +kernel
theorem dX2_remove_69 : decode cX2_remove 69 = .ok (.iload 4, 2) := by decide +kernel
theorem dX2_remove_71 : decode cX2_remove 71 = .ok (.invokevirtual 97, 3) := by decide +kernel
theorem dX2_remove_74 : decode cX2_remove 74 = .ok (.ifCond .le 6, 3) := by decide +kernel
theorem dX2_remove_77 : decode cX2_remove 77 = .ok (.bipush (-6), 2) := by decide +kernel
theorem dX2_remove_79 : decode cX2_remove 79 = .ok (.ireturn, 1) := by decide +kernel
theorem dX2_remove_80 : decode cX2_remove 80 = .ok (.aload_n 0, 1) := by decide +kernel
theorem dX2_remove_81 : decode cX2_remove 81 = .ok (.getfield 12, 3) := by decide +kernel
theorem dX2_remove_84 : decode cX2_remove 84 = .ok (.iload_n 1, 1) := by decide +kernel
theorem dX2_remove_85 : decode cX2_remove 85 = .ok (.iload_n 3, 1) := by decide +kernel
theorem dX2_remove_86 : decode cX2_remove 86 = .ok (.invokestatic 61, 3) := by decide +kernel
theorem dX2_remove_89 : decode cX2_remove 89 = .ok (.lconst 0, 1) := by decide +kernel
theorem dX2_remove_90 : decode cX2_remove 90 = .ok (.invokevirtual 57, 3) := by decide +kernel
theorem dX2_remove_93 : decode cX2_remove 93 = .ok (.aload_n 0, 1) := by decide +kernel
theorem dX2_remove_94 : decode cX2_remove 94 = .ok (.getfield 12, 3) := by decide +kernel
theorem dX2_remove_97 : decode cX2_remove 97 = .ok (.iload 4, 2) := by decide +kernel
theorem dX2_remove_99 : decode cX2_remove 99 = .ok (.iconst 0, 1) := by decide +kernel
theorem dX2_remove_100 : decode cX2_remove 100 = .ok (.invokestatic 54, 3) := by decide +kernel
theorem dX2_remove_103 : decode cX2_remove 103 = .ok (.lconst 0, 1) := by decide +kernel
theorem dX2_remove_104 : decode cX2_remove 104 = .ok (.invokevirtual 57, 3) := by decide +kernel
theorem dX2_remove_107 : decode cX2_remove 107 = .ok (.aload_n 0, 1) := by decide +kernel
theorem dX2_remove_108 : decode cX2_remove 108 = .ok (.iload 4, 2) := by decide +kernel
theorem dX2_remove_110 : decode cX2_remove 110 = .ok (.invokevirtual 67, 3) := by decide +kernel
theorem dX2_remove_113 : decode cX2_remove 113 = .ok (.ireturn, 1) := by decide +kernel
set_option maxRecDepth 20000 in
theorem ggX2_rename_X2_isOfKind : GoodIn wsX2_rename wsX2_isOfKind := goodIn_r _ [7, 8, 9, 6, 10, 11, 12, 13, 14, 1, 15, 16, 17, 18, 19, 20, 21, 22, 23, 74, 75, 76, 77, 78, 79, 80, 81, 82] (by decide +kernel) (by decide +kernel)
set_option maxRecDepth 20000 in
theorem gX2_rename_X2_isOfKind : GoodIn wsX2_rename (wsV RX2 35 RX2 yX2_isOfKind wsX2_isOfKind) := goodIn_app (goodIn_of _ (by decide +kernel)) ggX2_rename_X2_isOfKind
set_option maxRecDepth 20000 in
theorem ggX2_rename_X2_isName : GoodIn wsX2_rename wsX2_isName := goodIn_r _ [26] (by decide +kernel) (by decide +kernel)
set_option maxRecDepth 20000 in
theorem gX2_rename_X2_isName : GoodIn wsX2_rename (va_wsS RX2 38 yX2_isName wsX2_isName) := goodIn_app (goodIn_of _ (by decide +kernel)) ggX2_rename_X2_isName
set_option maxRecDepth 20000 in
theorem ggX2_rename_X2_placeOfName : GoodIn wsX2_rename wsX2_placeOfName := goodIn_r _ [30, 31, 32, 33, 6, 34, 1, 35, 36, 37, 15, 16, 17, 18, 19, 20, 21, 22, 23, 38, 39, 40, 74, 75, 76, 77, 78, 79, 80, 81, 82] (by decide +kernel) (by decide +kernel)
set_option maxRecDepth 20000 in
theorem gX2_rename_X2_placeOfName : GoodIn wsX2_rename (wsV RX2 42 RX2 yX2_placeOfName wsX2_placeOfName) := goodIn_app (goodIn_of _ (by decide +kernel)) ggX2_rename_X2_placeOfName
set_option maxRecDepth 20000 in
theorem ggX2_rename_X2_leastPlaceWithoutEntry : GoodIn wsX2_rename wsX2_leastPlaceWithoutEntry := goodIn_r _ [44, 31, 32, 33, 6, 34, 1, 35, 36, 37, 15, 16, 17, 18, 19, 20, 21, 22, 23, 74, 75, 76, 77, 78, 79, 80, 81, 82] (by decide +kernel) (by decide +kernel)
set_option maxRecDepth 20000 in
theorem gX2_rename_X2_leastPlaceWithoutEntry : GoodIn wsX2_rename (wsV RX2 50 RX2 yX2_leastPlaceWithoutEntry wsX2_leastPlaceWithoutEntry) := goodIn_app (goodIn_of _ (by decide +kernel)) ggX2_rename_X2_leastPlaceWithoutEntry
set_option maxRecDepth 20000 in
theorem ggX2_rename_X2_placeOf : GoodIn wsX2_rename wsX2_placeOf := goodIn_r _ [34, 1, 35, 36, 6, 37, 15, 16, 17, 18, 19, 20, 21, 22, 23, 74, 75, 76, 77, 78, 79, 80, 81, 82] (by decide +kernel) (by decide +kernel)
set_option maxRecDepth 20000 in
theorem gX2_rename_X2_placeOf : GoodIn wsX2_rename (wsV RX2 88 RX2 yX2_placeOf wsX2_placeOf) := goodIn_app (goodIn_of _ (by decide +kernel)) ggX2_rename_X2_placeOf
set_option maxRecDepth 20000 in
theorem ggX2_rename_X2_inodeOfEntry : GoodIn wsX2_rename wsX2_inodeOfEntry := goodIn_r _ [47] (by decide +kernel) (by decide +kernel)
set_option maxRecDepth 20000 in
theorem gX2_rename_X2_inodeOfEntry : GoodIn wsX2_rename (va_wsS RX2 91 yX2_inodeOfEntry wsX2_inodeOfEntry) := goodIn_app (goodIn_of _ (by decide +kernel)) ggX2_rename_X2_inodeOfEntry
set_option maxRecDepth 20000 in
theorem ggX2_rename_X2_isWithin : GoodIn wsX2_rename wsX2_isWithin := goodIn_r _ [51, 52, 53, 54, 6, 55, 11, 12, 13, 14, 1, 15, 16, 17, 18, 19, 20, 21, 22, 23, 56, 57, 58, 59, 31, 32, 33, 34, 35, 36, 37, 45, 46, 47, 74, 75, 76, 77, 78, 79, 80, 81, 82] (by decide +kernel) (by decide +kernel)
set_option maxRecDepth 20000 in
theorem gX2_rename_X2_isWithin : GoodIn wsX2_rename (wsV RX2 100 RX2 yX2_isWithin wsX2_isWithin) := goodIn_app (goodIn_of _ (by decide +kernel)) ggX2_rename_X2_isWithin
set_option maxRecDepth 20000 in
theorem ggX2_rename_X2_placeAt : GoodIn wsX2_rename wsX2_placeAt := goodIn_r _ [37, 15, 16, 6, 17] (by decide +kernel) (by decide +kernel)
set_option maxRecDepth 20000 in
theorem gX2_rename_X2_placeAt : GoodIn wsX2_rename (va_wsS RX2 61 yX2_placeAt wsX2_placeAt) := goodIn_app (goodIn_of _ (by decide +kernel)) ggX2_rename_X2_placeAt
set_option maxRecDepth 20000 in
theorem ggX2_rename_X2_entryOf : GoodIn wsX2_rename wsX2_entryOf := goodIn_r _ [62] (by decide +kernel) (by decide +kernel)
set_option maxRecDepth 20000 in
theorem gX2_rename_X2_entryOf : GoodIn wsX2_rename (va_wsS RX2 64 yX2_entryOf wsX2_entryOf) := goodIn_app (goodIn_of _ (by decide +kernel)) ggX2_rename_X2_entryOf
set_option maxRecDepth 20000 in
theorem ggX2_rename_X0_write : GoodIn wsX2_rename wsX0_write := goodIn_r _ [66, 67, 23, 68, 69, 79, 80, 81, 82] (by decide +kernel) (by decide +kernel)
set_option maxRecDepth 20000 in
theorem gX2_rename_X0_write : GoodIn wsX2_rename (wsV RX2 57 RX0 yX0_write wsX0_write) := goodIn_app (goodIn_of _ (by decide +kernel)) ggX2_rename_X0_write
set_option maxRecDepth 20000 in
theorem ggX2_rename_X2_answerOrDown : GoodIn wsX2_rename wsX2_answerOrDown := goodIn_r _ [73, 1, 2, 74, 75, 76, 77, 78, 79, 80, 81, 82] (by decide +kernel) (by decide +kernel)
set_option maxRecDepth 20000 in
theorem gX2_rename_X2_answerOrDown : GoodIn wsX2_rename (wsV RX2 67 RX2 yX2_answerOrDown wsX2_answerOrDown) := goodIn_app (goodIn_of _ (by decide +kernel)) ggX2_rename_X2_answerOrDown
theorem dX2_rename_0 : decode cX2_rename 0 = .ok (.aload_n 0, 1) := by decide +kernel
theorem dX2_rename_1 : decode cX2_rename 1 = .ok (.iload_n 1, 1) := by decide +kernel
theorem dX2_rename_2 : decode cX2_rename 2 = .ok (.iconst 1, 1) := by decide +kernel
theorem dX2_rename_3 : decode cX2_rename 3 = .ok (.invokevirtual 35, 3) := by decide +kernel
theorem dX2_rename_6 : decode cX2_rename 6 = .ok (.ifCond .eq 27, 3) := by decide +kernel
theorem dX2_rename_9 : decode cX2_rename 9 = .ok (.iload_n 2, 1) := by decide +kernel
theorem dX2_rename_10 : decode cX2_rename 10 = .ok (.invokestatic 38, 3) := by decide +kernel
theorem dX2_rename_13 : decode cX2_rename 13 = .ok (.ifCond .eq 20, 3) := by decide +kernel
theorem dX2_rename_16 : decode cX2_rename 16 = .ok (.aload_n 0, 1) := by decide +kernel
theorem dX2_rename_17 : decode cX2_rename 17 = .ok (.iload_n 3, 1) := by decide +kernel
theorem dX2_rename_18 : decode cX2_rename 18 = .ok (.iconst 1, 1) := by decide +kernel
theorem dX2_rename_19 : decode cX2_rename 19 = .ok (.invokevirtual 35, 3) := by decide +kernel
theorem dX2_rename_22 : decode cX2_rename 22 = .ok (.ifCond .eq 11, 3) := by decide +kernel
theorem dX2_rename_25 : decode cX2_rename 25 = .ok (.iload 4, 2) := by decide +kernel
theorem dX2_rename_27 : decode cX2_rename 27 = .ok (.invokestatic 38, 3) := by decide +kernel
theorem dX2_rename_30 : decode cX2_rename 30 = .ok (.ifCond .ne 5, 3) := by decide +kernel
theorem dX2_rename_33 : decode cX2_rename 33 = .ok (.iconst (-1), 1) := by decide +kernel
theorem dX2_rename_34 : decode cX2_rename 34 = .ok (.ireturn, 1) := by decide +kernel
theorem dX2_rename_35 : decode cX2_rename 35 = .ok (.aload_n 0, 1) := by decide +kernel
theorem dX2_rename_36 : decode cX2_rename 36 = .ok (.getfield 12, 3) := by decide +kernel
theorem dX2_rename_39 : decode cX2_rename 39 = .ok (.getfield 31, 3) := by decide +kernel
theorem dX2_rename_42 : decode cX2_rename 42 = .ok (.ifCond .eq 6, 3) := by decide +kernel
theorem dX2_rename_45 : decode cX2_rename 45 = .ok (.bipush (-2), 2) := by decide +kernel
theorem dX2_rename_47 : decode cX2_rename 47 = .ok (.ireturn, 1) := by decide +kernel
theorem dX2_rename_48 : decode cX2_rename 48 = .ok (.aload_n 0, 1) := by decide +kernel
theorem dX2_rename_49 : decode cX2_rename 49 = .ok (.iload_n 1, 1) := by decide +kernel
theorem dX2_rename_50 : decode cX2_rename 50 = .ok (.iload_n 2, 1) := by decide +kernel
theorem dX2_rename_51 : decode cX2_rename 51 = .ok (.invokevirtual 42, 3) := by decide +kernel
theorem dX2_rename_54 : decode cX2_rename 54 = .ok (.istore 5, 2) := by decide +kernel
theorem dX2_rename_56 : decode cX2_rename 56 = .ok (.iload 5, 2) := by decide +kernel
theorem dX2_rename_58 : decode cX2_rename 58 = .ok (.bipush (-3), 2) := by decide +kernel
theorem dX2_rename_60 : decode cX2_rename 60 = .ok (.if_icmp .ne 6, 3) := by decide +kernel
theorem dX2_rename_63 : decode cX2_rename 63 = .ok (.bipush (-3), 2) := by decide +kernel
theorem dX2_rename_65 : decode cX2_rename 65 = .ok (.ireturn, 1) := by decide +kernel
theorem dX2_rename_66 : decode cX2_rename 66 = .ok (.aload_n 0, 1) := by decide +kernel
theorem dX2_rename_67 : decode cX2_rename 67 = .ok (.iload_n 3, 1) := by decide +kernel
theorem dX2_rename_68 : decode cX2_rename 68 = .ok (.iload 4, 2) := by decide +kernel
theorem dX2_rename_70 : decode cX2_rename 70 = .ok (.invokevirtual 42, 3) := by decide +kernel
theorem dX2_rename_73 : decode cX2_rename 73 = .ok (.bipush (-3), 2) := by decide +kernel
theorem dX2_rename_75 : decode cX2_rename 75 = .ok (.if_icmp .eq 6, 3) := by decide +kernel
theorem dX2_rename_78 : decode cX2_rename 78 = .ok (.bipush (-4), 2) := by decide +kernel
theorem dX2_rename_80 : decode cX2_rename 80 = .ok (.ireturn, 1) := by decide +kernel
theorem dX2_rename_81 : decode cX2_rename 81 = .ok (.aload_n 0, 1) := by decide +kernel
theorem dX2_rename_82 : decode cX2_rename 82 = .ok (.iload_n 3, 1) := by decide +kernel
theorem dX2_rename_83 : decode cX2_rename 83 = .ok (.invokevirtual 50, 3) := by decide +kernel
theorem dX2_rename_86 : decode cX2_rename 86 = .ok (.istore 6, 2) := by decide +kernel
theorem dX2_rename_88 : decode cX2_rename 88 = .ok (.iload 6, 2) := by decide +kernel
theorem dX2_rename_90 : decode cX2_rename 90 = .ok (.bipush (-3), 2) := by decide +kernel
theorem dX2_rename_92 : decode cX2_rename 92 = .ok (.if_icmp .ne 6, 3) := by decide +kernel
theorem dX2_rename_95 : decode cX2_rename 95 = .ok (.bipush (-5), 2) := by decide +kernel
theorem dX2_rename_97 : decode cX2_rename 97 = .ok (.ireturn, 1) := by decide +kernel
theorem dX2_rename_98 : decode cX2_rename 98 = .ok (.aload_n 0, 1) := by decide +kernel
theorem dX2_rename_99 : decode cX2_rename 99 = .ok (.iload_n 1, 1) := by decide +kernel
theorem dX2_rename_100 : decode cX2_rename 100 = .ok (.iload 5, 2) := by decide +kernel
theorem dX2_rename_102 : decode cX2_rename 102 = .ok (.invokevirtual 88, 3) := by decide +kernel
theorem dX2_rename_105 : decode cX2_rename 105 = .ok (.invokestatic 91, 3) := by decide +kernel
theorem dX2_rename_108 : decode cX2_rename 108 = .ok (.istore 7, 2) := by decide +kernel
theorem dX2_rename_110 : decode cX2_rename 110 = .ok (.aload_n 0, 1) := by decide +kernel
theorem dX2_rename_111 : decode cX2_rename 111 = .ok (.iload_n 3, 1) := by decide +kernel
theorem dX2_rename_112 : decode cX2_rename 112 = .ok (.iload 7, 2) := by decide +kernel
theorem dX2_rename_114 : decode cX2_rename 114 = .ok (.invokevirtual 100, 3) := by decide +kernel
theorem dX2_rename_117 : decode cX2_rename 117 = .ok (.ifCond .eq 6, 3) := by decide +kernel
theorem dX2_rename_120 : decode cX2_rename 120 = .ok (.bipush (-6), 2) := by decide +kernel
theorem dX2_rename_122 : decode cX2_rename 122 = .ok (.ireturn, 1) := by decide +kernel
theorem dX2_rename_123 : decode cX2_rename 123 = .ok (.aload_n 0, 1) := by decide +kernel
theorem dX2_rename_124 : decode cX2_rename 124 = .ok (.getfield 12, 3) := by decide +kernel
theorem dX2_rename_127 : decode cX2_rename 127 = .ok (.iload_n 3, 1) := by decide +kernel
theorem dX2_rename_128 : decode cX2_rename 128 = .ok (.iload 6, 2) := by decide +kernel
theorem dX2_rename_130 : decode cX2_rename 130 = .ok (.invokestatic 61, 3) := by decide +kernel
theorem dX2_rename_133 : decode cX2_rename 133 = .ok (.iload 7, 2) := by decide +kernel
theorem dX2_rename_135 : decode cX2_rename 135 = .ok (.iload 4, 2) := by decide +kernel
theorem dX2_rename_137 : decode cX2_rename 137 = .ok (.invokestatic 64, 3) := by decide +kernel
theorem dX2_rename_140 : decode cX2_rename 140 = .ok (.i2l, 1) := by decide +kernel
theorem dX2_rename_141 : decode cX2_rename 141 = .ok (.invokevirtual 57, 3) := by decide +kernel
theorem dX2_rename_144 : decode cX2_rename 144 = .ok (.aload_n 0, 1) := by decide +kernel
theorem dX2_rename_145 : decode cX2_rename 145 = .ok (.getfield 12, 3) := by decide +kernel
theorem dX2_rename_148 : decode cX2_rename 148 = .ok (.iload_n 1, 1) := by decide +kernel
theorem dX2_rename_149 : decode cX2_rename 149 = .ok (.iload 5, 2) := by decide +kernel
theorem dX2_rename_151 : decode cX2_rename 151 = .ok (.invokestatic 61, 3) := by decide +kernel
theorem dX2_rename_154 : decode cX2_rename 154 = .ok (.lconst 0, 1) := by decide +kernel
theorem dX2_rename_155 : decode cX2_rename 155 = .ok (.invokevirtual 57, 3) := by decide +kernel
theorem dX2_rename_158 : decode cX2_rename 158 = .ok (.aload_n 0, 1) := by decide +kernel
theorem dX2_rename_159 : decode cX2_rename 159 = .ok (.iload 7, 2) := by decide +kernel
theorem dX2_rename_161 : decode cX2_rename 161 = .ok (.invokevirtual 67, 3) := by decide +kernel
theorem dX2_rename_164 : decode cX2_rename 164 = .ok (.ireturn, 1) := by decide +kernel
set_option maxRecDepth 20000 in
theorem ggX2_step_X2_findNextMove : GoodIn wsX2_step wsX2_findNextMove := goodIn_r _ [11, 12, 13, 14, 10, 15, 16, 17, 18, 19, 1, 20, 21, 22, 23, 24, 25, 26, 27, 28, 29, 30, 31, 32, 33, 34, 35, 36, 37, 38, 39, 40, 41, 42, 43, 3, 44, 45, 46, 47, 48, 49, 50, 51, 52, 53, 54, 55, 56, 57, 58, 59, 60, 61, 62, 63, 64, 65, 97, 98, 99, 100, 101, 102, 103, 104, 105, 106, 107, 108] (by decide +kernel) (by decide +kernel)
set_option maxRecDepth 20000 in
theorem gX2_step_X2_findNextMove : GoodIn wsX2_step (wsV RX2 103 RX2 yX2_findNextMove wsX2_findNextMove) := goodIn_app (goodIn_of _ (by decide +kernel)) ggX2_step_X2_findNextMove
set_option maxRecDepth 20000 in
theorem ggX2_step_X2_recordAt : GoodIn wsX2_step wsX2_recordAt := goodIn_r _ [68] (by decide +kernel) (by decide +kernel)
set_option maxRecDepth 20000 in
theorem gX2_step_X2_recordAt : GoodIn wsX2_step (va_wsS RX2 106 yX2_recordAt wsX2_recordAt) := goodIn_app (goodIn_of _ (by decide +kernel)) ggX2_step_X2_recordAt
set_option maxRecDepth 20000 in
theorem ggX2_step_X0_write : GoodIn wsX2_step wsX0_write := goodIn_r _ [72, 73, 28, 74, 75, 102, 103, 104, 105] (by decide +kernel) (by decide +kernel)
set_option maxRecDepth 20000 in
theorem gX2_step_X0_write : GoodIn wsX2_step (wsV RX2 57 RX0 yX0_write wsX0_write) := goodIn_app (goodIn_of _ (by decide +kernel)) ggX2_step_X0_write
set_option maxRecDepth 20000 in
theorem ggX2_step_X2_copyMovedBlock : GoodIn wsX2_step wsX2_copyMovedBlock := goodIn_r _ [79, 1, 80, 81, 82, 83, 10, 84, 66, 67, 68, 23, 24, 25, 26, 27, 28, 33, 34, 35, 36, 37, 38, 39, 20, 21, 22, 85, 86, 87, 69, 70, 71, 72, 73, 74, 75, 97, 98, 99, 100, 101, 102, 103, 104, 105] (by decide +kernel) (by decide +kernel)
set_option maxRecDepth 20000 in
theorem gX2_step_X2_copyMovedBlock : GoodIn wsX2_step (wsV RX2 118 RX2 yX2_copyMovedBlock wsX2_copyMovedBlock) := goodIn_app (goodIn_of _ (by decide +kernel)) ggX2_step_X2_copyMovedBlock
set_option maxRecDepth 20000 in
theorem ggX2_step_X2_linkMovedBlock : GoodIn wsX2_step wsX2_linkMovedBlock := goodIn_r _ [91, 1, 2, 92, 81, 82, 83, 10, 84, 66, 67, 68, 23, 24, 25, 26, 27, 28, 37, 38, 39, 20, 21, 22, 69, 70, 71, 72, 73, 74, 75, 97, 98, 99, 100, 101, 102, 103, 104, 105] (by decide +kernel) (by decide +kernel)
set_option maxRecDepth 20000 in
theorem gX2_step_X2_linkMovedBlock : GoodIn wsX2_step (wsV RX2 121 RX2 yX2_linkMovedBlock wsX2_linkMovedBlock) := goodIn_app (goodIn_of _ (by decide +kernel)) ggX2_step_X2_linkMovedBlock
set_option maxRecDepth 20000 in
theorem ggX2_step_X2_answerOrDown : GoodIn wsX2_step wsX2_answerOrDown := goodIn_r _ [96, 1, 2, 97, 98, 99, 100, 101, 102, 103, 104, 105] (by decide +kernel) (by decide +kernel)
set_option maxRecDepth 20000 in
theorem gX2_step_X2_answerOrDown : GoodIn wsX2_step (wsV RX2 67 RX2 yX2_answerOrDown wsX2_answerOrDown) := goodIn_app (goodIn_of _ (by decide +kernel)) ggX2_step_X2_answerOrDown
theorem dX2_step_0 : decode cX2_step 0 = .ok (.aload_n 0, 1) := by decide +kernel
theorem dX2_step_1 : decode cX2_step 1 = .ok (.getfield 12, 3) := by decide +kernel
theorem dX2_step_4 : decode cX2_step 4 = .ok (.getfield 31, 3) := by decide +kernel
theorem dX2_step_7 : decode cX2_step 7 = .ok (.ifCond .eq 6, 3) := by decide +kernel
theorem dX2_step_10 : decode cX2_step 10 = .ok (.bipush (-2), 2) := by decide +kernel
theorem dX2_step_12 : decode cX2_step 12 = .ok (.ireturn, 1) := by decide +kernel
theorem dX2_step_13 : decode cX2_step 13 = .ok (.aload_n 0, 1) := by decide +kernel
theorem dX2_step_14 : decode cX2_step 14 = .ok (.invokevirtual 103, 3) := by decide +kernel
theorem dX2_step_17 : decode cX2_step 17 = .ok (.istore_n 1, 1) := by decide +kernel
theorem dX2_step_18 : decode cX2_step 18 = .ok (.iload_n 1, 1) := by decide +kernel
theorem dX2_step_19 : decode cX2_step 19 = .ok (.bipush (-3), 2) := by decide +kernel
theorem dX2_step_21 : decode cX2_step 21 = .ok (.if_icmp .ne 5, 3) := by decide +kernel
theorem dX2_step_24 : decode cX2_step 24 = .ok (.iconst 0, 1) := by decide +kernel
theorem dX2_step_25 : decode cX2_step 25 = .ok (.ireturn, 1) := by decide +kernel
theorem dX2_step_26 : decode cX2_step 26 = .ok (.iload_n 1, 1) := by decide +kernel
theorem dX2_step_27 : decode cX2_step 27 = .ok (.bipush (-5), 2) := by decide +kernel
theorem dX2_step_29 : decode cX2_step 29 = .ok (.if_icmp .ne 6, 3) := by decide +kernel
theorem dX2_step_32 : decode cX2_step 32 = .ok (.bipush (-5), 2) := by decide +kernel
theorem dX2_step_34 : decode cX2_step 34 = .ok (.ireturn, 1) := by decide +kernel
theorem dX2_step_35 : decode cX2_step 35 = .ok (.aload_n 0, 1) := by decide +kernel
theorem dX2_step_36 : decode cX2_step 36 = .ok (.getfield 12, 3) := by decide +kernel
theorem dX2_step_39 : decode cX2_step 39 = .ok (.iconst 1, 1) := by decide +kernel
theorem dX2_step_40 : decode cX2_step 40 = .ok (.invokestatic 106, 3) := by decide +kernel
theorem dX2_step_43 : decode cX2_step 43 = .ok (.aload_n 0, 1) := by decide +kernel
theorem dX2_step_44 : decode cX2_step 44 = .ok (.getfield 19, 3) := by decide +kernel
theorem dX2_step_47 : decode cX2_step 47 = .ok (.getfield 109, 3) := by decide +kernel
theorem dX2_step_50 : decode cX2_step 50 = .ok (.i2l, 1) := by decide +kernel
theorem dX2_step_51 : decode cX2_step 51 = .ok (.invokevirtual 57, 3) := by decide +kernel
theorem dX2_step_54 : decode cX2_step 54 = .ok (.aload_n 0, 1) := by decide +kernel
theorem dX2_step_55 : decode cX2_step 55 = .ok (.getfield 12, 3) := by decide +kernel
theorem dX2_step_58 : decode cX2_step 58 = .ok (.iconst 2, 1) := by decide +kernel
theorem dX2_step_59 : decode cX2_step 59 = .ok (.invokestatic 106, 3) := by decide +kernel
theorem dX2_step_62 : decode cX2_step 62 = .ok (.aload_n 0, 1) := by decide +kernel
theorem dX2_step_63 : decode cX2_step 63 = .ok (.getfield 19, 3) := by decide +kernel
theorem dX2_step_66 : decode cX2_step 66 = .ok (.getfield 112, 3) := by decide +kernel
theorem dX2_step_69 : decode cX2_step 69 = .ok (.i2l, 1) := by decide +kernel
theorem dX2_step_70 : decode cX2_step 70 = .ok (.invokevirtual 57, 3) := by decide +kernel
theorem dX2_step_73 : decode cX2_step 73 = .ok (.aload_n 0, 1) := by decide +kernel
theorem dX2_step_74 : decode cX2_step 74 = .ok (.getfield 12, 3) := by decide +kernel
theorem dX2_step_77 : decode cX2_step 77 = .ok (.iconst 3, 1) := by decide +kernel
theorem dX2_step_78 : decode cX2_step 78 = .ok (.invokestatic 106, 3) := by decide +kernel
theorem dX2_step_81 : decode cX2_step 81 = .ok (.aload_n 0, 1) := by decide +kernel
theorem dX2_step_82 : decode cX2_step 82 = .ok (.getfield 19, 3) := by decide +kernel
theorem dX2_step_85 : decode cX2_step 85 = .ok (.getfield 115, 3) := by decide +kernel
theorem dX2_step_88 : decode cX2_step 88 = .ok (.i2l, 1) := by decide +kernel
theorem dX2_step_89 : decode cX2_step 89 = .ok (.invokevirtual 57, 3) := by decide +kernel
theorem dX2_step_92 : decode cX2_step 92 = .ok (.aload_n 0, 1) := by decide +kernel
theorem dX2_step_93 : decode cX2_step 93 = .ok (.getfield 12, 3) := by decide +kernel
theorem dX2_step_96 : decode cX2_step 96 = .ok (.iconst 0, 1) := by decide +kernel
theorem dX2_step_97 : decode cX2_step 97 = .ok (.invokestatic 106, 3) := by decide +kernel
theorem dX2_step_100 : decode cX2_step 100 = .ok (.lconst 1, 1) := by decide +kernel
theorem dX2_step_101 : decode cX2_step 101 = .ok (.invokevirtual 57, 3) := by decide +kernel
theorem dX2_step_104 : decode cX2_step 104 = .ok (.aload_n 0, 1) := by decide +kernel
theorem dX2_step_105 : decode cX2_step 105 = .ok (.invokevirtual 118, 3) := by decide +kernel
theorem dX2_step_108 : decode cX2_step 108 = .ok (.aload_n 0, 1) := by decide +kernel
theorem dX2_step_109 : decode cX2_step 109 = .ok (.invokevirtual 121, 3) := by decide +kernel
theorem dX2_step_112 : decode cX2_step 112 = .ok (.aload_n 0, 1) := by decide +kernel
theorem dX2_step_113 : decode cX2_step 113 = .ok (.iconst 1, 1) := by decide +kernel
theorem dX2_step_114 : decode cX2_step 114 = .ok (.invokevirtual 67, 3) := by decide +kernel
theorem dX2_step_117 : decode cX2_step 117 = .ok (.ireturn, 1) := by decide +kernel
set_option maxRecDepth 20000 in
theorem ggX2_restart_X2_finishRecordedMove : GoodIn wsX2_restart wsX2_finishRecordedMove := goodIn_r _ [8, 9, 10, 11, 7, 12, 1, 13, 14, 15, 16, 17, 18, 19, 20, 21, 22, 23, 24, 25, 26, 27, 28, 29, 30, 31, 32, 33, 34, 35, 36, 37, 38, 39, 40, 41, 42, 43, 44, 45, 46, 47, 48, 49, 50, 3, 51, 88, 89, 90, 91, 92, 93, 94, 95, 96] (by decide +kernel) (by decide +kernel)
set_option maxRecDepth 20000 in
theorem gX2_restart_X2_finishRecordedMove : GoodIn wsX2_restart (wsV RX2 127 RX2 yX2_finishRecordedMove wsX2_finishRecordedMove) := goodIn_app (goodIn_of _ (by decide +kernel)) ggX2_restart_X2_finishRecordedMove
set_option maxRecDepth 20000 in
theorem ggX2_restart_X2_clearWrongEntries : GoodIn wsX2_restart wsX2_clearWrongEntries := goodIn_r _ [55, 56, 57, 58, 59, 7, 60, 1, 34, 35, 36, 16, 17, 18, 19, 20, 21, 61, 62, 63, 64, 27, 28, 29, 30, 31, 32, 33, 65, 66, 67, 68, 69, 70, 71, 40, 41, 42, 43, 44, 45, 46, 88, 89, 90, 91, 92, 93, 94, 95, 96] (by decide +kernel) (by decide +kernel)
set_option maxRecDepth 20000 in
theorem gX2_restart_X2_clearWrongEntries : GoodIn wsX2_restart (wsV RX2 130 RX2 yX2_clearWrongEntries wsX2_clearWrongEntries) := goodIn_app (goodIn_of _ (by decide +kernel)) ggX2_restart_X2_clearWrongEntries
set_option maxRecDepth 20000 in
theorem ggX2_restart_X2_clearInodesWithoutEntry : GoodIn wsX2_restart wsX2_clearInodesWithoutEntry := goodIn_r _ [75, 1, 57, 58, 59, 7, 60, 34, 35, 36, 16, 17, 18, 19, 20, 21, 76, 77, 78, 79, 80, 81, 82, 83, 27, 28, 29, 30, 31, 32, 33, 65, 66, 67, 40, 41, 42, 43, 44, 45, 46, 88, 89, 90, 91, 92, 93, 94, 95, 96] (by decide +kernel) (by decide +kernel)
set_option maxRecDepth 20000 in
theorem gX2_restart_X2_clearInodesWithoutEntry : GoodIn wsX2_restart (wsV RX2 133 RX2 yX2_clearInodesWithoutEntry wsX2_clearInodesWithoutEntry) := goodIn_app (goodIn_of _ (by decide +kernel)) ggX2_restart_X2_clearInodesWithoutEntry
set_option maxRecDepth 20000 in
theorem ggX2_restart_X2_answerOrDown : GoodIn wsX2_restart wsX2_answerOrDown := goodIn_r _ [87, 1, 3, 88, 89, 90, 91, 92, 93, 94, 95, 96] (by decide +kernel) (by decide +kernel)
set_option maxRecDepth 20000 in
theorem gX2_restart_X2_answerOrDown : GoodIn wsX2_restart (wsV RX2 67 RX2 yX2_answerOrDown wsX2_answerOrDown) := goodIn_app (goodIn_of _ (by decide +kernel)) ggX2_restart_X2_answerOrDown
theorem dX2_restart_0 : decode cX2_restart 0 = .ok (.aload_n 0, 1) := by decide +kernel
theorem dX2_restart_1 : decode cX2_restart 1 = .ok (.getfield 12, 3) := by decide +kernel
theorem dX2_restart_4 : decode cX2_restart 4 = .ok (.getfield 124, 3) := by decide +kernel
theorem dX2_restart_7 : decode cX2_restart 7 = .ok (.istore_n 1, 1) := by decide +kernel
theorem dX2_restart_8 : decode cX2_restart 8 = .ok (.aload_n 0, 1) := by decide +kernel
theorem dX2_restart_9 : decode cX2_restart 9 = .ok (.getfield 12, 3) := by decide +kernel
theorem dX2_restart_12 : decode cX2_restart 12 = .ok (.iconst 0, 1) := by decide +kernel
theorem dX2_restart_13 : decode cX2_restart 13 = .ok (.putfield 31, 3) := by decide +kernel
theorem dX2_restart_16 : decode cX2_restart 16 = .ok (.aload_n 0, 1) := by decide +kernel
theorem dX2_restart_17 : decode cX2_restart 17 = .ok (.invokevirtual 127, 3) := by decide +kernel
theorem dX2_restart_20 : decode cX2_restart 20 = .ok (.iconst 0, 1) := by decide +kernel
theorem dX2_restart_21 : decode cX2_restart 21 = .ok (.istore_n 2, 1) := by decide +kernel
theorem dX2_restart_22 : decode cX2_restart 22 = .ok (.iload_n 2, 1) := by decide +kernel
theorem dX2_restart_23 : decode cX2_restart 23 = .ok (.bipush 120, 2) := by decide +kernel
theorem dX2_restart_25 : decode cX2_restart 25 = .ok (.if_icmp .ge 39, 3) := by decide +kernel
theorem dX2_restart_28 : decode cX2_restart 28 = .ok (.aload_n 0, 1) := by decide +kernel
theorem dX2_restart_29 : decode cX2_restart 29 = .ok (.getfield 12, 3) := by decide +kernel
theorem dX2_restart_32 : decode cX2_restart 32 = .ok (.getfield 124, 3) := by decide +kernel
theorem dX2_restart_35 : decode cX2_restart 35 = .ok (.istore_n 3, 1) := by decide +kernel
theorem dX2_restart_36 : decode cX2_restart 36 = .ok (.aload_n 0, 1) := by decide +kernel
theorem dX2_restart_37 : decode cX2_restart 37 = .ok (.invokevirtual 130, 3) := by decide +kernel
theorem dX2_restart_40 : decode cX2_restart 40 = .ok (.aload_n 0, 1) := by decide +kernel
theorem dX2_restart_41 : decode cX2_restart 41 = .ok (.invokevirtual 133, 3) := by decide +kernel
theorem dX2_restart_44 : decode cX2_restart 44 = .ok (.aload_n 0, 1) := by decide +kernel
theorem dX2_restart_45 : decode cX2_restart 45 = .ok (.getfield 12, 3) := by decide +kernel
theorem dX2_restart_48 : decode cX2_restart 48 = .ok (.getfield 124, 3) := by decide +kernel
theorem dX2_restart_51 : decode cX2_restart 51 = .ok (.iload_n 3, 1) := by decide +kernel
theorem dX2_restart_52 : decode cX2_restart 52 = .ok (.if_icmp .ne 6, 3) := by decide +kernel
theorem dX2_restart_55 : decode cX2_restart 55 = .ok (.goto 9, 3) := by decide +kernel
theorem dX2_restart_58 : decode cX2_restart 58 = .ok (.iinc 2 1, 3) := by decide +kernel
theorem dX2_restart_61 : decode cX2_restart 61 = .ok (.goto (-39), 3) := by decide +kernel
theorem dX2_restart_64 : decode cX2_restart 64 = .ok (.aload_n 0, 1) := by decide +kernel
theorem dX2_restart_65 : decode cX2_restart 65 = .ok (.aload_n 0, 1) := by decide +kernel
theorem dX2_restart_66 : decode cX2_restart 66 = .ok (.getfield 12, 3) := by decide +kernel
theorem dX2_restart_69 : decode cX2_restart 69 = .ok (.getfield 124, 3) := by decide +kernel
theorem dX2_restart_72 : decode cX2_restart 72 = .ok (.iload_n 1, 1) := by decide +kernel
theorem dX2_restart_73 : decode cX2_restart 73 = .ok (.isub, 1) := by decide +kernel
theorem dX2_restart_74 : decode cX2_restart 74 = .ok (.invokevirtual 67, 3) := by decide +kernel
theorem dX2_restart_77 : decode cX2_restart 77 = .ok (.ireturn, 1) := by decide +kernel
set_option maxRecDepth 20000 in
theorem ggX2_find_X2_isOfKind : GoodIn wsX2_find wsX2_isOfKind := goodIn_r _ [5, 6, 7, 4, 8, 9, 10, 11, 12, 13, 14, 15, 16, 17, 18, 19, 20, 21, 22, 43, 44, 45, 46, 47, 48, 49, 50, 51] (by decide +kernel) (by decide +kernel)
set_option maxRecDepth 20000 in
theorem gX2_find_X2_isOfKind : GoodIn wsX2_find (wsV RX2 35 RX2 yX2_isOfKind wsX2_isOfKind) := goodIn_app (goodIn_of _ (by decide +kernel)) ggX2_find_X2_isOfKind
set_option maxRecDepth 20000 in
theorem ggX2_find_X2_isName : GoodIn wsX2_find wsX2_isName := goodIn_r _ [25] (by decide +kernel) (by decide +kernel)
set_option maxRecDepth 20000 in
theorem gX2_find_X2_isName : GoodIn wsX2_find (va_wsS RX2 38 yX2_isName wsX2_isName) := goodIn_app (goodIn_of _ (by decide +kernel)) ggX2_find_X2_isName
set_option maxRecDepth 20000 in
theorem ggX2_find_X2_placeOfName : GoodIn wsX2_find wsX2_placeOfName := goodIn_r _ [29, 30, 31, 32, 4, 33, 13, 34, 35, 36, 14, 15, 16, 17, 18, 19, 20, 21, 22, 37, 38, 39, 43, 44, 45, 46, 47, 48, 49, 50, 51] (by decide +kernel) (by decide +kernel)
set_option maxRecDepth 20000 in
theorem gX2_find_X2_placeOfName : GoodIn wsX2_find (wsV RX2 42 RX2 yX2_placeOfName wsX2_placeOfName) := goodIn_app (goodIn_of _ (by decide +kernel)) ggX2_find_X2_placeOfName
set_option maxRecDepth 20000 in
theorem ggX2_find_X2_placeOf : GoodIn wsX2_find wsX2_placeOf := goodIn_r _ [33, 13, 34, 35, 4, 36, 14, 15, 16, 17, 18, 19, 20, 21, 22, 43, 44, 45, 46, 47, 48, 49, 50, 51] (by decide +kernel) (by decide +kernel)
set_option maxRecDepth 20000 in
theorem gX2_find_X2_placeOf : GoodIn wsX2_find (wsV RX2 88 RX2 yX2_placeOf wsX2_placeOf) := goodIn_app (goodIn_of _ (by decide +kernel)) ggX2_find_X2_placeOf
set_option maxRecDepth 20000 in
theorem ggX2_find_X2_inodeOfEntry : GoodIn wsX2_find wsX2_inodeOfEntry := goodIn_r _ [42] (by decide +kernel) (by decide +kernel)
set_option maxRecDepth 20000 in
theorem gX2_find_X2_inodeOfEntry : GoodIn wsX2_find (va_wsS RX2 91 yX2_inodeOfEntry wsX2_inodeOfEntry) := goodIn_app (goodIn_of _ (by decide +kernel)) ggX2_find_X2_inodeOfEntry
theorem dX2_find_0 : decode cX2_find 0 = .ok (.aload_n 0, 1) := by decide +kernel
theorem dX2_find_1 : decode cX2_find 1 = .ok (.iload_n 1, 1) := by decide +kernel
theorem dX2_find_2 : decode cX2_find 2 = .ok (.iconst 1, 1) := by decide +kernel
theorem dX2_find_3 : decode cX2_find 3 = .ok (.invokevirtual 35, 3) := by decide +kernel
theorem dX2_find_6 : decode cX2_find 6 = .ok (.ifCond .eq 10, 3) := by decide +kernel
theorem dX2_find_9 : decode cX2_find 9 = .ok (.iload_n 2, 1) := by decide +kernel
theorem dX2_find_10 : decode cX2_find 10 = .ok (.invokestatic 38, 3) := by decide +kernel
theorem dX2_find_13 : decode cX2_find 13 = .ok (.ifCond .ne 5, 3) := by decide +kernel
theorem dX2_find_16 : decode cX2_find 16 = .ok (.iconst (-1), 1) := by decide +kernel
theorem dX2_find_17 : decode cX2_find 17 = .ok (.ireturn, 1) := by decide +kernel
theorem dX2_find_18 : decode cX2_find 18 = .ok (.aload_n 0, 1) := by decide +kernel
theorem dX2_find_19 : decode cX2_find 19 = .ok (.iload_n 1, 1) := by decide +kernel
theorem dX2_find_20 : decode cX2_find 20 = .ok (.iload_n 2, 1) := by decide +kernel
theorem dX2_find_21 : decode cX2_find 21 = .ok (.invokevirtual 42, 3) := by decide +kernel
theorem dX2_find_24 : decode cX2_find 24 = .ok (.istore_n 3, 1) := by decide +kernel
theorem dX2_find_25 : decode cX2_find 25 = .ok (.iload_n 3, 1) := by decide +kernel
theorem dX2_find_26 : decode cX2_find 26 = .ok (.bipush (-3), 2) := by decide +kernel
theorem dX2_find_28 : decode cX2_find 28 = .ok (.if_icmp .ne 8, 3) := by decide +kernel
theorem dX2_find_31 : decode cX2_find 31 = .ok (.bipush (-3), 2) := by decide +kernel
theorem dX2_find_33 : decode cX2_find 33 = .ok (.goto 12, 3) := by decide +kernel
theorem dX2_find_36 : decode cX2_find 36 = .ok (.aload_n 0, 1) := by decide +kernel
theorem dX2_find_37 : decode cX2_find 37 = .ok (.iload_n 1, 1) := by decide +kernel
theorem dX2_find_38 : decode cX2_find 38 = .ok (.iload_n 3, 1) := by decide +kernel
theorem dX2_find_39 : decode cX2_find 39 = .ok (.invokevirtual 88, 3) := by decide +kernel
theorem dX2_find_42 : decode cX2_find 42 = .ok (.invokestatic 91, 3) := by decide +kernel
theorem dX2_find_45 : decode cX2_find 45 = .ok (.ireturn, 1) := by decide +kernel
set_option maxRecDepth 20000 in
theorem ggX2_inode_X2_isBelow : GoodIn wsX2_inode wsX2_isBelow := goodIn_r _ [5] (by decide +kernel) (by decide +kernel)
set_option maxRecDepth 20000 in
theorem gX2_inode_X2_isBelow : GoodIn wsX2_inode (va_wsS RX2 23 yX2_isBelow wsX2_isBelow) := goodIn_app (goodIn_of _ (by decide +kernel)) ggX2_inode_X2_isBelow
set_option maxRecDepth 20000 in
theorem ggX2_inode_X2_inodeAt : GoodIn wsX2_inode wsX2_inodeAt := goodIn_r _ [8] (by decide +kernel) (by decide +kernel)
set_option maxRecDepth 20000 in
theorem gX2_inode_X2_inodeAt : GoodIn wsX2_inode (va_wsS RX2 54 yX2_inodeAt wsX2_inodeAt) := goodIn_app (goodIn_of _ (by decide +kernel)) ggX2_inode_X2_inodeAt
set_option maxRecDepth 20000 in
theorem ggX2_inode_X0_word : GoodIn wsX2_inode wsX0_word := goodIn_r _ [13, 14, 20, 21, 22, 23] (by decide +kernel) (by decide +kernel)
set_option maxRecDepth 20000 in
theorem gX2_inode_X0_word : GoodIn wsX2_inode (wsV RX2 136 RX0 yX0_word wsX0_word) := goodIn_app (goodIn_of _ (by decide +kernel)) ggX2_inode_X0_word
theorem dX2_inode_0 : decode cX2_inode 0 = .ok (.iload_n 1, 1) := by decide +kernel
theorem dX2_inode_1 : decode cX2_inode 1 = .ok (.bipush 12, 2) := by decide +kernel
theorem dX2_inode_3 : decode cX2_inode 3 = .ok (.invokestatic 23, 3) := by decide +kernel
theorem dX2_inode_6 : decode cX2_inode 6 = .ok (.ifCond .eq 12, 3) := by decide +kernel
theorem dX2_inode_9 : decode cX2_inode 9 = .ok (.iload_n 2, 1) := by decide +kernel
theorem dX2_inode_10 : decode cX2_inode 10 = .ok (.bipush 10, 2) := by decide +kernel
theorem dX2_inode_12 : decode cX2_inode 12 = .ok (.invokestatic 23, 3) := by decide +kernel
theorem dX2_inode_15 : decode cX2_inode 15 = .ok (.ifCond .ne 5, 3) := by decide +kernel
theorem dX2_inode_18 : decode cX2_inode 18 = .ok (.iconst (-1), 1) := by decide +kernel
theorem dX2_inode_19 : decode cX2_inode 19 = .ok (.ireturn, 1) := by decide +kernel
theorem dX2_inode_20 : decode cX2_inode 20 = .ok (.aload_n 0, 1) := by decide +kernel
theorem dX2_inode_21 : decode cX2_inode 21 = .ok (.getfield 12, 3) := by decide +kernel
theorem dX2_inode_24 : decode cX2_inode 24 = .ok (.iload_n 1, 1) := by decide +kernel
theorem dX2_inode_25 : decode cX2_inode 25 = .ok (.iload_n 2, 1) := by decide +kernel
theorem dX2_inode_26 : decode cX2_inode 26 = .ok (.invokestatic 54, 3) := by decide +kernel
theorem dX2_inode_29 : decode cX2_inode 29 = .ok (.invokevirtual 136, 3) := by decide +kernel
theorem dX2_inode_32 : decode cX2_inode 32 = .ok (.l2i, 1) := by decide +kernel
theorem dX2_inode_33 : decode cX2_inode 33 = .ok (.ireturn, 1) := by decide +kernel
set_option maxRecDepth 20000 in
theorem ggX2_data_X2_isBelow : GoodIn wsX2_data wsX2_isBelow := goodIn_r _ [6] (by decide +kernel) (by decide +kernel)
set_option maxRecDepth 20000 in
theorem gX2_data_X2_isBelow : GoodIn wsX2_data (va_wsS RX2 23 yX2_isBelow wsX2_isBelow) := goodIn_app (goodIn_of _ (by decide +kernel)) ggX2_data_X2_isBelow
set_option maxRecDepth 20000 in
theorem ggX2_data_X2_dataAt : GoodIn wsX2_data wsX2_dataAt := goodIn_r _ [9] (by decide +kernel) (by decide +kernel)
set_option maxRecDepth 20000 in
theorem gX2_data_X2_dataAt : GoodIn wsX2_data (va_wsS RX2 81 yX2_dataAt wsX2_dataAt) := goodIn_app (goodIn_of _ (by decide +kernel)) ggX2_data_X2_dataAt
set_option maxRecDepth 20000 in
theorem ggX2_data_X0_word : GoodIn wsX2_data wsX0_word := goodIn_r _ [14, 15, 21, 22, 23, 24] (by decide +kernel) (by decide +kernel)
set_option maxRecDepth 20000 in
theorem gX2_data_X0_word : GoodIn wsX2_data (wsV RX2 136 RX0 yX0_word wsX0_word) := goodIn_app (goodIn_of _ (by decide +kernel)) ggX2_data_X0_word
theorem dX2_data_0 : decode cX2_data 0 = .ok (.iload_n 1, 1) := by decide +kernel
theorem dX2_data_1 : decode cX2_data 1 = .ok (.bipush 40, 2) := by decide +kernel
theorem dX2_data_3 : decode cX2_data 3 = .ok (.invokestatic 23, 3) := by decide +kernel
theorem dX2_data_6 : decode cX2_data 6 = .ok (.ifCond .eq 11, 3) := by decide +kernel
theorem dX2_data_9 : decode cX2_data 9 = .ok (.iload_n 2, 1) := by decide +kernel
theorem dX2_data_10 : decode cX2_data 10 = .ok (.iconst 3, 1) := by decide +kernel
theorem dX2_data_11 : decode cX2_data 11 = .ok (.invokestatic 23, 3) := by decide +kernel
theorem dX2_data_14 : decode cX2_data 14 = .ok (.ifCond .ne 5, 3) := by decide +kernel
theorem dX2_data_17 : decode cX2_data 17 = .ok (.iconst (-1), 1) := by decide +kernel
theorem dX2_data_18 : decode cX2_data 18 = .ok (.ireturn, 1) := by decide +kernel
theorem dX2_data_19 : decode cX2_data 19 = .ok (.aload_n 0, 1) := by decide +kernel
theorem dX2_data_20 : decode cX2_data 20 = .ok (.aload_n 0, 1) := by decide +kernel
theorem dX2_data_21 : decode cX2_data 21 = .ok (.getfield 12, 3) := by decide +kernel
theorem dX2_data_24 : decode cX2_data 24 = .ok (.iload_n 1, 1) := by decide +kernel
theorem dX2_data_25 : decode cX2_data 25 = .ok (.iload_n 2, 1) := by decide +kernel
theorem dX2_data_26 : decode cX2_data 26 = .ok (.invokestatic 81, 3) := by decide +kernel
theorem dX2_data_29 : decode cX2_data 29 = .ok (.invokevirtual 136, 3) := by decide +kernel
theorem dX2_data_32 : decode cX2_data 32 = .ok (.putfield 140, 3) := by decide +kernel
theorem dX2_data_35 : decode cX2_data 35 = .ok (.iconst 1, 1) := by decide +kernel
theorem dX2_data_36 : decode cX2_data 36 = .ok (.ireturn, 1) := by decide +kernel
set_option maxRecDepth 20000 in
theorem ggX2_read_X2_isDataOfFile : GoodIn wsX2_read wsX2_isDataOfFile := goodIn_r _ [7, 8, 9, 10, 6, 11, 12, 13, 14, 15, 16, 17, 18, 1, 19, 20, 21, 22, 23, 24, 25, 26, 27, 28, 29, 30, 31, 42, 43, 44, 45, 46, 47, 48, 49, 50] (by decide +kernel) (by decide +kernel)
set_option maxRecDepth 20000 in
theorem gX2_read_X2_isDataOfFile : GoodIn wsX2_read (wsV RX2 84 RX2 yX2_isDataOfFile wsX2_isDataOfFile) := goodIn_app (goodIn_of _ (by decide +kernel)) ggX2_read_X2_isDataOfFile
set_option maxRecDepth 20000 in
theorem ggX2_read_X2_placeOf : GoodIn wsX2_read wsX2_placeOf := goodIn_r _ [35, 1, 36, 37, 6, 38, 19, 20, 21, 22, 23, 24, 25, 26, 27, 42, 43, 44, 45, 46, 47, 48, 49, 50] (by decide +kernel) (by decide +kernel)
set_option maxRecDepth 20000 in
theorem gX2_read_X2_placeOf : GoodIn wsX2_read (wsV RX2 88 RX2 yX2_placeOf wsX2_placeOf) := goodIn_app (goodIn_of _ (by decide +kernel)) ggX2_read_X2_placeOf
set_option maxRecDepth 20000 in
theorem ggX2_read_X2_dataAt : GoodIn wsX2_read wsX2_dataAt := goodIn_r _ [41] (by decide +kernel) (by decide +kernel)
set_option maxRecDepth 20000 in
theorem gX2_read_X2_dataAt : GoodIn wsX2_read (va_wsS RX2 81 yX2_dataAt wsX2_dataAt) := goodIn_app (goodIn_of _ (by decide +kernel)) ggX2_read_X2_dataAt
set_option maxRecDepth 20000 in
theorem ggX2_read_X0_word : GoodIn wsX2_read wsX0_word := goodIn_r _ [26, 27, 47, 48, 49, 50] (by decide +kernel) (by decide +kernel)
set_option maxRecDepth 20000 in
theorem gX2_read_X0_word : GoodIn wsX2_read (wsV RX2 136 RX0 yX0_word wsX0_word) := goodIn_app (goodIn_of _ (by decide +kernel)) ggX2_read_X0_word
theorem dX2_read_0 : decode cX2_read 0 = .ok (.aload_n 0, 1) := by decide +kernel
theorem dX2_read_1 : decode cX2_read 1 = .ok (.iload_n 1, 1) := by decide +kernel
theorem dX2_read_2 : decode cX2_read 2 = .ok (.iload_n 2, 1) := by decide +kernel
theorem dX2_read_3 : decode cX2_read 3 = .ok (.iload_n 3, 1) := by decide +kernel
theorem dX2_read_4 : decode cX2_read 4 = .ok (.invokevirtual 84, 3) := by decide +kernel
theorem dX2_read_7 : decode cX2_read 7 = .ok (.ifCond .ne 5, 3) := by decide +kernel
theorem dX2_read_10 : decode cX2_read 10 = .ok (.iconst (-1), 1) := by decide +kernel
theorem dX2_read_11 : decode cX2_read 11 = .ok (.ireturn, 1) := by decide +kernel
theorem dX2_read_12 : decode cX2_read 12 = .ok (.aload_n 0, 1) := by decide +kernel
theorem dX2_read_13 : decode cX2_read 13 = .ok (.aload_n 0, 1) := by decide +kernel
theorem dX2_read_14 : decode cX2_read 14 = .ok (.getfield 12, 3) := by decide +kernel
theorem dX2_read_17 : decode cX2_read 17 = .ok (.aload_n 0, 1) := by decide +kernel
theorem dX2_read_18 : decode cX2_read 18 = .ok (.iload_n 1, 1) := by decide +kernel
theorem dX2_read_19 : decode cX2_read 19 = .ok (.iload_n 2, 1) := by decide +kernel
theorem dX2_read_20 : decode cX2_read 20 = .ok (.invokevirtual 88, 3) := by decide +kernel
theorem dX2_read_23 : decode cX2_read 23 = .ok (.iload_n 3, 1) := by decide +kernel
theorem dX2_read_24 : decode cX2_read 24 = .ok (.invokestatic 81, 3) := by decide +kernel
theorem dX2_read_27 : decode cX2_read 27 = .ok (.invokevirtual 136, 3) := by decide +kernel
theorem dX2_read_30 : decode cX2_read 30 = .ok (.putfield 140, 3) := by decide +kernel
theorem dX2_read_33 : decode cX2_read 33 = .ok (.iconst 1, 1) := by decide +kernel
theorem dX2_read_34 : decode cX2_read 34 = .ok (.ireturn, 1) := by decide +kernel
theorem dX2_asked_0 : decode cX2_asked 0 = .ok (.aload_n 0, 1) := by decide +kernel
theorem dX2_asked_1 : decode cX2_asked 1 = .ok (.getfield 140, 3) := by decide +kernel
theorem dX2_asked_4 : decode cX2_asked 4 = .ok (.lreturn, 1) := by decide +kernel
set_option maxRecDepth 20000 in
theorem ggX2_record_X2_isBelow : GoodIn wsX2_record wsX2_isBelow := goodIn_r _ [4] (by decide +kernel) (by decide +kernel)
set_option maxRecDepth 20000 in
theorem gX2_record_X2_isBelow : GoodIn wsX2_record (va_wsS RX2 23 yX2_isBelow wsX2_isBelow) := goodIn_app (goodIn_of _ (by decide +kernel)) ggX2_record_X2_isBelow
set_option maxRecDepth 20000 in
theorem ggX2_record_X2_recorded : GoodIn wsX2_record wsX2_recorded := goodIn_r _ [8, 9, 10, 11, 3, 12, 13, 14, 15, 16, 17, 18, 19, 20, 21, 22, 23, 24, 25, 26, 27] (by decide +kernel) (by decide +kernel)
set_option maxRecDepth 20000 in
theorem gX2_record_X2_recorded : GoodIn wsX2_record (wsV RX2 144 RX2 yX2_recorded wsX2_recorded) := goodIn_app (goodIn_of _ (by decide +kernel)) ggX2_record_X2_recorded
theorem dX2_record_0 : decode cX2_record 0 = .ok (.iload_n 1, 1) := by decide +kernel
theorem dX2_record_1 : decode cX2_record 1 = .ok (.iconst 4, 1) := by decide +kernel
theorem dX2_record_2 : decode cX2_record 2 = .ok (.invokestatic 23, 3) := by decide +kernel
theorem dX2_record_5 : decode cX2_record 5 = .ok (.ifCond .eq 11, 3) := by decide +kernel
theorem dX2_record_8 : decode cX2_record 8 = .ok (.aload_n 0, 1) := by decide +kernel
theorem dX2_record_9 : decode cX2_record 9 = .ok (.iload_n 1, 1) := by decide +kernel
theorem dX2_record_10 : decode cX2_record 10 = .ok (.invokevirtual 144, 3) := by decide +kernel
theorem dX2_record_13 : decode cX2_record 13 = .ok (.goto 4, 3) := by decide +kernel
theorem dX2_record_16 : decode cX2_record 16 = .ok (.iconst (-1), 1) := by decide +kernel
theorem dX2_record_17 : decode cX2_record 17 = .ok (.ireturn, 1) := by decide +kernel
set_option maxRecDepth 20000 in
theorem ggX2_plan_X2_isBelow : GoodIn wsX2_plan wsX2_isBelow := goodIn_r _ [8] (by decide +kernel) (by decide +kernel)
set_option maxRecDepth 20000 in
theorem gX2_plan_X2_isBelow : GoodIn wsX2_plan (va_wsS RX2 23 yX2_isBelow wsX2_isBelow) := goodIn_app (goodIn_of _ (by decide +kernel)) ggX2_plan_X2_isBelow
set_option maxRecDepth 20000 in
theorem ggX2_plan_X2_findNextMove : GoodIn wsX2_plan wsX2_findNextMove := goodIn_r _ [12, 13, 14, 15, 7, 16, 17, 18, 19, 20, 21, 22, 23, 24, 25, 26, 27, 28, 29, 30, 31, 32, 33, 34, 35, 36, 37, 38, 39, 40, 41, 42, 43, 44, 45, 1, 46, 47, 48, 49, 50, 51, 52, 53, 54, 55, 56, 57, 58, 59, 60, 61, 62, 63, 64, 65, 66, 67, 68, 69, 70, 71, 72, 76, 77, 78, 79, 73, 74, 75] (by decide +kernel) (by decide +kernel)
set_option maxRecDepth 20000 in
theorem gX2_plan_X2_findNextMove : GoodIn wsX2_plan (wsV RX2 103 RX2 yX2_findNextMove wsX2_findNextMove) := goodIn_app (goodIn_of _ (by decide +kernel)) ggX2_plan_X2_findNextMove
set_option maxRecDepth 20000 in
theorem ggX2_plan_X2_placeOf : GoodIn wsX2_plan wsX2_placeOf := goodIn_r _ [38, 21, 39, 40, 7, 41, 22, 23, 24, 25, 26, 27, 28, 29, 30, 68, 69, 70, 71, 72, 76, 77, 78, 79] (by decide +kernel) (by decide +kernel)
set_option maxRecDepth 20000 in
theorem gX2_plan_X2_placeOf : GoodIn wsX2_plan (wsV RX2 88 RX2 yX2_placeOf wsX2_placeOf) := goodIn_app (goodIn_of _ (by decide +kernel)) ggX2_plan_X2_placeOf
theorem dX2_plan_0 : decode cX2_plan 0 = .ok (.iload_n 1, 1) := by decide +kernel
theorem dX2_plan_1 : decode cX2_plan 1 = .ok (.iconst 4, 1) := by decide +kernel
theorem dX2_plan_2 : decode cX2_plan 2 = .ok (.invokestatic 23, 3) := by decide +kernel
theorem dX2_plan_5 : decode cX2_plan 5 = .ok (.ifCond .ne 5, 3) := by decide +kernel
theorem dX2_plan_8 : decode cX2_plan 8 = .ok (.iconst (-1), 1) := by decide +kernel
theorem dX2_plan_9 : decode cX2_plan 9 = .ok (.ireturn, 1) := by decide +kernel
theorem dX2_plan_10 : decode cX2_plan 10 = .ok (.aload_n 0, 1) := by decide +kernel
theorem dX2_plan_11 : decode cX2_plan 11 = .ok (.invokevirtual 103, 3) := by decide +kernel
theorem dX2_plan_14 : decode cX2_plan 14 = .ok (.istore_n 2, 1) := by decide +kernel
theorem dX2_plan_15 : decode cX2_plan 15 = .ok (.iload_n 2, 1) := by decide +kernel
theorem dX2_plan_16 : decode cX2_plan 16 = .ok (.iconst 1, 1) := by decide +kernel
theorem dX2_plan_17 : decode cX2_plan 17 = .ok (.if_icmp .eq 5, 3) := by decide +kernel
theorem dX2_plan_20 : decode cX2_plan 20 = .ok (.iload_n 2, 1) := by decide +kernel
theorem dX2_plan_21 : decode cX2_plan 21 = .ok (.ireturn, 1) := by decide +kernel
theorem dX2_plan_22 : decode cX2_plan 22 = .ok (.iload_n 1, 1) := by decide +kernel
theorem dX2_plan_23 : decode cX2_plan 23 = .ok (.tableswitch 60 0 2 #[25, 44, 52], 25) := by decide +kernel
theorem dX2_plan_48 : decode cX2_plan 48 = .ok (.aload_n 0, 1) := by decide +kernel
theorem dX2_plan_49 : decode cX2_plan 49 = .ok (.aload_n 0, 1) := by decide +kernel
theorem dX2_plan_50 : decode cX2_plan 50 = .ok (.getfield 19, 3) := by decide +kernel
theorem dX2_plan_53 : decode cX2_plan 53 = .ok (.getfield 109, 3) := by decide +kernel
theorem dX2_plan_56 : decode cX2_plan 56 = .ok (.aload_n 0, 1) := by decide +kernel
theorem dX2_plan_57 : decode cX2_plan 57 = .ok (.getfield 19, 3) := by decide +kernel
theorem dX2_plan_60 : decode cX2_plan 60 = .ok (.getfield 112, 3) := by decide +kernel
theorem dX2_plan_63 : decode cX2_plan 63 = .ok (.invokevirtual 88, 3) := by decide +kernel
theorem dX2_plan_66 : decode cX2_plan 66 = .ok (.ireturn, 1) := by decide +kernel
theorem dX2_plan_67 : decode cX2_plan 67 = .ok (.aload_n 0, 1) := by decide +kernel
theorem dX2_plan_68 : decode cX2_plan 68 = .ok (.getfield 19, 3) := by decide +kernel
theorem dX2_plan_71 : decode cX2_plan 71 = .ok (.getfield 115, 3) := by decide +kernel
theorem dX2_plan_74 : decode cX2_plan 74 = .ok (.ireturn, 1) := by decide +kernel
theorem dX2_plan_75 : decode cX2_plan 75 = .ok (.aload_n 0, 1) := by decide +kernel
theorem dX2_plan_76 : decode cX2_plan 76 = .ok (.getfield 19, 3) := by decide +kernel
theorem dX2_plan_79 : decode cX2_plan 79 = .ok (.getfield 109, 3) := by decide +kernel
theorem dX2_plan_82 : decode cX2_plan 82 = .ok (.ireturn, 1) := by decide +kernel
theorem dX2_plan_83 : decode cX2_plan 83 = .ok (.aload_n 0, 1) := by decide +kernel
theorem dX2_plan_84 : decode cX2_plan 84 = .ok (.getfield 19, 3) := by decide +kernel
theorem dX2_plan_87 : decode cX2_plan 87 = .ok (.getfield 112, 3) := by decide +kernel
theorem dX2_plan_90 : decode cX2_plan 90 = .ok (.ireturn, 1) := by decide +kernel
set_option maxRecDepth 20000 in
theorem ggX2_runs_X2_isOfKind : GoodIn wsX2_runs wsX2_isOfKind := goodIn_r _ [5, 6, 7, 4, 8, 9, 10, 11, 12, 13, 14, 15, 16, 17, 18, 19, 20, 21, 22, 34, 35, 36, 37, 38, 39, 40, 41, 42] (by decide +kernel) (by decide +kernel)
set_option maxRecDepth 20000 in
theorem gX2_runs_X2_isOfKind : GoodIn wsX2_runs (wsV RX2 35 RX2 yX2_isOfKind wsX2_isOfKind) := goodIn_app (goodIn_of _ (by decide +kernel)) ggX2_runs_X2_isOfKind
set_option maxRecDepth 20000 in
theorem ggX2_runs_X2_sizeOf : GoodIn wsX2_runs wsX2_sizeOf := goodIn_r _ [26, 13, 14, 15, 4, 16, 17, 18, 19, 20, 21, 22, 34, 35, 36, 37, 38, 39, 40, 41, 42] (by decide +kernel) (by decide +kernel)
set_option maxRecDepth 20000 in
theorem gX2_runs_X2_sizeOf : GoodIn wsX2_runs (wsV RX2 70 RX2 yX2_sizeOf wsX2_sizeOf) := goodIn_app (goodIn_of _ (by decide +kernel)) ggX2_runs_X2_sizeOf
set_option maxRecDepth 20000 in
theorem ggX2_runs_X2_placeOf : GoodIn wsX2_runs wsX2_placeOf := goodIn_r _ [30, 13, 31, 32, 4, 33, 14, 15, 16, 17, 18, 19, 20, 21, 22, 34, 35, 36, 37, 38, 39, 40, 41, 42] (by decide +kernel) (by decide +kernel)
set_option maxRecDepth 20000 in
theorem gX2_runs_X2_placeOf : GoodIn wsX2_runs (wsV RX2 88 RX2 yX2_placeOf wsX2_placeOf) := goodIn_app (goodIn_of _ (by decide +kernel)) ggX2_runs_X2_placeOf
theorem dX2_runs_0 : decode cX2_runs 0 = .ok (.aload_n 0, 1) := by decide +kernel
theorem dX2_runs_1 : decode cX2_runs 1 = .ok (.iload_n 1, 1) := by decide +kernel
theorem dX2_runs_2 : decode cX2_runs 2 = .ok (.iconst 2, 1) := by decide +kernel
theorem dX2_runs_3 : decode cX2_runs 3 = .ok (.invokevirtual 35, 3) := by decide +kernel
theorem dX2_runs_6 : decode cX2_runs 6 = .ok (.ifCond .ne 5, 3) := by decide +kernel
theorem dX2_runs_9 : decode cX2_runs 9 = .ok (.iconst (-1), 1) := by decide +kernel
theorem dX2_runs_10 : decode cX2_runs 10 = .ok (.ireturn, 1) := by decide +kernel
theorem dX2_runs_11 : decode cX2_runs 11 = .ok (.aload_n 0, 1) := by decide +kernel
theorem dX2_runs_12 : decode cX2_runs 12 = .ok (.iload_n 1, 1) := by decide +kernel
theorem dX2_runs_13 : decode cX2_runs 13 = .ok (.invokevirtual 70, 3) := by decide +kernel
theorem dX2_runs_16 : decode cX2_runs 16 = .ok (.istore_n 2, 1) := by decide +kernel
theorem dX2_runs_17 : decode cX2_runs 17 = .ok (.iconst 0, 1) := by decide +kernel
theorem dX2_runs_18 : decode cX2_runs 18 = .ok (.istore_n 3, 1) := by decide +kernel
theorem dX2_runs_19 : decode cX2_runs 19 = .ok (.iconst 0, 1) := by decide +kernel
theorem dX2_runs_20 : decode cX2_runs 20 = .ok (.istore 4, 2) := by decide +kernel
theorem dX2_runs_22 : decode cX2_runs 22 = .ok (.iload 4, 2) := by decide +kernel
theorem dX2_runs_24 : decode cX2_runs 24 = .ok (.iload_n 2, 1) := by decide +kernel
theorem dX2_runs_25 : decode cX2_runs 25 = .ok (.if_icmp .ge 38, 3) := by decide +kernel
theorem dX2_runs_28 : decode cX2_runs 28 = .ok (.iload 4, 2) := by decide +kernel
theorem dX2_runs_30 : decode cX2_runs 30 = .ok (.ifCond .eq 24, 3) := by decide +kernel
theorem dX2_runs_33 : decode cX2_runs 33 = .ok (.aload_n 0, 1) := by decide +kernel
theorem dX2_runs_34 : decode cX2_runs 34 = .ok (.iload_n 1, 1) := by decide +kernel
theorem dX2_runs_35 : decode cX2_runs 35 = .ok (.iload 4, 2) := by decide +kernel
theorem dX2_runs_37 : decode cX2_runs 37 = .ok (.invokevirtual 88, 3) := by decide +kernel
theorem dX2_runs_40 : decode cX2_runs 40 = .ok (.aload_n 0, 1) := by decide +kernel
theorem dX2_runs_41 : decode cX2_runs 41 = .ok (.iload_n 1, 1) := by decide +kernel
theorem dX2_runs_42 : decode cX2_runs 42 = .ok (.iload 4, 2) := by decide +kernel
theorem dX2_runs_44 : decode cX2_runs 44 = .ok (.iconst 1, 1) := by decide +kernel
theorem dX2_runs_45 : decode cX2_runs 45 = .ok (.isub, 1) := by decide +kernel
theorem dX2_runs_46 : decode cX2_runs 46 = .ok (.invokevirtual 88, 3) := by decide +kernel
theorem dX2_runs_49 : decode cX2_runs 49 = .ok (.iconst 1, 1) := by decide +kernel
theorem dX2_runs_50 : decode cX2_runs 50 = .ok (.iadd, 1) := by decide +kernel
theorem dX2_runs_51 : decode cX2_runs 51 = .ok (.if_icmp .eq 6, 3) := by decide +kernel
theorem dX2_runs_54 : decode cX2_runs 54 = .ok (.iinc 3 1, 3) := by decide +kernel
theorem dX2_runs_57 : decode cX2_runs 57 = .ok (.iinc 4 1, 3) := by decide +kernel
theorem dX2_runs_60 : decode cX2_runs 60 = .ok (.goto (-38), 3) := by decide +kernel
theorem dX2_runs_63 : decode cX2_runs 63 = .ok (.iload_n 3, 1) := by decide +kernel
theorem dX2_runs_64 : decode cX2_runs 64 = .ok (.ireturn, 1) := by decide +kernel
set_option maxRecDepth 20000 in
theorem ggX2_count_X2_usedBlocks : GoodIn wsX2_count wsX2_usedBlocks := goodIn_r _ [8, 9, 10, 11, 7, 12, 13, 14, 15, 16, 1, 17, 18, 19, 20, 21, 22, 23, 24, 25, 26, 27, 28, 29, 30, 31, 32, 33, 34, 35, 36, 60, 61, 62, 63, 64, 65, 66, 67, 68] (by decide +kernel) (by decide +kernel)
set_option maxRecDepth 20000 in
theorem gX2_count_X2_usedBlocks : GoodIn wsX2_count (wsV RX2 73 RX2 yX2_usedBlocks wsX2_usedBlocks) := goodIn_app (goodIn_of _ (by decide +kernel)) ggX2_count_X2_usedBlocks
set_option maxRecDepth 20000 in
theorem ggX2_count_J13_bitCount_95d88 : GoodIn wsX2_count wsJ13_bitCount_95d88 := goodIn_r _ [40, 41, 42, 43] (by decide +kernel) (by decide +kernel)
set_option maxRecDepth 20000 in
theorem gX2_count_J13_bitCount_95d88 : GoodIn wsX2_count (va_wsS RX2 147 yJ13_bitCount_95d88 wsJ13_bitCount_95d88) := goodIn_app (goodIn_of _ (by decide +kernel)) ggX2_count_J13_bitCount_95d88
set_option maxRecDepth 20000 in
theorem ggX2_count_X2_countInodes : GoodIn wsX2_count wsX2_countInodes := goodIn_r _ [47, 13, 14, 15, 7, 16, 1, 17, 18, 19, 20, 21, 22, 23, 24, 25, 60, 61, 62, 63, 64, 65, 66, 67, 68] (by decide +kernel) (by decide +kernel)
set_option maxRecDepth 20000 in
theorem gX2_count_X2_countInodes : GoodIn wsX2_count (wsV RX2 152 RX2 yX2_countInodes wsX2_countInodes) := goodIn_app (goodIn_of _ (by decide +kernel)) ggX2_count_X2_countInodes
set_option maxRecDepth 20000 in
theorem ggX2_count_X2_countMisplacedBlocks : GoodIn wsX2_count wsX2_countMisplacedBlocks := goodIn_r _ [51, 9, 10, 11, 7, 12, 13, 14, 15, 16, 1, 17, 18, 19, 20, 21, 22, 23, 24, 25, 26, 27, 28, 29, 30, 31, 32, 33, 34, 35, 36, 60, 61, 62, 63, 64, 65, 66, 67, 68] (by decide +kernel) (by decide +kernel)
set_option maxRecDepth 20000 in
theorem gX2_count_X2_countMisplacedBlocks : GoodIn wsX2_count (wsV RX2 158 RX2 yX2_countMisplacedBlocks wsX2_countMisplacedBlocks) := goodIn_app (goodIn_of _ (by decide +kernel)) ggX2_count_X2_countMisplacedBlocks
set_option maxRecDepth 20000 in
theorem ggX2_count_X2_countEntries : GoodIn wsX2_count wsX2_countEntries := goodIn_r _ [55, 13, 14, 15, 7, 16, 1, 17, 18, 19, 20, 21, 22, 23, 24, 25, 56, 57, 58, 59, 30, 31, 32, 33, 34, 35, 36, 60, 61, 62, 63, 64, 65, 66, 67, 68] (by decide +kernel) (by decide +kernel)
set_option maxRecDepth 20000 in
theorem gX2_count_X2_countEntries : GoodIn wsX2_count (wsV RX2 161 RX2 yX2_countEntries wsX2_countEntries) := goodIn_app (goodIn_of _ (by decide +kernel)) ggX2_count_X2_countEntries
theorem dX2_count_0 : decode cX2_count 0 = .ok (.iload_n 1, 1) := by decide +kernel
theorem dX2_count_1 : decode cX2_count 1 = .ok (.tableswitch 75 0 5 #[39, 47, 52, 60, 65, 70], 39) := by decide +kernel
theorem dX2_count_40 : decode cX2_count 40 = .ok (.aload_n 0, 1) := by decide +kernel
theorem dX2_count_41 : decode cX2_count 41 = .ok (.invokevirtual 73, 3) := by decide +kernel
theorem dX2_count_44 : decode cX2_count 44 = .ok (.invokestatic 147, 3) := by decide +kernel
theorem dX2_count_47 : decode cX2_count 47 = .ok (.ireturn, 1) := by decide +kernel
theorem dX2_count_48 : decode cX2_count 48 = .ok (.aload_n 0, 1) := by decide +kernel
theorem dX2_count_49 : decode cX2_count 49 = .ok (.invokevirtual 152, 3) := by decide +kernel
theorem dX2_count_52 : decode cX2_count 52 = .ok (.ireturn, 1) := by decide +kernel
theorem dX2_count_53 : decode cX2_count 53 = .ok (.aload_n 0, 1) := by decide +kernel
theorem dX2_count_54 : decode cX2_count 54 = .ok (.getfield 12, 3) := by decide +kernel
theorem dX2_count_57 : decode cX2_count 57 = .ok (.getfield 124, 3) := by decide +kernel
theorem dX2_count_60 : decode cX2_count 60 = .ok (.ireturn, 1) := by decide +kernel
theorem dX2_count_61 : decode cX2_count 61 = .ok (.aload_n 0, 1) := by decide +kernel
theorem dX2_count_62 : decode cX2_count 62 = .ok (.getfield 155, 3) := by decide +kernel
theorem dX2_count_65 : decode cX2_count 65 = .ok (.ireturn, 1) := by decide +kernel
theorem dX2_count_66 : decode cX2_count 66 = .ok (.aload_n 0, 1) := by decide +kernel
theorem dX2_count_67 : decode cX2_count 67 = .ok (.invokevirtual 158, 3) := by decide +kernel
theorem dX2_count_70 : decode cX2_count 70 = .ok (.ireturn, 1) := by decide +kernel
theorem dX2_count_71 : decode cX2_count 71 = .ok (.aload_n 0, 1) := by decide +kernel
theorem dX2_count_72 : decode cX2_count 72 = .ok (.invokevirtual 161, 3) := by decide +kernel
theorem dX2_count_75 : decode cX2_count 75 = .ok (.ireturn, 1) := by decide +kernel
theorem dX2_count_76 : decode cX2_count 76 = .ok (.iconst (-1), 1) := by decide +kernel
theorem dX2_count_77 : decode cX2_count 77 = .ok (.ireturn, 1) := by decide +kernel
set_option maxRecDepth 20000 in
theorem ggX2_tree_X2_hashOfInode : GoodIn wsX2_tree wsX2_hashOfInode := goodIn_r _ [7, 8, 9, 10, 6, 11, 12, 13, 14, 15, 16, 17, 18, 19, 20, 21, 22, 23, 24, 25, 26, 27, 28, 29, 30, 31, 32, 33, 34, 35, 36, 37, 38, 39, 40, 41, 42, 43, 44, 45, 46, 47, 48, 49, 50, 51, 52, 53, 54, 55, 56, 57, 58, 59, 60, 1, 3, 4, 5, 61, 62, 63, 64, 65, 66, 67, 68, 69] (by decide +kernel) (by decide +kernel)
set_option maxRecDepth 20000 in
theorem gX2_tree_X2_hashOfInode : GoodIn wsX2_tree (wsV RX2 169 RX2 yX2_hashOfInode wsX2_hashOfInode) := goodIn_app (goodIn_of _ (by decide +kernel)) ggX2_tree_X2_hashOfInode
theorem dX2_tree_0 : decode cX2_tree 0 = .ok (.aload_n 0, 1) := by decide +kernel
theorem dX2_tree_1 : decode cX2_tree 1 = .ok (.iconst 1, 1) := by decide +kernel
theorem dX2_tree_2 : decode cX2_tree 2 = .ok (.putfield 164, 3) := by decide +kernel
theorem dX2_tree_5 : decode cX2_tree 5 = .ok (.aload_n 0, 1) := by decide +kernel
theorem dX2_tree_6 : decode cX2_tree 6 = .ok (.ldc2_w 167, 3) := by decide +kernel
theorem dX2_tree_9 : decode cX2_tree 9 = .ok (.iconst 0, 1) := by decide +kernel
theorem dX2_tree_10 : decode cX2_tree 10 = .ok (.iconst 0, 1) := by decide +kernel
theorem dX2_tree_11 : decode cX2_tree 11 = .ok (.invokevirtual 169, 3) := by decide +kernel
theorem dX2_tree_14 : decode cX2_tree 14 = .ok (.lreturn, 1) := by decide +kernel
set_option maxRecDepth 20000 in
theorem ggX2_digest_X0_word : GoodIn wsX2_digest wsX0_word := goodIn_r _ [8, 9, 21, 22, 23, 24] (by decide +kernel) (by decide +kernel)
set_option maxRecDepth 20000 in
theorem gX2_digest_X0_word : GoodIn wsX2_digest (wsV RX2 136 RX0 yX0_word wsX0_word) := goodIn_app (goodIn_of _ (by decide +kernel)) ggX2_digest_X0_word
set_option maxRecDepth 20000 in
theorem ggX2_digest_X2_isDown : GoodIn wsX2_digest wsX2_isDown := goodIn_r _ [14, 3, 15, 16, 17, 18, 19, 20, 21, 22, 23, 24] (by decide +kernel) (by decide +kernel)
set_option maxRecDepth 20000 in
theorem gX2_digest_X2_isDown : GoodIn wsX2_digest (wsV RX2 177 RX2 yX2_isDown wsX2_isDown) := goodIn_app (goodIn_of _ (by decide +kernel)) ggX2_digest_X2_isDown
theorem dX2_digest_0 : decode cX2_digest 0 = .ok (.ldc2_w 173, 3) := by decide +kernel
theorem dX2_digest_3 : decode cX2_digest 3 = .ok (.lstore_n 1, 1) := by decide +kernel
theorem dX2_digest_4 : decode cX2_digest 4 = .ok (.iconst 0, 1) := by decide +kernel
theorem dX2_digest_5 : decode cX2_digest 5 = .ok (.istore_n 3, 1) := by decide +kernel
theorem dX2_digest_6 : decode cX2_digest 6 = .ok (.iload_n 3, 1) := by decide +kernel
theorem dX2_digest_7 : decode cX2_digest 7 = .ok (.sipush 244, 3) := by decide +kernel
theorem dX2_digest_10 : decode cX2_digest 10 = .ok (.if_icmp .ge 24, 3) := by decide +kernel
theorem dX2_digest_13 : decode cX2_digest 13 = .ok (.ldc2_w 175, 3) := by decide +kernel
theorem dX2_digest_16 : decode cX2_digest 16 = .ok (.lload_n 1, 1) := by decide +kernel
theorem dX2_digest_17 : decode cX2_digest 17 = .ok (.lmul, 1) := by decide +kernel
theorem dX2_digest_18 : decode cX2_digest 18 = .ok (.aload_n 0, 1) := by decide +kernel
theorem dX2_digest_19 : decode cX2_digest 19 = .ok (.getfield 12, 3) := by decide +kernel
theorem dX2_digest_22 : decode cX2_digest 22 = .ok (.iload_n 3, 1) := by decide +kernel
theorem dX2_digest_23 : decode cX2_digest 23 = .ok (.invokevirtual 136, 3) := by decide +kernel
theorem dX2_digest_26 : decode cX2_digest 26 = .ok (.ladd, 1) := by decide +kernel
theorem dX2_digest_27 : decode cX2_digest 27 = .ok (.lstore_n 1, 1) := by decide +kernel
theorem dX2_digest_28 : decode cX2_digest 28 = .ok (.iinc 3 1, 3) := by decide +kernel
theorem dX2_digest_31 : decode cX2_digest 31 = .ok (.goto (-25), 3) := by decide +kernel
theorem dX2_digest_34 : decode cX2_digest 34 = .ok (.ldc2_w 175, 3) := by decide +kernel
theorem dX2_digest_37 : decode cX2_digest 37 = .ok (.lload_n 1, 1) := by decide +kernel
theorem dX2_digest_38 : decode cX2_digest 38 = .ok (.lmul, 1) := by decide +kernel
theorem dX2_digest_39 : decode cX2_digest 39 = .ok (.aload_n 0, 1) := by decide +kernel
theorem dX2_digest_40 : decode cX2_digest 40 = .ok (.invokevirtual 177, 3) := by decide +kernel
theorem dX2_digest_43 : decode cX2_digest 43 = .ok (.i2l, 1) := by decide +kernel
theorem dX2_digest_44 : decode cX2_digest 44 = .ok (.ladd, 1) := by decide +kernel
theorem dX2_digest_45 : decode cX2_digest 45 = .ok (.lreturn, 1) := by decide +kernel
theorem dX2_inodeAt_0 : decode cX2_inodeAt 0 = .ok (.iload_n 0, 1) := by decide +kernel
theorem dX2_inodeAt_1 : decode cX2_inodeAt 1 = .ok (.bipush 10, 2) := by decide +kernel
theorem dX2_inodeAt_3 : decode cX2_inodeAt 3 = .ok (.imul, 1) := by decide +kernel
theorem dX2_inodeAt_4 : decode cX2_inodeAt 4 = .ok (.iload_n 1, 1) := by decide +kernel
theorem dX2_inodeAt_5 : decode cX2_inodeAt 5 = .ok (.iadd, 1) := by decide +kernel
theorem dX2_inodeAt_6 : decode cX2_inodeAt 6 = .ok (.ireturn, 1) := by decide +kernel
set_option maxRecDepth 20000 in
theorem ggX2_placeAt_X2_inodeAt : GoodIn wsX2_placeAt wsX2_inodeAt := goodIn_r _ [4] (by decide +kernel) (by decide +kernel)
set_option maxRecDepth 20000 in
theorem gX2_placeAt_X2_inodeAt : GoodIn wsX2_placeAt (va_wsS RX2 54 yX2_inodeAt wsX2_inodeAt) := goodIn_app (goodIn_of _ (by decide +kernel)) ggX2_placeAt_X2_inodeAt
theorem dX2_placeAt_0 : decode cX2_placeAt 0 = .ok (.iload_n 0, 1) := by decide +kernel
theorem dX2_placeAt_1 : decode cX2_placeAt 1 = .ok (.iconst 2, 1) := by decide +kernel
theorem dX2_placeAt_2 : decode cX2_placeAt 2 = .ok (.iload_n 1, 1) := by decide +kernel
theorem dX2_placeAt_3 : decode cX2_placeAt 3 = .ok (.iadd, 1) := by decide +kernel
theorem dX2_placeAt_4 : decode cX2_placeAt 4 = .ok (.invokestatic 54, 3) := by decide +kernel
theorem dX2_placeAt_7 : decode cX2_placeAt 7 = .ok (.ireturn, 1) := by decide +kernel
theorem dX2_dataAt_0 : decode cX2_dataAt 0 = .ok (.bipush 120, 2) := by decide +kernel
theorem dX2_dataAt_2 : decode cX2_dataAt 2 = .ok (.iload_n 0, 1) := by decide +kernel
theorem dX2_dataAt_3 : decode cX2_dataAt 3 = .ok (.iconst 3, 1) := by decide +kernel
theorem dX2_dataAt_4 : decode cX2_dataAt 4 = .ok (.imul, 1) := by decide +kernel
theorem dX2_dataAt_5 : decode cX2_dataAt 5 = .ok (.iadd, 1) := by decide +kernel
theorem dX2_dataAt_6 : decode cX2_dataAt 6 = .ok (.iload_n 1, 1) := by decide +kernel
theorem dX2_dataAt_7 : decode cX2_dataAt 7 = .ok (.iadd, 1) := by decide +kernel
theorem dX2_dataAt_8 : decode cX2_dataAt 8 = .ok (.ireturn, 1) := by decide +kernel
theorem dX2_recordAt_0 : decode cX2_recordAt 0 = .ok (.sipush 240, 3) := by decide +kernel
theorem dX2_recordAt_3 : decode cX2_recordAt 3 = .ok (.iload_n 0, 1) := by decide +kernel
theorem dX2_recordAt_4 : decode cX2_recordAt 4 = .ok (.iadd, 1) := by decide +kernel
theorem dX2_recordAt_5 : decode cX2_recordAt 5 = .ok (.ireturn, 1) := by decide +kernel
set_option maxRecDepth 20000 in
theorem ggX2_kindOf_X2_inodeAt : GoodIn wsX2_kindOf wsX2_inodeAt := goodIn_r _ [5] (by decide +kernel) (by decide +kernel)
set_option maxRecDepth 20000 in
theorem gX2_kindOf_X2_inodeAt : GoodIn wsX2_kindOf (va_wsS RX2 54 yX2_inodeAt wsX2_inodeAt) := goodIn_app (goodIn_of _ (by decide +kernel)) ggX2_kindOf_X2_inodeAt
set_option maxRecDepth 20000 in
theorem ggX2_kindOf_X0_word : GoodIn wsX2_kindOf wsX0_word := goodIn_r _ [10, 11, 17, 18, 19, 20] (by decide +kernel) (by decide +kernel)
set_option maxRecDepth 20000 in
theorem gX2_kindOf_X0_word : GoodIn wsX2_kindOf (wsV RX2 136 RX0 yX0_word wsX0_word) := goodIn_app (goodIn_of _ (by decide +kernel)) ggX2_kindOf_X0_word
theorem dX2_kindOf_0 : decode cX2_kindOf 0 = .ok (.aload_n 0, 1) := by decide +kernel
theorem dX2_kindOf_1 : decode cX2_kindOf 1 = .ok (.getfield 12, 3) := by decide +kernel
theorem dX2_kindOf_4 : decode cX2_kindOf 4 = .ok (.iload_n 1, 1) := by decide +kernel
theorem dX2_kindOf_5 : decode cX2_kindOf 5 = .ok (.iconst 0, 1) := by decide +kernel
theorem dX2_kindOf_6 : decode cX2_kindOf 6 = .ok (.invokestatic 54, 3) := by decide +kernel
theorem dX2_kindOf_9 : decode cX2_kindOf 9 = .ok (.invokevirtual 136, 3) := by decide +kernel
theorem dX2_kindOf_12 : decode cX2_kindOf 12 = .ok (.l2i, 1) := by decide +kernel
theorem dX2_kindOf_13 : decode cX2_kindOf 13 = .ok (.ireturn, 1) := by decide +kernel
set_option maxRecDepth 20000 in
theorem ggX2_sizeOf_X2_inodeAt : GoodIn wsX2_sizeOf wsX2_inodeAt := goodIn_r _ [5] (by decide +kernel) (by decide +kernel)
set_option maxRecDepth 20000 in
theorem gX2_sizeOf_X2_inodeAt : GoodIn wsX2_sizeOf (va_wsS RX2 54 yX2_inodeAt wsX2_inodeAt) := goodIn_app (goodIn_of _ (by decide +kernel)) ggX2_sizeOf_X2_inodeAt
set_option maxRecDepth 20000 in
theorem ggX2_sizeOf_X0_word : GoodIn wsX2_sizeOf wsX0_word := goodIn_r _ [10, 11, 17, 18, 19, 20] (by decide +kernel) (by decide +kernel)
set_option maxRecDepth 20000 in
theorem gX2_sizeOf_X0_word : GoodIn wsX2_sizeOf (wsV RX2 136 RX0 yX0_word wsX0_word) := goodIn_app (goodIn_of _ (by decide +kernel)) ggX2_sizeOf_X0_word
theorem dX2_sizeOf_0 : decode cX2_sizeOf 0 = .ok (.aload_n 0, 1) := by decide +kernel
theorem dX2_sizeOf_1 : decode cX2_sizeOf 1 = .ok (.getfield 12, 3) := by decide +kernel
theorem dX2_sizeOf_4 : decode cX2_sizeOf 4 = .ok (.iload_n 1, 1) := by decide +kernel
theorem dX2_sizeOf_5 : decode cX2_sizeOf 5 = .ok (.iconst 1, 1) := by decide +kernel
theorem dX2_sizeOf_6 : decode cX2_sizeOf 6 = .ok (.invokestatic 54, 3) := by decide +kernel
theorem dX2_sizeOf_9 : decode cX2_sizeOf 9 = .ok (.invokevirtual 136, 3) := by decide +kernel
theorem dX2_sizeOf_12 : decode cX2_sizeOf 12 = .ok (.l2i, 1) := by decide +kernel
theorem dX2_sizeOf_13 : decode cX2_sizeOf 13 = .ok (.ireturn, 1) := by decide +kernel
set_option maxRecDepth 20000 in
theorem ggX2_placeOf_X2_placeAt : GoodIn wsX2_placeOf wsX2_placeAt := goodIn_r _ [5, 6, 7, 4, 8] (by decide +kernel) (by decide +kernel)
set_option maxRecDepth 20000 in
theorem gX2_placeOf_X2_placeAt : GoodIn wsX2_placeOf (va_wsS RX2 61 yX2_placeAt wsX2_placeAt) := goodIn_app (goodIn_of _ (by decide +kernel)) ggX2_placeOf_X2_placeAt
set_option maxRecDepth 20000 in
theorem ggX2_placeOf_X0_word : GoodIn wsX2_placeOf wsX0_word := goodIn_r _ [13, 14, 20, 21, 22, 23] (by decide +kernel) (by decide +kernel)
set_option maxRecDepth 20000 in
theorem gX2_placeOf_X0_word : GoodIn wsX2_placeOf (wsV RX2 136 RX0 yX0_word wsX0_word) := goodIn_app (goodIn_of _ (by decide +kernel)) ggX2_placeOf_X0_word
theorem dX2_placeOf_0 : decode cX2_placeOf 0 = .ok (.aload_n 0, 1) := by decide +kernel
theorem dX2_placeOf_1 : decode cX2_placeOf 1 = .ok (.getfield 12, 3) := by decide +kernel
theorem dX2_placeOf_4 : decode cX2_placeOf 4 = .ok (.iload_n 1, 1) := by decide +kernel
theorem dX2_placeOf_5 : decode cX2_placeOf 5 = .ok (.iload_n 2, 1) := by decide +kernel
theorem dX2_placeOf_6 : decode cX2_placeOf 6 = .ok (.invokestatic 61, 3) := by decide +kernel
theorem dX2_placeOf_9 : decode cX2_placeOf 9 = .ok (.invokevirtual 136, 3) := by decide +kernel
theorem dX2_placeOf_12 : decode cX2_placeOf 12 = .ok (.l2i, 1) := by decide +kernel
theorem dX2_placeOf_13 : decode cX2_placeOf 13 = .ok (.ireturn, 1) := by decide +kernel
set_option maxRecDepth 20000 in
theorem ggX2_recorded_X2_recordAt : GoodIn wsX2_recorded wsX2_recordAt := goodIn_r _ [5] (by decide +kernel) (by decide +kernel)
set_option maxRecDepth 20000 in
theorem gX2_recorded_X2_recordAt : GoodIn wsX2_recorded (va_wsS RX2 106 yX2_recordAt wsX2_recordAt) := goodIn_app (goodIn_of _ (by decide +kernel)) ggX2_recorded_X2_recordAt
set_option maxRecDepth 20000 in
theorem ggX2_recorded_X0_word : GoodIn wsX2_recorded wsX0_word := goodIn_r _ [10, 11, 17, 18, 19, 20] (by decide +kernel) (by decide +kernel)
set_option maxRecDepth 20000 in
theorem gX2_recorded_X0_word : GoodIn wsX2_recorded (wsV RX2 136 RX0 yX0_word wsX0_word) := goodIn_app (goodIn_of _ (by decide +kernel)) ggX2_recorded_X0_word
theorem dX2_recorded_0 : decode cX2_recorded 0 = .ok (.aload_n 0, 1) := by decide +kernel
theorem dX2_recorded_1 : decode cX2_recorded 1 = .ok (.getfield 12, 3) := by decide +kernel
theorem dX2_recorded_4 : decode cX2_recorded 4 = .ok (.iload_n 1, 1) := by decide +kernel
theorem dX2_recorded_5 : decode cX2_recorded 5 = .ok (.invokestatic 106, 3) := by decide +kernel
theorem dX2_recorded_8 : decode cX2_recorded 8 = .ok (.invokevirtual 136, 3) := by decide +kernel
theorem dX2_recorded_11 : decode cX2_recorded 11 = .ok (.l2i, 1) := by decide +kernel
theorem dX2_recorded_12 : decode cX2_recorded 12 = .ok (.ireturn, 1) := by decide +kernel
theorem dX2_isBelow_0 : decode cX2_isBelow 0 = .ok (.iload_n 0, 1) := by decide +kernel
theorem dX2_isBelow_1 : decode cX2_isBelow 1 = .ok (.ifCond .lt 12, 3) := by decide +kernel
theorem dX2_isBelow_4 : decode cX2_isBelow 4 = .ok (.iload_n 0, 1) := by decide +kernel
theorem dX2_isBelow_5 : decode cX2_isBelow 5 = .ok (.iload_n 1, 1) := by decide +kernel
theorem dX2_isBelow_6 : decode cX2_isBelow 6 = .ok (.if_icmp .ge 7, 3) := by decide +kernel
theorem dX2_isBelow_9 : decode cX2_isBelow 9 = .ok (.iconst 1, 1) := by decide +kernel
theorem dX2_isBelow_10 : decode cX2_isBelow 10 = .ok (.goto 4, 3) := by decide +kernel
theorem dX2_isBelow_13 : decode cX2_isBelow 13 = .ok (.iconst 0, 1) := by decide +kernel
theorem dX2_isBelow_14 : decode cX2_isBelow 14 = .ok (.ireturn, 1) := by decide +kernel
theorem dX2_isName_0 : decode cX2_isName 0 = .ok (.iload_n 0, 1) := by decide +kernel
theorem dX2_isName_1 : decode cX2_isName 1 = .ok (.iconst 1, 1) := by decide +kernel
theorem dX2_isName_2 : decode cX2_isName 2 = .ok (.if_icmp .lt 13, 3) := by decide +kernel
theorem dX2_isName_5 : decode cX2_isName 5 = .ok (.iload_n 0, 1) := by decide +kernel
theorem dX2_isName_6 : decode cX2_isName 6 = .ok (.bipush 99, 2) := by decide +kernel
theorem dX2_isName_8 : decode cX2_isName 8 = .ok (.if_icmp .gt 7, 3) := by decide +kernel
theorem dX2_isName_11 : decode cX2_isName 11 = .ok (.iconst 1, 1) := by decide +kernel
theorem dX2_isName_12 : decode cX2_isName 12 = .ok (.goto 4, 3) := by decide +kernel
theorem dX2_isName_15 : decode cX2_isName 15 = .ok (.iconst 0, 1) := by decide +kernel
theorem dX2_isName_16 : decode cX2_isName 16 = .ok (.ireturn, 1) := by decide +kernel
set_option maxRecDepth 20000 in
theorem ggX2_isOfKind_X2_isBelow : GoodIn wsX2_isOfKind wsX2_isBelow := goodIn_r _ [4] (by decide +kernel) (by decide +kernel)
set_option maxRecDepth 20000 in
theorem gX2_isOfKind_X2_isBelow : GoodIn wsX2_isOfKind (va_wsS RX2 23 yX2_isBelow wsX2_isBelow) := goodIn_app (goodIn_of _ (by decide +kernel)) ggX2_isOfKind_X2_isBelow
set_option maxRecDepth 20000 in
theorem ggX2_isOfKind_X2_kindOf : GoodIn wsX2_isOfKind wsX2_kindOf := goodIn_r _ [8, 9, 10, 11, 3, 12, 13, 14, 15, 16, 17, 18, 19, 20, 21, 22, 23, 24, 25, 26, 27] (by decide +kernel) (by decide +kernel)
set_option maxRecDepth 20000 in
theorem gX2_isOfKind_X2_kindOf : GoodIn wsX2_isOfKind (wsV RX2 94 RX2 yX2_kindOf wsX2_kindOf) := goodIn_app (goodIn_of _ (by decide +kernel)) ggX2_isOfKind_X2_kindOf
theorem dX2_isOfKind_0 : decode cX2_isOfKind 0 = .ok (.iload_n 1, 1) := by decide +kernel
theorem dX2_isOfKind_1 : decode cX2_isOfKind 1 = .ok (.bipush 12, 2) := by decide +kernel
theorem dX2_isOfKind_3 : decode cX2_isOfKind 3 = .ok (.invokestatic 23, 3) := by decide +kernel
theorem dX2_isOfKind_6 : decode cX2_isOfKind 6 = .ok (.ifCond .eq 16, 3) := by decide +kernel
theorem dX2_isOfKind_9 : decode cX2_isOfKind 9 = .ok (.aload_n 0, 1) := by decide +kernel
theorem dX2_isOfKind_10 : decode cX2_isOfKind 10 = .ok (.iload_n 1, 1) := by decide +kernel
theorem dX2_isOfKind_11 : decode cX2_isOfKind 11 = .ok (.invokevirtual 94, 3) := by decide +kernel
theorem dX2_isOfKind_14 : decode cX2_isOfKind 14 = .ok (.iload_n 2, 1) := by decide +kernel
theorem dX2_isOfKind_15 : decode cX2_isOfKind 15 = .ok (.if_icmp .ne 7, 3) := by decide +kernel
theorem dX2_isOfKind_18 : decode cX2_isOfKind 18 = .ok (.iconst 1, 1) := by decide +kernel
theorem dX2_isOfKind_19 : decode cX2_isOfKind 19 = .ok (.goto 4, 3) := by decide +kernel
theorem dX2_isOfKind_22 : decode cX2_isOfKind 22 = .ok (.iconst 0, 1) := by decide +kernel
theorem dX2_isOfKind_23 : decode cX2_isOfKind 23 = .ok (.ireturn, 1) := by decide +kernel
set_option maxRecDepth 20000 in
theorem ggX2_isDataOfFile_X2_isOfKind : GoodIn wsX2_isDataOfFile wsX2_isOfKind := goodIn_r _ [5, 6, 7, 4, 8, 9, 10, 11, 12, 13, 14, 15, 16, 17, 18, 19, 20, 21, 22, 27, 28, 29, 30, 31, 32, 33, 34, 35] (by decide +kernel) (by decide +kernel)
set_option maxRecDepth 20000 in
theorem gX2_isDataOfFile_X2_isOfKind : GoodIn wsX2_isDataOfFile (wsV RX2 35 RX2 yX2_isOfKind wsX2_isOfKind) := goodIn_app (goodIn_of _ (by decide +kernel)) ggX2_isDataOfFile_X2_isOfKind
set_option maxRecDepth 20000 in
theorem ggX2_isDataOfFile_X2_sizeOf : GoodIn wsX2_isDataOfFile wsX2_sizeOf := goodIn_r _ [26, 13, 14, 15, 4, 16, 17, 18, 19, 20, 21, 22, 27, 28, 29, 30, 31, 32, 33, 34, 35] (by decide +kernel) (by decide +kernel)
set_option maxRecDepth 20000 in
theorem gX2_isDataOfFile_X2_sizeOf : GoodIn wsX2_isDataOfFile (wsV RX2 70 RX2 yX2_sizeOf wsX2_sizeOf) := goodIn_app (goodIn_of _ (by decide +kernel)) ggX2_isDataOfFile_X2_sizeOf
set_option maxRecDepth 20000 in
theorem ggX2_isDataOfFile_X2_isBelow : GoodIn wsX2_isDataOfFile wsX2_isBelow := goodIn_r _ [8] (by decide +kernel) (by decide +kernel)
set_option maxRecDepth 20000 in
theorem gX2_isDataOfFile_X2_isBelow : GoodIn wsX2_isDataOfFile (va_wsS RX2 23 yX2_isBelow wsX2_isBelow) := goodIn_app (goodIn_of _ (by decide +kernel)) ggX2_isDataOfFile_X2_isBelow
theorem dX2_isDataOfFile_0 : decode cX2_isDataOfFile 0 = .ok (.aload_n 0, 1) := by decide +kernel
theorem dX2_isDataOfFile_1 : decode cX2_isDataOfFile 1 = .ok (.iload_n 1, 1) := by decide +kernel
theorem dX2_isDataOfFile_2 : decode cX2_isDataOfFile 2 = .ok (.iconst 2, 1) := by decide +kernel
theorem dX2_isDataOfFile_3 : decode cX2_isDataOfFile 3 = .ok (.invokevirtual 35, 3) := by decide +kernel
theorem dX2_isDataOfFile_6 : decode cX2_isDataOfFile 6 = .ok (.ifCond .eq 27, 3) := by decide +kernel
theorem dX2_isDataOfFile_9 : decode cX2_isDataOfFile 9 = .ok (.iload_n 2, 1) := by decide +kernel
theorem dX2_isDataOfFile_10 : decode cX2_isDataOfFile 10 = .ok (.aload_n 0, 1) := by decide +kernel
theorem dX2_isDataOfFile_11 : decode cX2_isDataOfFile 11 = .ok (.iload_n 1, 1) := by decide +kernel
theorem dX2_isDataOfFile_12 : decode cX2_isDataOfFile 12 = .ok (.invokevirtual 70, 3) := by decide +kernel
theorem dX2_isDataOfFile_15 : decode cX2_isDataOfFile 15 = .ok (.invokestatic 23, 3) := by decide +kernel
theorem dX2_isDataOfFile_18 : decode cX2_isDataOfFile 18 = .ok (.ifCond .eq 15, 3) := by decide +kernel
theorem dX2_isDataOfFile_21 : decode cX2_isDataOfFile 21 = .ok (.iload_n 3, 1) := by decide +kernel
theorem dX2_isDataOfFile_22 : decode cX2_isDataOfFile 22 = .ok (.iconst 3, 1) := by decide +kernel
theorem dX2_isDataOfFile_23 : decode cX2_isDataOfFile 23 = .ok (.invokestatic 23, 3) := by decide +kernel
theorem dX2_isDataOfFile_26 : decode cX2_isDataOfFile 26 = .ok (.ifCond .eq 7, 3) := by decide +kernel
theorem dX2_isDataOfFile_29 : decode cX2_isDataOfFile 29 = .ok (.iconst 1, 1) := by decide +kernel
theorem dX2_isDataOfFile_30 : decode cX2_isDataOfFile 30 = .ok (.goto 4, 3) := by decide +kernel
theorem dX2_isDataOfFile_33 : decode cX2_isDataOfFile 33 = .ok (.iconst 0, 1) := by decide +kernel
theorem dX2_isDataOfFile_34 : decode cX2_isDataOfFile 34 = .ok (.ireturn, 1) := by decide +kernel
theorem dX2_answerOrDown_0 : decode cX2_answerOrDown 0 = .ok (.aload_n 0, 1) := by decide +kernel
theorem dX2_answerOrDown_1 : decode cX2_answerOrDown 1 = .ok (.getfield 12, 3) := by decide +kernel
theorem dX2_answerOrDown_4 : decode cX2_answerOrDown 4 = .ok (.getfield 31, 3) := by decide +kernel
theorem dX2_answerOrDown_7 : decode cX2_answerOrDown 7 = .ok (.ifCond .eq 8, 3) := by decide +kernel
theorem dX2_answerOrDown_10 : decode cX2_answerOrDown 10 = .ok (.bipush (-2), 2) := by decide +kernel
theorem dX2_answerOrDown_12 : decode cX2_answerOrDown 12 = .ok (.goto 4, 3) := by decide +kernel
theorem dX2_answerOrDown_15 : decode cX2_answerOrDown 15 = .ok (.iload_n 1, 1) := by decide +kernel
theorem dX2_answerOrDown_16 : decode cX2_answerOrDown 16 = .ok (.ireturn, 1) := by decide +kernel
theorem dX2_entryOf_0 : decode cX2_entryOf 0 = .ok (.iload_n 0, 1) := by decide +kernel
theorem dX2_entryOf_1 : decode cX2_entryOf 1 = .ok (.bipush 100, 2) := by decide +kernel
theorem dX2_entryOf_3 : decode cX2_entryOf 3 = .ok (.imul, 1) := by decide +kernel
theorem dX2_entryOf_4 : decode cX2_entryOf 4 = .ok (.iload_n 1, 1) := by decide +kernel
theorem dX2_entryOf_5 : decode cX2_entryOf 5 = .ok (.iadd, 1) := by decide +kernel
theorem dX2_entryOf_6 : decode cX2_entryOf 6 = .ok (.ireturn, 1) := by decide +kernel
theorem dX2_inodeOfEntry_0 : decode cX2_inodeOfEntry 0 = .ok (.iload_n 0, 1) := by decide +kernel
theorem dX2_inodeOfEntry_1 : decode cX2_inodeOfEntry 1 = .ok (.bipush 100, 2) := by decide +kernel
theorem dX2_inodeOfEntry_3 : decode cX2_inodeOfEntry 3 = .ok (.idiv, 1) := by decide +kernel
theorem dX2_inodeOfEntry_4 : decode cX2_inodeOfEntry 4 = .ok (.ireturn, 1) := by decide +kernel
theorem dX2_nameOfEntry_0 : decode cX2_nameOfEntry 0 = .ok (.iload_n 0, 1) := by decide +kernel
theorem dX2_nameOfEntry_1 : decode cX2_nameOfEntry 1 = .ok (.bipush 100, 2) := by decide +kernel
theorem dX2_nameOfEntry_3 : decode cX2_nameOfEntry 3 = .ok (.irem, 1) := by decide +kernel
theorem dX2_nameOfEntry_4 : decode cX2_nameOfEntry 4 = .ok (.ireturn, 1) := by decide +kernel
set_option maxRecDepth 20000 in
theorem ggX2_placeOfName_X2_placeOf : GoodIn wsX2_placeOfName wsX2_placeOf := goodIn_r _ [5, 6, 7, 8, 4, 9, 10, 11, 12, 13, 14, 15, 16, 17, 18, 22, 23, 24, 25, 26, 27, 28, 29, 30] (by decide +kernel) (by decide +kernel)
set_option maxRecDepth 20000 in
theorem gX2_placeOfName_X2_placeOf : GoodIn wsX2_placeOfName (wsV RX2 88 RX2 yX2_placeOf wsX2_placeOf) := goodIn_app (goodIn_of _ (by decide +kernel)) ggX2_placeOfName_X2_placeOf
set_option maxRecDepth 20000 in
theorem ggX2_placeOfName_X2_nameOfEntry : GoodIn wsX2_placeOfName wsX2_nameOfEntry := goodIn_r _ [21] (by decide +kernel) (by decide +kernel)
set_option maxRecDepth 20000 in
theorem gX2_placeOfName_X2_nameOfEntry : GoodIn wsX2_placeOfName (va_wsS RX2 180 yX2_nameOfEntry wsX2_nameOfEntry) := goodIn_app (goodIn_of _ (by decide +kernel)) ggX2_placeOfName_X2_nameOfEntry
theorem dX2_placeOfName_0 : decode cX2_placeOfName 0 = .ok (.iconst 0, 1) := by decide +kernel
