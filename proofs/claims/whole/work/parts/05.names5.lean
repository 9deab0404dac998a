theorem dX5_init_0 : decode cX5_init 0 = .ok (.aload_n 0, 1) := by decide +kernel
theorem dX5_init_1 : decode cX5_init 1 = .ok (.invokespecial 1, 3) := by decide +kernel
theorem dX5_init_4 : decode cX5_init 4 = .ok (.aload_n 0, 1) := by decide +kernel
theorem dX5_init_5 : decode cX5_init 5 = .ok (.bipush 64, 2) := by decide +kernel
theorem dX5_init_7 : decode cX5_init 7 = .ok (.newarray .boolean, 2) := by decide +kernel
theorem dX5_init_9 : decode cX5_init 9 = .ok (.putfield 7, 3) := by decide +kernel
theorem dX5_init_12 : decode cX5_init 12 = .ok (.aload_n 0, 1) := by decide +kernel
theorem dX5_init_13 : decode cX5_init 13 = .ok (.bipush 64, 2) := by decide +kernel
theorem dX5_init_15 : decode cX5_init 15 = .ok (.newarray .boolean, 2) := by decide +kernel
theorem dX5_init_17 : decode cX5_init 17 = .ok (.putfield 13, 3) := by decide +kernel
theorem dX5_init_20 : decode cX5_init 20 = .ok (.aload_n 0, 1) := by decide +kernel
theorem dX5_init_21 : decode cX5_init 21 = .ok (.bipush 64, 2) := by decide +kernel
theorem dX5_init_23 : decode cX5_init 23 = .ok (.newarray .boolean, 2) := by decide +kernel
theorem dX5_init_25 : decode cX5_init 25 = .ok (.putfield 16, 3) := by decide +kernel
theorem dX5_init_28 : decode cX5_init 28 = .ok (.aload_n 0, 1) := by decide +kernel
theorem dX5_init_29 : decode cX5_init 29 = .ok (.sipush 150, 3) := by decide +kernel
theorem dX5_init_32 : decode cX5_init 32 = .ok (.newarray .int, 2) := by decide +kernel
theorem dX5_init_34 : decode cX5_init 34 = .ok (.putfield 19, 3) := by decide +kernel
theorem dX5_init_37 : decode cX5_init 37 = .ok (.aload_n 0, 1) := by decide +kernel
theorem dX5_init_38 : decode cX5_init 38 = .ok (.sipush 150, 3) := by decide +kernel
theorem dX5_init_41 : decode cX5_init 41 = .ok (.newarray .int, 2) := by decide +kernel
theorem dX5_init_43 : decode cX5_init 43 = .ok (.putfield 23, 3) := by decide +kernel
theorem dX5_init_46 : decode cX5_init 46 = .ok (.aload_n 0, 1) := by decide +kernel
theorem dX5_init_47 : decode cX5_init 47 = .ok (.sipush 150, 3) := by decide +kernel
theorem dX5_init_50 : decode cX5_init 50 = .ok (.newarray .boolean, 2) := by decide +kernel
theorem dX5_init_52 : decode cX5_init 52 = .ok (.putfield 26, 3) := by decide +kernel
theorem dX5_init_55 : decode cX5_init 55 = .ok (.aload_n 0, 1) := by decide +kernel
theorem dX5_init_56 : decode cX5_init 56 = .ok (.iconst 3, 1) := by decide +kernel
theorem dX5_init_57 : decode cX5_init 57 = .ok (.putfield 29, 3) := by decide +kernel
theorem dX5_init_60 : decode cX5_init 60 = .ok (.aload_n 0, 1) := by decide +kernel
theorem dX5_init_61 : decode cX5_init 61 = .ok (.bipush 10, 2) := by decide +kernel
theorem dX5_init_63 : decode cX5_init 63 = .ok (.putfield 33, 3) := by decide +kernel
theorem dX5_init_66 : decode cX5_init 66 = .ok (.aload_n 0, 1) := by decide +kernel
theorem dX5_init_67 : decode cX5_init 67 = .ok (.bipush 8, 2) := by decide +kernel
theorem dX5_init_69 : decode cX5_init 69 = .ok (.newarray .int, 2) := by decide +kernel
theorem dX5_init_71 : decode cX5_init 71 = .ok (.putfield 36, 3) := by decide +kernel
theorem dX5_init_74 : decode cX5_init 74 = .ok (.iconst 0, 1) := by decide +kernel
theorem dX5_init_75 : decode cX5_init 75 = .ok (.istore_n 1, 1) := by decide +kernel
theorem dX5_init_76 : decode cX5_init 76 = .ok (.iload_n 1, 1) := by decide +kernel
theorem dX5_init_77 : decode cX5_init 77 = .ok (.bipush 8, 2) := by decide +kernel
theorem dX5_init_79 : decode cX5_init 79 = .ok (.if_icmp .ge 16, 3) := by decide +kernel
theorem dX5_init_82 : decode cX5_init 82 = .ok (.aload_n 0, 1) := by decide +kernel
theorem dX5_init_83 : decode cX5_init 83 = .ok (.getfield 36, 3) := by decide +kernel
theorem dX5_init_86 : decode cX5_init 86 = .ok (.iload_n 1, 1) := by decide +kernel
theorem dX5_init_87 : decode cX5_init 87 = .ok (.iconst (-1), 1) := by decide +kernel
theorem dX5_init_88 : decode cX5_init 88 = .ok (.iastore, 1) := by decide +kernel
theorem dX5_init_89 : decode cX5_init 89 = .ok (.iinc 1 1, 3) := by decide +kernel
theorem dX5_init_92 : decode cX5_init 92 = .ok (.goto (-16), 3) := by decide +kernel
theorem dX5_init_95 : decode cX5_init 95 = .ok (.return_, 1) := by decide +kernel
theorem dX5_thrown_0 : decode cX5_thrown 0 = .ok (.aload_n 0, 1) := by decide +kernel
theorem dX5_thrown_1 : decode cX5_thrown 1 = .ok (.getfield 39, 3) := by decide +kernel
theorem dX5_thrown_4 : decode cX5_thrown 4 = .ok (.ireturn, 1) := by decide +kernel
theorem dX5_in_0 : decode cX5_in 0 = .ok (.iload_n 0, 1) := by decide +kernel
theorem dX5_in_1 : decode cX5_in 1 = .ok (.iload_n 1, 1) := by decide +kernel
theorem dX5_in_2 : decode cX5_in 2 = .ok (.if_icmp .lt 12, 3) := by decide +kernel
theorem dX5_in_5 : decode cX5_in 5 = .ok (.iload_n 0, 1) := by decide +kernel
theorem dX5_in_6 : decode cX5_in 6 = .ok (.iload_n 2, 1) := by decide +kernel
theorem dX5_in_7 : decode cX5_in 7 = .ok (.if_icmp .gt 7, 3) := by decide +kernel
theorem dX5_in_10 : decode cX5_in 10 = .ok (.iconst 1, 1) := by decide +kernel
theorem dX5_in_11 : decode cX5_in 11 = .ok (.goto 4, 3) := by decide +kernel
theorem dX5_in_14 : decode cX5_in 14 = .ok (.iconst 0, 1) := by decide +kernel
theorem dX5_in_15 : decode cX5_in 15 = .ok (.ireturn, 1) := by decide +kernel
theorem dX5_isFine_0 : decode cX5_isFine 0 = .ok (.aload_n 0, 1) := by decide +kernel
theorem dX5_isFine_1 : decode cX5_isFine 1 = .ok (.iload_n 1, 1) := by decide +kernel
theorem dX5_isFine_2 : decode cX5_isFine 2 = .ok (.putfield 39, 3) := by decide +kernel
theorem dX5_isFine_5 : decode cX5_isFine 5 = .ok (.iload_n 1, 1) := by decide +kernel
theorem dX5_isFine_6 : decode cX5_isFine 6 = .ok (.ifCond .ne 7, 3) := by decide +kernel
theorem dX5_isFine_9 : decode cX5_isFine 9 = .ok (.iconst 1, 1) := by decide +kernel
theorem dX5_isFine_10 : decode cX5_isFine 10 = .ok (.goto 4, 3) := by decide +kernel
theorem dX5_isFine_13 : decode cX5_isFine 13 = .ok (.iconst 0, 1) := by decide +kernel
theorem dX5_isFine_14 : decode cX5_isFine 14 = .ok (.ireturn, 1) := by decide +kernel
set_option maxRecDepth 20000 in
theorem ggX5_isOne_X5_in : GoodIn wsX5_isOne wsX5_in := goodIn_r _ [4] (by decide +kernel) (by decide +kernel)
set_option maxRecDepth 20000 in
theorem gX5_isOne_X5_in : GoodIn wsX5_isOne (va_wsS RX5 42 yX5_in wsX5_in) := goodIn_app (goodIn_of _ (by decide +kernel)) ggX5_isOne_X5_in
theorem dX5_isOne_0 : decode cX5_isOne 0 = .ok (.iload_n 0, 1) := by decide +kernel
theorem dX5_isOne_1 : decode cX5_isOne 1 = .ok (.iconst 0, 1) := by decide +kernel
theorem dX5_isOne_2 : decode cX5_isOne 2 = .ok (.bipush 7, 2) := by decide +kernel
theorem dX5_isOne_4 : decode cX5_isOne 4 = .ok (.invokestatic 42, 3) := by decide +kernel
theorem dX5_isOne_7 : decode cX5_isOne 7 = .ok (.ireturn, 1) := by decide +kernel
set_option maxRecDepth 20000 in
theorem ggX5_isEntry_X5_in : GoodIn wsX5_isEntry wsX5_in := goodIn_r _ [5] (by decide +kernel) (by decide +kernel)
set_option maxRecDepth 20000 in
theorem gX5_isEntry_X5_in : GoodIn wsX5_isEntry (va_wsS RX5 42 yX5_in wsX5_in) := goodIn_app (goodIn_of _ (by decide +kernel)) ggX5_isEntry_X5_in
theorem dX5_isEntry_0 : decode cX5_isEntry 0 = .ok (.iload_n 1, 1) := by decide +kernel
theorem dX5_isEntry_1 : decode cX5_isEntry 1 = .ok (.iconst 0, 1) := by decide +kernel
theorem dX5_isEntry_2 : decode cX5_isEntry 2 = .ok (.aload_n 0, 1) := by decide +kernel
theorem dX5_isEntry_3 : decode cX5_isEntry 3 = .ok (.getfield 46, 3) := by decide +kernel
theorem dX5_isEntry_6 : decode cX5_isEntry 6 = .ok (.iconst 1, 1) := by decide +kernel
theorem dX5_isEntry_7 : decode cX5_isEntry 7 = .ok (.isub, 1) := by decide +kernel
theorem dX5_isEntry_8 : decode cX5_isEntry 8 = .ok (.invokestatic 42, 3) := by decide +kernel
theorem dX5_isEntry_11 : decode cX5_isEntry 11 = .ok (.ireturn, 1) := by decide +kernel
theorem dX5_followersOf_0 : decode cX5_followersOf 0 = .ok (.iconst 0, 1) := by decide +kernel
theorem dX5_followersOf_1 : decode cX5_followersOf 1 = .ok (.istore_n 2, 1) := by decide +kernel
theorem dX5_followersOf_2 : decode cX5_followersOf 2 = .ok (.iconst 0, 1) := by decide +kernel
theorem dX5_followersOf_3 : decode cX5_followersOf 3 = .ok (.istore_n 3, 1) := by decide +kernel
theorem dX5_followersOf_4 : decode cX5_followersOf 4 = .ok (.iload_n 3, 1) := by decide +kernel
theorem dX5_followersOf_5 : decode cX5_followersOf 5 = .ok (.bipush 8, 2) := by decide +kernel
theorem dX5_followersOf_7 : decode cX5_followersOf 7 = .ok (.if_icmp .ge 31, 3) := by decide +kernel
theorem dX5_followersOf_10 : decode cX5_followersOf 10 = .ok (.iload_n 2, 1) := by decide +kernel
theorem dX5_followersOf_11 : decode cX5_followersOf 11 = .ok (.aload_n 0, 1) := by decide +kernel
theorem dX5_followersOf_12 : decode cX5_followersOf 12 = .ok (.getfield 7, 3) := by decide +kernel
theorem dX5_followersOf_15 : decode cX5_followersOf 15 = .ok (.bipush 8, 2) := by decide +kernel
theorem dX5_followersOf_17 : decode cX5_followersOf 17 = .ok (.iload_n 3, 1) := by decide +kernel
theorem dX5_followersOf_18 : decode cX5_followersOf 18 = .ok (.imul, 1) := by decide +kernel
theorem dX5_followersOf_19 : decode cX5_followersOf 19 = .ok (.iload_n 1, 1) := by decide +kernel
theorem dX5_followersOf_20 : decode cX5_followersOf 20 = .ok (.iadd, 1) := by decide +kernel
theorem dX5_followersOf_21 : decode cX5_followersOf 21 = .ok (.baload, 1) := by decide +kernel
theorem dX5_followersOf_22 : decode cX5_followersOf 22 = .ok (.ifCond .eq 7, 3) := by decide +kernel
theorem dX5_followersOf_25 : decode cX5_followersOf 25 = .ok (.iconst 1, 1) := by decide +kernel
theorem dX5_followersOf_26 : decode cX5_followersOf 26 = .ok (.goto 4, 3) := by decide +kernel
theorem dX5_followersOf_29 : decode cX5_followersOf 29 = .ok (.iconst 0, 1) := by decide +kernel
theorem dX5_followersOf_30 : decode cX5_followersOf 30 = .ok (.iadd, 1) := by decide +kernel
theorem dX5_followersOf_31 : decode cX5_followersOf 31 = .ok (.istore_n 2, 1) := by decide +kernel
theorem dX5_followersOf_32 : decode cX5_followersOf 32 = .ok (.iinc 3 1, 3) := by decide +kernel
theorem dX5_followersOf_35 : decode cX5_followersOf 35 = .ok (.goto (-31), 3) := by decide +kernel
theorem dX5_followersOf_38 : decode cX5_followersOf 38 = .ok (.iload_n 2, 1) := by decide +kernel
theorem dX5_followersOf_39 : decode cX5_followersOf 39 = .ok (.ireturn, 1) := by decide +kernel
set_option maxRecDepth 20000 in
theorem ggX5_large_X5_followersOf : GoodIn wsX5_large wsX5_followersOf := goodIn_r _ [6, 7, 8, 9, 10, 11, 12, 13, 14, 15, 16, 17, 18] (by decide +kernel) (by decide +kernel)
set_option maxRecDepth 20000 in
theorem gX5_large_X5_followersOf : GoodIn wsX5_large (wsV RX5 49 RX5 yX5_followersOf wsX5_followersOf) := goodIn_app (goodIn_of _ (by decide +kernel)) ggX5_large_X5_followersOf
theorem dX5_large_0 : decode cX5_large 0 = .ok (.aload_n 0, 1) := by decide +kernel
theorem dX5_large_1 : decode cX5_large 1 = .ok (.iload_n 1, 1) := by decide +kernel
theorem dX5_large_2 : decode cX5_large 2 = .ok (.invokevirtual 49, 3) := by decide +kernel
theorem dX5_large_5 : decode cX5_large 5 = .ok (.aload_n 0, 1) := by decide +kernel
theorem dX5_large_6 : decode cX5_large 6 = .ok (.getfield 29, 3) := by decide +kernel
theorem dX5_large_9 : decode cX5_large 9 = .ok (.if_icmp .le 7, 3) := by decide +kernel
theorem dX5_large_12 : decode cX5_large 12 = .ok (.iconst 1, 1) := by decide +kernel
theorem dX5_large_13 : decode cX5_large 13 = .ok (.goto 4, 3) := by decide +kernel
theorem dX5_large_16 : decode cX5_large 16 = .ok (.iconst 0, 1) := by decide +kernel
theorem dX5_large_17 : decode cX5_large 17 = .ok (.ireturn, 1) := by decide +kernel
set_option maxRecDepth 20000 in
theorem ggX5_isInRow_X5_large : GoodIn wsX5_isInRow wsX5_large := goodIn_r _ [9, 10, 11, 12, 13, 8, 14, 3, 15, 16, 17, 18, 19, 20, 21, 22, 23, 24, 25] (by decide +kernel) (by decide +kernel)
set_option maxRecDepth 20000 in
theorem gX5_isInRow_X5_large : GoodIn wsX5_isInRow (wsV RX5 53 RX5 yX5_large wsX5_large) := goodIn_app (goodIn_of _ (by decide +kernel)) ggX5_isInRow_X5_large
theorem dX5_isInRow_0 : decode cX5_isInRow 0 = .ok (.iload_n 2, 1) := by decide +kernel
theorem dX5_isInRow_1 : decode cX5_isInRow 1 = .ok (.aload_n 0, 1) := by decide +kernel
theorem dX5_isInRow_2 : decode cX5_isInRow 2 = .ok (.getfield 36, 3) := by decide +kernel
theorem dX5_isInRow_5 : decode cX5_isInRow 5 = .ok (.iload_n 1, 1) := by decide +kernel
theorem dX5_isInRow_6 : decode cX5_isInRow 6 = .ok (.iaload, 1) := by decide +kernel
theorem dX5_isInRow_7 : decode cX5_isInRow 7 = .ok (.if_icmp .le 48, 3) := by decide +kernel
theorem dX5_isInRow_10 : decode cX5_isInRow 10 = .ok (.aload_n 0, 1) := by decide +kernel
theorem dX5_isInRow_11 : decode cX5_isInRow 11 = .ok (.getfield 26, 3) := by decide +kernel
theorem dX5_isInRow_14 : decode cX5_isInRow 14 = .ok (.iload_n 2, 1) := by decide +kernel
theorem dX5_isInRow_15 : decode cX5_isInRow 15 = .ok (.baload, 1) := by decide +kernel
theorem dX5_isInRow_16 : decode cX5_isInRow 16 = .ok (.ifCond .ne 39, 3) := by decide +kernel
theorem dX5_isInRow_19 : decode cX5_isInRow 19 = .ok (.aload_n 0, 1) := by decide +kernel
theorem dX5_isInRow_20 : decode cX5_isInRow 20 = .ok (.getfield 7, 3) := by decide +kernel
theorem dX5_isInRow_23 : decode cX5_isInRow 23 = .ok (.bipush 8, 2) := by decide +kernel
theorem dX5_isInRow_25 : decode cX5_isInRow 25 = .ok (.iload_n 1, 1) := by decide +kernel
theorem dX5_isInRow_26 : decode cX5_isInRow 26 = .ok (.imul, 1) := by decide +kernel
theorem dX5_isInRow_27 : decode cX5_isInRow 27 = .ok (.aload_n 0, 1) := by decide +kernel
theorem dX5_isInRow_28 : decode cX5_isInRow 28 = .ok (.getfield 19, 3) := by decide +kernel
theorem dX5_isInRow_31 : decode cX5_isInRow 31 = .ok (.iload_n 2, 1) := by decide +kernel
theorem dX5_isInRow_32 : decode cX5_isInRow 32 = .ok (.iaload, 1) := by decide +kernel
theorem dX5_isInRow_33 : decode cX5_isInRow 33 = .ok (.iadd, 1) := by decide +kernel
theorem dX5_isInRow_34 : decode cX5_isInRow 34 = .ok (.baload, 1) := by decide +kernel
theorem dX5_isInRow_35 : decode cX5_isInRow 35 = .ok (.ifCond .eq 20, 3) := by decide +kernel
theorem dX5_isInRow_38 : decode cX5_isInRow 38 = .ok (.aload_n 0, 1) := by decide +kernel
theorem dX5_isInRow_39 : decode cX5_isInRow 39 = .ok (.aload_n 0, 1) := by decide +kernel
theorem dX5_isInRow_40 : decode cX5_isInRow 40 = .ok (.getfield 19, 3) := by decide +kernel
theorem dX5_isInRow_43 : decode cX5_isInRow 43 = .ok (.iload_n 2, 1) := by decide +kernel
theorem dX5_isInRow_44 : decode cX5_isInRow 44 = .ok (.iaload, 1) := by decide +kernel
theorem dX5_isInRow_45 : decode cX5_isInRow 45 = .ok (.invokevirtual 53, 3) := by decide +kernel
theorem dX5_isInRow_48 : decode cX5_isInRow 48 = .ok (.ifCond .ne 7, 3) := by decide +kernel
theorem dX5_isInRow_51 : decode cX5_isInRow 51 = .ok (.iconst 1, 1) := by decide +kernel
theorem dX5_isInRow_52 : decode cX5_isInRow 52 = .ok (.goto 4, 3) := by decide +kernel
theorem dX5_isInRow_55 : decode cX5_isInRow 55 = .ok (.iconst 0, 1) := by decide +kernel
theorem dX5_isInRow_56 : decode cX5_isInRow 56 = .ok (.ireturn, 1) := by decide +kernel
set_option maxRecDepth 20000 in
theorem ggX5_rowLength_X5_isInRow : GoodIn wsX5_rowLength wsX5_isInRow := goodIn_r _ [6, 7, 8, 9, 10, 11, 12, 13, 5, 14, 15, 16, 17, 18, 19, 20, 21, 22, 23, 24, 25, 26, 27, 28, 29, 30] (by decide +kernel) (by decide +kernel)
set_option maxRecDepth 20000 in
theorem gX5_rowLength_X5_isInRow : GoodIn wsX5_rowLength (wsV RX5 57 RX5 yX5_isInRow wsX5_isInRow) := goodIn_app (goodIn_of _ (by decide +kernel)) ggX5_rowLength_X5_isInRow
theorem dX5_rowLength_0 : decode cX5_rowLength 0 = .ok (.iconst 0, 1) := by decide +kernel
theorem dX5_rowLength_1 : decode cX5_rowLength 1 = .ok (.istore_n 2, 1) := by decide +kernel
theorem dX5_rowLength_2 : decode cX5_rowLength 2 = .ok (.iconst 0, 1) := by decide +kernel
theorem dX5_rowLength_3 : decode cX5_rowLength 3 = .ok (.istore_n 3, 1) := by decide +kernel
theorem dX5_rowLength_4 : decode cX5_rowLength 4 = .ok (.iload_n 3, 1) := by decide +kernel
theorem dX5_rowLength_5 : decode cX5_rowLength 5 = .ok (.aload_n 0, 1) := by decide +kernel
theorem dX5_rowLength_6 : decode cX5_rowLength 6 = .ok (.getfield 46, 3) := by decide +kernel
theorem dX5_rowLength_9 : decode cX5_rowLength 9 = .ok (.if_icmp .ge 26, 3) := by decide +kernel
theorem dX5_rowLength_12 : decode cX5_rowLength 12 = .ok (.iload_n 2, 1) := by decide +kernel
theorem dX5_rowLength_13 : decode cX5_rowLength 13 = .ok (.aload_n 0, 1) := by decide +kernel
theorem dX5_rowLength_14 : decode cX5_rowLength 14 = .ok (.iload_n 1, 1) := by decide +kernel
theorem dX5_rowLength_15 : decode cX5_rowLength 15 = .ok (.iload_n 3, 1) := by decide +kernel
theorem dX5_rowLength_16 : decode cX5_rowLength 16 = .ok (.invokevirtual 57, 3) := by decide +kernel
theorem dX5_rowLength_19 : decode cX5_rowLength 19 = .ok (.ifCond .eq 7, 3) := by decide +kernel
theorem dX5_rowLength_22 : decode cX5_rowLength 22 = .ok (.iconst 1, 1) := by decide +kernel
theorem dX5_rowLength_23 : decode cX5_rowLength 23 = .ok (.goto 4, 3) := by decide +kernel
theorem dX5_rowLength_26 : decode cX5_rowLength 26 = .ok (.iconst 0, 1) := by decide +kernel
theorem dX5_rowLength_27 : decode cX5_rowLength 27 = .ok (.iadd, 1) := by decide +kernel
theorem dX5_rowLength_28 : decode cX5_rowLength 28 = .ok (.istore_n 2, 1) := by decide +kernel
theorem dX5_rowLength_29 : decode cX5_rowLength 29 = .ok (.iinc 3 1, 3) := by decide +kernel
theorem dX5_rowLength_32 : decode cX5_rowLength 32 = .ok (.goto (-28), 3) := by decide +kernel
theorem dX5_rowLength_35 : decode cX5_rowLength 35 = .ok (.iload_n 2, 1) := by decide +kernel
theorem dX5_rowLength_36 : decode cX5_rowLength 36 = .ok (.ireturn, 1) := by decide +kernel
set_option maxRecDepth 20000 in
theorem ggX5_cuts_X5_rowLength : GoodIn wsX5_cuts wsX5_rowLength := goodIn_r _ [8, 2, 9, 10, 11, 7, 12, 3, 13, 14, 15, 16, 17, 18, 19, 20, 21, 22, 23, 24, 25, 26, 27, 28, 29, 30, 31, 32, 33, 34, 35] (by decide +kernel) (by decide +kernel)
set_option maxRecDepth 20000 in
theorem gX5_cuts_X5_rowLength : GoodIn wsX5_cuts (wsV RX5 61 RX5 yX5_rowLength wsX5_rowLength) := goodIn_app (goodIn_of _ (by decide +kernel)) ggX5_cuts_X5_rowLength
set_option maxRecDepth 20000 in
theorem ggX5_cuts_X5_isInRow : GoodIn wsX5_cuts wsX5_isInRow := goodIn_r _ [12, 3, 13, 14, 15, 16, 17, 18, 7, 19, 20, 21, 22, 23, 24, 25, 26, 27, 28, 29, 30, 31, 32, 33, 34, 35] (by decide +kernel) (by decide +kernel)
set_option maxRecDepth 20000 in
theorem gX5_cuts_X5_isInRow : GoodIn wsX5_cuts (wsV RX5 57 RX5 yX5_isInRow wsX5_isInRow) := goodIn_app (goodIn_of _ (by decide +kernel)) ggX5_cuts_X5_isInRow
theorem dX5_cuts_0 : decode cX5_cuts 0 = .ok (.iconst 0, 1) := by decide +kernel
theorem dX5_cuts_1 : decode cX5_cuts 1 = .ok (.istore_n 1, 1) := by decide +kernel
theorem dX5_cuts_2 : decode cX5_cuts 2 = .ok (.iload_n 1, 1) := by decide +kernel
theorem dX5_cuts_3 : decode cX5_cuts 3 = .ok (.bipush 8, 2) := by decide +kernel
theorem dX5_cuts_5 : decode cX5_cuts 5 = .ok (.if_icmp .ge 59, 3) := by decide +kernel
theorem dX5_cuts_8 : decode cX5_cuts 8 = .ok (.aload_n 0, 1) := by decide +kernel
theorem dX5_cuts_9 : decode cX5_cuts 9 = .ok (.iload_n 1, 1) := by decide +kernel
theorem dX5_cuts_10 : decode cX5_cuts 10 = .ok (.invokevirtual 61, 3) := by decide +kernel
theorem dX5_cuts_13 : decode cX5_cuts 13 = .ok (.aload_n 0, 1) := by decide +kernel
theorem dX5_cuts_14 : decode cX5_cuts 14 = .ok (.getfield 33, 3) := by decide +kernel
theorem dX5_cuts_17 : decode cX5_cuts 17 = .ok (.isub, 1) := by decide +kernel
theorem dX5_cuts_18 : decode cX5_cuts 18 = .ok (.istore_n 2, 1) := by decide +kernel
theorem dX5_cuts_19 : decode cX5_cuts 19 = .ok (.iconst 0, 1) := by decide +kernel
theorem dX5_cuts_20 : decode cX5_cuts 20 = .ok (.istore_n 3, 1) := by decide +kernel
theorem dX5_cuts_21 : decode cX5_cuts 21 = .ok (.iload_n 3, 1) := by decide +kernel
theorem dX5_cuts_22 : decode cX5_cuts 22 = .ok (.aload_n 0, 1) := by decide +kernel
theorem dX5_cuts_23 : decode cX5_cuts 23 = .ok (.getfield 46, 3) := by decide +kernel
theorem dX5_cuts_26 : decode cX5_cuts 26 = .ok (.if_icmp .ge 32, 3) := by decide +kernel
theorem dX5_cuts_29 : decode cX5_cuts 29 = .ok (.iload_n 2, 1) := by decide +kernel
theorem dX5_cuts_30 : decode cX5_cuts 30 = .ok (.ifCond .le 28, 3) := by decide +kernel
theorem dX5_cuts_33 : decode cX5_cuts 33 = .ok (.aload_n 0, 1) := by decide +kernel
theorem dX5_cuts_34 : decode cX5_cuts 34 = .ok (.iload_n 1, 1) := by decide +kernel
theorem dX5_cuts_35 : decode cX5_cuts 35 = .ok (.iload_n 3, 1) := by decide +kernel
theorem dX5_cuts_36 : decode cX5_cuts 36 = .ok (.invokevirtual 57, 3) := by decide +kernel
theorem dX5_cuts_39 : decode cX5_cuts 39 = .ok (.ifCond .eq 13, 3) := by decide +kernel
theorem dX5_cuts_42 : decode cX5_cuts 42 = .ok (.aload_n 0, 1) := by decide +kernel
theorem dX5_cuts_43 : decode cX5_cuts 43 = .ok (.getfield 36, 3) := by decide +kernel
theorem dX5_cuts_46 : decode cX5_cuts 46 = .ok (.iload_n 1, 1) := by decide +kernel
theorem dX5_cuts_47 : decode cX5_cuts 47 = .ok (.iload_n 3, 1) := by decide +kernel
theorem dX5_cuts_48 : decode cX5_cuts 48 = .ok (.iastore, 1) := by decide +kernel
theorem dX5_cuts_49 : decode cX5_cuts 49 = .ok (.iinc 2 (-1), 3) := by decide +kernel
theorem dX5_cuts_52 : decode cX5_cuts 52 = .ok (.iinc 3 1, 3) := by decide +kernel
theorem dX5_cuts_55 : decode cX5_cuts 55 = .ok (.goto (-34), 3) := by decide +kernel
theorem dX5_cuts_58 : decode cX5_cuts 58 = .ok (.iinc 1 1, 3) := by decide +kernel
theorem dX5_cuts_61 : decode cX5_cuts 61 = .ok (.goto (-59), 3) := by decide +kernel
theorem dX5_cuts_64 : decode cX5_cuts 64 = .ok (.return_, 1) := by decide +kernel
set_option maxRecDepth 20000 in
theorem ggX5_follow_X5_isOne : GoodIn wsX5_follow wsX5_isOne := goodIn_r _ [6, 7, 8, 5, 9] (by decide +kernel) (by decide +kernel)
set_option maxRecDepth 20000 in
theorem gX5_follow_X5_isOne : GoodIn wsX5_follow (va_wsS RX5 64 yX5_isOne wsX5_isOne) := goodIn_app (goodIn_of _ (by decide +kernel)) ggX5_follow_X5_isOne
set_option maxRecDepth 20000 in
theorem ggX5_follow_X5_isFine : GoodIn wsX5_follow wsX5_isFine := goodIn_r _ [13, 14, 41, 42, 43, 44, 45, 46, 47, 48, 49, 50, 51] (by decide +kernel) (by decide +kernel)
set_option maxRecDepth 20000 in
theorem gX5_follow_X5_isFine : GoodIn wsX5_follow (wsV RX5 67 RX5 yX5_isFine wsX5_isFine) := goodIn_app (goodIn_of _ (by decide +kernel)) ggX5_follow_X5_isFine
set_option maxRecDepth 20000 in
theorem ggX5_follow_X5_cuts : GoodIn wsX5_follow wsX5_cuts := goodIn_r _ [18, 19, 20, 21, 22, 23, 24, 5, 25, 26, 27, 28, 29, 30, 1, 31, 32, 33, 34, 35, 36, 37, 38, 39, 40, 41, 42, 43, 44, 45, 46, 47, 48, 49, 50, 51] (by decide +kernel) (by decide +kernel)
set_option maxRecDepth 20000 in
theorem gX5_follow_X5_cuts : GoodIn wsX5_follow (wsV RX5 70 RX5 yX5_cuts wsX5_cuts) := goodIn_app (goodIn_of _ (by decide +kernel)) ggX5_follow_X5_cuts
set_option maxRecDepth 20000 in
theorem ggX5_follow_X5_followersOf : GoodIn wsX5_follow wsX5_followersOf := goodIn_r _ [40, 1, 41, 42, 43, 44, 45, 46, 47, 48, 49, 50, 51] (by decide +kernel) (by decide +kernel)
set_option maxRecDepth 20000 in
theorem gX5_follow_X5_followersOf : GoodIn wsX5_follow (wsV RX5 49 RX5 yX5_followersOf wsX5_followersOf) := goodIn_app (goodIn_of _ (by decide +kernel)) ggX5_follow_X5_followersOf
theorem dX5_follow_0 : decode cX5_follow 0 = .ok (.iload_n 1, 1) := by decide +kernel
theorem dX5_follow_1 : decode cX5_follow 1 = .ok (.invokestatic 64, 3) := by decide +kernel
theorem dX5_follow_4 : decode cX5_follow 4 = .ok (.ifCond .eq 10, 3) := by decide +kernel
theorem dX5_follow_7 : decode cX5_follow 7 = .ok (.iload_n 2, 1) := by decide +kernel
theorem dX5_follow_8 : decode cX5_follow 8 = .ok (.invokestatic 64, 3) := by decide +kernel
theorem dX5_follow_11 : decode cX5_follow 11 = .ok (.ifCond .ne 7, 3) := by decide +kernel
theorem dX5_follow_14 : decode cX5_follow 14 = .ok (.iconst 1, 1) := by decide +kernel
theorem dX5_follow_15 : decode cX5_follow 15 = .ok (.goto 13, 3) := by decide +kernel
theorem dX5_follow_18 : decode cX5_follow 18 = .ok (.iload_n 1, 1) := by decide +kernel
theorem dX5_follow_19 : decode cX5_follow 19 = .ok (.iload_n 2, 1) := by decide +kernel
theorem dX5_follow_20 : decode cX5_follow 20 = .ok (.if_icmp .ne 7, 3) := by decide +kernel
theorem dX5_follow_23 : decode cX5_follow 23 = .ok (.iconst 2, 1) := by decide +kernel
theorem dX5_follow_24 : decode cX5_follow 24 = .ok (.goto 4, 3) := by decide +kernel
theorem dX5_follow_27 : decode cX5_follow 27 = .ok (.iconst 0, 1) := by decide +kernel
theorem dX5_follow_28 : decode cX5_follow 28 = .ok (.istore_n 3, 1) := by decide +kernel
theorem dX5_follow_29 : decode cX5_follow 29 = .ok (.iload_n 3, 1) := by decide +kernel
theorem dX5_follow_30 : decode cX5_follow 30 = .ok (.ifCond .ne 47, 3) := by decide +kernel
theorem dX5_follow_33 : decode cX5_follow 33 = .ok (.aload_n 0, 1) := by decide +kernel
theorem dX5_follow_34 : decode cX5_follow 34 = .ok (.getfield 7, 3) := by decide +kernel
theorem dX5_follow_37 : decode cX5_follow 37 = .ok (.bipush 8, 2) := by decide +kernel
theorem dX5_follow_39 : decode cX5_follow 39 = .ok (.iload_n 1, 1) := by decide +kernel
theorem dX5_follow_40 : decode cX5_follow 40 = .ok (.imul, 1) := by decide +kernel
theorem dX5_follow_41 : decode cX5_follow 41 = .ok (.iload_n 2, 1) := by decide +kernel
theorem dX5_follow_42 : decode cX5_follow 42 = .ok (.iadd, 1) := by decide +kernel
theorem dX5_follow_43 : decode cX5_follow 43 = .ok (.baload, 1) := by decide +kernel
theorem dX5_follow_44 : decode cX5_follow 44 = .ok (.ifCond .ne 31, 3) := by decide +kernel
theorem dX5_follow_47 : decode cX5_follow 47 = .ok (.aload_n 0, 1) := by decide +kernel
theorem dX5_follow_48 : decode cX5_follow 48 = .ok (.getfield 16, 3) := by decide +kernel
theorem dX5_follow_51 : decode cX5_follow 51 = .ok (.bipush 8, 2) := by decide +kernel
theorem dX5_follow_53 : decode cX5_follow 53 = .ok (.iload_n 1, 1) := by decide +kernel
theorem dX5_follow_54 : decode cX5_follow 54 = .ok (.imul, 1) := by decide +kernel
theorem dX5_follow_55 : decode cX5_follow 55 = .ok (.iload_n 2, 1) := by decide +kernel
theorem dX5_follow_56 : decode cX5_follow 56 = .ok (.iadd, 1) := by decide +kernel
theorem dX5_follow_57 : decode cX5_follow 57 = .ok (.baload, 1) := by decide +kernel
theorem dX5_follow_58 : decode cX5_follow 58 = .ok (.ifCond .ne 17, 3) := by decide +kernel
theorem dX5_follow_61 : decode cX5_follow 61 = .ok (.aload_n 0, 1) := by decide +kernel
theorem dX5_follow_62 : decode cX5_follow 62 = .ok (.getfield 16, 3) := by decide +kernel
theorem dX5_follow_65 : decode cX5_follow 65 = .ok (.bipush 8, 2) := by decide +kernel
theorem dX5_follow_67 : decode cX5_follow 67 = .ok (.iload_n 2, 1) := by decide +kernel
theorem dX5_follow_68 : decode cX5_follow 68 = .ok (.imul, 1) := by decide +kernel
theorem dX5_follow_69 : decode cX5_follow 69 = .ok (.iload_n 1, 1) := by decide +kernel
theorem dX5_follow_70 : decode cX5_follow 70 = .ok (.iadd, 1) := by decide +kernel
theorem dX5_follow_71 : decode cX5_follow 71 = .ok (.baload, 1) := by decide +kernel
theorem dX5_follow_72 : decode cX5_follow 72 = .ok (.ifCond .eq 5, 3) := by decide +kernel
theorem dX5_follow_75 : decode cX5_follow 75 = .ok (.iconst 3, 1) := by decide +kernel
theorem dX5_follow_76 : decode cX5_follow 76 = .ok (.istore_n 3, 1) := by decide +kernel
theorem dX5_follow_77 : decode cX5_follow 77 = .ok (.aload_n 0, 1) := by decide +kernel
theorem dX5_follow_78 : decode cX5_follow 78 = .ok (.iload_n 3, 1) := by decide +kernel
theorem dX5_follow_79 : decode cX5_follow 79 = .ok (.invokevirtual 67, 3) := by decide +kernel
theorem dX5_follow_82 : decode cX5_follow 82 = .ok (.ifCond .ne 5, 3) := by decide +kernel
theorem dX5_follow_85 : decode cX5_follow 85 = .ok (.iconst 0, 1) := by decide +kernel
theorem dX5_follow_86 : decode cX5_follow 86 = .ok (.ireturn, 1) := by decide +kernel
theorem dX5_follow_87 : decode cX5_follow 87 = .ok (.aload_n 0, 1) := by decide +kernel
theorem dX5_follow_88 : decode cX5_follow 88 = .ok (.getfield 7, 3) := by decide +kernel
theorem dX5_follow_91 : decode cX5_follow 91 = .ok (.bipush 8, 2) := by decide +kernel
theorem dX5_follow_93 : decode cX5_follow 93 = .ok (.iload_n 1, 1) := by decide +kernel
theorem dX5_follow_94 : decode cX5_follow 94 = .ok (.imul, 1) := by decide +kernel
theorem dX5_follow_95 : decode cX5_follow 95 = .ok (.iload_n 2, 1) := by decide +kernel
theorem dX5_follow_96 : decode cX5_follow 96 = .ok (.iadd, 1) := by decide +kernel
theorem dX5_follow_97 : decode cX5_follow 97 = .ok (.iconst 1, 1) := by decide +kernel
theorem dX5_follow_98 : decode cX5_follow 98 = .ok (.bastore, 1) := by decide +kernel
theorem dX5_follow_99 : decode cX5_follow 99 = .ok (.aload_n 0, 1) := by decide +kernel
theorem dX5_follow_100 : decode cX5_follow 100 = .ok (.invokevirtual 70, 3) := by decide +kernel
theorem dX5_follow_103 : decode cX5_follow 103 = .ok (.aload_n 0, 1) := by decide +kernel
theorem dX5_follow_104 : decode cX5_follow 104 = .ok (.iload_n 2, 1) := by decide +kernel
theorem dX5_follow_105 : decode cX5_follow 105 = .ok (.invokevirtual 49, 3) := by decide +kernel
theorem dX5_follow_108 : decode cX5_follow 108 = .ok (.ireturn, 1) := by decide +kernel
set_option maxRecDepth 20000 in
theorem ggX5_unfollow_X5_isOne : GoodIn wsX5_unfollow wsX5_isOne := goodIn_r _ [5, 6, 7, 4, 8] (by decide +kernel) (by decide +kernel)
set_option maxRecDepth 20000 in
theorem gX5_unfollow_X5_isOne : GoodIn wsX5_unfollow (va_wsS RX5 64 yX5_isOne wsX5_isOne) := goodIn_app (goodIn_of _ (by decide +kernel)) ggX5_unfollow_X5_isOne
set_option maxRecDepth 20000 in
theorem ggX5_unfollow_X5_isFine : GoodIn wsX5_unfollow wsX5_isFine := goodIn_r _ [12, 13, 40, 41, 42, 43, 44, 45, 46, 47, 48, 49, 50] (by decide +kernel) (by decide +kernel)
set_option maxRecDepth 20000 in
theorem gX5_unfollow_X5_isFine : GoodIn wsX5_unfollow (wsV RX5 67 RX5 yX5_isFine wsX5_isFine) := goodIn_app (goodIn_of _ (by decide +kernel)) ggX5_unfollow_X5_isFine
set_option maxRecDepth 20000 in
theorem ggX5_unfollow_X5_cuts : GoodIn wsX5_unfollow wsX5_cuts := goodIn_r _ [17, 18, 19, 20, 21, 22, 23, 4, 24, 25, 26, 27, 28, 29, 1, 30, 31, 32, 33, 34, 35, 36, 37, 38, 39, 40, 41, 42, 43, 44, 45, 46, 47, 48, 49, 50] (by decide +kernel) (by decide +kernel)
set_option maxRecDepth 20000 in
theorem gX5_unfollow_X5_cuts : GoodIn wsX5_unfollow (wsV RX5 70 RX5 yX5_cuts wsX5_cuts) := goodIn_app (goodIn_of _ (by decide +kernel)) ggX5_unfollow_X5_cuts
set_option maxRecDepth 20000 in
theorem ggX5_unfollow_X5_followersOf : GoodIn wsX5_unfollow wsX5_followersOf := goodIn_r _ [39, 1, 40, 41, 42, 43, 44, 45, 46, 47, 48, 49, 50] (by decide +kernel) (by decide +kernel)
set_option maxRecDepth 20000 in
theorem gX5_unfollow_X5_followersOf : GoodIn wsX5_unfollow (wsV RX5 49 RX5 yX5_followersOf wsX5_followersOf) := goodIn_app (goodIn_of _ (by decide +kernel)) ggX5_unfollow_X5_followersOf
theorem dX5_unfollow_0 : decode cX5_unfollow 0 = .ok (.iload_n 1, 1) := by decide +kernel
theorem dX5_unfollow_1 : decode cX5_unfollow 1 = .ok (.invokestatic 64, 3) := by decide +kernel
theorem dX5_unfollow_4 : decode cX5_unfollow 4 = .ok (.ifCond .eq 10, 3) := by decide +kernel
theorem dX5_unfollow_7 : decode cX5_unfollow 7 = .ok (.iload_n 2, 1) := by decide +kernel
theorem dX5_unfollow_8 : decode cX5_unfollow 8 = .ok (.invokestatic 64, 3) := by decide +kernel
theorem dX5_unfollow_11 : decode cX5_unfollow 11 = .ok (.ifCond .ne 7, 3) := by decide +kernel
theorem dX5_unfollow_14 : decode cX5_unfollow 14 = .ok (.iconst 1, 1) := by decide +kernel
theorem dX5_unfollow_15 : decode cX5_unfollow 15 = .ok (.goto 22, 3) := by decide +kernel
theorem dX5_unfollow_18 : decode cX5_unfollow 18 = .ok (.aload_n 0, 1) := by decide +kernel
theorem dX5_unfollow_19 : decode cX5_unfollow 19 = .ok (.getfield 7, 3) := by decide +kernel
theorem dX5_unfollow_22 : decode cX5_unfollow 22 = .ok (.bipush 8, 2) := by decide +kernel
theorem dX5_unfollow_24 : decode cX5_unfollow 24 = .ok (.iload_n 1, 1) := by decide +kernel
theorem dX5_unfollow_25 : decode cX5_unfollow 25 = .ok (.imul, 1) := by decide +kernel
theorem dX5_unfollow_26 : decode cX5_unfollow 26 = .ok (.iload_n 2, 1) := by decide +kernel
theorem dX5_unfollow_27 : decode cX5_unfollow 27 = .ok (.iadd, 1) := by decide +kernel
theorem dX5_unfollow_28 : decode cX5_unfollow 28 = .ok (.baload, 1) := by decide +kernel
theorem dX5_unfollow_29 : decode cX5_unfollow 29 = .ok (.ifCond .ne 7, 3) := by decide +kernel
theorem dX5_unfollow_32 : decode cX5_unfollow 32 = .ok (.iconst 2, 1) := by decide +kernel
theorem dX5_unfollow_33 : decode cX5_unfollow 33 = .ok (.goto 4, 3) := by decide +kernel
theorem dX5_unfollow_36 : decode cX5_unfollow 36 = .ok (.iconst 0, 1) := by decide +kernel
theorem dX5_unfollow_37 : decode cX5_unfollow 37 = .ok (.istore_n 3, 1) := by decide +kernel
theorem dX5_unfollow_38 : decode cX5_unfollow 38 = .ok (.aload_n 0, 1) := by decide +kernel
theorem dX5_unfollow_39 : decode cX5_unfollow 39 = .ok (.iload_n 3, 1) := by decide +kernel
theorem dX5_unfollow_40 : decode cX5_unfollow 40 = .ok (.invokevirtual 67, 3) := by decide +kernel
theorem dX5_unfollow_43 : decode cX5_unfollow 43 = .ok (.ifCond .ne 5, 3) := by decide +kernel
theorem dX5_unfollow_46 : decode cX5_unfollow 46 = .ok (.iconst 0, 1) := by decide +kernel
theorem dX5_unfollow_47 : decode cX5_unfollow 47 = .ok (.ireturn, 1) := by decide +kernel
theorem dX5_unfollow_48 : decode cX5_unfollow 48 = .ok (.aload_n 0, 1) := by decide +kernel
theorem dX5_unfollow_49 : decode cX5_unfollow 49 = .ok (.getfield 7, 3) := by decide +kernel
theorem dX5_unfollow_52 : decode cX5_unfollow 52 = .ok (.bipush 8, 2) := by decide +kernel
theorem dX5_unfollow_54 : decode cX5_unfollow 54 = .ok (.iload_n 1, 1) := by decide +kernel
theorem dX5_unfollow_55 : decode cX5_unfollow 55 = .ok (.imul, 1) := by decide +kernel
theorem dX5_unfollow_56 : decode cX5_unfollow 56 = .ok (.iload_n 2, 1) := by decide +kernel
theorem dX5_unfollow_57 : decode cX5_unfollow 57 = .ok (.iadd, 1) := by decide +kernel
theorem dX5_unfollow_58 : decode cX5_unfollow 58 = .ok (.iconst 0, 1) := by decide +kernel
theorem dX5_unfollow_59 : decode cX5_unfollow 59 = .ok (.bastore, 1) := by decide +kernel
theorem dX5_unfollow_60 : decode cX5_unfollow 60 = .ok (.aload_n 0, 1) := by decide +kernel
theorem dX5_unfollow_61 : decode cX5_unfollow 61 = .ok (.invokevirtual 70, 3) := by decide +kernel
theorem dX5_unfollow_64 : decode cX5_unfollow 64 = .ok (.aload_n 0, 1) := by decide +kernel
theorem dX5_unfollow_65 : decode cX5_unfollow 65 = .ok (.iload_n 2, 1) := by decide +kernel
theorem dX5_unfollow_66 : decode cX5_unfollow 66 = .ok (.invokevirtual 49, 3) := by decide +kernel
theorem dX5_unfollow_69 : decode cX5_unfollow 69 = .ok (.ireturn, 1) := by decide +kernel
set_option maxRecDepth 20000 in
theorem ggX5_mute_X5_isOne : GoodIn wsX5_mute wsX5_isOne := goodIn_r _ [5, 6, 7, 4, 8] (by decide +kernel) (by decide +kernel)
set_option maxRecDepth 20000 in
theorem gX5_mute_X5_isOne : GoodIn wsX5_mute (va_wsS RX5 64 yX5_isOne wsX5_isOne) := goodIn_app (goodIn_of _ (by decide +kernel)) ggX5_mute_X5_isOne
set_option maxRecDepth 20000 in
theorem ggX5_mute_X5_isFine : GoodIn wsX5_mute wsX5_isFine := goodIn_r _ [12, 13, 14, 15, 16, 17, 18, 19, 20, 21, 22, 23, 24] (by decide +kernel) (by decide +kernel)
set_option maxRecDepth 20000 in
theorem gX5_mute_X5_isFine : GoodIn wsX5_mute (wsV RX5 67 RX5 yX5_isFine wsX5_isFine) := goodIn_app (goodIn_of _ (by decide +kernel)) ggX5_mute_X5_isFine
theorem dX5_mute_0 : decode cX5_mute 0 = .ok (.aload_n 0, 1) := by decide +kernel
theorem dX5_mute_1 : decode cX5_mute 1 = .ok (.iload_n 1, 1) := by decide +kernel
theorem dX5_mute_2 : decode cX5_mute 2 = .ok (.invokestatic 64, 3) := by decide +kernel
theorem dX5_mute_5 : decode cX5_mute 5 = .ok (.ifCond .eq 10, 3) := by decide +kernel
theorem dX5_mute_8 : decode cX5_mute 8 = .ok (.iload_n 2, 1) := by decide +kernel
theorem dX5_mute_9 : decode cX5_mute 9 = .ok (.invokestatic 64, 3) := by decide +kernel
theorem dX5_mute_12 : decode cX5_mute 12 = .ok (.ifCond .ne 7, 3) := by decide +kernel
theorem dX5_mute_15 : decode cX5_mute 15 = .ok (.iconst 1, 1) := by decide +kernel
theorem dX5_mute_16 : decode cX5_mute 16 = .ok (.goto 13, 3) := by decide +kernel
theorem dX5_mute_19 : decode cX5_mute 19 = .ok (.iload_n 1, 1) := by decide +kernel
theorem dX5_mute_20 : decode cX5_mute 20 = .ok (.iload_n 2, 1) := by decide +kernel
theorem dX5_mute_21 : decode cX5_mute 21 = .ok (.if_icmp .ne 7, 3) := by decide +kernel
theorem dX5_mute_24 : decode cX5_mute 24 = .ok (.iconst 2, 1) := by decide +kernel
theorem dX5_mute_25 : decode cX5_mute 25 = .ok (.goto 4, 3) := by decide +kernel
theorem dX5_mute_28 : decode cX5_mute 28 = .ok (.iconst 0, 1) := by decide +kernel
theorem dX5_mute_29 : decode cX5_mute 29 = .ok (.invokevirtual 67, 3) := by decide +kernel
theorem dX5_mute_32 : decode cX5_mute 32 = .ok (.ifCond .ne 5, 3) := by decide +kernel
theorem dX5_mute_35 : decode cX5_mute 35 = .ok (.iconst 0, 1) := by decide +kernel
theorem dX5_mute_36 : decode cX5_mute 36 = .ok (.ireturn, 1) := by decide +kernel
theorem dX5_mute_37 : decode cX5_mute 37 = .ok (.aload_n 0, 1) := by decide +kernel
theorem dX5_mute_38 : decode cX5_mute 38 = .ok (.getfield 13, 3) := by decide +kernel
theorem dX5_mute_41 : decode cX5_mute 41 = .ok (.bipush 8, 2) := by decide +kernel
theorem dX5_mute_43 : decode cX5_mute 43 = .ok (.iload_n 1, 1) := by decide +kernel
theorem dX5_mute_44 : decode cX5_mute 44 = .ok (.imul, 1) := by decide +kernel
theorem dX5_mute_45 : decode cX5_mute 45 = .ok (.iload_n 2, 1) := by decide +kernel
theorem dX5_mute_46 : decode cX5_mute 46 = .ok (.iadd, 1) := by decide +kernel
theorem dX5_mute_47 : decode cX5_mute 47 = .ok (.baload, 1) := by decide +kernel
theorem dX5_mute_48 : decode cX5_mute 48 = .ok (.istore 4, 2) := by decide +kernel
theorem dX5_mute_50 : decode cX5_mute 50 = .ok (.aload_n 0, 1) := by decide +kernel
theorem dX5_mute_51 : decode cX5_mute 51 = .ok (.getfield 13, 3) := by decide +kernel
theorem dX5_mute_54 : decode cX5_mute 54 = .ok (.bipush 8, 2) := by decide +kernel
theorem dX5_mute_56 : decode cX5_mute 56 = .ok (.iload_n 1, 1) := by decide +kernel
theorem dX5_mute_57 : decode cX5_mute 57 = .ok (.imul, 1) := by decide +kernel
theorem dX5_mute_58 : decode cX5_mute 58 = .ok (.iload_n 2, 1) := by decide +kernel
theorem dX5_mute_59 : decode cX5_mute 59 = .ok (.iadd, 1) := by decide +kernel
theorem dX5_mute_60 : decode cX5_mute 60 = .ok (.iload_n 3, 1) := by decide +kernel
theorem dX5_mute_61 : decode cX5_mute 61 = .ok (.bastore, 1) := by decide +kernel
theorem dX5_mute_62 : decode cX5_mute 62 = .ok (.iload 4, 2) := by decide +kernel
theorem dX5_mute_64 : decode cX5_mute 64 = .ok (.ireturn, 1) := by decide +kernel
set_option maxRecDepth 20000 in
theorem ggX5_block_X5_isOne : GoodIn wsX5_block wsX5_isOne := goodIn_r _ [6, 7, 8, 5, 9] (by decide +kernel) (by decide +kernel)
set_option maxRecDepth 20000 in
theorem gX5_block_X5_isOne : GoodIn wsX5_block (va_wsS RX5 64 yX5_isOne wsX5_isOne) := goodIn_app (goodIn_of _ (by decide +kernel)) ggX5_block_X5_isOne
set_option maxRecDepth 20000 in
theorem ggX5_block_X5_isFine : GoodIn wsX5_block wsX5_isFine := goodIn_r _ [13, 14, 41, 42, 43, 44, 45, 46, 47, 48, 49, 50, 51] (by decide +kernel) (by decide +kernel)
set_option maxRecDepth 20000 in
theorem gX5_block_X5_isFine : GoodIn wsX5_block (wsV RX5 67 RX5 yX5_isFine wsX5_isFine) := goodIn_app (goodIn_of _ (by decide +kernel)) ggX5_block_X5_isFine
set_option maxRecDepth 20000 in
theorem ggX5_block_X5_cuts : GoodIn wsX5_block wsX5_cuts := goodIn_r _ [18, 19, 20, 21, 22, 23, 24, 5, 25, 26, 27, 28, 29, 30, 2, 31, 32, 33, 34, 35, 36, 37, 38, 39, 40, 41, 42, 43, 44, 45, 46, 47, 48, 49, 50, 51] (by decide +kernel) (by decide +kernel)
set_option maxRecDepth 20000 in
theorem gX5_block_X5_cuts : GoodIn wsX5_block (wsV RX5 70 RX5 yX5_cuts wsX5_cuts) := goodIn_app (goodIn_of _ (by decide +kernel)) ggX5_block_X5_cuts
theorem dX5_block_0 : decode cX5_block 0 = .ok (.aload_n 0, 1) := by decide +kernel
theorem dX5_block_1 : decode cX5_block 1 = .ok (.iload_n 2, 1) := by decide +kernel
theorem dX5_block_2 : decode cX5_block 2 = .ok (.invokestatic 64, 3) := by decide +kernel
theorem dX5_block_5 : decode cX5_block 5 = .ok (.ifCond .eq 10, 3) := by decide +kernel
theorem dX5_block_8 : decode cX5_block 8 = .ok (.iload_n 1, 1) := by decide +kernel
theorem dX5_block_9 : decode cX5_block 9 = .ok (.invokestatic 64, 3) := by decide +kernel
theorem dX5_block_12 : decode cX5_block 12 = .ok (.ifCond .ne 7, 3) := by decide +kernel
theorem dX5_block_15 : decode cX5_block 15 = .ok (.iconst 1, 1) := by decide +kernel
theorem dX5_block_16 : decode cX5_block 16 = .ok (.goto 13, 3) := by decide +kernel
theorem dX5_block_19 : decode cX5_block 19 = .ok (.iload_n 2, 1) := by decide +kernel
theorem dX5_block_20 : decode cX5_block 20 = .ok (.iload_n 1, 1) := by decide +kernel
theorem dX5_block_21 : decode cX5_block 21 = .ok (.if_icmp .ne 7, 3) := by decide +kernel
theorem dX5_block_24 : decode cX5_block 24 = .ok (.iconst 2, 1) := by decide +kernel
theorem dX5_block_25 : decode cX5_block 25 = .ok (.goto 4, 3) := by decide +kernel
theorem dX5_block_28 : decode cX5_block 28 = .ok (.iconst 0, 1) := by decide +kernel
theorem dX5_block_29 : decode cX5_block 29 = .ok (.invokevirtual 67, 3) := by decide +kernel
theorem dX5_block_32 : decode cX5_block 32 = .ok (.ifCond .ne 5, 3) := by decide +kernel
theorem dX5_block_35 : decode cX5_block 35 = .ok (.iconst 0, 1) := by decide +kernel
theorem dX5_block_36 : decode cX5_block 36 = .ok (.ireturn, 1) := by decide +kernel
theorem dX5_block_37 : decode cX5_block 37 = .ok (.aload_n 0, 1) := by decide +kernel
theorem dX5_block_38 : decode cX5_block 38 = .ok (.getfield 16, 3) := by decide +kernel
theorem dX5_block_41 : decode cX5_block 41 = .ok (.bipush 8, 2) := by decide +kernel
theorem dX5_block_43 : decode cX5_block 43 = .ok (.iload_n 1, 1) := by decide +kernel
theorem dX5_block_44 : decode cX5_block 44 = .ok (.imul, 1) := by decide +kernel
theorem dX5_block_45 : decode cX5_block 45 = .ok (.iload_n 2, 1) := by decide +kernel
theorem dX5_block_46 : decode cX5_block 46 = .ok (.iadd, 1) := by decide +kernel
theorem dX5_block_47 : decode cX5_block 47 = .ok (.baload, 1) := by decide +kernel
theorem dX5_block_48 : decode cX5_block 48 = .ok (.istore 4, 2) := by decide +kernel
theorem dX5_block_50 : decode cX5_block 50 = .ok (.aload_n 0, 1) := by decide +kernel
theorem dX5_block_51 : decode cX5_block 51 = .ok (.getfield 16, 3) := by decide +kernel
theorem dX5_block_54 : decode cX5_block 54 = .ok (.bipush 8, 2) := by decide +kernel
theorem dX5_block_56 : decode cX5_block 56 = .ok (.iload_n 1, 1) := by decide +kernel
theorem dX5_block_57 : decode cX5_block 57 = .ok (.imul, 1) := by decide +kernel
theorem dX5_block_58 : decode cX5_block 58 = .ok (.iload_n 2, 1) := by decide +kernel
theorem dX5_block_59 : decode cX5_block 59 = .ok (.iadd, 1) := by decide +kernel
theorem dX5_block_60 : decode cX5_block 60 = .ok (.iload_n 3, 1) := by decide +kernel
theorem dX5_block_61 : decode cX5_block 61 = .ok (.bastore, 1) := by decide +kernel
theorem dX5_block_62 : decode cX5_block 62 = .ok (.iload_n 3, 1) := by decide +kernel
theorem dX5_block_63 : decode cX5_block 63 = .ok (.ifCond .eq 27, 3) := by decide +kernel
theorem dX5_block_66 : decode cX5_block 66 = .ok (.aload_n 0, 1) := by decide +kernel
theorem dX5_block_67 : decode cX5_block 67 = .ok (.getfield 7, 3) := by decide +kernel
theorem dX5_block_70 : decode cX5_block 70 = .ok (.bipush 8, 2) := by decide +kernel
theorem dX5_block_72 : decode cX5_block 72 = .ok (.iload_n 1, 1) := by decide +kernel
theorem dX5_block_73 : decode cX5_block 73 = .ok (.imul, 1) := by decide +kernel
theorem dX5_block_74 : decode cX5_block 74 = .ok (.iload_n 2, 1) := by decide +kernel
theorem dX5_block_75 : decode cX5_block 75 = .ok (.iadd, 1) := by decide +kernel
theorem dX5_block_76 : decode cX5_block 76 = .ok (.iconst 0, 1) := by decide +kernel
theorem dX5_block_77 : decode cX5_block 77 = .ok (.bastore, 1) := by decide +kernel
theorem dX5_block_78 : decode cX5_block 78 = .ok (.aload_n 0, 1) := by decide +kernel
theorem dX5_block_79 : decode cX5_block 79 = .ok (.getfield 7, 3) := by decide +kernel
theorem dX5_block_82 : decode cX5_block 82 = .ok (.bipush 8, 2) := by decide +kernel
theorem dX5_block_84 : decode cX5_block 84 = .ok (.iload_n 2, 1) := by decide +kernel
theorem dX5_block_85 : decode cX5_block 85 = .ok (.imul, 1) := by decide +kernel
theorem dX5_block_86 : decode cX5_block 86 = .ok (.iload_n 1, 1) := by decide +kernel
theorem dX5_block_87 : decode cX5_block 87 = .ok (.iadd, 1) := by decide +kernel
theorem dX5_block_88 : decode cX5_block 88 = .ok (.iconst 0, 1) := by decide +kernel
theorem dX5_block_89 : decode cX5_block 89 = .ok (.bastore, 1) := by decide +kernel
theorem dX5_block_90 : decode cX5_block 90 = .ok (.aload_n 0, 1) := by decide +kernel
theorem dX5_block_91 : decode cX5_block 91 = .ok (.invokevirtual 70, 3) := by decide +kernel
theorem dX5_block_94 : decode cX5_block 94 = .ok (.iload 4, 2) := by decide +kernel
theorem dX5_block_96 : decode cX5_block 96 = .ok (.ireturn, 1) := by decide +kernel
set_option maxRecDepth 20000 in
theorem ggX5_makes_X5_cuts : GoodIn wsX5_makes wsX5_cuts := goodIn_r _ [8, 9, 2, 10, 11, 12, 13, 7, 14, 15, 16, 17, 18, 19, 20, 1, 21, 22, 23, 24, 25, 26, 27, 28, 29, 30, 31, 32, 33, 34, 35, 36, 37, 38, 39, 40] (by decide +kernel) (by decide +kernel)
set_option maxRecDepth 20000 in
theorem gX5_makes_X5_cuts : GoodIn wsX5_makes (wsV RX5 70 RX5 yX5_cuts wsX5_cuts) := goodIn_app (goodIn_of _ (by decide +kernel)) ggX5_makes_X5_cuts
theorem dX5_makes_0 : decode cX5_makes 0 = .ok (.aload_n 0, 1) := by decide +kernel
theorem dX5_makes_1 : decode cX5_makes 1 = .ok (.getfield 19, 3) := by decide +kernel
theorem dX5_makes_4 : decode cX5_makes 4 = .ok (.aload_n 0, 1) := by decide +kernel
theorem dX5_makes_5 : decode cX5_makes 5 = .ok (.getfield 46, 3) := by decide +kernel
theorem dX5_makes_8 : decode cX5_makes 8 = .ok (.iload_n 1, 1) := by decide +kernel
theorem dX5_makes_9 : decode cX5_makes 9 = .ok (.iastore, 1) := by decide +kernel
theorem dX5_makes_10 : decode cX5_makes 10 = .ok (.aload_n 0, 1) := by decide +kernel
theorem dX5_makes_11 : decode cX5_makes 11 = .ok (.getfield 23, 3) := by decide +kernel
theorem dX5_makes_14 : decode cX5_makes 14 = .ok (.aload_n 0, 1) := by decide +kernel
theorem dX5_makes_15 : decode cX5_makes 15 = .ok (.getfield 46, 3) := by decide +kernel
theorem dX5_makes_18 : decode cX5_makes 18 = .ok (.iload_n 2, 1) := by decide +kernel
theorem dX5_makes_19 : decode cX5_makes 19 = .ok (.iastore, 1) := by decide +kernel
theorem dX5_makes_20 : decode cX5_makes 20 = .ok (.aload_n 0, 1) := by decide +kernel
theorem dX5_makes_21 : decode cX5_makes 21 = .ok (.dup, 1) := by decide +kernel
theorem dX5_makes_22 : decode cX5_makes 22 = .ok (.getfield 46, 3) := by decide +kernel
theorem dX5_makes_25 : decode cX5_makes 25 = .ok (.iconst 1, 1) := by decide +kernel
theorem dX5_makes_26 : decode cX5_makes 26 = .ok (.iadd, 1) := by decide +kernel
theorem dX5_makes_27 : decode cX5_makes 27 = .ok (.putfield 46, 3) := by decide +kernel
theorem dX5_makes_30 : decode cX5_makes 30 = .ok (.aload_n 0, 1) := by decide +kernel
theorem dX5_makes_31 : decode cX5_makes 31 = .ok (.invokevirtual 70, 3) := by decide +kernel
theorem dX5_makes_34 : decode cX5_makes 34 = .ok (.aload_n 0, 1) := by decide +kernel
theorem dX5_makes_35 : decode cX5_makes 35 = .ok (.getfield 46, 3) := by decide +kernel
theorem dX5_makes_38 : decode cX5_makes 38 = .ok (.iconst 1, 1) := by decide +kernel
theorem dX5_makes_39 : decode cX5_makes 39 = .ok (.isub, 1) := by decide +kernel
theorem dX5_makes_40 : decode cX5_makes 40 = .ok (.ireturn, 1) := by decide +kernel
set_option maxRecDepth 20000 in
theorem ggX5_post_X5_isOne : GoodIn wsX5_post wsX5_isOne := goodIn_r _ [5, 6, 7, 4, 8] (by decide +kernel) (by decide +kernel)
set_option maxRecDepth 20000 in
theorem gX5_post_X5_isOne : GoodIn wsX5_post (va_wsS RX5 64 yX5_isOne wsX5_isOne) := goodIn_app (goodIn_of _ (by decide +kernel)) ggX5_post_X5_isOne
set_option maxRecDepth 20000 in
theorem ggX5_post_X5_isFine : GoodIn wsX5_post wsX5_isFine := goodIn_r _ [12, 13, 45, 46, 47, 48, 49, 50, 51, 52, 53, 54, 55] (by decide +kernel) (by decide +kernel)
set_option maxRecDepth 20000 in
theorem gX5_post_X5_isFine : GoodIn wsX5_post (wsV RX5 67 RX5 yX5_isFine wsX5_isFine) := goodIn_app (goodIn_of _ (by decide +kernel)) ggX5_post_X5_isFine
set_option maxRecDepth 20000 in
theorem ggX5_post_X5_makes : GoodIn wsX5_post wsX5_makes := goodIn_r _ [17, 18, 1, 19, 20, 21, 22, 4, 23, 24, 25, 26, 27, 28, 29, 30, 31, 32, 33, 34, 35, 36, 37, 38, 39, 40, 41, 42, 43, 44, 45, 46, 47, 48, 49, 50, 51, 52, 53, 54, 55] (by decide +kernel) (by decide +kernel)
set_option maxRecDepth 20000 in
theorem gX5_post_X5_makes : GoodIn wsX5_post (wsV RX5 73 RX5 yX5_makes wsX5_makes) := goodIn_app (goodIn_of _ (by decide +kernel)) ggX5_post_X5_makes
theorem dX5_post_0 : decode cX5_post 0 = .ok (.aload_n 0, 1) := by decide +kernel
theorem dX5_post_1 : decode cX5_post 1 = .ok (.iload_n 1, 1) := by decide +kernel
theorem dX5_post_2 : decode cX5_post 2 = .ok (.invokestatic 64, 3) := by decide +kernel
theorem dX5_post_5 : decode cX5_post 5 = .ok (.ifCond .ne 7, 3) := by decide +kernel
theorem dX5_post_8 : decode cX5_post 8 = .ok (.iconst 1, 1) := by decide +kernel
theorem dX5_post_9 : decode cX5_post 9 = .ok (.goto 18, 3) := by decide +kernel
theorem dX5_post_12 : decode cX5_post 12 = .ok (.aload_n 0, 1) := by decide +kernel
theorem dX5_post_13 : decode cX5_post 13 = .ok (.getfield 46, 3) := by decide +kernel
theorem dX5_post_16 : decode cX5_post 16 = .ok (.sipush 150, 3) := by decide +kernel
theorem dX5_post_19 : decode cX5_post 19 = .ok (.if_icmp .ne 7, 3) := by decide +kernel
theorem dX5_post_22 : decode cX5_post 22 = .ok (.iconst 2, 1) := by decide +kernel
theorem dX5_post_23 : decode cX5_post 23 = .ok (.goto 4, 3) := by decide +kernel
theorem dX5_post_26 : decode cX5_post 26 = .ok (.iconst 0, 1) := by decide +kernel
theorem dX5_post_27 : decode cX5_post 27 = .ok (.invokevirtual 67, 3) := by decide +kernel
theorem dX5_post_30 : decode cX5_post 30 = .ok (.ifCond .ne 5, 3) := by decide +kernel
theorem dX5_post_33 : decode cX5_post 33 = .ok (.iconst 0, 1) := by decide +kernel
theorem dX5_post_34 : decode cX5_post 34 = .ok (.ireturn, 1) := by decide +kernel
theorem dX5_post_35 : decode cX5_post 35 = .ok (.aload_n 0, 1) := by decide +kernel
theorem dX5_post_36 : decode cX5_post 36 = .ok (.iload_n 1, 1) := by decide +kernel
theorem dX5_post_37 : decode cX5_post 37 = .ok (.aload_n 0, 1) := by decide +kernel
theorem dX5_post_38 : decode cX5_post 38 = .ok (.getfield 46, 3) := by decide +kernel
theorem dX5_post_41 : decode cX5_post 41 = .ok (.invokevirtual 73, 3) := by decide +kernel
theorem dX5_post_44 : decode cX5_post 44 = .ok (.ireturn, 1) := by decide +kernel
set_option maxRecDepth 20000 in
theorem ggX5_repost_X5_isOne : GoodIn wsX5_repost wsX5_isOne := goodIn_r _ [9, 10, 11, 8, 12] (by decide +kernel) (by decide +kernel)
set_option maxRecDepth 20000 in
theorem gX5_repost_X5_isOne : GoodIn wsX5_repost (va_wsS RX5 64 yX5_isOne wsX5_isOne) := goodIn_app (goodIn_of _ (by decide +kernel)) ggX5_repost_X5_isOne
set_option maxRecDepth 20000 in
theorem ggX5_repost_X5_isEntry : GoodIn wsX5_repost wsX5_isEntry := goodIn_r _ [16, 1, 10, 11, 8, 12, 50, 51, 52, 53, 54, 55, 56, 57, 58, 59, 60] (by decide +kernel) (by decide +kernel)
set_option maxRecDepth 20000 in
theorem gX5_repost_X5_isEntry : GoodIn wsX5_repost (wsV RX5 77 RX5 yX5_isEntry wsX5_isEntry) := goodIn_app (goodIn_of _ (by decide +kernel)) ggX5_repost_X5_isEntry
set_option maxRecDepth 20000 in
theorem ggX5_repost_X5_isFine : GoodIn wsX5_repost wsX5_isFine := goodIn_r _ [20, 21, 50, 51, 52, 53, 54, 55, 56, 57, 58, 59, 60] (by decide +kernel) (by decide +kernel)
set_option maxRecDepth 20000 in
theorem gX5_repost_X5_isFine : GoodIn wsX5_repost (wsV RX5 67 RX5 yX5_isFine wsX5_isFine) := goodIn_app (goodIn_of _ (by decide +kernel)) ggX5_repost_X5_isFine
set_option maxRecDepth 20000 in
theorem ggX5_repost_X5_makes : GoodIn wsX5_repost wsX5_makes := goodIn_r _ [25, 5, 1, 3, 26, 27, 28, 8, 29, 30, 31, 32, 33, 34, 35, 36, 37, 38, 39, 2, 40, 41, 42, 43, 44, 45, 46, 47, 48, 49, 50, 51, 52, 53, 54, 55, 56, 57, 58, 59, 60] (by decide +kernel) (by decide +kernel)
set_option maxRecDepth 20000 in
theorem gX5_repost_X5_makes : GoodIn wsX5_repost (wsV RX5 73 RX5 yX5_makes wsX5_makes) := goodIn_app (goodIn_of _ (by decide +kernel)) ggX5_repost_X5_makes
theorem dX5_repost_0 : decode cX5_repost 0 = .ok (.iload_n 1, 1) := by decide +kernel
theorem dX5_repost_1 : decode cX5_repost 1 = .ok (.invokestatic 64, 3) := by decide +kernel
theorem dX5_repost_4 : decode cX5_repost 4 = .ok (.ifCond .eq 11, 3) := by decide +kernel
theorem dX5_repost_7 : decode cX5_repost 7 = .ok (.aload_n 0, 1) := by decide +kernel
theorem dX5_repost_8 : decode cX5_repost 8 = .ok (.iload_n 2, 1) := by decide +kernel
theorem dX5_repost_9 : decode cX5_repost 9 = .ok (.invokevirtual 77, 3) := by decide +kernel
theorem dX5_repost_12 : decode cX5_repost 12 = .ok (.ifCond .ne 7, 3) := by decide +kernel
theorem dX5_repost_15 : decode cX5_repost 15 = .ok (.iconst 1, 1) := by decide +kernel
theorem dX5_repost_16 : decode cX5_repost 16 = .ok (.goto 41, 3) := by decide +kernel
theorem dX5_repost_19 : decode cX5_repost 19 = .ok (.aload_n 0, 1) := by decide +kernel
theorem dX5_repost_20 : decode cX5_repost 20 = .ok (.getfield 46, 3) := by decide +kernel
theorem dX5_repost_23 : decode cX5_repost 23 = .ok (.sipush 150, 3) := by decide +kernel
theorem dX5_repost_26 : decode cX5_repost 26 = .ok (.if_icmp .eq 26, 3) := by decide +kernel
theorem dX5_repost_29 : decode cX5_repost 29 = .ok (.aload_n 0, 1) := by decide +kernel
theorem dX5_repost_30 : decode cX5_repost 30 = .ok (.getfield 26, 3) := by decide +kernel
theorem dX5_repost_33 : decode cX5_repost 33 = .ok (.iload_n 2, 1) := by decide +kernel
theorem dX5_repost_34 : decode cX5_repost 34 = .ok (.baload, 1) := by decide +kernel
theorem dX5_repost_35 : decode cX5_repost 35 = .ok (.ifCond .ne 17, 3) := by decide +kernel
theorem dX5_repost_38 : decode cX5_repost 38 = .ok (.aload_n 0, 1) := by decide +kernel
theorem dX5_repost_39 : decode cX5_repost 39 = .ok (.getfield 26, 3) := by decide +kernel
theorem dX5_repost_42 : decode cX5_repost 42 = .ok (.aload_n 0, 1) := by decide +kernel
theorem dX5_repost_43 : decode cX5_repost 43 = .ok (.getfield 23, 3) := by decide +kernel
theorem dX5_repost_46 : decode cX5_repost 46 = .ok (.iload_n 2, 1) := by decide +kernel
theorem dX5_repost_47 : decode cX5_repost 47 = .ok (.iaload, 1) := by decide +kernel
theorem dX5_repost_48 : decode cX5_repost 48 = .ok (.baload, 1) := by decide +kernel
theorem dX5_repost_49 : decode cX5_repost 49 = .ok (.ifCond .eq 7, 3) := by decide +kernel
theorem dX5_repost_52 : decode cX5_repost 52 = .ok (.iconst 2, 1) := by decide +kernel
theorem dX5_repost_53 : decode cX5_repost 53 = .ok (.goto 4, 3) := by decide +kernel
theorem dX5_repost_56 : decode cX5_repost 56 = .ok (.iconst 0, 1) := by decide +kernel
theorem dX5_repost_57 : decode cX5_repost 57 = .ok (.istore_n 3, 1) := by decide +kernel
theorem dX5_repost_58 : decode cX5_repost 58 = .ok (.iload_n 3, 1) := by decide +kernel
theorem dX5_repost_59 : decode cX5_repost 59 = .ok (.ifCond .ne 29, 3) := by decide +kernel
theorem dX5_repost_62 : decode cX5_repost 62 = .ok (.aload_n 0, 1) := by decide +kernel
theorem dX5_repost_63 : decode cX5_repost 63 = .ok (.getfield 16, 3) := by decide +kernel
theorem dX5_repost_66 : decode cX5_repost 66 = .ok (.bipush 8, 2) := by decide +kernel
theorem dX5_repost_68 : decode cX5_repost 68 = .ok (.aload_n 0, 1) := by decide +kernel
theorem dX5_repost_69 : decode cX5_repost 69 = .ok (.getfield 19, 3) := by decide +kernel
theorem dX5_repost_72 : decode cX5_repost 72 = .ok (.aload_n 0, 1) := by decide +kernel
theorem dX5_repost_73 : decode cX5_repost 73 = .ok (.getfield 23, 3) := by decide +kernel
theorem dX5_repost_76 : decode cX5_repost 76 = .ok (.iload_n 2, 1) := by decide +kernel
theorem dX5_repost_77 : decode cX5_repost 77 = .ok (.iaload, 1) := by decide +kernel
theorem dX5_repost_78 : decode cX5_repost 78 = .ok (.iaload, 1) := by decide +kernel
theorem dX5_repost_79 : decode cX5_repost 79 = .ok (.imul, 1) := by decide +kernel
theorem dX5_repost_80 : decode cX5_repost 80 = .ok (.iload_n 1, 1) := by decide +kernel
theorem dX5_repost_81 : decode cX5_repost 81 = .ok (.iadd, 1) := by decide +kernel
theorem dX5_repost_82 : decode cX5_repost 82 = .ok (.baload, 1) := by decide +kernel
theorem dX5_repost_83 : decode cX5_repost 83 = .ok (.ifCond .eq 5, 3) := by decide +kernel
theorem dX5_repost_86 : decode cX5_repost 86 = .ok (.iconst 2, 1) := by decide +kernel
theorem dX5_repost_87 : decode cX5_repost 87 = .ok (.istore_n 3, 1) := by decide +kernel
theorem dX5_repost_88 : decode cX5_repost 88 = .ok (.aload_n 0, 1) := by decide +kernel
theorem dX5_repost_89 : decode cX5_repost 89 = .ok (.iload_n 3, 1) := by decide +kernel
theorem dX5_repost_90 : decode cX5_repost 90 = .ok (.invokevirtual 67, 3) := by decide +kernel
theorem dX5_repost_93 : decode cX5_repost 93 = .ok (.ifCond .eq 17, 3) := by decide +kernel
theorem dX5_repost_96 : decode cX5_repost 96 = .ok (.aload_n 0, 1) := by decide +kernel
theorem dX5_repost_97 : decode cX5_repost 97 = .ok (.iload_n 1, 1) := by decide +kernel
theorem dX5_repost_98 : decode cX5_repost 98 = .ok (.aload_n 0, 1) := by decide +kernel
theorem dX5_repost_99 : decode cX5_repost 99 = .ok (.getfield 23, 3) := by decide +kernel
theorem dX5_repost_102 : decode cX5_repost 102 = .ok (.iload_n 2, 1) := by decide +kernel
theorem dX5_repost_103 : decode cX5_repost 103 = .ok (.iaload, 1) := by decide +kernel
theorem dX5_repost_104 : decode cX5_repost 104 = .ok (.invokevirtual 73, 3) := by decide +kernel
theorem dX5_repost_107 : decode cX5_repost 107 = .ok (.goto 4, 3) := by decide +kernel
theorem dX5_repost_110 : decode cX5_repost 110 = .ok (.iconst 0, 1) := by decide +kernel
theorem dX5_repost_111 : decode cX5_repost 111 = .ok (.ireturn, 1) := by decide +kernel
set_option maxRecDepth 20000 in
theorem ggX5_delete_X5_isEntry : GoodIn wsX5_delete wsX5_isEntry := goodIn_r _ [8, 2, 9, 10, 7, 11, 42, 43, 44, 45, 46, 47, 48, 49, 50, 51, 52] (by decide +kernel) (by decide +kernel)
set_option maxRecDepth 20000 in
theorem gX5_delete_X5_isEntry : GoodIn wsX5_delete (wsV RX5 77 RX5 yX5_isEntry wsX5_isEntry) := goodIn_app (goodIn_of _ (by decide +kernel)) ggX5_delete_X5_isEntry
set_option maxRecDepth 20000 in
theorem ggX5_delete_X5_isFine : GoodIn wsX5_delete wsX5_isFine := goodIn_r _ [15, 16, 42, 43, 44, 45, 46, 47, 48, 49, 50, 51, 52] (by decide +kernel) (by decide +kernel)
set_option maxRecDepth 20000 in
theorem gX5_delete_X5_isFine : GoodIn wsX5_delete (wsV RX5 67 RX5 yX5_isFine wsX5_isFine) := goodIn_app (goodIn_of _ (by decide +kernel)) ggX5_delete_X5_isFine
set_option maxRecDepth 20000 in
theorem ggX5_delete_X5_cuts : GoodIn wsX5_delete wsX5_cuts := goodIn_r _ [20, 21, 2, 22, 23, 24, 25, 7, 26, 27, 28, 29, 30, 1, 31, 32, 33, 34, 35, 36, 37, 38, 39, 40, 41, 42, 43, 44, 45, 46, 47, 48, 49, 50, 51, 52] (by decide +kernel) (by decide +kernel)
set_option maxRecDepth 20000 in
theorem gX5_delete_X5_cuts : GoodIn wsX5_delete (wsV RX5 70 RX5 yX5_cuts wsX5_cuts) := goodIn_app (goodIn_of _ (by decide +kernel)) ggX5_delete_X5_cuts
theorem dX5_delete_0 : decode cX5_delete 0 = .ok (.aload_n 0, 1) := by decide +kernel
theorem dX5_delete_1 : decode cX5_delete 1 = .ok (.aload_n 0, 1) := by decide +kernel
theorem dX5_delete_2 : decode cX5_delete 2 = .ok (.iload_n 1, 1) := by decide +kernel
theorem dX5_delete_3 : decode cX5_delete 3 = .ok (.invokevirtual 77, 3) := by decide +kernel
theorem dX5_delete_6 : decode cX5_delete 6 = .ok (.ifCond .ne 7, 3) := by decide +kernel
theorem dX5_delete_9 : decode cX5_delete 9 = .ok (.iconst 1, 1) := by decide +kernel
theorem dX5_delete_10 : decode cX5_delete 10 = .ok (.goto 17, 3) := by decide +kernel
theorem dX5_delete_13 : decode cX5_delete 13 = .ok (.aload_n 0, 1) := by decide +kernel
theorem dX5_delete_14 : decode cX5_delete 14 = .ok (.getfield 26, 3) := by decide +kernel
theorem dX5_delete_17 : decode cX5_delete 17 = .ok (.iload_n 1, 1) := by decide +kernel
theorem dX5_delete_18 : decode cX5_delete 18 = .ok (.baload, 1) := by decide +kernel
theorem dX5_delete_19 : decode cX5_delete 19 = .ok (.ifCond .eq 7, 3) := by decide +kernel
theorem dX5_delete_22 : decode cX5_delete 22 = .ok (.iconst 2, 1) := by decide +kernel
theorem dX5_delete_23 : decode cX5_delete 23 = .ok (.goto 4, 3) := by decide +kernel
theorem dX5_delete_26 : decode cX5_delete 26 = .ok (.iconst 0, 1) := by decide +kernel
theorem dX5_delete_27 : decode cX5_delete 27 = .ok (.invokevirtual 67, 3) := by decide +kernel
theorem dX5_delete_30 : decode cX5_delete 30 = .ok (.ifCond .ne 5, 3) := by decide +kernel
theorem dX5_delete_33 : decode cX5_delete 33 = .ok (.iconst 0, 1) := by decide +kernel
theorem dX5_delete_34 : decode cX5_delete 34 = .ok (.ireturn, 1) := by decide +kernel
theorem dX5_delete_35 : decode cX5_delete 35 = .ok (.aload_n 0, 1) := by decide +kernel
theorem dX5_delete_36 : decode cX5_delete 36 = .ok (.getfield 26, 3) := by decide +kernel
theorem dX5_delete_39 : decode cX5_delete 39 = .ok (.iload_n 1, 1) := by decide +kernel
theorem dX5_delete_40 : decode cX5_delete 40 = .ok (.iconst 1, 1) := by decide +kernel
theorem dX5_delete_41 : decode cX5_delete 41 = .ok (.bastore, 1) := by decide +kernel
theorem dX5_delete_42 : decode cX5_delete 42 = .ok (.iconst 0, 1) := by decide +kernel
theorem dX5_delete_43 : decode cX5_delete 43 = .ok (.istore_n 2, 1) := by decide +kernel
theorem dX5_delete_44 : decode cX5_delete 44 = .ok (.iconst 0, 1) := by decide +kernel
theorem dX5_delete_45 : decode cX5_delete 45 = .ok (.istore_n 3, 1) := by decide +kernel
theorem dX5_delete_46 : decode cX5_delete 46 = .ok (.iload_n 3, 1) := by decide +kernel
theorem dX5_delete_47 : decode cX5_delete 47 = .ok (.aload_n 0, 1) := by decide +kernel
theorem dX5_delete_48 : decode cX5_delete 48 = .ok (.getfield 46, 3) := by decide +kernel
theorem dX5_delete_51 : decode cX5_delete 51 = .ok (.if_icmp .ge 36, 3) := by decide +kernel
theorem dX5_delete_54 : decode cX5_delete 54 = .ok (.iload_n 2, 1) := by decide +kernel
theorem dX5_delete_55 : decode cX5_delete 55 = .ok (.aload_n 0, 1) := by decide +kernel
theorem dX5_delete_56 : decode cX5_delete 56 = .ok (.getfield 23, 3) := by decide +kernel
theorem dX5_delete_59 : decode cX5_delete 59 = .ok (.iload_n 3, 1) := by decide +kernel
theorem dX5_delete_60 : decode cX5_delete 60 = .ok (.iaload, 1) := by decide +kernel
theorem dX5_delete_61 : decode cX5_delete 61 = .ok (.iload_n 1, 1) := by decide +kernel
theorem dX5_delete_62 : decode cX5_delete 62 = .ok (.if_icmp .ne 16, 3) := by decide +kernel
theorem dX5_delete_65 : decode cX5_delete 65 = .ok (.aload_n 0, 1) := by decide +kernel
theorem dX5_delete_66 : decode cX5_delete 66 = .ok (.getfield 26, 3) := by decide +kernel
theorem dX5_delete_69 : decode cX5_delete 69 = .ok (.iload_n 3, 1) := by decide +kernel
theorem dX5_delete_70 : decode cX5_delete 70 = .ok (.baload, 1) := by decide +kernel
theorem dX5_delete_71 : decode cX5_delete 71 = .ok (.ifCond .ne 7, 3) := by decide +kernel
theorem dX5_delete_74 : decode cX5_delete 74 = .ok (.iconst 1, 1) := by decide +kernel
theorem dX5_delete_75 : decode cX5_delete 75 = .ok (.goto 4, 3) := by decide +kernel
theorem dX5_delete_78 : decode cX5_delete 78 = .ok (.iconst 0, 1) := by decide +kernel
theorem dX5_delete_79 : decode cX5_delete 79 = .ok (.iadd, 1) := by decide +kernel
theorem dX5_delete_80 : decode cX5_delete 80 = .ok (.istore_n 2, 1) := by decide +kernel
theorem dX5_delete_81 : decode cX5_delete 81 = .ok (.iinc 3 1, 3) := by decide +kernel
theorem dX5_delete_84 : decode cX5_delete 84 = .ok (.goto (-38), 3) := by decide +kernel
theorem dX5_delete_87 : decode cX5_delete 87 = .ok (.aload_n 0, 1) := by decide +kernel
theorem dX5_delete_88 : decode cX5_delete 88 = .ok (.invokevirtual 70, 3) := by decide +kernel
theorem dX5_delete_91 : decode cX5_delete 91 = .ok (.iload_n 2, 1) := by decide +kernel
theorem dX5_delete_92 : decode cX5_delete 92 = .ok (.ireturn, 1) := by decide +kernel
set_option maxRecDepth 20000 in
theorem ggX5_setMark_X5_in : GoodIn wsX5_setMark wsX5_in := goodIn_r _ [5] (by decide +kernel) (by decide +kernel)
set_option maxRecDepth 20000 in
theorem gX5_setMark_X5_in : GoodIn wsX5_setMark (va_wsS RX5 42 yX5_in wsX5_in) := goodIn_app (goodIn_of _ (by decide +kernel)) ggX5_setMark_X5_in
set_option maxRecDepth 20000 in
theorem ggX5_setMark_X5_isFine : GoodIn wsX5_setMark wsX5_isFine := goodIn_r _ [9, 10, 37, 38, 39, 40, 41, 42, 43, 44, 45, 46, 47] (by decide +kernel) (by decide +kernel)
set_option maxRecDepth 20000 in
theorem gX5_setMark_X5_isFine : GoodIn wsX5_setMark (wsV RX5 67 RX5 yX5_isFine wsX5_isFine) := goodIn_app (goodIn_of _ (by decide +kernel)) ggX5_setMark_X5_isFine
set_option maxRecDepth 20000 in
theorem ggX5_setMark_X5_cuts : GoodIn wsX5_setMark wsX5_cuts := goodIn_r _ [14, 15, 16, 17, 18, 19, 20, 4, 21, 22, 23, 24, 25, 26, 27, 28, 29, 30, 31, 32, 1, 33, 34, 35, 36, 37, 38, 39, 40, 41, 42, 43, 44, 45, 46, 47] (by decide +kernel) (by decide +kernel)
set_option maxRecDepth 20000 in
theorem gX5_setMark_X5_cuts : GoodIn wsX5_setMark (wsV RX5 70 RX5 yX5_cuts wsX5_cuts) := goodIn_app (goodIn_of _ (by decide +kernel)) ggX5_setMark_X5_cuts
set_option maxRecDepth 20000 in
theorem ggX5_setMark_X5_large : GoodIn wsX5_setMark wsX5_large := goodIn_r _ [32, 1, 33, 34, 35, 4, 36, 27, 37, 38, 39, 40, 41, 42, 43, 44, 45, 46, 47] (by decide +kernel) (by decide +kernel)
set_option maxRecDepth 20000 in
theorem gX5_setMark_X5_large : GoodIn wsX5_setMark (wsV RX5 53 RX5 yX5_large wsX5_large) := goodIn_app (goodIn_of _ (by decide +kernel)) ggX5_setMark_X5_large
theorem dX5_setMark_0 : decode cX5_setMark 0 = .ok (.aload_n 0, 1) := by decide +kernel
theorem dX5_setMark_1 : decode cX5_setMark 1 = .ok (.iload_n 1, 1) := by decide +kernel
theorem dX5_setMark_2 : decode cX5_setMark 2 = .ok (.iconst 0, 1) := by decide +kernel
theorem dX5_setMark_3 : decode cX5_setMark 3 = .ok (.bipush 8, 2) := by decide +kernel
theorem dX5_setMark_5 : decode cX5_setMark 5 = .ok (.invokestatic 42, 3) := by decide +kernel
theorem dX5_setMark_8 : decode cX5_setMark 8 = .ok (.ifCond .eq 7, 3) := by decide +kernel
theorem dX5_setMark_11 : decode cX5_setMark 11 = .ok (.iconst 0, 1) := by decide +kernel
theorem dX5_setMark_12 : decode cX5_setMark 12 = .ok (.goto 4, 3) := by decide +kernel
theorem dX5_setMark_15 : decode cX5_setMark 15 = .ok (.iconst 1, 1) := by decide +kernel
theorem dX5_setMark_16 : decode cX5_setMark 16 = .ok (.invokevirtual 67, 3) := by decide +kernel
theorem dX5_setMark_19 : decode cX5_setMark 19 = .ok (.ifCond .ne 5, 3) := by decide +kernel
theorem dX5_setMark_22 : decode cX5_setMark 22 = .ok (.iconst 0, 1) := by decide +kernel
theorem dX5_setMark_23 : decode cX5_setMark 23 = .ok (.ireturn, 1) := by decide +kernel
theorem dX5_setMark_24 : decode cX5_setMark 24 = .ok (.aload_n 0, 1) := by decide +kernel
theorem dX5_setMark_25 : decode cX5_setMark 25 = .ok (.iload_n 1, 1) := by decide +kernel
theorem dX5_setMark_26 : decode cX5_setMark 26 = .ok (.putfield 29, 3) := by decide +kernel
theorem dX5_setMark_29 : decode cX5_setMark 29 = .ok (.aload_n 0, 1) := by decide +kernel
theorem dX5_setMark_30 : decode cX5_setMark 30 = .ok (.invokevirtual 70, 3) := by decide +kernel
theorem dX5_setMark_33 : decode cX5_setMark 33 = .ok (.iconst 0, 1) := by decide +kernel
theorem dX5_setMark_34 : decode cX5_setMark 34 = .ok (.istore_n 2, 1) := by decide +kernel
theorem dX5_setMark_35 : decode cX5_setMark 35 = .ok (.iconst 0, 1) := by decide +kernel
theorem dX5_setMark_36 : decode cX5_setMark 36 = .ok (.istore_n 3, 1) := by decide +kernel
theorem dX5_setMark_37 : decode cX5_setMark 37 = .ok (.iload_n 3, 1) := by decide +kernel
theorem dX5_setMark_38 : decode cX5_setMark 38 = .ok (.bipush 8, 2) := by decide +kernel
theorem dX5_setMark_40 : decode cX5_setMark 40 = .ok (.if_icmp .ge 25, 3) := by decide +kernel
theorem dX5_setMark_43 : decode cX5_setMark 43 = .ok (.iload_n 2, 1) := by decide +kernel
theorem dX5_setMark_44 : decode cX5_setMark 44 = .ok (.aload_n 0, 1) := by decide +kernel
theorem dX5_setMark_45 : decode cX5_setMark 45 = .ok (.iload_n 3, 1) := by decide +kernel
theorem dX5_setMark_46 : decode cX5_setMark 46 = .ok (.invokevirtual 53, 3) := by decide +kernel
theorem dX5_setMark_49 : decode cX5_setMark 49 = .ok (.ifCond .eq 7, 3) := by decide +kernel
theorem dX5_setMark_52 : decode cX5_setMark 52 = .ok (.iconst 1, 1) := by decide +kernel
theorem dX5_setMark_53 : decode cX5_setMark 53 = .ok (.goto 4, 3) := by decide +kernel
theorem dX5_setMark_56 : decode cX5_setMark 56 = .ok (.iconst 0, 1) := by decide +kernel
theorem dX5_setMark_57 : decode cX5_setMark 57 = .ok (.iadd, 1) := by decide +kernel
theorem dX5_setMark_58 : decode cX5_setMark 58 = .ok (.istore_n 2, 1) := by decide +kernel
theorem dX5_setMark_59 : decode cX5_setMark 59 = .ok (.iinc 3 1, 3) := by decide +kernel
theorem dX5_setMark_62 : decode cX5_setMark 62 = .ok (.goto (-25), 3) := by decide +kernel
theorem dX5_setMark_65 : decode cX5_setMark 65 = .ok (.iload_n 2, 1) := by decide +kernel
theorem dX5_setMark_66 : decode cX5_setMark 66 = .ok (.ireturn, 1) := by decide +kernel
set_option maxRecDepth 20000 in
theorem ggX5_setRoom_X5_in : GoodIn wsX5_setRoom wsX5_in := goodIn_r _ [5] (by decide +kernel) (by decide +kernel)
set_option maxRecDepth 20000 in
theorem gX5_setRoom_X5_in : GoodIn wsX5_setRoom (va_wsS RX5 42 yX5_in wsX5_in) := goodIn_app (goodIn_of _ (by decide +kernel)) ggX5_setRoom_X5_in
set_option maxRecDepth 20000 in
theorem ggX5_setRoom_X5_isFine : GoodIn wsX5_setRoom wsX5_isFine := goodIn_r _ [9, 10, 37, 38, 39, 40, 41, 42, 43, 44, 45, 46, 47] (by decide +kernel) (by decide +kernel)
set_option maxRecDepth 20000 in
theorem gX5_setRoom_X5_isFine : GoodIn wsX5_setRoom (wsV RX5 67 RX5 yX5_isFine wsX5_isFine) := goodIn_app (goodIn_of _ (by decide +kernel)) ggX5_setRoom_X5_isFine
set_option maxRecDepth 20000 in
theorem ggX5_setRoom_X5_cuts : GoodIn wsX5_setRoom wsX5_cuts := goodIn_r _ [14, 1, 15, 16, 17, 18, 19, 4, 20, 21, 22, 23, 24, 25, 26, 27, 28, 29, 30, 31, 32, 33, 34, 35, 36, 37, 38, 39, 40, 41, 42, 43, 44, 45, 46, 47] (by decide +kernel) (by decide +kernel)
set_option maxRecDepth 20000 in
theorem gX5_setRoom_X5_cuts : GoodIn wsX5_setRoom (wsV RX5 70 RX5 yX5_cuts wsX5_cuts) := goodIn_app (goodIn_of _ (by decide +kernel)) ggX5_setRoom_X5_cuts
theorem dX5_setRoom_0 : decode cX5_setRoom 0 = .ok (.aload_n 0, 1) := by decide +kernel
theorem dX5_setRoom_1 : decode cX5_setRoom 1 = .ok (.iload_n 1, 1) := by decide +kernel
theorem dX5_setRoom_2 : decode cX5_setRoom 2 = .ok (.iconst 1, 1) := by decide +kernel
theorem dX5_setRoom_3 : decode cX5_setRoom 3 = .ok (.bipush 40, 2) := by decide +kernel
theorem dX5_setRoom_5 : decode cX5_setRoom 5 = .ok (.invokestatic 42, 3) := by decide +kernel
theorem dX5_setRoom_8 : decode cX5_setRoom 8 = .ok (.ifCond .eq 7, 3) := by decide +kernel
theorem dX5_setRoom_11 : decode cX5_setRoom 11 = .ok (.iconst 0, 1) := by decide +kernel
theorem dX5_setRoom_12 : decode cX5_setRoom 12 = .ok (.goto 4, 3) := by decide +kernel
theorem dX5_setRoom_15 : decode cX5_setRoom 15 = .ok (.iconst 1, 1) := by decide +kernel
theorem dX5_setRoom_16 : decode cX5_setRoom 16 = .ok (.invokevirtual 67, 3) := by decide +kernel
theorem dX5_setRoom_19 : decode cX5_setRoom 19 = .ok (.ifCond .ne 5, 3) := by decide +kernel
theorem dX5_setRoom_22 : decode cX5_setRoom 22 = .ok (.iconst 0, 1) := by decide +kernel
theorem dX5_setRoom_23 : decode cX5_setRoom 23 = .ok (.ireturn, 1) := by decide +kernel
theorem dX5_setRoom_24 : decode cX5_setRoom 24 = .ok (.aload_n 0, 1) := by decide +kernel
theorem dX5_setRoom_25 : decode cX5_setRoom 25 = .ok (.getfield 33, 3) := by decide +kernel
theorem dX5_setRoom_28 : decode cX5_setRoom 28 = .ok (.istore_n 2, 1) := by decide +kernel
theorem dX5_setRoom_29 : decode cX5_setRoom 29 = .ok (.aload_n 0, 1) := by decide +kernel
theorem dX5_setRoom_30 : decode cX5_setRoom 30 = .ok (.iload_n 1, 1) := by decide +kernel
theorem dX5_setRoom_31 : decode cX5_setRoom 31 = .ok (.putfield 33, 3) := by decide +kernel
theorem dX5_setRoom_34 : decode cX5_setRoom 34 = .ok (.aload_n 0, 1) := by decide +kernel
theorem dX5_setRoom_35 : decode cX5_setRoom 35 = .ok (.invokevirtual 70, 3) := by decide +kernel
theorem dX5_setRoom_38 : decode cX5_setRoom 38 = .ok (.iload_n 2, 1) := by decide +kernel
theorem dX5_setRoom_39 : decode cX5_setRoom 39 = .ok (.ireturn, 1) := by decide +kernel
theorem dX5_entries_0 : decode cX5_entries 0 = .ok (.aload_n 0, 1) := by decide +kernel
theorem dX5_entries_1 : decode cX5_entries 1 = .ok (.iconst 0, 1) := by decide +kernel
theorem dX5_entries_2 : decode cX5_entries 2 = .ok (.putfield 39, 3) := by decide +kernel
theorem dX5_entries_5 : decode cX5_entries 5 = .ok (.aload_n 0, 1) := by decide +kernel
theorem dX5_entries_6 : decode cX5_entries 6 = .ok (.getfield 46, 3) := by decide +kernel
theorem dX5_entries_9 : decode cX5_entries 9 = .ok (.ireturn, 1) := by decide +kernel
set_option maxRecDepth 20000 in
theorem ggX5_authorOf_X5_isEntry : GoodIn wsX5_authorOf wsX5_isEntry := goodIn_r _ [6, 7, 8, 9, 5, 10, 16, 17, 18, 19, 20, 21, 22, 23, 24, 25, 26] (by decide +kernel) (by decide +kernel)
set_option maxRecDepth 20000 in
theorem gX5_authorOf_X5_isEntry : GoodIn wsX5_authorOf (wsV RX5 77 RX5 yX5_isEntry wsX5_isEntry) := goodIn_app (goodIn_of _ (by decide +kernel)) ggX5_authorOf_X5_isEntry
set_option maxRecDepth 20000 in
theorem ggX5_authorOf_X5_isFine : GoodIn wsX5_authorOf wsX5_isFine := goodIn_r _ [14, 15, 16, 17, 18, 19, 20, 21, 22, 23, 24, 25, 26] (by decide +kernel) (by decide +kernel)
set_option maxRecDepth 20000 in
theorem gX5_authorOf_X5_isFine : GoodIn wsX5_authorOf (wsV RX5 67 RX5 yX5_isFine wsX5_isFine) := goodIn_app (goodIn_of _ (by decide +kernel)) ggX5_authorOf_X5_isFine
theorem dX5_authorOf_0 : decode cX5_authorOf 0 = .ok (.aload_n 0, 1) := by decide +kernel
theorem dX5_authorOf_1 : decode cX5_authorOf 1 = .ok (.aload_n 0, 1) := by decide +kernel
theorem dX5_authorOf_2 : decode cX5_authorOf 2 = .ok (.iload_n 1, 1) := by decide +kernel
theorem dX5_authorOf_3 : decode cX5_authorOf 3 = .ok (.invokevirtual 77, 3) := by decide +kernel
theorem dX5_authorOf_6 : decode cX5_authorOf 6 = .ok (.ifCond .eq 7, 3) := by decide +kernel
theorem dX5_authorOf_9 : decode cX5_authorOf 9 = .ok (.iconst 0, 1) := by decide +kernel
theorem dX5_authorOf_10 : decode cX5_authorOf 10 = .ok (.goto 4, 3) := by decide +kernel
theorem dX5_authorOf_13 : decode cX5_authorOf 13 = .ok (.iconst 1, 1) := by decide +kernel
theorem dX5_authorOf_14 : decode cX5_authorOf 14 = .ok (.invokevirtual 67, 3) := by decide +kernel
theorem dX5_authorOf_17 : decode cX5_authorOf 17 = .ok (.ifCond .eq 12, 3) := by decide +kernel
theorem dX5_authorOf_20 : decode cX5_authorOf 20 = .ok (.aload_n 0, 1) := by decide +kernel
theorem dX5_authorOf_21 : decode cX5_authorOf 21 = .ok (.getfield 19, 3) := by decide +kernel
theorem dX5_authorOf_24 : decode cX5_authorOf 24 = .ok (.iload_n 1, 1) := by decide +kernel
theorem dX5_authorOf_25 : decode cX5_authorOf 25 = .ok (.iaload, 1) := by decide +kernel
theorem dX5_authorOf_26 : decode cX5_authorOf 26 = .ok (.goto 4, 3) := by decide +kernel
theorem dX5_authorOf_29 : decode cX5_authorOf 29 = .ok (.iconst 0, 1) := by decide +kernel
theorem dX5_authorOf_30 : decode cX5_authorOf 30 = .ok (.ireturn, 1) := by decide +kernel
set_option maxRecDepth 20000 in
theorem ggX5_originOf_X5_isEntry : GoodIn wsX5_originOf wsX5_isEntry := goodIn_r _ [6, 7, 8, 9, 5, 10, 16, 17, 18, 19, 20, 21, 22, 23, 24, 25, 26] (by decide +kernel) (by decide +kernel)
set_option maxRecDepth 20000 in
theorem gX5_originOf_X5_isEntry : GoodIn wsX5_originOf (wsV RX5 77 RX5 yX5_isEntry wsX5_isEntry) := goodIn_app (goodIn_of _ (by decide +kernel)) ggX5_originOf_X5_isEntry
set_option maxRecDepth 20000 in
theorem ggX5_originOf_X5_isFine : GoodIn wsX5_originOf wsX5_isFine := goodIn_r _ [14, 15, 16, 17, 18, 19, 20, 21, 22, 23, 24, 25, 26] (by decide +kernel) (by decide +kernel)
set_option maxRecDepth 20000 in
theorem gX5_originOf_X5_isFine : GoodIn wsX5_originOf (wsV RX5 67 RX5 yX5_isFine wsX5_isFine) := goodIn_app (goodIn_of _ (by decide +kernel)) ggX5_originOf_X5_isFine
theorem dX5_originOf_0 : decode cX5_originOf 0 = .ok (.aload_n 0, 1) := by decide +kernel
theorem dX5_originOf_1 : decode cX5_originOf 1 = .ok (.aload_n 0, 1) := by decide +kernel
theorem dX5_originOf_2 : decode cX5_originOf 2 = .ok (.iload_n 1, 1) := by decide +kernel
theorem dX5_originOf_3 : decode cX5_originOf 3 = .ok (.invokevirtual 77, 3) := by decide +kernel
theorem dX5_originOf_6 : decode cX5_originOf 6 = .ok (.ifCond .eq 7, 3) := by decide +kernel
theorem dX5_originOf_9 : decode cX5_originOf 9 = .ok (.iconst 0, 1) := by decide +kernel
theorem dX5_originOf_10 : decode cX5_originOf 10 = .ok (.goto 4, 3) := by decide +kernel
theorem dX5_originOf_13 : decode cX5_originOf 13 = .ok (.iconst 1, 1) := by decide +kernel
theorem dX5_originOf_14 : decode cX5_originOf 14 = .ok (.invokevirtual 67, 3) := by decide +kernel
theorem dX5_originOf_17 : decode cX5_originOf 17 = .ok (.ifCond .eq 12, 3) := by decide +kernel
theorem dX5_originOf_20 : decode cX5_originOf 20 = .ok (.aload_n 0, 1) := by decide +kernel
theorem dX5_originOf_21 : decode cX5_originOf 21 = .ok (.getfield 23, 3) := by decide +kernel
theorem dX5_originOf_24 : decode cX5_originOf 24 = .ok (.iload_n 1, 1) := by decide +kernel
theorem dX5_originOf_25 : decode cX5_originOf 25 = .ok (.iaload, 1) := by decide +kernel
theorem dX5_originOf_26 : decode cX5_originOf 26 = .ok (.goto 4, 3) := by decide +kernel
theorem dX5_originOf_29 : decode cX5_originOf 29 = .ok (.iconst 0, 1) := by decide +kernel
theorem dX5_originOf_30 : decode cX5_originOf 30 = .ok (.ireturn, 1) := by decide +kernel
set_option maxRecDepth 20000 in
theorem ggX5_follows_X5_isOne : GoodIn wsX5_follows wsX5_isOne := goodIn_r _ [5, 6, 7, 4, 8] (by decide +kernel) (by decide +kernel)
set_option maxRecDepth 20000 in
theorem gX5_follows_X5_isOne : GoodIn wsX5_follows (va_wsS RX5 64 yX5_isOne wsX5_isOne) := goodIn_app (goodIn_of _ (by decide +kernel)) ggX5_follows_X5_isOne
set_option maxRecDepth 20000 in
theorem ggX5_follows_X5_isFine : GoodIn wsX5_follows wsX5_isFine := goodIn_r _ [12, 13, 14, 15, 16, 17, 18, 19, 20, 21, 22, 23, 24] (by decide +kernel) (by decide +kernel)
set_option maxRecDepth 20000 in
theorem gX5_follows_X5_isFine : GoodIn wsX5_follows (wsV RX5 67 RX5 yX5_isFine wsX5_isFine) := goodIn_app (goodIn_of _ (by decide +kernel)) ggX5_follows_X5_isFine
theorem dX5_follows_0 : decode cX5_follows 0 = .ok (.aload_n 0, 1) := by decide +kernel
theorem dX5_follows_1 : decode cX5_follows 1 = .ok (.iload_n 1, 1) := by decide +kernel
theorem dX5_follows_2 : decode cX5_follows 2 = .ok (.invokestatic 64, 3) := by decide +kernel
theorem dX5_follows_5 : decode cX5_follows 5 = .ok (.ifCond .eq 14, 3) := by decide +kernel
theorem dX5_follows_8 : decode cX5_follows 8 = .ok (.iload_n 2, 1) := by decide +kernel
theorem dX5_follows_9 : decode cX5_follows 9 = .ok (.invokestatic 64, 3) := by decide +kernel
theorem dX5_follows_12 : decode cX5_follows 12 = .ok (.ifCond .eq 7, 3) := by decide +kernel
theorem dX5_follows_15 : decode cX5_follows 15 = .ok (.iconst 0, 1) := by decide +kernel
theorem dX5_follows_16 : decode cX5_follows 16 = .ok (.goto 4, 3) := by decide +kernel
theorem dX5_follows_19 : decode cX5_follows 19 = .ok (.iconst 1, 1) := by decide +kernel
theorem dX5_follows_20 : decode cX5_follows 20 = .ok (.invokevirtual 67, 3) := by decide +kernel
theorem dX5_follows_23 : decode cX5_follows 23 = .ok (.ifCond .eq 21, 3) := by decide +kernel
theorem dX5_follows_26 : decode cX5_follows 26 = .ok (.aload_n 0, 1) := by decide +kernel
theorem dX5_follows_27 : decode cX5_follows 27 = .ok (.getfield 7, 3) := by decide +kernel
theorem dX5_follows_30 : decode cX5_follows 30 = .ok (.bipush 8, 2) := by decide +kernel
theorem dX5_follows_32 : decode cX5_follows 32 = .ok (.iload_n 1, 1) := by decide +kernel
theorem dX5_follows_33 : decode cX5_follows 33 = .ok (.imul, 1) := by decide +kernel
theorem dX5_follows_34 : decode cX5_follows 34 = .ok (.iload_n 2, 1) := by decide +kernel
theorem dX5_follows_35 : decode cX5_follows 35 = .ok (.iadd, 1) := by decide +kernel
theorem dX5_follows_36 : decode cX5_follows 36 = .ok (.baload, 1) := by decide +kernel
theorem dX5_follows_37 : decode cX5_follows 37 = .ok (.ifCond .eq 7, 3) := by decide +kernel
theorem dX5_follows_40 : decode cX5_follows 40 = .ok (.iconst 1, 1) := by decide +kernel
theorem dX5_follows_41 : decode cX5_follows 41 = .ok (.goto 4, 3) := by decide +kernel
theorem dX5_follows_44 : decode cX5_follows 44 = .ok (.iconst 0, 1) := by decide +kernel
theorem dX5_follows_45 : decode cX5_follows 45 = .ok (.ireturn, 1) := by decide +kernel
set_option maxRecDepth 20000 in
theorem ggX5_followers_X5_isOne : GoodIn wsX5_followers wsX5_isOne := goodIn_r _ [4, 5, 6, 3, 7] (by decide +kernel) (by decide +kernel)
set_option maxRecDepth 20000 in
theorem gX5_followers_X5_isOne : GoodIn wsX5_followers (va_wsS RX5 64 yX5_isOne wsX5_isOne) := goodIn_app (goodIn_of _ (by decide +kernel)) ggX5_followers_X5_isOne
set_option maxRecDepth 20000 in
theorem ggX5_followers_X5_isFine : GoodIn wsX5_followers wsX5_isFine := goodIn_r _ [11, 12, 18, 19, 20, 21, 22, 23, 24, 25, 26, 27, 28] (by decide +kernel) (by decide +kernel)
set_option maxRecDepth 20000 in
theorem gX5_followers_X5_isFine : GoodIn wsX5_followers (wsV RX5 67 RX5 yX5_isFine wsX5_isFine) := goodIn_app (goodIn_of _ (by decide +kernel)) ggX5_followers_X5_isFine
set_option maxRecDepth 20000 in
theorem ggX5_followers_X5_followersOf : GoodIn wsX5_followers wsX5_followersOf := goodIn_r _ [16, 17, 18, 19, 20, 21, 22, 23, 24, 25, 26, 27, 28] (by decide +kernel) (by decide +kernel)
set_option maxRecDepth 20000 in
theorem gX5_followers_X5_followersOf : GoodIn wsX5_followers (wsV RX5 49 RX5 yX5_followersOf wsX5_followersOf) := goodIn_app (goodIn_of _ (by decide +kernel)) ggX5_followers_X5_followersOf
theorem dX5_followers_0 : decode cX5_followers 0 = .ok (.aload_n 0, 1) := by decide +kernel
theorem dX5_followers_1 : decode cX5_followers 1 = .ok (.iload_n 1, 1) := by decide +kernel
theorem dX5_followers_2 : decode cX5_followers 2 = .ok (.invokestatic 64, 3) := by decide +kernel
theorem dX5_followers_5 : decode cX5_followers 5 = .ok (.ifCond .eq 7, 3) := by decide +kernel
theorem dX5_followers_8 : decode cX5_followers 8 = .ok (.iconst 0, 1) := by decide +kernel
theorem dX5_followers_9 : decode cX5_followers 9 = .ok (.goto 4, 3) := by decide +kernel
theorem dX5_followers_12 : decode cX5_followers 12 = .ok (.iconst 1, 1) := by decide +kernel
theorem dX5_followers_13 : decode cX5_followers 13 = .ok (.invokevirtual 67, 3) := by decide +kernel
theorem dX5_followers_16 : decode cX5_followers 16 = .ok (.ifCond .eq 11, 3) := by decide +kernel
theorem dX5_followers_19 : decode cX5_followers 19 = .ok (.aload_n 0, 1) := by decide +kernel
theorem dX5_followers_20 : decode cX5_followers 20 = .ok (.iload_n 1, 1) := by decide +kernel
theorem dX5_followers_21 : decode cX5_followers 21 = .ok (.invokevirtual 49, 3) := by decide +kernel
theorem dX5_followers_24 : decode cX5_followers 24 = .ok (.goto 4, 3) := by decide +kernel
theorem dX5_followers_27 : decode cX5_followers 27 = .ok (.iconst 0, 1) := by decide +kernel
theorem dX5_followers_28 : decode cX5_followers 28 = .ok (.ireturn, 1) := by decide +kernel
set_option maxRecDepth 20000 in
theorem ggX5_isLarge_X5_isOne : GoodIn wsX5_isLarge wsX5_isOne := goodIn_r _ [4, 5, 6, 3, 7] (by decide +kernel) (by decide +kernel)
set_option maxRecDepth 20000 in
theorem gX5_isLarge_X5_isOne : GoodIn wsX5_isLarge (va_wsS RX5 64 yX5_isOne wsX5_isOne) := goodIn_app (goodIn_of _ (by decide +kernel)) ggX5_isLarge_X5_isOne
set_option maxRecDepth 20000 in
theorem ggX5_isLarge_X5_isFine : GoodIn wsX5_isLarge wsX5_isFine := goodIn_r _ [11, 12, 23, 24, 25, 26, 27, 28, 29, 30, 31, 32, 33] (by decide +kernel) (by decide +kernel)
set_option maxRecDepth 20000 in
theorem gX5_isLarge_X5_isFine : GoodIn wsX5_isLarge (wsV RX5 67 RX5 yX5_isFine wsX5_isFine) := goodIn_app (goodIn_of _ (by decide +kernel)) ggX5_isLarge_X5_isFine
set_option maxRecDepth 20000 in
theorem ggX5_isLarge_X5_large : GoodIn wsX5_isLarge wsX5_large := goodIn_r _ [16, 17, 18, 19, 20, 3, 21, 22, 23, 24, 25, 26, 27, 28, 29, 30, 31, 32, 33] (by decide +kernel) (by decide +kernel)
set_option maxRecDepth 20000 in
theorem gX5_isLarge_X5_large : GoodIn wsX5_isLarge (wsV RX5 53 RX5 yX5_large wsX5_large) := goodIn_app (goodIn_of _ (by decide +kernel)) ggX5_isLarge_X5_large
theorem dX5_isLarge_0 : decode cX5_isLarge 0 = .ok (.aload_n 0, 1) := by decide +kernel
theorem dX5_isLarge_1 : decode cX5_isLarge 1 = .ok (.iload_n 1, 1) := by decide +kernel
theorem dX5_isLarge_2 : decode cX5_isLarge 2 = .ok (.invokestatic 64, 3) := by decide +kernel
theorem dX5_isLarge_5 : decode cX5_isLarge 5 = .ok (.ifCond .eq 7, 3) := by decide +kernel
theorem dX5_isLarge_8 : decode cX5_isLarge 8 = .ok (.iconst 0, 1) := by decide +kernel
theorem dX5_isLarge_9 : decode cX5_isLarge 9 = .ok (.goto 4, 3) := by decide +kernel
theorem dX5_isLarge_12 : decode cX5_isLarge 12 = .ok (.iconst 1, 1) := by decide +kernel
theorem dX5_isLarge_13 : decode cX5_isLarge 13 = .ok (.invokevirtual 67, 3) := by decide +kernel
theorem dX5_isLarge_16 : decode cX5_isLarge 16 = .ok (.ifCond .eq 15, 3) := by decide +kernel
theorem dX5_isLarge_19 : decode cX5_isLarge 19 = .ok (.aload_n 0, 1) := by decide +kernel
theorem dX5_isLarge_20 : decode cX5_isLarge 20 = .ok (.iload_n 1, 1) := by decide +kernel
theorem dX5_isLarge_21 : decode cX5_isLarge 21 = .ok (.invokevirtual 53, 3) := by decide +kernel
theorem dX5_isLarge_24 : decode cX5_isLarge 24 = .ok (.ifCond .eq 7, 3) := by decide +kernel
theorem dX5_isLarge_27 : decode cX5_isLarge 27 = .ok (.iconst 1, 1) := by decide +kernel
theorem dX5_isLarge_28 : decode cX5_isLarge 28 = .ok (.goto 4, 3) := by decide +kernel
theorem dX5_isLarge_31 : decode cX5_isLarge 31 = .ok (.iconst 0, 1) := by decide +kernel
theorem dX5_isLarge_32 : decode cX5_isLarge 32 = .ok (.ireturn, 1) := by decide +kernel
set_option maxRecDepth 20000 in
theorem ggX5_inRow_X5_isOne : GoodIn wsX5_inRow wsX5_isOne := goodIn_r _ [4, 5, 6, 3, 7] (by decide +kernel) (by decide +kernel)
set_option maxRecDepth 20000 in
theorem gX5_inRow_X5_isOne : GoodIn wsX5_inRow (va_wsS RX5 64 yX5_isOne wsX5_isOne) := goodIn_app (goodIn_of _ (by decide +kernel)) ggX5_inRow_X5_isOne
set_option maxRecDepth 20000 in
theorem ggX5_inRow_X5_isFine : GoodIn wsX5_inRow wsX5_isFine := goodIn_r _ [11, 12, 35, 36, 37, 38, 39, 40, 41, 42, 43, 44, 45] (by decide +kernel) (by decide +kernel)
set_option maxRecDepth 20000 in
theorem gX5_inRow_X5_isFine : GoodIn wsX5_inRow (wsV RX5 67 RX5 yX5_isFine wsX5_isFine) := goodIn_app (goodIn_of _ (by decide +kernel)) ggX5_inRow_X5_isFine
set_option maxRecDepth 20000 in
theorem ggX5_inRow_X5_rowLength : GoodIn wsX5_inRow wsX5_rowLength := goodIn_r _ [16, 17, 18, 19, 20, 3, 21, 22, 23, 24, 25, 26, 27, 28, 29, 30, 31, 32, 33, 34, 35, 36, 37, 38, 39, 40, 41, 42, 43, 44, 45] (by decide +kernel) (by decide +kernel)
set_option maxRecDepth 20000 in
theorem gX5_inRow_X5_rowLength : GoodIn wsX5_inRow (wsV RX5 61 RX5 yX5_rowLength wsX5_rowLength) := goodIn_app (goodIn_of _ (by decide +kernel)) ggX5_inRow_X5_rowLength
theorem dX5_inRow_0 : decode cX5_inRow 0 = .ok (.aload_n 0, 1) := by decide +kernel
theorem dX5_inRow_1 : decode cX5_inRow 1 = .ok (.iload_n 1, 1) := by decide +kernel
theorem dX5_inRow_2 : decode cX5_inRow 2 = .ok (.invokestatic 64, 3) := by decide +kernel
theorem dX5_inRow_5 : decode cX5_inRow 5 = .ok (.ifCond .eq 7, 3) := by decide +kernel
theorem dX5_inRow_8 : decode cX5_inRow 8 = .ok (.iconst 0, 1) := by decide +kernel
theorem dX5_inRow_9 : decode cX5_inRow 9 = .ok (.goto 4, 3) := by decide +kernel
theorem dX5_inRow_12 : decode cX5_inRow 12 = .ok (.iconst 1, 1) := by decide +kernel
theorem dX5_inRow_13 : decode cX5_inRow 13 = .ok (.invokevirtual 67, 3) := by decide +kernel
theorem dX5_inRow_16 : decode cX5_inRow 16 = .ok (.ifCond .eq 11, 3) := by decide +kernel
theorem dX5_inRow_19 : decode cX5_inRow 19 = .ok (.aload_n 0, 1) := by decide +kernel
theorem dX5_inRow_20 : decode cX5_inRow 20 = .ok (.iload_n 1, 1) := by decide +kernel
theorem dX5_inRow_21 : decode cX5_inRow 21 = .ok (.invokevirtual 61, 3) := by decide +kernel
theorem dX5_inRow_24 : decode cX5_inRow 24 = .ok (.goto 4, 3) := by decide +kernel
theorem dX5_inRow_27 : decode cX5_inRow 27 = .ok (.iconst 0, 1) := by decide +kernel
theorem dX5_inRow_28 : decode cX5_inRow 28 = .ok (.ireturn, 1) := by decide +kernel
set_option maxRecDepth 20000 in
theorem ggX5_rowAt_X5_isOne : GoodIn wsX5_rowAt wsX5_isOne := goodIn_r _ [4, 5, 6, 3, 7] (by decide +kernel) (by decide +kernel)
set_option maxRecDepth 20000 in
theorem gX5_rowAt_X5_isOne : GoodIn wsX5_rowAt (va_wsS RX5 64 yX5_isOne wsX5_isOne) := goodIn_app (goodIn_of _ (by decide +kernel)) ggX5_rowAt_X5_isOne
set_option maxRecDepth 20000 in
theorem ggX5_rowAt_X5_rowLength : GoodIn wsX5_rowAt wsX5_rowLength := goodIn_r _ [11, 12, 13, 14, 15, 3, 16, 17, 18, 19, 20, 21, 22, 23, 24, 25, 26, 27, 28, 29, 35, 36, 37, 38, 39, 40, 41, 42, 43, 44, 45] (by decide +kernel) (by decide +kernel)
set_option maxRecDepth 20000 in
theorem gX5_rowAt_X5_rowLength : GoodIn wsX5_rowAt (wsV RX5 61 RX5 yX5_rowLength wsX5_rowLength) := goodIn_app (goodIn_of _ (by decide +kernel)) ggX5_rowAt_X5_rowLength
set_option maxRecDepth 20000 in
theorem ggX5_rowAt_X5_in : GoodIn wsX5_rowAt wsX5_in := goodIn_r _ [7] (by decide +kernel) (by decide +kernel)
set_option maxRecDepth 20000 in
theorem gX5_rowAt_X5_in : GoodIn wsX5_rowAt (va_wsS RX5 42 yX5_in wsX5_in) := goodIn_app (goodIn_of _ (by decide +kernel)) ggX5_rowAt_X5_in
set_option maxRecDepth 20000 in
theorem ggX5_rowAt_X5_isFine : GoodIn wsX5_rowAt wsX5_isFine := goodIn_r _ [33, 34, 35, 36, 37, 38, 39, 40, 41, 42, 43, 44, 45] (by decide +kernel) (by decide +kernel)
set_option maxRecDepth 20000 in
theorem gX5_rowAt_X5_isFine : GoodIn wsX5_rowAt (wsV RX5 67 RX5 yX5_isFine wsX5_isFine) := goodIn_app (goodIn_of _ (by decide +kernel)) ggX5_rowAt_X5_isFine
set_option maxRecDepth 20000 in
theorem ggX5_rowAt_X5_isInRow : GoodIn wsX5_rowAt wsX5_isInRow := goodIn_r _ [16, 17, 18, 19, 20, 21, 22, 23, 3, 24, 25, 26, 27, 28, 29, 35, 36, 37, 38, 39, 40, 41, 42, 43, 44, 45] (by decide +kernel) (by decide +kernel)
set_option maxRecDepth 20000 in
theorem gX5_rowAt_X5_isInRow : GoodIn wsX5_rowAt (wsV RX5 57 RX5 yX5_isInRow wsX5_isInRow) := goodIn_app (goodIn_of _ (by decide +kernel)) ggX5_rowAt_X5_isInRow
theorem dX5_rowAt_0 : decode cX5_rowAt 0 = .ok (.aload_n 0, 1) := by decide +kernel
theorem dX5_rowAt_1 : decode cX5_rowAt 1 = .ok (.iload_n 1, 1) := by decide +kernel
theorem dX5_rowAt_2 : decode cX5_rowAt 2 = .ok (.invokestatic 64, 3) := by decide +kernel
theorem dX5_rowAt_5 : decode cX5_rowAt 5 = .ok (.ifCond .eq 22, 3) := by decide +kernel
theorem dX5_rowAt_8 : decode cX5_rowAt 8 = .ok (.iload_n 2, 1) := by decide +kernel
theorem dX5_rowAt_9 : decode cX5_rowAt 9 = .ok (.iconst 0, 1) := by decide +kernel
theorem dX5_rowAt_10 : decode cX5_rowAt 10 = .ok (.aload_n 0, 1) := by decide +kernel
theorem dX5_rowAt_11 : decode cX5_rowAt 11 = .ok (.iload_n 1, 1) := by decide +kernel
theorem dX5_rowAt_12 : decode cX5_rowAt 12 = .ok (.invokevirtual 61, 3) := by decide +kernel
theorem dX5_rowAt_15 : decode cX5_rowAt 15 = .ok (.iconst 1, 1) := by decide +kernel
theorem dX5_rowAt_16 : decode cX5_rowAt 16 = .ok (.isub, 1) := by decide +kernel
theorem dX5_rowAt_17 : decode cX5_rowAt 17 = .ok (.invokestatic 42, 3) := by decide +kernel
theorem dX5_rowAt_20 : decode cX5_rowAt 20 = .ok (.ifCond .eq 7, 3) := by decide +kernel
theorem dX5_rowAt_23 : decode cX5_rowAt 23 = .ok (.iconst 0, 1) := by decide +kernel
theorem dX5_rowAt_24 : decode cX5_rowAt 24 = .ok (.goto 4, 3) := by decide +kernel
theorem dX5_rowAt_27 : decode cX5_rowAt 27 = .ok (.iconst 1, 1) := by decide +kernel
theorem dX5_rowAt_28 : decode cX5_rowAt 28 = .ok (.invokevirtual 67, 3) := by decide +kernel
theorem dX5_rowAt_31 : decode cX5_rowAt 31 = .ok (.ifCond .ne 5, 3) := by decide +kernel
theorem dX5_rowAt_34 : decode cX5_rowAt 34 = .ok (.iconst 0, 1) := by decide +kernel
theorem dX5_rowAt_35 : decode cX5_rowAt 35 = .ok (.ireturn, 1) := by decide +kernel
theorem dX5_rowAt_36 : decode cX5_rowAt 36 = .ok (.iload_n 2, 1) := by decide +kernel
theorem dX5_rowAt_37 : decode cX5_rowAt 37 = .ok (.istore_n 3, 1) := by decide +kernel
theorem dX5_rowAt_38 : decode cX5_rowAt 38 = .ok (.iconst 0, 1) := by decide +kernel
theorem dX5_rowAt_39 : decode cX5_rowAt 39 = .ok (.istore 4, 2) := by decide +kernel
theorem dX5_rowAt_41 : decode cX5_rowAt 41 = .ok (.iload_n 3, 1) := by decide +kernel
theorem dX5_rowAt_42 : decode cX5_rowAt 42 = .ok (.ifCond .gt 13, 3) := by decide +kernel
theorem dX5_rowAt_45 : decode cX5_rowAt 45 = .ok (.aload_n 0, 1) := by decide +kernel
theorem dX5_rowAt_46 : decode cX5_rowAt 46 = .ok (.iload_n 1, 1) := by decide +kernel
theorem dX5_rowAt_47 : decode cX5_rowAt 47 = .ok (.iload 4, 2) := by decide +kernel
theorem dX5_rowAt_49 : decode cX5_rowAt 49 = .ok (.invokevirtual 57, 3) := by decide +kernel
theorem dX5_rowAt_52 : decode cX5_rowAt 52 = .ok (.ifCond .ne 27, 3) := by decide +kernel
theorem dX5_rowAt_55 : decode cX5_rowAt 55 = .ok (.iload_n 3, 1) := by decide +kernel
theorem dX5_rowAt_56 : decode cX5_rowAt 56 = .ok (.aload_n 0, 1) := by decide +kernel
theorem dX5_rowAt_57 : decode cX5_rowAt 57 = .ok (.iload_n 1, 1) := by decide +kernel
theorem dX5_rowAt_58 : decode cX5_rowAt 58 = .ok (.iload 4, 2) := by decide +kernel
theorem dX5_rowAt_60 : decode cX5_rowAt 60 = .ok (.invokevirtual 57, 3) := by decide +kernel
theorem dX5_rowAt_63 : decode cX5_rowAt 63 = .ok (.ifCond .eq 7, 3) := by decide +kernel
theorem dX5_rowAt_66 : decode cX5_rowAt 66 = .ok (.iconst 1, 1) := by decide +kernel
theorem dX5_rowAt_67 : decode cX5_rowAt 67 = .ok (.goto 4, 3) := by decide +kernel
theorem dX5_rowAt_70 : decode cX5_rowAt 70 = .ok (.iconst 0, 1) := by decide +kernel
theorem dX5_rowAt_71 : decode cX5_rowAt 71 = .ok (.isub, 1) := by decide +kernel
theorem dX5_rowAt_72 : decode cX5_rowAt 72 = .ok (.istore_n 3, 1) := by decide +kernel
theorem dX5_rowAt_73 : decode cX5_rowAt 73 = .ok (.iinc 4 1, 3) := by decide +kernel
theorem dX5_rowAt_76 : decode cX5_rowAt 76 = .ok (.goto (-35), 3) := by decide +kernel
theorem dX5_rowAt_79 : decode cX5_rowAt 79 = .ok (.iload 4, 2) := by decide +kernel
theorem dX5_rowAt_81 : decode cX5_rowAt 81 = .ok (.ireturn, 1) := by decide +kernel
set_option maxRecDepth 20000 in
theorem ggX5_floorOf_X5_isOne : GoodIn wsX5_floorOf wsX5_isOne := goodIn_r _ [5, 6, 7, 4, 8] (by decide +kernel) (by decide +kernel)
set_option maxRecDepth 20000 in
theorem gX5_floorOf_X5_isOne : GoodIn wsX5_floorOf (va_wsS RX5 64 yX5_isOne wsX5_isOne) := goodIn_app (goodIn_of _ (by decide +kernel)) ggX5_floorOf_X5_isOne
set_option maxRecDepth 20000 in
theorem ggX5_floorOf_X5_isFine : GoodIn wsX5_floorOf wsX5_isFine := goodIn_r _ [12, 13, 14, 15, 16, 17, 18, 19, 20, 21, 22, 23, 24] (by decide +kernel) (by decide +kernel)
set_option maxRecDepth 20000 in
theorem gX5_floorOf_X5_isFine : GoodIn wsX5_floorOf (wsV RX5 67 RX5 yX5_isFine wsX5_isFine) := goodIn_app (goodIn_of _ (by decide +kernel)) ggX5_floorOf_X5_isFine
theorem dX5_floorOf_0 : decode cX5_floorOf 0 = .ok (.aload_n 0, 1) := by decide +kernel
theorem dX5_floorOf_1 : decode cX5_floorOf 1 = .ok (.iload_n 1, 1) := by decide +kernel
theorem dX5_floorOf_2 : decode cX5_floorOf 2 = .ok (.invokestatic 64, 3) := by decide +kernel
theorem dX5_floorOf_5 : decode cX5_floorOf 5 = .ok (.ifCond .eq 7, 3) := by decide +kernel
theorem dX5_floorOf_8 : decode cX5_floorOf 8 = .ok (.iconst 0, 1) := by decide +kernel
theorem dX5_floorOf_9 : decode cX5_floorOf 9 = .ok (.goto 4, 3) := by decide +kernel
theorem dX5_floorOf_12 : decode cX5_floorOf 12 = .ok (.iconst 1, 1) := by decide +kernel
theorem dX5_floorOf_13 : decode cX5_floorOf 13 = .ok (.invokevirtual 67, 3) := by decide +kernel
theorem dX5_floorOf_16 : decode cX5_floorOf 16 = .ok (.ifCond .eq 12, 3) := by decide +kernel
theorem dX5_floorOf_19 : decode cX5_floorOf 19 = .ok (.aload_n 0, 1) := by decide +kernel
theorem dX5_floorOf_20 : decode cX5_floorOf 20 = .ok (.getfield 36, 3) := by decide +kernel
theorem dX5_floorOf_23 : decode cX5_floorOf 23 = .ok (.iload_n 1, 1) := by decide +kernel
theorem dX5_floorOf_24 : decode cX5_floorOf 24 = .ok (.iaload, 1) := by decide +kernel
theorem dX5_floorOf_25 : decode cX5_floorOf 25 = .ok (.goto 4, 3) := by decide +kernel
theorem dX5_floorOf_28 : decode cX5_floorOf 28 = .ok (.iconst 0, 1) := by decide +kernel
theorem dX5_floorOf_29 : decode cX5_floorOf 29 = .ok (.ireturn, 1) := by decide +kernel
theorem dX5_isDue_0 : decode cX5_isDue 0 = .ok (.aload_n 0, 1) := by decide +kernel
theorem dX5_isDue_1 : decode cX5_isDue 1 = .ok (.getfield 19, 3) := by decide +kernel
theorem dX5_isDue_4 : decode cX5_isDue 4 = .ok (.iload_n 2, 1) := by decide +kernel
theorem dX5_isDue_5 : decode cX5_isDue 5 = .ok (.iaload, 1) := by decide +kernel
theorem dX5_isDue_6 : decode cX5_isDue 6 = .ok (.istore_n 3, 1) := by decide +kernel
theorem dX5_isDue_7 : decode cX5_isDue 7 = .ok (.aload_n 0, 1) := by decide +kernel
theorem dX5_isDue_8 : decode cX5_isDue 8 = .ok (.getfield 19, 3) := by decide +kernel
theorem dX5_isDue_11 : decode cX5_isDue 11 = .ok (.aload_n 0, 1) := by decide +kernel
theorem dX5_isDue_12 : decode cX5_isDue 12 = .ok (.getfield 23, 3) := by decide +kernel
theorem dX5_isDue_15 : decode cX5_isDue 15 = .ok (.iload_n 2, 1) := by decide +kernel
theorem dX5_isDue_16 : decode cX5_isDue 16 = .ok (.iaload, 1) := by decide +kernel
theorem dX5_isDue_17 : decode cX5_isDue 17 = .ok (.iaload, 1) := by decide +kernel
theorem dX5_isDue_18 : decode cX5_isDue 18 = .ok (.istore 4, 2) := by decide +kernel
theorem dX5_isDue_20 : decode cX5_isDue 20 = .ok (.aload_n 0, 1) := by decide +kernel
theorem dX5_isDue_21 : decode cX5_isDue 21 = .ok (.getfield 7, 3) := by decide +kernel
theorem dX5_isDue_24 : decode cX5_isDue 24 = .ok (.bipush 8, 2) := by decide +kernel
theorem dX5_isDue_26 : decode cX5_isDue 26 = .ok (.iload_n 1, 1) := by decide +kernel
theorem dX5_isDue_27 : decode cX5_isDue 27 = .ok (.imul, 1) := by decide +kernel
theorem dX5_isDue_28 : decode cX5_isDue 28 = .ok (.iload_n 3, 1) := by decide +kernel
theorem dX5_isDue_29 : decode cX5_isDue 29 = .ok (.iadd, 1) := by decide +kernel
theorem dX5_isDue_30 : decode cX5_isDue 30 = .ok (.baload, 1) := by decide +kernel
theorem dX5_isDue_31 : decode cX5_isDue 31 = .ok (.ifCond .eq 31, 3) := by decide +kernel
theorem dX5_isDue_34 : decode cX5_isDue 34 = .ok (.aload_n 0, 1) := by decide +kernel
theorem dX5_isDue_35 : decode cX5_isDue 35 = .ok (.getfield 13, 3) := by decide +kernel
theorem dX5_isDue_38 : decode cX5_isDue 38 = .ok (.bipush 8, 2) := by decide +kernel
theorem dX5_isDue_40 : decode cX5_isDue 40 = .ok (.iload_n 1, 1) := by decide +kernel
theorem dX5_isDue_41 : decode cX5_isDue 41 = .ok (.imul, 1) := by decide +kernel
theorem dX5_isDue_42 : decode cX5_isDue 42 = .ok (.iload_n 3, 1) := by decide +kernel
theorem dX5_isDue_43 : decode cX5_isDue 43 = .ok (.iadd, 1) := by decide +kernel
theorem dX5_isDue_44 : decode cX5_isDue 44 = .ok (.baload, 1) := by decide +kernel
theorem dX5_isDue_45 : decode cX5_isDue 45 = .ok (.ifCond .ne 17, 3) := by decide +kernel
theorem dX5_isDue_48 : decode cX5_isDue 48 = .ok (.iload_n 2, 1) := by decide +kernel
theorem dX5_isDue_49 : decode cX5_isDue 49 = .ok (.aload_n 0, 1) := by decide +kernel
theorem dX5_isDue_50 : decode cX5_isDue 50 = .ok (.getfield 36, 3) := by decide +kernel
theorem dX5_isDue_53 : decode cX5_isDue 53 = .ok (.iload_n 1, 1) := by decide +kernel
theorem dX5_isDue_54 : decode cX5_isDue 54 = .ok (.iaload, 1) := by decide +kernel
theorem dX5_isDue_55 : decode cX5_isDue 55 = .ok (.if_icmp .le 7, 3) := by decide +kernel
theorem dX5_isDue_58 : decode cX5_isDue 58 = .ok (.iconst 1, 1) := by decide +kernel
theorem dX5_isDue_59 : decode cX5_isDue 59 = .ok (.goto 4, 3) := by decide +kernel
theorem dX5_isDue_62 : decode cX5_isDue 62 = .ok (.iconst 0, 1) := by decide +kernel
theorem dX5_isDue_63 : decode cX5_isDue 63 = .ok (.istore 5, 2) := by decide +kernel
theorem dX5_isDue_65 : decode cX5_isDue 65 = .ok (.iload 5, 2) := by decide +kernel
theorem dX5_isDue_67 : decode cX5_isDue 67 = .ok (.ifCond .eq 30, 3) := by decide +kernel
theorem dX5_isDue_70 : decode cX5_isDue 70 = .ok (.aload_n 0, 1) := by decide +kernel
theorem dX5_isDue_71 : decode cX5_isDue 71 = .ok (.getfield 26, 3) := by decide +kernel
theorem dX5_isDue_74 : decode cX5_isDue 74 = .ok (.iload_n 2, 1) := by decide +kernel
theorem dX5_isDue_75 : decode cX5_isDue 75 = .ok (.baload, 1) := by decide +kernel
theorem dX5_isDue_76 : decode cX5_isDue 76 = .ok (.ifCond .ne 21, 3) := by decide +kernel
theorem dX5_isDue_79 : decode cX5_isDue 79 = .ok (.aload_n 0, 1) := by decide +kernel
theorem dX5_isDue_80 : decode cX5_isDue 80 = .ok (.getfield 26, 3) := by decide +kernel
theorem dX5_isDue_83 : decode cX5_isDue 83 = .ok (.aload_n 0, 1) := by decide +kernel
theorem dX5_isDue_84 : decode cX5_isDue 84 = .ok (.getfield 23, 3) := by decide +kernel
theorem dX5_isDue_87 : decode cX5_isDue 87 = .ok (.iload_n 2, 1) := by decide +kernel
theorem dX5_isDue_88 : decode cX5_isDue 88 = .ok (.iaload, 1) := by decide +kernel
theorem dX5_isDue_89 : decode cX5_isDue 89 = .ok (.baload, 1) := by decide +kernel
theorem dX5_isDue_90 : decode cX5_isDue 90 = .ok (.ifCond .ne 7, 3) := by decide +kernel
theorem dX5_isDue_93 : decode cX5_isDue 93 = .ok (.iconst 1, 1) := by decide +kernel
theorem dX5_isDue_94 : decode cX5_isDue 94 = .ok (.goto 4, 3) := by decide +kernel
theorem dX5_isDue_97 : decode cX5_isDue 97 = .ok (.iconst 0, 1) := by decide +kernel
theorem dX5_isDue_98 : decode cX5_isDue 98 = .ok (.istore 5, 2) := by decide +kernel
theorem dX5_isDue_100 : decode cX5_isDue 100 = .ok (.iload 5, 2) := by decide +kernel
theorem dX5_isDue_102 : decode cX5_isDue 102 = .ok (.ifCond .eq 37, 3) := by decide +kernel
theorem dX5_isDue_105 : decode cX5_isDue 105 = .ok (.aload_n 0, 1) := by decide +kernel
theorem dX5_isDue_106 : decode cX5_isDue 106 = .ok (.getfield 13, 3) := by decide +kernel
theorem dX5_isDue_109 : decode cX5_isDue 109 = .ok (.bipush 8, 2) := by decide +kernel
theorem dX5_isDue_111 : decode cX5_isDue 111 = .ok (.iload_n 1, 1) := by decide +kernel
theorem dX5_isDue_112 : decode cX5_isDue 112 = .ok (.imul, 1) := by decide +kernel
theorem dX5_isDue_113 : decode cX5_isDue 113 = .ok (.iload 4, 2) := by decide +kernel
theorem dX5_isDue_115 : decode cX5_isDue 115 = .ok (.iadd, 1) := by decide +kernel
theorem dX5_isDue_116 : decode cX5_isDue 116 = .ok (.baload, 1) := by decide +kernel
theorem dX5_isDue_117 : decode cX5_isDue 117 = .ok (.ifCond .ne 22, 3) := by decide +kernel
theorem dX5_isDue_120 : decode cX5_isDue 120 = .ok (.aload_n 0, 1) := by decide +kernel
theorem dX5_isDue_121 : decode cX5_isDue 121 = .ok (.getfield 16, 3) := by decide +kernel
theorem dX5_isDue_124 : decode cX5_isDue 124 = .ok (.bipush 8, 2) := by decide +kernel
theorem dX5_isDue_126 : decode cX5_isDue 126 = .ok (.iload 4, 2) := by decide +kernel
theorem dX5_isDue_128 : decode cX5_isDue 128 = .ok (.imul, 1) := by decide +kernel
theorem dX5_isDue_129 : decode cX5_isDue 129 = .ok (.iload_n 1, 1) := by decide +kernel
theorem dX5_isDue_130 : decode cX5_isDue 130 = .ok (.iadd, 1) := by decide +kernel
theorem dX5_isDue_131 : decode cX5_isDue 131 = .ok (.baload, 1) := by decide +kernel
theorem dX5_isDue_132 : decode cX5_isDue 132 = .ok (.ifCond .ne 7, 3) := by decide +kernel
theorem dX5_isDue_135 : decode cX5_isDue 135 = .ok (.iconst 1, 1) := by decide +kernel
theorem dX5_isDue_136 : decode cX5_isDue 136 = .ok (.goto 4, 3) := by decide +kernel
theorem dX5_isDue_139 : decode cX5_isDue 139 = .ok (.iconst 0, 1) := by decide +kernel
theorem dX5_isDue_140 : decode cX5_isDue 140 = .ok (.ireturn, 1) := by decide +kernel
set_option maxRecDepth 20000 in
theorem ggX5_isShown_X5_isDue : GoodIn wsX5_isShown wsX5_isDue := goodIn_r _ [7, 8, 2, 9, 10, 11, 12, 13, 14, 15, 16, 17, 18, 19, 20, 21, 22, 23, 24] (by decide +kernel) (by decide +kernel)
set_option maxRecDepth 20000 in
theorem gX5_isShown_X5_isDue : GoodIn wsX5_isShown (wsV RX5 80 RX5 yX5_isDue wsX5_isDue) := goodIn_app (goodIn_of _ (by decide +kernel)) ggX5_isShown_X5_isDue
theorem dX5_isShown_0 : decode cX5_isShown 0 = .ok (.aload_n 0, 1) := by decide +kernel
theorem dX5_isShown_1 : decode cX5_isShown 1 = .ok (.iload_n 1, 1) := by decide +kernel
theorem dX5_isShown_2 : decode cX5_isShown 2 = .ok (.iload_n 2, 1) := by decide +kernel
theorem dX5_isShown_3 : decode cX5_isShown 3 = .ok (.invokevirtual 80, 3) := by decide +kernel
theorem dX5_isShown_6 : decode cX5_isShown 6 = .ok (.istore_n 3, 1) := by decide +kernel
theorem dX5_isShown_7 : decode cX5_isShown 7 = .ok (.iload_n 2, 1) := by decide +kernel
theorem dX5_isShown_8 : decode cX5_isShown 8 = .ok (.iconst 1, 1) := by decide +kernel
theorem dX5_isShown_9 : decode cX5_isShown 9 = .ok (.iadd, 1) := by decide +kernel
theorem dX5_isShown_10 : decode cX5_isShown 10 = .ok (.istore 4, 2) := by decide +kernel
theorem dX5_isShown_12 : decode cX5_isShown 12 = .ok (.iload 4, 2) := by decide +kernel
theorem dX5_isShown_14 : decode cX5_isShown 14 = .ok (.aload_n 0, 1) := by decide +kernel
theorem dX5_isShown_15 : decode cX5_isShown 15 = .ok (.getfield 46, 3) := by decide +kernel
theorem dX5_isShown_18 : decode cX5_isShown 18 = .ok (.if_icmp .ge 45, 3) := by decide +kernel
theorem dX5_isShown_21 : decode cX5_isShown 21 = .ok (.iload_n 3, 1) := by decide +kernel
theorem dX5_isShown_22 : decode cX5_isShown 22 = .ok (.ifCond .eq 41, 3) := by decide +kernel
theorem dX5_isShown_25 : decode cX5_isShown 25 = .ok (.aload_n 0, 1) := by decide +kernel
theorem dX5_isShown_26 : decode cX5_isShown 26 = .ok (.getfield 23, 3) := by decide +kernel
theorem dX5_isShown_29 : decode cX5_isShown 29 = .ok (.iload 4, 2) := by decide +kernel
theorem dX5_isShown_31 : decode cX5_isShown 31 = .ok (.iaload, 1) := by decide +kernel
theorem dX5_isShown_32 : decode cX5_isShown 32 = .ok (.aload_n 0, 1) := by decide +kernel
theorem dX5_isShown_33 : decode cX5_isShown 33 = .ok (.getfield 23, 3) := by decide +kernel
theorem dX5_isShown_36 : decode cX5_isShown 36 = .ok (.iload_n 2, 1) := by decide +kernel
theorem dX5_isShown_37 : decode cX5_isShown 37 = .ok (.iaload, 1) := by decide +kernel
theorem dX5_isShown_38 : decode cX5_isShown 38 = .ok (.if_icmp .ne 13, 3) := by decide +kernel
theorem dX5_isShown_41 : decode cX5_isShown 41 = .ok (.aload_n 0, 1) := by decide +kernel
theorem dX5_isShown_42 : decode cX5_isShown 42 = .ok (.iload_n 1, 1) := by decide +kernel
theorem dX5_isShown_43 : decode cX5_isShown 43 = .ok (.iload 4, 2) := by decide +kernel
theorem dX5_isShown_45 : decode cX5_isShown 45 = .ok (.invokevirtual 80, 3) := by decide +kernel
theorem dX5_isShown_48 : decode cX5_isShown 48 = .ok (.ifCond .ne 7, 3) := by decide +kernel
theorem dX5_isShown_51 : decode cX5_isShown 51 = .ok (.iconst 1, 1) := by decide +kernel
theorem dX5_isShown_52 : decode cX5_isShown 52 = .ok (.goto 4, 3) := by decide +kernel
theorem dX5_isShown_55 : decode cX5_isShown 55 = .ok (.iconst 0, 1) := by decide +kernel
theorem dX5_isShown_56 : decode cX5_isShown 56 = .ok (.istore_n 3, 1) := by decide +kernel
theorem dX5_isShown_57 : decode cX5_isShown 57 = .ok (.iinc 4 1, 3) := by decide +kernel
theorem dX5_isShown_60 : decode cX5_isShown 60 = .ok (.goto (-48), 3) := by decide +kernel
theorem dX5_isShown_63 : decode cX5_isShown 63 = .ok (.iload_n 3, 1) := by decide +kernel
theorem dX5_isShown_64 : decode cX5_isShown 64 = .ok (.ireturn, 1) := by decide +kernel
set_option maxRecDepth 20000 in
theorem ggX5_shows_X5_isOne : GoodIn wsX5_shows wsX5_isOne := goodIn_r _ [4, 5, 6, 3, 7] (by decide +kernel) (by decide +kernel)
set_option maxRecDepth 20000 in
theorem gX5_shows_X5_isOne : GoodIn wsX5_shows (va_wsS RX5 64 yX5_isOne wsX5_isOne) := goodIn_app (goodIn_of _ (by decide +kernel)) ggX5_shows_X5_isOne
set_option maxRecDepth 20000 in
theorem ggX5_shows_X5_isEntry : GoodIn wsX5_shows wsX5_isEntry := goodIn_r _ [11, 12, 5, 6, 3, 7, 33, 34, 35, 36, 37, 38, 39, 40, 41, 42, 43] (by decide +kernel) (by decide +kernel)
set_option maxRecDepth 20000 in
theorem gX5_shows_X5_isEntry : GoodIn wsX5_shows (wsV RX5 77 RX5 yX5_isEntry wsX5_isEntry) := goodIn_app (goodIn_of _ (by decide +kernel)) ggX5_shows_X5_isEntry
set_option maxRecDepth 20000 in
theorem ggX5_shows_X5_isFine : GoodIn wsX5_shows wsX5_isFine := goodIn_r _ [16, 17, 33, 34, 35, 36, 37, 38, 39, 40, 41, 42, 43] (by decide +kernel) (by decide +kernel)
set_option maxRecDepth 20000 in
theorem gX5_shows_X5_isFine : GoodIn wsX5_shows (wsV RX5 67 RX5 yX5_isFine wsX5_isFine) := goodIn_app (goodIn_of _ (by decide +kernel)) ggX5_shows_X5_isFine
set_option maxRecDepth 20000 in
theorem ggX5_shows_X5_isShown : GoodIn wsX5_shows wsX5_isShown := goodIn_r _ [21, 12, 22, 23, 24, 25, 3, 26, 27, 28, 29, 30, 31, 32, 33, 34, 35, 36, 37, 38, 39, 40, 41, 42, 43] (by decide +kernel) (by decide +kernel)
set_option maxRecDepth 20000 in
theorem gX5_shows_X5_isShown : GoodIn wsX5_shows (wsV RX5 83 RX5 yX5_isShown wsX5_isShown) := goodIn_app (goodIn_of _ (by decide +kernel)) ggX5_shows_X5_isShown
theorem dX5_shows_0 : decode cX5_shows 0 = .ok (.aload_n 0, 1) := by decide +kernel
theorem dX5_shows_1 : decode cX5_shows 1 = .ok (.iload_n 1, 1) := by decide +kernel
theorem dX5_shows_2 : decode cX5_shows 2 = .ok (.invokestatic 64, 3) := by decide +kernel
theorem dX5_shows_5 : decode cX5_shows 5 = .ok (.ifCond .eq 15, 3) := by decide +kernel
theorem dX5_shows_8 : decode cX5_shows 8 = .ok (.aload_n 0, 1) := by decide +kernel
theorem dX5_shows_9 : decode cX5_shows 9 = .ok (.iload_n 2, 1) := by decide +kernel
theorem dX5_shows_10 : decode cX5_shows 10 = .ok (.invokevirtual 77, 3) := by decide +kernel
theorem dX5_shows_13 : decode cX5_shows 13 = .ok (.ifCond .eq 7, 3) := by decide +kernel
theorem dX5_shows_16 : decode cX5_shows 16 = .ok (.iconst 0, 1) := by decide +kernel
theorem dX5_shows_17 : decode cX5_shows 17 = .ok (.goto 4, 3) := by decide +kernel
theorem dX5_shows_20 : decode cX5_shows 20 = .ok (.iconst 1, 1) := by decide +kernel
theorem dX5_shows_21 : decode cX5_shows 21 = .ok (.invokevirtual 67, 3) := by decide +kernel
theorem dX5_shows_24 : decode cX5_shows 24 = .ok (.ifCond .eq 16, 3) := by decide +kernel
theorem dX5_shows_27 : decode cX5_shows 27 = .ok (.aload_n 0, 1) := by decide +kernel
theorem dX5_shows_28 : decode cX5_shows 28 = .ok (.iload_n 1, 1) := by decide +kernel
theorem dX5_shows_29 : decode cX5_shows 29 = .ok (.iload_n 2, 1) := by decide +kernel
theorem dX5_shows_30 : decode cX5_shows 30 = .ok (.invokevirtual 83, 3) := by decide +kernel
theorem dX5_shows_33 : decode cX5_shows 33 = .ok (.ifCond .eq 7, 3) := by decide +kernel
theorem dX5_shows_36 : decode cX5_shows 36 = .ok (.iconst 1, 1) := by decide +kernel
theorem dX5_shows_37 : decode cX5_shows 37 = .ok (.goto 4, 3) := by decide +kernel
theorem dX5_shows_40 : decode cX5_shows 40 = .ok (.iconst 0, 1) := by decide +kernel
theorem dX5_shows_41 : decode cX5_shows 41 = .ok (.ireturn, 1) := by decide +kernel
set_option maxRecDepth 20000 in
theorem ggX5_nextBelow_X5_isShown : GoodIn wsX5_nextBelow wsX5_isShown := goodIn_r _ [6, 1, 7, 8, 9, 10, 5, 11, 12, 13, 14, 15, 16, 17, 18, 19, 20, 21, 22, 23, 24, 25, 26, 27, 28] (by decide +kernel) (by decide +kernel)
set_option maxRecDepth 20000 in
theorem gX5_nextBelow_X5_isShown : GoodIn wsX5_nextBelow (wsV RX5 83 RX5 yX5_isShown wsX5_isShown) := goodIn_app (goodIn_of _ (by decide +kernel)) ggX5_nextBelow_X5_isShown
theorem dX5_nextBelow_0 : decode cX5_nextBelow 0 = .ok (.iload_n 2, 1) := by decide +kernel
theorem dX5_nextBelow_1 : decode cX5_nextBelow 1 = .ok (.aload_n 0, 1) := by decide +kernel
theorem dX5_nextBelow_2 : decode cX5_nextBelow 2 = .ok (.getfield 46, 3) := by decide +kernel
theorem dX5_nextBelow_5 : decode cX5_nextBelow 5 = .ok (.if_icmp .ge 7, 3) := by decide +kernel
theorem dX5_nextBelow_8 : decode cX5_nextBelow 8 = .ok (.iload_n 2, 1) := by decide +kernel
theorem dX5_nextBelow_9 : decode cX5_nextBelow 9 = .ok (.goto 7, 3) := by decide +kernel
theorem dX5_nextBelow_12 : decode cX5_nextBelow 12 = .ok (.aload_n 0, 1) := by decide +kernel
theorem dX5_nextBelow_13 : decode cX5_nextBelow 13 = .ok (.getfield 46, 3) := by decide +kernel
theorem dX5_nextBelow_16 : decode cX5_nextBelow 16 = .ok (.iconst 1, 1) := by decide +kernel
theorem dX5_nextBelow_17 : decode cX5_nextBelow 17 = .ok (.isub, 1) := by decide +kernel
theorem dX5_nextBelow_18 : decode cX5_nextBelow 18 = .ok (.istore_n 3, 1) := by decide +kernel
theorem dX5_nextBelow_19 : decode cX5_nextBelow 19 = .ok (.iload_n 3, 1) := by decide +kernel
theorem dX5_nextBelow_20 : decode cX5_nextBelow 20 = .ok (.ifCond .lt 18, 3) := by decide +kernel
theorem dX5_nextBelow_23 : decode cX5_nextBelow 23 = .ok (.aload_n 0, 1) := by decide +kernel
theorem dX5_nextBelow_24 : decode cX5_nextBelow 24 = .ok (.iload_n 1, 1) := by decide +kernel
theorem dX5_nextBelow_25 : decode cX5_nextBelow 25 = .ok (.iload_n 3, 1) := by decide +kernel
theorem dX5_nextBelow_26 : decode cX5_nextBelow 26 = .ok (.invokevirtual 83, 3) := by decide +kernel
theorem dX5_nextBelow_29 : decode cX5_nextBelow 29 = .ok (.ifCond .ne 9, 3) := by decide +kernel
theorem dX5_nextBelow_32 : decode cX5_nextBelow 32 = .ok (.iinc 3 (-1), 3) := by decide +kernel
theorem dX5_nextBelow_35 : decode cX5_nextBelow 35 = .ok (.goto (-16), 3) := by decide +kernel
theorem dX5_nextBelow_38 : decode cX5_nextBelow 38 = .ok (.iload_n 3, 1) := by decide +kernel
theorem dX5_nextBelow_39 : decode cX5_nextBelow 39 = .ok (.ireturn, 1) := by decide +kernel
set_option maxRecDepth 20000 in
theorem ggX5_next_X5_isOne : GoodIn wsX5_next wsX5_isOne := goodIn_r _ [4, 5, 6, 3, 7] (by decide +kernel) (by decide +kernel)
set_option maxRecDepth 20000 in
theorem gX5_next_X5_isOne : GoodIn wsX5_next (va_wsS RX5 64 yX5_isOne wsX5_isOne) := goodIn_app (goodIn_of _ (by decide +kernel)) ggX5_next_X5_isOne
set_option maxRecDepth 20000 in
theorem ggX5_next_X5_in : GoodIn wsX5_next wsX5_in := goodIn_r _ [7] (by decide +kernel) (by decide +kernel)
set_option maxRecDepth 20000 in
theorem gX5_next_X5_in : GoodIn wsX5_next (va_wsS RX5 42 yX5_in wsX5_in) := goodIn_app (goodIn_of _ (by decide +kernel)) ggX5_next_X5_in
set_option maxRecDepth 20000 in
theorem ggX5_next_X5_isFine : GoodIn wsX5_next wsX5_isFine := goodIn_r _ [11, 12, 33, 34, 35, 36, 37, 38, 39, 40, 41, 42, 43] (by decide +kernel) (by decide +kernel)
set_option maxRecDepth 20000 in
theorem gX5_next_X5_isFine : GoodIn wsX5_next (wsV RX5 67 RX5 yX5_isFine wsX5_isFine) := goodIn_app (goodIn_of _ (by decide +kernel)) ggX5_next_X5_isFine
set_option maxRecDepth 20000 in
theorem ggX5_next_X5_nextBelow : GoodIn wsX5_next wsX5_nextBelow := goodIn_r _ [16, 17, 18, 19, 20, 3, 21, 22, 23, 24, 25, 26, 27, 28, 29, 30, 31, 32, 33, 34, 35, 36, 37, 38, 39, 40, 41, 42, 43] (by decide +kernel) (by decide +kernel)
set_option maxRecDepth 20000 in
theorem gX5_next_X5_nextBelow : GoodIn wsX5_next (wsV RX5 86 RX5 yX5_nextBelow wsX5_nextBelow) := goodIn_app (goodIn_of _ (by decide +kernel)) ggX5_next_X5_nextBelow
theorem dX5_next_0 : decode cX5_next 0 = .ok (.aload_n 0, 1) := by decide +kernel
theorem dX5_next_1 : decode cX5_next 1 = .ok (.iload_n 1, 1) := by decide +kernel
theorem dX5_next_2 : decode cX5_next 2 = .ok (.invokestatic 64, 3) := by decide +kernel
theorem dX5_next_5 : decode cX5_next 5 = .ok (.ifCond .ne 7, 3) := by decide +kernel
theorem dX5_next_8 : decode cX5_next 8 = .ok (.iconst 1, 1) := by decide +kernel
theorem dX5_next_9 : decode cX5_next 9 = .ok (.goto 19, 3) := by decide +kernel
theorem dX5_next_12 : decode cX5_next 12 = .ok (.iload_n 2, 1) := by decide +kernel
theorem dX5_next_13 : decode cX5_next 13 = .ok (.iconst 0, 1) := by decide +kernel
theorem dX5_next_14 : decode cX5_next 14 = .ok (.sipush 150, 3) := by decide +kernel
theorem dX5_next_17 : decode cX5_next 17 = .ok (.invokestatic 42, 3) := by decide +kernel
theorem dX5_next_20 : decode cX5_next 20 = .ok (.ifCond .ne 7, 3) := by decide +kernel
theorem dX5_next_23 : decode cX5_next 23 = .ok (.iconst 2, 1) := by decide +kernel
theorem dX5_next_24 : decode cX5_next 24 = .ok (.goto 4, 3) := by decide +kernel
theorem dX5_next_27 : decode cX5_next 27 = .ok (.iconst 0, 1) := by decide +kernel
theorem dX5_next_28 : decode cX5_next 28 = .ok (.invokevirtual 67, 3) := by decide +kernel
theorem dX5_next_31 : decode cX5_next 31 = .ok (.ifCond .eq 12, 3) := by decide +kernel
theorem dX5_next_34 : decode cX5_next 34 = .ok (.aload_n 0, 1) := by decide +kernel
theorem dX5_next_35 : decode cX5_next 35 = .ok (.iload_n 1, 1) := by decide +kernel
theorem dX5_next_36 : decode cX5_next 36 = .ok (.iload_n 2, 1) := by decide +kernel
theorem dX5_next_37 : decode cX5_next 37 = .ok (.invokevirtual 86, 3) := by decide +kernel
theorem dX5_next_40 : decode cX5_next 40 = .ok (.goto 4, 3) := by decide +kernel
theorem dX5_next_43 : decode cX5_next 43 = .ok (.iconst 0, 1) := by decide +kernel
theorem dX5_next_44 : decode cX5_next 44 = .ok (.ireturn, 1) := by decide +kernel
set_option maxRecDepth 20000 in
theorem ggX5_pageEnd_X5_isOne : GoodIn wsX5_pageEnd wsX5_isOne := goodIn_r _ [4, 5, 6, 3, 7] (by decide +kernel) (by decide +kernel)
set_option maxRecDepth 20000 in
theorem gX5_pageEnd_X5_isOne : GoodIn wsX5_pageEnd (va_wsS RX5 64 yX5_isOne wsX5_isOne) := goodIn_app (goodIn_of _ (by decide +kernel)) ggX5_pageEnd_X5_isOne
set_option maxRecDepth 20000 in
theorem ggX5_pageEnd_X5_in : GoodIn wsX5_pageEnd wsX5_in := goodIn_r _ [7] (by decide +kernel) (by decide +kernel)
set_option maxRecDepth 20000 in
theorem gX5_pageEnd_X5_in : GoodIn wsX5_pageEnd (va_wsS RX5 42 yX5_in wsX5_in) := goodIn_app (goodIn_of _ (by decide +kernel)) ggX5_pageEnd_X5_in
set_option maxRecDepth 20000 in
theorem ggX5_pageEnd_X5_isFine : GoodIn wsX5_pageEnd wsX5_isFine := goodIn_r _ [11, 12, 33, 34, 35, 36, 37, 38, 39, 40, 41, 42, 43] (by decide +kernel) (by decide +kernel)
set_option maxRecDepth 20000 in
theorem gX5_pageEnd_X5_isFine : GoodIn wsX5_pageEnd (wsV RX5 67 RX5 yX5_isFine wsX5_isFine) := goodIn_app (goodIn_of _ (by decide +kernel)) ggX5_pageEnd_X5_isFine
set_option maxRecDepth 20000 in
theorem ggX5_pageEnd_X5_nextBelow : GoodIn wsX5_pageEnd wsX5_nextBelow := goodIn_r _ [16, 17, 18, 19, 20, 3, 21, 22, 23, 24, 25, 26, 27, 28, 29, 30, 31, 32, 33, 34, 35, 36, 37, 38, 39, 40, 41, 42, 43] (by decide +kernel) (by decide +kernel)
set_option maxRecDepth 20000 in
theorem gX5_pageEnd_X5_nextBelow : GoodIn wsX5_pageEnd (wsV RX5 86 RX5 yX5_nextBelow wsX5_nextBelow) := goodIn_app (goodIn_of _ (by decide +kernel)) ggX5_pageEnd_X5_nextBelow
theorem dX5_pageEnd_0 : decode cX5_pageEnd 0 = .ok (.aload_n 0, 1) := by decide +kernel
theorem dX5_pageEnd_1 : decode cX5_pageEnd 1 = .ok (.iload_n 1, 1) := by decide +kernel
theorem dX5_pageEnd_2 : decode cX5_pageEnd 2 = .ok (.invokestatic 64, 3) := by decide +kernel
theorem dX5_pageEnd_5 : decode cX5_pageEnd 5 = .ok (.ifCond .ne 7, 3) := by decide +kernel
theorem dX5_pageEnd_8 : decode cX5_pageEnd 8 = .ok (.iconst 1, 1) := by decide +kernel
theorem dX5_pageEnd_9 : decode cX5_pageEnd 9 = .ok (.goto 29, 3) := by decide +kernel
theorem dX5_pageEnd_12 : decode cX5_pageEnd 12 = .ok (.iload_n 2, 1) := by decide +kernel
theorem dX5_pageEnd_13 : decode cX5_pageEnd 13 = .ok (.iconst 0, 1) := by decide +kernel
theorem dX5_pageEnd_14 : decode cX5_pageEnd 14 = .ok (.sipush 150, 3) := by decide +kernel
theorem dX5_pageEnd_17 : decode cX5_pageEnd 17 = .ok (.invokestatic 42, 3) := by decide +kernel
theorem dX5_pageEnd_20 : decode cX5_pageEnd 20 = .ok (.ifCond .eq 13, 3) := by decide +kernel
theorem dX5_pageEnd_23 : decode cX5_pageEnd 23 = .ok (.iload_n 3, 1) := by decide +kernel
theorem dX5_pageEnd_24 : decode cX5_pageEnd 24 = .ok (.iconst 1, 1) := by decide +kernel
theorem dX5_pageEnd_25 : decode cX5_pageEnd 25 = .ok (.bipush 20, 2) := by decide +kernel
theorem dX5_pageEnd_27 : decode cX5_pageEnd 27 = .ok (.invokestatic 42, 3) := by decide +kernel
theorem dX5_pageEnd_30 : decode cX5_pageEnd 30 = .ok (.ifCond .ne 7, 3) := by decide +kernel
theorem dX5_pageEnd_33 : decode cX5_pageEnd 33 = .ok (.iconst 2, 1) := by decide +kernel
theorem dX5_pageEnd_34 : decode cX5_pageEnd 34 = .ok (.goto 4, 3) := by decide +kernel
theorem dX5_pageEnd_37 : decode cX5_pageEnd 37 = .ok (.iconst 0, 1) := by decide +kernel
theorem dX5_pageEnd_38 : decode cX5_pageEnd 38 = .ok (.invokevirtual 67, 3) := by decide +kernel
theorem dX5_pageEnd_41 : decode cX5_pageEnd 41 = .ok (.ifCond .ne 5, 3) := by decide +kernel
theorem dX5_pageEnd_44 : decode cX5_pageEnd 44 = .ok (.iconst 0, 1) := by decide +kernel
theorem dX5_pageEnd_45 : decode cX5_pageEnd 45 = .ok (.ireturn, 1) := by decide +kernel
theorem dX5_pageEnd_46 : decode cX5_pageEnd 46 = .ok (.iconst (-1), 1) := by decide +kernel
theorem dX5_pageEnd_47 : decode cX5_pageEnd 47 = .ok (.istore 4, 2) := by decide +kernel
theorem dX5_pageEnd_49 : decode cX5_pageEnd 49 = .ok (.aload_n 0, 1) := by decide +kernel
theorem dX5_pageEnd_50 : decode cX5_pageEnd 50 = .ok (.iload_n 1, 1) := by decide +kernel
theorem dX5_pageEnd_51 : decode cX5_pageEnd 51 = .ok (.iload_n 2, 1) := by decide +kernel
theorem dX5_pageEnd_52 : decode cX5_pageEnd 52 = .ok (.invokevirtual 86, 3) := by decide +kernel
theorem dX5_pageEnd_55 : decode cX5_pageEnd 55 = .ok (.istore 5, 2) := by decide +kernel
theorem dX5_pageEnd_57 : decode cX5_pageEnd 57 = .ok (.iconst 0, 1) := by decide +kernel
theorem dX5_pageEnd_58 : decode cX5_pageEnd 58 = .ok (.istore 6, 2) := by decide +kernel
theorem dX5_pageEnd_60 : decode cX5_pageEnd 60 = .ok (.iload 6, 2) := by decide +kernel
theorem dX5_pageEnd_62 : decode cX5_pageEnd 62 = .ok (.iload_n 3, 1) := by decide +kernel
theorem dX5_pageEnd_63 : decode cX5_pageEnd 63 = .ok (.if_icmp .ge 28, 3) := by decide +kernel
theorem dX5_pageEnd_66 : decode cX5_pageEnd 66 = .ok (.iload 5, 2) := by decide +kernel
theorem dX5_pageEnd_68 : decode cX5_pageEnd 68 = .ok (.iconst (-1), 1) := by decide +kernel
theorem dX5_pageEnd_69 : decode cX5_pageEnd 69 = .ok (.if_icmp .eq 22, 3) := by decide +kernel
theorem dX5_pageEnd_72 : decode cX5_pageEnd 72 = .ok (.iload 5, 2) := by decide +kernel
theorem dX5_pageEnd_74 : decode cX5_pageEnd 74 = .ok (.istore 4, 2) := by decide +kernel
theorem dX5_pageEnd_76 : decode cX5_pageEnd 76 = .ok (.aload_n 0, 1) := by decide +kernel
theorem dX5_pageEnd_77 : decode cX5_pageEnd 77 = .ok (.iload_n 1, 1) := by decide +kernel
theorem dX5_pageEnd_78 : decode cX5_pageEnd 78 = .ok (.iload 4, 2) := by decide +kernel
theorem dX5_pageEnd_80 : decode cX5_pageEnd 80 = .ok (.invokevirtual 86, 3) := by decide +kernel
theorem dX5_pageEnd_83 : decode cX5_pageEnd 83 = .ok (.istore 5, 2) := by decide +kernel
theorem dX5_pageEnd_85 : decode cX5_pageEnd 85 = .ok (.iinc 6 1, 3) := by decide +kernel
theorem dX5_pageEnd_88 : decode cX5_pageEnd 88 = .ok (.goto (-28), 3) := by decide +kernel
theorem dX5_pageEnd_91 : decode cX5_pageEnd 91 = .ok (.iload 4, 2) := by decide +kernel
theorem dX5_pageEnd_93 : decode cX5_pageEnd 93 = .ok (.ireturn, 1) := by decide +kernel
set_option maxRecDepth 20000 in
theorem ggX5_length_X5_isOne : GoodIn wsX5_length wsX5_isOne := goodIn_r _ [5, 6, 7, 4, 8] (by decide +kernel) (by decide +kernel)
set_option maxRecDepth 20000 in
theorem gX5_length_X5_isOne : GoodIn wsX5_length (va_wsS RX5 64 yX5_isOne wsX5_isOne) := goodIn_app (goodIn_of _ (by decide +kernel)) ggX5_length_X5_isOne
set_option maxRecDepth 20000 in
theorem ggX5_length_X5_isFine : GoodIn wsX5_length wsX5_isFine := goodIn_r _ [12, 13, 29, 30, 31, 32, 33, 34, 35, 36, 37, 38, 39] (by decide +kernel) (by decide +kernel)
set_option maxRecDepth 20000 in
theorem gX5_length_X5_isFine : GoodIn wsX5_length (wsV RX5 67 RX5 yX5_isFine wsX5_isFine) := goodIn_app (goodIn_of _ (by decide +kernel)) ggX5_length_X5_isFine
set_option maxRecDepth 20000 in
theorem ggX5_length_X5_isShown : GoodIn wsX5_length wsX5_isShown := goodIn_r _ [17, 1, 18, 19, 20, 21, 4, 22, 23, 24, 25, 26, 27, 28, 29, 30, 31, 32, 33, 34, 35, 36, 37, 38, 39] (by decide +kernel) (by decide +kernel)
set_option maxRecDepth 20000 in
theorem gX5_length_X5_isShown : GoodIn wsX5_length (wsV RX5 83 RX5 yX5_isShown wsX5_isShown) := goodIn_app (goodIn_of _ (by decide +kernel)) ggX5_length_X5_isShown
theorem dX5_length_0 : decode cX5_length 0 = .ok (.iconst 0, 1) := by decide +kernel
theorem dX5_length_1 : decode cX5_length 1 = .ok (.istore_n 2, 1) := by decide +kernel
theorem dX5_length_2 : decode cX5_length 2 = .ok (.aload_n 0, 1) := by decide +kernel
theorem dX5_length_3 : decode cX5_length 3 = .ok (.iload_n 1, 1) := by decide +kernel
theorem dX5_length_4 : decode cX5_length 4 = .ok (.invokestatic 64, 3) := by decide +kernel
theorem dX5_length_7 : decode cX5_length 7 = .ok (.ifCond .eq 7, 3) := by decide +kernel
theorem dX5_length_10 : decode cX5_length 10 = .ok (.iconst 0, 1) := by decide +kernel
theorem dX5_length_11 : decode cX5_length 11 = .ok (.goto 4, 3) := by decide +kernel
theorem dX5_length_14 : decode cX5_length 14 = .ok (.iconst 1, 1) := by decide +kernel
theorem dX5_length_15 : decode cX5_length 15 = .ok (.invokevirtual 67, 3) := by decide +kernel
theorem dX5_length_18 : decode cX5_length 18 = .ok (.ifCond .eq 36, 3) := by decide +kernel
theorem dX5_length_21 : decode cX5_length 21 = .ok (.iconst 0, 1) := by decide +kernel
theorem dX5_length_22 : decode cX5_length 22 = .ok (.istore_n 3, 1) := by decide +kernel
theorem dX5_length_23 : decode cX5_length 23 = .ok (.iload_n 3, 1) := by decide +kernel
theorem dX5_length_24 : decode cX5_length 24 = .ok (.aload_n 0, 1) := by decide +kernel
theorem dX5_length_25 : decode cX5_length 25 = .ok (.getfield 46, 3) := by decide +kernel
theorem dX5_length_28 : decode cX5_length 28 = .ok (.if_icmp .ge 26, 3) := by decide +kernel
theorem dX5_length_31 : decode cX5_length 31 = .ok (.iload_n 2, 1) := by decide +kernel
theorem dX5_length_32 : decode cX5_length 32 = .ok (.aload_n 0, 1) := by decide +kernel
theorem dX5_length_33 : decode cX5_length 33 = .ok (.iload_n 1, 1) := by decide +kernel
theorem dX5_length_34 : decode cX5_length 34 = .ok (.iload_n 3, 1) := by decide +kernel
theorem dX5_length_35 : decode cX5_length 35 = .ok (.invokevirtual 83, 3) := by decide +kernel
theorem dX5_length_38 : decode cX5_length 38 = .ok (.ifCond .eq 7, 3) := by decide +kernel
theorem dX5_length_41 : decode cX5_length 41 = .ok (.iconst 1, 1) := by decide +kernel
theorem dX5_length_42 : decode cX5_length 42 = .ok (.goto 4, 3) := by decide +kernel
theorem dX5_length_45 : decode cX5_length 45 = .ok (.iconst 0, 1) := by decide +kernel
theorem dX5_length_46 : decode cX5_length 46 = .ok (.iadd, 1) := by decide +kernel
theorem dX5_length_47 : decode cX5_length 47 = .ok (.istore_n 2, 1) := by decide +kernel
theorem dX5_length_48 : decode cX5_length 48 = .ok (.iinc 3 1, 3) := by decide +kernel
theorem dX5_length_51 : decode cX5_length 51 = .ok (.goto (-28), 3) := by decide +kernel
theorem dX5_length_54 : decode cX5_length 54 = .ok (.iload_n 2, 1) := by decide +kernel
theorem dX5_length_55 : decode cX5_length 55 = .ok (.ireturn, 1) := by decide +kernel
set_option maxRecDepth 20000 in
theorem ggX5_lengthByMerging_X5_length : GoodIn wsX5_lengthByMerging wsX5_length := goodIn_r _ [5, 6, 7, 8, 4, 9, 10, 11, 12, 13, 14, 15, 16, 17, 18, 19, 20, 21, 22, 23, 24, 25, 26, 27, 28, 29, 30, 31, 32, 33, 34, 35, 36, 37, 38, 39, 40, 41, 42, 43] (by decide +kernel) (by decide +kernel)
set_option maxRecDepth 20000 in
theorem gX5_lengthByMerging_X5_length : GoodIn wsX5_lengthByMerging (wsV RX5 89 RX5 yX5_length wsX5_length) := goodIn_app (goodIn_of _ (by decide +kernel)) ggX5_lengthByMerging_X5_length
theorem dX5_lengthByMerging_0 : decode cX5_lengthByMerging 0 = .ok (.aload_n 0, 1) := by decide +kernel
theorem dX5_lengthByMerging_1 : decode cX5_lengthByMerging 1 = .ok (.iload_n 1, 1) := by decide +kernel
theorem dX5_lengthByMerging_2 : decode cX5_lengthByMerging 2 = .ok (.invokevirtual 89, 3) := by decide +kernel
theorem dX5_lengthByMerging_5 : decode cX5_lengthByMerging 5 = .ok (.ireturn, 1) := by decide +kernel
set_option maxRecDepth 20000 in
theorem ggX5_hasGap_X5_isOne : GoodIn wsX5_hasGap wsX5_isOne := goodIn_r _ [9, 10, 11, 8, 12] (by decide +kernel) (by decide +kernel)
set_option maxRecDepth 20000 in
theorem gX5_hasGap_X5_isOne : GoodIn wsX5_hasGap (va_wsS RX5 64 yX5_isOne wsX5_isOne) := goodIn_app (goodIn_of _ (by decide +kernel)) ggX5_hasGap_X5_isOne
set_option maxRecDepth 20000 in
theorem ggX5_hasGap_X5_isFine : GoodIn wsX5_hasGap wsX5_isFine := goodIn_r _ [16, 17, 18, 19, 20, 21, 22, 23, 24, 25, 26, 27, 28] (by decide +kernel) (by decide +kernel)
set_option maxRecDepth 20000 in
theorem gX5_hasGap_X5_isFine : GoodIn wsX5_hasGap (wsV RX5 67 RX5 yX5_isFine wsX5_isFine) := goodIn_app (goodIn_of _ (by decide +kernel)) ggX5_hasGap_X5_isFine
theorem dX5_hasGap_0 : decode cX5_hasGap 0 = .ok (.iconst 0, 1) := by decide +kernel
theorem dX5_hasGap_1 : decode cX5_hasGap 1 = .ok (.istore_n 2, 1) := by decide +kernel
theorem dX5_hasGap_2 : decode cX5_hasGap 2 = .ok (.aload_n 0, 1) := by decide +kernel
theorem dX5_hasGap_3 : decode cX5_hasGap 3 = .ok (.iload_n 1, 1) := by decide +kernel
theorem dX5_hasGap_4 : decode cX5_hasGap 4 = .ok (.invokestatic 64, 3) := by decide +kernel
theorem dX5_hasGap_7 : decode cX5_hasGap 7 = .ok (.ifCond .eq 7, 3) := by decide +kernel
theorem dX5_hasGap_10 : decode cX5_hasGap 10 = .ok (.iconst 0, 1) := by decide +kernel
theorem dX5_hasGap_11 : decode cX5_hasGap 11 = .ok (.goto 4, 3) := by decide +kernel
theorem dX5_hasGap_14 : decode cX5_hasGap 14 = .ok (.iconst 1, 1) := by decide +kernel
theorem dX5_hasGap_15 : decode cX5_hasGap 15 = .ok (.invokevirtual 67, 3) := by decide +kernel
theorem dX5_hasGap_18 : decode cX5_hasGap 18 = .ok (.ifCond .eq 67, 3) := by decide +kernel
theorem dX5_hasGap_21 : decode cX5_hasGap 21 = .ok (.iconst 0, 1) := by decide +kernel
theorem dX5_hasGap_22 : decode cX5_hasGap 22 = .ok (.istore_n 3, 1) := by decide +kernel
theorem dX5_hasGap_23 : decode cX5_hasGap 23 = .ok (.iload_n 3, 1) := by decide +kernel
theorem dX5_hasGap_24 : decode cX5_hasGap 24 = .ok (.aload_n 0, 1) := by decide +kernel
theorem dX5_hasGap_25 : decode cX5_hasGap 25 = .ok (.getfield 46, 3) := by decide +kernel
theorem dX5_hasGap_28 : decode cX5_hasGap 28 = .ok (.if_icmp .ge 57, 3) := by decide +kernel
theorem dX5_hasGap_31 : decode cX5_hasGap 31 = .ok (.iload_n 3, 1) := by decide +kernel
theorem dX5_hasGap_32 : decode cX5_hasGap 32 = .ok (.aload_n 0, 1) := by decide +kernel
theorem dX5_hasGap_33 : decode cX5_hasGap 33 = .ok (.getfield 36, 3) := by decide +kernel
theorem dX5_hasGap_36 : decode cX5_hasGap 36 = .ok (.iload_n 1, 1) := by decide +kernel
theorem dX5_hasGap_37 : decode cX5_hasGap 37 = .ok (.iaload, 1) := by decide +kernel
theorem dX5_hasGap_38 : decode cX5_hasGap 38 = .ok (.if_icmp .gt 47, 3) := by decide +kernel
theorem dX5_hasGap_41 : decode cX5_hasGap 41 = .ok (.iload_n 2, 1) := by decide +kernel
theorem dX5_hasGap_42 : decode cX5_hasGap 42 = .ok (.ifCond .ne 31, 3) := by decide +kernel
theorem dX5_hasGap_45 : decode cX5_hasGap 45 = .ok (.aload_n 0, 1) := by decide +kernel
theorem dX5_hasGap_46 : decode cX5_hasGap 46 = .ok (.getfield 26, 3) := by decide +kernel
theorem dX5_hasGap_49 : decode cX5_hasGap 49 = .ok (.iload_n 3, 1) := by decide +kernel
theorem dX5_hasGap_50 : decode cX5_hasGap 50 = .ok (.baload, 1) := by decide +kernel
theorem dX5_hasGap_51 : decode cX5_hasGap 51 = .ok (.ifCond .ne 26, 3) := by decide +kernel
theorem dX5_hasGap_54 : decode cX5_hasGap 54 = .ok (.aload_n 0, 1) := by decide +kernel
theorem dX5_hasGap_55 : decode cX5_hasGap 55 = .ok (.getfield 7, 3) := by decide +kernel
theorem dX5_hasGap_58 : decode cX5_hasGap 58 = .ok (.bipush 8, 2) := by decide +kernel
theorem dX5_hasGap_60 : decode cX5_hasGap 60 = .ok (.iload_n 1, 1) := by decide +kernel
theorem dX5_hasGap_61 : decode cX5_hasGap 61 = .ok (.imul, 1) := by decide +kernel
theorem dX5_hasGap_62 : decode cX5_hasGap 62 = .ok (.aload_n 0, 1) := by decide +kernel
theorem dX5_hasGap_63 : decode cX5_hasGap 63 = .ok (.getfield 19, 3) := by decide +kernel
theorem dX5_hasGap_66 : decode cX5_hasGap 66 = .ok (.iload_n 3, 1) := by decide +kernel
theorem dX5_hasGap_67 : decode cX5_hasGap 67 = .ok (.iaload, 1) := by decide +kernel
theorem dX5_hasGap_68 : decode cX5_hasGap 68 = .ok (.iadd, 1) := by decide +kernel
theorem dX5_hasGap_69 : decode cX5_hasGap 69 = .ok (.baload, 1) := by decide +kernel
theorem dX5_hasGap_70 : decode cX5_hasGap 70 = .ok (.ifCond .eq 7, 3) := by decide +kernel
theorem dX5_hasGap_73 : decode cX5_hasGap 73 = .ok (.iconst 1, 1) := by decide +kernel
theorem dX5_hasGap_74 : decode cX5_hasGap 74 = .ok (.goto 4, 3) := by decide +kernel
theorem dX5_hasGap_77 : decode cX5_hasGap 77 = .ok (.iconst 0, 1) := by decide +kernel
theorem dX5_hasGap_78 : decode cX5_hasGap 78 = .ok (.istore_n 2, 1) := by decide +kernel
theorem dX5_hasGap_79 : decode cX5_hasGap 79 = .ok (.iinc 3 1, 3) := by decide +kernel
theorem dX5_hasGap_82 : decode cX5_hasGap 82 = .ok (.goto (-59), 3) := by decide +kernel
theorem dX5_hasGap_85 : decode cX5_hasGap 85 = .ok (.iload_n 2, 1) := by decide +kernel
theorem dX5_hasGap_86 : decode cX5_hasGap 86 = .ok (.ireturn, 1) := by decide +kernel
theorem dJ9_min_7cf53_0 : decode cJ9_min_7cf53 0 = .ok (.iload_n 0, 1) := by decide +kernel
theorem dJ9_min_7cf53_1 : decode cJ9_min_7cf53 1 = .ok (.iload_n 1, 1) := by decide +kernel
theorem dJ9_min_7cf53_2 : decode cJ9_min_7cf53 2 = .ok (.if_icmp .gt 7, 3) := by decide +kernel
theorem dJ9_min_7cf53_5 : decode cJ9_min_7cf53 5 = .ok (.iload_n 0, 1) := by decide +kernel
theorem dJ9_min_7cf53_6 : decode cJ9_min_7cf53 6 = .ok (.goto 4, 3) := by decide +kernel
theorem dJ9_min_7cf53_9 : decode cJ9_min_7cf53 9 = .ok (.iload_n 1, 1) := by decide +kernel
theorem dJ9_min_7cf53_10 : decode cJ9_min_7cf53 10 = .ok (.ireturn, 1) := by decide +kernel
