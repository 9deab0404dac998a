set_option maxRecDepth 20000 in
theorem ggX4_init_X1_init : GoodIn wsX4_init wsX1_init := goodIn_r _ [25, 26, 2, 3, 27, 28, 48] (by decide +kernel) (by decide +kernel)
set_option maxRecDepth 20000 in
theorem gX4_init_X1_init_n9 : GoodIn wsX4_init (wsX1_init) := ggX4_init_X1_init
set_option maxRecDepth 20000 in
theorem ggX4_init_X0_init : GoodIn wsX4_init wsX0_init := goodIn_r _ [30, 31, 2, 3, 32, 33, 34, 27, 35, 57, 58, 59, 60] (by decide +kernel) (by decide +kernel)
set_option maxRecDepth 20000 in
theorem gX4_init_X0_init_n24 : GoodIn wsX4_init (wsX0_init) := ggX4_init_X0_init
set_option maxRecDepth 20000 in
theorem ggX4_init_X3_init : GoodIn wsX4_init wsX3_init := goodIn_r _ [37, 38, 2, 3, 32, 39, 27, 40, 61, 62, 63] (by decide +kernel) (by decide +kernel)
set_option maxRecDepth 20000 in
theorem gX4_init_X3_init_n37 : GoodIn wsX4_init (wsX3_init) := ggX4_init_X3_init
set_option maxRecDepth 20000 in
theorem ggX4_init_X2_init : GoodIn wsX4_init wsX2_init := goodIn_r _ [43, 44, 2, 3, 32, 45, 46, 47, 64, 65, 66, 67] (by decide +kernel) (by decide +kernel)
set_option maxRecDepth 20000 in
theorem gX4_init_X2_init : GoodIn wsX4_init (wsX2_init) := ggX4_init_X2_init
theorem dX4_init_0 : decode cX4_init 0 = .ok (.aload_n 0, 1) := by decide +kernel
theorem dX4_init_1 : decode cX4_init 1 = .ok (.invokespecial 1, 3) := by decide +kernel
theorem dX4_init_4 : decode cX4_init 4 = .ok (.aload_n 0, 1) := by decide +kernel
theorem dX4_init_5 : decode cX4_init 5 = .ok (.new 7, 3) := by decide +kernel
theorem dX4_init_8 : decode cX4_init 8 = .ok (.dup, 1) := by decide +kernel
theorem dX4_init_9 : decode cX4_init 9 = .ok (.invokespecial 9, 3) := by decide +kernel
theorem dX4_init_12 : decode cX4_init 12 = .ok (.putfield 10, 3) := by decide +kernel
theorem dX4_init_15 : decode cX4_init 15 = .ok (.aload_n 0, 1) := by decide +kernel
theorem dX4_init_16 : decode cX4_init 16 = .ok (.new 7, 3) := by decide +kernel
theorem dX4_init_19 : decode cX4_init 19 = .ok (.dup, 1) := by decide +kernel
theorem dX4_init_20 : decode cX4_init 20 = .ok (.invokespecial 9, 3) := by decide +kernel
theorem dX4_init_23 : decode cX4_init 23 = .ok (.putfield 16, 3) := by decide +kernel
theorem dX4_init_26 : decode cX4_init 26 = .ok (.aload_n 0, 1) := by decide +kernel
theorem dX4_init_27 : decode cX4_init 27 = .ok (.new 7, 3) := by decide +kernel
theorem dX4_init_30 : decode cX4_init 30 = .ok (.dup, 1) := by decide +kernel
theorem dX4_init_31 : decode cX4_init 31 = .ok (.invokespecial 9, 3) := by decide +kernel
theorem dX4_init_34 : decode cX4_init 34 = .ok (.putfield 19, 3) := by decide +kernel
theorem dX4_init_37 : decode cX4_init 37 = .ok (.aload_n 0, 1) := by decide +kernel
theorem dX4_init_38 : decode cX4_init 38 = .ok (.new 22, 3) := by decide +kernel
theorem dX4_init_41 : decode cX4_init 41 = .ok (.dup, 1) := by decide +kernel
theorem dX4_init_42 : decode cX4_init 42 = .ok (.invokespecial 24, 3) := by decide +kernel
theorem dX4_init_45 : decode cX4_init 45 = .ok (.putfield 25, 3) := by decide +kernel
theorem dX4_init_48 : decode cX4_init 48 = .ok (.aload_n 0, 1) := by decide +kernel
theorem dX4_init_49 : decode cX4_init 49 = .ok (.bipush 8, 2) := by decide +kernel
theorem dX4_init_51 : decode cX4_init 51 = .ok (.anewarray 29, 3) := by decide +kernel
theorem dX4_init_54 : decode cX4_init 54 = .ok (.putfield 31, 3) := by decide +kernel
theorem dX4_init_57 : decode cX4_init 57 = .ok (.aload_n 0, 1) := by decide +kernel
theorem dX4_init_58 : decode cX4_init 58 = .ok (.new 35, 3) := by decide +kernel
theorem dX4_init_61 : decode cX4_init 61 = .ok (.dup, 1) := by decide +kernel
theorem dX4_init_62 : decode cX4_init 62 = .ok (.invokespecial 37, 3) := by decide +kernel
theorem dX4_init_65 : decode cX4_init 65 = .ok (.putfield 38, 3) := by decide +kernel
theorem dX4_init_68 : decode cX4_init 68 = .ok (.aload_n 0, 1) := by decide +kernel
theorem dX4_init_69 : decode cX4_init 69 = .ok (.iconst 3, 1) := by decide +kernel
theorem dX4_init_70 : decode cX4_init 70 = .ok (.putfield 42, 3) := by decide +kernel
theorem dX4_init_73 : decode cX4_init 73 = .ok (.aload_n 0, 1) := by decide +kernel
theorem dX4_init_74 : decode cX4_init 74 = .ok (.bipush 10, 2) := by decide +kernel
theorem dX4_init_76 : decode cX4_init 76 = .ok (.putfield 46, 3) := by decide +kernel
theorem dX4_init_79 : decode cX4_init 79 = .ok (.iconst 0, 1) := by decide +kernel
theorem dX4_init_80 : decode cX4_init 80 = .ok (.istore_n 1, 1) := by decide +kernel
theorem dX4_init_81 : decode cX4_init 81 = .ok (.iload_n 1, 1) := by decide +kernel
theorem dX4_init_82 : decode cX4_init 82 = .ok (.bipush 8, 2) := by decide +kernel
theorem dX4_init_84 : decode cX4_init 84 = .ok (.if_icmp .ge 23, 3) := by decide +kernel
theorem dX4_init_87 : decode cX4_init 87 = .ok (.aload_n 0, 1) := by decide +kernel
theorem dX4_init_88 : decode cX4_init 88 = .ok (.getfield 31, 3) := by decide +kernel
theorem dX4_init_91 : decode cX4_init 91 = .ok (.iload_n 1, 1) := by decide +kernel
theorem dX4_init_92 : decode cX4_init 92 = .ok (.new 29, 3) := by decide +kernel
theorem dX4_init_95 : decode cX4_init 95 = .ok (.dup, 1) := by decide +kernel
theorem dX4_init_96 : decode cX4_init 96 = .ok (.iload_n 1, 1) := by decide +kernel
theorem dX4_init_97 : decode cX4_init 97 = .ok (.invokespecial 49, 3) := by decide +kernel
theorem dX4_init_100 : decode cX4_init 100 = .ok (.aastore, 1) := by decide +kernel
theorem dX4_init_101 : decode cX4_init 101 = .ok (.iinc 1 1, 3) := by decide +kernel
theorem dX4_init_104 : decode cX4_init 104 = .ok (.goto (-23), 3) := by decide +kernel
theorem dX4_init_107 : decode cX4_init 107 = .ok (.return_, 1) := by decide +kernel
set_option maxRecDepth 20000 in
theorem ggX4_follow_X4_checkPerson : GoodIn wsX4_follow wsX4_checkPerson := goodIn_ca (goodIn_r _ [8, 9, 10, 11, 12, 7, 13] (by decide +kernel) (by decide +kernel)) (goodIn_sub (fun _ h => List.mem_cons_of_mem _ (List.mem_append_left _ (List.mem_append_right _ h))) (by decide +kernel))
set_option maxRecDepth 20000 in
theorem gX4_follow_X4_checkPerson : GoodIn wsX4_follow (va_wsS RX4 52 yX4_checkPerson wsX4_checkPerson) := goodIn_app (goodIn_of _ (by decide +kernel)) ggX4_follow_X4_checkPerson
set_option maxRecDepth 20000 in
theorem ggX4_follow_X4_checkDifferent : GoodIn wsX4_follow wsX4_checkDifferent := goodIn_ca (goodIn_r _ [16, 17, 18] (by decide +kernel) (by decide +kernel)) (goodIn_sub (fun _ h => List.mem_cons_of_mem _ (List.mem_append_right _ h)) (by decide +kernel))
set_option maxRecDepth 20000 in
theorem gX4_follow_X4_checkDifferent : GoodIn wsX4_follow (va_wsS RX4 55 yX4_checkDifferent wsX4_checkDifferent) := goodIn_app (goodIn_of _ (by decide +kernel)) ggX4_follow_X4_checkDifferent
set_option maxRecDepth 20000 in
theorem ggX4_follow_X1_has : GoodIn wsX4_follow wsX1_has := goodIn_r _ [23, 24, 12, 7, 13, 111] (by decide +kernel) (by decide +kernel)
set_option maxRecDepth 20000 in
theorem gX4_follow_X1_has : GoodIn wsX4_follow (wsV RX4 59 RX1 yX1_has wsX1_has) := goodIn_app (goodIn_of _ (by decide +kernel)) ggX4_follow_X1_has
set_option maxRecDepth 20000 in
theorem ggX4_follow_X1_put : GoodIn wsX4_follow wsX1_put := goodIn_r _ [28, 24, 12, 7, 13, 111] (by decide +kernel) (by decide +kernel)
set_option maxRecDepth 20000 in
theorem gX4_follow_X1_put : GoodIn wsX4_follow (wsV RX4 72 RX1 yX1_put wsX1_put) := goodIn_app (goodIn_of _ (by decide +kernel)) ggX4_follow_X1_put
set_option maxRecDepth 20000 in
theorem ggX4_follow_X4_settleRows : GoodIn wsX4_follow wsX4_settleRows := goodIn_r _ [32, 33, 34, 35, 36, 7, 37, 38, 39, 40, 41, 42, 43, 44, 45, 46, 47, 48, 49, 50, 51, 52, 53, 54, 55, 56, 57, 58, 59, 60, 61, 62, 63, 64, 65, 3, 66, 67, 68, 69, 70, 71, 72, 73, 74, 75, 76, 77, 78, 79, 19, 20, 21, 22, 23, 24, 12, 13, 80, 81, 82, 83, 84, 85, 86, 87, 88, 89, 90, 91, 92, 93, 94, 95, 96, 97, 98, 99, 100, 101, 102, 103, 104, 105, 106, 107, 108, 109, 110, 112, 113, 114, 115, 116, 117, 118, 119, 111] (by decide +kernel) (by decide +kernel)
set_option maxRecDepth 20000 in
theorem gX4_follow_X4_settleRows : GoodIn wsX4_follow (wsV RX4 76 RX4 yX4_settleRows wsX4_settleRows) := goodIn_app (goodIn_of _ (by decide +kernel)) ggX4_follow_X4_settleRows
set_option maxRecDepth 20000 in
theorem ggX4_follow_X1_countTo : GoodIn wsX4_follow wsX1_countTo := goodIn_r _ [88, 89, 20, 21, 22, 23, 24, 12, 7, 13, 111] (by decide +kernel) (by decide +kernel)
set_option maxRecDepth 20000 in
theorem gX4_follow_X1_countTo : GoodIn wsX4_follow (wsV RX4 79 RX1 yX1_countTo wsX1_countTo) := goodIn_app (goodIn_of _ (by decide +kernel)) ggX4_follow_X1_countTo
theorem dX4_follow_0 : decode cX4_follow 0 = .ok (.iload_n 1, 1) := by decide +kernel
theorem dX4_follow_1 : decode cX4_follow 1 = .ok (.invokestatic 52, 3) := by decide +kernel
theorem dX4_follow_4 : decode cX4_follow 4 = .ok (.iload_n 2, 1) := by decide +kernel
theorem dX4_follow_5 : decode cX4_follow 5 = .ok (.invokestatic 52, 3) := by decide +kernel
theorem dX4_follow_8 : decode cX4_follow 8 = .ok (.iload_n 1, 1) := by decide +kernel
theorem dX4_follow_9 : decode cX4_follow 9 = .ok (.iload_n 2, 1) := by decide +kernel
theorem dX4_follow_10 : decode cX4_follow 10 = .ok (.invokestatic 55, 3) := by decide +kernel
theorem dX4_follow_13 : decode cX4_follow 13 = .ok (.aload_n 0, 1) := by decide +kernel
theorem dX4_follow_14 : decode cX4_follow 14 = .ok (.getfield 10, 3) := by decide +kernel
theorem dX4_follow_17 : decode cX4_follow 17 = .ok (.iload_n 1, 1) := by decide +kernel
theorem dX4_follow_18 : decode cX4_follow 18 = .ok (.iload_n 2, 1) := by decide +kernel
theorem dX4_follow_19 : decode cX4_follow 19 = .ok (.invokevirtual 59, 3) := by decide +kernel
theorem dX4_follow_22 : decode cX4_follow 22 = .ok (.ifCond .eq 13, 3) := by decide +kernel
theorem dX4_follow_25 : decode cX4_follow 25 = .ok (.new 63, 3) := by decide +kernel
theorem dX4_follow_28 : decode cX4_follow 28 = .ok (.dup, 1) := by decide +kernel
theorem dX4_follow_29 : decode cX4_follow 29 = .ok (.ldc 65, 2) := by decide +kernel
theorem dX4_follow_31 : decode cX4_follow 31 = .ok (.invokespecial 67, 3) := by decide +kernel
theorem dX4_follow_34 : decode cX4_follow 34 = .ok (.athrow, 1) := by decide +kernel
theorem dX4_follow_35 : decode cX4_follow 35 = .ok (.aload_n 0, 1) := by decide +kernel
theorem dX4_follow_36 : decode cX4_follow 36 = .ok (.getfield 19, 3) := by decide +kernel
theorem dX4_follow_39 : decode cX4_follow 39 = .ok (.iload_n 2, 1) := by decide +kernel
theorem dX4_follow_40 : decode cX4_follow 40 = .ok (.iload_n 1, 1) := by decide +kernel
theorem dX4_follow_41 : decode cX4_follow 41 = .ok (.invokevirtual 59, 3) := by decide +kernel
theorem dX4_follow_44 : decode cX4_follow 44 = .ok (.ifCond .ne 15, 3) := by decide +kernel
theorem dX4_follow_47 : decode cX4_follow 47 = .ok (.aload_n 0, 1) := by decide +kernel
theorem dX4_follow_48 : decode cX4_follow 48 = .ok (.getfield 19, 3) := by decide +kernel
theorem dX4_follow_51 : decode cX4_follow 51 = .ok (.iload_n 1, 1) := by decide +kernel
theorem dX4_follow_52 : decode cX4_follow 52 = .ok (.iload_n 2, 1) := by decide +kernel
theorem dX4_follow_53 : decode cX4_follow 53 = .ok (.invokevirtual 59, 3) := by decide +kernel
theorem dX4_follow_56 : decode cX4_follow 56 = .ok (.ifCond .eq 13, 3) := by decide +kernel
theorem dX4_follow_59 : decode cX4_follow 59 = .ok (.new 63, 3) := by decide +kernel
theorem dX4_follow_62 : decode cX4_follow 62 = .ok (.dup, 1) := by decide +kernel
theorem dX4_follow_63 : decode cX4_follow 63 = .ok (.ldc 70, 2) := by decide +kernel
theorem dX4_follow_65 : decode cX4_follow 65 = .ok (.invokespecial 67, 3) := by decide +kernel
theorem dX4_follow_68 : decode cX4_follow 68 = .ok (.athrow, 1) := by decide +kernel
theorem dX4_follow_69 : decode cX4_follow 69 = .ok (.aload_n 0, 1) := by decide +kernel
theorem dX4_follow_70 : decode cX4_follow 70 = .ok (.getfield 10, 3) := by decide +kernel
theorem dX4_follow_73 : decode cX4_follow 73 = .ok (.iload_n 1, 1) := by decide +kernel
theorem dX4_follow_74 : decode cX4_follow 74 = .ok (.iload_n 2, 1) := by decide +kernel
theorem dX4_follow_75 : decode cX4_follow 75 = .ok (.iconst 1, 1) := by decide +kernel
theorem dX4_follow_76 : decode cX4_follow 76 = .ok (.invokevirtual 72, 3) := by decide +kernel
theorem dX4_follow_79 : decode cX4_follow 79 = .ok (.aload_n 0, 1) := by decide +kernel
theorem dX4_follow_80 : decode cX4_follow 80 = .ok (.invokevirtual 76, 3) := by decide +kernel
theorem dX4_follow_83 : decode cX4_follow 83 = .ok (.aload_n 0, 1) := by decide +kernel
theorem dX4_follow_84 : decode cX4_follow 84 = .ok (.getfield 10, 3) := by decide +kernel
theorem dX4_follow_87 : decode cX4_follow 87 = .ok (.iload_n 2, 1) := by decide +kernel
theorem dX4_follow_88 : decode cX4_follow 88 = .ok (.invokevirtual 79, 3) := by decide +kernel
theorem dX4_follow_91 : decode cX4_follow 91 = .ok (.ireturn, 1) := by decide +kernel
set_option maxRecDepth 20000 in
theorem ggX4_unfollow_X4_checkPerson : GoodIn wsX4_unfollow wsX4_checkPerson := goodIn_ca (goodIn_r _ [7, 8, 9, 10, 11, 6, 12] (by decide +kernel) (by decide +kernel)) (goodIn_sub (fun _ h => List.mem_cons_of_mem _ (List.mem_append_right _ h)) (by decide +kernel))
set_option maxRecDepth 20000 in
theorem gX4_unfollow_X4_checkPerson : GoodIn wsX4_unfollow (va_wsS RX4 52 yX4_checkPerson wsX4_checkPerson) := goodIn_app (goodIn_of _ (by decide +kernel)) ggX4_unfollow_X4_checkPerson
set_option maxRecDepth 20000 in
theorem ggX4_unfollow_X1_has : GoodIn wsX4_unfollow wsX1_has := goodIn_r _ [17, 18, 11, 6, 12, 105] (by decide +kernel) (by decide +kernel)
set_option maxRecDepth 20000 in
theorem gX4_unfollow_X1_has : GoodIn wsX4_unfollow (wsV RX4 59 RX1 yX1_has wsX1_has) := goodIn_app (goodIn_of _ (by decide +kernel)) ggX4_unfollow_X1_has
set_option maxRecDepth 20000 in
theorem ggX4_unfollow_X1_put : GoodIn wsX4_unfollow wsX1_put := goodIn_r _ [22, 18, 11, 6, 12, 105] (by decide +kernel) (by decide +kernel)
set_option maxRecDepth 20000 in
theorem gX4_unfollow_X1_put : GoodIn wsX4_unfollow (wsV RX4 72 RX1 yX1_put wsX1_put) := goodIn_app (goodIn_of _ (by decide +kernel)) ggX4_unfollow_X1_put
set_option maxRecDepth 20000 in
theorem ggX4_unfollow_X4_settleRows : GoodIn wsX4_unfollow wsX4_settleRows := goodIn_r _ [26, 27, 28, 29, 30, 6, 31, 32, 33, 34, 35, 36, 37, 38, 39, 40, 41, 42, 43, 44, 45, 46, 47, 48, 49, 50, 51, 52, 53, 54, 55, 56, 57, 58, 59, 3, 60, 61, 62, 63, 64, 65, 66, 67, 68, 69, 70, 71, 72, 73, 13, 14, 15, 16, 17, 18, 11, 12, 74, 75, 76, 77, 78, 79, 80, 81, 82, 83, 84, 85, 86, 87, 88, 89, 90, 91, 92, 93, 94, 95, 96, 97, 98, 99, 100, 101, 102, 103, 104, 106, 107, 108, 109, 110, 111, 112, 113, 105] (by decide +kernel) (by decide +kernel)
set_option maxRecDepth 20000 in
theorem gX4_unfollow_X4_settleRows : GoodIn wsX4_unfollow (wsV RX4 76 RX4 yX4_settleRows wsX4_settleRows) := goodIn_app (goodIn_of _ (by decide +kernel)) ggX4_unfollow_X4_settleRows
set_option maxRecDepth 20000 in
theorem ggX4_unfollow_X1_countTo : GoodIn wsX4_unfollow wsX1_countTo := goodIn_r _ [82, 83, 14, 15, 16, 17, 18, 11, 6, 12, 105] (by decide +kernel) (by decide +kernel)
set_option maxRecDepth 20000 in
theorem gX4_unfollow_X1_countTo : GoodIn wsX4_unfollow (wsV RX4 79 RX1 yX1_countTo wsX1_countTo) := goodIn_app (goodIn_of _ (by decide +kernel)) ggX4_unfollow_X1_countTo
theorem dX4_unfollow_0 : decode cX4_unfollow 0 = .ok (.iload_n 1, 1) := by decide +kernel
theorem dX4_unfollow_1 : decode cX4_unfollow 1 = .ok (.invokestatic 52, 3) := by decide +kernel
theorem dX4_unfollow_4 : decode cX4_unfollow 4 = .ok (.iload_n 2, 1) := by decide +kernel
theorem dX4_unfollow_5 : decode cX4_unfollow 5 = .ok (.invokestatic 52, 3) := by decide +kernel
theorem dX4_unfollow_8 : decode cX4_unfollow 8 = .ok (.aload_n 0, 1) := by decide +kernel
theorem dX4_unfollow_9 : decode cX4_unfollow 9 = .ok (.getfield 10, 3) := by decide +kernel
theorem dX4_unfollow_12 : decode cX4_unfollow 12 = .ok (.iload_n 1, 1) := by decide +kernel
theorem dX4_unfollow_13 : decode cX4_unfollow 13 = .ok (.iload_n 2, 1) := by decide +kernel
theorem dX4_unfollow_14 : decode cX4_unfollow 14 = .ok (.invokevirtual 59, 3) := by decide +kernel
theorem dX4_unfollow_17 : decode cX4_unfollow 17 = .ok (.ifCond .ne 13, 3) := by decide +kernel
theorem dX4_unfollow_20 : decode cX4_unfollow 20 = .ok (.new 63, 3) := by decide +kernel
theorem dX4_unfollow_23 : decode cX4_unfollow 23 = .ok (.dup, 1) := by decide +kernel
theorem dX4_unfollow_24 : decode cX4_unfollow 24 = .ok (.ldc 83, 2) := by decide +kernel
theorem dX4_unfollow_26 : decode cX4_unfollow 26 = .ok (.invokespecial 67, 3) := by decide +kernel
theorem dX4_unfollow_29 : decode cX4_unfollow 29 = .ok (.athrow, 1) := by decide +kernel
theorem dX4_unfollow_30 : decode cX4_unfollow 30 = .ok (.aload_n 0, 1) := by decide +kernel
theorem dX4_unfollow_31 : decode cX4_unfollow 31 = .ok (.getfield 10, 3) := by decide +kernel
theorem dX4_unfollow_34 : decode cX4_unfollow 34 = .ok (.iload_n 1, 1) := by decide +kernel
theorem dX4_unfollow_35 : decode cX4_unfollow 35 = .ok (.iload_n 2, 1) := by decide +kernel
theorem dX4_unfollow_36 : decode cX4_unfollow 36 = .ok (.iconst 0, 1) := by decide +kernel
theorem dX4_unfollow_37 : decode cX4_unfollow 37 = .ok (.invokevirtual 72, 3) := by decide +kernel
theorem dX4_unfollow_40 : decode cX4_unfollow 40 = .ok (.aload_n 0, 1) := by decide +kernel
theorem dX4_unfollow_41 : decode cX4_unfollow 41 = .ok (.invokevirtual 76, 3) := by decide +kernel
theorem dX4_unfollow_44 : decode cX4_unfollow 44 = .ok (.aload_n 0, 1) := by decide +kernel
theorem dX4_unfollow_45 : decode cX4_unfollow 45 = .ok (.getfield 10, 3) := by decide +kernel
theorem dX4_unfollow_48 : decode cX4_unfollow 48 = .ok (.iload_n 2, 1) := by decide +kernel
theorem dX4_unfollow_49 : decode cX4_unfollow 49 = .ok (.invokevirtual 79, 3) := by decide +kernel
theorem dX4_unfollow_52 : decode cX4_unfollow 52 = .ok (.ireturn, 1) := by decide +kernel
set_option maxRecDepth 20000 in
theorem ggX4_mute_X4_checkPerson : GoodIn wsX4_mute wsX4_checkPerson := goodIn_ca (goodIn_r _ [5, 6, 7, 8, 9, 4, 10] (by decide +kernel) (by decide +kernel)) (goodIn_sub (fun _ h => List.mem_cons_of_mem _ (List.mem_append_left _ (List.mem_append_right _ h))) (by decide +kernel))
set_option maxRecDepth 20000 in
theorem gX4_mute_X4_checkPerson : GoodIn wsX4_mute (va_wsS RX4 52 yX4_checkPerson wsX4_checkPerson) := goodIn_app (goodIn_of _ (by decide +kernel)) ggX4_mute_X4_checkPerson
set_option maxRecDepth 20000 in
theorem ggX4_mute_X4_checkDifferent : GoodIn wsX4_mute wsX4_checkDifferent := goodIn_ca (goodIn_r _ [13, 14, 15] (by decide +kernel) (by decide +kernel)) (goodIn_sub (fun _ h => List.mem_cons_of_mem _ (List.mem_append_right _ h)) (by decide +kernel))
set_option maxRecDepth 20000 in
theorem gX4_mute_X4_checkDifferent : GoodIn wsX4_mute (va_wsS RX4 55 yX4_checkDifferent wsX4_checkDifferent) := goodIn_app (goodIn_of _ (by decide +kernel)) ggX4_mute_X4_checkDifferent
set_option maxRecDepth 20000 in
theorem ggX4_mute_X1_has : GoodIn wsX4_mute wsX1_has := goodIn_r _ [20, 21, 9, 4, 10, 34] (by decide +kernel) (by decide +kernel)
set_option maxRecDepth 20000 in
theorem gX4_mute_X1_has : GoodIn wsX4_mute (wsV RX4 59 RX1 yX1_has wsX1_has) := goodIn_app (goodIn_of _ (by decide +kernel)) ggX4_mute_X1_has
set_option maxRecDepth 20000 in
theorem ggX4_mute_X1_put : GoodIn wsX4_mute wsX1_put := goodIn_r _ [25, 21, 9, 4, 10, 34] (by decide +kernel) (by decide +kernel)
set_option maxRecDepth 20000 in
theorem gX4_mute_X1_put : GoodIn wsX4_mute (wsV RX4 72 RX1 yX1_put wsX1_put) := goodIn_app (goodIn_of _ (by decide +kernel)) ggX4_mute_X1_put
theorem dX4_mute_0 : decode cX4_mute 0 = .ok (.iload_n 1, 1) := by decide +kernel
theorem dX4_mute_1 : decode cX4_mute 1 = .ok (.invokestatic 52, 3) := by decide +kernel
theorem dX4_mute_4 : decode cX4_mute 4 = .ok (.iload_n 2, 1) := by decide +kernel
theorem dX4_mute_5 : decode cX4_mute 5 = .ok (.invokestatic 52, 3) := by decide +kernel
theorem dX4_mute_8 : decode cX4_mute 8 = .ok (.iload_n 1, 1) := by decide +kernel
theorem dX4_mute_9 : decode cX4_mute 9 = .ok (.iload_n 2, 1) := by decide +kernel
theorem dX4_mute_10 : decode cX4_mute 10 = .ok (.invokestatic 55, 3) := by decide +kernel
theorem dX4_mute_13 : decode cX4_mute 13 = .ok (.aload_n 0, 1) := by decide +kernel
theorem dX4_mute_14 : decode cX4_mute 14 = .ok (.getfield 16, 3) := by decide +kernel
theorem dX4_mute_17 : decode cX4_mute 17 = .ok (.iload_n 1, 1) := by decide +kernel
theorem dX4_mute_18 : decode cX4_mute 18 = .ok (.iload_n 2, 1) := by decide +kernel
theorem dX4_mute_19 : decode cX4_mute 19 = .ok (.invokevirtual 59, 3) := by decide +kernel
theorem dX4_mute_22 : decode cX4_mute 22 = .ok (.istore 4, 2) := by decide +kernel
theorem dX4_mute_24 : decode cX4_mute 24 = .ok (.aload_n 0, 1) := by decide +kernel
theorem dX4_mute_25 : decode cX4_mute 25 = .ok (.getfield 16, 3) := by decide +kernel
theorem dX4_mute_28 : decode cX4_mute 28 = .ok (.iload_n 1, 1) := by decide +kernel
theorem dX4_mute_29 : decode cX4_mute 29 = .ok (.iload_n 2, 1) := by decide +kernel
theorem dX4_mute_30 : decode cX4_mute 30 = .ok (.iload_n 3, 1) := by decide +kernel
theorem dX4_mute_31 : decode cX4_mute 31 = .ok (.invokevirtual 72, 3) := by decide +kernel
theorem dX4_mute_34 : decode cX4_mute 34 = .ok (.iload 4, 2) := by decide +kernel
theorem dX4_mute_36 : decode cX4_mute 36 = .ok (.ireturn, 1) := by decide +kernel
set_option maxRecDepth 20000 in
theorem ggX4_block_X4_checkPerson : GoodIn wsX4_block wsX4_checkPerson := goodIn_ca (goodIn_r _ [6, 7, 8, 9, 10, 5, 11] (by decide +kernel) (by decide +kernel)) (goodIn_sub (fun _ h => List.mem_cons_of_mem _ (List.mem_append_left _ (List.mem_append_right _ h))) (by decide +kernel))
set_option maxRecDepth 20000 in
theorem gX4_block_X4_checkPerson : GoodIn wsX4_block (va_wsS RX4 52 yX4_checkPerson wsX4_checkPerson) := goodIn_app (goodIn_of _ (by decide +kernel)) ggX4_block_X4_checkPerson
set_option maxRecDepth 20000 in
theorem ggX4_block_X4_checkDifferent : GoodIn wsX4_block wsX4_checkDifferent := goodIn_ca (goodIn_r _ [14, 15, 16] (by decide +kernel) (by decide +kernel)) (goodIn_sub (fun _ h => List.mem_cons_of_mem _ (List.mem_append_right _ h)) (by decide +kernel))
set_option maxRecDepth 20000 in
theorem gX4_block_X4_checkDifferent : GoodIn wsX4_block (va_wsS RX4 55 yX4_checkDifferent wsX4_checkDifferent) := goodIn_app (goodIn_of _ (by decide +kernel)) ggX4_block_X4_checkDifferent
set_option maxRecDepth 20000 in
theorem ggX4_block_X1_has : GoodIn wsX4_block wsX1_has := goodIn_r _ [21, 22, 10, 5, 11, 109] (by decide +kernel) (by decide +kernel)
set_option maxRecDepth 20000 in
theorem gX4_block_X1_has : GoodIn wsX4_block (wsV RX4 59 RX1 yX1_has wsX1_has) := goodIn_app (goodIn_of _ (by decide +kernel)) ggX4_block_X1_has
set_option maxRecDepth 20000 in
theorem ggX4_block_X1_put : GoodIn wsX4_block wsX1_put := goodIn_r _ [26, 22, 10, 5, 11, 109] (by decide +kernel) (by decide +kernel)
set_option maxRecDepth 20000 in
theorem gX4_block_X1_put : GoodIn wsX4_block (wsV RX4 72 RX1 yX1_put wsX1_put) := goodIn_app (goodIn_of _ (by decide +kernel)) ggX4_block_X1_put
set_option maxRecDepth 20000 in
theorem ggX4_block_X4_settleRows : GoodIn wsX4_block wsX4_settleRows := goodIn_r _ [30, 31, 32, 33, 34, 5, 35, 36, 37, 38, 39, 40, 41, 42, 43, 44, 45, 46, 47, 48, 49, 50, 51, 52, 53, 54, 55, 56, 57, 58, 59, 60, 61, 62, 63, 2, 64, 65, 66, 67, 68, 69, 70, 71, 72, 73, 74, 75, 76, 77, 17, 18, 19, 20, 21, 22, 10, 11, 78, 79, 80, 81, 82, 83, 84, 85, 86, 87, 88, 89, 90, 91, 92, 93, 94, 95, 96, 97, 98, 99, 100, 101, 102, 103, 104, 105, 106, 107, 108, 110, 111, 112, 113, 114, 115, 116, 117, 109] (by decide +kernel) (by decide +kernel)
set_option maxRecDepth 20000 in
theorem gX4_block_X4_settleRows : GoodIn wsX4_block (wsV RX4 76 RX4 yX4_settleRows wsX4_settleRows) := goodIn_app (goodIn_of _ (by decide +kernel)) ggX4_block_X4_settleRows
theorem dX4_block_0 : decode cX4_block 0 = .ok (.iload_n 1, 1) := by decide +kernel
theorem dX4_block_1 : decode cX4_block 1 = .ok (.invokestatic 52, 3) := by decide +kernel
theorem dX4_block_4 : decode cX4_block 4 = .ok (.iload_n 2, 1) := by decide +kernel
theorem dX4_block_5 : decode cX4_block 5 = .ok (.invokestatic 52, 3) := by decide +kernel
theorem dX4_block_8 : decode cX4_block 8 = .ok (.iload_n 1, 1) := by decide +kernel
theorem dX4_block_9 : decode cX4_block 9 = .ok (.iload_n 2, 1) := by decide +kernel
theorem dX4_block_10 : decode cX4_block 10 = .ok (.invokestatic 55, 3) := by decide +kernel
theorem dX4_block_13 : decode cX4_block 13 = .ok (.aload_n 0, 1) := by decide +kernel
theorem dX4_block_14 : decode cX4_block 14 = .ok (.getfield 19, 3) := by decide +kernel
theorem dX4_block_17 : decode cX4_block 17 = .ok (.iload_n 1, 1) := by decide +kernel
theorem dX4_block_18 : decode cX4_block 18 = .ok (.iload_n 2, 1) := by decide +kernel
theorem dX4_block_19 : decode cX4_block 19 = .ok (.invokevirtual 59, 3) := by decide +kernel
theorem dX4_block_22 : decode cX4_block 22 = .ok (.istore 4, 2) := by decide +kernel
theorem dX4_block_24 : decode cX4_block 24 = .ok (.aload_n 0, 1) := by decide +kernel
theorem dX4_block_25 : decode cX4_block 25 = .ok (.getfield 19, 3) := by decide +kernel
theorem dX4_block_28 : decode cX4_block 28 = .ok (.iload_n 1, 1) := by decide +kernel
theorem dX4_block_29 : decode cX4_block 29 = .ok (.iload_n 2, 1) := by decide +kernel
theorem dX4_block_30 : decode cX4_block 30 = .ok (.iload_n 3, 1) := by decide +kernel
theorem dX4_block_31 : decode cX4_block 31 = .ok (.invokevirtual 72, 3) := by decide +kernel
theorem dX4_block_34 : decode cX4_block 34 = .ok (.iload_n 3, 1) := by decide +kernel
theorem dX4_block_35 : decode cX4_block 35 = .ok (.ifCond .eq 27, 3) := by decide +kernel
theorem dX4_block_38 : decode cX4_block 38 = .ok (.aload_n 0, 1) := by decide +kernel
theorem dX4_block_39 : decode cX4_block 39 = .ok (.getfield 10, 3) := by decide +kernel
theorem dX4_block_42 : decode cX4_block 42 = .ok (.iload_n 1, 1) := by decide +kernel
theorem dX4_block_43 : decode cX4_block 43 = .ok (.iload_n 2, 1) := by decide +kernel
theorem dX4_block_44 : decode cX4_block 44 = .ok (.iconst 0, 1) := by decide +kernel
theorem dX4_block_45 : decode cX4_block 45 = .ok (.invokevirtual 72, 3) := by decide +kernel
theorem dX4_block_48 : decode cX4_block 48 = .ok (.aload_n 0, 1) := by decide +kernel
theorem dX4_block_49 : decode cX4_block 49 = .ok (.getfield 10, 3) := by decide +kernel
theorem dX4_block_52 : decode cX4_block 52 = .ok (.iload_n 2, 1) := by decide +kernel
theorem dX4_block_53 : decode cX4_block 53 = .ok (.iload_n 1, 1) := by decide +kernel
theorem dX4_block_54 : decode cX4_block 54 = .ok (.iconst 0, 1) := by decide +kernel
theorem dX4_block_55 : decode cX4_block 55 = .ok (.invokevirtual 72, 3) := by decide +kernel
theorem dX4_block_58 : decode cX4_block 58 = .ok (.aload_n 0, 1) := by decide +kernel
theorem dX4_block_59 : decode cX4_block 59 = .ok (.invokevirtual 76, 3) := by decide +kernel
theorem dX4_block_62 : decode cX4_block 62 = .ok (.iload 4, 2) := by decide +kernel
theorem dX4_block_64 : decode cX4_block 64 = .ok (.ireturn, 1) := by decide +kernel
set_option maxRecDepth 20000 in
theorem ggX4_post_X4_checkPerson : GoodIn wsX4_post wsX4_checkPerson := goodIn_ca (goodIn_r _ [5, 6, 7, 8, 9, 4, 10] (by decide +kernel) (by decide +kernel)) (goodIn_sub (fun _ h => List.mem_cons_of_mem _ (List.mem_append_left _ (List.mem_append_right _ h))) (by decide +kernel))
set_option maxRecDepth 20000 in
theorem gX4_post_X4_checkPerson : GoodIn wsX4_post (va_wsS RX4 52 yX4_checkPerson wsX4_checkPerson) := goodIn_app (goodIn_of _ (by decide +kernel)) ggX4_post_X4_checkPerson
set_option maxRecDepth 20000 in
theorem ggX4_post_X4_checkPlace : GoodIn wsX4_post wsX4_checkPlace := goodIn_ca (goodIn_r _ [14, 15, 16, 1, 17, 18, 19, 20, 21, 22, 102, 103, 104, 105, 106, 107, 108, 109, 110, 111, 112, 113] (by decide +kernel) (by decide +kernel)) (goodIn_sub (fun _ h => List.mem_cons_of_mem _ (List.mem_append_right _ h)) (by decide +kernel))
set_option maxRecDepth 20000 in
theorem gX4_post_X4_checkPlace : GoodIn wsX4_post (wsV RX4 85 RX4 yX4_checkPlace wsX4_checkPlace) := goodIn_app (goodIn_of _ (by decide +kernel)) ggX4_post_X4_checkPlace
set_option maxRecDepth 20000 in
theorem ggX4_post_X0_made : GoodIn wsX4_post wsX0_made := goodIn_r _ [21, 22, 110, 111, 112, 113] (by decide +kernel) (by decide +kernel)
set_option maxRecDepth 20000 in
theorem gX4_post_X0_made : GoodIn wsX4_post (wsV RX4 88 RX0 yX0_made wsX0_made) := goodIn_app (goodIn_of _ (by decide +kernel)) ggX4_post_X0_made
set_option maxRecDepth 20000 in
theorem ggX4_post_X0_add : GoodIn wsX4_post wsX0_add := goodIn_r _ [26, 22, 27, 28, 110, 111, 112, 113] (by decide +kernel) (by decide +kernel)
set_option maxRecDepth 20000 in
theorem gX4_post_X0_add : GoodIn wsX4_post (wsV RX4 92 RX0 yX0_add wsX0_add) := goodIn_app (goodIn_of _ (by decide +kernel)) ggX4_post_X0_add
set_option maxRecDepth 20000 in
theorem ggX4_post_X4_settleRows : GoodIn wsX4_post wsX4_settleRows := goodIn_r _ [32, 33, 34, 35, 36, 4, 37, 1, 38, 39, 40, 41, 42, 43, 44, 45, 46, 47, 48, 49, 17, 18, 19, 20, 21, 22, 50, 51, 52, 53, 54, 55, 56, 57, 58, 59, 60, 61, 62, 63, 27, 64, 65, 66, 67, 68, 69, 70, 71, 72, 73, 74, 75, 76, 77, 78, 9, 10, 79, 80, 81, 82, 83, 84, 85, 86, 87, 88, 89, 90, 91, 92, 93, 94, 95, 96, 97, 98, 99, 100, 101, 102, 103, 104, 105, 106, 107, 108, 109, 114, 115, 116, 117, 110, 111, 112, 113, 118] (by decide +kernel) (by decide +kernel)
set_option maxRecDepth 20000 in
theorem gX4_post_X4_settleRows : GoodIn wsX4_post (wsV RX4 76 RX4 yX4_settleRows wsX4_settleRows) := goodIn_app (goodIn_of _ (by decide +kernel)) ggX4_post_X4_settleRows
theorem dX4_post_0 : decode cX4_post 0 = .ok (.iload_n 1, 1) := by decide +kernel
theorem dX4_post_1 : decode cX4_post 1 = .ok (.invokestatic 52, 3) := by decide +kernel
theorem dX4_post_4 : decode cX4_post 4 = .ok (.aload_n 0, 1) := by decide +kernel
theorem dX4_post_5 : decode cX4_post 5 = .ok (.invokevirtual 85, 3) := by decide +kernel
theorem dX4_post_8 : decode cX4_post 8 = .ok (.aload_n 0, 1) := by decide +kernel
theorem dX4_post_9 : decode cX4_post 9 = .ok (.getfield 25, 3) := by decide +kernel
theorem dX4_post_12 : decode cX4_post 12 = .ok (.invokevirtual 88, 3) := by decide +kernel
theorem dX4_post_15 : decode cX4_post 15 = .ok (.istore_n 2, 1) := by decide +kernel
theorem dX4_post_16 : decode cX4_post 16 = .ok (.aload_n 0, 1) := by decide +kernel
theorem dX4_post_17 : decode cX4_post 17 = .ok (.getfield 25, 3) := by decide +kernel
theorem dX4_post_20 : decode cX4_post 20 = .ok (.iload_n 1, 1) := by decide +kernel
theorem dX4_post_21 : decode cX4_post 21 = .ok (.iload_n 2, 1) := by decide +kernel
theorem dX4_post_22 : decode cX4_post 22 = .ok (.invokevirtual 92, 3) := by decide +kernel
theorem dX4_post_25 : decode cX4_post 25 = .ok (.aload_n 0, 1) := by decide +kernel
theorem dX4_post_26 : decode cX4_post 26 = .ok (.invokevirtual 76, 3) := by decide +kernel
theorem dX4_post_29 : decode cX4_post 29 = .ok (.iload_n 2, 1) := by decide +kernel
theorem dX4_post_30 : decode cX4_post 30 = .ok (.ireturn, 1) := by decide +kernel
set_option maxRecDepth 20000 in
theorem ggX4_repost_X4_checkPerson : GoodIn wsX4_repost wsX4_checkPerson := goodIn_ca (goodIn_r _ [8, 9, 10, 11, 12, 7, 13] (by decide +kernel) (by decide +kernel)) (goodIn_sub (fun _ h => List.mem_cons_of_mem _ (List.mem_append_right _ h)) (by decide +kernel))
set_option maxRecDepth 20000 in
theorem gX4_repost_X4_checkPerson : GoodIn wsX4_repost (va_wsS RX4 52 yX4_checkPerson wsX4_checkPerson) := goodIn_app (goodIn_of _ (by decide +kernel)) ggX4_repost_X4_checkPerson
set_option maxRecDepth 20000 in
theorem ggX4_repost_X4_checkEntry : GoodIn wsX4_repost wsX4_checkEntry := goodIn_ca (goodIn_r _ [17, 9, 10, 3, 18, 19, 20, 21, 22, 23, 112, 113, 114, 115, 116, 117, 118, 119, 120, 121, 122, 123] (by decide +kernel) (by decide +kernel)) (goodIn_sub (fun _ h => List.mem_cons_of_mem _ (List.mem_append_right _ h)) (by decide +kernel))
set_option maxRecDepth 20000 in
theorem gX4_repost_X4_checkEntry : GoodIn wsX4_repost (wsV RX4 95 RX4 yX4_checkEntry wsX4_checkEntry) := goodIn_app (goodIn_of _ (by decide +kernel)) ggX4_repost_X4_checkEntry
set_option maxRecDepth 20000 in
theorem ggX4_repost_X4_checkPlace : GoodIn wsX4_repost wsX4_checkPlace := goodIn_ca (goodIn_r _ [27, 1, 2, 3, 28, 29, 30, 21, 31, 23, 112, 113, 114, 115, 116, 117, 118, 119, 120, 121, 122, 123] (by decide +kernel) (by decide +kernel)) (goodIn_sub (fun _ h => List.mem_cons_of_mem _ (List.mem_append_left _ (List.mem_append_right _ h))) (by decide +kernel))
set_option maxRecDepth 20000 in
theorem gX4_repost_X4_checkPlace : GoodIn wsX4_repost (wsV RX4 85 RX4 yX4_checkPlace wsX4_checkPlace) := goodIn_app (goodIn_of _ (by decide +kernel)) ggX4_repost_X4_checkPlace
set_option maxRecDepth 20000 in
theorem ggX4_repost_X0_origin : GoodIn wsX4_repost wsX0_origin := goodIn_r _ [35, 36, 37, 19, 20, 21, 22, 23, 120, 121, 122, 123] (by decide +kernel) (by decide +kernel)
set_option maxRecDepth 20000 in
theorem gX4_repost_X0_origin : GoodIn wsX4_repost (wsV RX4 98 RX0 yX0_origin wsX0_origin) := goodIn_app (goodIn_of _ (by decide +kernel)) ggX4_repost_X0_origin
set_option maxRecDepth 20000 in
theorem ggX4_repost_X0_stands : GoodIn wsX4_repost wsX0_stands := goodIn_r _ [41, 42, 37, 19, 20, 21, 22, 23, 120, 121, 122, 123] (by decide +kernel) (by decide +kernel)
set_option maxRecDepth 20000 in
theorem gX4_repost_X0_stands : GoodIn wsX4_repost (wsV RX4 101 RX0 yX0_stands wsX0_stands) := goodIn_app (goodIn_of _ (by decide +kernel)) ggX4_repost_X0_stands
set_option maxRecDepth 20000 in
theorem ggX4_repost_X0_author : GoodIn wsX4_repost wsX0_author := goodIn_r _ [46, 47, 37, 19, 20, 21, 22, 23, 120, 121, 122, 123] (by decide +kernel) (by decide +kernel)
set_option maxRecDepth 20000 in
theorem gX4_repost_X0_author : GoodIn wsX4_repost (wsV RX4 107 RX0 yX0_author wsX0_author) := goodIn_app (goodIn_of _ (by decide +kernel)) ggX4_repost_X0_author
set_option maxRecDepth 20000 in
theorem ggX4_repost_X1_has : GoodIn wsX4_repost wsX1_has := goodIn_r _ [52, 53, 12, 7, 13, 124] (by decide +kernel) (by decide +kernel)
set_option maxRecDepth 20000 in
theorem gX4_repost_X1_has : GoodIn wsX4_repost (wsV RX4 59 RX1 yX1_has wsX1_has) := goodIn_app (goodIn_of _ (by decide +kernel)) ggX4_repost_X1_has
set_option maxRecDepth 20000 in
theorem ggX4_repost_X0_made : GoodIn wsX4_repost wsX0_made := goodIn_r _ [31, 23, 120, 121, 122, 123] (by decide +kernel) (by decide +kernel)
set_option maxRecDepth 20000 in
theorem gX4_repost_X0_made : GoodIn wsX4_repost (wsV RX4 88 RX0 yX0_made wsX0_made) := goodIn_app (goodIn_of _ (by decide +kernel)) ggX4_repost_X0_made
set_option maxRecDepth 20000 in
theorem ggX4_repost_X0_add : GoodIn wsX4_repost wsX0_add := goodIn_r _ [57, 23, 47, 36, 120, 121, 122, 123] (by decide +kernel) (by decide +kernel)
set_option maxRecDepth 20000 in
theorem gX4_repost_X0_add : GoodIn wsX4_repost (wsV RX4 92 RX0 yX0_add wsX0_add) := goodIn_app (goodIn_of _ (by decide +kernel)) ggX4_repost_X0_add
set_option maxRecDepth 20000 in
theorem ggX4_repost_X4_settleRows : GoodIn wsX4_repost wsX4_settleRows := goodIn_r _ [61, 62, 63, 64, 65, 7, 66, 3, 67, 68, 69, 70, 71, 72, 73, 74, 75, 76, 77, 78, 28, 29, 30, 21, 31, 23, 79, 80, 81, 82, 83, 84, 85, 86, 87, 88, 43, 44, 45, 46, 47, 37, 19, 20, 22, 38, 39, 40, 41, 42, 48, 49, 50, 51, 52, 53, 12, 13, 89, 90, 91, 92, 93, 94, 95, 96, 97, 98, 99, 100, 101, 102, 103, 104, 105, 106, 107, 108, 109, 110, 111, 112, 113, 114, 115, 116, 117, 118, 119, 125, 126, 127, 128, 120, 121, 122, 123, 124] (by decide +kernel) (by decide +kernel)
set_option maxRecDepth 20000 in
theorem gX4_repost_X4_settleRows : GoodIn wsX4_repost (wsV RX4 76 RX4 yX4_settleRows wsX4_settleRows) := goodIn_app (goodIn_of _ (by decide +kernel)) ggX4_repost_X4_settleRows
theorem dX4_repost_0 : decode cX4_repost 0 = .ok (.iload_n 1, 1) := by decide +kernel
theorem dX4_repost_1 : decode cX4_repost 1 = .ok (.invokestatic 52, 3) := by decide +kernel
theorem dX4_repost_4 : decode cX4_repost 4 = .ok (.aload_n 0, 1) := by decide +kernel
theorem dX4_repost_5 : decode cX4_repost 5 = .ok (.iload_n 2, 1) := by decide +kernel
theorem dX4_repost_6 : decode cX4_repost 6 = .ok (.invokevirtual 95, 3) := by decide +kernel
theorem dX4_repost_9 : decode cX4_repost 9 = .ok (.aload_n 0, 1) := by decide +kernel
theorem dX4_repost_10 : decode cX4_repost 10 = .ok (.invokevirtual 85, 3) := by decide +kernel
theorem dX4_repost_13 : decode cX4_repost 13 = .ok (.aload_n 0, 1) := by decide +kernel
theorem dX4_repost_14 : decode cX4_repost 14 = .ok (.getfield 25, 3) := by decide +kernel
theorem dX4_repost_17 : decode cX4_repost 17 = .ok (.iload_n 2, 1) := by decide +kernel
theorem dX4_repost_18 : decode cX4_repost 18 = .ok (.invokevirtual 98, 3) := by decide +kernel
theorem dX4_repost_21 : decode cX4_repost 21 = .ok (.istore_n 3, 1) := by decide +kernel
theorem dX4_repost_22 : decode cX4_repost 22 = .ok (.aload_n 0, 1) := by decide +kernel
theorem dX4_repost_23 : decode cX4_repost 23 = .ok (.getfield 25, 3) := by decide +kernel
theorem dX4_repost_26 : decode cX4_repost 26 = .ok (.iload_n 2, 1) := by decide +kernel
theorem dX4_repost_27 : decode cX4_repost 27 = .ok (.invokevirtual 101, 3) := by decide +kernel
theorem dX4_repost_30 : decode cX4_repost 30 = .ok (.ifCond .eq 14, 3) := by decide +kernel
theorem dX4_repost_33 : decode cX4_repost 33 = .ok (.aload_n 0, 1) := by decide +kernel
theorem dX4_repost_34 : decode cX4_repost 34 = .ok (.getfield 25, 3) := by decide +kernel
theorem dX4_repost_37 : decode cX4_repost 37 = .ok (.iload_n 3, 1) := by decide +kernel
theorem dX4_repost_38 : decode cX4_repost 38 = .ok (.invokevirtual 101, 3) := by decide +kernel
theorem dX4_repost_41 : decode cX4_repost 41 = .ok (.ifCond .ne 13, 3) := by decide +kernel
theorem dX4_repost_44 : decode cX4_repost 44 = .ok (.new 63, 3) := by decide +kernel
theorem dX4_repost_47 : decode cX4_repost 47 = .ok (.dup, 1) := by decide +kernel
theorem dX4_repost_48 : decode cX4_repost 48 = .ok (.ldc 105, 2) := by decide +kernel
theorem dX4_repost_50 : decode cX4_repost 50 = .ok (.invokespecial 67, 3) := by decide +kernel
theorem dX4_repost_53 : decode cX4_repost 53 = .ok (.athrow, 1) := by decide +kernel
theorem dX4_repost_54 : decode cX4_repost 54 = .ok (.aload_n 0, 1) := by decide +kernel
theorem dX4_repost_55 : decode cX4_repost 55 = .ok (.getfield 19, 3) := by decide +kernel
theorem dX4_repost_58 : decode cX4_repost 58 = .ok (.aload_n 0, 1) := by decide +kernel
theorem dX4_repost_59 : decode cX4_repost 59 = .ok (.getfield 25, 3) := by decide +kernel
theorem dX4_repost_62 : decode cX4_repost 62 = .ok (.iload_n 3, 1) := by decide +kernel
theorem dX4_repost_63 : decode cX4_repost 63 = .ok (.invokevirtual 107, 3) := by decide +kernel
theorem dX4_repost_66 : decode cX4_repost 66 = .ok (.iload_n 1, 1) := by decide +kernel
theorem dX4_repost_67 : decode cX4_repost 67 = .ok (.invokevirtual 59, 3) := by decide +kernel
theorem dX4_repost_70 : decode cX4_repost 70 = .ok (.ifCond .eq 13, 3) := by decide +kernel
theorem dX4_repost_73 : decode cX4_repost 73 = .ok (.new 63, 3) := by decide +kernel
theorem dX4_repost_76 : decode cX4_repost 76 = .ok (.dup, 1) := by decide +kernel
theorem dX4_repost_77 : decode cX4_repost 77 = .ok (.ldc 110, 2) := by decide +kernel
theorem dX4_repost_79 : decode cX4_repost 79 = .ok (.invokespecial 67, 3) := by decide +kernel
theorem dX4_repost_82 : decode cX4_repost 82 = .ok (.athrow, 1) := by decide +kernel
theorem dX4_repost_83 : decode cX4_repost 83 = .ok (.aload_n 0, 1) := by decide +kernel
theorem dX4_repost_84 : decode cX4_repost 84 = .ok (.getfield 25, 3) := by decide +kernel
theorem dX4_repost_87 : decode cX4_repost 87 = .ok (.invokevirtual 88, 3) := by decide +kernel
theorem dX4_repost_90 : decode cX4_repost 90 = .ok (.istore 4, 2) := by decide +kernel
theorem dX4_repost_92 : decode cX4_repost 92 = .ok (.aload_n 0, 1) := by decide +kernel
theorem dX4_repost_93 : decode cX4_repost 93 = .ok (.getfield 25, 3) := by decide +kernel
theorem dX4_repost_96 : decode cX4_repost 96 = .ok (.iload_n 1, 1) := by decide +kernel
theorem dX4_repost_97 : decode cX4_repost 97 = .ok (.iload_n 3, 1) := by decide +kernel
theorem dX4_repost_98 : decode cX4_repost 98 = .ok (.invokevirtual 92, 3) := by decide +kernel
theorem dX4_repost_101 : decode cX4_repost 101 = .ok (.aload_n 0, 1) := by decide +kernel
theorem dX4_repost_102 : decode cX4_repost 102 = .ok (.invokevirtual 76, 3) := by decide +kernel
theorem dX4_repost_105 : decode cX4_repost 105 = .ok (.iload 4, 2) := by decide +kernel
theorem dX4_repost_107 : decode cX4_repost 107 = .ok (.ireturn, 1) := by decide +kernel
set_option maxRecDepth 20000 in
theorem ggX4_delete_X4_checkEntry : GoodIn wsX4_delete wsX4_checkEntry := goodIn_ca (goodIn_r _ [8, 9, 10, 3, 11, 12, 13, 14, 15, 16, 108, 109, 110, 111, 112, 113, 114, 115, 116, 117, 118, 119] (by decide +kernel) (by decide +kernel)) (goodIn_sub (fun _ h => List.mem_cons_of_mem _ (List.mem_append_right _ h)) (by decide +kernel))
set_option maxRecDepth 20000 in
theorem gX4_delete_X4_checkEntry : GoodIn wsX4_delete (wsV RX4 95 RX4 yX4_checkEntry wsX4_checkEntry) := goodIn_app (goodIn_of _ (by decide +kernel)) ggX4_delete_X4_checkEntry
set_option maxRecDepth 20000 in
theorem ggX4_delete_X0_stands : GoodIn wsX4_delete wsX0_stands := goodIn_r _ [20, 21, 22, 12, 13, 14, 15, 16, 116, 117, 118, 119] (by decide +kernel) (by decide +kernel)
set_option maxRecDepth 20000 in
theorem gX4_delete_X0_stands : GoodIn wsX4_delete (wsV RX4 101 RX0 yX0_stands wsX0_stands) := goodIn_app (goodIn_of _ (by decide +kernel)) ggX4_delete_X0_stands
set_option maxRecDepth 20000 in
theorem ggX4_delete_X0_remove : GoodIn wsX4_delete wsX0_remove := goodIn_r _ [26, 21, 22, 12, 13, 14, 15, 16, 116, 117, 118, 119] (by decide +kernel) (by decide +kernel)
set_option maxRecDepth 20000 in
theorem gX4_delete_X0_remove : GoodIn wsX4_delete (wsV RX4 114 RX0 yX0_remove wsX0_remove) := goodIn_app (goodIn_of _ (by decide +kernel)) ggX4_delete_X0_remove
set_option maxRecDepth 20000 in
theorem ggX4_delete_X4_settleRows : GoodIn wsX4_delete wsX4_settleRows := goodIn_r _ [30, 31, 32, 33, 34, 7, 35, 3, 36, 37, 38, 39, 40, 41, 42, 43, 44, 45, 46, 47, 48, 49, 50, 14, 51, 16, 52, 53, 54, 55, 56, 57, 58, 59, 60, 61, 62, 63, 64, 65, 66, 22, 12, 13, 15, 17, 18, 19, 20, 21, 67, 68, 69, 70, 71, 72, 73, 74, 75, 76, 77, 78, 79, 80, 81, 82, 83, 84, 85, 86, 87, 88, 89, 90, 91, 92, 93, 94, 95, 96, 97, 108, 109, 110, 111, 112, 113, 114, 115, 120, 121, 122, 123, 116, 117, 118, 119, 124] (by decide +kernel) (by decide +kernel)
set_option maxRecDepth 20000 in
theorem gX4_delete_X4_settleRows : GoodIn wsX4_delete (wsV RX4 76 RX4 yX4_settleRows wsX4_settleRows) := goodIn_app (goodIn_of _ (by decide +kernel)) ggX4_delete_X4_settleRows
set_option maxRecDepth 20000 in
theorem ggX4_delete_X0_countStandingOf : GoodIn wsX4_delete wsX0_countStandingOf := goodIn_r _ [101, 16, 102, 103, 104, 14, 105, 106, 22, 12, 13, 15, 107, 18, 19, 20, 21, 116, 117, 118, 119] (by decide +kernel) (by decide +kernel)
set_option maxRecDepth 20000 in
theorem gX4_delete_X0_countStandingOf : GoodIn wsX4_delete (wsV RX4 117 RX0 yX0_countStandingOf wsX0_countStandingOf) := goodIn_app (goodIn_of _ (by decide +kernel)) ggX4_delete_X0_countStandingOf
theorem dX4_delete_0 : decode cX4_delete 0 = .ok (.aload_n 0, 1) := by decide +kernel
theorem dX4_delete_1 : decode cX4_delete 1 = .ok (.iload_n 1, 1) := by decide +kernel
theorem dX4_delete_2 : decode cX4_delete 2 = .ok (.invokevirtual 95, 3) := by decide +kernel
theorem dX4_delete_5 : decode cX4_delete 5 = .ok (.aload_n 0, 1) := by decide +kernel
theorem dX4_delete_6 : decode cX4_delete 6 = .ok (.getfield 25, 3) := by decide +kernel
theorem dX4_delete_9 : decode cX4_delete 9 = .ok (.iload_n 1, 1) := by decide +kernel
theorem dX4_delete_10 : decode cX4_delete 10 = .ok (.invokevirtual 101, 3) := by decide +kernel
theorem dX4_delete_13 : decode cX4_delete 13 = .ok (.ifCond .ne 13, 3) := by decide +kernel
theorem dX4_delete_16 : decode cX4_delete 16 = .ok (.new 63, 3) := by decide +kernel
theorem dX4_delete_19 : decode cX4_delete 19 = .ok (.dup, 1) := by decide +kernel
theorem dX4_delete_20 : decode cX4_delete 20 = .ok (.ldc 112, 2) := by decide +kernel
theorem dX4_delete_22 : decode cX4_delete 22 = .ok (.invokespecial 67, 3) := by decide +kernel
theorem dX4_delete_25 : decode cX4_delete 25 = .ok (.athrow, 1) := by decide +kernel
theorem dX4_delete_26 : decode cX4_delete 26 = .ok (.aload_n 0, 1) := by decide +kernel
theorem dX4_delete_27 : decode cX4_delete 27 = .ok (.getfield 25, 3) := by decide +kernel
theorem dX4_delete_30 : decode cX4_delete 30 = .ok (.iload_n 1, 1) := by decide +kernel
theorem dX4_delete_31 : decode cX4_delete 31 = .ok (.invokevirtual 114, 3) := by decide +kernel
theorem dX4_delete_34 : decode cX4_delete 34 = .ok (.aload_n 0, 1) := by decide +kernel
theorem dX4_delete_35 : decode cX4_delete 35 = .ok (.invokevirtual 76, 3) := by decide +kernel
theorem dX4_delete_38 : decode cX4_delete 38 = .ok (.aload_n 0, 1) := by decide +kernel
theorem dX4_delete_39 : decode cX4_delete 39 = .ok (.getfield 25, 3) := by decide +kernel
theorem dX4_delete_42 : decode cX4_delete 42 = .ok (.iload_n 1, 1) := by decide +kernel
theorem dX4_delete_43 : decode cX4_delete 43 = .ok (.invokevirtual 117, 3) := by decide +kernel
theorem dX4_delete_46 : decode cX4_delete 46 = .ok (.ireturn, 1) := by decide +kernel
set_option maxRecDepth 20000 in
theorem ggX4_setMark_X4_checkRange : GoodIn wsX4_setMark wsX4_checkRange := goodIn_ca (goodIn_r _ [5, 6, 7] (by decide +kernel) (by decide +kernel)) (goodIn_sub (fun _ h => List.mem_cons_of_mem _ (List.mem_append_right _ h)) (by decide +kernel))
set_option maxRecDepth 20000 in
theorem gX4_setMark_X4_checkRange : GoodIn wsX4_setMark (va_wsS RX4 120 yX4_checkRange wsX4_checkRange) := goodIn_app (goodIn_of _ (by decide +kernel)) ggX4_setMark_X4_checkRange
set_option maxRecDepth 20000 in
theorem ggX4_setMark_X4_settleRows : GoodIn wsX4_setMark wsX4_settleRows := goodIn_r _ [11, 12, 13, 14, 15, 4, 16, 17, 18, 19, 20, 21, 22, 23, 24, 25, 26, 27, 28, 29, 30, 31, 32, 33, 34, 35, 36, 37, 38, 39, 40, 41, 42, 43, 44, 45, 46, 47, 48, 49, 50, 51, 52, 53, 54, 55, 56, 57, 58, 59, 60, 61, 62, 63, 64, 65, 66, 67, 68, 69, 70, 71, 1, 72, 73, 74, 75, 76, 77, 78, 79, 80, 81, 82, 83, 84, 85, 86, 87, 88, 89, 94, 95, 96, 97, 98, 99, 100, 101, 102, 103, 104, 105, 106, 107, 108, 109, 110] (by decide +kernel) (by decide +kernel)
set_option maxRecDepth 20000 in
theorem gX4_setMark_X4_settleRows : GoodIn wsX4_setMark (wsV RX4 76 RX4 yX4_settleRows wsX4_settleRows) := goodIn_app (goodIn_of _ (by decide +kernel)) ggX4_setMark_X4_settleRows
set_option maxRecDepth 20000 in
theorem ggX4_setMark_X4_countLarge : GoodIn wsX4_setMark wsX4_countLarge := goodIn_r _ [93, 68, 69, 70, 4, 71, 45, 1, 72, 73, 74, 63, 75, 76, 61, 62, 64, 65, 66, 67, 94, 95, 96, 97, 98, 99, 100, 101, 110] (by decide +kernel) (by decide +kernel)
set_option maxRecDepth 20000 in
theorem gX4_setMark_X4_countLarge : GoodIn wsX4_setMark (wsV RX4 124 RX4 yX4_countLarge wsX4_countLarge) := goodIn_app (goodIn_of _ (by decide +kernel)) ggX4_setMark_X4_countLarge
theorem dX4_setMark_0 : decode cX4_setMark 0 = .ok (.iload_n 1, 1) := by decide +kernel
theorem dX4_setMark_1 : decode cX4_setMark 1 = .ok (.iconst 0, 1) := by decide +kernel
theorem dX4_setMark_2 : decode cX4_setMark 2 = .ok (.bipush 8, 2) := by decide +kernel
theorem dX4_setMark_4 : decode cX4_setMark 4 = .ok (.invokestatic 120, 3) := by decide +kernel
theorem dX4_setMark_7 : decode cX4_setMark 7 = .ok (.aload_n 0, 1) := by decide +kernel
theorem dX4_setMark_8 : decode cX4_setMark 8 = .ok (.iload_n 1, 1) := by decide +kernel
theorem dX4_setMark_9 : decode cX4_setMark 9 = .ok (.putfield 42, 3) := by decide +kernel
theorem dX4_setMark_12 : decode cX4_setMark 12 = .ok (.aload_n 0, 1) := by decide +kernel
theorem dX4_setMark_13 : decode cX4_setMark 13 = .ok (.invokevirtual 76, 3) := by decide +kernel
theorem dX4_setMark_16 : decode cX4_setMark 16 = .ok (.aload_n 0, 1) := by decide +kernel
theorem dX4_setMark_17 : decode cX4_setMark 17 = .ok (.invokevirtual 124, 3) := by decide +kernel
theorem dX4_setMark_20 : decode cX4_setMark 20 = .ok (.ireturn, 1) := by decide +kernel
set_option maxRecDepth 20000 in
theorem ggX4_setRoom_X4_checkRange : GoodIn wsX4_setRoom wsX4_checkRange := goodIn_ca (goodIn_r _ [5, 6, 7] (by decide +kernel) (by decide +kernel)) (goodIn_sub (fun _ h => List.mem_cons_of_mem _ (List.mem_append_right _ h)) (by decide +kernel))
set_option maxRecDepth 20000 in
theorem gX4_setRoom_X4_checkRange : GoodIn wsX4_setRoom (va_wsS RX4 120 yX4_checkRange wsX4_checkRange) := goodIn_app (goodIn_of _ (by decide +kernel)) ggX4_setRoom_X4_checkRange
set_option maxRecDepth 20000 in
theorem ggX4_setRoom_X4_settleRows : GoodIn wsX4_setRoom wsX4_settleRows := goodIn_r _ [11, 12, 13, 14, 15, 4, 16, 17, 1, 18, 19, 20, 21, 22, 23, 24, 25, 26, 27, 28, 29, 30, 31, 32, 33, 34, 35, 36, 37, 38, 39, 40, 41, 42, 43, 44, 45, 46, 47, 48, 49, 50, 51, 52, 53, 54, 55, 56, 57, 58, 59, 60, 61, 62, 63, 64, 65, 66, 67, 68, 69, 70, 71, 72, 73, 74, 75, 76, 77, 78, 79, 80, 81, 82, 83, 84, 85, 86, 87, 88, 89, 90, 91, 92, 93, 94, 95, 96, 97, 98, 99, 100, 101, 102, 103, 104, 105, 106] (by decide +kernel) (by decide +kernel)
set_option maxRecDepth 20000 in
theorem gX4_setRoom_X4_settleRows : GoodIn wsX4_setRoom (wsV RX4 76 RX4 yX4_settleRows wsX4_settleRows) := goodIn_app (goodIn_of _ (by decide +kernel)) ggX4_setRoom_X4_settleRows
theorem dX4_setRoom_0 : decode cX4_setRoom 0 = .ok (.iload_n 1, 1) := by decide +kernel
theorem dX4_setRoom_1 : decode cX4_setRoom 1 = .ok (.iconst 1, 1) := by decide +kernel
theorem dX4_setRoom_2 : decode cX4_setRoom 2 = .ok (.bipush 40, 2) := by decide +kernel
theorem dX4_setRoom_4 : decode cX4_setRoom 4 = .ok (.invokestatic 120, 3) := by decide +kernel
theorem dX4_setRoom_7 : decode cX4_setRoom 7 = .ok (.aload_n 0, 1) := by decide +kernel
theorem dX4_setRoom_8 : decode cX4_setRoom 8 = .ok (.getfield 46, 3) := by decide +kernel
theorem dX4_setRoom_11 : decode cX4_setRoom 11 = .ok (.istore_n 2, 1) := by decide +kernel
theorem dX4_setRoom_12 : decode cX4_setRoom 12 = .ok (.aload_n 0, 1) := by decide +kernel
theorem dX4_setRoom_13 : decode cX4_setRoom 13 = .ok (.iload_n 1, 1) := by decide +kernel
theorem dX4_setRoom_14 : decode cX4_setRoom 14 = .ok (.putfield 46, 3) := by decide +kernel
theorem dX4_setRoom_17 : decode cX4_setRoom 17 = .ok (.aload_n 0, 1) := by decide +kernel
theorem dX4_setRoom_18 : decode cX4_setRoom 18 = .ok (.invokevirtual 76, 3) := by decide +kernel
theorem dX4_setRoom_21 : decode cX4_setRoom 21 = .ok (.iload_n 2, 1) := by decide +kernel
theorem dX4_setRoom_22 : decode cX4_setRoom 22 = .ok (.ireturn, 1) := by decide +kernel
set_option maxRecDepth 20000 in
theorem ggX4_entries_X0_made : GoodIn wsX4_entries wsX0_made := goodIn_r _ [6, 7, 16, 17, 18, 19] (by decide +kernel) (by decide +kernel)
set_option maxRecDepth 20000 in
theorem gX4_entries_X0_made : GoodIn wsX4_entries (wsV RX4 88 RX0 yX0_made wsX0_made) := goodIn_app (goodIn_of _ (by decide +kernel)) ggX4_entries_X0_made
theorem dX4_entries_0 : decode cX4_entries 0 = .ok (.aload_n 0, 1) := by decide +kernel
theorem dX4_entries_1 : decode cX4_entries 1 = .ok (.getfield 25, 3) := by decide +kernel
theorem dX4_entries_4 : decode cX4_entries 4 = .ok (.invokevirtual 88, 3) := by decide +kernel
theorem dX4_entries_7 : decode cX4_entries 7 = .ok (.ireturn, 1) := by decide +kernel
set_option maxRecDepth 20000 in
theorem ggX4_authorOf_X4_checkEntry : GoodIn wsX4_authorOf wsX4_checkEntry := goodIn_ca (goodIn_r _ [6, 7, 8, 1, 9, 10, 11, 12, 13, 14, 21, 22, 23, 24, 25, 26, 27, 28, 29, 30, 31, 32] (by decide +kernel) (by decide +kernel)) (goodIn_sub (fun _ h => List.mem_cons_of_mem _ (List.mem_append_right _ h)) (by decide +kernel))
set_option maxRecDepth 20000 in
theorem gX4_authorOf_X4_checkEntry : GoodIn wsX4_authorOf (wsV RX4 95 RX4 yX4_checkEntry wsX4_checkEntry) := goodIn_app (goodIn_of _ (by decide +kernel)) ggX4_authorOf_X4_checkEntry
set_option maxRecDepth 20000 in
theorem ggX4_authorOf_X0_author : GoodIn wsX4_authorOf wsX0_author := goodIn_r _ [18, 19, 20, 10, 11, 12, 13, 14, 29, 30, 31, 32] (by decide +kernel) (by decide +kernel)
set_option maxRecDepth 20000 in
theorem gX4_authorOf_X0_author : GoodIn wsX4_authorOf (wsV RX4 107 RX0 yX0_author wsX0_author) := goodIn_app (goodIn_of _ (by decide +kernel)) ggX4_authorOf_X0_author
theorem dX4_authorOf_0 : decode cX4_authorOf 0 = .ok (.aload_n 0, 1) := by decide +kernel
theorem dX4_authorOf_1 : decode cX4_authorOf 1 = .ok (.iload_n 1, 1) := by decide +kernel
theorem dX4_authorOf_2 : decode cX4_authorOf 2 = .ok (.invokevirtual 95, 3) := by decide +kernel
theorem dX4_authorOf_5 : decode cX4_authorOf 5 = .ok (.aload_n 0, 1) := by decide +kernel
theorem dX4_authorOf_6 : decode cX4_authorOf 6 = .ok (.getfield 25, 3) := by decide +kernel
theorem dX4_authorOf_9 : decode cX4_authorOf 9 = .ok (.iload_n 1, 1) := by decide +kernel
theorem dX4_authorOf_10 : decode cX4_authorOf 10 = .ok (.invokevirtual 107, 3) := by decide +kernel
theorem dX4_authorOf_13 : decode cX4_authorOf 13 = .ok (.ireturn, 1) := by decide +kernel
set_option maxRecDepth 20000 in
theorem ggX4_originOf_X4_checkEntry : GoodIn wsX4_originOf wsX4_checkEntry := goodIn_ca (goodIn_r _ [6, 7, 8, 1, 9, 10, 11, 12, 13, 14, 21, 22, 23, 24, 25, 26, 27, 28, 29, 30, 31, 32] (by decide +kernel) (by decide +kernel)) (goodIn_sub (fun _ h => List.mem_cons_of_mem _ (List.mem_append_right _ h)) (by decide +kernel))
set_option maxRecDepth 20000 in
theorem gX4_originOf_X4_checkEntry : GoodIn wsX4_originOf (wsV RX4 95 RX4 yX4_checkEntry wsX4_checkEntry) := goodIn_app (goodIn_of _ (by decide +kernel)) ggX4_originOf_X4_checkEntry
set_option maxRecDepth 20000 in
theorem ggX4_originOf_X0_origin : GoodIn wsX4_originOf wsX0_origin := goodIn_r _ [18, 19, 20, 10, 11, 12, 13, 14, 29, 30, 31, 32] (by decide +kernel) (by decide +kernel)
set_option maxRecDepth 20000 in
theorem gX4_originOf_X0_origin : GoodIn wsX4_originOf (wsV RX4 98 RX0 yX0_origin wsX0_origin) := goodIn_app (goodIn_of _ (by decide +kernel)) ggX4_originOf_X0_origin
theorem dX4_originOf_0 : decode cX4_originOf 0 = .ok (.aload_n 0, 1) := by decide +kernel
theorem dX4_originOf_1 : decode cX4_originOf 1 = .ok (.iload_n 1, 1) := by decide +kernel
theorem dX4_originOf_2 : decode cX4_originOf 2 = .ok (.invokevirtual 95, 3) := by decide +kernel
theorem dX4_originOf_5 : decode cX4_originOf 5 = .ok (.aload_n 0, 1) := by decide +kernel
theorem dX4_originOf_6 : decode cX4_originOf 6 = .ok (.getfield 25, 3) := by decide +kernel
theorem dX4_originOf_9 : decode cX4_originOf 9 = .ok (.iload_n 1, 1) := by decide +kernel
theorem dX4_originOf_10 : decode cX4_originOf 10 = .ok (.invokevirtual 98, 3) := by decide +kernel
theorem dX4_originOf_13 : decode cX4_originOf 13 = .ok (.ireturn, 1) := by decide +kernel
set_option maxRecDepth 20000 in
theorem ggX4_follows_X4_checkPerson : GoodIn wsX4_follows wsX4_checkPerson := goodIn_ca (goodIn_r _ [5, 6, 7, 8, 9, 4, 10] (by decide +kernel) (by decide +kernel)) (goodIn_sub (fun _ h => List.mem_cons_of_mem _ (List.mem_append_right _ h)) (by decide +kernel))
set_option maxRecDepth 20000 in
theorem gX4_follows_X4_checkPerson : GoodIn wsX4_follows (va_wsS RX4 52 yX4_checkPerson wsX4_checkPerson) := goodIn_app (goodIn_of _ (by decide +kernel)) ggX4_follows_X4_checkPerson
set_option maxRecDepth 20000 in
theorem ggX4_follows_X1_has : GoodIn wsX4_follows wsX1_has := goodIn_r _ [15, 16, 9, 4, 10, 25] (by decide +kernel) (by decide +kernel)
set_option maxRecDepth 20000 in
theorem gX4_follows_X1_has : GoodIn wsX4_follows (wsV RX4 59 RX1 yX1_has wsX1_has) := goodIn_app (goodIn_of _ (by decide +kernel)) ggX4_follows_X1_has
theorem dX4_follows_0 : decode cX4_follows 0 = .ok (.iload_n 1, 1) := by decide +kernel
theorem dX4_follows_1 : decode cX4_follows 1 = .ok (.invokestatic 52, 3) := by decide +kernel
theorem dX4_follows_4 : decode cX4_follows 4 = .ok (.iload_n 2, 1) := by decide +kernel
theorem dX4_follows_5 : decode cX4_follows 5 = .ok (.invokestatic 52, 3) := by decide +kernel
theorem dX4_follows_8 : decode cX4_follows 8 = .ok (.aload_n 0, 1) := by decide +kernel
theorem dX4_follows_9 : decode cX4_follows 9 = .ok (.getfield 10, 3) := by decide +kernel
theorem dX4_follows_12 : decode cX4_follows 12 = .ok (.iload_n 1, 1) := by decide +kernel
theorem dX4_follows_13 : decode cX4_follows 13 = .ok (.iload_n 2, 1) := by decide +kernel
theorem dX4_follows_14 : decode cX4_follows 14 = .ok (.invokevirtual 59, 3) := by decide +kernel
theorem dX4_follows_17 : decode cX4_follows 17 = .ok (.ireturn, 1) := by decide +kernel
set_option maxRecDepth 20000 in
theorem ggX4_followers_X4_checkPerson : GoodIn wsX4_followers wsX4_checkPerson := goodIn_ca (goodIn_r _ [5, 6, 7, 8, 9, 4, 10] (by decide +kernel) (by decide +kernel)) (goodIn_sub (fun _ h => List.mem_cons_of_mem _ (List.mem_append_right _ h)) (by decide +kernel))
set_option maxRecDepth 20000 in
theorem gX4_followers_X4_checkPerson : GoodIn wsX4_followers (va_wsS RX4 52 yX4_checkPerson wsX4_checkPerson) := goodIn_app (goodIn_of _ (by decide +kernel)) ggX4_followers_X4_checkPerson
set_option maxRecDepth 20000 in
theorem ggX4_followers_X1_countTo : GoodIn wsX4_followers wsX1_countTo := goodIn_r _ [15, 16, 17, 18, 14, 19, 20, 9, 4, 10, 29] (by decide +kernel) (by decide +kernel)
set_option maxRecDepth 20000 in
theorem gX4_followers_X1_countTo : GoodIn wsX4_followers (wsV RX4 79 RX1 yX1_countTo wsX1_countTo) := goodIn_app (goodIn_of _ (by decide +kernel)) ggX4_followers_X1_countTo
theorem dX4_followers_0 : decode cX4_followers 0 = .ok (.iload_n 1, 1) := by decide +kernel
theorem dX4_followers_1 : decode cX4_followers 1 = .ok (.invokestatic 52, 3) := by decide +kernel
theorem dX4_followers_4 : decode cX4_followers 4 = .ok (.aload_n 0, 1) := by decide +kernel
theorem dX4_followers_5 : decode cX4_followers 5 = .ok (.getfield 10, 3) := by decide +kernel
theorem dX4_followers_8 : decode cX4_followers 8 = .ok (.iload_n 1, 1) := by decide +kernel
theorem dX4_followers_9 : decode cX4_followers 9 = .ok (.invokevirtual 79, 3) := by decide +kernel
theorem dX4_followers_12 : decode cX4_followers 12 = .ok (.ireturn, 1) := by decide +kernel
set_option maxRecDepth 20000 in
theorem ggX4_isLarge_X4_checkPerson : GoodIn wsX4_isLarge wsX4_checkPerson := goodIn_ca (goodIn_r _ [4, 5, 6, 7, 8, 3, 9] (by decide +kernel) (by decide +kernel)) (goodIn_sub (fun _ h => List.mem_cons_of_mem _ (List.mem_append_right _ h)) (by decide +kernel))
set_option maxRecDepth 20000 in
theorem gX4_isLarge_X4_checkPerson : GoodIn wsX4_isLarge (va_wsS RX4 52 yX4_checkPerson wsX4_checkPerson) := goodIn_app (goodIn_of _ (by decide +kernel)) ggX4_isLarge_X4_checkPerson
set_option maxRecDepth 20000 in
theorem ggX4_isLarge_X4_isOverMark : GoodIn wsX4_isLarge wsX4_isOverMark := goodIn_r _ [13, 14, 15, 16, 17, 18, 19, 20, 21, 22, 23, 24, 25, 8, 3, 9, 26, 27, 28, 29, 30, 31, 32, 33, 34] (by decide +kernel) (by decide +kernel)
set_option maxRecDepth 20000 in
theorem gX4_isLarge_X4_isOverMark : GoodIn wsX4_isLarge (wsV RX4 127 RX4 yX4_isOverMark wsX4_isOverMark) := goodIn_app (goodIn_of _ (by decide +kernel)) ggX4_isLarge_X4_isOverMark
theorem dX4_isLarge_0 : decode cX4_isLarge 0 = .ok (.iload_n 1, 1) := by decide +kernel
theorem dX4_isLarge_1 : decode cX4_isLarge 1 = .ok (.invokestatic 52, 3) := by decide +kernel
theorem dX4_isLarge_4 : decode cX4_isLarge 4 = .ok (.aload_n 0, 1) := by decide +kernel
theorem dX4_isLarge_5 : decode cX4_isLarge 5 = .ok (.iload_n 1, 1) := by decide +kernel
theorem dX4_isLarge_6 : decode cX4_isLarge 6 = .ok (.invokevirtual 127, 3) := by decide +kernel
theorem dX4_isLarge_9 : decode cX4_isLarge 9 = .ok (.ireturn, 1) := by decide +kernel
set_option maxRecDepth 20000 in
theorem ggX4_inRow_X4_rowOf : GoodIn wsX4_inRow wsX4_rowOf := goodIn_ca (goodIn_r _ [5, 6, 7, 8, 4, 9, 10, 11, 12, 13, 14, 21, 22, 23, 24, 25, 26, 27, 28] (by decide +kernel) (by decide +kernel)) (goodIn_sub (fun _ h => List.mem_cons_of_mem _ (List.mem_append_right _ h)) (by decide +kernel))
set_option maxRecDepth 20000 in
theorem gX4_inRow_X4_rowOf : GoodIn wsX4_inRow (wsV RX4 130 RX4 yX4_rowOf wsX4_rowOf) := goodIn_app (goodIn_of _ (by decide +kernel)) ggX4_inRow_X4_rowOf
set_option maxRecDepth 20000 in
theorem ggX4_inRow_X2_count : GoodIn wsX4_inRow wsX2_count := goodIn_r _ [19, 20, 29, 30, 31, 32] (by decide +kernel) (by decide +kernel)
set_option maxRecDepth 20000 in
theorem gX4_inRow_X2_count : GoodIn wsX4_inRow (wsV RX4 134 RX2 yX2_count wsX2_count) := goodIn_app (goodIn_of _ (by decide +kernel)) ggX4_inRow_X2_count
theorem dX4_inRow_0 : decode cX4_inRow 0 = .ok (.aload_n 0, 1) := by decide +kernel
theorem dX4_inRow_1 : decode cX4_inRow 1 = .ok (.iload_n 1, 1) := by decide +kernel
theorem dX4_inRow_2 : decode cX4_inRow 2 = .ok (.invokevirtual 130, 3) := by decide +kernel
theorem dX4_inRow_5 : decode cX4_inRow 5 = .ok (.invokevirtual 134, 3) := by decide +kernel
theorem dX4_inRow_8 : decode cX4_inRow 8 = .ok (.ireturn, 1) := by decide +kernel
set_option maxRecDepth 20000 in
theorem ggX4_rowAt_X4_rowOf : GoodIn wsX4_rowAt wsX4_rowOf := goodIn_ca (goodIn_r _ [7, 8, 9, 10, 6, 11, 1, 2, 12, 13, 14, 26, 27, 28, 29, 30, 31, 32, 33] (by decide +kernel) (by decide +kernel)) (goodIn_sub (fun _ h => List.mem_cons_of_mem _ (List.mem_append_right _ h)) (by decide +kernel))
set_option maxRecDepth 20000 in
theorem gX4_rowAt_X4_rowOf : GoodIn wsX4_rowAt (wsV RX4 130 RX4 yX4_rowOf wsX4_rowOf) := goodIn_app (goodIn_of _ (by decide +kernel)) ggX4_rowAt_X4_rowOf
set_option maxRecDepth 20000 in
theorem ggX4_rowAt_X2_count : GoodIn wsX4_rowAt wsX2_count := goodIn_r _ [19, 20, 34, 35, 36, 37] (by decide +kernel) (by decide +kernel)
set_option maxRecDepth 20000 in
theorem gX4_rowAt_X2_count : GoodIn wsX4_rowAt (wsV RX4 134 RX2 yX2_count wsX2_count) := goodIn_app (goodIn_of _ (by decide +kernel)) ggX4_rowAt_X2_count
set_option maxRecDepth 20000 in
theorem ggX4_rowAt_X2_fromNewest : GoodIn wsX4_rowAt wsX2_fromNewest := goodIn_r _ [24, 20, 25, 34, 35, 36, 37] (by decide +kernel) (by decide +kernel)
set_option maxRecDepth 20000 in
theorem gX4_rowAt_X2_fromNewest : GoodIn wsX4_rowAt (wsV RX4 142 RX2 yX2_fromNewest wsX2_fromNewest) := goodIn_app (goodIn_of _ (by decide +kernel)) ggX4_rowAt_X2_fromNewest
theorem dX4_rowAt_0 : decode cX4_rowAt 0 = .ok (.aload_n 0, 1) := by decide +kernel
theorem dX4_rowAt_1 : decode cX4_rowAt 1 = .ok (.iload_n 1, 1) := by decide +kernel
theorem dX4_rowAt_2 : decode cX4_rowAt 2 = .ok (.invokevirtual 130, 3) := by decide +kernel
theorem dX4_rowAt_5 : decode cX4_rowAt 5 = .ok (.astore_n 3, 1) := by decide +kernel
theorem dX4_rowAt_6 : decode cX4_rowAt 6 = .ok (.iload_n 2, 1) := by decide +kernel
theorem dX4_rowAt_7 : decode cX4_rowAt 7 = .ok (.ifCond .lt 11, 3) := by decide +kernel
theorem dX4_rowAt_10 : decode cX4_rowAt 10 = .ok (.iload_n 2, 1) := by decide +kernel
theorem dX4_rowAt_11 : decode cX4_rowAt 11 = .ok (.aload_n 3, 1) := by decide +kernel
theorem dX4_rowAt_12 : decode cX4_rowAt 12 = .ok (.invokevirtual 134, 3) := by decide +kernel
theorem dX4_rowAt_15 : decode cX4_rowAt 15 = .ok (.if_icmp .lt 13, 3) := by decide +kernel
theorem dX4_rowAt_18 : decode cX4_rowAt 18 = .ok (.new 137, 3) := by decide +kernel
theorem dX4_rowAt_21 : decode cX4_rowAt 21 = .ok (.dup, 1) := by decide +kernel
theorem dX4_rowAt_22 : decode cX4_rowAt 22 = .ok (.ldc 139, 2) := by decide +kernel
theorem dX4_rowAt_24 : decode cX4_rowAt 24 = .ok (.invokespecial 141, 3) := by decide +kernel
theorem dX4_rowAt_27 : decode cX4_rowAt 27 = .ok (.athrow, 1) := by decide +kernel
theorem dX4_rowAt_28 : decode cX4_rowAt 28 = .ok (.aload_n 3, 1) := by decide +kernel
theorem dX4_rowAt_29 : decode cX4_rowAt 29 = .ok (.aload_n 3, 1) := by decide +kernel
theorem dX4_rowAt_30 : decode cX4_rowAt 30 = .ok (.invokevirtual 134, 3) := by decide +kernel
theorem dX4_rowAt_33 : decode cX4_rowAt 33 = .ok (.iconst 1, 1) := by decide +kernel
theorem dX4_rowAt_34 : decode cX4_rowAt 34 = .ok (.isub, 1) := by decide +kernel
theorem dX4_rowAt_35 : decode cX4_rowAt 35 = .ok (.iload_n 2, 1) := by decide +kernel
theorem dX4_rowAt_36 : decode cX4_rowAt 36 = .ok (.isub, 1) := by decide +kernel
theorem dX4_rowAt_37 : decode cX4_rowAt 37 = .ok (.invokevirtual 142, 3) := by decide +kernel
theorem dX4_rowAt_40 : decode cX4_rowAt 40 = .ok (.ireturn, 1) := by decide +kernel
set_option maxRecDepth 20000 in
theorem ggX4_floorOf_X4_rowOf : GoodIn wsX4_floorOf wsX4_rowOf := goodIn_ca (goodIn_r _ [5, 6, 7, 8, 4, 9, 10, 11, 12, 13, 14, 21, 22, 23, 24, 25, 26, 27, 28] (by decide +kernel) (by decide +kernel)) (goodIn_sub (fun _ h => List.mem_cons_of_mem _ (List.mem_append_right _ h)) (by decide +kernel))
set_option maxRecDepth 20000 in
theorem gX4_floorOf_X4_rowOf : GoodIn wsX4_floorOf (wsV RX4 130 RX4 yX4_rowOf wsX4_rowOf) := goodIn_app (goodIn_of _ (by decide +kernel)) ggX4_floorOf_X4_rowOf
set_option maxRecDepth 20000 in
theorem ggX4_floorOf_X2_floor : GoodIn wsX4_floorOf wsX2_floor := goodIn_r _ [19, 20, 29, 30, 31, 32] (by decide +kernel) (by decide +kernel)
set_option maxRecDepth 20000 in
theorem gX4_floorOf_X2_floor : GoodIn wsX4_floorOf (wsV RX4 145 RX2 yX2_floor wsX2_floor) := goodIn_app (goodIn_of _ (by decide +kernel)) ggX4_floorOf_X2_floor
theorem dX4_floorOf_0 : decode cX4_floorOf 0 = .ok (.aload_n 0, 1) := by decide +kernel
theorem dX4_floorOf_1 : decode cX4_floorOf 1 = .ok (.iload_n 1, 1) := by decide +kernel
theorem dX4_floorOf_2 : decode cX4_floorOf 2 = .ok (.invokevirtual 130, 3) := by decide +kernel
theorem dX4_floorOf_5 : decode cX4_floorOf 5 = .ok (.invokevirtual 145, 3) := by decide +kernel
theorem dX4_floorOf_8 : decode cX4_floorOf 8 = .ok (.ireturn, 1) := by decide +kernel
set_option maxRecDepth 20000 in
theorem ggX4_shows_X4_rowOf : GoodIn wsX4_shows wsX4_rowOf := goodIn_ca (goodIn_r _ [6, 7, 8, 9, 5, 10, 11, 12, 13, 14, 15, 120, 121, 122, 123, 124, 125, 126, 127] (by decide +kernel) (by decide +kernel)) (goodIn_sub (fun _ h => List.mem_cons_of_mem _ (List.mem_append_right _ h)) (by decide +kernel))
set_option maxRecDepth 20000 in
theorem gX4_shows_X4_rowOf : GoodIn wsX4_shows (wsV RX4 130 RX4 yX4_rowOf wsX4_rowOf) := goodIn_app (goodIn_of _ (by decide +kernel)) ggX4_shows_X4_rowOf
set_option maxRecDepth 20000 in
theorem ggX4_shows_X4_checkEntry : GoodIn wsX4_shows wsX4_checkEntry := goodIn_ca (goodIn_r _ [19, 11, 12, 20, 21, 22, 23, 24, 25, 26, 120, 121, 122, 123, 124, 125, 126, 127, 128, 129, 130, 131] (by decide +kernel) (by decide +kernel)) (goodIn_sub (fun _ h => List.mem_cons_of_mem _ (List.mem_append_right _ h)) (by decide +kernel))
set_option maxRecDepth 20000 in
theorem gX4_shows_X4_checkEntry : GoodIn wsX4_shows (wsV RX4 95 RX4 yX4_checkEntry wsX4_checkEntry) := goodIn_app (goodIn_of _ (by decide +kernel)) ggX4_shows_X4_checkEntry
set_option maxRecDepth 20000 in
theorem ggX4_shows_X4_readTimeline : GoodIn wsX4_shows wsX4_readTimeline := goodIn_r _ [30, 1, 20, 31, 32, 33, 34, 35, 36, 37, 38, 39, 40, 24, 41, 26, 42, 43, 44, 45, 46, 47, 48, 49, 50, 51, 52, 53, 54, 55, 56, 57, 58, 59, 60, 61, 5, 62, 63, 64, 65, 66, 67, 68, 69, 22, 23, 25, 70, 71, 72, 73, 74, 75, 14, 15, 76, 77, 78, 79, 80, 81, 82, 83, 84, 85, 86, 87, 88, 89, 90, 91, 92, 93, 94, 95, 96, 97, 98, 99, 100, 101, 102, 103, 104, 105, 106, 107, 108, 109, 110, 120, 121, 122, 123, 124, 125, 126, 127, 132, 133, 134, 128, 129, 130, 131, 135, 136, 137, 138, 139] (by decide +kernel) (by decide +kernel)
set_option maxRecDepth 20000 in
theorem gX4_shows_X4_readTimeline : GoodIn wsX4_shows (wsV RX4 148 RX4 yX4_readTimeline wsX4_readTimeline) := goodIn_app (goodIn_of _ (by decide +kernel)) ggX4_shows_X4_readTimeline
set_option maxRecDepth 20000 in
theorem ggX4_shows_X3_placeBelow : GoodIn wsX4_shows wsX3_placeBelow := goodIn_r _ [114, 36, 115, 116, 117, 34, 118, 110, 132, 133, 134] (by decide +kernel) (by decide +kernel)
set_option maxRecDepth 20000 in
theorem gX4_shows_X3_placeBelow : GoodIn wsX4_shows (wsV RX4 152 RX3 yX3_placeBelow wsX3_placeBelow) := goodIn_app (goodIn_of _ (by decide +kernel)) ggX4_shows_X3_placeBelow
set_option maxRecDepth 20000 in
theorem ggX4_shows_X3_at : GoodIn wsX4_shows wsX3_at := goodIn_r _ [118, 36, 110, 132, 133, 134] (by decide +kernel) (by decide +kernel)
set_option maxRecDepth 20000 in
theorem gX4_shows_X3_at : GoodIn wsX4_shows (wsV RX4 155 RX3 yX3_at wsX3_at) := goodIn_app (goodIn_of _ (by decide +kernel)) ggX4_shows_X3_at
theorem dX4_shows_0 : decode cX4_shows 0 = .ok (.aload_n 0, 1) := by decide +kernel
theorem dX4_shows_1 : decode cX4_shows 1 = .ok (.iload_n 1, 1) := by decide +kernel
theorem dX4_shows_2 : decode cX4_shows 2 = .ok (.invokevirtual 130, 3) := by decide +kernel
theorem dX4_shows_5 : decode cX4_shows 5 = .ok (.astore_n 3, 1) := by decide +kernel
theorem dX4_shows_6 : decode cX4_shows 6 = .ok (.aload_n 0, 1) := by decide +kernel
theorem dX4_shows_7 : decode cX4_shows 7 = .ok (.iload_n 2, 1) := by decide +kernel
theorem dX4_shows_8 : decode cX4_shows 8 = .ok (.invokevirtual 95, 3) := by decide +kernel
theorem dX4_shows_11 : decode cX4_shows 11 = .ok (.aload_n 0, 1) := by decide +kernel
theorem dX4_shows_12 : decode cX4_shows 12 = .ok (.aload_n 3, 1) := by decide +kernel
theorem dX4_shows_13 : decode cX4_shows 13 = .ok (.invokevirtual 148, 3) := by decide +kernel
theorem dX4_shows_16 : decode cX4_shows 16 = .ok (.aload_n 0, 1) := by decide +kernel
theorem dX4_shows_17 : decode cX4_shows 17 = .ok (.getfield 38, 3) := by decide +kernel
theorem dX4_shows_20 : decode cX4_shows 20 = .ok (.aload_n 0, 1) := by decide +kernel
theorem dX4_shows_21 : decode cX4_shows 21 = .ok (.getfield 38, 3) := by decide +kernel
theorem dX4_shows_24 : decode cX4_shows 24 = .ok (.iload_n 2, 1) := by decide +kernel
theorem dX4_shows_25 : decode cX4_shows 25 = .ok (.iconst 1, 1) := by decide +kernel
theorem dX4_shows_26 : decode cX4_shows 26 = .ok (.iadd, 1) := by decide +kernel
theorem dX4_shows_27 : decode cX4_shows 27 = .ok (.invokevirtual 152, 3) := by decide +kernel
theorem dX4_shows_30 : decode cX4_shows 30 = .ok (.invokevirtual 155, 3) := by decide +kernel
theorem dX4_shows_33 : decode cX4_shows 33 = .ok (.iload_n 2, 1) := by decide +kernel
theorem dX4_shows_34 : decode cX4_shows 34 = .ok (.if_icmp .ne 7, 3) := by decide +kernel
theorem dX4_shows_37 : decode cX4_shows 37 = .ok (.iconst 1, 1) := by decide +kernel
theorem dX4_shows_38 : decode cX4_shows 38 = .ok (.goto 4, 3) := by decide +kernel
theorem dX4_shows_41 : decode cX4_shows 41 = .ok (.iconst 0, 1) := by decide +kernel
theorem dX4_shows_42 : decode cX4_shows 42 = .ok (.ireturn, 1) := by decide +kernel
set_option maxRecDepth 20000 in
theorem ggX4_next_X4_rowOf : GoodIn wsX4_next wsX4_rowOf := goodIn_ca (goodIn_r _ [6, 7, 8, 9, 5, 10, 11, 12, 13, 14, 15, 120, 121, 122, 123, 124, 125, 126, 127] (by decide +kernel) (by decide +kernel)) (goodIn_sub (fun _ h => List.mem_cons_of_mem _ (List.mem_append_left _ (List.mem_append_right _ h))) (by decide +kernel))
set_option maxRecDepth 20000 in
theorem gX4_next_X4_rowOf : GoodIn wsX4_next (wsV RX4 130 RX4 yX4_rowOf wsX4_rowOf) := goodIn_app (goodIn_of _ (by decide +kernel)) ggX4_next_X4_rowOf
set_option maxRecDepth 20000 in
theorem ggX4_next_X4_checkRange : GoodIn wsX4_next wsX4_checkRange := goodIn_ca (goodIn_r _ [18, 19, 20] (by decide +kernel) (by decide +kernel)) (goodIn_sub (fun _ h => List.mem_cons_of_mem _ (List.mem_append_right _ h)) (by decide +kernel))
set_option maxRecDepth 20000 in
theorem gX4_next_X4_checkRange : GoodIn wsX4_next (va_wsS RX4 120 yX4_checkRange wsX4_checkRange) := goodIn_app (goodIn_of _ (by decide +kernel)) ggX4_next_X4_checkRange
set_option maxRecDepth 20000 in
theorem ggX4_next_X4_readTimeline : GoodIn wsX4_next wsX4_readTimeline := goodIn_r _ [24, 1, 25, 26, 27, 28, 29, 30, 31, 32, 33, 34, 35, 36, 37, 38, 39, 40, 41, 42, 43, 44, 45, 46, 47, 48, 49, 50, 51, 52, 53, 54, 55, 56, 57, 58, 5, 59, 60, 61, 62, 63, 64, 65, 66, 67, 68, 69, 70, 71, 72, 73, 74, 75, 14, 15, 76, 77, 78, 79, 80, 81, 82, 83, 84, 85, 86, 87, 88, 89, 90, 91, 92, 93, 94, 95, 96, 97, 98, 99, 100, 101, 102, 103, 104, 105, 106, 107, 108, 109, 110, 120, 121, 122, 123, 124, 125, 126, 127, 128, 129, 130, 131, 132, 133, 134, 135, 136, 137, 138, 139] (by decide +kernel) (by decide +kernel)
set_option maxRecDepth 20000 in
theorem gX4_next_X4_readTimeline : GoodIn wsX4_next (wsV RX4 148 RX4 yX4_readTimeline wsX4_readTimeline) := goodIn_app (goodIn_of _ (by decide +kernel)) ggX4_next_X4_readTimeline
set_option maxRecDepth 20000 in
theorem ggX4_next_X3_placeBelow : GoodIn wsX4_next wsX3_placeBelow := goodIn_r _ [114, 31, 115, 116, 117, 29, 118, 110, 128, 129, 130] (by decide +kernel) (by decide +kernel)
set_option maxRecDepth 20000 in
theorem gX4_next_X3_placeBelow : GoodIn wsX4_next (wsV RX4 152 RX3 yX3_placeBelow wsX3_placeBelow) := goodIn_app (goodIn_of _ (by decide +kernel)) ggX4_next_X3_placeBelow
set_option maxRecDepth 20000 in
theorem ggX4_next_X3_at : GoodIn wsX4_next wsX3_at := goodIn_r _ [118, 31, 110, 128, 129, 130] (by decide +kernel) (by decide +kernel)
set_option maxRecDepth 20000 in
theorem gX4_next_X3_at : GoodIn wsX4_next (wsV RX4 155 RX3 yX3_at wsX3_at) := goodIn_app (goodIn_of _ (by decide +kernel)) ggX4_next_X3_at
theorem dX4_next_0 : decode cX4_next 0 = .ok (.aload_n 0, 1) := by decide +kernel
theorem dX4_next_1 : decode cX4_next 1 = .ok (.iload_n 1, 1) := by decide +kernel
theorem dX4_next_2 : decode cX4_next 2 = .ok (.invokevirtual 130, 3) := by decide +kernel
theorem dX4_next_5 : decode cX4_next 5 = .ok (.astore_n 3, 1) := by decide +kernel
theorem dX4_next_6 : decode cX4_next 6 = .ok (.iload_n 2, 1) := by decide +kernel
theorem dX4_next_7 : decode cX4_next 7 = .ok (.iconst 0, 1) := by decide +kernel
theorem dX4_next_8 : decode cX4_next 8 = .ok (.sipush 150, 3) := by decide +kernel
theorem dX4_next_11 : decode cX4_next 11 = .ok (.invokestatic 120, 3) := by decide +kernel
theorem dX4_next_14 : decode cX4_next 14 = .ok (.aload_n 0, 1) := by decide +kernel
theorem dX4_next_15 : decode cX4_next 15 = .ok (.aload_n 3, 1) := by decide +kernel
theorem dX4_next_16 : decode cX4_next 16 = .ok (.invokevirtual 148, 3) := by decide +kernel
theorem dX4_next_19 : decode cX4_next 19 = .ok (.aload_n 0, 1) := by decide +kernel
theorem dX4_next_20 : decode cX4_next 20 = .ok (.getfield 38, 3) := by decide +kernel
theorem dX4_next_23 : decode cX4_next 23 = .ok (.aload_n 0, 1) := by decide +kernel
theorem dX4_next_24 : decode cX4_next 24 = .ok (.getfield 38, 3) := by decide +kernel
theorem dX4_next_27 : decode cX4_next 27 = .ok (.iload_n 2, 1) := by decide +kernel
theorem dX4_next_28 : decode cX4_next 28 = .ok (.invokevirtual 152, 3) := by decide +kernel
theorem dX4_next_31 : decode cX4_next 31 = .ok (.invokevirtual 155, 3) := by decide +kernel
theorem dX4_next_34 : decode cX4_next 34 = .ok (.ireturn, 1) := by decide +kernel
set_option maxRecDepth 20000 in
theorem ggX4_pageEnd_X4_rowOf : GoodIn wsX4_pageEnd wsX4_rowOf := goodIn_ca (goodIn_r _ [10, 11, 12, 13, 9, 14, 15, 16, 17, 18, 19, 128, 129, 130, 131, 132, 133, 134, 135] (by decide +kernel) (by decide +kernel)) (goodIn_sub (fun _ h => List.mem_cons_of_mem _ (List.mem_append_left _ (List.mem_append_right _ h))) (by decide +kernel))
set_option maxRecDepth 20000 in
theorem gX4_pageEnd_X4_rowOf : GoodIn wsX4_pageEnd (wsV RX4 130 RX4 yX4_rowOf wsX4_rowOf) := goodIn_app (goodIn_of _ (by decide +kernel)) ggX4_pageEnd_X4_rowOf
set_option maxRecDepth 20000 in
theorem ggX4_pageEnd_X4_checkRange : GoodIn wsX4_pageEnd wsX4_checkRange := goodIn_ca (goodIn_r _ [22, 23, 24] (by decide +kernel) (by decide +kernel)) (goodIn_sub (fun _ h => List.mem_cons_of_mem _ (List.mem_append_right _ h)) (by decide +kernel))
set_option maxRecDepth 20000 in
theorem gX4_pageEnd_X4_checkRange : GoodIn wsX4_pageEnd (va_wsS RX4 120 yX4_checkRange wsX4_checkRange) := goodIn_app (goodIn_of _ (by decide +kernel)) ggX4_pageEnd_X4_checkRange
set_option maxRecDepth 20000 in
theorem ggX4_pageEnd_X4_readTimeline : GoodIn wsX4_pageEnd wsX4_readTimeline := goodIn_r _ [28, 1, 29, 30, 31, 32, 33, 34, 35, 36, 37, 38, 39, 40, 41, 42, 43, 44, 45, 46, 47, 48, 49, 50, 51, 52, 53, 54, 55, 56, 57, 58, 59, 60, 61, 62, 9, 63, 64, 65, 66, 67, 68, 69, 70, 71, 72, 73, 74, 75, 76, 77, 78, 79, 18, 19, 80, 81, 82, 83, 84, 85, 86, 87, 88, 89, 90, 91, 92, 93, 94, 95, 96, 97, 98, 99, 100, 101, 102, 103, 104, 105, 106, 107, 108, 109, 110, 111, 112, 113, 114, 128, 129, 130, 131, 132, 133, 134, 135, 136, 137, 138, 139, 140, 141, 142, 143, 144, 145, 146, 147] (by decide +kernel) (by decide +kernel)
set_option maxRecDepth 20000 in
theorem gX4_pageEnd_X4_readTimeline : GoodIn wsX4_pageEnd (wsV RX4 148 RX4 yX4_readTimeline wsX4_readTimeline) := goodIn_app (goodIn_of _ (by decide +kernel)) ggX4_pageEnd_X4_readTimeline
set_option maxRecDepth 20000 in
theorem ggX4_pageEnd_X3_placeBelow : GoodIn wsX4_pageEnd wsX3_placeBelow := goodIn_r _ [118, 35, 119, 120, 121, 33, 122, 114, 136, 137, 138] (by decide +kernel) (by decide +kernel)
set_option maxRecDepth 20000 in
theorem gX4_pageEnd_X3_placeBelow : GoodIn wsX4_pageEnd (wsV RX4 152 RX3 yX3_placeBelow wsX3_placeBelow) := goodIn_app (goodIn_of _ (by decide +kernel)) ggX4_pageEnd_X3_placeBelow
set_option maxRecDepth 20000 in
theorem ggX4_pageEnd_X3_count : GoodIn wsX4_pageEnd wsX3_count := goodIn_r _ [126, 35, 136, 137, 138] (by decide +kernel) (by decide +kernel)
set_option maxRecDepth 20000 in
theorem gX4_pageEnd_X3_count : GoodIn wsX4_pageEnd (wsV RX4 158 RX3 yX3_count wsX3_count) := goodIn_app (goodIn_of _ (by decide +kernel)) ggX4_pageEnd_X3_count
set_option maxRecDepth 20000 in
theorem ggX4_pageEnd_X3_at : GoodIn wsX4_pageEnd wsX3_at := goodIn_r _ [122, 35, 114, 136, 137, 138] (by decide +kernel) (by decide +kernel)
set_option maxRecDepth 20000 in
theorem gX4_pageEnd_X3_at : GoodIn wsX4_pageEnd (wsV RX4 155 RX3 yX3_at wsX3_at) := goodIn_app (goodIn_of _ (by decide +kernel)) ggX4_pageEnd_X3_at
theorem dX4_pageEnd_0 : decode cX4_pageEnd 0 = .ok (.aload_n 0, 1) := by decide +kernel
theorem dX4_pageEnd_1 : decode cX4_pageEnd 1 = .ok (.iload_n 1, 1) := by decide +kernel
theorem dX4_pageEnd_2 : decode cX4_pageEnd 2 = .ok (.invokevirtual 130, 3) := by decide +kernel
theorem dX4_pageEnd_5 : decode cX4_pageEnd 5 = .ok (.astore 4, 2) := by decide +kernel
theorem dX4_pageEnd_7 : decode cX4_pageEnd 7 = .ok (.iload_n 2, 1) := by decide +kernel
theorem dX4_pageEnd_8 : decode cX4_pageEnd 8 = .ok (.iconst 0, 1) := by decide +kernel
theorem dX4_pageEnd_9 : decode cX4_pageEnd 9 = .ok (.sipush 150, 3) := by decide +kernel
theorem dX4_pageEnd_12 : decode cX4_pageEnd 12 = .ok (.invokestatic 120, 3) := by decide +kernel
theorem dX4_pageEnd_15 : decode cX4_pageEnd 15 = .ok (.iload_n 3, 1) := by decide +kernel
theorem dX4_pageEnd_16 : decode cX4_pageEnd 16 = .ok (.iconst 1, 1) := by decide +kernel
theorem dX4_pageEnd_17 : decode cX4_pageEnd 17 = .ok (.bipush 20, 2) := by decide +kernel
theorem dX4_pageEnd_19 : decode cX4_pageEnd 19 = .ok (.invokestatic 120, 3) := by decide +kernel
theorem dX4_pageEnd_22 : decode cX4_pageEnd 22 = .ok (.aload_n 0, 1) := by decide +kernel
theorem dX4_pageEnd_23 : decode cX4_pageEnd 23 = .ok (.aload 4, 2) := by decide +kernel
theorem dX4_pageEnd_25 : decode cX4_pageEnd 25 = .ok (.invokevirtual 148, 3) := by decide +kernel
theorem dX4_pageEnd_28 : decode cX4_pageEnd 28 = .ok (.aload_n 0, 1) := by decide +kernel
theorem dX4_pageEnd_29 : decode cX4_pageEnd 29 = .ok (.getfield 38, 3) := by decide +kernel
theorem dX4_pageEnd_32 : decode cX4_pageEnd 32 = .ok (.iload_n 2, 1) := by decide +kernel
theorem dX4_pageEnd_33 : decode cX4_pageEnd 33 = .ok (.invokevirtual 152, 3) := by decide +kernel
theorem dX4_pageEnd_36 : decode cX4_pageEnd 36 = .ok (.istore 5, 2) := by decide +kernel
theorem dX4_pageEnd_38 : decode cX4_pageEnd 38 = .ok (.iload 5, 2) := by decide +kernel
theorem dX4_pageEnd_40 : decode cX4_pageEnd 40 = .ok (.aload_n 0, 1) := by decide +kernel
theorem dX4_pageEnd_41 : decode cX4_pageEnd 41 = .ok (.getfield 38, 3) := by decide +kernel
theorem dX4_pageEnd_44 : decode cX4_pageEnd 44 = .ok (.invokevirtual 158, 3) := by decide +kernel
theorem dX4_pageEnd_47 : decode cX4_pageEnd 47 = .ok (.if_icmp .lt 5, 3) := by decide +kernel
theorem dX4_pageEnd_50 : decode cX4_pageEnd 50 = .ok (.iconst (-1), 1) := by decide +kernel
theorem dX4_pageEnd_51 : decode cX4_pageEnd 51 = .ok (.ireturn, 1) := by decide +kernel
theorem dX4_pageEnd_52 : decode cX4_pageEnd 52 = .ok (.aload_n 0, 1) := by decide +kernel
theorem dX4_pageEnd_53 : decode cX4_pageEnd 53 = .ok (.getfield 38, 3) := by decide +kernel
theorem dX4_pageEnd_56 : decode cX4_pageEnd 56 = .ok (.iload 5, 2) := by decide +kernel
theorem dX4_pageEnd_58 : decode cX4_pageEnd 58 = .ok (.iload_n 3, 1) := by decide +kernel
theorem dX4_pageEnd_59 : decode cX4_pageEnd 59 = .ok (.iadd, 1) := by decide +kernel
theorem dX4_pageEnd_60 : decode cX4_pageEnd 60 = .ok (.aload_n 0, 1) := by decide +kernel
theorem dX4_pageEnd_61 : decode cX4_pageEnd 61 = .ok (.getfield 38, 3) := by decide +kernel
theorem dX4_pageEnd_64 : decode cX4_pageEnd 64 = .ok (.invokevirtual 158, 3) := by decide +kernel
theorem dX4_pageEnd_67 : decode cX4_pageEnd 67 = .ok (.invokestatic 159, 3) := by decide +kernel
theorem dX4_pageEnd_70 : decode cX4_pageEnd 70 = .ok (.iconst 1, 1) := by decide +kernel
theorem dX4_pageEnd_71 : decode cX4_pageEnd 71 = .ok (.isub, 1) := by decide +kernel
theorem dX4_pageEnd_72 : decode cX4_pageEnd 72 = .ok (.invokevirtual 155, 3) := by decide +kernel
theorem dX4_pageEnd_75 : decode cX4_pageEnd 75 = .ok (.ireturn, 1) := by decide +kernel
set_option maxRecDepth 20000 in
theorem ggX4_length_X4_rowOf : GoodIn wsX4_length wsX4_rowOf := goodIn_ca (goodIn_r _ [6, 7, 8, 9, 5, 10, 11, 12, 13, 14, 15, 110, 111, 112, 113, 114, 115, 116, 117] (by decide +kernel) (by decide +kernel)) (goodIn_sub (fun _ h => List.mem_cons_of_mem _ (List.mem_append_right _ h)) (by decide +kernel))
set_option maxRecDepth 20000 in
theorem gX4_length_X4_rowOf : GoodIn wsX4_length (wsV RX4 130 RX4 yX4_rowOf wsX4_rowOf) := goodIn_app (goodIn_of _ (by decide +kernel)) ggX4_length_X4_rowOf
set_option maxRecDepth 20000 in
theorem ggX4_length_X4_readTimeline : GoodIn wsX4_length wsX4_readTimeline := goodIn_r _ [19, 1, 20, 21, 22, 23, 24, 25, 26, 27, 28, 29, 30, 31, 32, 33, 34, 35, 36, 37, 38, 39, 40, 41, 42, 43, 44, 45, 46, 47, 48, 49, 50, 51, 52, 53, 5, 54, 55, 56, 57, 58, 59, 60, 61, 62, 63, 64, 65, 66, 67, 68, 69, 70, 14, 15, 71, 72, 73, 74, 75, 76, 77, 78, 79, 80, 81, 82, 83, 84, 85, 86, 87, 88, 89, 90, 91, 92, 93, 94, 95, 96, 97, 98, 99, 100, 101, 102, 103, 104, 105, 110, 111, 112, 113, 114, 115, 116, 117, 118, 119, 120, 121, 122, 123, 124, 125, 126, 127, 128, 129] (by decide +kernel) (by decide +kernel)
set_option maxRecDepth 20000 in
theorem gX4_length_X4_readTimeline : GoodIn wsX4_length (wsV RX4 148 RX4 yX4_readTimeline wsX4_readTimeline) := goodIn_app (goodIn_of _ (by decide +kernel)) ggX4_length_X4_readTimeline
set_option maxRecDepth 20000 in
theorem ggX4_length_X3_count : GoodIn wsX4_length wsX3_count := goodIn_r _ [109, 26, 118, 119, 120] (by decide +kernel) (by decide +kernel)
set_option maxRecDepth 20000 in
theorem gX4_length_X3_count : GoodIn wsX4_length (wsV RX4 158 RX3 yX3_count wsX3_count) := goodIn_app (goodIn_of _ (by decide +kernel)) ggX4_length_X3_count
theorem dX4_length_0 : decode cX4_length 0 = .ok (.aload_n 0, 1) := by decide +kernel
theorem dX4_length_1 : decode cX4_length 1 = .ok (.aload_n 0, 1) := by decide +kernel
theorem dX4_length_2 : decode cX4_length 2 = .ok (.iload_n 1, 1) := by decide +kernel
theorem dX4_length_3 : decode cX4_length 3 = .ok (.invokevirtual 130, 3) := by decide +kernel
theorem dX4_length_6 : decode cX4_length 6 = .ok (.invokevirtual 148, 3) := by decide +kernel
theorem dX4_length_9 : decode cX4_length 9 = .ok (.aload_n 0, 1) := by decide +kernel
theorem dX4_length_10 : decode cX4_length 10 = .ok (.getfield 38, 3) := by decide +kernel
theorem dX4_length_13 : decode cX4_length 13 = .ok (.invokevirtual 158, 3) := by decide +kernel
theorem dX4_length_16 : decode cX4_length 16 = .ok (.ireturn, 1) := by decide +kernel
set_option maxRecDepth 20000 in
theorem ggX4_lengthByMerging_X4_rowOf : GoodIn wsX4_lengthByMerging wsX4_rowOf := goodIn_ca (goodIn_r _ [6, 7, 8, 9, 5, 10, 11, 12, 13, 14, 15, 85, 86, 87, 88, 89, 90, 91, 92] (by decide +kernel) (by decide +kernel)) (goodIn_sub (fun _ h => List.mem_cons_of_mem _ (List.mem_append_right _ h)) (by decide +kernel))
set_option maxRecDepth 20000 in
theorem gX4_lengthByMerging_X4_rowOf : GoodIn wsX4_lengthByMerging (wsV RX4 130 RX4 yX4_rowOf wsX4_rowOf) := goodIn_app (goodIn_of _ (by decide +kernel)) ggX4_lengthByMerging_X4_rowOf
set_option maxRecDepth 20000 in
theorem ggX4_lengthByMerging_X2_floor : GoodIn wsX4_lengthByMerging wsX2_floor := goodIn_r _ [20, 21, 93, 94, 95, 96] (by decide +kernel) (by decide +kernel)
set_option maxRecDepth 20000 in
theorem gX4_lengthByMerging_X2_floor : GoodIn wsX4_lengthByMerging (wsV RX4 145 RX2 yX2_floor wsX2_floor) := goodIn_app (goodIn_of _ (by decide +kernel)) ggX4_lengthByMerging_X2_floor
set_option maxRecDepth 20000 in
theorem ggX4_lengthByMerging_X4_mergeTimeline : GoodIn wsX4_lengthByMerging wsX4_mergeTimeline := goodIn_r _ [25, 1, 26, 27, 28, 29, 30, 31, 32, 33, 34, 35, 36, 37, 38, 39, 40, 41, 42, 43, 44, 45, 46, 47, 48, 49, 50, 51, 52, 53, 54, 55, 14, 5, 15, 56, 57, 58, 59, 60, 61, 62, 63, 64, 65, 66, 67, 68, 69, 70, 71, 72, 73, 74, 75, 76, 77, 78, 79, 80, 85, 86, 87, 88, 89, 90, 91, 92, 97, 98, 99, 100, 101, 102, 103, 104] (by decide +kernel) (by decide +kernel)
set_option maxRecDepth 20000 in
theorem gX4_lengthByMerging_X4_mergeTimeline : GoodIn wsX4_lengthByMerging (wsV RX4 165 RX4 yX4_mergeTimeline wsX4_mergeTimeline) := goodIn_app (goodIn_of _ (by decide +kernel)) ggX4_lengthByMerging_X4_mergeTimeline
set_option maxRecDepth 20000 in
theorem ggX4_lengthByMerging_X3_count : GoodIn wsX4_lengthByMerging wsX3_count := goodIn_r _ [84, 33, 97, 98, 99] (by decide +kernel) (by decide +kernel)
set_option maxRecDepth 20000 in
theorem gX4_lengthByMerging_X3_count : GoodIn wsX4_lengthByMerging (wsV RX4 158 RX3 yX3_count wsX3_count) := goodIn_app (goodIn_of _ (by decide +kernel)) ggX4_lengthByMerging_X3_count
theorem dX4_lengthByMerging_0 : decode cX4_lengthByMerging 0 = .ok (.aload_n 0, 1) := by decide +kernel
theorem dX4_lengthByMerging_1 : decode cX4_lengthByMerging 1 = .ok (.iload_n 1, 1) := by decide +kernel
theorem dX4_lengthByMerging_2 : decode cX4_lengthByMerging 2 = .ok (.aload_n 0, 1) := by decide +kernel
theorem dX4_lengthByMerging_3 : decode cX4_lengthByMerging 3 = .ok (.iload_n 1, 1) := by decide +kernel
theorem dX4_lengthByMerging_4 : decode cX4_lengthByMerging 4 = .ok (.invokevirtual 130, 3) := by decide +kernel
theorem dX4_lengthByMerging_7 : decode cX4_lengthByMerging 7 = .ok (.invokevirtual 145, 3) := by decide +kernel
theorem dX4_lengthByMerging_10 : decode cX4_lengthByMerging 10 = .ok (.invokevirtual 165, 3) := by decide +kernel
theorem dX4_lengthByMerging_13 : decode cX4_lengthByMerging 13 = .ok (.aload_n 0, 1) := by decide +kernel
theorem dX4_lengthByMerging_14 : decode cX4_lengthByMerging 14 = .ok (.getfield 38, 3) := by decide +kernel
theorem dX4_lengthByMerging_17 : decode cX4_lengthByMerging 17 = .ok (.invokevirtual 158, 3) := by decide +kernel
theorem dX4_lengthByMerging_20 : decode cX4_lengthByMerging 20 = .ok (.ireturn, 1) := by decide +kernel
set_option maxRecDepth 20000 in
theorem ggX4_hasGap_X4_rowOf : GoodIn wsX4_hasGap wsX4_rowOf := goodIn_ca (goodIn_r _ [7, 8, 9, 10, 6, 11, 12, 13, 14, 15, 16, 45, 46, 47, 48, 49, 50, 51, 52] (by decide +kernel) (by decide +kernel)) (goodIn_sub (fun _ h => List.mem_cons_of_mem _ (List.mem_append_right _ h)) (by decide +kernel))
set_option maxRecDepth 20000 in
theorem gX4_hasGap_X4_rowOf : GoodIn wsX4_hasGap (wsV RX4 130 RX4 yX4_rowOf wsX4_rowOf) := goodIn_app (goodIn_of _ (by decide +kernel)) ggX4_hasGap_X4_rowOf
set_option maxRecDepth 20000 in
theorem ggX4_hasGap_X2_floor : GoodIn wsX4_hasGap wsX2_floor := goodIn_r _ [21, 22, 53, 54, 55, 56] (by decide +kernel) (by decide +kernel)
set_option maxRecDepth 20000 in
theorem gX4_hasGap_X2_floor : GoodIn wsX4_hasGap (wsV RX4 145 RX2 yX2_floor wsX2_floor) := goodIn_app (goodIn_of _ (by decide +kernel)) ggX4_hasGap_X2_floor
set_option maxRecDepth 20000 in
theorem ggX4_hasGap_X0_stands : GoodIn wsX4_hasGap wsX0_stands := goodIn_r _ [27, 28, 29, 30, 31, 26, 32, 33, 57, 58, 59, 60] (by decide +kernel) (by decide +kernel)
set_option maxRecDepth 20000 in
theorem gX4_hasGap_X0_stands : GoodIn wsX4_hasGap (wsV RX4 101 RX0 yX0_stands wsX0_stands) := goodIn_app (goodIn_of _ (by decide +kernel)) ggX4_hasGap_X0_stands
set_option maxRecDepth 20000 in
theorem ggX4_hasGap_X0_author : GoodIn wsX4_hasGap wsX0_author := goodIn_r _ [37, 38, 29, 30, 31, 26, 32, 33, 57, 58, 59, 60] (by decide +kernel) (by decide +kernel)
set_option maxRecDepth 20000 in
theorem gX4_hasGap_X0_author : GoodIn wsX4_hasGap (wsV RX4 107 RX0 yX0_author wsX0_author) := goodIn_app (goodIn_of _ (by decide +kernel)) ggX4_hasGap_X0_author
set_option maxRecDepth 20000 in
theorem ggX4_hasGap_X1_has : GoodIn wsX4_hasGap wsX1_has := goodIn_r _ [43, 44, 15, 6, 16, 61] (by decide +kernel) (by decide +kernel)
set_option maxRecDepth 20000 in
theorem gX4_hasGap_X1_has : GoodIn wsX4_hasGap (wsV RX4 59 RX1 yX1_has wsX1_has) := goodIn_app (goodIn_of _ (by decide +kernel)) ggX4_hasGap_X1_has
theorem dX4_hasGap_0 : decode cX4_hasGap 0 = .ok (.aload_n 0, 1) := by decide +kernel
theorem dX4_hasGap_1 : decode cX4_hasGap 1 = .ok (.iload_n 1, 1) := by decide +kernel
theorem dX4_hasGap_2 : decode cX4_hasGap 2 = .ok (.invokevirtual 130, 3) := by decide +kernel
theorem dX4_hasGap_5 : decode cX4_hasGap 5 = .ok (.invokevirtual 145, 3) := by decide +kernel
theorem dX4_hasGap_8 : decode cX4_hasGap 8 = .ok (.istore_n 2, 1) := by decide +kernel
theorem dX4_hasGap_9 : decode cX4_hasGap 9 = .ok (.iconst 0, 1) := by decide +kernel
theorem dX4_hasGap_10 : decode cX4_hasGap 10 = .ok (.istore_n 3, 1) := by decide +kernel
theorem dX4_hasGap_11 : decode cX4_hasGap 11 = .ok (.iload_n 3, 1) := by decide +kernel
theorem dX4_hasGap_12 : decode cX4_hasGap 12 = .ok (.iload_n 2, 1) := by decide +kernel
theorem dX4_hasGap_13 : decode cX4_hasGap 13 = .ok (.if_icmp .gt 41, 3) := by decide +kernel
theorem dX4_hasGap_16 : decode cX4_hasGap 16 = .ok (.aload_n 0, 1) := by decide +kernel
theorem dX4_hasGap_17 : decode cX4_hasGap 17 = .ok (.getfield 25, 3) := by decide +kernel
theorem dX4_hasGap_20 : decode cX4_hasGap 20 = .ok (.iload_n 3, 1) := by decide +kernel
theorem dX4_hasGap_21 : decode cX4_hasGap 21 = .ok (.invokevirtual 101, 3) := by decide +kernel
theorem dX4_hasGap_24 : decode cX4_hasGap 24 = .ok (.ifCond .eq 24, 3) := by decide +kernel
theorem dX4_hasGap_27 : decode cX4_hasGap 27 = .ok (.aload_n 0, 1) := by decide +kernel
theorem dX4_hasGap_28 : decode cX4_hasGap 28 = .ok (.getfield 10, 3) := by decide +kernel
theorem dX4_hasGap_31 : decode cX4_hasGap 31 = .ok (.iload_n 1, 1) := by decide +kernel
theorem dX4_hasGap_32 : decode cX4_hasGap 32 = .ok (.aload_n 0, 1) := by decide +kernel
theorem dX4_hasGap_33 : decode cX4_hasGap 33 = .ok (.getfield 25, 3) := by decide +kernel
theorem dX4_hasGap_36 : decode cX4_hasGap 36 = .ok (.iload_n 3, 1) := by decide +kernel
theorem dX4_hasGap_37 : decode cX4_hasGap 37 = .ok (.invokevirtual 107, 3) := by decide +kernel
theorem dX4_hasGap_40 : decode cX4_hasGap 40 = .ok (.invokevirtual 59, 3) := by decide +kernel
theorem dX4_hasGap_43 : decode cX4_hasGap 43 = .ok (.ifCond .eq 5, 3) := by decide +kernel
theorem dX4_hasGap_46 : decode cX4_hasGap 46 = .ok (.iconst 1, 1) := by decide +kernel
theorem dX4_hasGap_47 : decode cX4_hasGap 47 = .ok (.ireturn, 1) := by decide +kernel
theorem dX4_hasGap_48 : decode cX4_hasGap 48 = .ok (.iinc 3 1, 3) := by decide +kernel
theorem dX4_hasGap_51 : decode cX4_hasGap 51 = .ok (.goto (-40), 3) := by decide +kernel
theorem dX4_hasGap_54 : decode cX4_hasGap 54 = .ok (.iconst 0, 1) := by decide +kernel
theorem dX4_hasGap_55 : decode cX4_hasGap 55 = .ok (.ireturn, 1) := by decide +kernel
theorem dX4_isPerson_0 : decode cX4_isPerson 0 = .ok (.iload_n 0, 1) := by decide +kernel
theorem dX4_isPerson_1 : decode cX4_isPerson 1 = .ok (.ifCond .lt 13, 3) := by decide +kernel
theorem dX4_isPerson_4 : decode cX4_isPerson 4 = .ok (.iload_n 0, 1) := by decide +kernel
theorem dX4_isPerson_5 : decode cX4_isPerson 5 = .ok (.bipush 8, 2) := by decide +kernel
theorem dX4_isPerson_7 : decode cX4_isPerson 7 = .ok (.if_icmp .ge 7, 3) := by decide +kernel
theorem dX4_isPerson_10 : decode cX4_isPerson 10 = .ok (.iconst 1, 1) := by decide +kernel
theorem dX4_isPerson_11 : decode cX4_isPerson 11 = .ok (.goto 4, 3) := by decide +kernel
theorem dX4_isPerson_14 : decode cX4_isPerson 14 = .ok (.iconst 0, 1) := by decide +kernel
theorem dX4_isPerson_15 : decode cX4_isPerson 15 = .ok (.ireturn, 1) := by decide +kernel
set_option maxRecDepth 20000 in
theorem ggX4_checkPerson_X4_isPerson : GoodIn wsX4_checkPerson wsX4_isPerson := goodIn_r _ [6] (by decide +kernel) (by decide +kernel)
set_option maxRecDepth 20000 in
theorem gX4_checkPerson_X4_isPerson : GoodIn wsX4_checkPerson (va_wsS RX4 168 yX4_isPerson wsX4_isPerson) := goodIn_app (goodIn_of _ (by decide +kernel)) ggX4_checkPerson_X4_isPerson
theorem dX4_checkPerson_0 : decode cX4_checkPerson 0 = .ok (.iload_n 0, 1) := by decide +kernel
theorem dX4_checkPerson_1 : decode cX4_checkPerson 1 = .ok (.invokestatic 168, 3) := by decide +kernel
theorem dX4_checkPerson_4 : decode cX4_checkPerson 4 = .ok (.ifCond .ne 13, 3) := by decide +kernel
theorem dX4_checkPerson_7 : decode cX4_checkPerson 7 = .ok (.new 137, 3) := by decide +kernel
theorem dX4_checkPerson_10 : decode cX4_checkPerson 10 = .ok (.dup, 1) := by decide +kernel
theorem dX4_checkPerson_11 : decode cX4_checkPerson 11 = .ok (.ldc 171, 2) := by decide +kernel
theorem dX4_checkPerson_13 : decode cX4_checkPerson 13 = .ok (.invokespecial 141, 3) := by decide +kernel
theorem dX4_checkPerson_16 : decode cX4_checkPerson 16 = .ok (.athrow, 1) := by decide +kernel
theorem dX4_checkPerson_17 : decode cX4_checkPerson 17 = .ok (.return_, 1) := by decide +kernel
theorem dX4_checkDifferent_0 : decode cX4_checkDifferent 0 = .ok (.iload_n 0, 1) := by decide +kernel
theorem dX4_checkDifferent_1 : decode cX4_checkDifferent 1 = .ok (.iload_n 1, 1) := by decide +kernel
theorem dX4_checkDifferent_2 : decode cX4_checkDifferent 2 = .ok (.if_icmp .ne 13, 3) := by decide +kernel
theorem dX4_checkDifferent_5 : decode cX4_checkDifferent 5 = .ok (.new 173, 3) := by decide +kernel
theorem dX4_checkDifferent_8 : decode cX4_checkDifferent 8 = .ok (.dup, 1) := by decide +kernel
theorem dX4_checkDifferent_9 : decode cX4_checkDifferent 9 = .ok (.ldc 175, 2) := by decide +kernel
theorem dX4_checkDifferent_11 : decode cX4_checkDifferent 11 = .ok (.invokespecial 177, 3) := by decide +kernel
theorem dX4_checkDifferent_14 : decode cX4_checkDifferent 14 = .ok (.athrow, 1) := by decide +kernel
theorem dX4_checkDifferent_15 : decode cX4_checkDifferent 15 = .ok (.return_, 1) := by decide +kernel
theorem dX4_checkRange_0 : decode cX4_checkRange 0 = .ok (.iload_n 0, 1) := by decide +kernel
theorem dX4_checkRange_1 : decode cX4_checkRange 1 = .ok (.iload_n 1, 1) := by decide +kernel
theorem dX4_checkRange_2 : decode cX4_checkRange 2 = .ok (.if_icmp .lt 8, 3) := by decide +kernel
theorem dX4_checkRange_5 : decode cX4_checkRange 5 = .ok (.iload_n 0, 1) := by decide +kernel
theorem dX4_checkRange_6 : decode cX4_checkRange 6 = .ok (.iload_n 2, 1) := by decide +kernel
theorem dX4_checkRange_7 : decode cX4_checkRange 7 = .ok (.if_icmp .le 13, 3) := by decide +kernel
theorem dX4_checkRange_10 : decode cX4_checkRange 10 = .ok (.new 173, 3) := by decide +kernel
theorem dX4_checkRange_13 : decode cX4_checkRange 13 = .ok (.dup, 1) := by decide +kernel
theorem dX4_checkRange_14 : decode cX4_checkRange 14 = .ok (.ldc 178, 2) := by decide +kernel
theorem dX4_checkRange_16 : decode cX4_checkRange 16 = .ok (.invokespecial 177, 3) := by decide +kernel
theorem dX4_checkRange_19 : decode cX4_checkRange 19 = .ok (.athrow, 1) := by decide +kernel
theorem dX4_checkRange_20 : decode cX4_checkRange 20 = .ok (.return_, 1) := by decide +kernel
set_option maxRecDepth 20000 in
theorem ggX4_checkEntry_X0_has : GoodIn wsX4_checkEntry wsX0_has := goodIn_r _ [8, 9, 18, 19, 20, 21] (by decide +kernel) (by decide +kernel)
set_option maxRecDepth 20000 in
theorem gX4_checkEntry_X0_has : GoodIn wsX4_checkEntry (wsV RX4 180 RX0 yX0_has wsX0_has) := goodIn_app (goodIn_of _ (by decide +kernel)) ggX4_checkEntry_X0_has
theorem dX4_checkEntry_0 : decode cX4_checkEntry 0 = .ok (.aload_n 0, 1) := by decide +kernel
theorem dX4_checkEntry_1 : decode cX4_checkEntry 1 = .ok (.getfield 25, 3) := by decide +kernel
theorem dX4_checkEntry_4 : decode cX4_checkEntry 4 = .ok (.iload_n 1, 1) := by decide +kernel
theorem dX4_checkEntry_5 : decode cX4_checkEntry 5 = .ok (.invokevirtual 180, 3) := by decide +kernel
theorem dX4_checkEntry_8 : decode cX4_checkEntry 8 = .ok (.ifCond .ne 13, 3) := by decide +kernel
theorem dX4_checkEntry_11 : decode cX4_checkEntry 11 = .ok (.new 137, 3) := by decide +kernel
theorem dX4_checkEntry_14 : decode cX4_checkEntry 14 = .ok (.dup, 1) := by decide +kernel
theorem dX4_checkEntry_15 : decode cX4_checkEntry 15 = .ok (.ldc 182, 2) := by decide +kernel
theorem dX4_checkEntry_17 : decode cX4_checkEntry 17 = .ok (.invokespecial 141, 3) := by decide +kernel
theorem dX4_checkEntry_20 : decode cX4_checkEntry 20 = .ok (.athrow, 1) := by decide +kernel
theorem dX4_checkEntry_21 : decode cX4_checkEntry 21 = .ok (.return_, 1) := by decide +kernel
set_option maxRecDepth 20000 in
theorem ggX4_checkPlace_X0_made : GoodIn wsX4_checkPlace wsX0_made := goodIn_r _ [8, 9, 18, 19, 20, 21] (by decide +kernel) (by decide +kernel)
set_option maxRecDepth 20000 in
theorem gX4_checkPlace_X0_made : GoodIn wsX4_checkPlace (wsV RX4 88 RX0 yX0_made wsX0_made) := goodIn_app (goodIn_of _ (by decide +kernel)) ggX4_checkPlace_X0_made
theorem dX4_checkPlace_0 : decode cX4_checkPlace 0 = .ok (.aload_n 0, 1) := by decide +kernel
theorem dX4_checkPlace_1 : decode cX4_checkPlace 1 = .ok (.getfield 25, 3) := by decide +kernel
theorem dX4_checkPlace_4 : decode cX4_checkPlace 4 = .ok (.invokevirtual 88, 3) := by decide +kernel
theorem dX4_checkPlace_7 : decode cX4_checkPlace 7 = .ok (.sipush 150, 3) := by decide +kernel
theorem dX4_checkPlace_10 : decode cX4_checkPlace 10 = .ok (.if_icmp .lt 13, 3) := by decide +kernel
theorem dX4_checkPlace_13 : decode cX4_checkPlace 13 = .ok (.new 63, 3) := by decide +kernel
theorem dX4_checkPlace_16 : decode cX4_checkPlace 16 = .ok (.dup, 1) := by decide +kernel
theorem dX4_checkPlace_17 : decode cX4_checkPlace 17 = .ok (.ldc 184, 2) := by decide +kernel
theorem dX4_checkPlace_19 : decode cX4_checkPlace 19 = .ok (.invokespecial 67, 3) := by decide +kernel
theorem dX4_checkPlace_22 : decode cX4_checkPlace 22 = .ok (.athrow, 1) := by decide +kernel
theorem dX4_checkPlace_23 : decode cX4_checkPlace 23 = .ok (.return_, 1) := by decide +kernel
set_option maxRecDepth 20000 in
theorem ggX4_rowOf_X4_checkPerson : GoodIn wsX4_rowOf wsX4_checkPerson := goodIn_ca (goodIn_r _ [5, 6, 7, 8, 9, 4, 10] (by decide +kernel) (by decide +kernel)) (goodIn_sub (fun _ h => List.mem_cons_of_mem _ (List.mem_append_right _ h)) (by decide +kernel))
set_option maxRecDepth 20000 in
theorem gX4_rowOf_X4_checkPerson : GoodIn wsX4_rowOf (va_wsS RX4 52 yX4_checkPerson wsX4_checkPerson) := goodIn_app (goodIn_of _ (by decide +kernel)) ggX4_rowOf_X4_checkPerson
theorem dX4_rowOf_0 : decode cX4_rowOf 0 = .ok (.iload_n 1, 1) := by decide +kernel
theorem dX4_rowOf_1 : decode cX4_rowOf 1 = .ok (.invokestatic 52, 3) := by decide +kernel
theorem dX4_rowOf_4 : decode cX4_rowOf 4 = .ok (.aload_n 0, 1) := by decide +kernel
theorem dX4_rowOf_5 : decode cX4_rowOf 5 = .ok (.getfield 31, 3) := by decide +kernel
theorem dX4_rowOf_8 : decode cX4_rowOf 8 = .ok (.iload_n 1, 1) := by decide +kernel
theorem dX4_rowOf_9 : decode cX4_rowOf 9 = .ok (.aaload, 1) := by decide +kernel
theorem dX4_rowOf_10 : decode cX4_rowOf 10 = .ok (.areturn, 1) := by decide +kernel
set_option maxRecDepth 20000 in
theorem ggX4_isOverMark_X1_countTo : GoodIn wsX4_isOverMark wsX1_countTo := goodIn_r _ [7, 8, 9, 10, 6, 11, 12, 13, 14, 15, 24] (by decide +kernel) (by decide +kernel)
set_option maxRecDepth 20000 in
theorem gX4_isOverMark_X1_countTo : GoodIn wsX4_isOverMark (wsV RX4 79 RX1 yX1_countTo wsX1_countTo) := goodIn_app (goodIn_of _ (by decide +kernel)) ggX4_isOverMark_X1_countTo
theorem dX4_isOverMark_0 : decode cX4_isOverMark 0 = .ok (.aload_n 0, 1) := by decide +kernel
theorem dX4_isOverMark_1 : decode cX4_isOverMark 1 = .ok (.getfield 10, 3) := by decide +kernel
theorem dX4_isOverMark_4 : decode cX4_isOverMark 4 = .ok (.iload_n 1, 1) := by decide +kernel
theorem dX4_isOverMark_5 : decode cX4_isOverMark 5 = .ok (.invokevirtual 79, 3) := by decide +kernel
theorem dX4_isOverMark_8 : decode cX4_isOverMark 8 = .ok (.aload_n 0, 1) := by decide +kernel
theorem dX4_isOverMark_9 : decode cX4_isOverMark 9 = .ok (.getfield 42, 3) := by decide +kernel
theorem dX4_isOverMark_12 : decode cX4_isOverMark 12 = .ok (.if_icmp .le 7, 3) := by decide +kernel
theorem dX4_isOverMark_15 : decode cX4_isOverMark 15 = .ok (.iconst 1, 1) := by decide +kernel
theorem dX4_isOverMark_16 : decode cX4_isOverMark 16 = .ok (.goto 4, 3) := by decide +kernel
theorem dX4_isOverMark_19 : decode cX4_isOverMark 19 = .ok (.iconst 0, 1) := by decide +kernel
theorem dX4_isOverMark_20 : decode cX4_isOverMark 20 = .ok (.ireturn, 1) := by decide +kernel
set_option maxRecDepth 20000 in
theorem ggX4_countLarge_X4_isOverMark : GoodIn wsX4_countLarge wsX4_isOverMark := goodIn_r _ [5, 6, 7, 8, 9, 10, 11, 12, 13, 14, 15, 16, 17, 18, 4, 19, 20, 21, 22, 23, 24, 25, 26, 27, 28] (by decide +kernel) (by decide +kernel)
set_option maxRecDepth 20000 in
theorem gX4_countLarge_X4_isOverMark : GoodIn wsX4_countLarge (wsV RX4 127 RX4 yX4_isOverMark wsX4_isOverMark) := goodIn_app (goodIn_of _ (by decide +kernel)) ggX4_countLarge_X4_isOverMark
theorem dX4_countLarge_0 : decode cX4_countLarge 0 = .ok (.iconst 0, 1) := by decide +kernel
theorem dX4_countLarge_1 : decode cX4_countLarge 1 = .ok (.istore_n 1, 1) := by decide +kernel
theorem dX4_countLarge_2 : decode cX4_countLarge 2 = .ok (.iconst 0, 1) := by decide +kernel
theorem dX4_countLarge_3 : decode cX4_countLarge 3 = .ok (.istore_n 2, 1) := by decide +kernel
theorem dX4_countLarge_4 : decode cX4_countLarge 4 = .ok (.iload_n 2, 1) := by decide +kernel
theorem dX4_countLarge_5 : decode cX4_countLarge 5 = .ok (.bipush 8, 2) := by decide +kernel
theorem dX4_countLarge_7 : decode cX4_countLarge 7 = .ok (.if_icmp .ge 20, 3) := by decide +kernel
theorem dX4_countLarge_10 : decode cX4_countLarge 10 = .ok (.aload_n 0, 1) := by decide +kernel
theorem dX4_countLarge_11 : decode cX4_countLarge 11 = .ok (.iload_n 2, 1) := by decide +kernel
theorem dX4_countLarge_12 : decode cX4_countLarge 12 = .ok (.invokevirtual 127, 3) := by decide +kernel
theorem dX4_countLarge_15 : decode cX4_countLarge 15 = .ok (.ifCond .eq 6, 3) := by decide +kernel
theorem dX4_countLarge_18 : decode cX4_countLarge 18 = .ok (.iinc 1 1, 3) := by decide +kernel
theorem dX4_countLarge_21 : decode cX4_countLarge 21 = .ok (.iinc 2 1, 3) := by decide +kernel
theorem dX4_countLarge_24 : decode cX4_countLarge 24 = .ok (.goto (-20), 3) := by decide +kernel
theorem dX4_countLarge_27 : decode cX4_countLarge 27 = .ok (.iload_n 1, 1) := by decide +kernel
theorem dX4_countLarge_28 : decode cX4_countLarge 28 = .ok (.ireturn, 1) := by decide +kernel
set_option maxRecDepth 20000 in
theorem ggX4_settleRows_X4_settleRow : GoodIn wsX4_settleRows wsX4_settleRow := goodIn_r _ [6, 7, 8, 9, 10, 11, 12, 13, 14, 15, 16, 17, 18, 19, 20, 21, 22, 23, 24, 25, 26, 27, 28, 29, 30, 31, 32, 33, 5, 34, 35, 36, 37, 38, 39, 40, 41, 42, 43, 44, 45, 46, 47, 48, 49, 50, 51, 52, 53, 54, 55, 56, 57, 58, 59, 60, 61, 62, 63, 64, 65, 66, 67, 68, 69, 70, 71, 72, 73, 74, 75, 76, 77, 78, 79, 80, 81, 82, 83, 84, 85, 86, 87, 88, 89, 90, 91, 92, 93, 94, 95, 96, 97] (by decide +kernel) (by decide +kernel)
set_option maxRecDepth 20000 in
theorem gX4_settleRows_X4_settleRow : GoodIn wsX4_settleRows (wsV RX4 186 RX4 yX4_settleRow wsX4_settleRow) := goodIn_app (goodIn_of _ (by decide +kernel)) ggX4_settleRows_X4_settleRow
theorem dX4_settleRows_0 : decode cX4_settleRows 0 = .ok (.aload_n 0, 1) := by decide +kernel
theorem dX4_settleRows_1 : decode cX4_settleRows 1 = .ok (.getfield 31, 3) := by decide +kernel
theorem dX4_settleRows_4 : decode cX4_settleRows 4 = .ok (.astore_n 1, 1) := by decide +kernel
theorem dX4_settleRows_5 : decode cX4_settleRows 5 = .ok (.aload_n 1, 1) := by decide +kernel
theorem dX4_settleRows_6 : decode cX4_settleRows 6 = .ok (.arraylength, 1) := by decide +kernel
theorem dX4_settleRows_7 : decode cX4_settleRows 7 = .ok (.istore_n 2, 1) := by decide +kernel
theorem dX4_settleRows_8 : decode cX4_settleRows 8 = .ok (.iconst 0, 1) := by decide +kernel
theorem dX4_settleRows_9 : decode cX4_settleRows 9 = .ok (.istore_n 3, 1) := by decide +kernel
theorem dX4_settleRows_10 : decode cX4_settleRows 10 = .ok (.iload_n 3, 1) := by decide +kernel
theorem dX4_settleRows_11 : decode cX4_settleRows 11 = .ok (.iload_n 2, 1) := by decide +kernel
theorem dX4_settleRows_12 : decode cX4_settleRows 12 = .ok (.if_icmp .ge 20, 3) := by decide +kernel
theorem dX4_settleRows_15 : decode cX4_settleRows 15 = .ok (.aload_n 1, 1) := by decide +kernel
theorem dX4_settleRows_16 : decode cX4_settleRows 16 = .ok (.iload_n 3, 1) := by decide +kernel
theorem dX4_settleRows_17 : decode cX4_settleRows 17 = .ok (.aaload, 1) := by decide +kernel
theorem dX4_settleRows_18 : decode cX4_settleRows 18 = .ok (.astore 4, 2) := by decide +kernel
theorem dX4_settleRows_20 : decode cX4_settleRows 20 = .ok (.aload_n 0, 1) := by decide +kernel
theorem dX4_settleRows_21 : decode cX4_settleRows 21 = .ok (.aload 4, 2) := by decide +kernel
theorem dX4_settleRows_23 : decode cX4_settleRows 23 = .ok (.invokevirtual 186, 3) := by decide +kernel
theorem dX4_settleRows_26 : decode cX4_settleRows 26 = .ok (.iinc 3 1, 3) := by decide +kernel
theorem dX4_settleRows_29 : decode cX4_settleRows 29 = .ok (.goto (-19), 3) := by decide +kernel
theorem dX4_settleRows_32 : decode cX4_settleRows 32 = .ok (.return_, 1) := by decide +kernel
set_option maxRecDepth 20000 in
theorem ggX4_settleRow_X2_floor : GoodIn wsX4_settleRow wsX2_floor := goodIn_r _ [7, 8, 84, 85, 86, 87] (by decide +kernel) (by decide +kernel)
set_option maxRecDepth 20000 in
theorem gX4_settleRow_X2_floor : GoodIn wsX4_settleRow (wsV RX4 145 RX2 yX2_floor wsX2_floor) := goodIn_app (goodIn_of _ (by decide +kernel)) ggX4_settleRow_X2_floor
set_option maxRecDepth 20000 in
theorem ggX4_settleRow_X2_empty : GoodIn wsX4_settleRow wsX2_empty := goodIn_r _ [12, 13, 84, 85, 86, 87] (by decide +kernel) (by decide +kernel)
set_option maxRecDepth 20000 in
theorem gX4_settleRow_X2_empty : GoodIn wsX4_settleRow (wsV RX4 189 RX2 yX2_empty wsX2_empty) := goodIn_app (goodIn_of _ (by decide +kernel)) ggX4_settleRow_X2_empty
set_option maxRecDepth 20000 in
theorem ggX4_settleRow_X0_made : GoodIn wsX4_settleRow wsX0_made := goodIn_r _ [18, 19, 88, 89, 90, 91] (by decide +kernel) (by decide +kernel)
set_option maxRecDepth 20000 in
theorem gX4_settleRow_X0_made : GoodIn wsX4_settleRow (wsV RX4 88 RX0 yX0_made wsX0_made) := goodIn_app (goodIn_of _ (by decide +kernel)) ggX4_settleRow_X0_made
set_option maxRecDepth 20000 in
theorem ggX4_settleRow_X2_owner : GoodIn wsX4_settleRow wsX2_owner := goodIn_r _ [23, 24, 84, 85, 86, 87] (by decide +kernel) (by decide +kernel)
set_option maxRecDepth 20000 in
theorem gX4_settleRow_X2_owner : GoodIn wsX4_settleRow (wsV RX4 192 RX2 yX2_owner wsX2_owner) := goodIn_app (goodIn_of _ (by decide +kernel)) ggX4_settleRow_X2_owner
set_option maxRecDepth 20000 in
theorem ggX4_settleRow_X4_isForRow : GoodIn wsX4_settleRow wsX4_isForRow := goodIn_r _ [29, 1, 30, 31, 32, 33, 17, 34, 35, 36, 37, 38, 39, 19, 40, 41, 42, 43, 44, 45, 46, 47, 48, 49, 50, 51, 28, 52, 53, 54, 55, 56, 57, 58, 59, 60, 61, 62, 76, 77, 78, 79, 80, 81, 82, 83, 88, 89, 90, 91, 92] (by decide +kernel) (by decide +kernel)
set_option maxRecDepth 20000 in
theorem gX4_settleRow_X4_isForRow : GoodIn wsX4_settleRow (wsV RX4 195 RX4 yX4_isForRow wsX4_isForRow) := goodIn_app (goodIn_of _ (by decide +kernel)) ggX4_settleRow_X4_isForRow
set_option maxRecDepth 20000 in
theorem ggX4_settleRow_X2_count : GoodIn wsX4_settleRow wsX2_count := goodIn_r _ [66, 13, 84, 85, 86, 87] (by decide +kernel) (by decide +kernel)
set_option maxRecDepth 20000 in
theorem gX4_settleRow_X2_count : GoodIn wsX4_settleRow (wsV RX4 134 RX2 yX2_count wsX2_count) := goodIn_app (goodIn_of _ (by decide +kernel)) ggX4_settleRow_X2_count
set_option maxRecDepth 20000 in
theorem ggX4_settleRow_X2_raiseFloor : GoodIn wsX4_settleRow wsX2_raiseFloor := goodIn_r _ [70, 8, 84, 85, 86, 87] (by decide +kernel) (by decide +kernel)
set_option maxRecDepth 20000 in
theorem gX4_settleRow_X2_raiseFloor : GoodIn wsX4_settleRow (wsV RX4 198 RX2 yX2_raiseFloor wsX2_raiseFloor) := goodIn_app (goodIn_of _ (by decide +kernel)) ggX4_settleRow_X2_raiseFloor
set_option maxRecDepth 20000 in
theorem ggX4_settleRow_X2_addBelow : GoodIn wsX4_settleRow wsX2_addBelow := goodIn_r _ [74, 13, 75, 84, 85, 86, 87] (by decide +kernel) (by decide +kernel)
set_option maxRecDepth 20000 in
theorem gX4_settleRow_X2_addBelow : GoodIn wsX4_settleRow (wsV RX4 201 RX2 yX2_addBelow wsX2_addBelow) := goodIn_app (goodIn_of _ (by decide +kernel)) ggX4_settleRow_X2_addBelow
theorem dX4_settleRow_0 : decode cX4_settleRow 0 = .ok (.aload_n 1, 1) := by decide +kernel
theorem dX4_settleRow_1 : decode cX4_settleRow 1 = .ok (.invokevirtual 145, 3) := by decide +kernel
theorem dX4_settleRow_4 : decode cX4_settleRow 4 = .ok (.istore_n 2, 1) := by decide +kernel
theorem dX4_settleRow_5 : decode cX4_settleRow 5 = .ok (.aload_n 1, 1) := by decide +kernel
theorem dX4_settleRow_6 : decode cX4_settleRow 6 = .ok (.invokevirtual 189, 3) := by decide +kernel
theorem dX4_settleRow_9 : decode cX4_settleRow 9 = .ok (.aload_n 0, 1) := by decide +kernel
theorem dX4_settleRow_10 : decode cX4_settleRow 10 = .ok (.getfield 25, 3) := by decide +kernel
theorem dX4_settleRow_13 : decode cX4_settleRow 13 = .ok (.invokevirtual 88, 3) := by decide +kernel
theorem dX4_settleRow_16 : decode cX4_settleRow 16 = .ok (.iconst 1, 1) := by decide +kernel
theorem dX4_settleRow_17 : decode cX4_settleRow 17 = .ok (.isub, 1) := by decide +kernel
theorem dX4_settleRow_18 : decode cX4_settleRow 18 = .ok (.istore_n 3, 1) := by decide +kernel
theorem dX4_settleRow_19 : decode cX4_settleRow 19 = .ok (.iload_n 3, 1) := by decide +kernel
theorem dX4_settleRow_20 : decode cX4_settleRow 20 = .ok (.iload_n 2, 1) := by decide +kernel
theorem dX4_settleRow_21 : decode cX4_settleRow 21 = .ok (.if_icmp .le 43, 3) := by decide +kernel
theorem dX4_settleRow_24 : decode cX4_settleRow 24 = .ok (.aload_n 0, 1) := by decide +kernel
theorem dX4_settleRow_25 : decode cX4_settleRow 25 = .ok (.aload_n 1, 1) := by decide +kernel
theorem dX4_settleRow_26 : decode cX4_settleRow 26 = .ok (.invokevirtual 192, 3) := by decide +kernel
theorem dX4_settleRow_29 : decode cX4_settleRow 29 = .ok (.iload_n 3, 1) := by decide +kernel
theorem dX4_settleRow_30 : decode cX4_settleRow 30 = .ok (.invokevirtual 195, 3) := by decide +kernel
theorem dX4_settleRow_33 : decode cX4_settleRow 33 = .ok (.ifCond .eq 25, 3) := by decide +kernel
theorem dX4_settleRow_36 : decode cX4_settleRow 36 = .ok (.aload_n 1, 1) := by decide +kernel
theorem dX4_settleRow_37 : decode cX4_settleRow 37 = .ok (.invokevirtual 134, 3) := by decide +kernel
theorem dX4_settleRow_40 : decode cX4_settleRow 40 = .ok (.aload_n 0, 1) := by decide +kernel
theorem dX4_settleRow_41 : decode cX4_settleRow 41 = .ok (.getfield 46, 3) := by decide +kernel
theorem dX4_settleRow_44 : decode cX4_settleRow 44 = .ok (.if_icmp .lt 9, 3) := by decide +kernel
theorem dX4_settleRow_47 : decode cX4_settleRow 47 = .ok (.aload_n 1, 1) := by decide +kernel
theorem dX4_settleRow_48 : decode cX4_settleRow 48 = .ok (.iload_n 3, 1) := by decide +kernel
theorem dX4_settleRow_49 : decode cX4_settleRow 49 = .ok (.invokevirtual 198, 3) := by decide +kernel
theorem dX4_settleRow_52 : decode cX4_settleRow 52 = .ok (.return_, 1) := by decide +kernel
theorem dX4_settleRow_53 : decode cX4_settleRow 53 = .ok (.aload_n 1, 1) := by decide +kernel
theorem dX4_settleRow_54 : decode cX4_settleRow 54 = .ok (.iload_n 3, 1) := by decide +kernel
theorem dX4_settleRow_55 : decode cX4_settleRow 55 = .ok (.invokevirtual 201, 3) := by decide +kernel
theorem dX4_settleRow_58 : decode cX4_settleRow 58 = .ok (.iinc 3 (-1), 3) := by decide +kernel
theorem dX4_settleRow_61 : decode cX4_settleRow 61 = .ok (.goto (-42), 3) := by decide +kernel
theorem dX4_settleRow_64 : decode cX4_settleRow 64 = .ok (.return_, 1) := by decide +kernel
set_option maxRecDepth 20000 in
theorem ggX4_isForRow_X0_author : GoodIn wsX4_isForRow wsX0_author := goodIn_r _ [7, 8, 9, 10, 11, 6, 12, 13, 46, 47, 48, 49] (by decide +kernel) (by decide +kernel)
set_option maxRecDepth 20000 in
theorem gX4_isForRow_X0_author : GoodIn wsX4_isForRow (wsV RX4 107 RX0 yX0_author wsX0_author) := goodIn_app (goodIn_of _ (by decide +kernel)) ggX4_isForRow_X0_author
set_option maxRecDepth 20000 in
theorem ggX4_isForRow_X0_stands : GoodIn wsX4_isForRow wsX0_stands := goodIn_r _ [17, 18, 9, 10, 11, 6, 12, 13, 46, 47, 48, 49] (by decide +kernel) (by decide +kernel)
set_option maxRecDepth 20000 in
theorem gX4_isForRow_X0_stands : GoodIn wsX4_isForRow (wsV RX4 101 RX0 yX0_stands wsX0_stands) := goodIn_app (goodIn_of _ (by decide +kernel)) ggX4_isForRow_X0_stands
set_option maxRecDepth 20000 in
theorem ggX4_isForRow_X1_has : GoodIn wsX4_isForRow wsX1_has := goodIn_r _ [23, 24, 25, 26, 27, 50] (by decide +kernel) (by decide +kernel)
set_option maxRecDepth 20000 in
theorem gX4_isForRow_X1_has : GoodIn wsX4_isForRow (wsV RX4 59 RX1 yX1_has wsX1_has) := goodIn_app (goodIn_of _ (by decide +kernel)) ggX4_isForRow_X1_has
set_option maxRecDepth 20000 in
theorem ggX4_isForRow_X4_isOverMark : GoodIn wsX4_isForRow wsX4_isOverMark := goodIn_r _ [31, 2, 32, 33, 34, 35, 22, 36, 37, 20, 21, 23, 24, 25, 26, 27, 38, 39, 40, 41, 42, 43, 44, 45, 50] (by decide +kernel) (by decide +kernel)
set_option maxRecDepth 20000 in
theorem gX4_isForRow_X4_isOverMark : GoodIn wsX4_isForRow (wsV RX4 127 RX4 yX4_isOverMark wsX4_isOverMark) := goodIn_app (goodIn_of _ (by decide +kernel)) ggX4_isForRow_X4_isOverMark
theorem dX4_isForRow_0 : decode cX4_isForRow 0 = .ok (.aload_n 0, 1) := by decide +kernel
theorem dX4_isForRow_1 : decode cX4_isForRow 1 = .ok (.getfield 25, 3) := by decide +kernel
theorem dX4_isForRow_4 : decode cX4_isForRow 4 = .ok (.iload_n 2, 1) := by decide +kernel
theorem dX4_isForRow_5 : decode cX4_isForRow 5 = .ok (.invokevirtual 107, 3) := by decide +kernel
theorem dX4_isForRow_8 : decode cX4_isForRow 8 = .ok (.istore_n 3, 1) := by decide +kernel
theorem dX4_isForRow_9 : decode cX4_isForRow 9 = .ok (.aload_n 0, 1) := by decide +kernel
theorem dX4_isForRow_10 : decode cX4_isForRow 10 = .ok (.getfield 25, 3) := by decide +kernel
theorem dX4_isForRow_13 : decode cX4_isForRow 13 = .ok (.iload_n 2, 1) := by decide +kernel
theorem dX4_isForRow_14 : decode cX4_isForRow 14 = .ok (.invokevirtual 101, 3) := by decide +kernel
theorem dX4_isForRow_17 : decode cX4_isForRow 17 = .ok (.ifCond .eq 27, 3) := by decide +kernel
theorem dX4_isForRow_20 : decode cX4_isForRow 20 = .ok (.aload_n 0, 1) := by decide +kernel
theorem dX4_isForRow_21 : decode cX4_isForRow 21 = .ok (.getfield 10, 3) := by decide +kernel
theorem dX4_isForRow_24 : decode cX4_isForRow 24 = .ok (.iload_n 1, 1) := by decide +kernel
theorem dX4_isForRow_25 : decode cX4_isForRow 25 = .ok (.iload_n 3, 1) := by decide +kernel
theorem dX4_isForRow_26 : decode cX4_isForRow 26 = .ok (.invokevirtual 59, 3) := by decide +kernel
theorem dX4_isForRow_29 : decode cX4_isForRow 29 = .ok (.ifCond .eq 15, 3) := by decide +kernel
theorem dX4_isForRow_32 : decode cX4_isForRow 32 = .ok (.aload_n 0, 1) := by decide +kernel
theorem dX4_isForRow_33 : decode cX4_isForRow 33 = .ok (.iload_n 3, 1) := by decide +kernel
theorem dX4_isForRow_34 : decode cX4_isForRow 34 = .ok (.invokevirtual 127, 3) := by decide +kernel
theorem dX4_isForRow_37 : decode cX4_isForRow 37 = .ok (.ifCond .ne 7, 3) := by decide +kernel
theorem dX4_isForRow_40 : decode cX4_isForRow 40 = .ok (.iconst 1, 1) := by decide +kernel
theorem dX4_isForRow_41 : decode cX4_isForRow 41 = .ok (.goto 4, 3) := by decide +kernel
theorem dX4_isForRow_44 : decode cX4_isForRow 44 = .ok (.iconst 0, 1) := by decide +kernel
theorem dX4_isForRow_45 : decode cX4_isForRow 45 = .ok (.ireturn, 1) := by decide +kernel
set_option maxRecDepth 20000 in
theorem ggX4_readTimeline_X3_empty : GoodIn wsX4_readTimeline wsX3_empty := goodIn_r _ [7, 8, 9, 99, 100, 101] (by decide +kernel) (by decide +kernel)
set_option maxRecDepth 20000 in
theorem gX4_readTimeline_X3_empty : GoodIn wsX4_readTimeline (wsV RX4 204 RX3 yX3_empty wsX3_empty) := goodIn_app (goodIn_of _ (by decide +kernel)) ggX4_readTimeline_X3_empty
set_option maxRecDepth 20000 in
theorem ggX4_readTimeline_X0_made : GoodIn wsX4_readTimeline wsX0_made := goodIn_r _ [14, 15, 102, 103, 104, 105] (by decide +kernel) (by decide +kernel)
set_option maxRecDepth 20000 in
theorem gX4_readTimeline_X0_made : GoodIn wsX4_readTimeline (wsV RX4 88 RX0 yX0_made wsX0_made) := goodIn_app (goodIn_of _ (by decide +kernel)) ggX4_readTimeline_X0_made
set_option maxRecDepth 20000 in
theorem ggX4_readTimeline_X2_floor : GoodIn wsX4_readTimeline wsX2_floor := goodIn_r _ [20, 21, 106, 107, 108, 109] (by decide +kernel) (by decide +kernel)
set_option maxRecDepth 20000 in
theorem gX4_readTimeline_X2_floor : GoodIn wsX4_readTimeline (wsV RX4 145 RX2 yX2_floor wsX2_floor) := goodIn_app (goodIn_of _ (by decide +kernel)) ggX4_readTimeline_X2_floor
set_option maxRecDepth 20000 in
theorem ggX4_readTimeline_X2_fromNewest : GoodIn wsX4_readTimeline wsX2_fromNewest := goodIn_r _ [25, 26, 27, 106, 107, 108, 109] (by decide +kernel) (by decide +kernel)
set_option maxRecDepth 20000 in
theorem gX4_readTimeline_X2_fromNewest : GoodIn wsX4_readTimeline (wsV RX4 142 RX2 yX2_fromNewest wsX2_fromNewest) := goodIn_app (goodIn_of _ (by decide +kernel)) ggX4_readTimeline_X2_fromNewest
set_option maxRecDepth 20000 in
theorem ggX4_readTimeline_X2_owner : GoodIn wsX4_readTimeline wsX2_owner := goodIn_r _ [31, 32, 106, 107, 108, 109] (by decide +kernel) (by decide +kernel)
set_option maxRecDepth 20000 in
theorem gX4_readTimeline_X2_owner : GoodIn wsX4_readTimeline (wsV RX4 192 RX2 yX2_owner wsX2_owner) := goodIn_app (goodIn_of _ (by decide +kernel)) ggX4_readTimeline_X2_owner
set_option maxRecDepth 20000 in
theorem ggX4_readTimeline_X4_isFetched : GoodIn wsX4_readTimeline wsX4_isFetched := goodIn_r _ [37, 2, 38, 39, 40, 41, 13, 42, 43, 44, 45, 46, 47, 15, 48, 49, 50, 51, 52, 53, 54, 36, 55, 56, 57, 58, 59, 60, 61, 62, 63, 64, 65, 91, 92, 93, 94, 95, 96, 97, 98, 102, 103, 104, 105, 110] (by decide +kernel) (by decide +kernel)
set_option maxRecDepth 20000 in
theorem gX4_readTimeline_X4_isFetched : GoodIn wsX4_readTimeline (wsV RX4 205 RX4 yX4_isFetched wsX4_isFetched) := goodIn_app (goodIn_of _ (by decide +kernel)) ggX4_readTimeline_X4_isFetched
set_option maxRecDepth 20000 in
theorem ggX4_readTimeline_X4_offer : GoodIn wsX4_readTimeline wsX4_offer := goodIn_r _ [69, 1, 2, 70, 71, 72, 36, 73, 74, 75, 76, 77, 78, 13, 79, 80, 44, 45, 46, 47, 15, 81, 82, 83, 84, 85, 39, 40, 41, 42, 43, 48, 49, 50, 51, 52, 53, 54, 55, 86, 87, 88, 6, 89, 8, 9, 90, 91, 92, 93, 94, 95, 96, 97, 98, 102, 103, 104, 105, 110, 99, 100, 101] (by decide +kernel) (by decide +kernel)
set_option maxRecDepth 20000 in
theorem gX4_readTimeline_X4_offer : GoodIn wsX4_readTimeline (wsV RX4 208 RX4 yX4_offer wsX4_offer) := goodIn_app (goodIn_of _ (by decide +kernel)) ggX4_readTimeline_X4_offer
theorem dX4_readTimeline_0 : decode cX4_readTimeline 0 = .ok (.aload_n 0, 1) := by decide +kernel
theorem dX4_readTimeline_1 : decode cX4_readTimeline 1 = .ok (.getfield 38, 3) := by decide +kernel
theorem dX4_readTimeline_4 : decode cX4_readTimeline 4 = .ok (.invokevirtual 204, 3) := by decide +kernel
theorem dX4_readTimeline_7 : decode cX4_readTimeline 7 = .ok (.iconst 0, 1) := by decide +kernel
theorem dX4_readTimeline_8 : decode cX4_readTimeline 8 = .ok (.istore_n 2, 1) := by decide +kernel
theorem dX4_readTimeline_9 : decode cX4_readTimeline 9 = .ok (.aload_n 0, 1) := by decide +kernel
theorem dX4_readTimeline_10 : decode cX4_readTimeline 10 = .ok (.getfield 25, 3) := by decide +kernel
theorem dX4_readTimeline_13 : decode cX4_readTimeline 13 = .ok (.invokevirtual 88, 3) := by decide +kernel
theorem dX4_readTimeline_16 : decode cX4_readTimeline 16 = .ok (.iconst 1, 1) := by decide +kernel
theorem dX4_readTimeline_17 : decode cX4_readTimeline 17 = .ok (.isub, 1) := by decide +kernel
theorem dX4_readTimeline_18 : decode cX4_readTimeline 18 = .ok (.istore_n 3, 1) := by decide +kernel
theorem dX4_readTimeline_19 : decode cX4_readTimeline 19 = .ok (.iload_n 3, 1) := by decide +kernel
theorem dX4_readTimeline_20 : decode cX4_readTimeline 20 = .ok (.aload_n 1, 1) := by decide +kernel
theorem dX4_readTimeline_21 : decode cX4_readTimeline 21 = .ok (.invokevirtual 145, 3) := by decide +kernel
theorem dX4_readTimeline_24 : decode cX4_readTimeline 24 = .ok (.if_icmp .le 59, 3) := by decide +kernel
theorem dX4_readTimeline_27 : decode cX4_readTimeline 27 = .ok (.aload_n 1, 1) := by decide +kernel
theorem dX4_readTimeline_28 : decode cX4_readTimeline 28 = .ok (.iload_n 2, 1) := by decide +kernel
theorem dX4_readTimeline_29 : decode cX4_readTimeline 29 = .ok (.invokevirtual 142, 3) := by decide +kernel
theorem dX4_readTimeline_32 : decode cX4_readTimeline 32 = .ok (.iload_n 3, 1) := by decide +kernel
theorem dX4_readTimeline_33 : decode cX4_readTimeline 33 = .ok (.if_icmp .ne 7, 3) := by decide +kernel
theorem dX4_readTimeline_36 : decode cX4_readTimeline 36 = .ok (.iconst 1, 1) := by decide +kernel
theorem dX4_readTimeline_37 : decode cX4_readTimeline 37 = .ok (.goto 4, 3) := by decide +kernel
theorem dX4_readTimeline_40 : decode cX4_readTimeline 40 = .ok (.iconst 0, 1) := by decide +kernel
theorem dX4_readTimeline_41 : decode cX4_readTimeline 41 = .ok (.istore 4, 2) := by decide +kernel
theorem dX4_readTimeline_43 : decode cX4_readTimeline 43 = .ok (.iload 4, 2) := by decide +kernel
theorem dX4_readTimeline_45 : decode cX4_readTimeline 45 = .ok (.ifCond .eq 6, 3) := by decide +kernel
theorem dX4_readTimeline_48 : decode cX4_readTimeline 48 = .ok (.iinc 2 1, 3) := by decide +kernel
theorem dX4_readTimeline_51 : decode cX4_readTimeline 51 = .ok (.iload 4, 2) := by decide +kernel
theorem dX4_readTimeline_53 : decode cX4_readTimeline 53 = .ok (.ifCond .ne 15, 3) := by decide +kernel
theorem dX4_readTimeline_56 : decode cX4_readTimeline 56 = .ok (.aload_n 0, 1) := by decide +kernel
theorem dX4_readTimeline_57 : decode cX4_readTimeline 57 = .ok (.aload_n 1, 1) := by decide +kernel
theorem dX4_readTimeline_58 : decode cX4_readTimeline 58 = .ok (.invokevirtual 192, 3) := by decide +kernel
theorem dX4_readTimeline_61 : decode cX4_readTimeline 61 = .ok (.iload_n 3, 1) := by decide +kernel
theorem dX4_readTimeline_62 : decode cX4_readTimeline 62 = .ok (.invokevirtual 205, 3) := by decide +kernel
theorem dX4_readTimeline_65 : decode cX4_readTimeline 65 = .ok (.ifCond .eq 12, 3) := by decide +kernel
theorem dX4_readTimeline_68 : decode cX4_readTimeline 68 = .ok (.aload_n 0, 1) := by decide +kernel
theorem dX4_readTimeline_69 : decode cX4_readTimeline 69 = .ok (.aload_n 1, 1) := by decide +kernel
theorem dX4_readTimeline_70 : decode cX4_readTimeline 70 = .ok (.invokevirtual 192, 3) := by decide +kernel
theorem dX4_readTimeline_73 : decode cX4_readTimeline 73 = .ok (.iload_n 3, 1) := by decide +kernel
theorem dX4_readTimeline_74 : decode cX4_readTimeline 74 = .ok (.invokevirtual 208, 3) := by decide +kernel
theorem dX4_readTimeline_77 : decode cX4_readTimeline 77 = .ok (.iinc 3 (-1), 3) := by decide +kernel
theorem dX4_readTimeline_80 : decode cX4_readTimeline 80 = .ok (.goto (-61), 3) := by decide +kernel
theorem dX4_readTimeline_83 : decode cX4_readTimeline 83 = .ok (.return_, 1) := by decide +kernel
set_option maxRecDepth 20000 in
theorem ggX4_mergeTimeline_X3_empty : GoodIn wsX4_mergeTimeline wsX3_empty := goodIn_r _ [8, 9, 10, 68, 69, 70] (by decide +kernel) (by decide +kernel)
set_option maxRecDepth 20000 in
theorem gX4_mergeTimeline_X3_empty : GoodIn wsX4_mergeTimeline (wsV RX4 204 RX3 yX3_empty wsX3_empty) := goodIn_app (goodIn_of _ (by decide +kernel)) ggX4_mergeTimeline_X3_empty
set_option maxRecDepth 20000 in
theorem ggX4_mergeTimeline_X0_made : GoodIn wsX4_mergeTimeline wsX0_made := goodIn_r _ [15, 16, 71, 72, 73, 74] (by decide +kernel) (by decide +kernel)
set_option maxRecDepth 20000 in
theorem gX4_mergeTimeline_X0_made : GoodIn wsX4_mergeTimeline (wsV RX4 88 RX0 yX0_made wsX0_made) := goodIn_app (goodIn_of _ (by decide +kernel)) ggX4_mergeTimeline_X0_made
set_option maxRecDepth 20000 in
theorem ggX4_mergeTimeline_X0_author : GoodIn wsX4_mergeTimeline wsX0_author := goodIn_r _ [20, 21, 22, 23, 24, 14, 25, 16, 71, 72, 73, 74] (by decide +kernel) (by decide +kernel)
set_option maxRecDepth 20000 in
theorem gX4_mergeTimeline_X0_author : GoodIn wsX4_mergeTimeline (wsV RX4 107 RX0 yX0_author wsX0_author) := goodIn_app (goodIn_of _ (by decide +kernel)) ggX4_mergeTimeline_X0_author
set_option maxRecDepth 20000 in
theorem ggX4_mergeTimeline_X1_has : GoodIn wsX4_mergeTimeline wsX1_has := goodIn_r _ [30, 31, 32, 33, 34, 75] (by decide +kernel) (by decide +kernel)
set_option maxRecDepth 20000 in
theorem gX4_mergeTimeline_X1_has : GoodIn wsX4_mergeTimeline (wsV RX4 59 RX1 yX1_has wsX1_has) := goodIn_app (goodIn_of _ (by decide +kernel)) ggX4_mergeTimeline_X1_has
set_option maxRecDepth 20000 in
theorem ggX4_mergeTimeline_X4_offer : GoodIn wsX4_mergeTimeline wsX4_offer := goodIn_r _ [38, 1, 2, 39, 40, 41, 33, 42, 43, 44, 45, 46, 47, 14, 48, 49, 22, 23, 24, 25, 16, 50, 51, 52, 53, 54, 17, 18, 19, 20, 21, 26, 27, 28, 29, 30, 31, 32, 34, 55, 56, 57, 7, 58, 9, 10, 59, 60, 61, 62, 63, 64, 65, 66, 67, 71, 72, 73, 74, 75, 68, 69, 70] (by decide +kernel) (by decide +kernel)
set_option maxRecDepth 20000 in
theorem gX4_mergeTimeline_X4_offer : GoodIn wsX4_mergeTimeline (wsV RX4 208 RX4 yX4_offer wsX4_offer) := goodIn_app (goodIn_of _ (by decide +kernel)) ggX4_mergeTimeline_X4_offer
theorem dX4_mergeTimeline_0 : decode cX4_mergeTimeline 0 = .ok (.aload_n 0, 1) := by decide +kernel
theorem dX4_mergeTimeline_1 : decode cX4_mergeTimeline 1 = .ok (.getfield 38, 3) := by decide +kernel
theorem dX4_mergeTimeline_4 : decode cX4_mergeTimeline 4 = .ok (.invokevirtual 204, 3) := by decide +kernel
theorem dX4_mergeTimeline_7 : decode cX4_mergeTimeline 7 = .ok (.aload_n 0, 1) := by decide +kernel
theorem dX4_mergeTimeline_8 : decode cX4_mergeTimeline 8 = .ok (.getfield 25, 3) := by decide +kernel
theorem dX4_mergeTimeline_11 : decode cX4_mergeTimeline 11 = .ok (.invokevirtual 88, 3) := by decide +kernel
theorem dX4_mergeTimeline_14 : decode cX4_mergeTimeline 14 = .ok (.iconst 1, 1) := by decide +kernel
theorem dX4_mergeTimeline_15 : decode cX4_mergeTimeline 15 = .ok (.isub, 1) := by decide +kernel
theorem dX4_mergeTimeline_16 : decode cX4_mergeTimeline 16 = .ok (.istore_n 3, 1) := by decide +kernel
theorem dX4_mergeTimeline_17 : decode cX4_mergeTimeline 17 = .ok (.iload_n 3, 1) := by decide +kernel
theorem dX4_mergeTimeline_18 : decode cX4_mergeTimeline 18 = .ok (.iload_n 2, 1) := by decide +kernel
theorem dX4_mergeTimeline_19 : decode cX4_mergeTimeline 19 = .ok (.if_icmp .le 34, 3) := by decide +kernel
theorem dX4_mergeTimeline_22 : decode cX4_mergeTimeline 22 = .ok (.aload_n 0, 1) := by decide +kernel
theorem dX4_mergeTimeline_23 : decode cX4_mergeTimeline 23 = .ok (.getfield 10, 3) := by decide +kernel
theorem dX4_mergeTimeline_26 : decode cX4_mergeTimeline 26 = .ok (.iload_n 1, 1) := by decide +kernel
theorem dX4_mergeTimeline_27 : decode cX4_mergeTimeline 27 = .ok (.aload_n 0, 1) := by decide +kernel
theorem dX4_mergeTimeline_28 : decode cX4_mergeTimeline 28 = .ok (.getfield 25, 3) := by decide +kernel
theorem dX4_mergeTimeline_31 : decode cX4_mergeTimeline 31 = .ok (.iload_n 3, 1) := by decide +kernel
theorem dX4_mergeTimeline_32 : decode cX4_mergeTimeline 32 = .ok (.invokevirtual 107, 3) := by decide +kernel
theorem dX4_mergeTimeline_35 : decode cX4_mergeTimeline 35 = .ok (.invokevirtual 59, 3) := by decide +kernel
theorem dX4_mergeTimeline_38 : decode cX4_mergeTimeline 38 = .ok (.ifCond .eq 9, 3) := by decide +kernel
theorem dX4_mergeTimeline_41 : decode cX4_mergeTimeline 41 = .ok (.aload_n 0, 1) := by decide +kernel
theorem dX4_mergeTimeline_42 : decode cX4_mergeTimeline 42 = .ok (.iload_n 1, 1) := by decide +kernel
theorem dX4_mergeTimeline_43 : decode cX4_mergeTimeline 43 = .ok (.iload_n 3, 1) := by decide +kernel
theorem dX4_mergeTimeline_44 : decode cX4_mergeTimeline 44 = .ok (.invokevirtual 208, 3) := by decide +kernel
theorem dX4_mergeTimeline_47 : decode cX4_mergeTimeline 47 = .ok (.iinc 3 (-1), 3) := by decide +kernel
theorem dX4_mergeTimeline_50 : decode cX4_mergeTimeline 50 = .ok (.goto (-33), 3) := by decide +kernel
theorem dX4_mergeTimeline_53 : decode cX4_mergeTimeline 53 = .ok (.return_, 1) := by decide +kernel
set_option maxRecDepth 20000 in
theorem ggX4_isFetched_X0_author : GoodIn wsX4_isFetched wsX0_author := goodIn_r _ [7, 8, 9, 10, 11, 6, 12, 13, 41, 42, 43, 44] (by decide +kernel) (by decide +kernel)
set_option maxRecDepth 20000 in
theorem gX4_isFetched_X0_author : GoodIn wsX4_isFetched (wsV RX4 107 RX0 yX0_author wsX0_author) := goodIn_app (goodIn_of _ (by decide +kernel)) ggX4_isFetched_X0_author
set_option maxRecDepth 20000 in
theorem ggX4_isFetched_X1_has : GoodIn wsX4_isFetched wsX1_has := goodIn_r _ [18, 19, 20, 21, 22, 45] (by decide +kernel) (by decide +kernel)
set_option maxRecDepth 20000 in
theorem gX4_isFetched_X1_has : GoodIn wsX4_isFetched (wsV RX4 59 RX1 yX1_has wsX1_has) := goodIn_app (goodIn_of _ (by decide +kernel)) ggX4_isFetched_X1_has
set_option maxRecDepth 20000 in
theorem ggX4_isFetched_X4_isOverMark : GoodIn wsX4_isFetched wsX4_isOverMark := goodIn_r _ [26, 2, 27, 28, 29, 30, 17, 31, 32, 15, 16, 18, 19, 20, 21, 22, 33, 34, 35, 36, 37, 38, 39, 40, 45] (by decide +kernel) (by decide +kernel)
set_option maxRecDepth 20000 in
theorem gX4_isFetched_X4_isOverMark : GoodIn wsX4_isFetched (wsV RX4 127 RX4 yX4_isOverMark wsX4_isOverMark) := goodIn_app (goodIn_of _ (by decide +kernel)) ggX4_isFetched_X4_isOverMark
theorem dX4_isFetched_0 : decode cX4_isFetched 0 = .ok (.aload_n 0, 1) := by decide +kernel
theorem dX4_isFetched_1 : decode cX4_isFetched 1 = .ok (.getfield 25, 3) := by decide +kernel
theorem dX4_isFetched_4 : decode cX4_isFetched 4 = .ok (.iload_n 2, 1) := by decide +kernel
theorem dX4_isFetched_5 : decode cX4_isFetched 5 = .ok (.invokevirtual 107, 3) := by decide +kernel
theorem dX4_isFetched_8 : decode cX4_isFetched 8 = .ok (.istore_n 3, 1) := by decide +kernel
theorem dX4_isFetched_9 : decode cX4_isFetched 9 = .ok (.aload_n 0, 1) := by decide +kernel
theorem dX4_isFetched_10 : decode cX4_isFetched 10 = .ok (.getfield 10, 3) := by decide +kernel
theorem dX4_isFetched_13 : decode cX4_isFetched 13 = .ok (.iload_n 1, 1) := by decide +kernel
theorem dX4_isFetched_14 : decode cX4_isFetched 14 = .ok (.iload_n 3, 1) := by decide +kernel
theorem dX4_isFetched_15 : decode cX4_isFetched 15 = .ok (.invokevirtual 59, 3) := by decide +kernel
theorem dX4_isFetched_18 : decode cX4_isFetched 18 = .ok (.ifCond .eq 15, 3) := by decide +kernel
theorem dX4_isFetched_21 : decode cX4_isFetched 21 = .ok (.aload_n 0, 1) := by decide +kernel
theorem dX4_isFetched_22 : decode cX4_isFetched 22 = .ok (.iload_n 3, 1) := by decide +kernel
theorem dX4_isFetched_23 : decode cX4_isFetched 23 = .ok (.invokevirtual 127, 3) := by decide +kernel
theorem dX4_isFetched_26 : decode cX4_isFetched 26 = .ok (.ifCond .eq 7, 3) := by decide +kernel
theorem dX4_isFetched_29 : decode cX4_isFetched 29 = .ok (.iconst 1, 1) := by decide +kernel
theorem dX4_isFetched_30 : decode cX4_isFetched 30 = .ok (.goto 4, 3) := by decide +kernel
theorem dX4_isFetched_33 : decode cX4_isFetched 33 = .ok (.iconst 0, 1) := by decide +kernel
theorem dX4_isFetched_34 : decode cX4_isFetched 34 = .ok (.ireturn, 1) := by decide +kernel
set_option maxRecDepth 20000 in
theorem ggX4_offer_X4_isHidden : GoodIn wsX4_offer wsX4_isHidden := goodIn_r _ [7, 2, 8, 9, 10, 11, 12, 13, 14, 15, 16, 17, 18, 19, 20, 21, 22, 23, 24, 25, 26, 27, 28, 29, 30, 31, 32, 33, 34, 35, 36, 37, 6, 38, 47, 48, 49, 50, 51, 52, 53, 54, 55, 56, 57, 58, 59] (by decide +kernel) (by decide +kernel)
set_option maxRecDepth 20000 in
theorem gX4_offer_X4_isHidden : GoodIn wsX4_offer (wsV RX4 211 RX4 yX4_isHidden wsX4_isHidden) := goodIn_app (goodIn_of _ (by decide +kernel)) ggX4_offer_X4_isHidden
set_option maxRecDepth 20000 in
theorem ggX4_offer_X0_origin : GoodIn wsX4_offer wsX0_origin := goodIn_r _ [14, 15, 16, 17, 18, 13, 19, 20, 55, 56, 57, 58] (by decide +kernel) (by decide +kernel)
set_option maxRecDepth 20000 in
theorem gX4_offer_X0_origin : GoodIn wsX4_offer (wsV RX4 98 RX0 yX0_origin wsX0_origin) := goodIn_app (goodIn_of _ (by decide +kernel)) ggX4_offer_X0_origin
set_option maxRecDepth 20000 in
theorem ggX4_offer_X3_addBelow : GoodIn wsX4_offer wsX3_addBelow := goodIn_r _ [43, 44, 45, 46, 60, 61, 62] (by decide +kernel) (by decide +kernel)
set_option maxRecDepth 20000 in
theorem gX4_offer_X3_addBelow : GoodIn wsX4_offer (wsV RX4 214 RX3 yX3_addBelow wsX3_addBelow) := goodIn_app (goodIn_of _ (by decide +kernel)) ggX4_offer_X3_addBelow
theorem dX4_offer_0 : decode cX4_offer 0 = .ok (.aload_n 0, 1) := by decide +kernel
theorem dX4_offer_1 : decode cX4_offer 1 = .ok (.iload_n 1, 1) := by decide +kernel
theorem dX4_offer_2 : decode cX4_offer 2 = .ok (.iload_n 2, 1) := by decide +kernel
theorem dX4_offer_3 : decode cX4_offer 3 = .ok (.invokevirtual 211, 3) := by decide +kernel
theorem dX4_offer_6 : decode cX4_offer 6 = .ok (.ifCond .ne 19, 3) := by decide +kernel
theorem dX4_offer_9 : decode cX4_offer 9 = .ok (.aload_n 0, 1) := by decide +kernel
theorem dX4_offer_10 : decode cX4_offer 10 = .ok (.getfield 38, 3) := by decide +kernel
theorem dX4_offer_13 : decode cX4_offer 13 = .ok (.iload_n 2, 1) := by decide +kernel
theorem dX4_offer_14 : decode cX4_offer 14 = .ok (.aload_n 0, 1) := by decide +kernel
theorem dX4_offer_15 : decode cX4_offer 15 = .ok (.getfield 25, 3) := by decide +kernel
theorem dX4_offer_18 : decode cX4_offer 18 = .ok (.iload_n 2, 1) := by decide +kernel
theorem dX4_offer_19 : decode cX4_offer 19 = .ok (.invokevirtual 98, 3) := by decide +kernel
theorem dX4_offer_22 : decode cX4_offer 22 = .ok (.invokevirtual 214, 3) := by decide +kernel
theorem dX4_offer_25 : decode cX4_offer 25 = .ok (.return_, 1) := by decide +kernel
set_option maxRecDepth 20000 in
theorem ggX4_isHidden_X0_origin : GoodIn wsX4_isHidden wsX0_origin := goodIn_r _ [8, 9, 10, 11, 12, 7, 13, 14, 42, 43, 44, 45] (by decide +kernel) (by decide +kernel)
set_option maxRecDepth 20000 in
theorem gX4_isHidden_X0_origin : GoodIn wsX4_isHidden (wsV RX4 98 RX0 yX0_origin wsX0_origin) := goodIn_app (goodIn_of _ (by decide +kernel)) ggX4_isHidden_X0_origin
set_option maxRecDepth 20000 in
theorem ggX4_isHidden_X0_stands : GoodIn wsX4_isHidden wsX0_stands := goodIn_r _ [18, 19, 10, 11, 12, 7, 13, 14, 42, 43, 44, 45] (by decide +kernel) (by decide +kernel)
set_option maxRecDepth 20000 in
theorem gX4_isHidden_X0_stands : GoodIn wsX4_isHidden (wsV RX4 101 RX0 yX0_stands wsX0_stands) := goodIn_app (goodIn_of _ (by decide +kernel)) ggX4_isHidden_X0_stands
set_option maxRecDepth 20000 in
theorem ggX4_isHidden_X0_author : GoodIn wsX4_isHidden wsX0_author := goodIn_r _ [23, 24, 10, 11, 12, 7, 13, 14, 42, 43, 44, 45] (by decide +kernel) (by decide +kernel)
set_option maxRecDepth 20000 in
theorem gX4_isHidden_X0_author : GoodIn wsX4_isHidden (wsV RX4 107 RX0 yX0_author wsX0_author) := goodIn_app (goodIn_of _ (by decide +kernel)) ggX4_isHidden_X0_author
set_option maxRecDepth 20000 in
theorem ggX4_isHidden_X1_has : GoodIn wsX4_isHidden wsX1_has := goodIn_r _ [29, 30, 31, 32, 33, 46] (by decide +kernel) (by decide +kernel)
set_option maxRecDepth 20000 in
theorem gX4_isHidden_X1_has : GoodIn wsX4_isHidden (wsV RX4 59 RX1 yX1_has wsX1_has) := goodIn_app (goodIn_of _ (by decide +kernel)) ggX4_isHidden_X1_has
theorem dX4_isHidden_0 : decode cX4_isHidden 0 = .ok (.aload_n 0, 1) := by decide +kernel
theorem dX4_isHidden_1 : decode cX4_isHidden 1 = .ok (.getfield 25, 3) := by decide +kernel
theorem dX4_isHidden_4 : decode cX4_isHidden 4 = .ok (.iload_n 2, 1) := by decide +kernel
theorem dX4_isHidden_5 : decode cX4_isHidden 5 = .ok (.invokevirtual 98, 3) := by decide +kernel
theorem dX4_isHidden_8 : decode cX4_isHidden 8 = .ok (.istore_n 3, 1) := by decide +kernel
theorem dX4_isHidden_9 : decode cX4_isHidden 9 = .ok (.aload_n 0, 1) := by decide +kernel
theorem dX4_isHidden_10 : decode cX4_isHidden 10 = .ok (.getfield 25, 3) := by decide +kernel
theorem dX4_isHidden_13 : decode cX4_isHidden 13 = .ok (.iload_n 2, 1) := by decide +kernel
theorem dX4_isHidden_14 : decode cX4_isHidden 14 = .ok (.invokevirtual 101, 3) := by decide +kernel
theorem dX4_isHidden_17 : decode cX4_isHidden 17 = .ok (.ifCond .eq 14, 3) := by decide +kernel
theorem dX4_isHidden_20 : decode cX4_isHidden 20 = .ok (.aload_n 0, 1) := by decide +kernel
theorem dX4_isHidden_21 : decode cX4_isHidden 21 = .ok (.getfield 25, 3) := by decide +kernel
theorem dX4_isHidden_24 : decode cX4_isHidden 24 = .ok (.iload_n 3, 1) := by decide +kernel
theorem dX4_isHidden_25 : decode cX4_isHidden 25 = .ok (.invokevirtual 101, 3) := by decide +kernel
theorem dX4_isHidden_28 : decode cX4_isHidden 28 = .ok (.ifCond .ne 5, 3) := by decide +kernel
theorem dX4_isHidden_31 : decode cX4_isHidden 31 = .ok (.iconst 1, 1) := by decide +kernel
theorem dX4_isHidden_32 : decode cX4_isHidden 32 = .ok (.ireturn, 1) := by decide +kernel
theorem dX4_isHidden_33 : decode cX4_isHidden 33 = .ok (.aload_n 0, 1) := by decide +kernel
theorem dX4_isHidden_34 : decode cX4_isHidden 34 = .ok (.getfield 25, 3) := by decide +kernel
theorem dX4_isHidden_37 : decode cX4_isHidden 37 = .ok (.iload_n 3, 1) := by decide +kernel
theorem dX4_isHidden_38 : decode cX4_isHidden 38 = .ok (.invokevirtual 107, 3) := by decide +kernel
theorem dX4_isHidden_41 : decode cX4_isHidden 41 = .ok (.istore 4, 2) := by decide +kernel
theorem dX4_isHidden_43 : decode cX4_isHidden 43 = .ok (.aload_n 0, 1) := by decide +kernel
theorem dX4_isHidden_44 : decode cX4_isHidden 44 = .ok (.getfield 16, 3) := by decide +kernel
theorem dX4_isHidden_47 : decode cX4_isHidden 47 = .ok (.iload_n 1, 1) := by decide +kernel
theorem dX4_isHidden_48 : decode cX4_isHidden 48 = .ok (.aload_n 0, 1) := by decide +kernel
theorem dX4_isHidden_49 : decode cX4_isHidden 49 = .ok (.getfield 25, 3) := by decide +kernel
theorem dX4_isHidden_52 : decode cX4_isHidden 52 = .ok (.iload_n 2, 1) := by decide +kernel
theorem dX4_isHidden_53 : decode cX4_isHidden 53 = .ok (.invokevirtual 107, 3) := by decide +kernel
theorem dX4_isHidden_56 : decode cX4_isHidden 56 = .ok (.invokevirtual 59, 3) := by decide +kernel
theorem dX4_isHidden_59 : decode cX4_isHidden 59 = .ok (.ifCond .ne 29, 3) := by decide +kernel
theorem dX4_isHidden_62 : decode cX4_isHidden 62 = .ok (.aload_n 0, 1) := by decide +kernel
theorem dX4_isHidden_63 : decode cX4_isHidden 63 = .ok (.getfield 16, 3) := by decide +kernel
theorem dX4_isHidden_66 : decode cX4_isHidden 66 = .ok (.iload_n 1, 1) := by decide +kernel
theorem dX4_isHidden_67 : decode cX4_isHidden 67 = .ok (.iload 4, 2) := by decide +kernel
theorem dX4_isHidden_69 : decode cX4_isHidden 69 = .ok (.invokevirtual 59, 3) := by decide +kernel
theorem dX4_isHidden_72 : decode cX4_isHidden 72 = .ok (.ifCond .ne 16, 3) := by decide +kernel
theorem dX4_isHidden_75 : decode cX4_isHidden 75 = .ok (.aload_n 0, 1) := by decide +kernel
theorem dX4_isHidden_76 : decode cX4_isHidden 76 = .ok (.getfield 19, 3) := by decide +kernel
theorem dX4_isHidden_79 : decode cX4_isHidden 79 = .ok (.iload 4, 2) := by decide +kernel
theorem dX4_isHidden_81 : decode cX4_isHidden 81 = .ok (.iload_n 1, 1) := by decide +kernel
theorem dX4_isHidden_82 : decode cX4_isHidden 82 = .ok (.invokevirtual 59, 3) := by decide +kernel
theorem dX4_isHidden_85 : decode cX4_isHidden 85 = .ok (.ifCond .eq 7, 3) := by decide +kernel
theorem dX4_isHidden_88 : decode cX4_isHidden 88 = .ok (.iconst 1, 1) := by decide +kernel
theorem dX4_isHidden_89 : decode cX4_isHidden 89 = .ok (.goto 4, 3) := by decide +kernel
theorem dX4_isHidden_92 : decode cX4_isHidden 92 = .ok (.iconst 0, 1) := by decide +kernel
theorem dX4_isHidden_93 : decode cX4_isHidden 93 = .ok (.ireturn, 1) := by decide +kernel
