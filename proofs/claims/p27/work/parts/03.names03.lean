theorem dX0_init_0 : decode cX0_init 0 = .ok (.aload_n 0, 1) := by decide +kernel
theorem dX0_init_1 : decode cX0_init 1 = .ok (.invokespecial 3, 3) := by decide +kernel
theorem dX0_init_4 : decode cX0_init 4 = .ok (.aload_n 0, 1) := by decide +kernel
theorem dX0_init_5 : decode cX0_init 5 = .ok (.sipush 150, 3) := by decide +kernel
theorem dX0_init_8 : decode cX0_init 8 = .ok (.newarray .int, 2) := by decide +kernel
theorem dX0_init_10 : decode cX0_init 10 = .ok (.putfield 9, 3) := by decide +kernel
theorem dX0_init_13 : decode cX0_init 13 = .ok (.aload_n 0, 1) := by decide +kernel
theorem dX0_init_14 : decode cX0_init 14 = .ok (.sipush 150, 3) := by decide +kernel
theorem dX0_init_17 : decode cX0_init 17 = .ok (.newarray .int, 2) := by decide +kernel
theorem dX0_init_19 : decode cX0_init 19 = .ok (.putfield 15, 3) := by decide +kernel
theorem dX0_init_22 : decode cX0_init 22 = .ok (.aload_n 0, 1) := by decide +kernel
theorem dX0_init_23 : decode cX0_init 23 = .ok (.sipush 150, 3) := by decide +kernel
theorem dX0_init_26 : decode cX0_init 26 = .ok (.newarray .boolean, 2) := by decide +kernel
theorem dX0_init_28 : decode cX0_init 28 = .ok (.putfield 18, 3) := by decide +kernel
theorem dX0_init_31 : decode cX0_init 31 = .ok (.return_, 1) := by decide +kernel
theorem dX0_made_0 : decode cX0_made 0 = .ok (.aload_n 0, 1) := by decide +kernel
theorem dX0_made_1 : decode cX0_made 1 = .ok (.getfield 22, 3) := by decide +kernel
theorem dX0_made_4 : decode cX0_made 4 = .ok (.ireturn, 1) := by decide +kernel
theorem dX0_has_0 : decode cX0_has 0 = .ok (.iload_n 1, 1) := by decide +kernel
theorem dX0_has_1 : decode cX0_has 1 = .ok (.ifCond .lt 15, 3) := by decide +kernel
theorem dX0_has_4 : decode cX0_has 4 = .ok (.iload_n 1, 1) := by decide +kernel
theorem dX0_has_5 : decode cX0_has 5 = .ok (.aload_n 0, 1) := by decide +kernel
theorem dX0_has_6 : decode cX0_has 6 = .ok (.getfield 22, 3) := by decide +kernel
theorem dX0_has_9 : decode cX0_has 9 = .ok (.if_icmp .ge 7, 3) := by decide +kernel
theorem dX0_has_12 : decode cX0_has 12 = .ok (.iconst 1, 1) := by decide +kernel
theorem dX0_has_13 : decode cX0_has 13 = .ok (.goto 4, 3) := by decide +kernel
theorem dX0_has_16 : decode cX0_has 16 = .ok (.iconst 0, 1) := by decide +kernel
theorem dX0_has_17 : decode cX0_has 17 = .ok (.ireturn, 1) := by decide +kernel
set_option maxRecDepth 20000 in
theorem ggX0_stands_X0_has : GoodIn wsX0_stands wsX0_has := goodIn_r _ [6, 7, 8, 9, 10, 11] (by decide +kernel) (by decide +kernel)
set_option maxRecDepth 20000 in
theorem gX0_stands_X0_has : GoodIn wsX0_stands (wsV RX0 26 RX0 yX0_has wsX0_has) := goodIn_app (goodIn_of _ (by decide +kernel)) ggX0_stands_X0_has
theorem dX0_stands_0 : decode cX0_stands 0 = .ok (.aload_n 0, 1) := by decide +kernel
theorem dX0_stands_1 : decode cX0_stands 1 = .ok (.iload_n 1, 1) := by decide +kernel
theorem dX0_stands_2 : decode cX0_stands 2 = .ok (.invokevirtual 26, 3) := by decide +kernel
theorem dX0_stands_5 : decode cX0_stands 5 = .ok (.ifCond .eq 16, 3) := by decide +kernel
theorem dX0_stands_8 : decode cX0_stands 8 = .ok (.aload_n 0, 1) := by decide +kernel
theorem dX0_stands_9 : decode cX0_stands 9 = .ok (.getfield 18, 3) := by decide +kernel
theorem dX0_stands_12 : decode cX0_stands 12 = .ok (.iload_n 1, 1) := by decide +kernel
theorem dX0_stands_13 : decode cX0_stands 13 = .ok (.baload, 1) := by decide +kernel
theorem dX0_stands_14 : decode cX0_stands 14 = .ok (.ifCond .ne 7, 3) := by decide +kernel
theorem dX0_stands_17 : decode cX0_stands 17 = .ok (.iconst 1, 1) := by decide +kernel
theorem dX0_stands_18 : decode cX0_stands 18 = .ok (.goto 4, 3) := by decide +kernel
theorem dX0_stands_21 : decode cX0_stands 21 = .ok (.iconst 0, 1) := by decide +kernel
theorem dX0_stands_22 : decode cX0_stands 22 = .ok (.ireturn, 1) := by decide +kernel
set_option maxRecDepth 20000 in
theorem ggX0_author_X0_has : GoodIn wsX0_author wsX0_has := goodIn_r _ [6, 7, 8, 9, 10, 11] (by decide +kernel) (by decide +kernel)
set_option maxRecDepth 20000 in
theorem gX0_author_X0_has : GoodIn wsX0_author (wsV RX0 26 RX0 yX0_has wsX0_has) := goodIn_app (goodIn_of _ (by decide +kernel)) ggX0_author_X0_has
theorem dX0_author_0 : decode cX0_author 0 = .ok (.aload_n 0, 1) := by decide +kernel
theorem dX0_author_1 : decode cX0_author 1 = .ok (.iload_n 1, 1) := by decide +kernel
theorem dX0_author_2 : decode cX0_author 2 = .ok (.invokevirtual 26, 3) := by decide +kernel
theorem dX0_author_5 : decode cX0_author 5 = .ok (.ifCond .eq 12, 3) := by decide +kernel
theorem dX0_author_8 : decode cX0_author 8 = .ok (.aload_n 0, 1) := by decide +kernel
theorem dX0_author_9 : decode cX0_author 9 = .ok (.getfield 9, 3) := by decide +kernel
theorem dX0_author_12 : decode cX0_author 12 = .ok (.iload_n 1, 1) := by decide +kernel
theorem dX0_author_13 : decode cX0_author 13 = .ok (.iaload, 1) := by decide +kernel
theorem dX0_author_14 : decode cX0_author 14 = .ok (.goto 4, 3) := by decide +kernel
theorem dX0_author_17 : decode cX0_author 17 = .ok (.iconst (-1), 1) := by decide +kernel
theorem dX0_author_18 : decode cX0_author 18 = .ok (.ireturn, 1) := by decide +kernel
set_option maxRecDepth 20000 in
theorem ggX0_origin_X0_has : GoodIn wsX0_origin wsX0_has := goodIn_r _ [6, 7, 8, 9, 10, 11] (by decide +kernel) (by decide +kernel)
set_option maxRecDepth 20000 in
theorem gX0_origin_X0_has : GoodIn wsX0_origin (wsV RX0 26 RX0 yX0_has wsX0_has) := goodIn_app (goodIn_of _ (by decide +kernel)) ggX0_origin_X0_has
theorem dX0_origin_0 : decode cX0_origin 0 = .ok (.aload_n 0, 1) := by decide +kernel
theorem dX0_origin_1 : decode cX0_origin 1 = .ok (.iload_n 1, 1) := by decide +kernel
theorem dX0_origin_2 : decode cX0_origin 2 = .ok (.invokevirtual 26, 3) := by decide +kernel
theorem dX0_origin_5 : decode cX0_origin 5 = .ok (.ifCond .eq 12, 3) := by decide +kernel
theorem dX0_origin_8 : decode cX0_origin 8 = .ok (.aload_n 0, 1) := by decide +kernel
theorem dX0_origin_9 : decode cX0_origin 9 = .ok (.getfield 15, 3) := by decide +kernel
theorem dX0_origin_12 : decode cX0_origin 12 = .ok (.iload_n 1, 1) := by decide +kernel
theorem dX0_origin_13 : decode cX0_origin 13 = .ok (.iaload, 1) := by decide +kernel
theorem dX0_origin_14 : decode cX0_origin 14 = .ok (.goto 4, 3) := by decide +kernel
theorem dX0_origin_17 : decode cX0_origin 17 = .ok (.iconst (-1), 1) := by decide +kernel
theorem dX0_origin_18 : decode cX0_origin 18 = .ok (.ireturn, 1) := by decide +kernel
theorem dX0_add_0 : decode cX0_add 0 = .ok (.aload_n 0, 1) := by decide +kernel
theorem dX0_add_1 : decode cX0_add 1 = .ok (.getfield 22, 3) := by decide +kernel
theorem dX0_add_4 : decode cX0_add 4 = .ok (.sipush 150, 3) := by decide +kernel
theorem dX0_add_7 : decode cX0_add 7 = .ok (.if_icmp .ge 33, 3) := by decide +kernel
theorem dX0_add_10 : decode cX0_add 10 = .ok (.aload_n 0, 1) := by decide +kernel
theorem dX0_add_11 : decode cX0_add 11 = .ok (.getfield 9, 3) := by decide +kernel
theorem dX0_add_14 : decode cX0_add 14 = .ok (.aload_n 0, 1) := by decide +kernel
theorem dX0_add_15 : decode cX0_add 15 = .ok (.getfield 22, 3) := by decide +kernel
theorem dX0_add_18 : decode cX0_add 18 = .ok (.iload_n 1, 1) := by decide +kernel
theorem dX0_add_19 : decode cX0_add 19 = .ok (.iastore, 1) := by decide +kernel
theorem dX0_add_20 : decode cX0_add 20 = .ok (.aload_n 0, 1) := by decide +kernel
theorem dX0_add_21 : decode cX0_add 21 = .ok (.getfield 15, 3) := by decide +kernel
theorem dX0_add_24 : decode cX0_add 24 = .ok (.aload_n 0, 1) := by decide +kernel
theorem dX0_add_25 : decode cX0_add 25 = .ok (.getfield 22, 3) := by decide +kernel
theorem dX0_add_28 : decode cX0_add 28 = .ok (.iload_n 2, 1) := by decide +kernel
theorem dX0_add_29 : decode cX0_add 29 = .ok (.iastore, 1) := by decide +kernel
theorem dX0_add_30 : decode cX0_add 30 = .ok (.aload_n 0, 1) := by decide +kernel
theorem dX0_add_31 : decode cX0_add 31 = .ok (.dup, 1) := by decide +kernel
theorem dX0_add_32 : decode cX0_add 32 = .ok (.getfield 22, 3) := by decide +kernel
theorem dX0_add_35 : decode cX0_add 35 = .ok (.iconst 1, 1) := by decide +kernel
theorem dX0_add_36 : decode cX0_add 36 = .ok (.iadd, 1) := by decide +kernel
theorem dX0_add_37 : decode cX0_add 37 = .ok (.putfield 22, 3) := by decide +kernel
theorem dX0_add_40 : decode cX0_add 40 = .ok (.return_, 1) := by decide +kernel
set_option maxRecDepth 20000 in
theorem ggX0_remove_X0_has : GoodIn wsX0_remove wsX0_has := goodIn_r _ [6, 7, 8, 9, 10, 11] (by decide +kernel) (by decide +kernel)
set_option maxRecDepth 20000 in
theorem gX0_remove_X0_has : GoodIn wsX0_remove (wsV RX0 26 RX0 yX0_has wsX0_has) := goodIn_app (goodIn_of _ (by decide +kernel)) ggX0_remove_X0_has
theorem dX0_remove_0 : decode cX0_remove 0 = .ok (.aload_n 0, 1) := by decide +kernel
theorem dX0_remove_1 : decode cX0_remove 1 = .ok (.iload_n 1, 1) := by decide +kernel
theorem dX0_remove_2 : decode cX0_remove 2 = .ok (.invokevirtual 26, 3) := by decide +kernel
theorem dX0_remove_5 : decode cX0_remove 5 = .ok (.ifCond .eq 10, 3) := by decide +kernel
theorem dX0_remove_8 : decode cX0_remove 8 = .ok (.aload_n 0, 1) := by decide +kernel
theorem dX0_remove_9 : decode cX0_remove 9 = .ok (.getfield 18, 3) := by decide +kernel
theorem dX0_remove_12 : decode cX0_remove 12 = .ok (.iload_n 1, 1) := by decide +kernel
theorem dX0_remove_13 : decode cX0_remove 13 = .ok (.iconst 1, 1) := by decide +kernel
theorem dX0_remove_14 : decode cX0_remove 14 = .ok (.bastore, 1) := by decide +kernel
theorem dX0_remove_15 : decode cX0_remove 15 = .ok (.return_, 1) := by decide +kernel
set_option maxRecDepth 20000 in
theorem ggX0_countStandingOf_X0_origin : GoodIn wsX0_countStandingOf wsX0_origin := goodIn_r _ [6, 7, 8, 9, 10, 5, 11, 1, 17, 18, 19, 20] (by decide +kernel) (by decide +kernel)
set_option maxRecDepth 20000 in
theorem gX0_countStandingOf_X0_origin : GoodIn wsX0_countStandingOf (wsV RX0 30 RX0 yX0_origin wsX0_origin) := goodIn_app (goodIn_of _ (by decide +kernel)) ggX0_countStandingOf_X0_origin
set_option maxRecDepth 20000 in
theorem ggX0_countStandingOf_X0_stands : GoodIn wsX0_countStandingOf wsX0_stands := goodIn_r _ [15, 16, 8, 9, 10, 5, 11, 1, 17, 18, 19, 20] (by decide +kernel) (by decide +kernel)
set_option maxRecDepth 20000 in
theorem gX0_countStandingOf_X0_stands : GoodIn wsX0_countStandingOf (wsV RX0 34 RX0 yX0_stands wsX0_stands) := goodIn_app (goodIn_of _ (by decide +kernel)) ggX0_countStandingOf_X0_stands
theorem dX0_countStandingOf_0 : decode cX0_countStandingOf 0 = .ok (.iconst 0, 1) := by decide +kernel
theorem dX0_countStandingOf_1 : decode cX0_countStandingOf 1 = .ok (.istore_n 2, 1) := by decide +kernel
theorem dX0_countStandingOf_2 : decode cX0_countStandingOf 2 = .ok (.iconst 0, 1) := by decide +kernel
theorem dX0_countStandingOf_3 : decode cX0_countStandingOf 3 = .ok (.istore_n 3, 1) := by decide +kernel
theorem dX0_countStandingOf_4 : decode cX0_countStandingOf 4 = .ok (.iload_n 3, 1) := by decide +kernel
theorem dX0_countStandingOf_5 : decode cX0_countStandingOf 5 = .ok (.aload_n 0, 1) := by decide +kernel
theorem dX0_countStandingOf_6 : decode cX0_countStandingOf 6 = .ok (.getfield 22, 3) := by decide +kernel
theorem dX0_countStandingOf_9 : decode cX0_countStandingOf 9 = .ok (.if_icmp .ge 29, 3) := by decide +kernel
theorem dX0_countStandingOf_12 : decode cX0_countStandingOf 12 = .ok (.aload_n 0, 1) := by decide +kernel
theorem dX0_countStandingOf_13 : decode cX0_countStandingOf 13 = .ok (.iload_n 3, 1) := by decide +kernel
theorem dX0_countStandingOf_14 : decode cX0_countStandingOf 14 = .ok (.invokevirtual 30, 3) := by decide +kernel
theorem dX0_countStandingOf_17 : decode cX0_countStandingOf 17 = .ok (.iload_n 1, 1) := by decide +kernel
theorem dX0_countStandingOf_18 : decode cX0_countStandingOf 18 = .ok (.if_icmp .ne 14, 3) := by decide +kernel
theorem dX0_countStandingOf_21 : decode cX0_countStandingOf 21 = .ok (.aload_n 0, 1) := by decide +kernel
theorem dX0_countStandingOf_22 : decode cX0_countStandingOf 22 = .ok (.iload_n 3, 1) := by decide +kernel
theorem dX0_countStandingOf_23 : decode cX0_countStandingOf 23 = .ok (.invokevirtual 34, 3) := by decide +kernel
theorem dX0_countStandingOf_26 : decode cX0_countStandingOf 26 = .ok (.ifCond .eq 6, 3) := by decide +kernel
theorem dX0_countStandingOf_29 : decode cX0_countStandingOf 29 = .ok (.iinc 2 1, 3) := by decide +kernel
theorem dX0_countStandingOf_32 : decode cX0_countStandingOf 32 = .ok (.iinc 3 1, 3) := by decide +kernel
theorem dX0_countStandingOf_35 : decode cX0_countStandingOf 35 = .ok (.goto (-31), 3) := by decide +kernel
theorem dX0_countStandingOf_38 : decode cX0_countStandingOf 38 = .ok (.iload_n 2, 1) := by decide +kernel
theorem dX0_countStandingOf_39 : decode cX0_countStandingOf 39 = .ok (.ireturn, 1) := by decide +kernel
theorem dX1_init_0 : decode cX1_init 0 = .ok (.aload_n 0, 1) := by decide +kernel
theorem dX1_init_1 : decode cX1_init 1 = .ok (.invokespecial 3, 3) := by decide +kernel
theorem dX1_init_4 : decode cX1_init 4 = .ok (.aload_n 0, 1) := by decide +kernel
theorem dX1_init_5 : decode cX1_init 5 = .ok (.bipush 64, 2) := by decide +kernel
theorem dX1_init_7 : decode cX1_init 7 = .ok (.newarray .boolean, 2) := by decide +kernel
theorem dX1_init_9 : decode cX1_init 9 = .ok (.putfield 9, 3) := by decide +kernel
theorem dX1_init_12 : decode cX1_init 12 = .ok (.return_, 1) := by decide +kernel
set_option maxRecDepth 20000 in
theorem ggX1_has_X4_isPerson : GoodIn wsX1_has wsX4_isPerson := goodIn_r _ [4] (by decide +kernel) (by decide +kernel)
set_option maxRecDepth 20000 in
theorem gX1_has_X4_isPerson_n15 : GoodIn wsX1_has (wsX4_isPerson) := ggX1_has_X4_isPerson
theorem dX1_has_0 : decode cX1_has 0 = .ok (.iload_n 1, 1) := by decide +kernel
theorem dX1_has_1 : decode cX1_has 1 = .ok (.invokestatic 15, 3) := by decide +kernel
theorem dX1_has_4 : decode cX1_has 4 = .ok (.ifCond .eq 28, 3) := by decide +kernel
theorem dX1_has_7 : decode cX1_has 7 = .ok (.iload_n 2, 1) := by decide +kernel
theorem dX1_has_8 : decode cX1_has 8 = .ok (.invokestatic 15, 3) := by decide +kernel
theorem dX1_has_11 : decode cX1_has 11 = .ok (.ifCond .eq 21, 3) := by decide +kernel
theorem dX1_has_14 : decode cX1_has 14 = .ok (.aload_n 0, 1) := by decide +kernel
theorem dX1_has_15 : decode cX1_has 15 = .ok (.getfield 9, 3) := by decide +kernel
theorem dX1_has_18 : decode cX1_has 18 = .ok (.iload_n 1, 1) := by decide +kernel
theorem dX1_has_19 : decode cX1_has 19 = .ok (.bipush 8, 2) := by decide +kernel
theorem dX1_has_21 : decode cX1_has 21 = .ok (.imul, 1) := by decide +kernel
theorem dX1_has_22 : decode cX1_has 22 = .ok (.iload_n 2, 1) := by decide +kernel
theorem dX1_has_23 : decode cX1_has 23 = .ok (.iadd, 1) := by decide +kernel
theorem dX1_has_24 : decode cX1_has 24 = .ok (.baload, 1) := by decide +kernel
theorem dX1_has_25 : decode cX1_has 25 = .ok (.ifCond .eq 7, 3) := by decide +kernel
theorem dX1_has_28 : decode cX1_has 28 = .ok (.iconst 1, 1) := by decide +kernel
theorem dX1_has_29 : decode cX1_has 29 = .ok (.goto 4, 3) := by decide +kernel
theorem dX1_has_32 : decode cX1_has 32 = .ok (.iconst 0, 1) := by decide +kernel
theorem dX1_has_33 : decode cX1_has 33 = .ok (.ireturn, 1) := by decide +kernel
set_option maxRecDepth 20000 in
theorem ggX1_put_X4_isPerson : GoodIn wsX1_put wsX4_isPerson := goodIn_r _ [4] (by decide +kernel) (by decide +kernel)
set_option maxRecDepth 20000 in
theorem gX1_put_X4_isPerson_n15 : GoodIn wsX1_put (wsX4_isPerson) := ggX1_put_X4_isPerson
theorem dX1_put_0 : decode cX1_put 0 = .ok (.iload_n 1, 1) := by decide +kernel
theorem dX1_put_1 : decode cX1_put 1 = .ok (.invokestatic 15, 3) := by decide +kernel
theorem dX1_put_4 : decode cX1_put 4 = .ok (.ifCond .eq 22, 3) := by decide +kernel
theorem dX1_put_7 : decode cX1_put 7 = .ok (.iload_n 2, 1) := by decide +kernel
theorem dX1_put_8 : decode cX1_put 8 = .ok (.invokestatic 15, 3) := by decide +kernel
theorem dX1_put_11 : decode cX1_put 11 = .ok (.ifCond .eq 15, 3) := by decide +kernel
theorem dX1_put_14 : decode cX1_put 14 = .ok (.aload_n 0, 1) := by decide +kernel
theorem dX1_put_15 : decode cX1_put 15 = .ok (.getfield 9, 3) := by decide +kernel
theorem dX1_put_18 : decode cX1_put 18 = .ok (.iload_n 1, 1) := by decide +kernel
theorem dX1_put_19 : decode cX1_put 19 = .ok (.bipush 8, 2) := by decide +kernel
theorem dX1_put_21 : decode cX1_put 21 = .ok (.imul, 1) := by decide +kernel
theorem dX1_put_22 : decode cX1_put 22 = .ok (.iload_n 2, 1) := by decide +kernel
theorem dX1_put_23 : decode cX1_put 23 = .ok (.iadd, 1) := by decide +kernel
theorem dX1_put_24 : decode cX1_put 24 = .ok (.iload_n 3, 1) := by decide +kernel
theorem dX1_put_25 : decode cX1_put 25 = .ok (.bastore, 1) := by decide +kernel
theorem dX1_put_26 : decode cX1_put 26 = .ok (.return_, 1) := by decide +kernel
set_option maxRecDepth 20000 in
theorem ggX1_countTo_X1_has : GoodIn wsX1_countTo wsX1_has := goodIn_r _ [5, 6, 7, 8, 9, 10] (by decide +kernel) (by decide +kernel)
set_option maxRecDepth 20000 in
theorem gX1_countTo_X1_has : GoodIn wsX1_countTo (wsV RX1 19 RX1 yX1_has wsX1_has) := goodIn_app (goodIn_of _ (by decide +kernel)) ggX1_countTo_X1_has
theorem dX1_countTo_0 : decode cX1_countTo 0 = .ok (.iconst 0, 1) := by decide +kernel
theorem dX1_countTo_1 : decode cX1_countTo 1 = .ok (.istore_n 2, 1) := by decide +kernel
theorem dX1_countTo_2 : decode cX1_countTo 2 = .ok (.iconst 0, 1) := by decide +kernel
theorem dX1_countTo_3 : decode cX1_countTo 3 = .ok (.istore_n 3, 1) := by decide +kernel
theorem dX1_countTo_4 : decode cX1_countTo 4 = .ok (.iload_n 3, 1) := by decide +kernel
theorem dX1_countTo_5 : decode cX1_countTo 5 = .ok (.bipush 8, 2) := by decide +kernel
theorem dX1_countTo_7 : decode cX1_countTo 7 = .ok (.if_icmp .ge 21, 3) := by decide +kernel
theorem dX1_countTo_10 : decode cX1_countTo 10 = .ok (.aload_n 0, 1) := by decide +kernel
theorem dX1_countTo_11 : decode cX1_countTo 11 = .ok (.iload_n 3, 1) := by decide +kernel
theorem dX1_countTo_12 : decode cX1_countTo 12 = .ok (.iload_n 1, 1) := by decide +kernel
theorem dX1_countTo_13 : decode cX1_countTo 13 = .ok (.invokevirtual 19, 3) := by decide +kernel
theorem dX1_countTo_16 : decode cX1_countTo 16 = .ok (.ifCond .eq 6, 3) := by decide +kernel
theorem dX1_countTo_19 : decode cX1_countTo 19 = .ok (.iinc 2 1, 3) := by decide +kernel
theorem dX1_countTo_22 : decode cX1_countTo 22 = .ok (.iinc 3 1, 3) := by decide +kernel
theorem dX1_countTo_25 : decode cX1_countTo 25 = .ok (.goto (-21), 3) := by decide +kernel
theorem dX1_countTo_28 : decode cX1_countTo 28 = .ok (.iload_n 2, 1) := by decide +kernel
theorem dX1_countTo_29 : decode cX1_countTo 29 = .ok (.ireturn, 1) := by decide +kernel
theorem dX2_init_0 : decode cX2_init 0 = .ok (.aload_n 0, 1) := by decide +kernel
theorem dX2_init_1 : decode cX2_init 1 = .ok (.invokespecial 3, 3) := by decide +kernel
theorem dX2_init_4 : decode cX2_init 4 = .ok (.aload_n 0, 1) := by decide +kernel
theorem dX2_init_5 : decode cX2_init 5 = .ok (.bipush 40, 2) := by decide +kernel
theorem dX2_init_7 : decode cX2_init 7 = .ok (.newarray .int, 2) := by decide +kernel
theorem dX2_init_9 : decode cX2_init 9 = .ok (.putfield 9, 3) := by decide +kernel
theorem dX2_init_12 : decode cX2_init 12 = .ok (.aload_n 0, 1) := by decide +kernel
theorem dX2_init_13 : decode cX2_init 13 = .ok (.iconst (-1), 1) := by decide +kernel
theorem dX2_init_14 : decode cX2_init 14 = .ok (.putfield 15, 3) := by decide +kernel
theorem dX2_init_17 : decode cX2_init 17 = .ok (.aload_n 0, 1) := by decide +kernel
theorem dX2_init_18 : decode cX2_init 18 = .ok (.iload_n 1, 1) := by decide +kernel
theorem dX2_init_19 : decode cX2_init 19 = .ok (.putfield 19, 3) := by decide +kernel
theorem dX2_init_22 : decode cX2_init 22 = .ok (.return_, 1) := by decide +kernel
theorem dX2_owner_0 : decode cX2_owner 0 = .ok (.aload_n 0, 1) := by decide +kernel
theorem dX2_owner_1 : decode cX2_owner 1 = .ok (.getfield 19, 3) := by decide +kernel
theorem dX2_owner_4 : decode cX2_owner 4 = .ok (.ireturn, 1) := by decide +kernel
theorem dX2_floor_0 : decode cX2_floor 0 = .ok (.aload_n 0, 1) := by decide +kernel
theorem dX2_floor_1 : decode cX2_floor 1 = .ok (.getfield 15, 3) := by decide +kernel
theorem dX2_floor_4 : decode cX2_floor 4 = .ok (.ireturn, 1) := by decide +kernel
theorem dX2_raiseFloor_0 : decode cX2_raiseFloor 0 = .ok (.aload_n 0, 1) := by decide +kernel
theorem dX2_raiseFloor_1 : decode cX2_raiseFloor 1 = .ok (.iload_n 1, 1) := by decide +kernel
theorem dX2_raiseFloor_2 : decode cX2_raiseFloor 2 = .ok (.putfield 15, 3) := by decide +kernel
theorem dX2_raiseFloor_5 : decode cX2_raiseFloor 5 = .ok (.return_, 1) := by decide +kernel
theorem dX2_count_0 : decode cX2_count 0 = .ok (.aload_n 0, 1) := by decide +kernel
theorem dX2_count_1 : decode cX2_count 1 = .ok (.getfield 22, 3) := by decide +kernel
theorem dX2_count_4 : decode cX2_count 4 = .ok (.ireturn, 1) := by decide +kernel
theorem dX2_fromNewest_0 : decode cX2_fromNewest 0 = .ok (.iload_n 1, 1) := by decide +kernel
theorem dX2_fromNewest_1 : decode cX2_fromNewest 1 = .ok (.ifCond .lt 20, 3) := by decide +kernel
theorem dX2_fromNewest_4 : decode cX2_fromNewest 4 = .ok (.iload_n 1, 1) := by decide +kernel
theorem dX2_fromNewest_5 : decode cX2_fromNewest 5 = .ok (.aload_n 0, 1) := by decide +kernel
theorem dX2_fromNewest_6 : decode cX2_fromNewest 6 = .ok (.getfield 22, 3) := by decide +kernel
theorem dX2_fromNewest_9 : decode cX2_fromNewest 9 = .ok (.if_icmp .ge 12, 3) := by decide +kernel
theorem dX2_fromNewest_12 : decode cX2_fromNewest 12 = .ok (.aload_n 0, 1) := by decide +kernel
theorem dX2_fromNewest_13 : decode cX2_fromNewest 13 = .ok (.getfield 9, 3) := by decide +kernel
theorem dX2_fromNewest_16 : decode cX2_fromNewest 16 = .ok (.iload_n 1, 1) := by decide +kernel
theorem dX2_fromNewest_17 : decode cX2_fromNewest 17 = .ok (.iaload, 1) := by decide +kernel
theorem dX2_fromNewest_18 : decode cX2_fromNewest 18 = .ok (.goto 4, 3) := by decide +kernel
theorem dX2_fromNewest_21 : decode cX2_fromNewest 21 = .ok (.iconst (-1), 1) := by decide +kernel
theorem dX2_fromNewest_22 : decode cX2_fromNewest 22 = .ok (.ireturn, 1) := by decide +kernel
theorem dX2_empty_0 : decode cX2_empty 0 = .ok (.aload_n 0, 1) := by decide +kernel
theorem dX2_empty_1 : decode cX2_empty 1 = .ok (.iconst 0, 1) := by decide +kernel
theorem dX2_empty_2 : decode cX2_empty 2 = .ok (.putfield 22, 3) := by decide +kernel
theorem dX2_empty_5 : decode cX2_empty 5 = .ok (.return_, 1) := by decide +kernel
theorem dX2_addBelow_0 : decode cX2_addBelow 0 = .ok (.aload_n 0, 1) := by decide +kernel
theorem dX2_addBelow_1 : decode cX2_addBelow 1 = .ok (.getfield 22, 3) := by decide +kernel
theorem dX2_addBelow_4 : decode cX2_addBelow 4 = .ok (.bipush 40, 2) := by decide +kernel
theorem dX2_addBelow_6 : decode cX2_addBelow 6 = .ok (.if_icmp .ge 23, 3) := by decide +kernel
theorem dX2_addBelow_9 : decode cX2_addBelow 9 = .ok (.aload_n 0, 1) := by decide +kernel
theorem dX2_addBelow_10 : decode cX2_addBelow 10 = .ok (.getfield 9, 3) := by decide +kernel
theorem dX2_addBelow_13 : decode cX2_addBelow 13 = .ok (.aload_n 0, 1) := by decide +kernel
theorem dX2_addBelow_14 : decode cX2_addBelow 14 = .ok (.getfield 22, 3) := by decide +kernel
theorem dX2_addBelow_17 : decode cX2_addBelow 17 = .ok (.iload_n 1, 1) := by decide +kernel
theorem dX2_addBelow_18 : decode cX2_addBelow 18 = .ok (.iastore, 1) := by decide +kernel
theorem dX2_addBelow_19 : decode cX2_addBelow 19 = .ok (.aload_n 0, 1) := by decide +kernel
theorem dX2_addBelow_20 : decode cX2_addBelow 20 = .ok (.dup, 1) := by decide +kernel
theorem dX2_addBelow_21 : decode cX2_addBelow 21 = .ok (.getfield 22, 3) := by decide +kernel
theorem dX2_addBelow_24 : decode cX2_addBelow 24 = .ok (.iconst 1, 1) := by decide +kernel
theorem dX2_addBelow_25 : decode cX2_addBelow 25 = .ok (.iadd, 1) := by decide +kernel
theorem dX2_addBelow_26 : decode cX2_addBelow 26 = .ok (.putfield 22, 3) := by decide +kernel
theorem dX2_addBelow_29 : decode cX2_addBelow 29 = .ok (.return_, 1) := by decide +kernel
theorem dX3_init_0 : decode cX3_init 0 = .ok (.aload_n 0, 1) := by decide +kernel
theorem dX3_init_1 : decode cX3_init 1 = .ok (.invokespecial 3, 3) := by decide +kernel
theorem dX3_init_4 : decode cX3_init 4 = .ok (.aload_n 0, 1) := by decide +kernel
theorem dX3_init_5 : decode cX3_init 5 = .ok (.sipush 150, 3) := by decide +kernel
theorem dX3_init_8 : decode cX3_init 8 = .ok (.newarray .int, 2) := by decide +kernel
theorem dX3_init_10 : decode cX3_init 10 = .ok (.putfield 9, 3) := by decide +kernel
theorem dX3_init_13 : decode cX3_init 13 = .ok (.aload_n 0, 1) := by decide +kernel
theorem dX3_init_14 : decode cX3_init 14 = .ok (.sipush 150, 3) := by decide +kernel
theorem dX3_init_17 : decode cX3_init 17 = .ok (.newarray .boolean, 2) := by decide +kernel
theorem dX3_init_19 : decode cX3_init 19 = .ok (.putfield 15, 3) := by decide +kernel
theorem dX3_init_22 : decode cX3_init 22 = .ok (.return_, 1) := by decide +kernel
theorem dX3_count_0 : decode cX3_count 0 = .ok (.aload_n 0, 1) := by decide +kernel
theorem dX3_count_1 : decode cX3_count 1 = .ok (.getfield 19, 3) := by decide +kernel
theorem dX3_count_4 : decode cX3_count 4 = .ok (.ireturn, 1) := by decide +kernel
theorem dX3_at_0 : decode cX3_at 0 = .ok (.iload_n 1, 1) := by decide +kernel
theorem dX3_at_1 : decode cX3_at 1 = .ok (.ifCond .lt 20, 3) := by decide +kernel
theorem dX3_at_4 : decode cX3_at 4 = .ok (.iload_n 1, 1) := by decide +kernel
theorem dX3_at_5 : decode cX3_at 5 = .ok (.aload_n 0, 1) := by decide +kernel
theorem dX3_at_6 : decode cX3_at 6 = .ok (.getfield 19, 3) := by decide +kernel
theorem dX3_at_9 : decode cX3_at 9 = .ok (.if_icmp .ge 12, 3) := by decide +kernel
theorem dX3_at_12 : decode cX3_at 12 = .ok (.aload_n 0, 1) := by decide +kernel
theorem dX3_at_13 : decode cX3_at 13 = .ok (.getfield 9, 3) := by decide +kernel
theorem dX3_at_16 : decode cX3_at 16 = .ok (.iload_n 1, 1) := by decide +kernel
theorem dX3_at_17 : decode cX3_at 17 = .ok (.iaload, 1) := by decide +kernel
theorem dX3_at_18 : decode cX3_at 18 = .ok (.goto 4, 3) := by decide +kernel
theorem dX3_at_21 : decode cX3_at 21 = .ok (.iconst (-1), 1) := by decide +kernel
theorem dX3_at_22 : decode cX3_at 22 = .ok (.ireturn, 1) := by decide +kernel
set_option maxRecDepth 20000 in
theorem ggX3_placeBelow_X3_at : GoodIn wsX3_placeBelow wsX3_at := goodIn_r _ [6, 1, 7, 8, 9, 10] (by decide +kernel) (by decide +kernel)
set_option maxRecDepth 20000 in
theorem gX3_placeBelow_X3_at : GoodIn wsX3_placeBelow (wsV RX3 23 RX3 yX3_at wsX3_at) := goodIn_app (goodIn_of _ (by decide +kernel)) ggX3_placeBelow_X3_at
theorem dX3_placeBelow_0 : decode cX3_placeBelow 0 = .ok (.iconst 0, 1) := by decide +kernel
theorem dX3_placeBelow_1 : decode cX3_placeBelow 1 = .ok (.istore_n 2, 1) := by decide +kernel
theorem dX3_placeBelow_2 : decode cX3_placeBelow 2 = .ok (.iload_n 2, 1) := by decide +kernel
theorem dX3_placeBelow_3 : decode cX3_placeBelow 3 = .ok (.aload_n 0, 1) := by decide +kernel
theorem dX3_placeBelow_4 : decode cX3_placeBelow 4 = .ok (.getfield 19, 3) := by decide +kernel
theorem dX3_placeBelow_7 : decode cX3_placeBelow 7 = .ok (.if_icmp .ge 20, 3) := by decide +kernel
theorem dX3_placeBelow_10 : decode cX3_placeBelow 10 = .ok (.aload_n 0, 1) := by decide +kernel
theorem dX3_placeBelow_11 : decode cX3_placeBelow 11 = .ok (.iload_n 2, 1) := by decide +kernel
theorem dX3_placeBelow_12 : decode cX3_placeBelow 12 = .ok (.invokevirtual 23, 3) := by decide +kernel
theorem dX3_placeBelow_15 : decode cX3_placeBelow 15 = .ok (.iload_n 1, 1) := by decide +kernel
theorem dX3_placeBelow_16 : decode cX3_placeBelow 16 = .ok (.if_icmp .ge 5, 3) := by decide +kernel
theorem dX3_placeBelow_19 : decode cX3_placeBelow 19 = .ok (.iload_n 2, 1) := by decide +kernel
theorem dX3_placeBelow_20 : decode cX3_placeBelow 20 = .ok (.ireturn, 1) := by decide +kernel
theorem dX3_placeBelow_21 : decode cX3_placeBelow 21 = .ok (.iinc 2 1, 3) := by decide +kernel
theorem dX3_placeBelow_24 : decode cX3_placeBelow 24 = .ok (.goto (-22), 3) := by decide +kernel
theorem dX3_placeBelow_27 : decode cX3_placeBelow 27 = .ok (.aload_n 0, 1) := by decide +kernel
theorem dX3_placeBelow_28 : decode cX3_placeBelow 28 = .ok (.getfield 19, 3) := by decide +kernel
theorem dX3_placeBelow_31 : decode cX3_placeBelow 31 = .ok (.ireturn, 1) := by decide +kernel
theorem dX3_empty_0 : decode cX3_empty 0 = .ok (.aload_n 0, 1) := by decide +kernel
theorem dX3_empty_1 : decode cX3_empty 1 = .ok (.iconst 0, 1) := by decide +kernel
theorem dX3_empty_2 : decode cX3_empty 2 = .ok (.putfield 19, 3) := by decide +kernel
theorem dX3_empty_5 : decode cX3_empty 5 = .ok (.iconst 0, 1) := by decide +kernel
theorem dX3_empty_6 : decode cX3_empty 6 = .ok (.istore_n 1, 1) := by decide +kernel
theorem dX3_empty_7 : decode cX3_empty 7 = .ok (.iload_n 1, 1) := by decide +kernel
theorem dX3_empty_8 : decode cX3_empty 8 = .ok (.sipush 150, 3) := by decide +kernel
theorem dX3_empty_11 : decode cX3_empty 11 = .ok (.if_icmp .ge 16, 3) := by decide +kernel
theorem dX3_empty_14 : decode cX3_empty 14 = .ok (.aload_n 0, 1) := by decide +kernel
theorem dX3_empty_15 : decode cX3_empty 15 = .ok (.getfield 15, 3) := by decide +kernel
theorem dX3_empty_18 : decode cX3_empty 18 = .ok (.iload_n 1, 1) := by decide +kernel
theorem dX3_empty_19 : decode cX3_empty 19 = .ok (.iconst 0, 1) := by decide +kernel
theorem dX3_empty_20 : decode cX3_empty 20 = .ok (.bastore, 1) := by decide +kernel
theorem dX3_empty_21 : decode cX3_empty 21 = .ok (.iinc 1 1, 3) := by decide +kernel
theorem dX3_empty_24 : decode cX3_empty 24 = .ok (.goto (-17), 3) := by decide +kernel
theorem dX3_empty_27 : decode cX3_empty 27 = .ok (.return_, 1) := by decide +kernel
theorem dX3_addBelow_0 : decode cX3_addBelow 0 = .ok (.aload_n 0, 1) := by decide +kernel
theorem dX3_addBelow_1 : decode cX3_addBelow 1 = .ok (.getfield 19, 3) := by decide +kernel
theorem dX3_addBelow_4 : decode cX3_addBelow 4 = .ok (.sipush 150, 3) := by decide +kernel
theorem dX3_addBelow_7 : decode cX3_addBelow 7 = .ok (.if_icmp .ge 18, 3) := by decide +kernel
theorem dX3_addBelow_10 : decode cX3_addBelow 10 = .ok (.iload_n 2, 1) := by decide +kernel
theorem dX3_addBelow_11 : decode cX3_addBelow 11 = .ok (.ifCond .lt 14, 3) := by decide +kernel
theorem dX3_addBelow_14 : decode cX3_addBelow 14 = .ok (.iload_n 2, 1) := by decide +kernel
theorem dX3_addBelow_15 : decode cX3_addBelow 15 = .ok (.sipush 150, 3) := by decide +kernel
theorem dX3_addBelow_18 : decode cX3_addBelow 18 = .ok (.if_icmp .ge 7, 3) := by decide +kernel
theorem dX3_addBelow_21 : decode cX3_addBelow 21 = .ok (.iconst 1, 1) := by decide +kernel
theorem dX3_addBelow_22 : decode cX3_addBelow 22 = .ok (.goto 4, 3) := by decide +kernel
theorem dX3_addBelow_25 : decode cX3_addBelow 25 = .ok (.iconst 0, 1) := by decide +kernel
theorem dX3_addBelow_26 : decode cX3_addBelow 26 = .ok (.istore_n 3, 1) := by decide +kernel
theorem dX3_addBelow_27 : decode cX3_addBelow 27 = .ok (.iload_n 3, 1) := by decide +kernel
theorem dX3_addBelow_28 : decode cX3_addBelow 28 = .ok (.ifCond .eq 39, 3) := by decide +kernel
theorem dX3_addBelow_31 : decode cX3_addBelow 31 = .ok (.aload_n 0, 1) := by decide +kernel
theorem dX3_addBelow_32 : decode cX3_addBelow 32 = .ok (.getfield 15, 3) := by decide +kernel
theorem dX3_addBelow_35 : decode cX3_addBelow 35 = .ok (.iload_n 2, 1) := by decide +kernel
theorem dX3_addBelow_36 : decode cX3_addBelow 36 = .ok (.baload, 1) := by decide +kernel
theorem dX3_addBelow_37 : decode cX3_addBelow 37 = .ok (.ifCond .ne 30, 3) := by decide +kernel
theorem dX3_addBelow_40 : decode cX3_addBelow 40 = .ok (.aload_n 0, 1) := by decide +kernel
theorem dX3_addBelow_41 : decode cX3_addBelow 41 = .ok (.getfield 15, 3) := by decide +kernel
theorem dX3_addBelow_44 : decode cX3_addBelow 44 = .ok (.iload_n 2, 1) := by decide +kernel
theorem dX3_addBelow_45 : decode cX3_addBelow 45 = .ok (.iconst 1, 1) := by decide +kernel
theorem dX3_addBelow_46 : decode cX3_addBelow 46 = .ok (.bastore, 1) := by decide +kernel
theorem dX3_addBelow_47 : decode cX3_addBelow 47 = .ok (.aload_n 0, 1) := by decide +kernel
theorem dX3_addBelow_48 : decode cX3_addBelow 48 = .ok (.getfield 9, 3) := by decide +kernel
theorem dX3_addBelow_51 : decode cX3_addBelow 51 = .ok (.aload_n 0, 1) := by decide +kernel
theorem dX3_addBelow_52 : decode cX3_addBelow 52 = .ok (.getfield 19, 3) := by decide +kernel
theorem dX3_addBelow_55 : decode cX3_addBelow 55 = .ok (.iload_n 1, 1) := by decide +kernel
theorem dX3_addBelow_56 : decode cX3_addBelow 56 = .ok (.iastore, 1) := by decide +kernel
theorem dX3_addBelow_57 : decode cX3_addBelow 57 = .ok (.aload_n 0, 1) := by decide +kernel
theorem dX3_addBelow_58 : decode cX3_addBelow 58 = .ok (.dup, 1) := by decide +kernel
theorem dX3_addBelow_59 : decode cX3_addBelow 59 = .ok (.getfield 19, 3) := by decide +kernel
theorem dX3_addBelow_62 : decode cX3_addBelow 62 = .ok (.iconst 1, 1) := by decide +kernel
theorem dX3_addBelow_63 : decode cX3_addBelow 63 = .ok (.iadd, 1) := by decide +kernel
theorem dX3_addBelow_64 : decode cX3_addBelow 64 = .ok (.putfield 19, 3) := by decide +kernel
theorem dX3_addBelow_67 : decode cX3_addBelow 67 = .ok (.return_, 1) := by decide +kernel
