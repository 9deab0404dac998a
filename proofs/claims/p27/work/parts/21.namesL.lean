theorem dL_told_0 : decode cL_told 0 = .ok (.iload_n 1, 1) := by decide +kernel
theorem dL_told_1 : decode cL_told 1 = .ok (.aload_n 0, 1) := by decide +kernel
theorem dL_told_2 : decode cL_told 2 = .ok (.arraylength, 1) := by decide +kernel
theorem dL_told_3 : decode cL_told 3 = .ok (.if_icmp .ge 9, 3) := by decide +kernel
theorem dL_told_6 : decode cL_told 6 = .ok (.aload_n 0, 1) := by decide +kernel
theorem dL_told_7 : decode cL_told 7 = .ok (.iload_n 1, 1) := by decide +kernel
theorem dL_told_8 : decode cL_told 8 = .ok (.iaload, 1) := by decide +kernel
theorem dL_told_9 : decode cL_told 9 = .ok (.goto 16, 3) := by decide +kernel
theorem dL_told_12 : decode cL_told 12 = .ok (.sipush 22003, 3) := by decide +kernel
theorem dL_told_15 : decode cL_told 15 = .ok (.iload_n 1, 1) := by decide +kernel
theorem dL_told_16 : decode cL_told 16 = .ok (.bipush 6, 2) := by decide +kernel
theorem dL_told_18 : decode cL_told 18 = .ok (.iadd, 1) := by decide +kernel
theorem dL_told_19 : decode cL_told 19 = .ok (.imul, 1) := by decide +kernel
theorem dL_told_20 : decode cL_told 20 = .ok (.iload_n 1, 1) := by decide +kernel
theorem dL_told_21 : decode cL_told 21 = .ok (.bipush 9, 2) := by decide +kernel
theorem dL_told_23 : decode cL_told 23 = .ok (.iadd, 1) := by decide +kernel
theorem dL_told_24 : decode cL_told 24 = .ok (.imul, 1) := by decide +kernel
theorem dL_told_25 : decode cL_told 25 = .ok (.ldc 7, 2) := by decide +kernel
theorem dL_told_27 : decode cL_told 27 = .ok (.iand, 1) := by decide +kernel
theorem dL_told_28 : decode cL_told 28 = .ok (.ireturn, 1) := by decide +kernel
set_option maxRecDepth 20000 in
theorem ggL_isRead_X4_length : GoodIn wsL_isRead wsX4_length := goodIn_ca (goodIn_r _ [5, 6, 7, 8, 9, 4, 10, 11, 12, 13, 14, 15, 16, 17, 18, 19, 20, 21, 22, 23, 24, 25, 26, 27, 28, 29, 30, 31, 32, 33, 34, 35, 36, 37, 38, 39, 40, 41, 42, 43, 44, 45, 46, 47, 48, 49, 50, 51, 52, 53, 54, 55, 56, 57, 58, 59, 60, 61, 62, 63, 64, 65, 66, 67, 68, 69, 70, 71, 72, 73, 74, 75, 76, 77, 78, 79, 80, 81, 82, 83, 84, 85, 86, 87, 88, 89, 90, 91, 92, 93, 94, 95, 96, 97, 98, 99, 100, 101, 102, 103, 104, 105, 106, 107, 108, 109, 110, 111, 112, 113, 169, 170, 171, 172, 173, 174, 175, 176, 177, 178, 179, 180, 181, 182, 183, 184, 185, 186, 187, 188] (by decide +kernel) (by decide +kernel)) (goodIn_sub (fun _ h => List.mem_cons_of_mem _ (List.mem_append_left _ (List.mem_append_right _ h))) (by decide +kernel))
set_option maxRecDepth 20000 in
theorem gL_isRead_X4_length : GoodIn wsL_isRead (wsV RL 8 RX4 yX4_length wsX4_length) := goodIn_app (goodIn_of _ (by decide +kernel)) ggL_isRead_X4_length
set_option maxRecDepth 20000 in
theorem ggL_isRead_X4_lengthByMerging : GoodIn wsL_isRead wsX4_lengthByMerging := goodIn_ca (goodIn_r _ [117, 6, 7, 8, 9, 4, 10, 11, 12, 13, 14, 15, 16, 17, 18, 19, 38, 39, 40, 41, 42, 43, 118, 119, 120, 121, 24, 59, 25, 26, 27, 28, 29, 30, 31, 32, 33, 34, 35, 36, 37, 60, 61, 62, 63, 64, 65, 66, 67, 68, 69, 70, 71, 72, 73, 74, 85, 86, 87, 88, 89, 90, 91, 92, 93, 94, 95, 96, 97, 98, 99, 100, 101, 102, 103, 104, 105, 106, 107, 108, 109, 110, 111, 112, 113, 169, 170, 171, 172, 173, 174, 175, 176, 184, 185, 186, 187, 177, 178, 179, 180, 181, 182, 183, 188] (by decide +kernel) (by decide +kernel)) (goodIn_sub (fun _ h => List.mem_cons_of_mem _ (List.mem_append_left _ (List.mem_append_right _ h))) (by decide +kernel))
set_option maxRecDepth 20000 in
theorem gL_isRead_X4_lengthByMerging : GoodIn wsL_isRead (wsV RL 14 RX4 yX4_lengthByMerging wsX4_lengthByMerging) := goodIn_app (goodIn_of _ (by decide +kernel)) ggL_isRead_X4_lengthByMerging
set_option maxRecDepth 20000 in
theorem ggL_isRead_X4_next : GoodIn wsL_isRead wsX4_next := goodIn_ca (goodIn_ca (goodIn_r _ [125, 6, 7, 8, 9, 4, 10, 11, 12, 13, 14, 15, 16, 17, 18, 19, 126, 127, 128, 129, 130, 20, 21, 22, 23, 24, 25, 26, 27, 28, 29, 30, 31, 32, 33, 34, 35, 36, 37, 38, 39, 40, 41, 42, 43, 44, 45, 46, 47, 48, 49, 50, 51, 52, 53, 54, 55, 56, 57, 58, 59, 60, 61, 62, 63, 64, 65, 66, 67, 68, 69, 70, 71, 72, 73, 74, 75, 76, 77, 78, 79, 80, 81, 82, 83, 84, 85, 86, 87, 88, 89, 90, 91, 92, 93, 94, 95, 96, 97, 98, 99, 100, 101, 102, 103, 104, 105, 106, 107, 108, 109, 131, 132, 133, 134, 135, 136, 137, 138, 139, 169, 170, 171, 172, 173, 174, 175, 176, 177, 178, 179, 180, 181, 182, 183, 184, 185, 186, 187, 188] (by decide +kernel) (by decide +kernel)) (goodIn_sub (fun _ h => List.mem_cons_of_mem _ (List.mem_append_left _ (List.mem_append_right _ h))) (by decide +kernel))) (goodIn_sub (fun _ h => List.mem_cons_of_mem _ (List.mem_append_right _ h)) (by decide +kernel))
set_option maxRecDepth 20000 in
theorem gL_isRead_X4_next : GoodIn wsL_isRead (wsV RL 17 RX4 yX4_next wsX4_next) := goodIn_app (goodIn_of _ (by decide +kernel)) ggL_isRead_X4_next
set_option maxRecDepth 20000 in
theorem ggL_isRead_X4_pageEnd : GoodIn wsL_isRead wsX4_pageEnd := goodIn_ca (goodIn_ca (goodIn_r _ [143, 6, 144, 145, 146, 147, 7, 8, 9, 4, 10, 11, 12, 13, 14, 15, 16, 17, 18, 19, 126, 127, 128, 129, 130, 20, 21, 22, 23, 24, 25, 26, 27, 28, 29, 30, 31, 32, 33, 34, 35, 36, 37, 38, 39, 40, 41, 42, 43, 44, 45, 46, 47, 48, 49, 50, 51, 52, 53, 54, 55, 56, 57, 58, 59, 60, 61, 62, 63, 64, 65, 66, 67, 68, 69, 70, 71, 72, 73, 74, 75, 76, 77, 78, 79, 80, 81, 82, 83, 84, 85, 86, 87, 88, 89, 90, 91, 92, 93, 94, 95, 96, 97, 98, 99, 100, 101, 102, 103, 104, 105, 106, 107, 108, 109, 131, 132, 133, 134, 135, 136, 137, 138, 110, 111, 112, 113, 139, 169, 170, 171, 172, 173, 174, 175, 176, 177, 178, 179, 180, 181, 182, 183, 184, 185, 186, 187, 188] (by decide +kernel) (by decide +kernel)) (goodIn_sub (fun _ h => List.mem_cons_of_mem _ (List.mem_append_left _ (List.mem_append_right _ h))) (by decide +kernel))) (goodIn_sub (fun _ h => List.mem_cons_of_mem _ (List.mem_append_right _ h)) (by decide +kernel))
set_option maxRecDepth 20000 in
theorem gL_isRead_X4_pageEnd : GoodIn wsL_isRead (wsV RL 21 RX4 yX4_pageEnd wsX4_pageEnd) := goodIn_app (goodIn_of _ (by decide +kernel)) ggL_isRead_X4_pageEnd
set_option maxRecDepth 20000 in
theorem ggL_isRead_X4_shows : GoodIn wsL_isRead wsX4_shows := goodIn_ca (goodIn_r _ [151, 6, 7, 8, 9, 4, 10, 11, 12, 13, 14, 15, 16, 17, 18, 19, 152, 153, 154, 155, 24, 156, 66, 67, 35, 68, 37, 20, 21, 22, 23, 25, 26, 27, 28, 29, 30, 31, 32, 33, 34, 36, 38, 39, 40, 41, 42, 43, 44, 45, 46, 47, 48, 49, 50, 51, 52, 53, 54, 55, 56, 57, 58, 59, 60, 61, 62, 63, 64, 65, 69, 70, 71, 72, 73, 74, 75, 76, 77, 78, 79, 80, 81, 82, 83, 84, 85, 86, 87, 88, 89, 90, 91, 92, 93, 94, 95, 96, 97, 98, 99, 100, 101, 102, 103, 104, 105, 106, 107, 108, 109, 131, 132, 133, 134, 135, 136, 137, 138, 139, 169, 170, 171, 172, 173, 174, 175, 176, 180, 181, 182, 183, 177, 178, 179, 184, 185, 186, 187, 188] (by decide +kernel) (by decide +kernel)) (goodIn_sub (fun _ h => List.mem_cons_of_mem _ (List.mem_append_left _ (List.mem_append_right _ h))) (by decide +kernel))
set_option maxRecDepth 20000 in
theorem gL_isRead_X4_shows : GoodIn wsL_isRead (wsV RL 25 RX4 yX4_shows wsX4_shows) := goodIn_app (goodIn_of _ (by decide +kernel)) ggL_isRead_X4_shows
set_option maxRecDepth 20000 in
theorem ggL_isRead_X4_authorOf : GoodIn wsL_isRead wsX4_authorOf := goodIn_ca (goodIn_r _ [160, 24, 152, 153, 154, 4, 155, 15, 16, 156, 66, 67, 35, 68, 37, 60, 61, 62, 63, 64, 65, 169, 170, 171, 172, 173, 174, 175, 176, 180, 181, 182, 183] (by decide +kernel) (by decide +kernel)) (goodIn_sub (fun _ h => List.mem_cons_of_mem _ (List.mem_append_left _ (List.mem_append_right _ h))) (by decide +kernel))
set_option maxRecDepth 20000 in
theorem gL_isRead_X4_authorOf : GoodIn wsL_isRead (wsV RL 29 RX4 yX4_authorOf wsX4_authorOf) := goodIn_app (goodIn_of _ (by decide +kernel)) ggL_isRead_X4_authorOf
set_option maxRecDepth 20000 in
theorem ggL_isRead_X4_follows : GoodIn wsL_isRead wsX4_follows := goodIn_ca (goodIn_r _ [164, 59, 12, 13, 4, 14, 15, 16, 17, 18, 19, 69, 70, 71, 72, 73, 74, 169, 170, 171, 172, 173, 174, 175, 176, 188] (by decide +kernel) (by decide +kernel)) (goodIn_sub (fun _ h => List.mem_cons_of_mem _ (List.mem_append_left _ (List.mem_append_right _ h))) (by decide +kernel))
set_option maxRecDepth 20000 in
theorem gL_isRead_X4_follows : GoodIn wsL_isRead (wsV RL 32 RX4 yX4_follows wsX4_follows) := goodIn_app (goodIn_of _ (by decide +kernel)) ggL_isRead_X4_follows
set_option maxRecDepth 20000 in
theorem ggL_isRead_X4_floorOf : GoodIn wsL_isRead wsX4_floorOf := goodIn_ca (goodIn_r _ [168, 7, 8, 9, 4, 10, 11, 12, 13, 14, 15, 16, 17, 18, 19, 38, 39, 40, 41, 42, 43, 169, 170, 171, 172, 173, 174, 175, 176, 184, 185, 186, 187] (by decide +kernel) (by decide +kernel)) (goodIn_sub (fun _ h => List.mem_cons_of_mem _ (List.mem_append_left _ (List.mem_append_right _ h))) (by decide +kernel))
set_option maxRecDepth 20000 in
theorem gL_isRead_X4_floorOf : GoodIn wsL_isRead (wsV RL 35 RX4 yX4_floorOf wsX4_floorOf) := goodIn_app (goodIn_of _ (by decide +kernel)) ggL_isRead_X4_floorOf
theorem dL_isRead_0 : decode cL_isRead 0 = .ok (.aload_n 0, 1) := by decide +kernel
theorem dL_isRead_1 : decode cL_isRead 1 = .ok (.iload_n 1, 1) := by decide +kernel
theorem dL_isRead_2 : decode cL_isRead 2 = .ok (.invokevirtual 8, 3) := by decide +kernel
theorem dL_isRead_5 : decode cL_isRead 5 = .ok (.istore_n 3, 1) := by decide +kernel
theorem dL_isRead_6 : decode cL_isRead 6 = .ok (.iload_n 3, 1) := by decide +kernel
theorem dL_isRead_7 : decode cL_isRead 7 = .ok (.aload_n 0, 1) := by decide +kernel
theorem dL_isRead_8 : decode cL_isRead 8 = .ok (.iload_n 1, 1) := by decide +kernel
theorem dL_isRead_9 : decode cL_isRead 9 = .ok (.invokevirtual 14, 3) := by decide +kernel
theorem dL_isRead_12 : decode cL_isRead 12 = .ok (.if_icmp .ne 7, 3) := by decide +kernel
theorem dL_isRead_15 : decode cL_isRead 15 = .ok (.iconst 1, 1) := by decide +kernel
theorem dL_isRead_16 : decode cL_isRead 16 = .ok (.goto 4, 3) := by decide +kernel
theorem dL_isRead_19 : decode cL_isRead 19 = .ok (.iconst 0, 1) := by decide +kernel
theorem dL_isRead_20 : decode cL_isRead 20 = .ok (.istore 4, 2) := by decide +kernel
theorem dL_isRead_22 : decode cL_isRead 22 = .ok (.sipush 150, 3) := by decide +kernel
theorem dL_isRead_25 : decode cL_isRead 25 = .ok (.istore 5, 2) := by decide +kernel
theorem dL_isRead_27 : decode cL_isRead 27 = .ok (.iconst 0, 1) := by decide +kernel
theorem dL_isRead_28 : decode cL_isRead 28 = .ok (.istore 6, 2) := by decide +kernel
theorem dL_isRead_30 : decode cL_isRead 30 = .ok (.iconst 0, 1) := by decide +kernel
theorem dL_isRead_31 : decode cL_isRead 31 = .ok (.istore 7, 2) := by decide +kernel
theorem dL_isRead_33 : decode cL_isRead 33 = .ok (.iload 7, 2) := by decide +kernel
theorem dL_isRead_35 : decode cL_isRead 35 = .ok (.bipush 8, 2) := by decide +kernel
theorem dL_isRead_37 : decode cL_isRead 37 = .ok (.if_icmp .ge 130, 3) := by decide +kernel
theorem dL_isRead_40 : decode cL_isRead 40 = .ok (.iload 4, 2) := by decide +kernel
theorem dL_isRead_42 : decode cL_isRead 42 = .ok (.ifCond .eq 125, 3) := by decide +kernel
theorem dL_isRead_45 : decode cL_isRead 45 = .ok (.iload 6, 2) := by decide +kernel
theorem dL_isRead_47 : decode cL_isRead 47 = .ok (.iload 7, 2) := by decide +kernel
theorem dL_isRead_49 : decode cL_isRead 49 = .ok (.if_icmp .ne 118, 3) := by decide +kernel
theorem dL_isRead_52 : decode cL_isRead 52 = .ok (.aload_n 0, 1) := by decide +kernel
theorem dL_isRead_53 : decode cL_isRead 53 = .ok (.iload_n 1, 1) := by decide +kernel
theorem dL_isRead_54 : decode cL_isRead 54 = .ok (.iload 5, 2) := by decide +kernel
theorem dL_isRead_56 : decode cL_isRead 56 = .ok (.invokevirtual 17, 3) := by decide +kernel
theorem dL_isRead_59 : decode cL_isRead 59 = .ok (.istore 8, 2) := by decide +kernel
theorem dL_isRead_61 : decode cL_isRead 61 = .ok (.iload 7, 2) := by decide +kernel
theorem dL_isRead_63 : decode cL_isRead 63 = .ok (.iload_n 2, 1) := by decide +kernel
theorem dL_isRead_64 : decode cL_isRead 64 = .ok (.if_icmp .ne 32, 3) := by decide +kernel
theorem dL_isRead_67 : decode cL_isRead 67 = .ok (.iload 5, 2) := by decide +kernel
theorem dL_isRead_69 : decode cL_isRead 69 = .ok (.sipush 150, 3) := by decide +kernel
theorem dL_isRead_72 : decode cL_isRead 72 = .ok (.if_icmp .ge 24, 3) := by decide +kernel
theorem dL_isRead_75 : decode cL_isRead 75 = .ok (.aload_n 0, 1) := by decide +kernel
theorem dL_isRead_76 : decode cL_isRead 76 = .ok (.iload_n 1, 1) := by decide +kernel
theorem dL_isRead_77 : decode cL_isRead 77 = .ok (.sipush 150, 3) := by decide +kernel
theorem dL_isRead_80 : decode cL_isRead 80 = .ok (.iload_n 2, 1) := by decide +kernel
theorem dL_isRead_81 : decode cL_isRead 81 = .ok (.invokevirtual 21, 3) := by decide +kernel
theorem dL_isRead_84 : decode cL_isRead 84 = .ok (.iload 5, 2) := by decide +kernel
theorem dL_isRead_86 : decode cL_isRead 86 = .ok (.if_icmp .ne 7, 3) := by decide +kernel
theorem dL_isRead_89 : decode cL_isRead 89 = .ok (.iconst 1, 1) := by decide +kernel
theorem dL_isRead_90 : decode cL_isRead 90 = .ok (.goto 4, 3) := by decide +kernel
theorem dL_isRead_93 : decode cL_isRead 93 = .ok (.iconst 0, 1) := by decide +kernel
theorem dL_isRead_94 : decode cL_isRead 94 = .ok (.istore 4, 2) := by decide +kernel
theorem dL_isRead_96 : decode cL_isRead 96 = .ok (.iload 8, 2) := by decide +kernel
theorem dL_isRead_98 : decode cL_isRead 98 = .ok (.ifCond .lt 63, 3) := by decide +kernel
theorem dL_isRead_101 : decode cL_isRead 101 = .ok (.iload 4, 2) := by decide +kernel
theorem dL_isRead_103 : decode cL_isRead 103 = .ok (.ifCond .eq 48, 3) := by decide +kernel
theorem dL_isRead_106 : decode cL_isRead 106 = .ok (.iload 8, 2) := by decide +kernel
theorem dL_isRead_108 : decode cL_isRead 108 = .ok (.iload 5, 2) := by decide +kernel
theorem dL_isRead_110 : decode cL_isRead 110 = .ok (.if_icmp .ge 41, 3) := by decide +kernel
theorem dL_isRead_113 : decode cL_isRead 113 = .ok (.aload_n 0, 1) := by decide +kernel
theorem dL_isRead_114 : decode cL_isRead 114 = .ok (.iload_n 1, 1) := by decide +kernel
theorem dL_isRead_115 : decode cL_isRead 115 = .ok (.iload 8, 2) := by decide +kernel
theorem dL_isRead_117 : decode cL_isRead 117 = .ok (.invokevirtual 25, 3) := by decide +kernel
theorem dL_isRead_120 : decode cL_isRead 120 = .ok (.ifCond .eq 31, 3) := by decide +kernel
theorem dL_isRead_123 : decode cL_isRead 123 = .ok (.aload_n 0, 1) := by decide +kernel
theorem dL_isRead_124 : decode cL_isRead 124 = .ok (.iload_n 1, 1) := by decide +kernel
theorem dL_isRead_125 : decode cL_isRead 125 = .ok (.aload_n 0, 1) := by decide +kernel
theorem dL_isRead_126 : decode cL_isRead 126 = .ok (.iload 8, 2) := by decide +kernel
theorem dL_isRead_128 : decode cL_isRead 128 = .ok (.invokevirtual 29, 3) := by decide +kernel
theorem dL_isRead_131 : decode cL_isRead 131 = .ok (.invokevirtual 32, 3) := by decide +kernel
theorem dL_isRead_134 : decode cL_isRead 134 = .ok (.ifCond .eq 17, 3) := by decide +kernel
theorem dL_isRead_137 : decode cL_isRead 137 = .ok (.iload 8, 2) := by decide +kernel
theorem dL_isRead_139 : decode cL_isRead 139 = .ok (.aload_n 0, 1) := by decide +kernel
theorem dL_isRead_140 : decode cL_isRead 140 = .ok (.iload_n 1, 1) := by decide +kernel
theorem dL_isRead_141 : decode cL_isRead 141 = .ok (.invokevirtual 35, 3) := by decide +kernel
theorem dL_isRead_144 : decode cL_isRead 144 = .ok (.if_icmp .le 7, 3) := by decide +kernel
theorem dL_isRead_147 : decode cL_isRead 147 = .ok (.iconst 1, 1) := by decide +kernel
theorem dL_isRead_148 : decode cL_isRead 148 = .ok (.goto 4, 3) := by decide +kernel
theorem dL_isRead_151 : decode cL_isRead 151 = .ok (.iconst 0, 1) := by decide +kernel
theorem dL_isRead_152 : decode cL_isRead 152 = .ok (.istore 4, 2) := by decide +kernel
theorem dL_isRead_154 : decode cL_isRead 154 = .ok (.iload 8, 2) := by decide +kernel
theorem dL_isRead_156 : decode cL_isRead 156 = .ok (.istore 5, 2) := by decide +kernel
theorem dL_isRead_158 : decode cL_isRead 158 = .ok (.iinc 6 1, 3) := by decide +kernel
theorem dL_isRead_161 : decode cL_isRead 161 = .ok (.iinc 7 1, 3) := by decide +kernel
theorem dL_isRead_164 : decode cL_isRead 164 = .ok (.goto (-131), 3) := by decide +kernel
theorem dL_isRead_167 : decode cL_isRead 167 = .ok (.iload 4, 2) := by decide +kernel
theorem dL_isRead_169 : decode cL_isRead 169 = .ok (.ifCond .eq 29, 3) := by decide +kernel
theorem dL_isRead_172 : decode cL_isRead 172 = .ok (.iload 6, 2) := by decide +kernel
theorem dL_isRead_174 : decode cL_isRead 174 = .ok (.bipush 8, 2) := by decide +kernel
theorem dL_isRead_176 : decode cL_isRead 176 = .ok (.if_icmp .ne 12, 3) := by decide +kernel
theorem dL_isRead_179 : decode cL_isRead 179 = .ok (.iload_n 3, 1) := by decide +kernel
theorem dL_isRead_180 : decode cL_isRead 180 = .ok (.bipush 8, 2) := by decide +kernel
theorem dL_isRead_182 : decode cL_isRead 182 = .ok (.if_icmp .lt 16, 3) := by decide +kernel
theorem dL_isRead_185 : decode cL_isRead 185 = .ok (.goto 9, 3) := by decide +kernel
theorem dL_isRead_188 : decode cL_isRead 188 = .ok (.iload_n 3, 1) := by decide +kernel
theorem dL_isRead_189 : decode cL_isRead 189 = .ok (.iload 6, 2) := by decide +kernel
theorem dL_isRead_191 : decode cL_isRead 191 = .ok (.if_icmp .ne 7, 3) := by decide +kernel
theorem dL_isRead_194 : decode cL_isRead 194 = .ok (.iconst 1, 1) := by decide +kernel
theorem dL_isRead_195 : decode cL_isRead 195 = .ok (.goto 4, 3) := by decide +kernel
theorem dL_isRead_198 : decode cL_isRead 198 = .ok (.iconst 0, 1) := by decide +kernel
theorem dL_isRead_199 : decode cL_isRead 199 = .ok (.ireturn, 1) := by decide +kernel
set_option maxRecDepth 20000 in
theorem ggL_isCut_X4_inRow : GoodIn wsL_isCut wsX4_inRow := goodIn_ca (goodIn_r _ [5, 6, 7, 8, 4, 9, 10, 11, 12, 13, 14, 15, 16, 17, 18, 19, 20, 21, 22, 23, 24, 106, 107, 108, 109, 110, 111, 112, 113, 114, 115, 116, 117] (by decide +kernel) (by decide +kernel)) (goodIn_sub (fun _ h => List.mem_cons_of_mem _ (List.mem_append_right _ h)) (by decide +kernel))
set_option maxRecDepth 20000 in
theorem gL_isCut_X4_inRow : GoodIn wsL_isCut (wsV RL 38 RX4 yX4_inRow wsX4_inRow) := goodIn_app (goodIn_of _ (by decide +kernel)) ggL_isCut_X4_inRow
set_option maxRecDepth 20000 in
theorem ggL_isCut_X4_floorOf : GoodIn wsL_isCut wsX4_floorOf := goodIn_ca (goodIn_r _ [28, 6, 7, 8, 4, 9, 10, 11, 12, 13, 14, 15, 16, 17, 18, 29, 30, 31, 22, 32, 33, 106, 107, 108, 109, 110, 111, 112, 113, 114, 115, 116, 117] (by decide +kernel) (by decide +kernel)) (goodIn_sub (fun _ h => List.mem_cons_of_mem _ (List.mem_append_right _ h)) (by decide +kernel))
set_option maxRecDepth 20000 in
theorem gL_isCut_X4_floorOf : GoodIn wsL_isCut (wsV RL 35 RX4 yX4_floorOf wsX4_floorOf) := goodIn_app (goodIn_of _ (by decide +kernel)) ggL_isCut_X4_floorOf
set_option maxRecDepth 20000 in
theorem ggL_isCut_X4_hasGap : GoodIn wsL_isCut wsX4_hasGap := goodIn_ca (goodIn_r _ [37, 38, 39, 6, 7, 8, 4, 9, 10, 11, 12, 13, 14, 15, 16, 17, 18, 29, 30, 31, 22, 32, 33, 40, 41, 42, 43, 44, 45, 46, 47, 48, 49, 50, 51, 52, 53, 54, 55, 56, 57, 58, 59, 60, 61, 106, 107, 108, 109, 110, 111, 112, 113, 114, 115, 116, 117, 118, 119, 120, 121, 122] (by decide +kernel) (by decide +kernel)) (goodIn_sub (fun _ h => List.mem_cons_of_mem _ (List.mem_append_right _ h)) (by decide +kernel))
set_option maxRecDepth 20000 in
theorem gL_isCut_X4_hasGap : GoodIn wsL_isCut (wsV RL 41 RX4 yX4_hasGap wsX4_hasGap) := goodIn_app (goodIn_of _ (by decide +kernel)) ggL_isCut_X4_hasGap
set_option maxRecDepth 20000 in
theorem ggL_isCut_X4_rowAt : GoodIn wsL_isCut wsX4_rowAt := goodIn_ca (goodIn_r _ [65, 14, 15, 6, 7, 8, 4, 9, 10, 11, 12, 13, 16, 17, 18, 19, 20, 21, 22, 23, 24, 66, 67, 68, 69, 70, 106, 107, 108, 109, 110, 111, 112, 113, 114, 115, 116, 117] (by decide +kernel) (by decide +kernel)) (goodIn_sub (fun _ h => List.mem_cons_of_mem _ (List.mem_append_right _ h)) (by decide +kernel))
set_option maxRecDepth 20000 in
theorem gL_isCut_X4_rowAt : GoodIn wsL_isCut (wsV RL 45 RX4 yX4_rowAt wsX4_rowAt) := goodIn_app (goodIn_of _ (by decide +kernel)) ggL_isCut_X4_rowAt
set_option maxRecDepth 20000 in
theorem ggL_isCut_X4_entries : GoodIn wsL_isCut wsX4_entries := goodIn_r _ [74, 38, 75, 76, 77, 43, 78, 50, 106, 107, 108, 109, 110, 111, 112, 113, 118, 119, 120, 121] (by decide +kernel) (by decide +kernel)
set_option maxRecDepth 20000 in
theorem gL_isCut_X4_entries : GoodIn wsL_isCut (wsV RL 48 RX4 yX4_entries wsX4_entries) := goodIn_app (goodIn_of _ (by decide +kernel)) ggL_isCut_X4_entries
set_option maxRecDepth 20000 in
theorem ggL_isCut_X4_authorOf : GoodIn wsL_isCut wsX4_authorOf := goodIn_ca (goodIn_r _ [82, 38, 83, 84, 85, 4, 86, 14, 15, 87, 47, 48, 43, 49, 50, 51, 52, 53, 54, 55, 46, 106, 107, 108, 109, 110, 111, 112, 113, 118, 119, 120, 121] (by decide +kernel) (by decide +kernel)) (goodIn_sub (fun _ h => List.mem_cons_of_mem _ (List.mem_append_right _ h)) (by decide +kernel))
set_option maxRecDepth 20000 in
theorem gL_isCut_X4_authorOf : GoodIn wsL_isCut (wsV RL 29 RX4 yX4_authorOf wsX4_authorOf) := goodIn_app (goodIn_of _ (by decide +kernel)) ggL_isCut_X4_authorOf
set_option maxRecDepth 20000 in
theorem ggL_isCut_X4_follows : GoodIn wsL_isCut wsX4_follows := goodIn_ca (goodIn_r _ [91, 39, 11, 12, 4, 13, 14, 15, 16, 17, 18, 56, 57, 58, 59, 60, 61, 106, 107, 108, 109, 110, 111, 112, 113, 122] (by decide +kernel) (by decide +kernel)) (goodIn_sub (fun _ h => List.mem_cons_of_mem _ (List.mem_append_right _ h)) (by decide +kernel))
set_option maxRecDepth 20000 in
theorem gL_isCut_X4_follows : GoodIn wsL_isCut (wsV RL 32 RX4 yX4_follows wsX4_follows) := goodIn_app (goodIn_of _ (by decide +kernel)) ggL_isCut_X4_follows
set_option maxRecDepth 20000 in
theorem ggL_isCut_X4_isLarge : GoodIn wsL_isCut wsX4_isLarge := goodIn_ca (goodIn_r _ [95, 11, 12, 4, 13, 14, 15, 16, 17, 18, 96, 97, 98, 99, 39, 100, 101, 102, 103, 59, 104, 105, 57, 58, 60, 61, 106, 107, 108, 109, 110, 111, 112, 113, 122] (by decide +kernel) (by decide +kernel)) (goodIn_sub (fun _ h => List.mem_cons_of_mem _ (List.mem_append_right _ h)) (by decide +kernel))
set_option maxRecDepth 20000 in
theorem gL_isCut_X4_isLarge : GoodIn wsL_isCut (wsV RL 52 RX4 yX4_isLarge wsX4_isLarge) := goodIn_app (goodIn_of _ (by decide +kernel)) ggL_isCut_X4_isLarge
theorem dL_isCut_0 : decode cL_isCut 0 = .ok (.aload_n 0, 1) := by decide +kernel
theorem dL_isCut_1 : decode cL_isCut 1 = .ok (.iload_n 1, 1) := by decide +kernel
theorem dL_isCut_2 : decode cL_isCut 2 = .ok (.invokevirtual 38, 3) := by decide +kernel
theorem dL_isCut_5 : decode cL_isCut 5 = .ok (.istore_n 3, 1) := by decide +kernel
theorem dL_isCut_6 : decode cL_isCut 6 = .ok (.iload_n 3, 1) := by decide +kernel
theorem dL_isCut_7 : decode cL_isCut 7 = .ok (.iload_n 2, 1) := by decide +kernel
theorem dL_isCut_8 : decode cL_isCut 8 = .ok (.if_icmp .gt 23, 3) := by decide +kernel
theorem dL_isCut_11 : decode cL_isCut 11 = .ok (.aload_n 0, 1) := by decide +kernel
theorem dL_isCut_12 : decode cL_isCut 12 = .ok (.iload_n 1, 1) := by decide +kernel
theorem dL_isCut_13 : decode cL_isCut 13 = .ok (.invokevirtual 35, 3) := by decide +kernel
theorem dL_isCut_16 : decode cL_isCut 16 = .ok (.ifCond .ge 11, 3) := by decide +kernel
theorem dL_isCut_19 : decode cL_isCut 19 = .ok (.aload_n 0, 1) := by decide +kernel
theorem dL_isCut_20 : decode cL_isCut 20 = .ok (.iload_n 1, 1) := by decide +kernel
theorem dL_isCut_21 : decode cL_isCut 21 = .ok (.invokevirtual 41, 3) := by decide +kernel
theorem dL_isCut_24 : decode cL_isCut 24 = .ok (.ifCond .ne 7, 3) := by decide +kernel
theorem dL_isCut_27 : decode cL_isCut 27 = .ok (.iconst 1, 1) := by decide +kernel
theorem dL_isCut_28 : decode cL_isCut 28 = .ok (.goto 4, 3) := by decide +kernel
theorem dL_isCut_31 : decode cL_isCut 31 = .ok (.iconst 0, 1) := by decide +kernel
theorem dL_isCut_32 : decode cL_isCut 32 = .ok (.istore 4, 2) := by decide +kernel
theorem dL_isCut_34 : decode cL_isCut 34 = .ok (.iload_n 3, 1) := by decide +kernel
theorem dL_isCut_35 : decode cL_isCut 35 = .ok (.ifCond .le 115, 3) := by decide +kernel
theorem dL_isCut_38 : decode cL_isCut 38 = .ok (.aload_n 0, 1) := by decide +kernel
theorem dL_isCut_39 : decode cL_isCut 39 = .ok (.iload_n 1, 1) := by decide +kernel
theorem dL_isCut_40 : decode cL_isCut 40 = .ok (.iconst 0, 1) := by decide +kernel
theorem dL_isCut_41 : decode cL_isCut 41 = .ok (.invokevirtual 45, 3) := by decide +kernel
theorem dL_isCut_44 : decode cL_isCut 44 = .ok (.istore 5, 2) := by decide +kernel
theorem dL_isCut_46 : decode cL_isCut 46 = .ok (.aload_n 0, 1) := by decide +kernel
theorem dL_isCut_47 : decode cL_isCut 47 = .ok (.iload_n 1, 1) := by decide +kernel
theorem dL_isCut_48 : decode cL_isCut 48 = .ok (.iload_n 3, 1) := by decide +kernel
theorem dL_isCut_49 : decode cL_isCut 49 = .ok (.iconst 1, 1) := by decide +kernel
theorem dL_isCut_50 : decode cL_isCut 50 = .ok (.isub, 1) := by decide +kernel
theorem dL_isCut_51 : decode cL_isCut 51 = .ok (.invokevirtual 45, 3) := by decide +kernel
theorem dL_isCut_54 : decode cL_isCut 54 = .ok (.istore 6, 2) := by decide +kernel
theorem dL_isCut_56 : decode cL_isCut 56 = .ok (.iload 4, 2) := by decide +kernel
theorem dL_isCut_58 : decode cL_isCut 58 = .ok (.ifCond .eq 37, 3) := by decide +kernel
theorem dL_isCut_61 : decode cL_isCut 61 = .ok (.iload 5, 2) := by decide +kernel
theorem dL_isCut_63 : decode cL_isCut 63 = .ok (.aload_n 0, 1) := by decide +kernel
theorem dL_isCut_64 : decode cL_isCut 64 = .ok (.iload_n 1, 1) := by decide +kernel
theorem dL_isCut_65 : decode cL_isCut 65 = .ok (.invokevirtual 35, 3) := by decide +kernel
theorem dL_isCut_68 : decode cL_isCut 68 = .ok (.if_icmp .le 27, 3) := by decide +kernel
theorem dL_isCut_71 : decode cL_isCut 71 = .ok (.iload 6, 2) := by decide +kernel
theorem dL_isCut_73 : decode cL_isCut 73 = .ok (.iload 5, 2) := by decide +kernel
theorem dL_isCut_75 : decode cL_isCut 75 = .ok (.iload_n 3, 1) := by decide +kernel
theorem dL_isCut_76 : decode cL_isCut 76 = .ok (.iadd, 1) := by decide +kernel
theorem dL_isCut_77 : decode cL_isCut 77 = .ok (.iconst 1, 1) := by decide +kernel
theorem dL_isCut_78 : decode cL_isCut 78 = .ok (.isub, 1) := by decide +kernel
theorem dL_isCut_79 : decode cL_isCut 79 = .ok (.if_icmp .lt 16, 3) := by decide +kernel
theorem dL_isCut_82 : decode cL_isCut 82 = .ok (.iload 6, 2) := by decide +kernel
theorem dL_isCut_84 : decode cL_isCut 84 = .ok (.aload_n 0, 1) := by decide +kernel
theorem dL_isCut_85 : decode cL_isCut 85 = .ok (.invokevirtual 48, 3) := by decide +kernel
theorem dL_isCut_88 : decode cL_isCut 88 = .ok (.if_icmp .ge 7, 3) := by decide +kernel
theorem dL_isCut_91 : decode cL_isCut 91 = .ok (.iconst 1, 1) := by decide +kernel
theorem dL_isCut_92 : decode cL_isCut 92 = .ok (.goto 4, 3) := by decide +kernel
theorem dL_isCut_95 : decode cL_isCut 95 = .ok (.iconst 0, 1) := by decide +kernel
theorem dL_isCut_96 : decode cL_isCut 96 = .ok (.istore 4, 2) := by decide +kernel
theorem dL_isCut_98 : decode cL_isCut 98 = .ok (.iload 4, 2) := by decide +kernel
theorem dL_isCut_100 : decode cL_isCut 100 = .ok (.ifCond .eq 47, 3) := by decide +kernel
theorem dL_isCut_103 : decode cL_isCut 103 = .ok (.aload_n 0, 1) := by decide +kernel
theorem dL_isCut_104 : decode cL_isCut 104 = .ok (.iload_n 1, 1) := by decide +kernel
theorem dL_isCut_105 : decode cL_isCut 105 = .ok (.aload_n 0, 1) := by decide +kernel
theorem dL_isCut_106 : decode cL_isCut 106 = .ok (.iload 5, 2) := by decide +kernel
theorem dL_isCut_108 : decode cL_isCut 108 = .ok (.invokevirtual 29, 3) := by decide +kernel
theorem dL_isCut_111 : decode cL_isCut 111 = .ok (.invokevirtual 32, 3) := by decide +kernel
theorem dL_isCut_114 : decode cL_isCut 114 = .ok (.ifCond .eq 33, 3) := by decide +kernel
theorem dL_isCut_117 : decode cL_isCut 117 = .ok (.aload_n 0, 1) := by decide +kernel
theorem dL_isCut_118 : decode cL_isCut 118 = .ok (.aload_n 0, 1) := by decide +kernel
theorem dL_isCut_119 : decode cL_isCut 119 = .ok (.iload 5, 2) := by decide +kernel
theorem dL_isCut_121 : decode cL_isCut 121 = .ok (.invokevirtual 29, 3) := by decide +kernel
theorem dL_isCut_124 : decode cL_isCut 124 = .ok (.invokevirtual 52, 3) := by decide +kernel
theorem dL_isCut_127 : decode cL_isCut 127 = .ok (.ifCond .ne 20, 3) := by decide +kernel
theorem dL_isCut_130 : decode cL_isCut 130 = .ok (.aload_n 0, 1) := by decide +kernel
theorem dL_isCut_131 : decode cL_isCut 131 = .ok (.aload_n 0, 1) := by decide +kernel
theorem dL_isCut_132 : decode cL_isCut 132 = .ok (.iload 6, 2) := by decide +kernel
theorem dL_isCut_134 : decode cL_isCut 134 = .ok (.invokevirtual 29, 3) := by decide +kernel
theorem dL_isCut_137 : decode cL_isCut 137 = .ok (.invokevirtual 52, 3) := by decide +kernel
theorem dL_isCut_140 : decode cL_isCut 140 = .ok (.ifCond .ne 7, 3) := by decide +kernel
theorem dL_isCut_143 : decode cL_isCut 143 = .ok (.iconst 1, 1) := by decide +kernel
theorem dL_isCut_144 : decode cL_isCut 144 = .ok (.goto 4, 3) := by decide +kernel
theorem dL_isCut_147 : decode cL_isCut 147 = .ok (.iconst 0, 1) := by decide +kernel
theorem dL_isCut_148 : decode cL_isCut 148 = .ok (.istore 4, 2) := by decide +kernel
theorem dL_isCut_150 : decode cL_isCut 150 = .ok (.iload 4, 2) := by decide +kernel
theorem dL_isCut_152 : decode cL_isCut 152 = .ok (.ireturn, 1) := by decide +kernel
set_option maxRecDepth 20000 in
theorem ggL_does_X4_entries : GoodIn wsL_does wsX4_entries := goodIn_r _ [5, 6, 7, 8, 9, 10, 11, 12, 241, 242, 243, 244, 245, 246, 247, 248, 249, 250, 251, 252] (by decide +kernel) (by decide +kernel)
set_option maxRecDepth 20000 in
theorem gL_does_X4_entries : GoodIn wsL_does (wsV RL 48 RX4 yX4_entries wsX4_entries) := goodIn_app (goodIn_of _ (by decide +kernel)) ggL_does_X4_entries
set_option maxRecDepth 20000 in
theorem ggL_does_X4_follows : GoodIn wsL_does wsX4_follows := goodIn_ca (goodIn_r _ [16, 17, 18, 19, 4, 20, 21, 22, 23, 24, 25, 26, 27, 28, 29, 30, 31, 241, 242, 243, 244, 245, 246, 247, 248, 253] (by decide +kernel) (by decide +kernel)) (goodIn_sub (fun _ h => List.mem_cons_of_mem _ (List.mem_append_left _ (List.mem_append_left _ (List.mem_append_right _ h)))) (by decide +kernel))
set_option maxRecDepth 20000 in
theorem gL_does_X4_follows : GoodIn wsL_does (wsV RL 32 RX4 yX4_follows wsX4_follows) := goodIn_app (goodIn_of _ (by decide +kernel)) ggL_does_X4_follows
set_option maxRecDepth 20000 in
theorem ggL_does_X4_followers : GoodIn wsL_does wsX4_followers := goodIn_ca (goodIn_r _ [35, 17, 18, 19, 4, 20, 21, 22, 23, 24, 25, 36, 37, 38, 29, 39, 40, 27, 28, 30, 31, 241, 242, 243, 244, 245, 246, 247, 248, 253] (by decide +kernel) (by decide +kernel)) (goodIn_sub (fun _ h => List.mem_cons_of_mem _ (List.mem_append_left _ (List.mem_append_left _ (List.mem_append_right _ h)))) (by decide +kernel))
set_option maxRecDepth 20000 in
theorem gL_does_X4_followers : GoodIn wsL_does (wsV RL 55 RX4 yX4_followers wsX4_followers) := goodIn_app (goodIn_of _ (by decide +kernel)) ggL_does_X4_followers
set_option maxRecDepth 20000 in
theorem ggL_does_X4_unfollow : GoodIn wsL_does wsX4_unfollow := goodIn_ca (goodIn_ca (goodIn_r _ [44, 45, 46, 17, 18, 19, 4, 20, 21, 22, 23, 24, 25, 26, 27, 28, 29, 30, 31, 47, 48, 49, 50, 51, 52, 53, 54, 55, 56, 57, 58, 59, 6, 60, 61, 62, 63, 64, 65, 66, 67, 68, 69, 70, 71, 7, 8, 9, 10, 11, 12, 72, 73, 74, 75, 76, 77, 78, 79, 80, 81, 82, 83, 84, 85, 86, 87, 88, 89, 90, 91, 92, 93, 94, 95, 96, 97, 98, 99, 36, 37, 38, 39, 40, 100, 101, 102, 103, 104, 105, 106, 107, 108, 109, 110, 111, 112, 241, 242, 243, 244, 245, 246, 247, 248, 253, 254, 255, 256, 257, 249, 250, 251, 252] (by decide +kernel) (by decide +kernel)) (goodIn_sub (fun _ h => List.mem_cons_of_mem _ (List.mem_append_left _ (List.mem_append_right _ h))) (by decide +kernel))) (goodIn_sub (fun _ h => List.mem_cons_of_mem _ (List.mem_append_left _ (List.mem_append_left _ (List.mem_append_right _ h)))) (by decide +kernel))
set_option maxRecDepth 20000 in
theorem gL_does_X4_unfollow : GoodIn wsL_does (wsV RL 58 RX4 yX4_unfollow wsX4_unfollow) := goodIn_app (goodIn_of _ (by decide +kernel)) ggL_does_X4_unfollow
set_option maxRecDepth 20000 in
theorem ggL_does_X4_block : GoodIn wsL_does wsX4_block := goodIn_ca (goodIn_ca (goodIn_r _ [116, 117, 17, 18, 19, 4, 20, 21, 22, 23, 24, 25, 118, 119, 120, 121, 122, 26, 27, 28, 29, 30, 31, 47, 48, 49, 50, 51, 52, 53, 54, 55, 56, 57, 58, 59, 6, 60, 61, 62, 63, 64, 65, 66, 67, 68, 69, 70, 71, 7, 8, 9, 10, 11, 12, 72, 73, 74, 75, 76, 77, 78, 79, 80, 81, 82, 83, 84, 85, 86, 87, 88, 89, 90, 91, 92, 93, 94, 95, 96, 97, 98, 99, 36, 37, 38, 39, 40, 100, 101, 102, 103, 104, 105, 106, 107, 108, 109, 110, 111, 112, 241, 242, 243, 244, 245, 246, 247, 248, 253, 254, 255, 256, 257, 249, 250, 251, 252] (by decide +kernel) (by decide +kernel)) (goodIn_sub (fun _ h => List.mem_cons_of_mem _ (List.mem_append_left _ (List.mem_append_left _ (List.mem_append_right _ h)))) (by decide +kernel))) (goodIn_sub (fun _ h => List.mem_cons_of_mem _ (List.mem_append_right _ h)) (by decide +kernel))
set_option maxRecDepth 20000 in
theorem gL_does_X4_block : GoodIn wsL_does (wsV RL 61 RX4 yX4_block wsX4_block) := goodIn_app (goodIn_of _ (by decide +kernel)) ggL_does_X4_block
set_option maxRecDepth 20000 in
theorem ggL_does_X4_mute : GoodIn wsL_does wsX4_mute := goodIn_ca (goodIn_ca (goodIn_r _ [126, 127, 18, 19, 4, 20, 21, 22, 23, 24, 25, 118, 119, 120, 121, 122, 26, 27, 28, 29, 30, 31, 47, 48, 49, 50, 241, 242, 243, 244, 245, 246, 247, 248, 253] (by decide +kernel) (by decide +kernel)) (goodIn_sub (fun _ h => List.mem_cons_of_mem _ (List.mem_append_left _ (List.mem_append_left _ (List.mem_append_right _ h)))) (by decide +kernel))) (goodIn_sub (fun _ h => List.mem_cons_of_mem _ (List.mem_append_right _ h)) (by decide +kernel))
set_option maxRecDepth 20000 in
theorem gL_does_X4_mute : GoodIn wsL_does (wsV RL 65 RX4 yX4_mute wsX4_mute) := goodIn_app (goodIn_of _ (by decide +kernel)) ggL_does_X4_mute
set_option maxRecDepth 20000 in
theorem ggL_does_X4_shows : GoodIn wsL_does wsX4_shows := goodIn_ca (goodIn_r _ [131, 132, 133, 134, 135, 4, 136, 55, 18, 19, 20, 21, 22, 23, 24, 25, 137, 138, 139, 140, 6, 141, 87, 88, 10, 89, 12, 142, 143, 144, 145, 146, 147, 148, 149, 150, 151, 152, 7, 8, 9, 11, 61, 62, 63, 64, 65, 66, 153, 154, 155, 156, 71, 112, 72, 73, 74, 75, 76, 157, 158, 159, 160, 17, 81, 82, 83, 84, 85, 86, 26, 27, 28, 29, 30, 31, 95, 96, 97, 98, 99, 36, 37, 38, 39, 40, 161, 162, 163, 164, 165, 166, 167, 168, 127, 117, 169, 170, 171, 172, 173, 90, 91, 92, 93, 94, 174, 175, 176, 177, 178, 179, 180, 181, 182, 183, 184, 185, 186, 187, 241, 242, 243, 244, 245, 246, 247, 248, 249, 250, 251, 252, 258, 259, 260, 254, 255, 256, 257, 253] (by decide +kernel) (by decide +kernel)) (goodIn_sub (fun _ h => List.mem_cons_of_mem _ (List.mem_append_left _ (List.mem_append_left _ (List.mem_append_right _ h)))) (by decide +kernel))
set_option maxRecDepth 20000 in
theorem gL_does_X4_shows : GoodIn wsL_does (wsV RL 25 RX4 yX4_shows wsX4_shows) := goodIn_app (goodIn_of _ (by decide +kernel)) ggL_does_X4_shows
set_option maxRecDepth 20000 in
theorem ggL_does_X4_repost : GoodIn wsL_does wsX4_repost := goodIn_ca (goodIn_ca (goodIn_r _ [191, 45, 46, 6, 117, 18, 19, 4, 20, 21, 22, 23, 24, 25, 137, 138, 139, 140, 141, 87, 88, 10, 89, 12, 192, 193, 194, 195, 7, 8, 9, 11, 169, 170, 171, 172, 173, 86, 90, 91, 92, 93, 94, 81, 82, 83, 84, 85, 26, 27, 28, 29, 30, 31, 196, 197, 198, 199, 51, 52, 53, 54, 55, 56, 57, 58, 59, 60, 61, 62, 63, 64, 65, 66, 67, 68, 69, 70, 71, 72, 73, 74, 75, 76, 77, 78, 79, 80, 17, 95, 96, 97, 98, 99, 36, 37, 38, 39, 40, 100, 101, 102, 103, 104, 105, 106, 107, 108, 109, 110, 111, 112, 241, 242, 243, 244, 245, 246, 247, 248, 249, 250, 251, 252, 253, 254, 255, 256, 257] (by decide +kernel) (by decide +kernel)) (goodIn_sub (fun _ h => List.mem_cons_of_mem _ (List.mem_append_left _ (List.mem_append_right _ h))) (by decide +kernel))) (goodIn_sub (fun _ h => List.mem_cons_of_mem _ (List.mem_append_left _ (List.mem_append_left _ (List.mem_append_right _ h)))) (by decide +kernel))
set_option maxRecDepth 20000 in
theorem gL_does_X4_repost : GoodIn wsL_does (wsV RL 68 RX4 yX4_repost wsX4_repost) := goodIn_app (goodIn_of _ (by decide +kernel)) ggL_does_X4_repost
set_option maxRecDepth 20000 in
theorem ggL_does_X4_originOf : GoodIn wsL_does wsX4_originOf := goodIn_ca (goodIn_r _ [203, 6, 137, 138, 139, 4, 140, 21, 22, 141, 87, 88, 10, 89, 12, 169, 170, 171, 172, 173, 86, 241, 242, 243, 244, 245, 246, 247, 248, 249, 250, 251, 252] (by decide +kernel) (by decide +kernel)) (goodIn_sub (fun _ h => List.mem_cons_of_mem _ (List.mem_append_left _ (List.mem_append_left _ (List.mem_append_right _ h)))) (by decide +kernel))
set_option maxRecDepth 20000 in
theorem gL_does_X4_originOf : GoodIn wsL_does (wsV RL 71 RX4 yX4_originOf wsX4_originOf) := goodIn_app (goodIn_of _ (by decide +kernel)) ggL_does_X4_originOf
set_option maxRecDepth 20000 in
theorem ggL_does_X4_delete : GoodIn wsL_does wsX4_delete := goodIn_ca (goodIn_ca (goodIn_r _ [207, 45, 46, 6, 137, 138, 139, 4, 140, 21, 22, 141, 87, 88, 10, 89, 12, 90, 91, 92, 93, 94, 86, 208, 209, 210, 211, 51, 52, 53, 54, 55, 56, 57, 58, 59, 60, 61, 62, 63, 64, 65, 66, 67, 68, 69, 70, 71, 7, 8, 9, 11, 72, 73, 74, 75, 76, 77, 78, 79, 80, 17, 81, 82, 83, 84, 85, 26, 27, 28, 29, 30, 31, 24, 25, 95, 96, 97, 98, 99, 36, 37, 38, 39, 40, 100, 101, 102, 103, 104, 105, 106, 107, 108, 109, 110, 111, 112, 212, 213, 214, 215, 216, 170, 171, 172, 173, 217, 241, 242, 243, 244, 245, 246, 247, 248, 249, 250, 251, 252, 254, 255, 256, 257, 253] (by decide +kernel) (by decide +kernel)) (goodIn_sub (fun _ h => List.mem_cons_of_mem _ (List.mem_append_left _ (List.mem_append_right _ h))) (by decide +kernel))) (goodIn_sub (fun _ h => List.mem_cons_of_mem _ (List.mem_append_left _ (List.mem_append_left _ (List.mem_append_right _ h)))) (by decide +kernel))
set_option maxRecDepth 20000 in
theorem gL_does_X4_delete : GoodIn wsL_does (wsV RL 74 RX4 yX4_delete wsX4_delete) := goodIn_app (goodIn_of _ (by decide +kernel)) ggL_does_X4_delete
set_option maxRecDepth 20000 in
theorem ggL_does_X4_setMark : GoodIn wsL_does wsX4_setMark := goodIn_ca (goodIn_r _ [221, 99, 222, 223, 4, 224, 121, 122, 51, 52, 53, 54, 55, 56, 57, 58, 59, 6, 60, 61, 62, 63, 64, 65, 66, 67, 68, 69, 70, 71, 7, 8, 9, 10, 11, 12, 72, 73, 74, 75, 76, 77, 78, 79, 80, 17, 81, 82, 83, 84, 85, 86, 87, 88, 89, 90, 91, 92, 93, 94, 26, 27, 28, 29, 30, 31, 24, 25, 95, 96, 97, 98, 36, 37, 38, 39, 40, 100, 101, 102, 103, 104, 105, 106, 107, 108, 109, 110, 111, 112, 225, 226, 227, 228, 241, 242, 243, 244, 245, 246, 247, 248, 254, 255, 256, 257, 249, 250, 251, 252, 253] (by decide +kernel) (by decide +kernel)) (goodIn_sub (fun _ h => List.mem_cons_of_mem _ (List.mem_append_right _ h)) (by decide +kernel))
set_option maxRecDepth 20000 in
theorem gL_does_X4_setMark : GoodIn wsL_does (wsV RL 77 RX4 yX4_setMark wsX4_setMark) := goodIn_app (goodIn_of _ (by decide +kernel)) ggL_does_X4_setMark
set_option maxRecDepth 20000 in
theorem ggL_does_X4_isLarge : GoodIn wsL_does wsX4_isLarge := goodIn_ca (goodIn_r _ [232, 18, 19, 4, 20, 21, 22, 23, 24, 25, 95, 96, 97, 98, 17, 99, 36, 37, 38, 29, 39, 40, 27, 28, 30, 31, 241, 242, 243, 244, 245, 246, 247, 248, 253] (by decide +kernel) (by decide +kernel)) (goodIn_sub (fun _ h => List.mem_cons_of_mem _ (List.mem_append_left _ (List.mem_append_left _ (List.mem_append_right _ h)))) (by decide +kernel))
set_option maxRecDepth 20000 in
theorem gL_does_X4_isLarge : GoodIn wsL_does (wsV RL 52 RX4 yX4_isLarge wsX4_isLarge) := goodIn_app (goodIn_of _ (by decide +kernel)) ggL_does_X4_isLarge
set_option maxRecDepth 20000 in
theorem ggL_does_X4_post : GoodIn wsL_does wsX4_post := goodIn_ca (goodIn_ca (goodIn_r _ [236, 6, 18, 19, 4, 20, 21, 22, 23, 24, 25, 192, 193, 194, 195, 45, 46, 7, 8, 9, 10, 11, 12, 196, 197, 198, 199, 85, 173, 51, 52, 53, 54, 55, 56, 57, 58, 59, 60, 61, 62, 63, 64, 65, 66, 67, 68, 69, 70, 71, 72, 73, 74, 75, 76, 77, 78, 79, 80, 17, 81, 82, 83, 84, 86, 87, 88, 89, 90, 91, 92, 93, 94, 26, 27, 28, 29, 30, 31, 95, 96, 97, 98, 99, 36, 37, 38, 39, 40, 100, 101, 102, 103, 104, 105, 106, 107, 108, 109, 110, 111, 112, 241, 242, 243, 244, 245, 246, 247, 248, 249, 250, 251, 252, 254, 255, 256, 257, 253] (by decide +kernel) (by decide +kernel)) (goodIn_sub (fun _ h => List.mem_cons_of_mem _ (List.mem_append_left _ (List.mem_append_left _ (List.mem_append_right _ h)))) (by decide +kernel))) (goodIn_sub (fun _ h => List.mem_cons_of_mem _ (List.mem_append_left _ (List.mem_append_right _ h))) (by decide +kernel))
set_option maxRecDepth 20000 in
theorem gL_does_X4_post : GoodIn wsL_does (wsV RL 80 RX4 yX4_post wsX4_post) := goodIn_app (goodIn_of _ (by decide +kernel)) ggL_does_X4_post
set_option maxRecDepth 20000 in
theorem ggL_does_X4_authorOf : GoodIn wsL_does wsX4_authorOf := goodIn_ca (goodIn_r _ [240, 6, 137, 138, 139, 4, 140, 21, 22, 141, 87, 88, 10, 89, 12, 81, 82, 83, 84, 85, 86, 241, 242, 243, 244, 245, 246, 247, 248, 249, 250, 251, 252] (by decide +kernel) (by decide +kernel)) (goodIn_sub (fun _ h => List.mem_cons_of_mem _ (List.mem_append_left _ (List.mem_append_left _ (List.mem_append_right _ h)))) (by decide +kernel))
set_option maxRecDepth 20000 in
theorem gL_does_X4_authorOf : GoodIn wsL_does (wsV RL 29 RX4 yX4_authorOf wsX4_authorOf) := goodIn_app (goodIn_of _ (by decide +kernel)) ggL_does_X4_authorOf
theorem dL_does_0 : decode cL_does 0 = .ok (.iload_n 1, 1) := by decide +kernel
theorem dL_does_1 : decode cL_does 1 = .ok (.bipush 16, 2) := by decide +kernel
theorem dL_does_3 : decode cL_does 3 = .ok (.idiv, 1) := by decide +kernel
theorem dL_does_4 : decode cL_does 4 = .ok (.bipush 8, 2) := by decide +kernel
theorem dL_does_6 : decode cL_does 6 = .ok (.irem, 1) := by decide +kernel
theorem dL_does_7 : decode cL_does 7 = .ok (.istore_n 3, 1) := by decide +kernel
theorem dL_does_8 : decode cL_does 8 = .ok (.iload_n 1, 1) := by decide +kernel
theorem dL_does_9 : decode cL_does 9 = .ok (.sipush 128, 3) := by decide +kernel
theorem dL_does_12 : decode cL_does 12 = .ok (.idiv, 1) := by decide +kernel
theorem dL_does_13 : decode cL_does 13 = .ok (.bipush 8, 2) := by decide +kernel
theorem dL_does_15 : decode cL_does 15 = .ok (.irem, 1) := by decide +kernel
theorem dL_does_16 : decode cL_does 16 = .ok (.istore 4, 2) := by decide +kernel
theorem dL_does_18 : decode cL_does 18 = .ok (.aload_n 0, 1) := by decide +kernel
theorem dL_does_19 : decode cL_does 19 = .ok (.invokevirtual 48, 3) := by decide +kernel
theorem dL_does_22 : decode cL_does 22 = .ok (.ifCond .ne 7, 3) := by decide +kernel
theorem dL_does_25 : decode cL_does 25 = .ok (.iconst (-1), 1) := by decide +kernel
theorem dL_does_26 : decode cL_does 26 = .ok (.goto 9, 3) := by decide +kernel
theorem dL_does_29 : decode cL_does 29 = .ok (.iload_n 2, 1) := by decide +kernel
theorem dL_does_30 : decode cL_does 30 = .ok (.aload_n 0, 1) := by decide +kernel
theorem dL_does_31 : decode cL_does 31 = .ok (.invokevirtual 48, 3) := by decide +kernel
theorem dL_does_34 : decode cL_does 34 = .ok (.irem, 1) := by decide +kernel
theorem dL_does_35 : decode cL_does 35 = .ok (.istore 5, 2) := by decide +kernel
theorem dL_does_37 : decode cL_does 37 = .ok (.iload_n 1, 1) := by decide +kernel
theorem dL_does_38 : decode cL_does 38 = .ok (.bipush 8, 2) := by decide +kernel
theorem dL_does_40 : decode cL_does 40 = .ok (.irem, 1) := by decide +kernel
theorem dL_does_41 : decode cL_does 41 = .ok (.tableswitch 409 0 4 #[35, 97, 173, 238, 353], 35) := by decide +kernel
theorem dL_does_76 : decode cL_does 76 = .ok (.iload_n 3, 1) := by decide +kernel
theorem dL_does_77 : decode cL_does 77 = .ok (.iload 4, 2) := by decide +kernel
theorem dL_does_79 : decode cL_does 79 = .ok (.if_icmp .eq 57, 3) := by decide +kernel
theorem dL_does_82 : decode cL_does 82 = .ok (.aload_n 0, 1) := by decide +kernel
theorem dL_does_83 : decode cL_does 83 = .ok (.iload_n 3, 1) := by decide +kernel
theorem dL_does_84 : decode cL_does 84 = .ok (.iload 4, 2) := by decide +kernel
theorem dL_does_86 : decode cL_does 86 = .ok (.invokevirtual 32, 3) := by decide +kernel
theorem dL_does_89 : decode cL_does 89 = .ok (.ifCond .eq 47, 3) := by decide +kernel
theorem dL_does_92 : decode cL_does 92 = .ok (.aload_n 0, 1) := by decide +kernel
theorem dL_does_93 : decode cL_does 93 = .ok (.iload 4, 2) := by decide +kernel
theorem dL_does_95 : decode cL_does 95 = .ok (.invokevirtual 55, 3) := by decide +kernel
theorem dL_does_98 : decode cL_does 98 = .ok (.istore 6, 2) := by decide +kernel
theorem dL_does_100 : decode cL_does 100 = .ok (.iload_n 2, 1) := by decide +kernel
theorem dL_does_101 : decode cL_does 101 = .ok (.iconst 3, 1) := by decide +kernel
theorem dL_does_102 : decode cL_does 102 = .ok (.irem, 1) := by decide +kernel
theorem dL_does_103 : decode cL_does 103 = .ok (.ifCond .gt 27, 3) := by decide +kernel
theorem dL_does_106 : decode cL_does 106 = .ok (.aload_n 0, 1) := by decide +kernel
theorem dL_does_107 : decode cL_does 107 = .ok (.iload_n 3, 1) := by decide +kernel
theorem dL_does_108 : decode cL_does 108 = .ok (.iload 4, 2) := by decide +kernel
theorem dL_does_110 : decode cL_does 110 = .ok (.invokevirtual 58, 3) := by decide +kernel
theorem dL_does_113 : decode cL_does 113 = .ok (.iload 6, 2) := by decide +kernel
theorem dL_does_115 : decode cL_does 115 = .ok (.iconst 1, 1) := by decide +kernel
theorem dL_does_116 : decode cL_does 116 = .ok (.isub, 1) := by decide +kernel
theorem dL_does_117 : decode cL_does 117 = .ok (.if_icmp .ne 17, 3) := by decide +kernel
theorem dL_does_120 : decode cL_does 120 = .ok (.aload_n 0, 1) := by decide +kernel
theorem dL_does_121 : decode cL_does 121 = .ok (.iload_n 3, 1) := by decide +kernel
theorem dL_does_122 : decode cL_does 122 = .ok (.iload 4, 2) := by decide +kernel
theorem dL_does_124 : decode cL_does 124 = .ok (.invokevirtual 32, 3) := by decide +kernel
theorem dL_does_127 : decode cL_does 127 = .ok (.ifCond .ne 7, 3) := by decide +kernel
theorem dL_does_130 : decode cL_does 130 = .ok (.iconst 1, 1) := by decide +kernel
theorem dL_does_131 : decode cL_does 131 = .ok (.goto 4, 3) := by decide +kernel
theorem dL_does_134 : decode cL_does 134 = .ok (.iconst 0, 1) := by decide +kernel
theorem dL_does_135 : decode cL_does 135 = .ok (.ireturn, 1) := by decide +kernel
theorem dL_does_136 : decode cL_does 136 = .ok (.iconst 1, 1) := by decide +kernel
theorem dL_does_137 : decode cL_does 137 = .ok (.ireturn, 1) := by decide +kernel
theorem dL_does_138 : decode cL_does 138 = .ok (.iload_n 3, 1) := by decide +kernel
theorem dL_does_139 : decode cL_does 139 = .ok (.iload 4, 2) := by decide +kernel
theorem dL_does_141 : decode cL_does 141 = .ok (.if_icmp .eq 71, 3) := by decide +kernel
theorem dL_does_144 : decode cL_does 144 = .ok (.iload_n 2, 1) := by decide +kernel
theorem dL_does_145 : decode cL_does 145 = .ok (.iconst 4, 1) := by decide +kernel
theorem dL_does_146 : decode cL_does 146 = .ok (.irem, 1) := by decide +kernel
theorem dL_does_147 : decode cL_does 147 = .ok (.ifCond .ne 7, 3) := by decide +kernel
theorem dL_does_150 : decode cL_does 150 = .ok (.iconst 1, 1) := by decide +kernel
theorem dL_does_151 : decode cL_does 151 = .ok (.goto 4, 3) := by decide +kernel
theorem dL_does_154 : decode cL_does 154 = .ok (.iconst 0, 1) := by decide +kernel
theorem dL_does_155 : decode cL_does 155 = .ok (.istore 6, 2) := by decide +kernel
theorem dL_does_157 : decode cL_does 157 = .ok (.aload_n 0, 1) := by decide +kernel
theorem dL_does_158 : decode cL_does 158 = .ok (.iload 4, 2) := by decide +kernel
theorem dL_does_160 : decode cL_does 160 = .ok (.iload_n 3, 1) := by decide +kernel
theorem dL_does_161 : decode cL_does 161 = .ok (.iload 6, 2) := by decide +kernel
theorem dL_does_163 : decode cL_does 163 = .ok (.invokevirtual 61, 3) := by decide +kernel
theorem dL_does_166 : decode cL_does 166 = .ok (.pop, 1) := by decide +kernel
theorem dL_does_167 : decode cL_does 167 = .ok (.aload_n 0, 1) := by decide +kernel
theorem dL_does_168 : decode cL_does 168 = .ok (.iload 4, 2) := by decide +kernel
theorem dL_does_170 : decode cL_does 170 = .ok (.iload_n 3, 1) := by decide +kernel
theorem dL_does_171 : decode cL_does 171 = .ok (.iload 6, 2) := by decide +kernel
theorem dL_does_173 : decode cL_does 173 = .ok (.invokevirtual 61, 3) := by decide +kernel
theorem dL_does_176 : decode cL_does 176 = .ok (.iload 6, 2) := by decide +kernel
theorem dL_does_178 : decode cL_does 178 = .ok (.if_icmp .ne 32, 3) := by decide +kernel
theorem dL_does_181 : decode cL_does 181 = .ok (.iload 6, 2) := by decide +kernel
theorem dL_does_183 : decode cL_does 183 = .ok (.ifCond .eq 23, 3) := by decide +kernel
theorem dL_does_186 : decode cL_does 186 = .ok (.aload_n 0, 1) := by decide +kernel
theorem dL_does_187 : decode cL_does 187 = .ok (.iload_n 3, 1) := by decide +kernel
theorem dL_does_188 : decode cL_does 188 = .ok (.iload 4, 2) := by decide +kernel
theorem dL_does_190 : decode cL_does 190 = .ok (.invokevirtual 32, 3) := by decide +kernel
theorem dL_does_193 : decode cL_does 193 = .ok (.ifCond .ne 17, 3) := by decide +kernel
theorem dL_does_196 : decode cL_does 196 = .ok (.aload_n 0, 1) := by decide +kernel
theorem dL_does_197 : decode cL_does 197 = .ok (.iload 4, 2) := by decide +kernel
theorem dL_does_199 : decode cL_does 199 = .ok (.iload_n 3, 1) := by decide +kernel
theorem dL_does_200 : decode cL_does 200 = .ok (.invokevirtual 32, 3) := by decide +kernel
theorem dL_does_203 : decode cL_does 203 = .ok (.ifCond .ne 7, 3) := by decide +kernel
theorem dL_does_206 : decode cL_does 206 = .ok (.iconst 1, 1) := by decide +kernel
theorem dL_does_207 : decode cL_does 207 = .ok (.goto 4, 3) := by decide +kernel
theorem dL_does_210 : decode cL_does 210 = .ok (.iconst 0, 1) := by decide +kernel
theorem dL_does_211 : decode cL_does 211 = .ok (.ireturn, 1) := by decide +kernel
theorem dL_does_212 : decode cL_does 212 = .ok (.iconst 1, 1) := by decide +kernel
theorem dL_does_213 : decode cL_does 213 = .ok (.ireturn, 1) := by decide +kernel
theorem dL_does_214 : decode cL_does 214 = .ok (.iload_n 3, 1) := by decide +kernel
theorem dL_does_215 : decode cL_does 215 = .ok (.iload 4, 2) := by decide +kernel
theorem dL_does_217 : decode cL_does 217 = .ok (.if_icmp .eq 60, 3) := by decide +kernel
theorem dL_does_220 : decode cL_does 220 = .ok (.aload_n 0, 1) := by decide +kernel
theorem dL_does_221 : decode cL_does 221 = .ok (.iload_n 3, 1) := by decide +kernel
theorem dL_does_222 : decode cL_does 222 = .ok (.iload 4, 2) := by decide +kernel
theorem dL_does_224 : decode cL_does 224 = .ok (.iload_n 2, 1) := by decide +kernel
theorem dL_does_225 : decode cL_does 225 = .ok (.iconst 3, 1) := by decide +kernel
theorem dL_does_226 : decode cL_does 226 = .ok (.irem, 1) := by decide +kernel
theorem dL_does_227 : decode cL_does 227 = .ok (.ifCond .ne 7, 3) := by decide +kernel
theorem dL_does_230 : decode cL_does 230 = .ok (.iconst 1, 1) := by decide +kernel
theorem dL_does_231 : decode cL_does 231 = .ok (.goto 4, 3) := by decide +kernel
theorem dL_does_234 : decode cL_does 234 = .ok (.iconst 0, 1) := by decide +kernel
theorem dL_does_235 : decode cL_does 235 = .ok (.invokevirtual 65, 3) := by decide +kernel
theorem dL_does_238 : decode cL_does 238 = .ok (.pop, 1) := by decide +kernel
theorem dL_does_239 : decode cL_does 239 = .ok (.aload_n 0, 1) := by decide +kernel
theorem dL_does_240 : decode cL_does 240 = .ok (.iload_n 3, 1) := by decide +kernel
theorem dL_does_241 : decode cL_does 241 = .ok (.iload 4, 2) := by decide +kernel
theorem dL_does_243 : decode cL_does 243 = .ok (.iload_n 2, 1) := by decide +kernel
theorem dL_does_244 : decode cL_does 244 = .ok (.iconst 3, 1) := by decide +kernel
theorem dL_does_245 : decode cL_does 245 = .ok (.irem, 1) := by decide +kernel
theorem dL_does_246 : decode cL_does 246 = .ok (.ifCond .ne 7, 3) := by decide +kernel
theorem dL_does_249 : decode cL_does 249 = .ok (.iconst 1, 1) := by decide +kernel
theorem dL_does_250 : decode cL_does 250 = .ok (.goto 4, 3) := by decide +kernel
theorem dL_does_253 : decode cL_does 253 = .ok (.iconst 0, 1) := by decide +kernel
theorem dL_does_254 : decode cL_does 254 = .ok (.invokevirtual 65, 3) := by decide +kernel
theorem dL_does_257 : decode cL_does 257 = .ok (.iload_n 2, 1) := by decide +kernel
theorem dL_does_258 : decode cL_does 258 = .ok (.iconst 3, 1) := by decide +kernel
theorem dL_does_259 : decode cL_does 259 = .ok (.irem, 1) := by decide +kernel
theorem dL_does_260 : decode cL_does 260 = .ok (.ifCond .ne 7, 3) := by decide +kernel
theorem dL_does_263 : decode cL_does 263 = .ok (.iconst 1, 1) := by decide +kernel
theorem dL_does_264 : decode cL_does 264 = .ok (.goto 4, 3) := by decide +kernel
theorem dL_does_267 : decode cL_does 267 = .ok (.iconst 0, 1) := by decide +kernel
theorem dL_does_268 : decode cL_does 268 = .ok (.if_icmp .ne 7, 3) := by decide +kernel
theorem dL_does_271 : decode cL_does 271 = .ok (.iconst 1, 1) := by decide +kernel
theorem dL_does_272 : decode cL_does 272 = .ok (.goto 4, 3) := by decide +kernel
theorem dL_does_275 : decode cL_does 275 = .ok (.iconst 0, 1) := by decide +kernel
theorem dL_does_276 : decode cL_does 276 = .ok (.ireturn, 1) := by decide +kernel
theorem dL_does_277 : decode cL_does 277 = .ok (.iconst 1, 1) := by decide +kernel
theorem dL_does_278 : decode cL_does 278 = .ok (.ireturn, 1) := by decide +kernel
theorem dL_does_279 : decode cL_does 279 = .ok (.iload 5, 2) := by decide +kernel
theorem dL_does_281 : decode cL_does 281 = .ok (.ifCond .lt 111, 3) := by decide +kernel
theorem dL_does_284 : decode cL_does 284 = .ok (.aload_n 0, 1) := by decide +kernel
theorem dL_does_285 : decode cL_does 285 = .ok (.invokevirtual 48, 3) := by decide +kernel
theorem dL_does_288 : decode cL_does 288 = .ok (.sipush 150, 3) := by decide +kernel
theorem dL_does_291 : decode cL_does 291 = .ok (.if_icmp .ge 101, 3) := by decide +kernel
theorem dL_does_294 : decode cL_does 294 = .ok (.aload_n 0, 1) := by decide +kernel
theorem dL_does_295 : decode cL_does 295 = .ok (.iload_n 3, 1) := by decide +kernel
theorem dL_does_296 : decode cL_does 296 = .ok (.iload 5, 2) := by decide +kernel
theorem dL_does_298 : decode cL_does 298 = .ok (.invokevirtual 25, 3) := by decide +kernel
theorem dL_does_301 : decode cL_does 301 = .ok (.ifCond .eq 91, 3) := by decide +kernel
theorem dL_does_304 : decode cL_does 304 = .ok (.aload_n 0, 1) := by decide +kernel
theorem dL_does_305 : decode cL_does 305 = .ok (.iload_n 3, 1) := by decide +kernel
theorem dL_does_306 : decode cL_does 306 = .ok (.iload 5, 2) := by decide +kernel
theorem dL_does_308 : decode cL_does 308 = .ok (.invokevirtual 68, 3) := by decide +kernel
theorem dL_does_311 : decode cL_does 311 = .ok (.istore 6, 2) := by decide +kernel
theorem dL_does_313 : decode cL_does 313 = .ok (.iload 6, 2) := by decide +kernel
theorem dL_does_315 : decode cL_does 315 = .ok (.aload_n 0, 1) := by decide +kernel
theorem dL_does_316 : decode cL_does 316 = .ok (.invokevirtual 48, 3) := by decide +kernel
theorem dL_does_319 : decode cL_does 319 = .ok (.iconst 1, 1) := by decide +kernel
theorem dL_does_320 : decode cL_does 320 = .ok (.isub, 1) := by decide +kernel
theorem dL_does_321 : decode cL_does 321 = .ok (.if_icmp .ne 32, 3) := by decide +kernel
theorem dL_does_324 : decode cL_does 324 = .ok (.aload_n 0, 1) := by decide +kernel
theorem dL_does_325 : decode cL_does 325 = .ok (.iload 6, 2) := by decide +kernel
theorem dL_does_327 : decode cL_does 327 = .ok (.invokevirtual 71, 3) := by decide +kernel
theorem dL_does_330 : decode cL_does 330 = .ok (.aload_n 0, 1) := by decide +kernel
theorem dL_does_331 : decode cL_does 331 = .ok (.iload 5, 2) := by decide +kernel
theorem dL_does_333 : decode cL_does 333 = .ok (.invokevirtual 71, 3) := by decide +kernel
theorem dL_does_336 : decode cL_does 336 = .ok (.if_icmp .ne 17, 3) := by decide +kernel
theorem dL_does_339 : decode cL_does 339 = .ok (.aload_n 0, 1) := by decide +kernel
theorem dL_does_340 : decode cL_does 340 = .ok (.iload_n 3, 1) := by decide +kernel
theorem dL_does_341 : decode cL_does 341 = .ok (.iload 5, 2) := by decide +kernel
theorem dL_does_343 : decode cL_does 343 = .ok (.invokevirtual 25, 3) := by decide +kernel
theorem dL_does_346 : decode cL_does 346 = .ok (.ifCond .eq 7, 3) := by decide +kernel
theorem dL_does_349 : decode cL_does 349 = .ok (.iconst 1, 1) := by decide +kernel
theorem dL_does_350 : decode cL_does 350 = .ok (.goto 4, 3) := by decide +kernel
theorem dL_does_353 : decode cL_does 353 = .ok (.iconst 0, 1) := by decide +kernel
theorem dL_does_354 : decode cL_does 354 = .ok (.istore 7, 2) := by decide +kernel
theorem dL_does_356 : decode cL_does 356 = .ok (.iload 7, 2) := by decide +kernel
theorem dL_does_358 : decode cL_does 358 = .ok (.ifCond .eq 32, 3) := by decide +kernel
theorem dL_does_361 : decode cL_does 361 = .ok (.iload_n 2, 1) := by decide +kernel
theorem dL_does_362 : decode cL_does 362 = .ok (.iconst 4, 1) := by decide +kernel
theorem dL_does_363 : decode cL_does 363 = .ok (.irem, 1) := by decide +kernel
theorem dL_does_364 : decode cL_does 364 = .ok (.ifCond .gt 22, 3) := by decide +kernel
theorem dL_does_367 : decode cL_does 367 = .ok (.aload_n 0, 1) := by decide +kernel
theorem dL_does_368 : decode cL_does 368 = .ok (.iload 5, 2) := by decide +kernel
theorem dL_does_370 : decode cL_does 370 = .ok (.invokevirtual 74, 3) := by decide +kernel
theorem dL_does_373 : decode cL_does 373 = .ok (.ifCond .lt 17, 3) := by decide +kernel
theorem dL_does_376 : decode cL_does 376 = .ok (.aload_n 0, 1) := by decide +kernel
theorem dL_does_377 : decode cL_does 377 = .ok (.iload_n 3, 1) := by decide +kernel
theorem dL_does_378 : decode cL_does 378 = .ok (.iload 5, 2) := by decide +kernel
theorem dL_does_380 : decode cL_does 380 = .ok (.invokevirtual 25, 3) := by decide +kernel
theorem dL_does_383 : decode cL_does 383 = .ok (.ifCond .ne 7, 3) := by decide +kernel
theorem dL_does_386 : decode cL_does 386 = .ok (.iconst 1, 1) := by decide +kernel
theorem dL_does_387 : decode cL_does 387 = .ok (.goto 4, 3) := by decide +kernel
theorem dL_does_390 : decode cL_does 390 = .ok (.iconst 0, 1) := by decide +kernel
theorem dL_does_391 : decode cL_does 391 = .ok (.ireturn, 1) := by decide +kernel
theorem dL_does_392 : decode cL_does 392 = .ok (.iconst 1, 1) := by decide +kernel
theorem dL_does_393 : decode cL_does 393 = .ok (.ireturn, 1) := by decide +kernel
theorem dL_does_394 : decode cL_does 394 = .ok (.aload_n 0, 1) := by decide +kernel
theorem dL_does_395 : decode cL_does 395 = .ok (.iload_n 2, 1) := by decide +kernel
theorem dL_does_396 : decode cL_does 396 = .ok (.bipush 9, 2) := by decide +kernel
theorem dL_does_398 : decode cL_does 398 = .ok (.irem, 1) := by decide +kernel
theorem dL_does_399 : decode cL_does 399 = .ok (.invokevirtual 77, 3) := by decide +kernel
theorem dL_does_402 : decode cL_does 402 = .ok (.istore 6, 2) := by decide +kernel
theorem dL_does_404 : decode cL_does 404 = .ok (.iconst 0, 1) := by decide +kernel
theorem dL_does_405 : decode cL_does 405 = .ok (.istore 7, 2) := by decide +kernel
theorem dL_does_407 : decode cL_does 407 = .ok (.iload 7, 2) := by decide +kernel
theorem dL_does_409 : decode cL_does 409 = .ok (.bipush 8, 2) := by decide +kernel
theorem dL_does_411 : decode cL_does 411 = .ok (.if_icmp .ge 28, 3) := by decide +kernel
theorem dL_does_414 : decode cL_does 414 = .ok (.iload 6, 2) := by decide +kernel
theorem dL_does_416 : decode cL_does 416 = .ok (.aload_n 0, 1) := by decide +kernel
theorem dL_does_417 : decode cL_does 417 = .ok (.iload 7, 2) := by decide +kernel
theorem dL_does_419 : decode cL_does 419 = .ok (.invokevirtual 52, 3) := by decide +kernel
theorem dL_does_422 : decode cL_does 422 = .ok (.ifCond .eq 7, 3) := by decide +kernel
theorem dL_does_425 : decode cL_does 425 = .ok (.iconst 1, 1) := by decide +kernel
theorem dL_does_426 : decode cL_does 426 = .ok (.goto 4, 3) := by decide +kernel
theorem dL_does_429 : decode cL_does 429 = .ok (.iconst 0, 1) := by decide +kernel
theorem dL_does_430 : decode cL_does 430 = .ok (.isub, 1) := by decide +kernel
theorem dL_does_431 : decode cL_does 431 = .ok (.istore 6, 2) := by decide +kernel
theorem dL_does_433 : decode cL_does 433 = .ok (.iinc 7 1, 3) := by decide +kernel
theorem dL_does_436 : decode cL_does 436 = .ok (.goto (-29), 3) := by decide +kernel
theorem dL_does_439 : decode cL_does 439 = .ok (.iload 6, 2) := by decide +kernel
theorem dL_does_441 : decode cL_does 441 = .ok (.ifCond .ne 7, 3) := by decide +kernel
theorem dL_does_444 : decode cL_does 444 = .ok (.iconst 1, 1) := by decide +kernel
theorem dL_does_445 : decode cL_does 445 = .ok (.goto 4, 3) := by decide +kernel
theorem dL_does_448 : decode cL_does 448 = .ok (.iconst 0, 1) := by decide +kernel
theorem dL_does_449 : decode cL_does 449 = .ok (.ireturn, 1) := by decide +kernel
theorem dL_does_450 : decode cL_does 450 = .ok (.aload_n 0, 1) := by decide +kernel
theorem dL_does_451 : decode cL_does 451 = .ok (.invokevirtual 48, 3) := by decide +kernel
theorem dL_does_454 : decode cL_does 454 = .ok (.sipush 150, 3) := by decide +kernel
theorem dL_does_457 : decode cL_does 457 = .ok (.if_icmp .ge 58, 3) := by decide +kernel
theorem dL_does_460 : decode cL_does 460 = .ok (.aload_n 0, 1) := by decide +kernel
theorem dL_does_461 : decode cL_does 461 = .ok (.iload_n 3, 1) := by decide +kernel
theorem dL_does_462 : decode cL_does 462 = .ok (.invokevirtual 80, 3) := by decide +kernel
theorem dL_does_465 : decode cL_does 465 = .ok (.istore 7, 2) := by decide +kernel
theorem dL_does_467 : decode cL_does 467 = .ok (.iload 7, 2) := by decide +kernel
theorem dL_does_469 : decode cL_does 469 = .ok (.aload_n 0, 1) := by decide +kernel
theorem dL_does_470 : decode cL_does 470 = .ok (.invokevirtual 48, 3) := by decide +kernel
theorem dL_does_473 : decode cL_does 473 = .ok (.iconst 1, 1) := by decide +kernel
theorem dL_does_474 : decode cL_does 474 = .ok (.isub, 1) := by decide +kernel
theorem dL_does_475 : decode cL_does 475 = .ok (.if_icmp .ne 38, 3) := by decide +kernel
theorem dL_does_478 : decode cL_does 478 = .ok (.aload_n 0, 1) := by decide +kernel
theorem dL_does_479 : decode cL_does 479 = .ok (.iload 7, 2) := by decide +kernel
theorem dL_does_481 : decode cL_does 481 = .ok (.invokevirtual 29, 3) := by decide +kernel
theorem dL_does_484 : decode cL_does 484 = .ok (.iload_n 3, 1) := by decide +kernel
theorem dL_does_485 : decode cL_does 485 = .ok (.if_icmp .ne 28, 3) := by decide +kernel
theorem dL_does_488 : decode cL_does 488 = .ok (.aload_n 0, 1) := by decide +kernel
theorem dL_does_489 : decode cL_does 489 = .ok (.iload 7, 2) := by decide +kernel
theorem dL_does_491 : decode cL_does 491 = .ok (.invokevirtual 71, 3) := by decide +kernel
theorem dL_does_494 : decode cL_does 494 = .ok (.iload 7, 2) := by decide +kernel
theorem dL_does_496 : decode cL_does 496 = .ok (.if_icmp .ne 17, 3) := by decide +kernel
theorem dL_does_499 : decode cL_does 499 = .ok (.aload_n 0, 1) := by decide +kernel
theorem dL_does_500 : decode cL_does 500 = .ok (.iload_n 3, 1) := by decide +kernel
theorem dL_does_501 : decode cL_does 501 = .ok (.iload 7, 2) := by decide +kernel
theorem dL_does_503 : decode cL_does 503 = .ok (.invokevirtual 25, 3) := by decide +kernel
theorem dL_does_506 : decode cL_does 506 = .ok (.ifCond .ne 7, 3) := by decide +kernel
theorem dL_does_509 : decode cL_does 509 = .ok (.iconst 1, 1) := by decide +kernel
theorem dL_does_510 : decode cL_does 510 = .ok (.goto 4, 3) := by decide +kernel
theorem dL_does_513 : decode cL_does 513 = .ok (.iconst 0, 1) := by decide +kernel
theorem dL_does_514 : decode cL_does 514 = .ok (.ireturn, 1) := by decide +kernel
theorem dL_does_515 : decode cL_does 515 = .ok (.iconst 1, 1) := by decide +kernel
theorem dL_does_516 : decode cL_does 516 = .ok (.ireturn, 1) := by decide +kernel
