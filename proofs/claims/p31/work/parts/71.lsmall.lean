/-! names of the law's calls and rows: 15b.lsmall -/
theorem dL_cell_0 : decode cL_cell 0 = .ok (.iload_n 1, 1) := by decide +kernel
theorem dL_cell_1 : decode cL_cell 1 = .ok (.aload_n 0, 1) := by decide +kernel
theorem dL_cell_2 : decode cL_cell 2 = .ok (.arraylength, 1) := by decide +kernel
theorem dL_cell_3 : decode cL_cell 3 = .ok (.if_icmp .ge 9, 3) := by decide +kernel
theorem dL_cell_6 : decode cL_cell 6 = .ok (.aload_n 0, 1) := by decide +kernel
theorem dL_cell_7 : decode cL_cell 7 = .ok (.iload_n 1, 1) := by decide +kernel
theorem dL_cell_8 : decode cL_cell 8 = .ok (.iaload, 1) := by decide +kernel
theorem dL_cell_9 : decode cL_cell 9 = .ok (.goto 10, 3) := by decide +kernel
theorem dL_cell_12 : decode cL_cell 12 = .ok (.ldc 7, 2) := by decide +kernel
theorem dL_cell_14 : decode cL_cell 14 = .ok (.iload_n 1, 1) := by decide +kernel
theorem dL_cell_15 : decode cL_cell 15 = .ok (.bipush 8, 2) := by decide +kernel
theorem dL_cell_17 : decode cL_cell 17 = .ok (.iadd, 1) := by decide +kernel
theorem dL_cell_18 : decode cL_cell 18 = .ok (.imul, 1) := by decide +kernel
theorem dL_cell_19 : decode cL_cell 19 = .ok (.ireturn, 1) := by decide +kernel
theorem dL_low_0 : decode cL_low 0 = .ok (.iload_n 0, 1) := by decide +kernel
theorem dL_low_1 : decode cL_low 1 = .ok (.iconst 1, 1) := by decide +kernel
theorem dL_low_2 : decode cL_low 2 = .ok (.iushr, 1) := by decide +kernel
theorem dL_low_3 : decode cL_low 3 = .ok (.iload_n 1, 1) := by decide +kernel
theorem dL_low_4 : decode cL_low 4 = .ok (.irem, 1) := by decide +kernel
theorem dL_low_5 : decode cL_low 5 = .ok (.ireturn, 1) := by decide +kernel
set_option maxRecDepth 20000 in
theorem ggL_addTender_X8_addTender : GoodIn wsL_addTender wsX8_addTender := goodIn_ca (goodIn_ca (goodIn_r _ [7, 8, 9, 10, 11, 12, 13, 14, 15, 16, 17, 18, 6, 19, 20, 21, 22, 23, 24, 25, 26, 27, 28, 29, 30, 31, 32, 33, 34, 35, 36, 37, 38, 39, 40, 41, 42, 43, 44, 45, 46, 47, 48, 49, 50, 51, 52, 53, 54, 55, 56, 57, 58, 59, 60, 61, 62, 63, 64, 65, 66, 67, 68, 69, 70, 71, 72, 73, 74, 75, 76, 77, 78, 79, 80, 81, 82, 83, 84, 85, 86, 87, 88, 89, 90, 91, 92, 93, 94, 95, 96, 97, 98, 99, 100, 101, 102, 103, 104, 105, 106, 107, 108, 109, 110, 111, 112, 113, 114, 115, 116, 117, 118, 119, 120, 121] (by decide +kernel) (by decide +kernel)) (goodIn_sub (fun _ h => List.mem_cons_of_mem _ (List.mem_append_left _ (List.mem_append_right _ h))) (by decide +kernel))) (goodIn_sub (fun _ h => List.mem_cons_of_mem _ (List.mem_append_right _ h)) (by decide +kernel))
set_option maxRecDepth 20000 in
theorem gL_addTender_X8_addTender : GoodIn wsL_addTender (wsV RL 8 RX8 yX8_addTender wsX8_addTender) := goodIn_app (goodIn_of _ (by decide +kernel)) ggL_addTender_X8_addTender
theorem dL_addTender_0 : decode cL_addTender 0 = .ok (.aload_n 0, 1) := by decide +kernel
theorem dL_addTender_1 : decode cL_addTender 1 = .ok (.iload_n 1, 1) := by decide +kernel
theorem dL_addTender_2 : decode cL_addTender 2 = .ok (.iload_n 2, 1) := by decide +kernel
theorem dL_addTender_3 : decode cL_addTender 3 = .ok (.iload_n 3, 1) := by decide +kernel
theorem dL_addTender_4 : decode cL_addTender 4 = .ok (.iload 4, 2) := by decide +kernel
theorem dL_addTender_6 : decode cL_addTender 6 = .ok (.invokevirtual 8, 3) := by decide +kernel
theorem dL_addTender_9 : decode cL_addTender 9 = .ok (.istore 5, 2) := by decide +kernel
theorem dL_addTender_11 : decode cL_addTender 11 = .ok (.goto 15, 3) := by decide +kernel
theorem dL_addTender_14 : decode cL_addTender 14 = .ok (.astore 6, 2) := by decide +kernel
theorem dL_addTender_16 : decode cL_addTender 16 = .ok (.sipush (-7200), 3) := by decide +kernel
theorem dL_addTender_19 : decode cL_addTender 19 = .ok (.ireturn, 1) := by decide +kernel
theorem dL_addTender_20 : decode cL_addTender 20 = .ok (.astore 6, 2) := by decide +kernel
theorem dL_addTender_22 : decode cL_addTender 22 = .ok (.sipush (-7300), 3) := by decide +kernel
theorem dL_addTender_25 : decode cL_addTender 25 = .ok (.ireturn, 1) := by decide +kernel
theorem dL_addTender_26 : decode cL_addTender 26 = .ok (.iload 5, 2) := by decide +kernel
theorem dL_addTender_28 : decode cL_addTender 28 = .ok (.ireturn, 1) := by decide +kernel
set_option maxRecDepth 20000 in
theorem ggL_addLot_X8_addLot : GoodIn wsL_addLot wsX8_addLot := goodIn_ca (goodIn_ca (goodIn_ca (goodIn_r _ [8, 9, 10, 11, 12, 13, 14, 15, 16, 17, 18, 19, 7, 20, 21, 22, 23, 24, 25, 26, 27, 28, 29, 30, 31, 32, 33, 34, 35, 36, 37, 38, 39, 40, 41, 42, 43, 44, 45, 46, 47, 48, 49, 50, 51, 52, 53, 54, 55, 56, 57, 58, 59, 60, 61, 62, 63, 64, 65, 66, 67, 68, 69, 70, 71, 72, 73, 74, 75, 76, 77, 78, 79, 80, 81, 82, 83, 84, 85, 86, 87, 88, 89, 90, 91, 92, 93, 94, 95, 96, 97, 98, 99, 100, 101, 102, 103, 104, 105, 106, 107, 108, 109, 110, 111, 112, 113, 114, 115, 116, 117, 118, 119, 120, 121, 122, 123, 124, 125, 126, 127, 128, 129, 130, 131, 132, 133, 134, 135, 136, 137, 138, 139, 140, 141, 142, 143, 144, 145, 146, 147, 148, 149, 150, 151, 152, 153, 154, 155] (by decide +kernel) (by decide +kernel)) (goodIn_sub (fun _ h => List.mem_cons_of_mem _ (List.mem_append_left _ (List.mem_append_left _ (List.mem_append_right _ h)))) (by decide +kernel))) (goodIn_sub (fun _ h => List.mem_cons_of_mem _ (List.mem_append_left _ (List.mem_append_right _ h))) (by decide +kernel))) (goodIn_sub (fun _ h => List.mem_cons_of_mem _ (List.mem_append_right _ h)) (by decide +kernel))
set_option maxRecDepth 20000 in
theorem gL_addLot_X8_addLot : GoodIn wsL_addLot (wsV RL 18 RX8 yX8_addLot wsX8_addLot) := goodIn_app (goodIn_of _ (by decide +kernel)) ggL_addLot_X8_addLot
theorem dL_addLot_0 : decode cL_addLot 0 = .ok (.aload_n 0, 1) := by decide +kernel
theorem dL_addLot_1 : decode cL_addLot 1 = .ok (.iload_n 1, 1) := by decide +kernel
theorem dL_addLot_2 : decode cL_addLot 2 = .ok (.iload_n 2, 1) := by decide +kernel
theorem dL_addLot_3 : decode cL_addLot 3 = .ok (.invokevirtual 18, 3) := by decide +kernel
theorem dL_addLot_6 : decode cL_addLot 6 = .ok (.istore_n 3, 1) := by decide +kernel
theorem dL_addLot_7 : decode cL_addLot 7 = .ok (.goto 21, 3) := by decide +kernel
theorem dL_addLot_10 : decode cL_addLot 10 = .ok (.astore 4, 2) := by decide +kernel
theorem dL_addLot_12 : decode cL_addLot 12 = .ok (.sipush (-7100), 3) := by decide +kernel
theorem dL_addLot_15 : decode cL_addLot 15 = .ok (.ireturn, 1) := by decide +kernel
theorem dL_addLot_16 : decode cL_addLot 16 = .ok (.astore 4, 2) := by decide +kernel
theorem dL_addLot_18 : decode cL_addLot 18 = .ok (.sipush (-7200), 3) := by decide +kernel
theorem dL_addLot_21 : decode cL_addLot 21 = .ok (.ireturn, 1) := by decide +kernel
theorem dL_addLot_22 : decode cL_addLot 22 = .ok (.astore 4, 2) := by decide +kernel
theorem dL_addLot_24 : decode cL_addLot 24 = .ok (.sipush (-7300), 3) := by decide +kernel
theorem dL_addLot_27 : decode cL_addLot 27 = .ok (.ireturn, 1) := by decide +kernel
theorem dL_addLot_28 : decode cL_addLot 28 = .ok (.iload_n 3, 1) := by decide +kernel
theorem dL_addLot_29 : decode cL_addLot 29 = .ok (.ireturn, 1) := by decide +kernel
set_option maxRecDepth 20000 in
theorem ggL_paper_X8_paper : GoodIn wsL_paper wsX8_paper := goodIn_ca (goodIn_ca (goodIn_r _ [7, 8, 9, 10, 11, 12, 13, 14, 6, 15, 16, 17, 18, 19, 20, 21, 22, 23, 24] (by decide +kernel) (by decide +kernel)) (goodIn_sub (fun _ h => List.mem_cons_of_mem _ (List.mem_append_left _ (List.mem_append_right _ h))) (by decide +kernel))) (goodIn_sub (fun _ h => List.mem_cons_of_mem _ (List.mem_append_right _ h)) (by decide +kernel))
set_option maxRecDepth 20000 in
theorem gL_paper_X8_paper : GoodIn wsL_paper (wsV RL 24 RX8 yX8_paper wsX8_paper) := goodIn_app (goodIn_of _ (by decide +kernel)) ggL_paper_X8_paper
theorem dL_paper_0 : decode cL_paper 0 = .ok (.aload_n 0, 1) := by decide +kernel
theorem dL_paper_1 : decode cL_paper 1 = .ok (.iload_n 1, 1) := by decide +kernel
theorem dL_paper_2 : decode cL_paper 2 = .ok (.iload_n 2, 1) := by decide +kernel
theorem dL_paper_3 : decode cL_paper 3 = .ok (.iload_n 3, 1) := by decide +kernel
theorem dL_paper_4 : decode cL_paper 4 = .ok (.invokevirtual 24, 3) := by decide +kernel
theorem dL_paper_7 : decode cL_paper 7 = .ok (.istore 4, 2) := by decide +kernel
theorem dL_paper_9 : decode cL_paper 9 = .ok (.goto 15, 3) := by decide +kernel
theorem dL_paper_12 : decode cL_paper 12 = .ok (.astore 5, 2) := by decide +kernel
theorem dL_paper_14 : decode cL_paper 14 = .ok (.sipush (-7100), 3) := by decide +kernel
theorem dL_paper_17 : decode cL_paper 17 = .ok (.ireturn, 1) := by decide +kernel
theorem dL_paper_18 : decode cL_paper 18 = .ok (.astore 5, 2) := by decide +kernel
theorem dL_paper_20 : decode cL_paper 20 = .ok (.sipush (-7200), 3) := by decide +kernel
theorem dL_paper_23 : decode cL_paper 23 = .ok (.ireturn, 1) := by decide +kernel
theorem dL_paper_24 : decode cL_paper 24 = .ok (.iload 4, 2) := by decide +kernel
theorem dL_paper_26 : decode cL_paper 26 = .ok (.ireturn, 1) := by decide +kernel
set_option maxRecDepth 20000 in
theorem ggL_bid_X8_bid : GoodIn wsL_bid wsX8_bid := goodIn_ca (goodIn_ca (goodIn_ca (goodIn_r _ [8, 9, 10, 11, 12, 13, 14, 15, 16, 17, 18, 19, 20, 7, 21, 22, 23, 24, 25, 26, 27, 28, 29, 30, 31, 32, 33, 34, 35, 36, 37, 38, 39, 40, 41, 42, 43, 44, 45, 46, 47, 48, 49, 50, 51, 52, 53, 54, 55, 56, 57, 58, 59, 60, 61, 62, 63, 64, 65, 66, 67, 68, 69, 70, 71, 72, 73, 74, 75, 76, 77, 78, 79, 80, 81, 82, 83, 84, 85, 86, 87, 88, 89, 90, 91, 92, 93, 94, 95, 96, 97, 98, 99, 100, 101, 102, 103, 104, 105, 106, 107, 108, 109, 110, 111, 112, 113, 114, 115, 116, 117, 118, 119, 120, 121, 122, 123, 124, 125, 126, 127, 128, 129, 130, 131, 132, 133, 134, 135, 136, 137, 138, 139, 140, 141, 142, 143, 144, 145, 146, 147, 148, 149, 150, 151, 152, 153, 154, 155, 156, 157, 158, 159, 160, 161, 162, 163, 164, 165, 166, 167, 168, 169, 170, 171, 172, 173, 174, 175, 176, 177, 178] (by decide +kernel) (by decide +kernel)) (goodIn_sub (fun _ h => List.mem_cons_of_mem _ (List.mem_append_left _ (List.mem_append_left _ (List.mem_append_right _ h)))) (by decide +kernel))) (goodIn_sub (fun _ h => List.mem_cons_of_mem _ (List.mem_append_left _ (List.mem_append_right _ h))) (by decide +kernel))) (goodIn_sub (fun _ h => List.mem_cons_of_mem _ (List.mem_append_right _ h)) (by decide +kernel))
set_option maxRecDepth 20000 in
theorem gL_bid_X8_bid : GoodIn wsL_bid (wsV RL 28 RX8 yX8_bid wsX8_bid) := goodIn_app (goodIn_of _ (by decide +kernel)) ggL_bid_X8_bid
theorem dL_bid_0 : decode cL_bid 0 = .ok (.aload_n 0, 1) := by decide +kernel
theorem dL_bid_1 : decode cL_bid 1 = .ok (.iload_n 1, 1) := by decide +kernel
theorem dL_bid_2 : decode cL_bid 2 = .ok (.iload_n 2, 1) := by decide +kernel
theorem dL_bid_3 : decode cL_bid 3 = .ok (.iload_n 3, 1) := by decide +kernel
theorem dL_bid_4 : decode cL_bid 4 = .ok (.iload 4, 2) := by decide +kernel
theorem dL_bid_6 : decode cL_bid 6 = .ok (.iload 5, 2) := by decide +kernel
theorem dL_bid_8 : decode cL_bid 8 = .ok (.invokevirtual 28, 3) := by decide +kernel
theorem dL_bid_11 : decode cL_bid 11 = .ok (.istore 6, 2) := by decide +kernel
theorem dL_bid_13 : decode cL_bid 13 = .ok (.goto 21, 3) := by decide +kernel
theorem dL_bid_16 : decode cL_bid 16 = .ok (.astore 7, 2) := by decide +kernel
theorem dL_bid_18 : decode cL_bid 18 = .ok (.sipush (-7100), 3) := by decide +kernel
theorem dL_bid_21 : decode cL_bid 21 = .ok (.ireturn, 1) := by decide +kernel
theorem dL_bid_22 : decode cL_bid 22 = .ok (.astore 7, 2) := by decide +kernel
theorem dL_bid_24 : decode cL_bid 24 = .ok (.sipush (-7200), 3) := by decide +kernel
theorem dL_bid_27 : decode cL_bid 27 = .ok (.ireturn, 1) := by decide +kernel
theorem dL_bid_28 : decode cL_bid 28 = .ok (.astore 7, 2) := by decide +kernel
theorem dL_bid_30 : decode cL_bid 30 = .ok (.sipush (-7300), 3) := by decide +kernel
theorem dL_bid_33 : decode cL_bid 33 = .ok (.ireturn, 1) := by decide +kernel
theorem dL_bid_34 : decode cL_bid 34 = .ok (.iload 6, 2) := by decide +kernel
theorem dL_bid_36 : decode cL_bid 36 = .ok (.ireturn, 1) := by decide +kernel
set_option maxRecDepth 20000 in
theorem ggL_withdraw_X8_withdraw : GoodIn wsL_withdraw wsX8_withdraw := goodIn_ca (goodIn_ca (goodIn_r _ [7, 8, 9, 10, 11, 12, 13, 6, 14, 15, 16, 17, 18, 19, 20, 21, 22, 23, 24, 25, 26, 27, 28, 29, 30, 31, 32, 33, 34, 35, 36, 37, 38, 39, 40, 41, 42, 43, 44, 45, 46, 47, 48, 49, 50, 51, 52, 53, 54, 55, 56, 57, 58, 59, 60, 61, 62, 63, 64, 65, 66, 67, 68, 69, 70, 71, 72, 73, 74, 75, 76, 77, 78, 79, 80, 81, 82, 83, 84, 85, 86, 87, 88, 89, 90, 91, 92, 93, 94, 95, 96, 97, 98, 99, 100, 101, 102, 103, 104, 105, 106, 107, 108, 109, 110, 111] (by decide +kernel) (by decide +kernel)) (goodIn_sub (fun _ h => List.mem_cons_of_mem _ (List.mem_append_left _ (List.mem_append_right _ h))) (by decide +kernel))) (goodIn_sub (fun _ h => List.mem_cons_of_mem _ (List.mem_append_right _ h)) (by decide +kernel))
set_option maxRecDepth 20000 in
theorem gL_withdraw_X8_withdraw : GoodIn wsL_withdraw (wsV RL 32 RX8 yX8_withdraw wsX8_withdraw) := goodIn_app (goodIn_of _ (by decide +kernel)) ggL_withdraw_X8_withdraw
theorem dL_withdraw_0 : decode cL_withdraw 0 = .ok (.aload_n 0, 1) := by decide +kernel
theorem dL_withdraw_1 : decode cL_withdraw 1 = .ok (.iload_n 1, 1) := by decide +kernel
theorem dL_withdraw_2 : decode cL_withdraw 2 = .ok (.iload_n 2, 1) := by decide +kernel
theorem dL_withdraw_3 : decode cL_withdraw 3 = .ok (.iload_n 3, 1) := by decide +kernel
theorem dL_withdraw_4 : decode cL_withdraw 4 = .ok (.invokevirtual 32, 3) := by decide +kernel
theorem dL_withdraw_7 : decode cL_withdraw 7 = .ok (.istore 4, 2) := by decide +kernel
theorem dL_withdraw_9 : decode cL_withdraw 9 = .ok (.goto 15, 3) := by decide +kernel
theorem dL_withdraw_12 : decode cL_withdraw 12 = .ok (.astore 5, 2) := by decide +kernel
theorem dL_withdraw_14 : decode cL_withdraw 14 = .ok (.sipush (-7100), 3) := by decide +kernel
theorem dL_withdraw_17 : decode cL_withdraw 17 = .ok (.ireturn, 1) := by decide +kernel
theorem dL_withdraw_18 : decode cL_withdraw 18 = .ok (.astore 5, 2) := by decide +kernel
theorem dL_withdraw_20 : decode cL_withdraw 20 = .ok (.sipush (-7300), 3) := by decide +kernel
theorem dL_withdraw_23 : decode cL_withdraw 23 = .ok (.ireturn, 1) := by decide +kernel
theorem dL_withdraw_24 : decode cL_withdraw 24 = .ok (.iload 4, 2) := by decide +kernel
theorem dL_withdraw_26 : decode cL_withdraw 26 = .ok (.ireturn, 1) := by decide +kernel
set_option maxRecDepth 20000 in
theorem ggL_pass_X8_pass : GoodIn wsL_pass wsX8_pass := goodIn_ca (goodIn_ca (goodIn_r _ [7, 8, 9, 10, 11, 12, 13, 14, 6, 15, 16, 17, 18, 19, 20, 21, 22, 23, 24, 25, 26, 27, 28, 29, 30, 31, 32, 33, 34, 35, 36, 37, 38, 39, 40, 41, 42, 43, 44, 45, 46, 47, 48, 49, 50, 51, 52, 53, 54, 55, 56, 57, 58, 59, 60, 61, 62, 63, 64, 65, 66, 67, 68, 69, 70, 71, 72, 73, 74, 75, 76, 77, 78, 79, 80, 81, 82, 83, 84, 85, 86, 87, 88, 89, 90, 91, 92, 93, 94, 95, 96, 97, 98, 99, 100, 101, 102, 103, 104, 105, 106, 107, 108, 109, 110, 111, 112, 113, 114, 115, 116, 117, 118, 119, 120, 121, 122, 123, 124, 125, 126, 127, 128, 129, 130, 131, 132, 133, 134, 135, 136, 137, 138, 139, 140, 141, 142, 143, 144, 145, 146, 147, 148, 149, 150, 151, 152, 153, 154, 155, 156, 157, 158, 159, 160, 161, 162, 163, 164, 165, 166, 167, 168, 169, 170, 171, 172, 173, 174, 175, 176, 177, 178, 179, 180, 181, 182, 183, 184, 185, 186, 187, 188, 189, 190, 191, 192, 193, 194, 195, 196, 197, 198, 199, 200, 201, 202, 203, 204, 205, 206, 207, 208, 209, 210, 211, 212, 213, 214, 215, 216, 217, 218, 219, 220, 221, 222, 223, 224, 225, 226, 227, 228, 229, 230, 231, 232, 233, 234, 235, 236, 237, 238, 239, 240, 241, 242, 243, 244, 245, 246, 247, 248, 249, 250, 251, 252, 253, 254, 255, 256, 257, 258, 259, 260, 261] (by decide +kernel) (by decide +kernel)) (goodIn_sub (fun _ h => List.mem_cons_of_mem _ (List.mem_append_left _ (List.mem_append_right _ h))) (by decide +kernel))) (goodIn_sub (fun _ h => List.mem_cons_of_mem _ (List.mem_append_right _ h)) (by decide +kernel))
set_option maxRecDepth 20000 in
theorem gL_pass_X8_pass : GoodIn wsL_pass (wsV RL 35 RX8 yX8_pass wsX8_pass) := goodIn_app (goodIn_of _ (by decide +kernel)) ggL_pass_X8_pass
theorem dL_pass_0 : decode cL_pass 0 = .ok (.aload_n 0, 1) := by decide +kernel
theorem dL_pass_1 : decode cL_pass 1 = .ok (.iload_n 1, 1) := by decide +kernel
theorem dL_pass_2 : decode cL_pass 2 = .ok (.invokevirtual 35, 3) := by decide +kernel
theorem dL_pass_5 : decode cL_pass 5 = .ok (.istore_n 2, 1) := by decide +kernel
theorem dL_pass_6 : decode cL_pass 6 = .ok (.goto 13, 3) := by decide +kernel
theorem dL_pass_9 : decode cL_pass 9 = .ok (.astore_n 3, 1) := by decide +kernel
theorem dL_pass_10 : decode cL_pass 10 = .ok (.sipush (-7200), 3) := by decide +kernel
theorem dL_pass_13 : decode cL_pass 13 = .ok (.ireturn, 1) := by decide +kernel
theorem dL_pass_14 : decode cL_pass 14 = .ok (.astore_n 3, 1) := by decide +kernel
theorem dL_pass_15 : decode cL_pass 15 = .ok (.sipush (-7300), 3) := by decide +kernel
theorem dL_pass_18 : decode cL_pass 18 = .ok (.ireturn, 1) := by decide +kernel
theorem dL_pass_19 : decode cL_pass 19 = .ok (.iload_n 2, 1) := by decide +kernel
theorem dL_pass_20 : decode cL_pass 20 = .ok (.ireturn, 1) := by decide +kernel
set_option maxRecDepth 20000 in
theorem ggL_isIn_X8_isIn : GoodIn wsL_isIn wsX8_isIn := goodIn_ca (goodIn_r _ [6, 7, 8, 9, 10, 5, 11, 12, 13, 14, 15, 16, 17, 18, 19, 20, 21, 22, 23, 24, 25, 26, 27, 28, 29, 30, 31, 32, 33, 34, 35, 36, 37, 38, 39, 40, 41, 42, 43, 44, 45, 46, 47, 48, 49, 50, 51, 52, 53, 54, 55, 56, 57, 58, 59, 60, 61, 62, 63, 64, 65, 66, 67, 68, 69, 70, 71, 72, 73, 74, 75, 76, 77, 78, 79, 80, 81, 82, 83, 84] (by decide +kernel) (by decide +kernel)) (goodIn_sub (fun _ h => List.mem_cons_of_mem _ (List.mem_append_right _ h)) (by decide +kernel))
set_option maxRecDepth 20000 in
theorem gL_isIn_X8_isIn : GoodIn wsL_isIn (wsV RL 39 RX8 yX8_isIn wsX8_isIn) := goodIn_app (goodIn_of _ (by decide +kernel)) ggL_isIn_X8_isIn
theorem dL_isIn_0 : decode cL_isIn 0 = .ok (.aload_n 0, 1) := by decide +kernel
theorem dL_isIn_1 : decode cL_isIn 1 = .ok (.iload_n 1, 1) := by decide +kernel
theorem dL_isIn_2 : decode cL_isIn 2 = .ok (.iload_n 2, 1) := by decide +kernel
theorem dL_isIn_3 : decode cL_isIn 3 = .ok (.iload_n 3, 1) := by decide +kernel
theorem dL_isIn_4 : decode cL_isIn 4 = .ok (.invokevirtual 39, 3) := by decide +kernel
theorem dL_isIn_7 : decode cL_isIn 7 = .ok (.istore 4, 2) := by decide +kernel
theorem dL_isIn_9 : decode cL_isIn 9 = .ok (.goto 9, 3) := by decide +kernel
theorem dL_isIn_12 : decode cL_isIn 12 = .ok (.astore 5, 2) := by decide +kernel
theorem dL_isIn_14 : decode cL_isIn 14 = .ok (.sipush (-7100), 3) := by decide +kernel
theorem dL_isIn_17 : decode cL_isIn 17 = .ok (.ireturn, 1) := by decide +kernel
theorem dL_isIn_18 : decode cL_isIn 18 = .ok (.iload 4, 2) := by decide +kernel
theorem dL_isIn_20 : decode cL_isIn 20 = .ok (.ifCond .eq 7, 3) := by decide +kernel
theorem dL_isIn_23 : decode cL_isIn 23 = .ok (.iconst 1, 1) := by decide +kernel
theorem dL_isIn_24 : decode cL_isIn 24 = .ok (.goto 4, 3) := by decide +kernel
theorem dL_isIn_27 : decode cL_isIn 27 = .ok (.iconst 0, 1) := by decide +kernel
theorem dL_isIn_28 : decode cL_isIn 28 = .ok (.ireturn, 1) := by decide +kernel
set_option maxRecDepth 20000 in
theorem ggL_score_X8_score : GoodIn wsL_score wsX8_score := goodIn_ca (goodIn_r _ [6, 7, 8, 9, 10, 5, 11, 12, 13, 14, 15, 16, 17, 18, 19, 20, 21, 22, 23, 24, 25, 26, 27, 28, 29, 30, 31, 32, 33, 34, 35, 36, 37, 38, 39, 40, 41, 42, 43, 44, 45, 46, 47, 48, 49, 50, 51, 52, 53, 54, 55, 56, 57, 58, 59, 60, 61, 62, 63, 64, 65, 66, 67, 68, 69, 70, 71, 72, 73, 74, 75, 76, 77, 78, 79, 80, 81, 82, 83, 84, 85, 86, 87, 88, 89, 90, 91, 92, 93, 94] (by decide +kernel) (by decide +kernel)) (goodIn_sub (fun _ h => List.mem_cons_of_mem _ (List.mem_append_right _ h)) (by decide +kernel))
set_option maxRecDepth 20000 in
theorem gL_score_X8_score : GoodIn wsL_score (wsV RL 43 RX8 yX8_score wsX8_score) := goodIn_app (goodIn_of _ (by decide +kernel)) ggL_score_X8_score
theorem dL_score_0 : decode cL_score 0 = .ok (.aload_n 0, 1) := by decide +kernel
theorem dL_score_1 : decode cL_score 1 = .ok (.iload_n 1, 1) := by decide +kernel
theorem dL_score_2 : decode cL_score 2 = .ok (.iload_n 2, 1) := by decide +kernel
theorem dL_score_3 : decode cL_score 3 = .ok (.iload_n 3, 1) := by decide +kernel
theorem dL_score_4 : decode cL_score 4 = .ok (.invokevirtual 43, 3) := by decide +kernel
theorem dL_score_7 : decode cL_score 7 = .ok (.istore 4, 2) := by decide +kernel
theorem dL_score_9 : decode cL_score 9 = .ok (.goto 9, 3) := by decide +kernel
theorem dL_score_12 : decode cL_score 12 = .ok (.astore 5, 2) := by decide +kernel
theorem dL_score_14 : decode cL_score 14 = .ok (.sipush (-7100), 3) := by decide +kernel
theorem dL_score_17 : decode cL_score 17 = .ok (.ireturn, 1) := by decide +kernel
theorem dL_score_18 : decode cL_score 18 = .ok (.iload 4, 2) := by decide +kernel
theorem dL_score_20 : decode cL_score 20 = .ok (.ireturn, 1) := by decide +kernel
set_option maxRecDepth 20000 in
theorem ggL_ranked_X8_ranked : GoodIn wsL_ranked wsX8_ranked := goodIn_ca (goodIn_ca (goodIn_r _ [7, 8, 9, 10, 11, 12, 6, 13, 14, 15, 16, 17, 18, 19, 20, 21, 22, 23, 24, 25, 26, 27, 28, 29, 30, 31, 32, 33, 34, 35, 36, 37, 38, 39, 40, 41, 42, 43, 44, 45, 46, 47, 48, 49, 50, 51, 52, 53, 54, 55, 56, 57, 58, 59, 60, 61, 62, 63, 64, 65, 66, 67, 68, 69, 70, 71, 72, 73, 74, 75, 76, 77, 78, 79, 80, 81, 82, 83, 84, 85, 86, 87, 88, 89, 90, 91, 92, 93, 94, 95, 96, 97, 98, 99] (by decide +kernel) (by decide +kernel)) (goodIn_sub (fun _ h => List.mem_cons_of_mem _ (List.mem_append_left _ (List.mem_append_right _ h))) (by decide +kernel))) (goodIn_sub (fun _ h => List.mem_cons_of_mem _ (List.mem_append_right _ h)) (by decide +kernel))
set_option maxRecDepth 20000 in
theorem gL_ranked_X8_ranked : GoodIn wsL_ranked (wsV RL 46 RX8 yX8_ranked wsX8_ranked) := goodIn_app (goodIn_of _ (by decide +kernel)) ggL_ranked_X8_ranked
theorem dL_ranked_0 : decode cL_ranked 0 = .ok (.aload_n 0, 1) := by decide +kernel
theorem dL_ranked_1 : decode cL_ranked 1 = .ok (.iload_n 1, 1) := by decide +kernel
theorem dL_ranked_2 : decode cL_ranked 2 = .ok (.iload_n 2, 1) := by decide +kernel
theorem dL_ranked_3 : decode cL_ranked 3 = .ok (.iload_n 3, 1) := by decide +kernel
theorem dL_ranked_4 : decode cL_ranked 4 = .ok (.invokevirtual 46, 3) := by decide +kernel
theorem dL_ranked_7 : decode cL_ranked 7 = .ok (.istore 4, 2) := by decide +kernel
theorem dL_ranked_9 : decode cL_ranked 9 = .ok (.goto 15, 3) := by decide +kernel
theorem dL_ranked_12 : decode cL_ranked 12 = .ok (.astore 5, 2) := by decide +kernel
theorem dL_ranked_14 : decode cL_ranked 14 = .ok (.sipush (-7100), 3) := by decide +kernel
theorem dL_ranked_17 : decode cL_ranked 17 = .ok (.ireturn, 1) := by decide +kernel
theorem dL_ranked_18 : decode cL_ranked 18 = .ok (.astore 5, 2) := by decide +kernel
theorem dL_ranked_20 : decode cL_ranked 20 = .ok (.sipush (-7200), 3) := by decide +kernel
theorem dL_ranked_23 : decode cL_ranked 23 = .ok (.ireturn, 1) := by decide +kernel
theorem dL_ranked_24 : decode cL_ranked 24 = .ok (.iload 4, 2) := by decide +kernel
theorem dL_ranked_26 : decode cL_ranked 26 = .ok (.ireturn, 1) := by decide +kernel
set_option maxRecDepth 20000 in
theorem ggL_award_X8_award : GoodIn wsL_award wsX8_award := goodIn_ca (goodIn_ca (goodIn_r _ [7, 8, 9, 10, 11, 12, 13, 14, 6, 15, 16, 17, 18, 19, 20, 21, 22, 23, 24, 25, 26, 27, 28, 29, 30, 31, 32, 33, 34, 35, 36, 37, 38, 39, 40, 41, 42, 43, 44, 45, 46, 47, 48, 49, 50, 51, 52, 53, 54, 55, 56, 57, 58, 59, 60, 61, 62, 63, 64, 65, 66, 67, 68, 69, 70, 71, 72, 73, 74, 75, 76, 77, 78, 79, 80, 81, 82, 83, 84, 85, 86, 87, 88, 89, 90, 91, 92, 93, 94, 95, 96, 97, 98, 99, 100, 101, 102, 103, 104, 105, 106, 107, 108, 109, 110, 111, 112, 113, 114, 115, 116, 117, 118, 119, 120, 121, 122, 123, 124, 125, 126, 127, 128, 129, 130, 131, 132, 133, 134, 135, 136, 137, 138, 139, 140, 141, 142, 143, 144, 145, 146, 147, 148, 149, 150, 151, 152, 153, 154, 155, 156, 157, 158, 159, 160, 161, 162, 163, 164, 165, 166, 167, 168, 169, 170, 171, 172, 173, 174, 175, 176, 177, 178, 179, 180, 181, 182, 183, 184, 185, 186, 187, 188] (by decide +kernel) (by decide +kernel)) (goodIn_sub (fun _ h => List.mem_cons_of_mem _ (List.mem_append_left _ (List.mem_append_right _ h))) (by decide +kernel))) (goodIn_sub (fun _ h => List.mem_cons_of_mem _ (List.mem_append_right _ h)) (by decide +kernel))
set_option maxRecDepth 20000 in
theorem gL_award_X8_award : GoodIn wsL_award (wsV RL 49 RX8 yX8_award wsX8_award) := goodIn_app (goodIn_of _ (by decide +kernel)) ggL_award_X8_award
theorem dL_award_0 : decode cL_award 0 = .ok (.aload_n 0, 1) := by decide +kernel
theorem dL_award_1 : decode cL_award 1 = .ok (.iload_n 1, 1) := by decide +kernel
theorem dL_award_2 : decode cL_award 2 = .ok (.iload_n 2, 1) := by decide +kernel
theorem dL_award_3 : decode cL_award 3 = .ok (.invokevirtual 49, 3) := by decide +kernel
theorem dL_award_6 : decode cL_award 6 = .ok (.istore_n 3, 1) := by decide +kernel
theorem dL_award_7 : decode cL_award 7 = .ok (.goto 15, 3) := by decide +kernel
theorem dL_award_10 : decode cL_award 10 = .ok (.astore 4, 2) := by decide +kernel
theorem dL_award_12 : decode cL_award 12 = .ok (.sipush (-7100), 3) := by decide +kernel
theorem dL_award_15 : decode cL_award 15 = .ok (.ireturn, 1) := by decide +kernel
theorem dL_award_16 : decode cL_award 16 = .ok (.astore 4, 2) := by decide +kernel
theorem dL_award_18 : decode cL_award 18 = .ok (.sipush (-7300), 3) := by decide +kernel
theorem dL_award_21 : decode cL_award 21 = .ok (.ireturn, 1) := by decide +kernel
theorem dL_award_22 : decode cL_award 22 = .ok (.iload_n 3, 1) := by decide +kernel
theorem dL_award_23 : decode cL_award 23 = .ok (.ireturn, 1) := by decide +kernel
set_option maxRecDepth 20000 in
theorem ggL_awardOf_X8_awardOf : GoodIn wsL_awardOf wsX8_awardOf := goodIn_ca (goodIn_r _ [6, 7, 8, 9, 10, 5, 11, 12, 13, 14, 15, 16, 17, 18, 19, 20, 21, 22, 23, 24, 25, 26, 27, 28, 29, 30, 31, 32, 33, 34, 35, 36, 37, 38, 39, 40, 41, 42, 43, 44, 45, 46, 47, 48, 49, 50, 51, 52, 53, 54, 55, 56, 57, 58, 59, 60, 61, 62, 63, 64, 65, 66, 67, 68, 69, 70, 71, 72, 73, 74] (by decide +kernel) (by decide +kernel)) (goodIn_sub (fun _ h => List.mem_cons_of_mem _ (List.mem_append_right _ h)) (by decide +kernel))
set_option maxRecDepth 20000 in
theorem gL_awardOf_X8_awardOf : GoodIn wsL_awardOf (wsV RL 52 RX8 yX8_awardOf wsX8_awardOf) := goodIn_app (goodIn_of _ (by decide +kernel)) ggL_awardOf_X8_awardOf
theorem dL_awardOf_0 : decode cL_awardOf 0 = .ok (.aload_n 0, 1) := by decide +kernel
theorem dL_awardOf_1 : decode cL_awardOf 1 = .ok (.iload_n 1, 1) := by decide +kernel
theorem dL_awardOf_2 : decode cL_awardOf 2 = .ok (.iload_n 2, 1) := by decide +kernel
theorem dL_awardOf_3 : decode cL_awardOf 3 = .ok (.invokevirtual 52, 3) := by decide +kernel
theorem dL_awardOf_6 : decode cL_awardOf 6 = .ok (.istore_n 3, 1) := by decide +kernel
theorem dL_awardOf_7 : decode cL_awardOf 7 = .ok (.goto 9, 3) := by decide +kernel
theorem dL_awardOf_10 : decode cL_awardOf 10 = .ok (.astore 4, 2) := by decide +kernel
theorem dL_awardOf_12 : decode cL_awardOf 12 = .ok (.sipush (-7100), 3) := by decide +kernel
theorem dL_awardOf_15 : decode cL_awardOf 15 = .ok (.ireturn, 1) := by decide +kernel
theorem dL_awardOf_16 : decode cL_awardOf 16 = .ok (.iload_n 3, 1) := by decide +kernel
theorem dL_awardOf_17 : decode cL_awardOf 17 = .ok (.ireturn, 1) := by decide +kernel
set_option maxRecDepth 20000 in
theorem ggL_winner_X8_winner : GoodIn wsL_winner wsX8_winner := goodIn_ca (goodIn_r _ [6, 7, 8, 9, 10, 11, 5, 12, 13, 14, 15, 16, 17, 18, 19, 20, 21, 22, 23, 24, 25, 26, 27, 28, 29, 30, 31, 32, 33, 34, 35, 36, 37, 38, 39, 40, 41, 42, 43, 44, 45, 46, 47, 48, 49, 50, 51, 52, 53, 54, 55, 56, 57, 58, 59, 60, 61] (by decide +kernel) (by decide +kernel)) (goodIn_sub (fun _ h => List.mem_cons_of_mem _ (List.mem_append_right _ h)) (by decide +kernel))
set_option maxRecDepth 20000 in
theorem gL_winner_X8_winner : GoodIn wsL_winner (wsV RL 55 RX8 yX8_winner wsX8_winner) := goodIn_app (goodIn_of _ (by decide +kernel)) ggL_winner_X8_winner
theorem dL_winner_0 : decode cL_winner 0 = .ok (.aload_n 0, 1) := by decide +kernel
theorem dL_winner_1 : decode cL_winner 1 = .ok (.iload_n 1, 1) := by decide +kernel
theorem dL_winner_2 : decode cL_winner 2 = .ok (.invokevirtual 55, 3) := by decide +kernel
theorem dL_winner_5 : decode cL_winner 5 = .ok (.istore_n 2, 1) := by decide +kernel
theorem dL_winner_6 : decode cL_winner 6 = .ok (.goto 8, 3) := by decide +kernel
theorem dL_winner_9 : decode cL_winner 9 = .ok (.astore_n 3, 1) := by decide +kernel
theorem dL_winner_10 : decode cL_winner 10 = .ok (.sipush (-7100), 3) := by decide +kernel
theorem dL_winner_13 : decode cL_winner 13 = .ok (.ireturn, 1) := by decide +kernel
theorem dL_winner_14 : decode cL_winner 14 = .ok (.iload_n 2, 1) := by decide +kernel
theorem dL_winner_15 : decode cL_winner 15 = .ok (.ireturn, 1) := by decide +kernel
set_option maxRecDepth 20000 in
theorem ggL_isVoid_X8_isVoid : GoodIn wsL_isVoid wsX8_isVoid := goodIn_ca (goodIn_r _ [6, 7, 8, 9, 10, 5, 11, 12, 13, 14, 15, 16, 17, 18, 19, 20, 21, 22, 23, 24, 25, 26, 27, 28, 29, 30, 31, 32, 33, 34, 35, 36, 37, 38, 39, 40, 41, 42, 43, 44, 45, 46, 47, 48, 49, 50, 51, 52, 53, 54] (by decide +kernel) (by decide +kernel)) (goodIn_sub (fun _ h => List.mem_cons_of_mem _ (List.mem_append_right _ h)) (by decide +kernel))
set_option maxRecDepth 20000 in
theorem gL_isVoid_X8_isVoid : GoodIn wsL_isVoid (wsV RL 58 RX8 yX8_isVoid wsX8_isVoid) := goodIn_app (goodIn_of _ (by decide +kernel)) ggL_isVoid_X8_isVoid
theorem dL_isVoid_0 : decode cL_isVoid 0 = .ok (.aload_n 0, 1) := by decide +kernel
theorem dL_isVoid_1 : decode cL_isVoid 1 = .ok (.iload_n 1, 1) := by decide +kernel
theorem dL_isVoid_2 : decode cL_isVoid 2 = .ok (.invokevirtual 58, 3) := by decide +kernel
theorem dL_isVoid_5 : decode cL_isVoid 5 = .ok (.istore_n 2, 1) := by decide +kernel
theorem dL_isVoid_6 : decode cL_isVoid 6 = .ok (.goto 8, 3) := by decide +kernel
theorem dL_isVoid_9 : decode cL_isVoid 9 = .ok (.astore_n 3, 1) := by decide +kernel
theorem dL_isVoid_10 : decode cL_isVoid 10 = .ok (.sipush (-7100), 3) := by decide +kernel
theorem dL_isVoid_13 : decode cL_isVoid 13 = .ok (.ireturn, 1) := by decide +kernel
theorem dL_isVoid_14 : decode cL_isVoid 14 = .ok (.iload_n 2, 1) := by decide +kernel
theorem dL_isVoid_15 : decode cL_isVoid 15 = .ok (.ifCond .eq 7, 3) := by decide +kernel
theorem dL_isVoid_18 : decode cL_isVoid 18 = .ok (.iconst 1, 1) := by decide +kernel
theorem dL_isVoid_19 : decode cL_isVoid 19 = .ok (.goto 4, 3) := by decide +kernel
theorem dL_isVoid_22 : decode cL_isVoid 22 = .ok (.iconst 0, 1) := by decide +kernel
theorem dL_isVoid_23 : decode cL_isVoid 23 = .ok (.ireturn, 1) := by decide +kernel
set_option maxRecDepth 20000 in
theorem ggL_isFinal_X8_isFinal : GoodIn wsL_isFinal wsX8_isFinal := goodIn_ca (goodIn_r _ [6, 7, 8, 9, 5, 10, 11, 12, 13, 14, 15, 16, 17, 18, 19, 20, 21, 22, 23, 24, 25, 26, 27, 28, 29, 30, 31, 32, 33, 34, 35, 36, 37, 38, 39, 40, 41, 42, 43, 44, 45, 46, 47, 48, 49, 50, 51, 52, 53, 54, 55, 56, 57, 58, 59, 60, 61, 62, 63, 64, 65, 66, 67, 68, 69, 70, 71, 72, 73, 74] (by decide +kernel) (by decide +kernel)) (goodIn_sub (fun _ h => List.mem_cons_of_mem _ (List.mem_append_right _ h)) (by decide +kernel))
set_option maxRecDepth 20000 in
theorem gL_isFinal_X8_isFinal : GoodIn wsL_isFinal (wsV RL 62 RX8 yX8_isFinal wsX8_isFinal) := goodIn_app (goodIn_of _ (by decide +kernel)) ggL_isFinal_X8_isFinal
theorem dL_isFinal_0 : decode cL_isFinal 0 = .ok (.aload_n 0, 1) := by decide +kernel
theorem dL_isFinal_1 : decode cL_isFinal 1 = .ok (.iload_n 1, 1) := by decide +kernel
theorem dL_isFinal_2 : decode cL_isFinal 2 = .ok (.invokevirtual 62, 3) := by decide +kernel
theorem dL_isFinal_5 : decode cL_isFinal 5 = .ok (.istore_n 2, 1) := by decide +kernel
theorem dL_isFinal_6 : decode cL_isFinal 6 = .ok (.goto 8, 3) := by decide +kernel
theorem dL_isFinal_9 : decode cL_isFinal 9 = .ok (.astore_n 3, 1) := by decide +kernel
theorem dL_isFinal_10 : decode cL_isFinal 10 = .ok (.sipush (-7100), 3) := by decide +kernel
theorem dL_isFinal_13 : decode cL_isFinal 13 = .ok (.ireturn, 1) := by decide +kernel
theorem dL_isFinal_14 : decode cL_isFinal 14 = .ok (.iload_n 2, 1) := by decide +kernel
theorem dL_isFinal_15 : decode cL_isFinal 15 = .ok (.ifCond .eq 7, 3) := by decide +kernel
theorem dL_isFinal_18 : decode cL_isFinal 18 = .ok (.iconst 1, 1) := by decide +kernel
theorem dL_isFinal_19 : decode cL_isFinal 19 = .ok (.goto 4, 3) := by decide +kernel
theorem dL_isFinal_22 : decode cL_isFinal 22 = .ok (.iconst 0, 1) := by decide +kernel
theorem dL_isFinal_23 : decode cL_isFinal 23 = .ok (.ireturn, 1) := by decide +kernel
set_option maxRecDepth 20000 in
theorem ggL_winnerAnew_X8_winnerAnew : GoodIn wsL_winnerAnew wsX8_winnerAnew := goodIn_ca (goodIn_r _ [6, 7, 8, 9, 10, 5, 11, 12, 13, 14, 15, 16, 17, 18, 19, 20, 21, 22, 23, 24, 25, 26, 27, 28, 29, 30, 31, 32, 33, 34, 35, 36, 37, 38, 39, 40, 41, 42, 43, 44, 45, 46, 47, 48, 49, 50, 51, 52, 53, 54, 55, 56, 57, 58, 59, 60, 61, 62, 63, 64, 65, 66, 67, 68, 69, 70, 71, 72, 73, 74, 75, 76, 77, 78, 79, 80, 81, 82, 83, 84, 85, 86, 87, 88, 89, 90, 91, 92, 93, 94, 95, 96, 97, 98, 99, 100, 101, 102, 103, 104, 105, 106, 107, 108, 109, 110, 111, 112, 113, 114, 115, 116, 117, 118, 119, 120, 121, 122, 123, 124, 125, 126, 127, 128, 129, 130, 131, 132, 133, 134, 135, 136, 137, 138, 139, 140, 141, 142, 143, 144, 145, 146, 147, 148, 149, 150, 151, 152, 153, 154, 155, 156, 157, 158, 159, 160, 161, 162, 163, 164, 165, 166, 167, 168, 169, 170, 171, 172, 173, 174, 175, 176, 177, 178, 179, 180, 181, 182, 183, 184, 185, 186, 187, 188, 189, 190, 191, 192, 193, 194, 195, 196, 197, 198, 199, 200, 201, 202, 203, 204, 205, 206, 207, 208, 209, 210, 211, 212, 213, 214, 215, 216, 217, 218, 219, 220, 221] (by decide +kernel) (by decide +kernel)) (goodIn_sub (fun _ h => List.mem_cons_of_mem _ (List.mem_append_right _ h)) (by decide +kernel))
set_option maxRecDepth 20000 in
theorem gL_winnerAnew_X8_winnerAnew : GoodIn wsL_winnerAnew (wsV RL 65 RX8 yX8_winnerAnew wsX8_winnerAnew) := goodIn_app (goodIn_of _ (by decide +kernel)) ggL_winnerAnew_X8_winnerAnew
theorem dL_winnerAnew_0 : decode cL_winnerAnew 0 = .ok (.aload_n 0, 1) := by decide +kernel
theorem dL_winnerAnew_1 : decode cL_winnerAnew 1 = .ok (.iload_n 1, 1) := by decide +kernel
theorem dL_winnerAnew_2 : decode cL_winnerAnew 2 = .ok (.iload_n 2, 1) := by decide +kernel
theorem dL_winnerAnew_3 : decode cL_winnerAnew 3 = .ok (.invokevirtual 65, 3) := by decide +kernel
theorem dL_winnerAnew_6 : decode cL_winnerAnew 6 = .ok (.istore_n 3, 1) := by decide +kernel
theorem dL_winnerAnew_7 : decode cL_winnerAnew 7 = .ok (.goto 9, 3) := by decide +kernel
theorem dL_winnerAnew_10 : decode cL_winnerAnew 10 = .ok (.astore 4, 2) := by decide +kernel
theorem dL_winnerAnew_12 : decode cL_winnerAnew 12 = .ok (.sipush (-7100), 3) := by decide +kernel
theorem dL_winnerAnew_15 : decode cL_winnerAnew 15 = .ok (.ireturn, 1) := by decide +kernel
theorem dL_winnerAnew_16 : decode cL_winnerAnew 16 = .ok (.iload_n 3, 1) := by decide +kernel
theorem dL_winnerAnew_17 : decode cL_winnerAnew 17 = .ok (.ireturn, 1) := by decide +kernel
set_option maxRecDepth 20000 in
theorem ggL_line_X8_line : GoodIn wsL_line wsX8_line := goodIn_ca (goodIn_r _ [6, 7, 8, 9, 5, 10, 11, 12, 13, 14, 15, 16, 17, 18, 19, 20, 21, 22, 23, 24, 25, 26, 27, 28, 29, 30, 31, 32, 33, 34, 35, 36, 37, 38, 39, 40, 41, 42, 43, 44, 45, 46, 47, 48, 49, 50, 51, 52, 53, 54, 55, 56, 57, 58, 59, 60, 61, 62, 63, 64, 65, 66, 67, 68, 69, 70, 71, 72, 73, 74, 75, 76, 77, 78, 79, 80, 81, 82, 83, 84, 85, 86, 87, 88, 89, 90, 91, 92, 93, 94, 95, 96, 97, 98, 99, 100, 101, 102, 103, 104, 105, 106, 107, 108, 109, 110, 111, 112, 113, 114, 115, 116, 117, 118, 119, 120, 121, 122, 123, 124, 125, 126, 127, 128, 129, 130, 131, 132, 133, 134, 135, 136, 137, 138, 139, 140, 141, 142, 143, 144, 145, 146, 147, 148, 149, 150, 151, 152, 153, 154, 155, 156, 157, 158, 159, 160, 161, 162, 163, 164, 165, 166, 167, 168, 169, 170, 171, 172, 173, 174, 175, 176, 177, 178, 179, 180, 181, 182, 183, 184, 185, 186, 187, 188, 189, 190, 191, 192, 193, 194, 195, 196, 197, 198, 199, 200, 201, 202, 203, 204, 205, 206, 207, 208, 209, 210, 211, 212, 213, 214, 215, 216, 217, 218, 219, 220, 221, 222, 223, 224, 225, 226, 227, 228, 229, 230, 231, 232, 233, 234, 235, 236, 237, 238, 239, 240, 241, 242, 243, 244, 245, 246, 247, 248, 249, 250, 251, 252, 253, 254, 255, 256, 257, 258, 259, 260, 261, 262, 263, 264, 265, 266, 267, 268, 269, 270, 271, 272, 273, 274] (by decide +kernel) (by decide +kernel)) (goodIn_sub (fun _ h => List.mem_cons_of_mem _ (List.mem_append_right _ h)) (by decide +kernel))
set_option maxRecDepth 20000 in
theorem gL_line_X8_line : GoodIn wsL_line (wsV RL 68 RX8 yX8_line wsX8_line) := goodIn_app (goodIn_of _ (by decide +kernel)) ggL_line_X8_line
theorem dL_line_0 : decode cL_line 0 = .ok (.aload_n 0, 1) := by decide +kernel
theorem dL_line_1 : decode cL_line 1 = .ok (.iload_n 1, 1) := by decide +kernel
theorem dL_line_2 : decode cL_line 2 = .ok (.invokevirtual 68, 3) := by decide +kernel
theorem dL_line_5 : decode cL_line 5 = .ok (.istore_n 2, 1) := by decide +kernel
theorem dL_line_6 : decode cL_line 6 = .ok (.goto 8, 3) := by decide +kernel
theorem dL_line_9 : decode cL_line 9 = .ok (.astore_n 3, 1) := by decide +kernel
theorem dL_line_10 : decode cL_line 10 = .ok (.sipush (-7100), 3) := by decide +kernel
theorem dL_line_13 : decode cL_line 13 = .ok (.ireturn, 1) := by decide +kernel
theorem dL_line_14 : decode cL_line 14 = .ok (.iload_n 2, 1) := by decide +kernel
theorem dL_line_15 : decode cL_line 15 = .ok (.ireturn, 1) := by decide +kernel
set_option maxRecDepth 20000 in
theorem ggL_lineChar_X8_lineChar : GoodIn wsL_lineChar wsX8_lineChar := goodIn_ca (goodIn_r _ [6, 7, 8, 9, 10, 11, 5, 12, 13, 14, 15, 16, 17, 18, 19, 20, 21, 22, 23, 24, 25, 26, 27, 28, 29, 30, 31, 32, 33, 34, 35, 36, 37, 38, 39, 40, 41, 42, 43, 44, 45, 46, 47, 48, 49, 50, 51, 52, 53, 54, 55, 56, 57, 58, 59, 60, 61, 62, 63, 64, 65, 66, 67, 68, 69, 70, 71, 72, 73, 74, 75, 76, 77, 78, 79, 80, 81, 82, 83, 84, 85, 86, 87, 88, 89, 90, 91, 92, 93, 94, 95, 96, 97, 98, 99, 100, 101, 102, 103, 104, 105, 106, 107, 108, 109, 110, 111, 112, 113, 114, 115, 116, 117, 118, 119, 120, 121, 122, 123, 124, 125, 126, 127, 128, 129, 130, 131, 132, 133, 134, 135, 136, 137, 138, 139, 140, 141, 142, 143, 144, 145, 146, 147, 148, 149, 150, 151, 152, 153, 154, 155, 156, 157, 158, 159, 160, 161, 162, 163, 164, 165, 166, 167, 168, 169, 170, 171, 172, 173, 174, 175, 176, 177, 178, 179, 180, 181, 182, 183, 184, 185, 186, 187, 188, 189, 190, 191, 192, 193, 194, 195, 196, 197, 198, 199, 200, 201, 202, 203, 204, 205, 206, 207, 208, 209, 210, 211, 212, 213, 214, 215, 216, 217, 218, 219, 220, 221, 222, 223, 224, 225, 226, 227, 228, 229, 230, 231, 232, 233, 234, 235, 236, 237, 238, 239, 240, 241, 242, 243, 244, 245, 246, 247, 248, 249, 250, 251, 252, 253, 254, 255, 256, 257, 258, 259, 260, 261, 262, 263, 264, 265, 266, 267, 268, 269, 270, 271, 272, 273, 274, 275, 276, 277, 278, 279, 280, 281, 282, 283, 284, 285, 286, 287] (by decide +kernel) (by decide +kernel)) (goodIn_sub (fun _ h => List.mem_cons_of_mem _ (List.mem_append_right _ h)) (by decide +kernel))
set_option maxRecDepth 20000 in
theorem gL_lineChar_X8_lineChar : GoodIn wsL_lineChar (wsV RL 71 RX8 yX8_lineChar wsX8_lineChar) := goodIn_app (goodIn_of _ (by decide +kernel)) ggL_lineChar_X8_lineChar
theorem dL_lineChar_0 : decode cL_lineChar 0 = .ok (.aload_n 0, 1) := by decide +kernel
theorem dL_lineChar_1 : decode cL_lineChar 1 = .ok (.iload_n 1, 1) := by decide +kernel
theorem dL_lineChar_2 : decode cL_lineChar 2 = .ok (.iload_n 2, 1) := by decide +kernel
theorem dL_lineChar_3 : decode cL_lineChar 3 = .ok (.invokevirtual 71, 3) := by decide +kernel
theorem dL_lineChar_6 : decode cL_lineChar 6 = .ok (.istore_n 3, 1) := by decide +kernel
theorem dL_lineChar_7 : decode cL_lineChar 7 = .ok (.goto 9, 3) := by decide +kernel
theorem dL_lineChar_10 : decode cL_lineChar 10 = .ok (.astore 4, 2) := by decide +kernel
theorem dL_lineChar_12 : decode cL_lineChar 12 = .ok (.sipush (-7100), 3) := by decide +kernel
theorem dL_lineChar_15 : decode cL_lineChar 15 = .ok (.ireturn, 1) := by decide +kernel
theorem dL_lineChar_16 : decode cL_lineChar 16 = .ok (.iload_n 3, 1) := by decide +kernel
theorem dL_lineChar_17 : decode cL_lineChar 17 = .ok (.ireturn, 1) := by decide +kernel
set_option maxRecDepth 20000 in
theorem ggL_complain_X8_complain : GoodIn wsL_complain wsX8_complain := goodIn_ca (goodIn_ca (goodIn_ca (goodIn_r _ [8, 9, 10, 11, 12, 13, 14, 15, 16, 17, 18, 19, 20, 21, 7, 22, 23, 24, 25, 26, 27, 28, 29, 30, 31, 32, 33, 34, 35, 36, 37, 38, 39, 40, 41, 42, 43, 44, 45, 46, 47, 48, 49, 50, 51, 52, 53, 54, 55, 56, 57, 58, 59, 60, 61, 62, 63, 64, 65, 66, 67, 68, 69, 70, 71, 72, 73, 74, 75, 76, 77, 78, 79, 80, 81, 82, 83, 84, 85, 86, 87, 88, 89, 90, 91, 92, 93, 94, 95, 96, 97, 98, 99, 100, 101, 102, 103, 104, 105, 106, 107, 108, 109, 110, 111, 112, 113, 114, 115, 116, 117, 118, 119, 120, 121, 122, 123, 124, 125, 126, 127, 128, 129, 130, 131, 132, 133, 134, 135, 136, 137, 138, 139, 140, 141, 142, 143, 144, 145, 146, 147, 148, 149, 150, 151, 152, 153, 154, 155, 156, 157, 158, 159, 160, 161, 162, 163, 164, 165, 166, 167, 168, 169, 170, 171, 172, 173, 174, 175, 176, 177, 178] (by decide +kernel) (by decide +kernel)) (goodIn_sub (fun _ h => List.mem_cons_of_mem _ (List.mem_append_left _ (List.mem_append_left _ (List.mem_append_right _ h)))) (by decide +kernel))) (goodIn_sub (fun _ h => List.mem_cons_of_mem _ (List.mem_append_left _ (List.mem_append_right _ h))) (by decide +kernel))) (goodIn_sub (fun _ h => List.mem_cons_of_mem _ (List.mem_append_right _ h)) (by decide +kernel))
set_option maxRecDepth 20000 in
theorem gL_complain_X8_complain : GoodIn wsL_complain (wsV RL 75 RX8 yX8_complain wsX8_complain) := goodIn_app (goodIn_of _ (by decide +kernel)) ggL_complain_X8_complain
theorem dL_complain_0 : decode cL_complain 0 = .ok (.aload_n 0, 1) := by decide +kernel
theorem dL_complain_1 : decode cL_complain 1 = .ok (.iload_n 1, 1) := by decide +kernel
theorem dL_complain_2 : decode cL_complain 2 = .ok (.iload_n 2, 1) := by decide +kernel
theorem dL_complain_3 : decode cL_complain 3 = .ok (.iload_n 3, 1) := by decide +kernel
theorem dL_complain_4 : decode cL_complain 4 = .ok (.invokevirtual 75, 3) := by decide +kernel
theorem dL_complain_7 : decode cL_complain 7 = .ok (.istore 4, 2) := by decide +kernel
theorem dL_complain_9 : decode cL_complain 9 = .ok (.goto 21, 3) := by decide +kernel
theorem dL_complain_12 : decode cL_complain 12 = .ok (.astore 5, 2) := by decide +kernel
theorem dL_complain_14 : decode cL_complain 14 = .ok (.sipush (-7100), 3) := by decide +kernel
theorem dL_complain_17 : decode cL_complain 17 = .ok (.ireturn, 1) := by decide +kernel
theorem dL_complain_18 : decode cL_complain 18 = .ok (.astore 5, 2) := by decide +kernel
theorem dL_complain_20 : decode cL_complain 20 = .ok (.sipush (-7200), 3) := by decide +kernel
theorem dL_complain_23 : decode cL_complain 23 = .ok (.ireturn, 1) := by decide +kernel
theorem dL_complain_24 : decode cL_complain 24 = .ok (.astore 5, 2) := by decide +kernel
theorem dL_complain_26 : decode cL_complain 26 = .ok (.sipush (-7300), 3) := by decide +kernel
theorem dL_complain_29 : decode cL_complain 29 = .ok (.ireturn, 1) := by decide +kernel
theorem dL_complain_30 : decode cL_complain 30 = .ok (.iload 4, 2) := by decide +kernel
theorem dL_complain_32 : decode cL_complain 32 = .ok (.ireturn, 1) := by decide +kernel
set_option maxRecDepth 20000 in
theorem ggL_rule_X8_rule : GoodIn wsL_rule wsX8_rule := goodIn_ca (goodIn_ca (goodIn_ca (goodIn_r _ [8, 9, 10, 11, 12, 13, 14, 15, 16, 17, 18, 19, 7, 20, 21, 22, 23, 24, 25, 26, 27, 28, 29, 30, 31, 32, 33, 34, 35, 36, 37, 38, 39, 40, 41, 42, 43, 44, 45, 46, 47, 48, 49, 50, 51, 52, 53, 54, 55, 56, 57, 58, 59, 60, 61, 62, 63, 64, 65, 66, 67, 68, 69, 70, 71, 72, 73, 74, 75, 76, 77, 78, 79, 80, 81, 82, 83, 84, 85, 86, 87, 88, 89, 90, 91, 92, 93, 94, 95, 96, 97, 98, 99, 100, 101, 102, 103, 104, 105, 106, 107, 108, 109, 110, 111, 112, 113, 114, 115, 116, 117, 118, 119, 120, 121, 122, 123, 124, 125, 126, 127, 128, 129, 130, 131, 132, 133, 134, 135, 136, 137, 138, 139, 140, 141, 142, 143, 144, 145, 146, 147, 148, 149, 150, 151, 152, 153, 154, 155, 156, 157, 158, 159, 160, 161, 162, 163, 164, 165, 166, 167, 168, 169, 170, 171, 172, 173, 174, 175, 176, 177, 178, 179, 180, 181, 182, 183, 184, 185, 186, 187, 188, 189, 190, 191, 192, 193, 194, 195, 196, 197, 198, 199, 200, 201, 202, 203, 204, 205, 206, 207, 208, 209, 210, 211, 212, 213, 214, 215, 216, 217, 218, 219, 220, 221, 222, 223, 224, 225, 226] (by decide +kernel) (by decide +kernel)) (goodIn_sub (fun _ h => List.mem_cons_of_mem _ (List.mem_append_left _ (List.mem_append_left _ (List.mem_append_right _ h)))) (by decide +kernel))) (goodIn_sub (fun _ h => List.mem_cons_of_mem _ (List.mem_append_left _ (List.mem_append_right _ h))) (by decide +kernel))) (goodIn_sub (fun _ h => List.mem_cons_of_mem _ (List.mem_append_right _ h)) (by decide +kernel))
set_option maxRecDepth 20000 in
theorem gL_rule_X8_rule : GoodIn wsL_rule (wsV RL 78 RX8 yX8_rule wsX8_rule) := goodIn_app (goodIn_of _ (by decide +kernel)) ggL_rule_X8_rule
theorem dL_rule_0 : decode cL_rule 0 = .ok (.aload_n 0, 1) := by decide +kernel
theorem dL_rule_1 : decode cL_rule 1 = .ok (.iload_n 1, 1) := by decide +kernel
theorem dL_rule_2 : decode cL_rule 2 = .ok (.iload_n 2, 1) := by decide +kernel
theorem dL_rule_3 : decode cL_rule 3 = .ok (.iload_n 3, 1) := by decide +kernel
theorem dL_rule_4 : decode cL_rule 4 = .ok (.invokevirtual 78, 3) := by decide +kernel
theorem dL_rule_7 : decode cL_rule 7 = .ok (.istore 4, 2) := by decide +kernel
theorem dL_rule_9 : decode cL_rule 9 = .ok (.goto 21, 3) := by decide +kernel
theorem dL_rule_12 : decode cL_rule 12 = .ok (.astore 5, 2) := by decide +kernel
theorem dL_rule_14 : decode cL_rule 14 = .ok (.sipush (-7100), 3) := by decide +kernel
theorem dL_rule_17 : decode cL_rule 17 = .ok (.ireturn, 1) := by decide +kernel
theorem dL_rule_18 : decode cL_rule 18 = .ok (.astore 5, 2) := by decide +kernel
theorem dL_rule_20 : decode cL_rule 20 = .ok (.sipush (-7200), 3) := by decide +kernel
theorem dL_rule_23 : decode cL_rule 23 = .ok (.ireturn, 1) := by decide +kernel
theorem dL_rule_24 : decode cL_rule 24 = .ok (.astore 5, 2) := by decide +kernel
theorem dL_rule_26 : decode cL_rule 26 = .ok (.sipush (-7300), 3) := by decide +kernel
theorem dL_rule_29 : decode cL_rule 29 = .ok (.ireturn, 1) := by decide +kernel
theorem dL_rule_30 : decode cL_rule 30 = .ok (.iload 4, 2) := by decide +kernel
theorem dL_rule_32 : decode cL_rule 32 = .ok (.ireturn, 1) := by decide +kernel
set_option maxRecDepth 20000 in
theorem ggL_appeal_X8_appeal : GoodIn wsL_appeal wsX8_appeal := goodIn_ca (goodIn_ca (goodIn_r _ [7, 8, 9, 10, 11, 12, 13, 14, 15, 16, 17, 18, 6, 19, 20, 21, 22, 23, 24, 25, 26, 27, 28, 29, 30, 31, 32, 33, 34, 35, 36, 37, 38, 39, 40, 41, 42, 43, 44, 45, 46, 47, 48, 49, 50, 51, 52, 53, 54, 55, 56, 57, 58, 59, 60, 61, 62, 63, 64, 65, 66, 67, 68, 69, 70, 71, 72] (by decide +kernel) (by decide +kernel)) (goodIn_sub (fun _ h => List.mem_cons_of_mem _ (List.mem_append_left _ (List.mem_append_right _ h))) (by decide +kernel))) (goodIn_sub (fun _ h => List.mem_cons_of_mem _ (List.mem_append_right _ h)) (by decide +kernel))
set_option maxRecDepth 20000 in
theorem gL_appeal_X8_appeal : GoodIn wsL_appeal (wsV RL 82 RX8 yX8_appeal wsX8_appeal) := goodIn_app (goodIn_of _ (by decide +kernel)) ggL_appeal_X8_appeal
theorem dL_appeal_0 : decode cL_appeal 0 = .ok (.aload_n 0, 1) := by decide +kernel
theorem dL_appeal_1 : decode cL_appeal 1 = .ok (.iload_n 1, 1) := by decide +kernel
theorem dL_appeal_2 : decode cL_appeal 2 = .ok (.invokevirtual 82, 3) := by decide +kernel
theorem dL_appeal_5 : decode cL_appeal 5 = .ok (.istore_n 2, 1) := by decide +kernel
theorem dL_appeal_6 : decode cL_appeal 6 = .ok (.goto 13, 3) := by decide +kernel
theorem dL_appeal_9 : decode cL_appeal 9 = .ok (.astore_n 3, 1) := by decide +kernel
theorem dL_appeal_10 : decode cL_appeal 10 = .ok (.sipush (-7100), 3) := by decide +kernel
theorem dL_appeal_13 : decode cL_appeal 13 = .ok (.ireturn, 1) := by decide +kernel
theorem dL_appeal_14 : decode cL_appeal 14 = .ok (.astore_n 3, 1) := by decide +kernel
theorem dL_appeal_15 : decode cL_appeal 15 = .ok (.sipush (-7300), 3) := by decide +kernel
theorem dL_appeal_18 : decode cL_appeal 18 = .ok (.ireturn, 1) := by decide +kernel
theorem dL_appeal_19 : decode cL_appeal 19 = .ok (.iload_n 2, 1) := by decide +kernel
theorem dL_appeal_20 : decode cL_appeal 20 = .ok (.ireturn, 1) := by decide +kernel
set_option maxRecDepth 20000 in
theorem ggL_stateOf_X8_stateOf : GoodIn wsL_stateOf wsX8_stateOf := goodIn_ca (goodIn_r _ [6, 7, 8, 9, 10, 5, 11, 12, 13, 14, 15, 16, 17, 18, 19, 20, 21, 22, 23, 24, 25, 26, 27, 28, 29, 30, 31, 32, 33, 34, 35, 36, 37, 38, 39, 40, 41, 42, 43, 44, 45, 46, 47, 48, 49, 50, 51, 52, 53] (by decide +kernel) (by decide +kernel)) (goodIn_sub (fun _ h => List.mem_cons_of_mem _ (List.mem_append_right _ h)) (by decide +kernel))
set_option maxRecDepth 20000 in
theorem gL_stateOf_X8_stateOf : GoodIn wsL_stateOf (wsV RL 85 RX8 yX8_stateOf wsX8_stateOf) := goodIn_app (goodIn_of _ (by decide +kernel)) ggL_stateOf_X8_stateOf
theorem dL_stateOf_0 : decode cL_stateOf 0 = .ok (.aload_n 0, 1) := by decide +kernel
theorem dL_stateOf_1 : decode cL_stateOf 1 = .ok (.iload_n 1, 1) := by decide +kernel
theorem dL_stateOf_2 : decode cL_stateOf 2 = .ok (.invokevirtual 85, 3) := by decide +kernel
theorem dL_stateOf_5 : decode cL_stateOf 5 = .ok (.istore_n 2, 1) := by decide +kernel
theorem dL_stateOf_6 : decode cL_stateOf 6 = .ok (.goto 8, 3) := by decide +kernel
theorem dL_stateOf_9 : decode cL_stateOf 9 = .ok (.astore_n 3, 1) := by decide +kernel
theorem dL_stateOf_10 : decode cL_stateOf 10 = .ok (.sipush (-7100), 3) := by decide +kernel
theorem dL_stateOf_13 : decode cL_stateOf 13 = .ok (.ireturn, 1) := by decide +kernel
theorem dL_stateOf_14 : decode cL_stateOf 14 = .ok (.iload_n 2, 1) := by decide +kernel
theorem dL_stateOf_15 : decode cL_stateOf 15 = .ok (.ireturn, 1) := by decide +kernel
set_option maxRecDepth 20000 in
theorem ggL_sign_X8_sign : GoodIn wsL_sign wsX8_sign := goodIn_ca (goodIn_ca (goodIn_r _ [7, 8, 9, 10, 11, 12, 13, 14, 15, 16, 17, 6, 18, 19, 20, 21, 22, 23, 24, 25, 26, 27, 28, 29, 30, 31, 32, 33, 34, 35, 36, 37, 38, 39, 40, 41, 42, 43, 44, 45, 46, 47, 48, 49, 50, 51, 52, 53, 54, 55, 56, 57, 58, 59, 60, 61, 62, 63, 64, 65, 66, 67, 68, 69, 70, 71, 72, 73, 74, 75, 76, 77, 78, 79, 80, 81, 82, 83, 84, 85, 86, 87, 88, 89, 90, 91, 92, 93, 94, 95, 96, 97, 98, 99, 100, 101, 102, 103, 104, 105, 106, 107, 108, 109, 110, 111, 112, 113, 114, 115, 116, 117, 118, 119, 120, 121, 122, 123, 124, 125, 126, 127, 128, 129, 130, 131, 132, 133, 134, 135, 136, 137, 138, 139, 140, 141, 142, 143, 144] (by decide +kernel) (by decide +kernel)) (goodIn_sub (fun _ h => List.mem_cons_of_mem _ (List.mem_append_left _ (List.mem_append_right _ h))) (by decide +kernel))) (goodIn_sub (fun _ h => List.mem_cons_of_mem _ (List.mem_append_right _ h)) (by decide +kernel))
set_option maxRecDepth 20000 in
theorem gL_sign_X8_sign : GoodIn wsL_sign (wsV RL 88 RX8 yX8_sign wsX8_sign) := goodIn_app (goodIn_of _ (by decide +kernel)) ggL_sign_X8_sign
theorem dL_sign_0 : decode cL_sign 0 = .ok (.aload_n 0, 1) := by decide +kernel
theorem dL_sign_1 : decode cL_sign 1 = .ok (.iload_n 1, 1) := by decide +kernel
theorem dL_sign_2 : decode cL_sign 2 = .ok (.invokevirtual 88, 3) := by decide +kernel
theorem dL_sign_5 : decode cL_sign 5 = .ok (.istore_n 2, 1) := by decide +kernel
theorem dL_sign_6 : decode cL_sign 6 = .ok (.goto 13, 3) := by decide +kernel
theorem dL_sign_9 : decode cL_sign 9 = .ok (.astore_n 3, 1) := by decide +kernel
theorem dL_sign_10 : decode cL_sign 10 = .ok (.sipush (-7100), 3) := by decide +kernel
theorem dL_sign_13 : decode cL_sign 13 = .ok (.ireturn, 1) := by decide +kernel
theorem dL_sign_14 : decode cL_sign 14 = .ok (.astore_n 3, 1) := by decide +kernel
theorem dL_sign_15 : decode cL_sign 15 = .ok (.sipush (-7300), 3) := by decide +kernel
theorem dL_sign_18 : decode cL_sign 18 = .ok (.ireturn, 1) := by decide +kernel
theorem dL_sign_19 : decode cL_sign 19 = .ok (.iload_n 2, 1) := by decide +kernel
theorem dL_sign_20 : decode cL_sign 20 = .ok (.ireturn, 1) := by decide +kernel
set_option maxRecDepth 20000 in
theorem ggL_call_X8_call : GoodIn wsL_call wsX8_call := goodIn_ca (goodIn_ca (goodIn_ca (goodIn_r _ [8, 9, 10, 11, 12, 13, 14, 15, 16, 17, 18, 19, 20, 21, 7, 22, 23, 24, 25, 26, 27, 28, 29, 30, 31, 32, 33, 34, 35, 36, 37, 38, 39, 40, 41, 42, 43, 44, 45, 46, 47, 48, 49, 50, 51, 52, 53, 54, 55, 56, 57, 58, 59, 60, 61, 62, 63, 64, 65, 66, 67, 68, 69, 70, 71, 72, 73, 74, 75, 76, 77, 78, 79, 80, 81, 82, 83, 84, 85, 86, 87, 88, 89, 90] (by decide +kernel) (by decide +kernel)) (goodIn_sub (fun _ h => List.mem_cons_of_mem _ (List.mem_append_left _ (List.mem_append_left _ (List.mem_append_right _ h)))) (by decide +kernel))) (goodIn_sub (fun _ h => List.mem_cons_of_mem _ (List.mem_append_left _ (List.mem_append_right _ h))) (by decide +kernel))) (goodIn_sub (fun _ h => List.mem_cons_of_mem _ (List.mem_append_right _ h)) (by decide +kernel))
set_option maxRecDepth 20000 in
theorem gL_call_X8_call : GoodIn wsL_call (wsV RL 91 RX8 yX8_call wsX8_call) := goodIn_app (goodIn_of _ (by decide +kernel)) ggL_call_X8_call
theorem dL_call_0 : decode cL_call 0 = .ok (.aload_n 0, 1) := by decide +kernel
theorem dL_call_1 : decode cL_call 1 = .ok (.iload_n 1, 1) := by decide +kernel
theorem dL_call_2 : decode cL_call 2 = .ok (.iload_n 2, 1) := by decide +kernel
theorem dL_call_3 : decode cL_call 3 = .ok (.invokevirtual 91, 3) := by decide +kernel
theorem dL_call_6 : decode cL_call 6 = .ok (.istore_n 3, 1) := by decide +kernel
theorem dL_call_7 : decode cL_call 7 = .ok (.goto 21, 3) := by decide +kernel
theorem dL_call_10 : decode cL_call 10 = .ok (.astore 4, 2) := by decide +kernel
theorem dL_call_12 : decode cL_call 12 = .ok (.sipush (-7100), 3) := by decide +kernel
theorem dL_call_15 : decode cL_call 15 = .ok (.ireturn, 1) := by decide +kernel
theorem dL_call_16 : decode cL_call 16 = .ok (.astore 4, 2) := by decide +kernel
theorem dL_call_18 : decode cL_call 18 = .ok (.sipush (-7200), 3) := by decide +kernel
theorem dL_call_21 : decode cL_call 21 = .ok (.ireturn, 1) := by decide +kernel
theorem dL_call_22 : decode cL_call 22 = .ok (.astore 4, 2) := by decide +kernel
theorem dL_call_24 : decode cL_call 24 = .ok (.sipush (-7300), 3) := by decide +kernel
theorem dL_call_27 : decode cL_call 27 = .ok (.ireturn, 1) := by decide +kernel
theorem dL_call_28 : decode cL_call 28 = .ok (.iload_n 3, 1) := by decide +kernel
theorem dL_call_29 : decode cL_call 29 = .ok (.ireturn, 1) := by decide +kernel
set_option maxRecDepth 20000 in
theorem ggL_running_X8_running : GoodIn wsL_running wsX8_running := goodIn_ca (goodIn_r _ [6, 7, 8, 9, 10, 11, 5, 12, 13, 14, 15, 16, 17, 18, 19, 20, 21, 22, 23, 24, 25, 26, 27, 28, 29, 30, 31, 32, 33, 34, 35, 36, 37, 38, 39, 40, 41, 42, 43, 44, 45, 46, 47, 48, 49, 50, 51, 52, 53, 54, 55, 56, 57, 58, 59, 60, 61, 62, 63, 64, 65, 66, 67, 68, 69, 70, 71] (by decide +kernel) (by decide +kernel)) (goodIn_sub (fun _ h => List.mem_cons_of_mem _ (List.mem_append_right _ h)) (by decide +kernel))
set_option maxRecDepth 20000 in
theorem gL_running_X8_running : GoodIn wsL_running (wsV RL 94 RX8 yX8_running wsX8_running) := goodIn_app (goodIn_of _ (by decide +kernel)) ggL_running_X8_running
theorem dL_running_0 : decode cL_running 0 = .ok (.aload_n 0, 1) := by decide +kernel
theorem dL_running_1 : decode cL_running 1 = .ok (.iload_n 1, 1) := by decide +kernel
theorem dL_running_2 : decode cL_running 2 = .ok (.invokevirtual 94, 3) := by decide +kernel
theorem dL_running_5 : decode cL_running 5 = .ok (.istore_n 2, 1) := by decide +kernel
theorem dL_running_6 : decode cL_running 6 = .ok (.goto 8, 3) := by decide +kernel
theorem dL_running_9 : decode cL_running 9 = .ok (.astore_n 3, 1) := by decide +kernel
theorem dL_running_10 : decode cL_running 10 = .ok (.sipush (-7100), 3) := by decide +kernel
theorem dL_running_13 : decode cL_running 13 = .ok (.ireturn, 1) := by decide +kernel
theorem dL_running_14 : decode cL_running 14 = .ok (.iload_n 2, 1) := by decide +kernel
theorem dL_running_15 : decode cL_running 15 = .ok (.ireturn, 1) := by decide +kernel
set_option maxRecDepth 20000 in
theorem ggL_owes_X8_owes : GoodIn wsL_owes wsX8_owes := goodIn_ca (goodIn_r _ [6, 7, 8, 9, 10, 11, 12, 13, 14, 15, 5, 16, 17, 18, 19, 20, 21, 22, 23, 24, 25, 26, 27, 28, 29, 30, 31, 32, 33, 34, 35, 36, 37, 38, 39, 40, 41, 42, 43, 44, 45, 46, 47, 48, 49, 50, 51, 52, 53, 54, 55, 56, 57, 58, 59, 60, 61, 62, 63, 64, 65] (by decide +kernel) (by decide +kernel)) (goodIn_sub (fun _ h => List.mem_cons_of_mem _ (List.mem_append_right _ h)) (by decide +kernel))
set_option maxRecDepth 20000 in
theorem gL_owes_X8_owes : GoodIn wsL_owes (wsV RL 97 RX8 yX8_owes wsX8_owes) := goodIn_app (goodIn_of _ (by decide +kernel)) ggL_owes_X8_owes
theorem dL_owes_0 : decode cL_owes 0 = .ok (.aload_n 0, 1) := by decide +kernel
theorem dL_owes_1 : decode cL_owes 1 = .ok (.iload_n 1, 1) := by decide +kernel
theorem dL_owes_2 : decode cL_owes 2 = .ok (.invokevirtual 97, 3) := by decide +kernel
theorem dL_owes_5 : decode cL_owes 5 = .ok (.istore_n 2, 1) := by decide +kernel
theorem dL_owes_6 : decode cL_owes 6 = .ok (.goto 8, 3) := by decide +kernel
theorem dL_owes_9 : decode cL_owes 9 = .ok (.astore_n 3, 1) := by decide +kernel
theorem dL_owes_10 : decode cL_owes 10 = .ok (.sipush (-7100), 3) := by decide +kernel
theorem dL_owes_13 : decode cL_owes 13 = .ok (.ireturn, 1) := by decide +kernel
theorem dL_owes_14 : decode cL_owes 14 = .ok (.iload_n 2, 1) := by decide +kernel
theorem dL_owes_15 : decode cL_owes 15 = .ok (.ireturn, 1) := by decide +kernel
set_option maxRecDepth 20000 in
theorem ggL_held_X8_held : GoodIn wsL_held wsX8_held := goodIn_ca (goodIn_r _ [6, 7, 8, 9, 10, 11, 12, 13, 5, 14, 15, 16, 17, 18, 19, 20, 21, 22, 23, 24, 25, 26, 27, 28, 29, 30, 31, 32, 33, 34, 35, 36, 37, 38, 39, 40, 41, 42, 43, 44, 45, 46, 47, 48, 49, 50, 51, 52, 53, 54, 55, 56, 57, 58, 59, 60, 61, 62, 63, 64, 65, 66, 67, 68, 69, 70, 71, 72, 73, 74, 75, 76, 77, 78, 79, 80, 81, 82, 83, 84, 85, 86, 87, 88, 89, 90, 91, 92, 93, 94, 95, 96, 97, 98] (by decide +kernel) (by decide +kernel)) (goodIn_sub (fun _ h => List.mem_cons_of_mem _ (List.mem_append_right _ h)) (by decide +kernel))
set_option maxRecDepth 20000 in
theorem gL_held_X8_held : GoodIn wsL_held (wsV RL 100 RX8 yX8_held wsX8_held) := goodIn_app (goodIn_of _ (by decide +kernel)) ggL_held_X8_held
theorem dL_held_0 : decode cL_held 0 = .ok (.aload_n 0, 1) := by decide +kernel
theorem dL_held_1 : decode cL_held 1 = .ok (.iload_n 1, 1) := by decide +kernel
theorem dL_held_2 : decode cL_held 2 = .ok (.invokevirtual 100, 3) := by decide +kernel
theorem dL_held_5 : decode cL_held 5 = .ok (.istore_n 2, 1) := by decide +kernel
theorem dL_held_6 : decode cL_held 6 = .ok (.goto 8, 3) := by decide +kernel
theorem dL_held_9 : decode cL_held 9 = .ok (.astore_n 3, 1) := by decide +kernel
theorem dL_held_10 : decode cL_held 10 = .ok (.sipush (-7100), 3) := by decide +kernel
theorem dL_held_13 : decode cL_held 13 = .ok (.ireturn, 1) := by decide +kernel
theorem dL_held_14 : decode cL_held 14 = .ok (.iload_n 2, 1) := by decide +kernel
theorem dL_held_15 : decode cL_held 15 = .ok (.ireturn, 1) := by decide +kernel
set_option maxRecDepth 20000 in
theorem ggL_lost_X8_lost : GoodIn wsL_lost wsX8_lost := goodIn_ca (goodIn_r _ [6, 7, 8, 9, 10, 11, 12, 13, 14, 15, 5, 16, 17, 18, 19, 20, 21, 22, 23, 24, 25, 26, 27, 28, 29, 30, 31, 32, 33, 34, 35, 36, 37, 38, 39, 40, 41, 42, 43, 44, 45, 46, 47, 48, 49, 50, 51, 52, 53, 54, 55, 56, 57, 58, 59, 60, 61, 62, 63, 64, 65, 66, 67, 68] (by decide +kernel) (by decide +kernel)) (goodIn_sub (fun _ h => List.mem_cons_of_mem _ (List.mem_append_right _ h)) (by decide +kernel))
set_option maxRecDepth 20000 in
theorem gL_lost_X8_lost : GoodIn wsL_lost (wsV RL 103 RX8 yX8_lost wsX8_lost) := goodIn_app (goodIn_of _ (by decide +kernel)) ggL_lost_X8_lost
theorem dL_lost_0 : decode cL_lost 0 = .ok (.aload_n 0, 1) := by decide +kernel
theorem dL_lost_1 : decode cL_lost 1 = .ok (.iload_n 1, 1) := by decide +kernel
theorem dL_lost_2 : decode cL_lost 2 = .ok (.invokevirtual 103, 3) := by decide +kernel
theorem dL_lost_5 : decode cL_lost 5 = .ok (.istore_n 2, 1) := by decide +kernel
theorem dL_lost_6 : decode cL_lost 6 = .ok (.goto 8, 3) := by decide +kernel
theorem dL_lost_9 : decode cL_lost 9 = .ok (.astore_n 3, 1) := by decide +kernel
theorem dL_lost_10 : decode cL_lost 10 = .ok (.sipush (-7100), 3) := by decide +kernel
theorem dL_lost_13 : decode cL_lost 13 = .ok (.ireturn, 1) := by decide +kernel
theorem dL_lost_14 : decode cL_lost 14 = .ok (.iload_n 2, 1) := by decide +kernel
theorem dL_lost_15 : decode cL_lost 15 = .ok (.ireturn, 1) := by decide +kernel
theorem dL_isOpened_0 : decode cL_isOpened 0 = .ok (.aload_n 1, 1) := by decide +kernel
theorem dL_isOpened_1 : decode cL_isOpened 1 = .ok (.iconst 0, 1) := by decide +kernel
theorem dL_isOpened_2 : decode cL_isOpened 2 = .ok (.iaload, 1) := by decide +kernel
theorem dL_isOpened_3 : decode cL_isOpened 3 = .ok (.aload_n 0, 1) := by decide +kernel
theorem dL_isOpened_4 : decode cL_isOpened 4 = .ok (.iload_n 2, 1) := by decide +kernel
theorem dL_isOpened_5 : decode cL_isOpened 5 = .ok (.iaload, 1) := by decide +kernel
theorem dL_isOpened_6 : decode cL_isOpened 6 = .ok (.sipush 1023, 3) := by decide +kernel
theorem dL_isOpened_9 : decode cL_isOpened 9 = .ok (.iand, 1) := by decide +kernel
theorem dL_isOpened_10 : decode cL_isOpened 10 = .ok (.if_icmp .lt 7, 3) := by decide +kernel
theorem dL_isOpened_13 : decode cL_isOpened 13 = .ok (.iconst 1, 1) := by decide +kernel
theorem dL_isOpened_14 : decode cL_isOpened 14 = .ok (.goto 4, 3) := by decide +kernel
theorem dL_isOpened_17 : decode cL_isOpened 17 = .ok (.iconst 0, 1) := by decide +kernel
theorem dL_isOpened_18 : decode cL_isOpened 18 = .ok (.ireturn, 1) := by decide +kernel
set_option maxRecDepth 20000 in
theorem ggL_takes_L_isOpened : GoodIn wsL_takes wsL_isOpened := goodIn_r _ [4] (by decide +kernel) (by decide +kernel)
set_option maxRecDepth 20000 in
theorem gL_takes_L_isOpened : GoodIn wsL_takes (va_wsS RL 106 yL_isOpened wsL_isOpened) := goodIn_app (goodIn_of _ (by decide +kernel)) ggL_takes_L_isOpened
theorem dL_takes_0 : decode cL_takes 0 = .ok (.aload_n 0, 1) := by decide +kernel
theorem dL_takes_1 : decode cL_takes 1 = .ok (.aload 4, 2) := by decide +kernel
theorem dL_takes_3 : decode cL_takes 3 = .ok (.iload 5, 2) := by decide +kernel
theorem dL_takes_5 : decode cL_takes 5 = .ok (.bipush 8, 2) := by decide +kernel
theorem dL_takes_7 : decode cL_takes 7 = .ok (.idiv, 1) := by decide +kernel
theorem dL_takes_8 : decode cL_takes 8 = .ok (.invokestatic 106, 3) := by decide +kernel
theorem dL_takes_11 : decode cL_takes 11 = .ok (.ifCond .eq 21, 3) := by decide +kernel
theorem dL_takes_14 : decode cL_takes 14 = .ok (.aload_n 1, 1) := by decide +kernel
theorem dL_takes_15 : decode cL_takes 15 = .ok (.iload 5, 2) := by decide +kernel
theorem dL_takes_17 : decode cL_takes 17 = .ok (.iaload, 1) := by decide +kernel
theorem dL_takes_18 : decode cL_takes 18 = .ok (.ifCond .le 14, 3) := by decide +kernel
theorem dL_takes_21 : decode cL_takes 21 = .ok (.aload_n 2, 1) := by decide +kernel
theorem dL_takes_22 : decode cL_takes 22 = .ok (.iload 5, 2) := by decide +kernel
theorem dL_takes_24 : decode cL_takes 24 = .ok (.iaload, 1) := by decide +kernel
theorem dL_takes_25 : decode cL_takes 25 = .ok (.ifCond .ne 7, 3) := by decide +kernel
theorem dL_takes_28 : decode cL_takes 28 = .ok (.iconst 1, 1) := by decide +kernel
theorem dL_takes_29 : decode cL_takes 29 = .ok (.goto 4, 3) := by decide +kernel
theorem dL_takes_32 : decode cL_takes 32 = .ok (.iconst 0, 1) := by decide +kernel
theorem dL_takes_33 : decode cL_takes 33 = .ok (.istore 6, 2) := by decide +kernel
theorem dL_takes_35 : decode cL_takes 35 = .ok (.iconst 0, 1) := by decide +kernel
theorem dL_takes_36 : decode cL_takes 36 = .ok (.istore 7, 2) := by decide +kernel
theorem dL_takes_38 : decode cL_takes 38 = .ok (.iload 7, 2) := by decide +kernel
theorem dL_takes_40 : decode cL_takes 40 = .ok (.aload 4, 2) := by decide +kernel
theorem dL_takes_42 : decode cL_takes 42 = .ok (.iconst 3, 1) := by decide +kernel
theorem dL_takes_43 : decode cL_takes 43 = .ok (.iaload, 1) := by decide +kernel
theorem dL_takes_44 : decode cL_takes 44 = .ok (.if_icmp .ge 50, 3) := by decide +kernel
theorem dL_takes_47 : decode cL_takes 47 = .ok (.aload_n 3, 1) := by decide +kernel
theorem dL_takes_48 : decode cL_takes 48 = .ok (.iload 7, 2) := by decide +kernel
theorem dL_takes_50 : decode cL_takes 50 = .ok (.iaload, 1) := by decide +kernel
theorem dL_takes_51 : decode cL_takes 51 = .ok (.iconst 2, 1) := by decide +kernel
theorem dL_takes_52 : decode cL_takes 52 = .ok (.ishr, 1) := by decide +kernel
theorem dL_takes_53 : decode cL_takes 53 = .ok (.bipush 15, 2) := by decide +kernel
theorem dL_takes_55 : decode cL_takes 55 = .ok (.iand, 1) := by decide +kernel
theorem dL_takes_56 : decode cL_takes 56 = .ok (.iload 5, 2) := by decide +kernel
theorem dL_takes_58 : decode cL_takes 58 = .ok (.if_icmp .ne 30, 3) := by decide +kernel
theorem dL_takes_61 : decode cL_takes 61 = .ok (.aload_n 3, 1) := by decide +kernel
theorem dL_takes_62 : decode cL_takes 62 = .ok (.iload 7, 2) := by decide +kernel
theorem dL_takes_64 : decode cL_takes 64 = .ok (.iaload, 1) := by decide +kernel
theorem dL_takes_65 : decode cL_takes 65 = .ok (.iconst 3, 1) := by decide +kernel
theorem dL_takes_66 : decode cL_takes 66 = .ok (.iand, 1) := by decide +kernel
theorem dL_takes_67 : decode cL_takes 67 = .ok (.iconst 1, 1) := by decide +kernel
theorem dL_takes_68 : decode cL_takes 68 = .ok (.if_icmp .eq 20, 3) := by decide +kernel
theorem dL_takes_71 : decode cL_takes 71 = .ok (.aload_n 3, 1) := by decide +kernel
theorem dL_takes_72 : decode cL_takes 72 = .ok (.iload 7, 2) := by decide +kernel
theorem dL_takes_74 : decode cL_takes 74 = .ok (.iaload, 1) := by decide +kernel
theorem dL_takes_75 : decode cL_takes 75 = .ok (.iconst 3, 1) := by decide +kernel
theorem dL_takes_76 : decode cL_takes 76 = .ok (.iand, 1) := by decide +kernel
theorem dL_takes_77 : decode cL_takes 77 = .ok (.iconst 2, 1) := by decide +kernel
theorem dL_takes_78 : decode cL_takes 78 = .ok (.if_icmp .ne 7, 3) := by decide +kernel
theorem dL_takes_81 : decode cL_takes 81 = .ok (.iconst 1, 1) := by decide +kernel
theorem dL_takes_82 : decode cL_takes 82 = .ok (.goto 4, 3) := by decide +kernel
theorem dL_takes_85 : decode cL_takes 85 = .ok (.iconst 0, 1) := by decide +kernel
theorem dL_takes_86 : decode cL_takes 86 = .ok (.istore 6, 2) := by decide +kernel
theorem dL_takes_88 : decode cL_takes 88 = .ok (.iinc 7 1, 3) := by decide +kernel
theorem dL_takes_91 : decode cL_takes 91 = .ok (.goto (-53), 3) := by decide +kernel
theorem dL_takes_94 : decode cL_takes 94 = .ok (.iload 6, 2) := by decide +kernel
theorem dL_takes_96 : decode cL_takes 96 = .ok (.ireturn, 1) := by decide +kernel
theorem dL_quality_0 : decode cL_quality 0 = .ok (.aload_n 0, 1) := by decide +kernel
theorem dL_quality_1 : decode cL_quality 1 = .ok (.iload_n 3, 1) := by decide +kernel
theorem dL_quality_2 : decode cL_quality 2 = .ok (.iaload, 1) := by decide +kernel
theorem dL_quality_3 : decode cL_quality 3 = .ok (.bipush 20, 2) := by decide +kernel
theorem dL_quality_5 : decode cL_quality 5 = .ok (.ishr, 1) := by decide +kernel
theorem dL_quality_6 : decode cL_quality 6 = .ok (.istore 4, 2) := by decide +kernel
theorem dL_quality_8 : decode cL_quality 8 = .ok (.iconst 0, 1) := by decide +kernel
theorem dL_quality_9 : decode cL_quality 9 = .ok (.istore 5, 2) := by decide +kernel
theorem dL_quality_11 : decode cL_quality 11 = .ok (.iload 5, 2) := by decide +kernel
theorem dL_quality_13 : decode cL_quality 13 = .ok (.aload_n 2, 1) := by decide +kernel
theorem dL_quality_14 : decode cL_quality 14 = .ok (.iconst 3, 1) := by decide +kernel
theorem dL_quality_15 : decode cL_quality 15 = .ok (.iaload, 1) := by decide +kernel
theorem dL_quality_16 : decode cL_quality 16 = .ok (.if_icmp .ge 41, 3) := by decide +kernel
theorem dL_quality_19 : decode cL_quality 19 = .ok (.aload_n 1, 1) := by decide +kernel
theorem dL_quality_20 : decode cL_quality 20 = .ok (.iload 5, 2) := by decide +kernel
theorem dL_quality_22 : decode cL_quality 22 = .ok (.iaload, 1) := by decide +kernel
theorem dL_quality_23 : decode cL_quality 23 = .ok (.iconst 2, 1) := by decide +kernel
theorem dL_quality_24 : decode cL_quality 24 = .ok (.ishr, 1) := by decide +kernel
theorem dL_quality_25 : decode cL_quality 25 = .ok (.bipush 15, 2) := by decide +kernel
theorem dL_quality_27 : decode cL_quality 27 = .ok (.iand, 1) := by decide +kernel
theorem dL_quality_28 : decode cL_quality 28 = .ok (.iload_n 3, 1) := by decide +kernel
theorem dL_quality_29 : decode cL_quality 29 = .ok (.if_icmp .ne 22, 3) := by decide +kernel
theorem dL_quality_32 : decode cL_quality 32 = .ok (.aload_n 1, 1) := by decide +kernel
theorem dL_quality_33 : decode cL_quality 33 = .ok (.iload 5, 2) := by decide +kernel
theorem dL_quality_35 : decode cL_quality 35 = .ok (.iaload, 1) := by decide +kernel
theorem dL_quality_36 : decode cL_quality 36 = .ok (.iconst 3, 1) := by decide +kernel
theorem dL_quality_37 : decode cL_quality 37 = .ok (.iand, 1) := by decide +kernel
theorem dL_quality_38 : decode cL_quality 38 = .ok (.iconst 1, 1) := by decide +kernel
theorem dL_quality_39 : decode cL_quality 39 = .ok (.if_icmp .ne 12, 3) := by decide +kernel
theorem dL_quality_42 : decode cL_quality 42 = .ok (.aload_n 1, 1) := by decide +kernel
theorem dL_quality_43 : decode cL_quality 43 = .ok (.iload 5, 2) := by decide +kernel
theorem dL_quality_45 : decode cL_quality 45 = .ok (.iaload, 1) := by decide +kernel
theorem dL_quality_46 : decode cL_quality 46 = .ok (.bipush 6, 2) := by decide +kernel
theorem dL_quality_48 : decode cL_quality 48 = .ok (.ishr, 1) := by decide +kernel
theorem dL_quality_49 : decode cL_quality 49 = .ok (.istore 4, 2) := by decide +kernel
theorem dL_quality_51 : decode cL_quality 51 = .ok (.iinc 5 1, 3) := by decide +kernel
theorem dL_quality_54 : decode cL_quality 54 = .ok (.goto (-43), 3) := by decide +kernel
theorem dL_quality_57 : decode cL_quality 57 = .ok (.iload 4, 2) := by decide +kernel
theorem dL_quality_59 : decode cL_quality 59 = .ok (.ireturn, 1) := by decide +kernel
theorem dL_price_0 : decode cL_price 0 = .ok (.aload_n 0, 1) := by decide +kernel
theorem dL_price_1 : decode cL_price 1 = .ok (.iload_n 1, 1) := by decide +kernel
theorem dL_price_2 : decode cL_price 2 = .ok (.iaload, 1) := by decide +kernel
theorem dL_price_3 : decode cL_price 3 = .ok (.ldc 112, 2) := by decide +kernel
theorem dL_price_5 : decode cL_price 5 = .ok (.iand, 1) := by decide +kernel
theorem dL_price_6 : decode cL_price 6 = .ok (.ireturn, 1) := by decide +kernel
set_option maxRecDepth 20000 in
theorem ggL_points_L_takes : GoodIn wsL_points wsL_takes := goodIn_r _ [5, 6, 7, 4, 8] (by decide +kernel) (by decide +kernel)
set_option maxRecDepth 20000 in
theorem gL_points_L_takes : GoodIn wsL_points (va_wsS RL 114 yL_takes wsL_takes) := goodIn_app (goodIn_of _ (by decide +kernel)) ggL_points_L_takes
set_option maxRecDepth 20000 in
theorem ggL_points_L_price : GoodIn wsL_points wsL_price := goodIn_r _ [11, 12] (by decide +kernel) (by decide +kernel)
set_option maxRecDepth 20000 in
theorem gL_points_L_price : GoodIn wsL_points (va_wsS RL 118 yL_price wsL_price) := goodIn_app (goodIn_of _ (by decide +kernel)) ggL_points_L_price
set_option maxRecDepth 20000 in
theorem ggL_points_L_quality : GoodIn wsL_points wsL_quality := goodIn_r _ [15] (by decide +kernel) (by decide +kernel)
set_option maxRecDepth 20000 in
theorem gL_points_L_quality : GoodIn wsL_points (va_wsS RL 122 yL_quality wsL_quality) := goodIn_app (goodIn_of _ (by decide +kernel)) ggL_points_L_quality
theorem dL_points_0 : decode cL_points 0 = .ok (.ldc 113, 2) := by decide +kernel
theorem dL_points_2 : decode cL_points 2 = .ok (.istore 6, 2) := by decide +kernel
theorem dL_points_4 : decode cL_points 4 = .ok (.iload 5, 2) := by decide +kernel
theorem dL_points_6 : decode cL_points 6 = .ok (.iconst 4, 1) := by decide +kernel
theorem dL_points_7 : decode cL_points 7 = .ok (.idiv, 1) := by decide +kernel
theorem dL_points_8 : decode cL_points 8 = .ok (.iconst 4, 1) := by decide +kernel
theorem dL_points_9 : decode cL_points 9 = .ok (.imul, 1) := by decide +kernel
theorem dL_points_10 : decode cL_points 10 = .ok (.istore 7, 2) := by decide +kernel
theorem dL_points_12 : decode cL_points 12 = .ok (.iload 7, 2) := by decide +kernel
theorem dL_points_14 : decode cL_points 14 = .ok (.iload 5, 2) := by decide +kernel
theorem dL_points_16 : decode cL_points 16 = .ok (.iconst 4, 1) := by decide +kernel
theorem dL_points_17 : decode cL_points 17 = .ok (.idiv, 1) := by decide +kernel
theorem dL_points_18 : decode cL_points 18 = .ok (.iconst 4, 1) := by decide +kernel
theorem dL_points_19 : decode cL_points 19 = .ok (.imul, 1) := by decide +kernel
theorem dL_points_20 : decode cL_points 20 = .ok (.iconst 4, 1) := by decide +kernel
theorem dL_points_21 : decode cL_points 21 = .ok (.iadd, 1) := by decide +kernel
theorem dL_points_22 : decode cL_points 22 = .ok (.if_icmp .ge 42, 3) := by decide +kernel
theorem dL_points_25 : decode cL_points 25 = .ok (.aload_n 0, 1) := by decide +kernel
theorem dL_points_26 : decode cL_points 26 = .ok (.aload_n 1, 1) := by decide +kernel
theorem dL_points_27 : decode cL_points 27 = .ok (.aload_n 2, 1) := by decide +kernel
theorem dL_points_28 : decode cL_points 28 = .ok (.aload_n 3, 1) := by decide +kernel
theorem dL_points_29 : decode cL_points 29 = .ok (.aload 4, 2) := by decide +kernel
theorem dL_points_31 : decode cL_points 31 = .ok (.iload 7, 2) := by decide +kernel
theorem dL_points_33 : decode cL_points 33 = .ok (.invokestatic 114, 3) := by decide +kernel
theorem dL_points_36 : decode cL_points 36 = .ok (.ifCond .eq 22, 3) := by decide +kernel
theorem dL_points_39 : decode cL_points 39 = .ok (.aload_n 1, 1) := by decide +kernel
theorem dL_points_40 : decode cL_points 40 = .ok (.iload 7, 2) := by decide +kernel
theorem dL_points_42 : decode cL_points 42 = .ok (.invokestatic 118, 3) := by decide +kernel
theorem dL_points_45 : decode cL_points 45 = .ok (.iload 6, 2) := by decide +kernel
theorem dL_points_47 : decode cL_points 47 = .ok (.if_icmp .ge 11, 3) := by decide +kernel
theorem dL_points_50 : decode cL_points 50 = .ok (.aload_n 1, 1) := by decide +kernel
theorem dL_points_51 : decode cL_points 51 = .ok (.iload 7, 2) := by decide +kernel
theorem dL_points_53 : decode cL_points 53 = .ok (.invokestatic 118, 3) := by decide +kernel
theorem dL_points_56 : decode cL_points 56 = .ok (.istore 6, 2) := by decide +kernel
theorem dL_points_58 : decode cL_points 58 = .ok (.iinc 7 1, 3) := by decide +kernel
theorem dL_points_61 : decode cL_points 61 = .ok (.goto (-49), 3) := by decide +kernel
theorem dL_points_64 : decode cL_points 64 = .ok (.aload_n 0, 1) := by decide +kernel
theorem dL_points_65 : decode cL_points 65 = .ok (.iload 5, 2) := by decide +kernel
theorem dL_points_67 : decode cL_points 67 = .ok (.bipush 8, 2) := by decide +kernel
theorem dL_points_69 : decode cL_points 69 = .ok (.idiv, 1) := by decide +kernel
theorem dL_points_70 : decode cL_points 70 = .ok (.iaload, 1) := by decide +kernel
theorem dL_points_71 : decode cL_points 71 = .ok (.bipush 16, 2) := by decide +kernel
theorem dL_points_73 : decode cL_points 73 = .ok (.ishr, 1) := by decide +kernel
theorem dL_points_74 : decode cL_points 74 = .ok (.bipush 127, 2) := by decide +kernel
theorem dL_points_76 : decode cL_points 76 = .ok (.iand, 1) := by decide +kernel
theorem dL_points_77 : decode cL_points 77 = .ok (.istore 7, 2) := by decide +kernel
theorem dL_points_79 : decode cL_points 79 = .ok (.iconst 0, 1) := by decide +kernel
theorem dL_points_80 : decode cL_points 80 = .ok (.istore 8, 2) := by decide +kernel
theorem dL_points_82 : decode cL_points 82 = .ok (.iload 8, 2) := by decide +kernel
theorem dL_points_84 : decode cL_points 84 = .ok (.iconst 1, 1) := by decide +kernel
theorem dL_points_85 : decode cL_points 85 = .ok (.iadd, 1) := by decide +kernel
theorem dL_points_86 : decode cL_points 86 = .ok (.aload_n 1, 1) := by decide +kernel
theorem dL_points_87 : decode cL_points 87 = .ok (.iload 5, 2) := by decide +kernel
theorem dL_points_89 : decode cL_points 89 = .ok (.invokestatic 118, 3) := by decide +kernel
theorem dL_points_92 : decode cL_points 92 = .ok (.imul, 1) := by decide +kernel
theorem dL_points_93 : decode cL_points 93 = .ok (.iload 6, 2) := by decide +kernel
theorem dL_points_95 : decode cL_points 95 = .ok (.sipush 1000, 3) := by decide +kernel
theorem dL_points_98 : decode cL_points 98 = .ok (.imul, 1) := by decide +kernel
theorem dL_points_99 : decode cL_points 99 = .ok (.if_icmp .gt 38, 3) := by decide +kernel
theorem dL_points_102 : decode cL_points 102 = .ok (.iload 8, 2) := by decide +kernel
theorem dL_points_104 : decode cL_points 104 = .ok (.iload 8, 2) := by decide +kernel
theorem dL_points_106 : decode cL_points 106 = .ok (.bipush 64, 2) := by decide +kernel
theorem dL_points_108 : decode cL_points 108 = .ok (.iadd, 1) := by decide +kernel
theorem dL_points_109 : decode cL_points 109 = .ok (.aload_n 1, 1) := by decide +kernel
theorem dL_points_110 : decode cL_points 110 = .ok (.iload 5, 2) := by decide +kernel
theorem dL_points_112 : decode cL_points 112 = .ok (.invokestatic 118, 3) := by decide +kernel
theorem dL_points_115 : decode cL_points 115 = .ok (.imul, 1) := by decide +kernel
theorem dL_points_116 : decode cL_points 116 = .ok (.iload 6, 2) := by decide +kernel
theorem dL_points_118 : decode cL_points 118 = .ok (.sipush 1000, 3) := by decide +kernel
theorem dL_points_121 : decode cL_points 121 = .ok (.imul, 1) := by decide +kernel
theorem dL_points_122 : decode cL_points 122 = .ok (.if_icmp .gt 8, 3) := by decide +kernel
theorem dL_points_125 : decode cL_points 125 = .ok (.bipush 64, 2) := by decide +kernel
theorem dL_points_127 : decode cL_points 127 = .ok (.goto 4, 3) := by decide +kernel
theorem dL_points_130 : decode cL_points 130 = .ok (.iconst 1, 1) := by decide +kernel
theorem dL_points_131 : decode cL_points 131 = .ok (.iadd, 1) := by decide +kernel
theorem dL_points_132 : decode cL_points 132 = .ok (.istore 8, 2) := by decide +kernel
theorem dL_points_134 : decode cL_points 134 = .ok (.goto (-52), 3) := by decide +kernel
theorem dL_points_137 : decode cL_points 137 = .ok (.iload 8, 2) := by decide +kernel
theorem dL_points_139 : decode cL_points 139 = .ok (.iload 7, 2) := by decide +kernel
theorem dL_points_141 : decode cL_points 141 = .ok (.imul, 1) := by decide +kernel
theorem dL_points_142 : decode cL_points 142 = .ok (.bipush 10, 2) := by decide +kernel
theorem dL_points_144 : decode cL_points 144 = .ok (.aload_n 1, 1) := by decide +kernel
theorem dL_points_145 : decode cL_points 145 = .ok (.aload_n 3, 1) := by decide +kernel
theorem dL_points_146 : decode cL_points 146 = .ok (.aload 4, 2) := by decide +kernel
theorem dL_points_148 : decode cL_points 148 = .ok (.iload 5, 2) := by decide +kernel
theorem dL_points_150 : decode cL_points 150 = .ok (.invokestatic 122, 3) := by decide +kernel
theorem dL_points_153 : decode cL_points 153 = .ok (.imul, 1) := by decide +kernel
theorem dL_points_154 : decode cL_points 154 = .ok (.bipush 100, 2) := by decide +kernel
theorem dL_points_156 : decode cL_points 156 = .ok (.iload 7, 2) := by decide +kernel
theorem dL_points_158 : decode cL_points 158 = .ok (.isub, 1) := by decide +kernel
theorem dL_points_159 : decode cL_points 159 = .ok (.imul, 1) := by decide +kernel
theorem dL_points_160 : decode cL_points 160 = .ok (.iadd, 1) := by decide +kernel
theorem dL_points_161 : decode cL_points 161 = .ok (.ireturn, 1) := by decide +kernel
set_option maxRecDepth 20000 in
theorem ggL_best_L_takes : GoodIn wsL_best wsL_takes := goodIn_r _ [4, 5, 6, 3, 7] (by decide +kernel) (by decide +kernel)
set_option maxRecDepth 20000 in
theorem gL_best_L_takes : GoodIn wsL_best (va_wsS RL 114 yL_takes wsL_takes) := goodIn_app (goodIn_of _ (by decide +kernel)) ggL_best_L_takes
set_option maxRecDepth 20000 in
theorem ggL_best_L_points : GoodIn wsL_best wsL_points := goodIn_r _ [10, 11, 1, 2, 3, 4, 5, 6, 7, 12, 13, 14, 15, 16, 17, 18] (by decide +kernel) (by decide +kernel)
set_option maxRecDepth 20000 in
theorem gL_best_L_points : GoodIn wsL_best (va_wsS RL 126 yL_points wsL_points) := goodIn_app (goodIn_of _ (by decide +kernel)) ggL_best_L_points
set_option maxRecDepth 20000 in
theorem ggL_best_L_price : GoodIn wsL_best wsL_price := goodIn_r _ [14, 15] (by decide +kernel) (by decide +kernel)
set_option maxRecDepth 20000 in
theorem gL_best_L_price : GoodIn wsL_best (va_wsS RL 118 yL_price wsL_price) := goodIn_app (goodIn_of _ (by decide +kernel)) ggL_best_L_price
theorem dL_best_0 : decode cL_best 0 = .ok (.iconst (-1), 1) := by decide +kernel
theorem dL_best_1 : decode cL_best 1 = .ok (.istore 8, 2) := by decide +kernel
theorem dL_best_3 : decode cL_best 3 = .ok (.iconst 4, 1) := by decide +kernel
theorem dL_best_4 : decode cL_best 4 = .ok (.iload 6, 2) := by decide +kernel
theorem dL_best_6 : decode cL_best 6 = .ok (.imul, 1) := by decide +kernel
theorem dL_best_7 : decode cL_best 7 = .ok (.istore 9, 2) := by decide +kernel
theorem dL_best_9 : decode cL_best 9 = .ok (.iload 9, 2) := by decide +kernel
theorem dL_best_11 : decode cL_best 11 = .ok (.iconst 4, 1) := by decide +kernel
theorem dL_best_12 : decode cL_best 12 = .ok (.iload 6, 2) := by decide +kernel
theorem dL_best_14 : decode cL_best 14 = .ok (.imul, 1) := by decide +kernel
theorem dL_best_15 : decode cL_best 15 = .ok (.iconst 4, 1) := by decide +kernel
theorem dL_best_16 : decode cL_best 16 = .ok (.iadd, 1) := by decide +kernel
theorem dL_best_17 : decode cL_best 17 = .ok (.if_icmp .ge 136, 3) := by decide +kernel
theorem dL_best_20 : decode cL_best 20 = .ok (.iload 7, 2) := by decide +kernel
theorem dL_best_22 : decode cL_best 22 = .ok (.iload 9, 2) := by decide +kernel
theorem dL_best_24 : decode cL_best 24 = .ok (.iconst 4, 1) := by decide +kernel
theorem dL_best_25 : decode cL_best 25 = .ok (.irem, 1) := by decide +kernel
theorem dL_best_26 : decode cL_best 26 = .ok (.ishr, 1) := by decide +kernel
theorem dL_best_27 : decode cL_best 27 = .ok (.iconst 1, 1) := by decide +kernel
theorem dL_best_28 : decode cL_best 28 = .ok (.iand, 1) := by decide +kernel
theorem dL_best_29 : decode cL_best 29 = .ok (.iconst 1, 1) := by decide +kernel
theorem dL_best_30 : decode cL_best 30 = .ok (.if_icmp .eq 117, 3) := by decide +kernel
theorem dL_best_33 : decode cL_best 33 = .ok (.aload_n 0, 1) := by decide +kernel
theorem dL_best_34 : decode cL_best 34 = .ok (.aload_n 1, 1) := by decide +kernel
theorem dL_best_35 : decode cL_best 35 = .ok (.aload_n 3, 1) := by decide +kernel
theorem dL_best_36 : decode cL_best 36 = .ok (.aload 4, 2) := by decide +kernel
theorem dL_best_38 : decode cL_best 38 = .ok (.aload 5, 2) := by decide +kernel
theorem dL_best_40 : decode cL_best 40 = .ok (.iload 9, 2) := by decide +kernel
theorem dL_best_42 : decode cL_best 42 = .ok (.invokestatic 114, 3) := by decide +kernel
theorem dL_best_45 : decode cL_best 45 = .ok (.ifCond .ne 6, 3) := by decide +kernel
theorem dL_best_48 : decode cL_best 48 = .ok (.goto 99, 3) := by decide +kernel
theorem dL_best_51 : decode cL_best 51 = .ok (.iload 8, 2) := by decide +kernel
theorem dL_best_53 : decode cL_best 53 = .ok (.ifCond .ge 7, 3) := by decide +kernel
theorem dL_best_56 : decode cL_best 56 = .ok (.iconst 1, 1) := by decide +kernel
theorem dL_best_57 : decode cL_best 57 = .ok (.goto 28, 3) := by decide +kernel
theorem dL_best_60 : decode cL_best 60 = .ok (.aload_n 0, 1) := by decide +kernel
theorem dL_best_61 : decode cL_best 61 = .ok (.aload_n 1, 1) := by decide +kernel
theorem dL_best_62 : decode cL_best 62 = .ok (.aload_n 3, 1) := by decide +kernel
theorem dL_best_63 : decode cL_best 63 = .ok (.aload 4, 2) := by decide +kernel
theorem dL_best_65 : decode cL_best 65 = .ok (.aload 5, 2) := by decide +kernel
theorem dL_best_67 : decode cL_best 67 = .ok (.iload 9, 2) := by decide +kernel
theorem dL_best_69 : decode cL_best 69 = .ok (.invokestatic 126, 3) := by decide +kernel
theorem dL_best_72 : decode cL_best 72 = .ok (.aload_n 0, 1) := by decide +kernel
theorem dL_best_73 : decode cL_best 73 = .ok (.aload_n 1, 1) := by decide +kernel
theorem dL_best_74 : decode cL_best 74 = .ok (.aload_n 3, 1) := by decide +kernel
theorem dL_best_75 : decode cL_best 75 = .ok (.aload 4, 2) := by decide +kernel
theorem dL_best_77 : decode cL_best 77 = .ok (.aload 5, 2) := by decide +kernel
theorem dL_best_79 : decode cL_best 79 = .ok (.iload 8, 2) := by decide +kernel
theorem dL_best_81 : decode cL_best 81 = .ok (.invokestatic 126, 3) := by decide +kernel
theorem dL_best_84 : decode cL_best 84 = .ok (.isub, 1) := by decide +kernel
theorem dL_best_85 : decode cL_best 85 = .ok (.istore 10, 2) := by decide +kernel
theorem dL_best_87 : decode cL_best 87 = .ok (.iload 10, 2) := by decide +kernel
theorem dL_best_89 : decode cL_best 89 = .ok (.ifCond .ne 19, 3) := by decide +kernel
theorem dL_best_92 : decode cL_best 92 = .ok (.aload_n 1, 1) := by decide +kernel
theorem dL_best_93 : decode cL_best 93 = .ok (.iload 8, 2) := by decide +kernel
theorem dL_best_95 : decode cL_best 95 = .ok (.invokestatic 118, 3) := by decide +kernel
theorem dL_best_98 : decode cL_best 98 = .ok (.aload_n 1, 1) := by decide +kernel
theorem dL_best_99 : decode cL_best 99 = .ok (.iload 9, 2) := by decide +kernel
theorem dL_best_101 : decode cL_best 101 = .ok (.invokestatic 118, 3) := by decide +kernel
theorem dL_best_104 : decode cL_best 104 = .ok (.isub, 1) := by decide +kernel
theorem dL_best_105 : decode cL_best 105 = .ok (.goto 5, 3) := by decide +kernel
theorem dL_best_108 : decode cL_best 108 = .ok (.iload 10, 2) := by decide +kernel
theorem dL_best_110 : decode cL_best 110 = .ok (.istore 10, 2) := by decide +kernel
theorem dL_best_112 : decode cL_best 112 = .ok (.iload 10, 2) := by decide +kernel
theorem dL_best_114 : decode cL_best 114 = .ok (.ifCond .ne 15, 3) := by decide +kernel
theorem dL_best_117 : decode cL_best 117 = .ok (.aload_n 2, 1) := by decide +kernel
theorem dL_best_118 : decode cL_best 118 = .ok (.iload 8, 2) := by decide +kernel
theorem dL_best_120 : decode cL_best 120 = .ok (.iaload, 1) := by decide +kernel
theorem dL_best_121 : decode cL_best 121 = .ok (.aload_n 2, 1) := by decide +kernel
theorem dL_best_122 : decode cL_best 122 = .ok (.iload 9, 2) := by decide +kernel
theorem dL_best_124 : decode cL_best 124 = .ok (.iaload, 1) := by decide +kernel
theorem dL_best_125 : decode cL_best 125 = .ok (.isub, 1) := by decide +kernel
theorem dL_best_126 : decode cL_best 126 = .ok (.goto 5, 3) := by decide +kernel
theorem dL_best_129 : decode cL_best 129 = .ok (.iload 10, 2) := by decide +kernel
theorem dL_best_131 : decode cL_best 131 = .ok (.istore 10, 2) := by decide +kernel
theorem dL_best_133 : decode cL_best 133 = .ok (.iload 10, 2) := by decide +kernel
theorem dL_best_135 : decode cL_best 135 = .ok (.ifCond .le 8, 3) := by decide +kernel
theorem dL_best_138 : decode cL_best 138 = .ok (.iload 9, 2) := by decide +kernel
theorem dL_best_140 : decode cL_best 140 = .ok (.goto 5, 3) := by decide +kernel
theorem dL_best_143 : decode cL_best 143 = .ok (.iload 8, 2) := by decide +kernel
theorem dL_best_145 : decode cL_best 145 = .ok (.istore 8, 2) := by decide +kernel
theorem dL_best_147 : decode cL_best 147 = .ok (.iinc 9 1, 3) := by decide +kernel
theorem dL_best_150 : decode cL_best 150 = .ok (.goto (-141), 3) := by decide +kernel
theorem dL_best_153 : decode cL_best 153 = .ok (.iload 8, 2) := by decide +kernel
theorem dL_best_155 : decode cL_best 155 = .ok (.ireturn, 1) := by decide +kernel
theorem dL_openOnes_0 : decode cL_openOnes 0 = .ok (.iconst 0, 1) := by decide +kernel
theorem dL_openOnes_1 : decode cL_openOnes 1 = .ok (.istore_n 3, 1) := by decide +kernel
theorem dL_openOnes_2 : decode cL_openOnes 2 = .ok (.iconst 0, 1) := by decide +kernel
theorem dL_openOnes_3 : decode cL_openOnes 3 = .ok (.istore 4, 2) := by decide +kernel
theorem dL_openOnes_5 : decode cL_openOnes 5 = .ok (.iload 4, 2) := by decide +kernel
theorem dL_openOnes_7 : decode cL_openOnes 7 = .ok (.aload_n 1, 1) := by decide +kernel
theorem dL_openOnes_8 : decode cL_openOnes 8 = .ok (.iconst 5, 1) := by decide +kernel
theorem dL_openOnes_9 : decode cL_openOnes 9 = .ok (.iaload, 1) := by decide +kernel
theorem dL_openOnes_10 : decode cL_openOnes 10 = .ok (.if_icmp .ge 40, 3) := by decide +kernel
theorem dL_openOnes_13 : decode cL_openOnes 13 = .ok (.iload_n 3, 1) := by decide +kernel
theorem dL_openOnes_14 : decode cL_openOnes 14 = .ok (.aload_n 0, 1) := by decide +kernel
theorem dL_openOnes_15 : decode cL_openOnes 15 = .ok (.iload 4, 2) := by decide +kernel
theorem dL_openOnes_17 : decode cL_openOnes 17 = .ok (.iaload, 1) := by decide +kernel
theorem dL_openOnes_18 : decode cL_openOnes 18 = .ok (.bipush 31, 2) := by decide +kernel
theorem dL_openOnes_20 : decode cL_openOnes 20 = .ok (.iand, 1) := by decide +kernel
theorem dL_openOnes_21 : decode cL_openOnes 21 = .ok (.iload_n 2, 1) := by decide +kernel
theorem dL_openOnes_22 : decode cL_openOnes 22 = .ok (.if_icmp .ne 19, 3) := by decide +kernel
theorem dL_openOnes_25 : decode cL_openOnes 25 = .ok (.aload_n 0, 1) := by decide +kernel
theorem dL_openOnes_26 : decode cL_openOnes 26 = .ok (.iload 4, 2) := by decide +kernel
theorem dL_openOnes_28 : decode cL_openOnes 28 = .ok (.iaload, 1) := by decide +kernel
theorem dL_openOnes_29 : decode cL_openOnes 29 = .ok (.bipush 9, 2) := by decide +kernel
theorem dL_openOnes_31 : decode cL_openOnes 31 = .ok (.ishr, 1) := by decide +kernel
theorem dL_openOnes_32 : decode cL_openOnes 32 = .ok (.iconst 3, 1) := by decide +kernel
theorem dL_openOnes_33 : decode cL_openOnes 33 = .ok (.iand, 1) := by decide +kernel
theorem dL_openOnes_34 : decode cL_openOnes 34 = .ok (.ifCond .ne 7, 3) := by decide +kernel
theorem dL_openOnes_37 : decode cL_openOnes 37 = .ok (.iconst 1, 1) := by decide +kernel
theorem dL_openOnes_38 : decode cL_openOnes 38 = .ok (.goto 4, 3) := by decide +kernel
theorem dL_openOnes_41 : decode cL_openOnes 41 = .ok (.iconst 0, 1) := by decide +kernel
theorem dL_openOnes_42 : decode cL_openOnes 42 = .ok (.iadd, 1) := by decide +kernel
theorem dL_openOnes_43 : decode cL_openOnes 43 = .ok (.istore_n 3, 1) := by decide +kernel
theorem dL_openOnes_44 : decode cL_openOnes 44 = .ok (.iinc 4 1, 3) := by decide +kernel
theorem dL_openOnes_47 : decode cL_openOnes 47 = .ok (.goto (-42), 3) := by decide +kernel
theorem dL_openOnes_50 : decode cL_openOnes 50 = .ok (.iload_n 3, 1) := by decide +kernel
theorem dL_openOnes_51 : decode cL_openOnes 51 = .ok (.ireturn, 1) := by decide +kernel
theorem dL_gone_0 : decode cL_gone 0 = .ok (.aload_n 0, 1) := by decide +kernel
theorem dL_gone_1 : decode cL_gone 1 = .ok (.iload_n 1, 1) := by decide +kernel
theorem dL_gone_2 : decode cL_gone 2 = .ok (.iaload, 1) := by decide +kernel
theorem dL_gone_3 : decode cL_gone 3 = .ok (.bipush 16, 2) := by decide +kernel
theorem dL_gone_5 : decode cL_gone 5 = .ok (.ishr, 1) := by decide +kernel
theorem dL_gone_6 : decode cL_gone 6 = .ok (.iconst 1, 1) := by decide +kernel
theorem dL_gone_7 : decode cL_gone 7 = .ok (.iand, 1) := by decide +kernel
theorem dL_gone_8 : decode cL_gone 8 = .ok (.iconst 1, 1) := by decide +kernel
theorem dL_gone_9 : decode cL_gone 9 = .ok (.if_icmp .ne 7, 3) := by decide +kernel
theorem dL_gone_12 : decode cL_gone 12 = .ok (.iconst 1, 1) := by decide +kernel
theorem dL_gone_13 : decode cL_gone 13 = .ok (.goto 4, 3) := by decide +kernel
theorem dL_gone_16 : decode cL_gone 16 = .ok (.iconst 0, 1) := by decide +kernel
theorem dL_gone_17 : decode cL_gone 17 = .ok (.ireturn, 1) := by decide +kernel
theorem dL_stands_0 : decode cL_stands 0 = .ok (.aload_n 1, 1) := by decide +kernel
theorem dL_stands_1 : decode cL_stands 1 = .ok (.iload_n 2, 1) := by decide +kernel
theorem dL_stands_2 : decode cL_stands 2 = .ok (.iaload, 1) := by decide +kernel
theorem dL_stands_3 : decode cL_stands 3 = .ok (.iconst 4, 1) := by decide +kernel
theorem dL_stands_4 : decode cL_stands 4 = .ok (.ishr, 1) := by decide +kernel
theorem dL_stands_5 : decode cL_stands 5 = .ok (.sipush 4095, 3) := by decide +kernel
theorem dL_stands_8 : decode cL_stands 8 = .ok (.iand, 1) := by decide +kernel
theorem dL_stands_9 : decode cL_stands 9 = .ok (.aload_n 0, 1) := by decide +kernel
theorem dL_stands_10 : decode cL_stands 10 = .ok (.aload_n 1, 1) := by decide +kernel
theorem dL_stands_11 : decode cL_stands 11 = .ok (.iload_n 2, 1) := by decide +kernel
theorem dL_stands_12 : decode cL_stands 12 = .ok (.iaload, 1) := by decide +kernel
theorem dL_stands_13 : decode cL_stands 13 = .ok (.iconst 3, 1) := by decide +kernel
theorem dL_stands_14 : decode cL_stands 14 = .ok (.iand, 1) := by decide +kernel
theorem dL_stands_15 : decode cL_stands 15 = .ok (.iconst 2, 1) := by decide +kernel
theorem dL_stands_16 : decode cL_stands 16 = .ok (.idiv, 1) := by decide +kernel
theorem dL_stands_17 : decode cL_stands 17 = .ok (.iaload, 1) := by decide +kernel
theorem dL_stands_18 : decode cL_stands 18 = .ok (.bipush 23, 2) := by decide +kernel
theorem dL_stands_20 : decode cL_stands 20 = .ok (.ishr, 1) := by decide +kernel
theorem dL_stands_21 : decode cL_stands 21 = .ok (.iadd, 1) := by decide +kernel
theorem dL_stands_22 : decode cL_stands 22 = .ok (.ireturn, 1) := by decide +kernel
set_option maxRecDepth 20000 in
theorem ggL_settled_L_gone : GoodIn wsL_settled wsL_gone := goodIn_r _ [4] (by decide +kernel) (by decide +kernel)
set_option maxRecDepth 20000 in
theorem gL_settled_L_gone : GoodIn wsL_settled (va_wsS RL 130 yL_gone wsL_gone) := goodIn_app (goodIn_of _ (by decide +kernel)) ggL_settled_L_gone
set_option maxRecDepth 20000 in
theorem ggL_settled_L_openOnes : GoodIn wsL_settled wsL_openOnes := goodIn_r _ [7] (by decide +kernel) (by decide +kernel)
set_option maxRecDepth 20000 in
theorem gL_settled_L_openOnes : GoodIn wsL_settled (va_wsS RL 134 yL_openOnes wsL_openOnes) := goodIn_app (goodIn_of _ (by decide +kernel)) ggL_settled_L_openOnes
set_option maxRecDepth 20000 in
theorem ggL_settled_L_stands : GoodIn wsL_settled wsL_stands := goodIn_r _ [10] (by decide +kernel) (by decide +kernel)
set_option maxRecDepth 20000 in
theorem gL_settled_L_stands : GoodIn wsL_settled (va_wsS RL 138 yL_stands wsL_stands) := goodIn_app (goodIn_of _ (by decide +kernel)) ggL_settled_L_stands
theorem dL_settled_0 : decode cL_settled 0 = .ok (.aload_n 1, 1) := by decide +kernel
theorem dL_settled_1 : decode cL_settled 1 = .ok (.iload 4, 2) := by decide +kernel
theorem dL_settled_3 : decode cL_settled 3 = .ok (.invokestatic 130, 3) := by decide +kernel
theorem dL_settled_6 : decode cL_settled 6 = .ok (.ifCond .ne 30, 3) := by decide +kernel
theorem dL_settled_9 : decode cL_settled 9 = .ok (.aload_n 2, 1) := by decide +kernel
theorem dL_settled_10 : decode cL_settled 10 = .ok (.aload_n 3, 1) := by decide +kernel
theorem dL_settled_11 : decode cL_settled 11 = .ok (.iload 4, 2) := by decide +kernel
theorem dL_settled_13 : decode cL_settled 13 = .ok (.invokestatic 134, 3) := by decide +kernel
theorem dL_settled_16 : decode cL_settled 16 = .ok (.ifCond .ne 20, 3) := by decide +kernel
theorem dL_settled_19 : decode cL_settled 19 = .ok (.aload_n 3, 1) := by decide +kernel
theorem dL_settled_20 : decode cL_settled 20 = .ok (.iconst 0, 1) := by decide +kernel
theorem dL_settled_21 : decode cL_settled 21 = .ok (.iaload, 1) := by decide +kernel
theorem dL_settled_22 : decode cL_settled 22 = .ok (.aload_n 0, 1) := by decide +kernel
theorem dL_settled_23 : decode cL_settled 23 = .ok (.aload_n 1, 1) := by decide +kernel
theorem dL_settled_24 : decode cL_settled 24 = .ok (.iload 4, 2) := by decide +kernel
theorem dL_settled_26 : decode cL_settled 26 = .ok (.invokestatic 138, 3) := by decide +kernel
theorem dL_settled_29 : decode cL_settled 29 = .ok (.if_icmp .lt 7, 3) := by decide +kernel
theorem dL_settled_32 : decode cL_settled 32 = .ok (.iconst 1, 1) := by decide +kernel
theorem dL_settled_33 : decode cL_settled 33 = .ok (.goto 4, 3) := by decide +kernel
theorem dL_settled_36 : decode cL_settled 36 = .ok (.iconst 0, 1) := by decide +kernel
theorem dL_settled_37 : decode cL_settled 37 = .ok (.ireturn, 1) := by decide +kernel
set_option maxRecDepth 20000 in
theorem ggL_standing_L_gone : GoodIn wsL_standing wsL_gone := goodIn_r _ [4] (by decide +kernel) (by decide +kernel)
set_option maxRecDepth 20000 in
theorem gL_standing_L_gone : GoodIn wsL_standing (va_wsS RL 130 yL_gone wsL_gone) := goodIn_app (goodIn_of _ (by decide +kernel)) ggL_standing_L_gone
theorem dL_standing_0 : decode cL_standing 0 = .ok (.iconst 0, 1) := by decide +kernel
theorem dL_standing_1 : decode cL_standing 1 = .ok (.istore_n 3, 1) := by decide +kernel
theorem dL_standing_2 : decode cL_standing 2 = .ok (.iload_n 3, 1) := by decide +kernel
theorem dL_standing_3 : decode cL_standing 3 = .ok (.aload_n 1, 1) := by decide +kernel
theorem dL_standing_4 : decode cL_standing 4 = .ok (.iconst 4, 1) := by decide +kernel
theorem dL_standing_5 : decode cL_standing 5 = .ok (.iaload, 1) := by decide +kernel
theorem dL_standing_6 : decode cL_standing 6 = .ok (.if_icmp .ge 28, 3) := by decide +kernel
theorem dL_standing_9 : decode cL_standing 9 = .ok (.aload_n 0, 1) := by decide +kernel
theorem dL_standing_10 : decode cL_standing 10 = .ok (.iload_n 3, 1) := by decide +kernel
theorem dL_standing_11 : decode cL_standing 11 = .ok (.iaload, 1) := by decide +kernel
theorem dL_standing_12 : decode cL_standing 12 = .ok (.iconst 3, 1) := by decide +kernel
theorem dL_standing_13 : decode cL_standing 13 = .ok (.iand, 1) := by decide +kernel
theorem dL_standing_14 : decode cL_standing 14 = .ok (.iload_n 2, 1) := by decide +kernel
theorem dL_standing_15 : decode cL_standing 15 = .ok (.if_icmp .ne 13, 3) := by decide +kernel
theorem dL_standing_18 : decode cL_standing 18 = .ok (.aload_n 0, 1) := by decide +kernel
theorem dL_standing_19 : decode cL_standing 19 = .ok (.iload_n 3, 1) := by decide +kernel
theorem dL_standing_20 : decode cL_standing 20 = .ok (.invokestatic 130, 3) := by decide +kernel
theorem dL_standing_23 : decode cL_standing 23 = .ok (.ifCond .ne 5, 3) := by decide +kernel
theorem dL_standing_26 : decode cL_standing 26 = .ok (.iload_n 3, 1) := by decide +kernel
theorem dL_standing_27 : decode cL_standing 27 = .ok (.ireturn, 1) := by decide +kernel
theorem dL_standing_28 : decode cL_standing 28 = .ok (.iinc 3 1, 3) := by decide +kernel
theorem dL_standing_31 : decode cL_standing 31 = .ok (.goto (-29), 3) := by decide +kernel
theorem dL_standing_34 : decode cL_standing 34 = .ok (.iconst (-1), 1) := by decide +kernel
theorem dL_standing_35 : decode cL_standing 35 = .ok (.ireturn, 1) := by decide +kernel
set_option maxRecDepth 20000 in
theorem ggL_give_L_best : GoodIn wsL_give wsL_best := goodIn_r _ [4, 5, 6, 3, 7, 8, 9, 10, 11, 12, 13, 14, 15, 16, 17, 18, 19, 20, 21] (by decide +kernel) (by decide +kernel)
set_option maxRecDepth 20000 in
theorem gL_give_L_best : GoodIn wsL_give (va_wsS RL 141 yL_best wsL_best) := goodIn_app (goodIn_of _ (by decide +kernel)) ggL_give_L_best
theorem dL_give_0 : decode cL_give 0 = .ok (.aload_n 0, 1) := by decide +kernel
theorem dL_give_1 : decode cL_give 1 = .ok (.aload_n 1, 1) := by decide +kernel
theorem dL_give_2 : decode cL_give 2 = .ok (.aload_n 2, 1) := by decide +kernel
theorem dL_give_3 : decode cL_give 3 = .ok (.aload_n 3, 1) := by decide +kernel
theorem dL_give_4 : decode cL_give 4 = .ok (.aload 4, 2) := by decide +kernel
theorem dL_give_6 : decode cL_give 6 = .ok (.aload 6, 2) := by decide +kernel
theorem dL_give_8 : decode cL_give 8 = .ok (.iload 7, 2) := by decide +kernel
theorem dL_give_10 : decode cL_give 10 = .ok (.iconst 0, 1) := by decide +kernel
theorem dL_give_11 : decode cL_give 11 = .ok (.invokestatic 141, 3) := by decide +kernel
theorem dL_give_14 : decode cL_give 14 = .ok (.istore 8, 2) := by decide +kernel
theorem dL_give_16 : decode cL_give 16 = .ok (.iload 8, 2) := by decide +kernel
theorem dL_give_18 : decode cL_give 18 = .ok (.ifCond .ge 5, 3) := by decide +kernel
theorem dL_give_21 : decode cL_give 21 = .ok (.iconst (-1), 1) := by decide +kernel
theorem dL_give_22 : decode cL_give 22 = .ok (.ireturn, 1) := by decide +kernel
theorem dL_give_23 : decode cL_give 23 = .ok (.aload 5, 2) := by decide +kernel
theorem dL_give_25 : decode cL_give 25 = .ok (.aload 6, 2) := by decide +kernel
theorem dL_give_27 : decode cL_give 27 = .ok (.iconst 4, 1) := by decide +kernel
theorem dL_give_28 : decode cL_give 28 = .ok (.iaload, 1) := by decide +kernel
theorem dL_give_29 : decode cL_give 29 = .ok (.iload 7, 2) := by decide +kernel
theorem dL_give_31 : decode cL_give 31 = .ok (.iconst 4, 1) := by decide +kernel
theorem dL_give_32 : decode cL_give 32 = .ok (.iload 8, 2) := by decide +kernel
theorem dL_give_34 : decode cL_give 34 = .ok (.iconst 4, 1) := by decide +kernel
theorem dL_give_35 : decode cL_give 35 = .ok (.irem, 1) := by decide +kernel
theorem dL_give_36 : decode cL_give 36 = .ok (.imul, 1) := by decide +kernel
theorem dL_give_37 : decode cL_give 37 = .ok (.iadd, 1) := by decide +kernel
theorem dL_give_38 : decode cL_give 38 = .ok (.bipush 16, 2) := by decide +kernel
theorem dL_give_40 : decode cL_give 40 = .ok (.aload 6, 2) := by decide +kernel
theorem dL_give_42 : decode cL_give 42 = .ok (.iconst 0, 1) := by decide +kernel
theorem dL_give_43 : decode cL_give 43 = .ok (.iaload, 1) := by decide +kernel
theorem dL_give_44 : decode cL_give 44 = .ok (.imul, 1) := by decide +kernel
theorem dL_give_45 : decode cL_give 45 = .ok (.iadd, 1) := by decide +kernel
theorem dL_give_46 : decode cL_give 46 = .ok (.iastore, 1) := by decide +kernel
theorem dL_give_47 : decode cL_give 47 = .ok (.aload 6, 2) := by decide +kernel
theorem dL_give_49 : decode cL_give 49 = .ok (.iconst 4, 1) := by decide +kernel
theorem dL_give_50 : decode cL_give 50 = .ok (.dup2, 1) := by decide +kernel
theorem dL_give_51 : decode cL_give 51 = .ok (.iaload, 1) := by decide +kernel
theorem dL_give_52 : decode cL_give 52 = .ok (.iconst 1, 1) := by decide +kernel
theorem dL_give_53 : decode cL_give 53 = .ok (.iadd, 1) := by decide +kernel
theorem dL_give_54 : decode cL_give 54 = .ok (.iastore, 1) := by decide +kernel
theorem dL_give_55 : decode cL_give 55 = .ok (.aload 6, 2) := by decide +kernel
theorem dL_give_57 : decode cL_give 57 = .ok (.iconst 4, 1) := by decide +kernel
theorem dL_give_58 : decode cL_give 58 = .ok (.iaload, 1) := by decide +kernel
theorem dL_give_59 : decode cL_give 59 = .ok (.iconst 1, 1) := by decide +kernel
theorem dL_give_60 : decode cL_give 60 = .ok (.isub, 1) := by decide +kernel
theorem dL_give_61 : decode cL_give 61 = .ok (.ireturn, 1) := by decide +kernel
theorem dL_bidOf_0 : decode cL_bidOf 0 = .ok (.iconst 4, 1) := by decide +kernel
theorem dL_bidOf_1 : decode cL_bidOf 1 = .ok (.aload_n 0, 1) := by decide +kernel
theorem dL_bidOf_2 : decode cL_bidOf 2 = .ok (.iload_n 1, 1) := by decide +kernel
theorem dL_bidOf_3 : decode cL_bidOf 3 = .ok (.iaload, 1) := by decide +kernel
theorem dL_bidOf_4 : decode cL_bidOf 4 = .ok (.iconst 3, 1) := by decide +kernel
theorem dL_bidOf_5 : decode cL_bidOf 5 = .ok (.iand, 1) := by decide +kernel
theorem dL_bidOf_6 : decode cL_bidOf 6 = .ok (.imul, 1) := by decide +kernel
theorem dL_bidOf_7 : decode cL_bidOf 7 = .ok (.aload_n 0, 1) := by decide +kernel
theorem dL_bidOf_8 : decode cL_bidOf 8 = .ok (.iload_n 1, 1) := by decide +kernel
theorem dL_bidOf_9 : decode cL_bidOf 9 = .ok (.iaload, 1) := by decide +kernel
theorem dL_bidOf_10 : decode cL_bidOf 10 = .ok (.iconst 2, 1) := by decide +kernel
theorem dL_bidOf_11 : decode cL_bidOf 11 = .ok (.ishr, 1) := by decide +kernel
theorem dL_bidOf_12 : decode cL_bidOf 12 = .ok (.iconst 3, 1) := by decide +kernel
theorem dL_bidOf_13 : decode cL_bidOf 13 = .ok (.iand, 1) := by decide +kernel
theorem dL_bidOf_14 : decode cL_bidOf 14 = .ok (.iadd, 1) := by decide +kernel
theorem dL_bidOf_15 : decode cL_bidOf 15 = .ok (.ireturn, 1) := by decide +kernel
