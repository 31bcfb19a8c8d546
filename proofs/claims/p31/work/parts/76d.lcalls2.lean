/-! names of the law's calls and rows: 15d.lcalls2 -/
set_option maxRecDepth 20000 in
theorem ggL_days_L_settled : GoodIn wsL_days wsL_settled := goodIn_r _ [5, 6, 7, 4, 8, 9, 10, 11, 12, 13, 14] (by decide +kernel) (by decide +kernel)
set_option maxRecDepth 20000 in
theorem gL_days_L_settled : GoodIn wsL_days (va_wsS RL 168 yL_settled wsL_settled) := goodIn_app (goodIn_of _ (by decide +kernel)) ggL_days_L_settled
set_option maxRecDepth 20000 in
theorem ggL_days_L_stands : GoodIn wsL_days wsL_stands := goodIn_r _ [14] (by decide +kernel) (by decide +kernel)
set_option maxRecDepth 20000 in
theorem gL_days_L_stands : GoodIn wsL_days (va_wsS RL 138 yL_stands wsL_stands) := goodIn_app (goodIn_of _ (by decide +kernel)) ggL_days_L_stands
set_option maxRecDepth 20000 in
theorem ggL_days_L_bidOf : GoodIn wsL_days wsL_bidOf := goodIn_r _ [17] (by decide +kernel) (by decide +kernel)
set_option maxRecDepth 20000 in
theorem gL_days_L_bidOf : GoodIn wsL_days (va_wsS RL 173 yL_bidOf wsL_bidOf) := goodIn_app (goodIn_of _ (by decide +kernel)) ggL_days_L_bidOf
set_option maxRecDepth 20000 in
theorem ggL_days_L_give : GoodIn wsL_days wsL_give := goodIn_r _ [20, 21, 22, 4, 23, 24, 25, 26, 27, 28, 29, 30, 31, 32, 33, 34, 35, 36, 37, 38, 39, 40] (by decide +kernel) (by decide +kernel)
set_option maxRecDepth 20000 in
theorem gL_days_L_give : GoodIn wsL_days (va_wsS RL 176 yL_give wsL_give) := goodIn_app (goodIn_of _ (by decide +kernel)) ggL_days_L_give
set_option maxRecDepth 20000 in
theorem ggL_days_L_pass : GoodIn wsL_days wsL_pass := goodIn_ca (goodIn_ca (goodIn_r _ [43, 44, 45, 46, 47, 48, 49, 50, 51, 52, 53, 54, 55, 56, 57, 58, 59, 60, 61, 62, 63, 64, 65, 66, 67, 68, 69, 70, 71, 72, 73, 74, 75, 76, 77, 78, 79, 80, 81, 82, 83, 84, 85, 86, 87, 88, 89, 90, 91, 92, 93, 94, 95, 96, 97, 98, 99, 100, 101, 102, 103, 104, 105, 106, 107, 108, 109, 110, 111, 112, 113, 114, 115, 116, 117, 118, 119, 120, 121, 122, 123, 124, 125, 126, 127, 128, 129, 130, 131, 132, 133, 134, 135, 136, 137, 138, 139, 140, 141, 142, 143, 144, 145, 146, 147, 148, 149, 150, 151, 152, 153, 154, 155, 156, 157, 158, 159, 160, 161, 162, 163, 164, 165, 166, 167, 168, 169, 170, 171, 172, 173, 174, 175, 176, 177, 178, 179, 180, 181, 182, 183, 184, 185, 186, 187, 188, 189, 190, 191, 192, 193, 194, 195, 196, 197, 198, 199, 200, 201, 202, 203, 204, 205, 206, 207, 208, 209, 210, 211, 212, 213, 214, 215, 216, 217, 218, 219, 220, 221, 222, 223, 224, 225, 226, 227, 228, 229, 230, 231, 232, 233, 234, 235, 236, 237, 238, 239, 240, 241, 242, 243, 244, 245, 246, 247, 248, 249, 250, 251, 252, 253, 254, 255, 256, 257, 258, 259, 260, 261, 262, 263, 264, 265, 266, 267, 268, 269, 270, 271, 272, 273, 274, 275, 276, 277, 278, 279, 280, 281, 282, 283, 284, 285, 286, 287, 288, 289, 290, 291, 292, 293, 294, 295, 296, 297, 298, 299, 300, 301, 302, 303, 304] (by decide +kernel) (by decide +kernel)) (goodIn_sub (fun _ h => List.mem_cons_of_mem _ (List.mem_append_left _ (List.mem_append_right _ h))) (by decide +kernel))) (goodIn_sub (fun _ h => List.mem_cons_of_mem _ (List.mem_append_right _ h)) (by decide +kernel))
set_option maxRecDepth 20000 in
theorem gL_days_L_pass : GoodIn wsL_days (va_wsS RL 180 yL_pass wsL_pass) := goodIn_app (goodIn_of _ (by decide +kernel)) ggL_days_L_pass
set_option maxRecDepth 20000 in
theorem ggL_isLine_L_gone : GoodIn wsL_isLine wsL_gone := goodIn_r _ [4] (by decide +kernel) (by decide +kernel)
set_option maxRecDepth 20000 in
theorem gL_isLine_L_gone : GoodIn wsL_isLine (va_wsS RL 130 yL_gone wsL_gone) := goodIn_app (goodIn_of _ (by decide +kernel)) ggL_isLine_L_gone
set_option maxRecDepth 20000 in
theorem ggL_isLine_L_settled : GoodIn wsL_isLine wsL_settled := goodIn_r _ [7, 1, 2, 3, 4, 8, 9, 10, 11, 12, 13] (by decide +kernel) (by decide +kernel)
set_option maxRecDepth 20000 in
theorem gL_isLine_L_settled : GoodIn wsL_isLine (va_wsS RL 168 yL_settled wsL_settled) := goodIn_app (goodIn_of _ (by decide +kernel)) ggL_isLine_L_settled
set_option maxRecDepth 20000 in
theorem ggL_isLine_L_line : GoodIn wsL_isLine wsL_line := goodIn_ca (goodIn_r _ [16, 17, 18, 19, 20, 21, 22, 23, 24, 25, 26, 27, 28, 29, 30, 31, 32, 33, 34, 35, 36, 37, 38, 39, 40, 41, 42, 43, 44, 45, 46, 47, 48, 49, 50, 51, 52, 53, 54, 55, 56, 57, 58, 59, 60, 61, 62, 63, 64, 65, 66, 67, 68, 69, 70, 71, 72, 73, 74, 75, 76, 77, 78, 79, 80, 81, 82, 83, 84, 85, 86, 87, 88, 89, 90, 91, 92, 93, 94, 95, 96, 97, 98, 99, 100, 101, 102, 103, 104, 105, 106, 107, 108, 109, 110, 111, 112, 113, 114, 115, 116, 117, 118, 119, 120, 121, 122, 123, 124, 125, 126, 127, 128, 129, 130, 131, 132, 133, 134, 135, 136, 137, 138, 139, 140, 141, 142, 143, 144, 145, 146, 147, 148, 149, 150, 151, 152, 153, 154, 155, 156, 157, 158, 159, 160, 161, 162, 163, 164, 165, 166, 167, 168, 169, 170, 171, 172, 173, 174, 175, 176, 177, 178, 179, 180, 181, 182, 183, 184, 185, 186, 187, 188, 189, 190, 191, 192, 193, 194, 195, 196, 197, 198, 199, 200, 201, 202, 203, 204, 205, 206, 207, 208, 209, 210, 211, 212, 213, 214, 215, 216, 217, 218, 219, 220, 221, 222, 223, 224, 225, 226, 227, 228, 229, 230, 231, 232, 233, 234, 235, 236, 237, 238, 239, 240, 241, 242, 243, 244, 245, 246, 247, 268, 269, 270, 271, 272, 273, 274, 275, 276, 277, 278, 279, 280, 281, 282, 283, 284, 285, 286, 287, 288, 289, 290, 291, 292, 293, 294, 295, 296, 297, 298, 299, 300, 301, 302, 303, 304, 305, 306, 307, 308, 309, 310] (by decide +kernel) (by decide +kernel)) (goodIn_sub (fun _ h => List.mem_cons_of_mem _ (List.mem_append_right _ h)) (by decide +kernel))
set_option maxRecDepth 20000 in
theorem gL_isLine_L_line : GoodIn wsL_isLine (va_wsS RL 207 yL_line wsL_line) := goodIn_app (goodIn_of _ (by decide +kernel)) ggL_isLine_L_line
set_option maxRecDepth 20000 in
theorem ggL_isLine_L_lineChar : GoodIn wsL_isLine wsL_lineChar := goodIn_ca (goodIn_r _ [250, 17, 251, 252, 253, 21, 254, 27, 28, 23, 24, 25, 26, 29, 30, 31, 32, 33, 34, 35, 36, 37, 38, 39, 40, 41, 42, 43, 44, 45, 46, 47, 48, 49, 50, 51, 52, 53, 54, 55, 56, 57, 58, 59, 60, 61, 62, 63, 64, 65, 66, 67, 68, 69, 70, 71, 72, 73, 74, 75, 76, 77, 78, 79, 80, 81, 82, 83, 84, 85, 86, 87, 88, 89, 90, 91, 92, 93, 94, 95, 96, 97, 98, 99, 100, 101, 102, 103, 104, 105, 106, 107, 108, 109, 110, 111, 112, 113, 114, 115, 116, 117, 118, 119, 120, 121, 122, 123, 124, 125, 126, 127, 128, 129, 130, 131, 132, 133, 134, 135, 136, 137, 138, 139, 140, 141, 142, 143, 144, 145, 146, 147, 148, 149, 150, 151, 152, 153, 154, 155, 156, 157, 158, 159, 160, 161, 162, 163, 164, 165, 166, 167, 168, 169, 170, 171, 172, 173, 174, 175, 176, 177, 178, 179, 180, 181, 182, 183, 184, 185, 186, 187, 188, 189, 190, 191, 192, 193, 194, 195, 196, 197, 198, 199, 200, 201, 202, 203, 204, 205, 206, 207, 208, 209, 210, 211, 212, 213, 214, 215, 216, 217, 218, 219, 220, 221, 222, 223, 224, 225, 226, 227, 228, 229, 230, 231, 232, 233, 234, 235, 236, 237, 238, 239, 240, 241, 242, 243, 244, 245, 246, 247, 255, 256, 257, 258, 259, 260, 261, 262, 263, 264, 265, 266, 267, 268, 269, 270, 271, 272, 273, 274, 275, 276, 277, 278, 279, 280, 281, 282, 283, 284, 285, 286, 287, 288, 289, 290, 291, 292, 293, 294, 295, 296, 297, 298, 299, 300, 301, 302, 303, 304, 305, 306, 307, 308, 309, 310] (by decide +kernel) (by decide +kernel)) (goodIn_sub (fun _ h => List.mem_cons_of_mem _ (List.mem_append_right _ h)) (by decide +kernel))
set_option maxRecDepth 20000 in
theorem gL_isLine_L_lineChar : GoodIn wsL_isLine (va_wsS RL 209 yL_lineChar wsL_lineChar) := goodIn_app (goodIn_of _ (by decide +kernel)) ggL_isLine_L_lineChar
set_option maxRecDepth 20000 in
theorem ggL_isTold_L_best : GoodIn wsL_isTold wsL_best := goodIn_r _ [5, 6, 7, 4, 8, 9, 10, 11, 12, 13, 14, 15, 16, 17, 18, 19, 20, 21, 22] (by decide +kernel) (by decide +kernel)
set_option maxRecDepth 20000 in
theorem gL_isTold_L_best : GoodIn wsL_isTold (va_wsS RL 141 yL_best wsL_best) := goodIn_app (goodIn_of _ (by decide +kernel)) ggL_isTold_L_best
set_option maxRecDepth 20000 in
theorem ggL_isTold_L_ranked : GoodIn wsL_isTold wsL_ranked := goodIn_ca (goodIn_ca (goodIn_r _ [25, 26, 27, 28, 29, 30, 31, 32, 33, 34, 35, 36, 37, 38, 39, 40, 41, 42, 43, 44, 45, 46, 47, 48, 49, 50, 51, 52, 53, 54, 55, 56, 57, 58, 59, 60, 61, 62, 63, 64, 65, 66, 67, 68, 69, 70, 71, 72, 73, 74, 75, 76, 77, 78, 79, 80, 81, 82, 83, 84, 85, 86, 87, 88, 89, 90, 91, 92, 93, 94, 95, 96, 97, 98, 564, 565, 566, 567, 568, 569, 570, 571, 572, 573, 574, 575, 576, 577, 578, 579, 580, 581, 582, 583, 584, 585, 586, 587, 588, 589] (by decide +kernel) (by decide +kernel)) (goodIn_sub (fun _ h => List.mem_cons_of_mem _ (List.mem_append_left _ (List.mem_append_right _ h))) (by decide +kernel))) (goodIn_sub (fun _ h => List.mem_cons_of_mem _ (List.mem_append_right _ h)) (by decide +kernel))
set_option maxRecDepth 20000 in
theorem gL_isTold_L_ranked : GoodIn wsL_isTold (va_wsS RL 164 yL_ranked wsL_ranked) := goodIn_app (goodIn_of _ (by decide +kernel)) ggL_isTold_L_ranked
set_option maxRecDepth 20000 in
theorem ggL_isTold_L_winnerAnew : GoodIn wsL_isTold wsL_winnerAnew := goodIn_ca (goodIn_r _ [101, 26, 102, 103, 104, 31, 105, 106, 35, 36, 37, 38, 39, 40, 41, 42, 43, 44, 45, 46, 47, 48, 49, 50, 51, 52, 53, 54, 55, 56, 57, 58, 59, 60, 61, 62, 63, 64, 65, 66, 67, 68, 69, 70, 71, 107, 108, 109, 110, 111, 112, 113, 114, 115, 75, 116, 117, 118, 92, 119, 120, 77, 78, 121, 122, 123, 124, 125, 126, 127, 128, 129, 130, 131, 132, 133, 134, 135, 136, 137, 138, 139, 140, 141, 142, 143, 144, 81, 82, 145, 146, 147, 148, 149, 150, 151, 152, 153, 154, 155, 156, 157, 158, 159, 160, 161, 162, 163, 164, 165, 166, 167, 168, 169, 170, 171, 172, 173, 174, 175, 176, 177, 178, 179, 180, 181, 182, 183, 184, 185, 186, 187, 188, 189, 190, 191, 192, 193, 194, 195, 196, 197, 198, 199, 200, 201, 202, 203, 204, 205, 206, 207, 208, 209, 210, 211, 212, 213, 214, 215, 216, 217, 218, 219, 220, 221, 94, 80, 79, 222, 223, 224, 225, 226, 227, 72, 73, 74, 76, 83, 84, 85, 86, 87, 88, 89, 90, 91, 93, 95, 96, 97, 98, 579, 580, 581, 582, 583, 564, 565, 566, 567, 568, 569, 570, 571, 572, 573, 574, 575, 576, 577, 578, 584, 585, 586, 587, 588, 589, 590, 591, 592] (by decide +kernel) (by decide +kernel)) (goodIn_sub (fun _ h => List.mem_cons_of_mem _ (List.mem_append_right _ h)) (by decide +kernel))
set_option maxRecDepth 20000 in
theorem gL_isTold_L_winnerAnew : GoodIn wsL_isTold (va_wsS RL 211 yL_winnerAnew wsL_winnerAnew) := goodIn_app (goodIn_of _ (by decide +kernel)) ggL_isTold_L_winnerAnew
set_option maxRecDepth 20000 in
theorem ggL_isTold_L_takes : GoodIn wsL_isTold wsL_takes := goodIn_r _ [8, 9, 10, 4, 11] (by decide +kernel) (by decide +kernel)
set_option maxRecDepth 20000 in
theorem gL_isTold_L_takes : GoodIn wsL_isTold (va_wsS RL 114 yL_takes wsL_takes) := goodIn_app (goodIn_of _ (by decide +kernel)) ggL_isTold_L_takes
set_option maxRecDepth 20000 in
theorem ggL_isTold_L_isIn : GoodIn wsL_isTold wsL_isIn := goodIn_ca (goodIn_r _ [230, 26, 231, 232, 233, 31, 234, 235, 236, 237, 238, 239, 39, 40, 35, 36, 37, 38, 41, 42, 43, 44, 45, 46, 47, 48, 49, 50, 51, 52, 53, 54, 55, 56, 57, 58, 59, 60, 61, 62, 63, 64, 65, 66, 67, 68, 69, 70, 71, 240, 224, 225, 75, 226, 77, 78, 227, 81, 82, 584, 585, 586, 587, 588, 589, 564, 565, 566, 567, 568, 569, 570, 571, 572, 573, 574, 575, 576, 577, 578, 579, 580, 581, 582, 583] (by decide +kernel) (by decide +kernel)) (goodIn_sub (fun _ h => List.mem_cons_of_mem _ (List.mem_append_right _ h)) (by decide +kernel))
set_option maxRecDepth 20000 in
theorem gL_isTold_L_isIn : GoodIn wsL_isTold (va_wsS RL 162 yL_isIn wsL_isIn) := goodIn_app (goodIn_of _ (by decide +kernel)) ggL_isTold_L_isIn
set_option maxRecDepth 20000 in
theorem ggL_isTold_L_score : GoodIn wsL_isTold wsL_score := goodIn_ca (goodIn_r _ [243, 26, 244, 245, 246, 31, 247, 235, 236, 237, 238, 239, 39, 40, 35, 36, 37, 38, 41, 42, 43, 44, 45, 46, 47, 48, 49, 50, 51, 52, 53, 54, 55, 56, 57, 58, 59, 60, 61, 62, 63, 64, 65, 66, 67, 68, 69, 70, 71, 240, 224, 225, 75, 226, 77, 78, 227, 81, 82, 248, 89, 90, 91, 87, 79, 80, 92, 93, 94, 584, 585, 586, 587, 588, 589, 564, 565, 566, 567, 568, 569, 570, 571, 572, 573, 574, 575, 576, 577, 578, 579, 580, 581, 582, 583] (by decide +kernel) (by decide +kernel)) (goodIn_sub (fun _ h => List.mem_cons_of_mem _ (List.mem_append_right _ h)) (by decide +kernel))
set_option maxRecDepth 20000 in
theorem gL_isTold_L_score : GoodIn wsL_isTold (va_wsS RL 213 yL_score wsL_score) := goodIn_app (goodIn_of _ (by decide +kernel)) ggL_isTold_L_score
set_option maxRecDepth 20000 in
theorem ggL_isTold_L_points : GoodIn wsL_isTold wsL_points := goodIn_r _ [14, 15, 6, 7, 4, 8, 9, 10, 11, 16, 17, 18, 19, 20, 21, 22] (by decide +kernel) (by decide +kernel)
set_option maxRecDepth 20000 in
theorem gL_isTold_L_points : GoodIn wsL_isTold (va_wsS RL 126 yL_points wsL_points) := goodIn_app (goodIn_of _ (by decide +kernel)) ggL_isTold_L_points
set_option maxRecDepth 20000 in
theorem ggL_isTold_L_awardOf : GoodIn wsL_isTold wsL_awardOf := goodIn_ca (goodIn_r _ [251, 26, 252, 253, 254, 31, 255, 256, 35, 36, 37, 38, 39, 40, 41, 42, 43, 44, 45, 46, 47, 48, 49, 50, 51, 52, 53, 54, 55, 56, 57, 58, 59, 60, 61, 62, 63, 64, 65, 66, 67, 68, 69, 70, 71, 257, 258, 259, 260, 261, 262, 263, 264, 593, 594, 595, 596, 597, 598, 599, 564, 565, 566, 567, 568, 569, 570, 571, 572, 573, 574, 575, 576, 577, 578] (by decide +kernel) (by decide +kernel)) (goodIn_sub (fun _ h => List.mem_cons_of_mem _ (List.mem_append_right _ h)) (by decide +kernel))
set_option maxRecDepth 20000 in
theorem gL_isTold_L_awardOf : GoodIn wsL_isTold (va_wsS RL 185 yL_awardOf wsL_awardOf) := goodIn_app (goodIn_of _ (by decide +kernel)) ggL_isTold_L_awardOf
set_option maxRecDepth 20000 in
theorem ggL_isTold_L_standing : GoodIn wsL_isTold wsL_standing := goodIn_r _ [267, 268, 269, 4, 270] (by decide +kernel) (by decide +kernel)
set_option maxRecDepth 20000 in
theorem gL_isTold_L_standing : GoodIn wsL_isTold (va_wsS RL 187 yL_standing wsL_standing) := goodIn_app (goodIn_of _ (by decide +kernel)) ggL_isTold_L_standing
set_option maxRecDepth 20000 in
theorem ggL_isTold_L_winner : GoodIn wsL_isTold wsL_winner := goodIn_ca (goodIn_r _ [273, 26, 274, 275, 276, 31, 277, 278, 98, 279, 280, 281, 282, 39, 40, 261, 262, 49, 50, 51, 52, 53, 54, 55, 56, 57, 58, 59, 60, 61, 62, 63, 64, 65, 66, 67, 68, 69, 70, 71, 593, 594, 595, 596, 597, 598, 599, 584, 585, 586, 587, 588, 589, 570, 571, 572, 573, 574, 575, 576, 577, 578] (by decide +kernel) (by decide +kernel)) (goodIn_sub (fun _ h => List.mem_cons_of_mem _ (List.mem_append_right _ h)) (by decide +kernel))
set_option maxRecDepth 20000 in
theorem gL_isTold_L_winner : GoodIn wsL_isTold (va_wsS RL 201 yL_winner wsL_winner) := goodIn_app (goodIn_of _ (by decide +kernel)) ggL_isTold_L_winner
set_option maxRecDepth 20000 in
theorem ggL_isTold_L_isVoid : GoodIn wsL_isTold wsL_isVoid := goodIn_ca (goodIn_r _ [285, 26, 286, 287, 288, 31, 289, 264, 279, 280, 281, 282, 39, 40, 261, 262, 49, 50, 51, 52, 53, 54, 55, 56, 57, 58, 59, 60, 61, 62, 63, 64, 65, 66, 67, 68, 69, 70, 71, 593, 594, 595, 596, 597, 598, 599, 570, 571, 572, 573, 574, 575, 576, 577, 578] (by decide +kernel) (by decide +kernel)) (goodIn_sub (fun _ h => List.mem_cons_of_mem _ (List.mem_append_right _ h)) (by decide +kernel))
set_option maxRecDepth 20000 in
theorem gL_isTold_L_isVoid : GoodIn wsL_isTold (va_wsS RL 215 yL_isVoid wsL_isVoid) := goodIn_app (goodIn_of _ (by decide +kernel)) ggL_isTold_L_isVoid
set_option maxRecDepth 20000 in
theorem ggL_isTold_L_gone : GoodIn wsL_isTold wsL_gone := goodIn_r _ [270] (by decide +kernel) (by decide +kernel)
set_option maxRecDepth 20000 in
theorem gL_isTold_L_gone : GoodIn wsL_isTold (va_wsS RL 130 yL_gone wsL_gone) := goodIn_app (goodIn_of _ (by decide +kernel)) ggL_isTold_L_gone
set_option maxRecDepth 20000 in
theorem ggL_isTold_L_isFinal : GoodIn wsL_isTold wsL_isFinal := goodIn_ca (goodIn_r _ [292, 26, 293, 294, 295, 31, 296, 279, 280, 281, 282, 39, 40, 261, 262, 49, 50, 51, 52, 53, 54, 55, 56, 57, 58, 59, 60, 61, 62, 63, 64, 65, 66, 67, 68, 69, 70, 71, 297, 298, 299, 300, 264, 111, 301, 302, 303, 304, 305, 306, 307, 308, 309, 570, 571, 572, 573, 574, 575, 576, 577, 578, 593, 594, 595, 596, 597, 598, 599, 600, 601, 602, 603, 604, 605] (by decide +kernel) (by decide +kernel)) (goodIn_sub (fun _ h => List.mem_cons_of_mem _ (List.mem_append_right _ h)) (by decide +kernel))
set_option maxRecDepth 20000 in
theorem gL_isTold_L_isFinal : GoodIn wsL_isTold (va_wsS RL 217 yL_isFinal wsL_isFinal) := goodIn_app (goodIn_of _ (by decide +kernel)) ggL_isTold_L_isFinal
set_option maxRecDepth 20000 in
theorem ggL_isTold_L_settled : GoodIn wsL_isTold wsL_settled := goodIn_r _ [312, 268, 269, 4, 270, 313, 314, 315, 316, 317, 318] (by decide +kernel) (by decide +kernel)
set_option maxRecDepth 20000 in
theorem gL_isTold_L_settled : GoodIn wsL_isTold (va_wsS RL 168 yL_settled wsL_settled) := goodIn_app (goodIn_of _ (by decide +kernel)) ggL_isTold_L_settled
set_option maxRecDepth 20000 in
theorem ggL_isTold_L_low : GoodIn wsL_isTold wsL_low := goodIn_r _ [321] (by decide +kernel) (by decide +kernel)
set_option maxRecDepth 20000 in
theorem gL_isTold_L_low : GoodIn wsL_isTold (va_wsS RL 145 yL_low wsL_low) := goodIn_app (goodIn_of _ (by decide +kernel)) ggL_isTold_L_low
set_option maxRecDepth 20000 in
theorem ggL_isTold_L_isLine : GoodIn wsL_isTold wsL_isLine := goodIn_ca (goodIn_r _ [324, 268, 269, 4, 270, 310, 311, 312, 313, 314, 315, 316, 317, 318, 325, 326, 327, 26, 328, 329, 330, 31, 331, 279, 280, 281, 282, 39, 40, 261, 262, 49, 50, 51, 52, 53, 54, 55, 56, 57, 58, 59, 60, 61, 62, 63, 64, 65, 66, 67, 68, 69, 70, 71, 332, 333, 334, 335, 336, 337, 338, 256, 263, 106, 339, 340, 278, 98, 264, 341, 342, 343, 344, 345, 346, 347, 348, 349, 127, 128, 350, 351, 352, 353, 354, 355, 356, 357, 358, 359, 360, 361, 362, 363, 364, 365, 366, 367, 368, 369, 370, 371, 372, 373, 374, 375, 376, 377, 378, 379, 380, 381, 382, 383, 187, 188, 189, 190, 182, 183, 184, 191, 192, 193, 194, 384, 385, 197, 386, 387, 388, 389, 390, 391, 392, 208, 209, 210, 211, 212, 213, 214, 393, 394, 395, 396, 397, 398, 399, 400, 401, 402, 403, 404, 405, 406, 407, 408, 409, 410, 411, 412, 413, 414, 415, 416, 417, 418, 419, 420, 421, 422, 423, 424, 425, 426, 427, 428, 429, 430, 431, 432, 433, 434, 435, 436, 437, 438, 439, 440, 441, 442, 443, 444, 445, 446, 447, 448, 449, 450, 451, 452, 453, 454, 455, 456, 457, 458, 459, 460, 461, 462, 463, 464, 465, 466, 467, 468, 469, 470, 471, 472, 473, 474, 475, 476, 297, 298, 299, 300, 111, 301, 302, 303, 304, 305, 306, 307, 308, 309, 477, 478, 479, 480, 481, 482, 483, 484, 485, 486, 487, 488, 489, 490, 491, 492, 493, 494, 495, 496, 497, 498, 499, 500, 501, 502, 503, 504, 570, 571, 572, 573, 574, 575, 576, 577, 578, 606, 607, 608, 609, 593, 594, 595, 596, 597, 598, 599, 579, 580, 581, 582, 583, 564, 565, 566, 567, 568, 569, 584, 585, 586, 587, 588, 589, 600, 601, 602, 603, 604, 605] (by decide +kernel) (by decide +kernel)) (goodIn_sub (fun _ h => List.mem_cons_of_mem _ (List.mem_append_right _ h)) (by decide +kernel))
set_option maxRecDepth 20000 in
theorem gL_isTold_L_isLine : GoodIn wsL_isTold (va_wsS RL 219 yL_isLine wsL_isLine) := goodIn_app (goodIn_of _ (by decide +kernel)) ggL_isTold_L_isLine
set_option maxRecDepth 20000 in
theorem ggL_isTold_L_stateOf : GoodIn wsL_isTold wsL_stateOf := goodIn_ca (goodIn_r _ [507, 26, 508, 509, 510, 31, 511, 309, 512, 513, 514, 515, 39, 40, 306, 307, 49, 50, 51, 52, 53, 54, 55, 56, 57, 58, 59, 60, 61, 62, 63, 64, 65, 66, 67, 68, 69, 70, 71, 600, 601, 602, 603, 604, 605, 570, 571, 572, 573, 574, 575, 576, 577, 578] (by decide +kernel) (by decide +kernel)) (goodIn_sub (fun _ h => List.mem_cons_of_mem _ (List.mem_append_right _ h)) (by decide +kernel))
set_option maxRecDepth 20000 in
theorem gL_isTold_L_stateOf : GoodIn wsL_isTold (va_wsS RL 199 yL_stateOf wsL_stateOf) := goodIn_app (goodIn_of _ (by decide +kernel)) ggL_isTold_L_stateOf
set_option maxRecDepth 20000 in
theorem ggL_isTold_L_openOnes : GoodIn wsL_isTold wsL_openOnes := goodIn_r _ [315] (by decide +kernel) (by decide +kernel)
set_option maxRecDepth 20000 in
theorem gL_isTold_L_openOnes : GoodIn wsL_isTold (va_wsS RL 134 yL_openOnes wsL_openOnes) := goodIn_app (goodIn_of _ (by decide +kernel)) ggL_isTold_L_openOnes
set_option maxRecDepth 20000 in
theorem ggL_isTold_L_running : GoodIn wsL_isTold wsL_running := goodIn_ca (goodIn_r _ [518, 26, 519, 520, 521, 31, 522, 523, 264, 524, 525, 526, 527, 39, 40, 528, 529, 49, 50, 51, 52, 53, 54, 55, 56, 57, 58, 59, 60, 61, 62, 63, 64, 65, 66, 67, 68, 69, 70, 71, 302, 303, 304, 305, 306, 307, 308, 309, 610, 611, 593, 594, 595, 596, 597, 598, 599, 570, 571, 572, 573, 574, 575, 576, 577, 578, 600, 601, 602, 603, 604, 605] (by decide +kernel) (by decide +kernel)) (goodIn_sub (fun _ h => List.mem_cons_of_mem _ (List.mem_append_right _ h)) (by decide +kernel))
set_option maxRecDepth 20000 in
theorem gL_isTold_L_running : GoodIn wsL_isTold (va_wsS RL 205 yL_running wsL_running) := goodIn_app (goodIn_of _ (by decide +kernel)) ggL_isTold_L_running
set_option maxRecDepth 20000 in
theorem ggL_isTold_L_isOpened : GoodIn wsL_isTold wsL_isOpened := goodIn_r _ [11] (by decide +kernel) (by decide +kernel)
set_option maxRecDepth 20000 in
theorem gL_isTold_L_isOpened : GoodIn wsL_isTold (va_wsS RL 106 yL_isOpened wsL_isOpened) := goodIn_app (goodIn_of _ (by decide +kernel)) ggL_isTold_L_isOpened
set_option maxRecDepth 20000 in
theorem ggL_isTold_L_owes : GoodIn wsL_isTold wsL_owes := goodIn_ca (goodIn_r _ [532, 26, 533, 534, 535, 31, 536, 528, 529, 523, 264, 278, 98, 537, 237, 238, 239, 39, 40, 49, 50, 51, 52, 53, 54, 55, 56, 57, 58, 59, 60, 61, 62, 63, 64, 65, 66, 67, 68, 69, 70, 71, 570, 571, 572, 573, 574, 575, 610, 611, 593, 594, 595, 596, 597, 598, 599, 584, 585, 586, 587, 588, 589, 576, 577, 578] (by decide +kernel) (by decide +kernel)) (goodIn_sub (fun _ h => List.mem_cons_of_mem _ (List.mem_append_right _ h)) (by decide +kernel))
set_option maxRecDepth 20000 in
theorem gL_isTold_L_owes : GoodIn wsL_isTold (va_wsS RL 223 yL_owes wsL_owes) := goodIn_app (goodIn_of _ (by decide +kernel)) ggL_isTold_L_owes
set_option maxRecDepth 20000 in
theorem ggL_isTold_L_held : GoodIn wsL_isTold wsL_held := goodIn_ca (goodIn_r _ [540, 26, 541, 542, 543, 31, 544, 47, 48, 41, 42, 545, 237, 238, 239, 39, 40, 49, 50, 51, 52, 53, 54, 55, 56, 57, 58, 59, 60, 61, 62, 63, 64, 65, 66, 67, 68, 69, 70, 71, 546, 547, 548, 549, 235, 550, 551, 341, 240, 224, 225, 75, 226, 77, 78, 227, 81, 82, 257, 258, 259, 260, 261, 262, 263, 264, 570, 571, 572, 573, 574, 575, 564, 565, 566, 567, 568, 569, 579, 580, 581, 582, 583, 576, 577, 578, 584, 585, 586, 587, 588, 589, 593, 594, 595, 596, 597, 598, 599] (by decide +kernel) (by decide +kernel)) (goodIn_sub (fun _ h => List.mem_cons_of_mem _ (List.mem_append_right _ h)) (by decide +kernel))
set_option maxRecDepth 20000 in
theorem gL_isTold_L_held : GoodIn wsL_isTold (va_wsS RL 225 yL_held wsL_held) := goodIn_app (goodIn_of _ (by decide +kernel)) ggL_isTold_L_held
set_option maxRecDepth 20000 in
theorem ggL_isTold_L_lost : GoodIn wsL_isTold wsL_lost := goodIn_ca (goodIn_r _ [554, 26, 555, 556, 557, 31, 558, 261, 262, 559, 278, 98, 263, 545, 237, 238, 239, 39, 40, 49, 50, 51, 52, 53, 54, 55, 56, 57, 58, 59, 60, 61, 62, 63, 64, 65, 66, 67, 68, 69, 70, 71, 570, 571, 572, 573, 574, 575, 593, 594, 595, 596, 597, 598, 599, 584, 585, 586, 587, 588, 589, 579, 580, 581, 582, 583, 576, 577, 578] (by decide +kernel) (by decide +kernel)) (goodIn_sub (fun _ h => List.mem_cons_of_mem _ (List.mem_append_right _ h)) (by decide +kernel))
set_option maxRecDepth 20000 in
theorem gL_isTold_L_lost : GoodIn wsL_isTold (va_wsS RL 227 yL_lost wsL_lost) := goodIn_app (goodIn_of _ (by decide +kernel)) ggL_isTold_L_lost
set_option maxRecDepth 20000 in
theorem ggL_isTold_X8_today : GoodIn wsL_isTold wsX8_today := goodIn_r _ [563, 111, 570, 571, 572, 573, 574, 575] (by decide +kernel) (by decide +kernel)
set_option maxRecDepth 20000 in
theorem gL_isTold_X8_today : GoodIn wsL_isTold (wsV RL 229 RX8 yX8_today wsX8_today) := goodIn_app (goodIn_of _ (by decide +kernel)) ggL_isTold_X8_today
set_option maxRecDepth 20000 in
theorem ggL_isTold_L_line : GoodIn wsL_isTold wsL_line := goodIn_ca (goodIn_r _ [327, 26, 328, 329, 330, 31, 331, 279, 280, 281, 282, 39, 40, 261, 262, 49, 50, 51, 52, 53, 54, 55, 56, 57, 58, 59, 60, 61, 62, 63, 64, 65, 66, 67, 68, 69, 70, 71, 332, 333, 334, 335, 336, 337, 338, 256, 263, 106, 339, 340, 278, 98, 264, 341, 342, 343, 344, 345, 346, 347, 348, 349, 127, 128, 350, 351, 352, 353, 354, 355, 356, 357, 358, 359, 360, 361, 362, 363, 364, 365, 366, 367, 368, 369, 370, 371, 372, 373, 374, 375, 376, 377, 378, 379, 380, 381, 382, 383, 187, 188, 189, 190, 182, 183, 184, 191, 192, 193, 194, 384, 385, 197, 386, 387, 388, 389, 390, 391, 392, 208, 209, 210, 211, 212, 213, 214, 393, 394, 395, 396, 397, 398, 399, 400, 401, 402, 403, 404, 405, 406, 407, 408, 409, 410, 411, 412, 413, 414, 415, 416, 417, 418, 419, 420, 421, 422, 423, 424, 425, 426, 427, 428, 429, 430, 431, 432, 433, 434, 435, 436, 437, 438, 439, 440, 441, 442, 443, 444, 445, 446, 447, 448, 449, 450, 451, 452, 453, 454, 455, 456, 457, 458, 459, 460, 461, 462, 463, 464, 465, 466, 467, 468, 469, 470, 471, 472, 473, 474, 475, 476, 297, 298, 299, 300, 111, 301, 302, 303, 304, 305, 306, 307, 308, 309, 477, 478, 479, 480, 481, 482, 483, 484, 570, 571, 572, 573, 574, 575, 576, 577, 578, 606, 607, 608, 609, 593, 594, 595, 596, 597, 598, 599, 579, 580, 581, 582, 583, 564, 565, 566, 567, 568, 569, 584, 585, 586, 587, 588, 589, 600, 601, 602, 603, 604, 605] (by decide +kernel) (by decide +kernel)) (goodIn_sub (fun _ h => List.mem_cons_of_mem _ (List.mem_append_right _ h)) (by decide +kernel))
set_option maxRecDepth 20000 in
theorem gL_isTold_L_line : GoodIn wsL_isTold (va_wsS RL 207 yL_line wsL_line) := goodIn_app (goodIn_of _ (by decide +kernel)) ggL_isTold_L_line
set_option maxRecDepth 20000 in
theorem ggL_isTold_L_lineChar : GoodIn wsL_isTold wsL_lineChar := goodIn_ca (goodIn_r _ [487, 26, 488, 489, 490, 31, 491, 39, 40, 279, 280, 281, 282, 261, 262, 49, 50, 51, 52, 53, 54, 55, 56, 57, 58, 59, 60, 61, 62, 63, 64, 65, 66, 67, 68, 69, 70, 71, 332, 333, 334, 335, 336, 337, 338, 256, 263, 106, 339, 340, 278, 98, 264, 341, 342, 343, 344, 345, 346, 347, 348, 349, 127, 128, 350, 351, 352, 353, 354, 355, 356, 357, 358, 359, 360, 361, 362, 363, 364, 365, 366, 367, 368, 369, 370, 371, 372, 373, 374, 375, 376, 377, 378, 379, 380, 381, 382, 383, 187, 188, 189, 190, 182, 183, 184, 191, 192, 193, 194, 384, 385, 197, 386, 387, 388, 389, 390, 391, 392, 208, 209, 210, 211, 212, 213, 214, 393, 394, 395, 396, 397, 398, 399, 400, 401, 402, 403, 404, 405, 406, 407, 408, 409, 410, 411, 412, 413, 414, 415, 416, 417, 418, 419, 420, 421, 422, 423, 424, 425, 426, 427, 428, 429, 430, 431, 432, 433, 434, 435, 436, 437, 438, 439, 440, 441, 442, 443, 444, 445, 446, 447, 448, 449, 450, 451, 452, 453, 454, 455, 456, 457, 458, 459, 460, 461, 462, 463, 464, 465, 466, 467, 468, 469, 470, 471, 472, 473, 474, 475, 476, 297, 298, 299, 300, 111, 301, 302, 303, 304, 305, 306, 307, 308, 309, 477, 478, 479, 480, 481, 482, 483, 484, 492, 493, 494, 495, 496, 497, 498, 499, 500, 501, 502, 503, 504, 570, 571, 572, 573, 574, 575, 576, 577, 578, 606, 607, 608, 609, 593, 594, 595, 596, 597, 598, 599, 579, 580, 581, 582, 583, 564, 565, 566, 567, 568, 569, 584, 585, 586, 587, 588, 589, 600, 601, 602, 603, 604, 605] (by decide +kernel) (by decide +kernel)) (goodIn_sub (fun _ h => List.mem_cons_of_mem _ (List.mem_append_right _ h)) (by decide +kernel))
set_option maxRecDepth 20000 in
theorem gL_isTold_L_lineChar : GoodIn wsL_isTold (va_wsS RL 209 yL_lineChar wsL_lineChar) := goodIn_app (goodIn_of _ (by decide +kernel)) ggL_isTold_L_lineChar
