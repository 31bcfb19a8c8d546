/-! names of the law's calls and rows: 15c.lcalls -/
set_option maxRecDepth 20000 in
theorem ggL_tenders_L_low : GoodIn wsL_tenders wsL_low := goodIn_r _ [6] (by decide +kernel) (by decide +kernel)
set_option maxRecDepth 20000 in
theorem gL_tenders_L_low : GoodIn wsL_tenders (va_wsS RL 145 yL_low wsL_low) := goodIn_app (goodIn_of _ (by decide +kernel)) ggL_tenders_L_low
set_option maxRecDepth 20000 in
theorem ggL_tenders_L_addTender : GoodIn wsL_tenders wsL_addTender := goodIn_ca (goodIn_ca (goodIn_r _ [9, 10, 11, 12, 13, 14, 15, 16, 17, 18, 19, 20, 21, 22, 23, 24, 25, 26, 27, 28, 29, 30, 31, 32, 33, 34, 35, 36, 37, 38, 39, 40, 41, 42, 43, 44, 45, 46, 47, 48, 49, 50, 51, 52, 53, 54, 55, 56, 57, 58, 59, 60, 61, 62, 63, 64, 65, 66, 67, 68, 69, 70, 71, 72, 73, 74, 75, 76, 77, 78, 79, 80, 81, 82, 83, 84, 85, 86, 87, 88, 89, 90, 91, 92, 93, 94, 95, 96, 97, 98, 99, 100, 101, 102, 103, 104, 105, 106, 107, 108, 109, 110, 111, 112, 113, 114, 115, 283, 284, 285, 286, 287, 288, 289, 290, 291, 292, 293, 294, 295, 296, 297] (by decide +kernel) (by decide +kernel)) (goodIn_sub (fun _ h => List.mem_cons_of_mem _ (List.mem_append_left _ (List.mem_append_left _ (List.mem_append_right _ h)))) (by decide +kernel))) (goodIn_sub (fun _ h => List.mem_cons_of_mem _ (List.mem_append_left _ (List.mem_append_right _ h))) (by decide +kernel))
set_option maxRecDepth 20000 in
theorem gL_tenders_L_addTender : GoodIn wsL_tenders (va_wsS RL 148 yL_addTender wsL_addTender) := goodIn_app (goodIn_of _ (by decide +kernel)) ggL_tenders_L_addTender
set_option maxRecDepth 20000 in
theorem ggL_tenders_L_addLot : GoodIn wsL_tenders wsL_addLot := goodIn_ca (goodIn_ca (goodIn_ca (goodIn_r _ [118, 119, 10, 11, 120, 121, 122, 15, 123, 17, 18, 19, 20, 124, 125, 126, 127, 128, 129, 130, 131, 132, 133, 22, 134, 29, 30, 31, 32, 33, 34, 135, 136, 137, 138, 139, 140, 141, 142, 143, 144, 145, 146, 147, 148, 149, 150, 53, 26, 27, 28, 151, 152, 153, 154, 21, 155, 156, 157, 158, 159, 39, 40, 160, 42, 161, 162, 163, 164, 165, 166, 50, 51, 52, 54, 55, 56, 57, 58, 59, 60, 61, 62, 63, 64, 65, 66, 67, 68, 69, 70, 71, 72, 73, 74, 75, 76, 77, 78, 79, 80, 81, 82, 83, 84, 85, 86, 87, 88, 89, 90, 91, 92, 93, 94, 95, 96, 97, 98, 99, 100, 101, 102, 103, 104, 105, 106, 107, 108, 109, 110, 111, 112, 113, 114, 115, 289, 290, 291, 292, 293, 294, 298, 299, 300, 301, 302, 283, 284, 285, 286, 287, 288, 295, 296, 297] (by decide +kernel) (by decide +kernel)) (goodIn_sub (fun _ h => List.mem_cons_of_mem _ (List.mem_append_left _ (List.mem_append_left _ (List.mem_append_right _ h)))) (by decide +kernel))) (goodIn_sub (fun _ h => List.mem_cons_of_mem _ (List.mem_append_left _ (List.mem_append_right _ h))) (by decide +kernel))) (goodIn_sub (fun _ h => List.mem_cons_of_mem _ (List.mem_append_right _ h)) (by decide +kernel))
set_option maxRecDepth 20000 in
theorem gL_tenders_L_addLot : GoodIn wsL_tenders (va_wsS RL 151 yL_addLot wsL_addLot) := goodIn_app (goodIn_of _ (by decide +kernel)) ggL_tenders_L_addLot
set_option maxRecDepth 20000 in
theorem ggL_tenders_L_paper : GoodIn wsL_tenders wsL_paper := goodIn_ca (goodIn_ca (goodIn_r _ [169, 119, 10, 170, 171, 172, 15, 173, 132, 133, 17, 18, 174, 175, 176, 177, 26, 27, 28, 283, 284, 285, 286, 287, 288] (by decide +kernel) (by decide +kernel)) (goodIn_sub (fun _ h => List.mem_cons_of_mem _ (List.mem_append_right _ h)) (by decide +kernel))) (goodIn_sub (fun _ h => List.mem_cons_of_mem _ (List.mem_append_left _ (List.mem_append_left _ (List.mem_append_right _ h)))) (by decide +kernel))
set_option maxRecDepth 20000 in
theorem gL_tenders_L_paper : GoodIn wsL_tenders (va_wsS RL 154 yL_paper wsL_paper) := goodIn_app (goodIn_of _ (by decide +kernel)) ggL_tenders_L_paper
set_option maxRecDepth 20000 in
theorem ggL_tenders_L_bid : GoodIn wsL_tenders wsL_bid := goodIn_ca (goodIn_ca (goodIn_ca (goodIn_r _ [180, 119, 10, 11, 181, 182, 183, 15, 184, 17, 18, 19, 20, 185, 186, 187, 188, 189, 190, 191, 192, 193, 132, 133, 194, 195, 196, 197, 124, 198, 128, 129, 130, 131, 22, 134, 29, 30, 31, 32, 33, 34, 135, 136, 137, 138, 139, 140, 141, 142, 143, 144, 145, 146, 147, 148, 149, 150, 53, 26, 27, 28, 151, 152, 153, 154, 21, 155, 199, 200, 201, 127, 202, 161, 203, 204, 205, 206, 207, 208, 209, 210, 211, 212, 213, 214, 68, 69, 215, 113, 114, 115, 216, 217, 218, 219, 39, 40, 220, 221, 222, 223, 224, 225, 226, 64, 65, 66, 67, 70, 71, 72, 73, 74, 75, 76, 77, 78, 79, 80, 81, 52, 82, 83, 84, 85, 86, 87, 88, 89, 90, 91, 92, 93, 94, 95, 96, 97, 98, 99, 100, 101, 102, 103, 104, 105, 106, 107, 108, 109, 110, 111, 112, 298, 299, 300, 301, 302, 303, 304, 305, 306, 307, 308, 289, 290, 291, 292, 293, 294, 283, 284, 285, 286, 287, 288, 295, 296, 297] (by decide +kernel) (by decide +kernel)) (goodIn_sub (fun _ h => List.mem_cons_of_mem _ (List.mem_append_left _ (List.mem_append_left _ (List.mem_append_right _ h)))) (by decide +kernel))) (goodIn_sub (fun _ h => List.mem_cons_of_mem _ (List.mem_append_left _ (List.mem_append_right _ h))) (by decide +kernel))) (goodIn_sub (fun _ h => List.mem_cons_of_mem _ (List.mem_append_right _ h)) (by decide +kernel))
set_option maxRecDepth 20000 in
theorem gL_tenders_L_bid : GoodIn wsL_tenders (va_wsS RL 157 yL_bid wsL_bid) := goodIn_app (goodIn_of _ (by decide +kernel)) ggL_tenders_L_bid
set_option maxRecDepth 20000 in
theorem ggL_tenders_L_withdraw : GoodIn wsL_tenders wsL_withdraw := goodIn_ca (goodIn_ca (goodIn_r _ [229, 119, 11, 230, 231, 232, 15, 233, 19, 20, 186, 234, 191, 192, 193, 132, 133, 194, 195, 196, 197, 124, 198, 128, 129, 130, 131, 22, 134, 29, 30, 31, 32, 33, 34, 135, 136, 137, 138, 139, 140, 141, 142, 143, 144, 145, 146, 147, 148, 149, 150, 53, 235, 236, 237, 127, 238, 161, 203, 204, 205, 206, 151, 152, 153, 154, 21, 155, 199, 200, 201, 202, 207, 208, 209, 210, 211, 212, 213, 214, 68, 69, 215, 113, 114, 115, 298, 299, 300, 301, 302, 303, 304, 305, 306, 307, 308, 289, 290, 291, 292, 293, 294, 283, 284, 285, 286, 287, 288, 295, 296, 297] (by decide +kernel) (by decide +kernel)) (goodIn_sub (fun _ h => List.mem_cons_of_mem _ (List.mem_append_left _ (List.mem_append_right _ h))) (by decide +kernel))) (goodIn_sub (fun _ h => List.mem_cons_of_mem _ (List.mem_append_right _ h)) (by decide +kernel))
set_option maxRecDepth 20000 in
theorem gL_tenders_L_withdraw : GoodIn wsL_tenders (va_wsS RL 160 yL_withdraw wsL_withdraw) := goodIn_app (goodIn_of _ (by decide +kernel)) ggL_tenders_L_withdraw
set_option maxRecDepth 20000 in
theorem ggL_tenders_L_isOpened : GoodIn wsL_tenders wsL_isOpened := goodIn_r _ [241] (by decide +kernel) (by decide +kernel)
set_option maxRecDepth 20000 in
theorem gL_tenders_L_isOpened : GoodIn wsL_tenders (va_wsS RL 106 yL_isOpened wsL_isOpened) := goodIn_app (goodIn_of _ (by decide +kernel)) ggL_tenders_L_isOpened
set_option maxRecDepth 20000 in
theorem ggL_tenders_L_isIn : GoodIn wsL_tenders wsL_isIn := goodIn_ca (goodIn_r _ [244, 119, 245, 246, 247, 15, 248, 249, 250, 191, 192, 193, 132, 133, 194, 195, 196, 197, 124, 198, 128, 129, 130, 131, 22, 134, 29, 30, 31, 32, 33, 34, 135, 136, 137, 138, 139, 140, 141, 142, 143, 144, 145, 146, 147, 148, 149, 150, 53, 235, 236, 237, 127, 238, 161, 203, 204, 205, 206, 303, 304, 305, 306, 307, 308, 289, 290, 291, 292, 293, 294, 283, 284, 285, 286, 287, 288, 295, 296, 297, 298, 299, 300, 301, 302] (by decide +kernel) (by decide +kernel)) (goodIn_sub (fun _ h => List.mem_cons_of_mem _ (List.mem_append_right _ h)) (by decide +kernel))
set_option maxRecDepth 20000 in
theorem gL_tenders_L_isIn : GoodIn wsL_tenders (va_wsS RL 162 yL_isIn wsL_isIn) := goodIn_app (goodIn_of _ (by decide +kernel)) ggL_tenders_L_isIn
set_option maxRecDepth 20000 in
theorem ggL_tenders_L_ranked : GoodIn wsL_tenders wsL_ranked := goodIn_ca (goodIn_ca (goodIn_r _ [253, 119, 10, 254, 255, 256, 15, 257, 17, 18, 194, 195, 196, 197, 132, 133, 124, 198, 128, 129, 130, 131, 22, 134, 29, 30, 31, 32, 33, 34, 135, 136, 137, 138, 139, 140, 141, 142, 143, 144, 145, 146, 147, 148, 149, 150, 53, 258, 259, 260, 127, 261, 161, 203, 262, 263, 205, 206, 264, 265, 266, 267, 268, 269, 270, 271, 272, 163, 273, 274, 275, 276, 277, 278, 289, 290, 291, 292, 293, 294, 283, 284, 285, 286, 287, 288, 295, 296, 297, 298, 299, 300, 301, 302, 303, 304, 305, 306, 307, 308] (by decide +kernel) (by decide +kernel)) (goodIn_sub (fun _ h => List.mem_cons_of_mem _ (List.mem_append_left _ (List.mem_append_left _ (List.mem_append_right _ h)))) (by decide +kernel))) (goodIn_sub (fun _ h => List.mem_cons_of_mem _ (List.mem_append_right _ h)) (by decide +kernel))
set_option maxRecDepth 20000 in
theorem gL_tenders_L_ranked : GoodIn wsL_tenders (va_wsS RL 164 yL_ranked wsL_ranked) := goodIn_app (goodIn_of _ (by decide +kernel)) ggL_tenders_L_ranked
set_option maxRecDepth 20000 in
theorem ggL_tenders_L_price : GoodIn wsL_tenders wsL_price := goodIn_r _ [281, 282] (by decide +kernel) (by decide +kernel)
set_option maxRecDepth 20000 in
theorem gL_tenders_L_price : GoodIn wsL_tenders (va_wsS RL 118 yL_price wsL_price) := goodIn_app (goodIn_of _ (by decide +kernel)) ggL_tenders_L_price
set_option maxRecDepth 20000 in
theorem ggL_halls_L_low : GoodIn wsL_halls wsL_low := goodIn_r _ [7] (by decide +kernel) (by decide +kernel)
set_option maxRecDepth 20000 in
theorem gL_halls_L_low : GoodIn wsL_halls (va_wsS RL 145 yL_low wsL_low) := goodIn_app (goodIn_of _ (by decide +kernel)) ggL_halls_L_low
set_option maxRecDepth 20000 in
theorem ggL_halls_L_award : GoodIn wsL_halls wsL_award := goodIn_ca (goodIn_ca (goodIn_r _ [10, 11, 12, 13, 14, 15, 16, 17, 18, 19, 20, 21, 22, 23, 24, 25, 26, 27, 28, 29, 30, 31, 32, 33, 34, 35, 36, 37, 38, 39, 40, 41, 42, 43, 44, 45, 46, 47, 48, 49, 50, 51, 52, 53, 54, 55, 56, 57, 58, 59, 60, 61, 62, 63, 64, 65, 66, 67, 68, 69, 70, 71, 72, 73, 74, 75, 76, 77, 78, 79, 80, 81, 82, 83, 84, 85, 86, 87, 88, 89, 90, 91, 92, 93, 94, 95, 96, 97, 98, 99, 100, 101, 102, 103, 104, 105, 106, 107, 108, 109, 110, 111, 112, 113, 114, 115, 116, 117, 118, 119, 120, 121, 122, 123, 124, 125, 126, 127, 128, 129, 130, 131, 132, 133, 134, 135, 136, 137, 138, 139, 140, 141, 142, 143, 144, 145, 146, 147, 148, 149, 150, 151, 152, 153, 154, 155, 156, 157, 158, 159, 160, 161, 162, 163, 164, 165, 380, 381, 382, 383, 384, 385, 386, 387, 388, 389, 390, 391, 392, 393, 394, 395, 396, 397, 398, 399, 400, 401, 402, 403, 404, 405, 406, 407, 408, 409, 410, 411, 412] (by decide +kernel) (by decide +kernel)) (goodIn_sub (fun _ h => List.mem_cons_of_mem _ (List.mem_append_left _ (List.mem_append_left _ (List.mem_append_right _ h)))) (by decide +kernel))) (goodIn_sub (fun _ h => List.mem_cons_of_mem _ (List.mem_append_left _ (List.mem_append_right _ h))) (by decide +kernel))
set_option maxRecDepth 20000 in
theorem gL_halls_L_award : GoodIn wsL_halls (va_wsS RL 183 yL_award wsL_award) := goodIn_app (goodIn_of _ (by decide +kernel)) ggL_halls_L_award
set_option maxRecDepth 20000 in
theorem ggL_halls_L_awardOf : GoodIn wsL_halls wsL_awardOf := goodIn_ca (goodIn_r _ [168, 11, 169, 170, 171, 16, 172, 173, 22, 23, 24, 25, 26, 27, 28, 29, 30, 31, 32, 33, 34, 35, 36, 37, 38, 39, 40, 41, 42, 43, 44, 45, 46, 47, 48, 49, 50, 51, 52, 53, 54, 55, 56, 57, 58, 65, 66, 67, 68, 21, 69, 70, 71, 400, 401, 402, 403, 404, 405, 406, 391, 392, 393, 394, 395, 396, 385, 386, 387, 388, 389, 390, 397, 398, 399] (by decide +kernel) (by decide +kernel)) (goodIn_sub (fun _ h => List.mem_cons_of_mem _ (List.mem_append_left _ (List.mem_append_right _ h))) (by decide +kernel))
set_option maxRecDepth 20000 in
theorem gL_halls_L_awardOf : GoodIn wsL_halls (va_wsS RL 185 yL_awardOf wsL_awardOf) := goodIn_app (goodIn_of _ (by decide +kernel)) ggL_halls_L_awardOf
set_option maxRecDepth 20000 in
theorem ggL_halls_L_isOpened : GoodIn wsL_halls wsL_isOpened := goodIn_r _ [176] (by decide +kernel) (by decide +kernel)
set_option maxRecDepth 20000 in
theorem gL_halls_L_isOpened : GoodIn wsL_halls (va_wsS RL 106 yL_isOpened wsL_isOpened) := goodIn_app (goodIn_of _ (by decide +kernel)) ggL_halls_L_isOpened
set_option maxRecDepth 20000 in
theorem ggL_halls_L_standing : GoodIn wsL_halls wsL_standing := goodIn_r _ [179, 180, 181, 6, 182] (by decide +kernel) (by decide +kernel)
set_option maxRecDepth 20000 in
theorem gL_halls_L_standing : GoodIn wsL_halls (va_wsS RL 187 yL_standing wsL_standing) := goodIn_app (goodIn_of _ (by decide +kernel)) ggL_halls_L_standing
set_option maxRecDepth 20000 in
theorem ggL_halls_L_best : GoodIn wsL_halls wsL_best := goodIn_r _ [185, 186, 187, 6, 188, 174, 175, 176, 189, 190, 191, 192, 193, 194, 195, 196, 197, 198, 199] (by decide +kernel) (by decide +kernel)
set_option maxRecDepth 20000 in
theorem gL_halls_L_best : GoodIn wsL_halls (va_wsS RL 141 yL_best wsL_best) := goodIn_app (goodIn_of _ (by decide +kernel)) ggL_halls_L_best
set_option maxRecDepth 20000 in
theorem ggL_halls_L_give : GoodIn wsL_halls wsL_give := goodIn_r _ [202, 183, 184, 6, 185, 186, 187, 188, 174, 175, 176, 189, 190, 191, 192, 193, 194, 195, 196, 197, 198, 199] (by decide +kernel) (by decide +kernel)
set_option maxRecDepth 20000 in
theorem gL_halls_L_give : GoodIn wsL_halls (va_wsS RL 176 yL_give wsL_give) := goodIn_app (goodIn_of _ (by decide +kernel)) ggL_halls_L_give
set_option maxRecDepth 20000 in
theorem ggL_halls_L_gone : GoodIn wsL_halls wsL_gone := goodIn_r _ [182] (by decide +kernel) (by decide +kernel)
set_option maxRecDepth 20000 in
theorem gL_halls_L_gone : GoodIn wsL_halls (va_wsS RL 130 yL_gone wsL_gone) := goodIn_app (goodIn_of _ (by decide +kernel)) ggL_halls_L_gone
set_option maxRecDepth 20000 in
theorem ggL_halls_L_complain : GoodIn wsL_halls wsL_complain := goodIn_ca (goodIn_ca (goodIn_ca (goodIn_r _ [205, 11, 206, 12, 207, 208, 209, 16, 210, 211, 212, 18, 19, 213, 71, 63, 214, 215, 216, 217, 218, 219, 220, 26, 27, 221, 222, 223, 224, 21, 69, 36, 37, 38, 39, 40, 41, 42, 43, 44, 45, 46, 47, 48, 49, 50, 51, 52, 53, 54, 55, 56, 57, 58, 225, 226, 227, 228, 229, 230, 231, 70, 232, 233, 234, 235, 236, 237, 238, 75, 239, 77, 78, 240, 81, 82, 241, 242, 243, 244, 245, 246, 247, 248, 249, 250, 251, 107, 108, 252, 253, 254, 255, 113, 114, 115, 116, 117, 118, 119, 120, 121, 122, 123, 124, 125, 126, 127, 128, 129, 130, 131, 132, 133, 134, 135, 136, 137, 138, 139, 140, 141, 142, 143, 144, 145, 146, 147, 148, 149, 150, 151, 152, 153, 154, 155, 156, 157, 158, 159, 160, 161, 162, 163, 164, 165, 385, 386, 387, 388, 389, 390, 400, 401, 402, 403, 404, 405, 406, 413, 414, 415, 416, 417, 418, 397, 398, 399, 407, 408, 409, 410, 411, 412, 380, 381, 382, 383, 384] (by decide +kernel) (by decide +kernel)) (goodIn_sub (fun _ h => List.mem_cons_of_mem _ (List.mem_append_right _ h)) (by decide +kernel))) (goodIn_sub (fun _ h => List.mem_cons_of_mem _ (List.mem_append_left _ (List.mem_append_left _ (List.mem_append_right _ h)))) (by decide +kernel))) (goodIn_sub (fun _ h => List.mem_cons_of_mem _ (List.mem_append_left _ (List.mem_append_right _ h))) (by decide +kernel))
set_option maxRecDepth 20000 in
theorem gL_halls_L_complain : GoodIn wsL_halls (va_wsS RL 190 yL_complain wsL_complain) := goodIn_app (goodIn_of _ (by decide +kernel)) ggL_halls_L_complain
set_option maxRecDepth 20000 in
theorem ggL_halls_L_sign : GoodIn wsL_halls wsL_sign := goodIn_ca (goodIn_ca (goodIn_r _ [258, 11, 12, 259, 260, 261, 16, 262, 18, 19, 263, 264, 265, 266, 267, 221, 222, 223, 224, 26, 27, 21, 69, 36, 37, 38, 39, 40, 41, 42, 43, 44, 45, 46, 47, 48, 49, 50, 51, 52, 53, 54, 55, 56, 57, 58, 268, 269, 270, 271, 71, 63, 214, 272, 273, 274, 275, 213, 245, 246, 276, 277, 278, 279, 280, 107, 108, 281, 113, 114, 115, 116, 117, 118, 119, 120, 121, 122, 123, 124, 125, 126, 127, 128, 129, 130, 131, 132, 133, 134, 135, 136, 137, 138, 139, 140, 141, 142, 143, 144, 145, 146, 147, 148, 149, 150, 151, 152, 153, 154, 155, 156, 157, 158, 159, 160, 161, 162, 163, 164, 165, 400, 401, 402, 403, 404, 405, 406, 385, 386, 387, 388, 389, 390, 419, 420, 397, 398, 399, 413, 414, 415, 416, 417, 418] (by decide +kernel) (by decide +kernel)) (goodIn_sub (fun _ h => List.mem_cons_of_mem _ (List.mem_append_left _ (List.mem_append_left _ (List.mem_append_right _ h)))) (by decide +kernel))) (goodIn_sub (fun _ h => List.mem_cons_of_mem _ (List.mem_append_left _ (List.mem_append_right _ h))) (by decide +kernel))
set_option maxRecDepth 20000 in
theorem gL_halls_L_sign : GoodIn wsL_halls (va_wsS RL 192 yL_sign wsL_sign) := goodIn_app (goodIn_of _ (by decide +kernel)) ggL_halls_L_sign
set_option maxRecDepth 20000 in
theorem ggL_halls_L_stands : GoodIn wsL_halls wsL_stands := goodIn_r _ [284] (by decide +kernel) (by decide +kernel)
set_option maxRecDepth 20000 in
theorem gL_halls_L_stands : GoodIn wsL_halls (va_wsS RL 138 yL_stands wsL_stands) := goodIn_app (goodIn_of _ (by decide +kernel)) ggL_halls_L_stands
set_option maxRecDepth 20000 in
theorem ggL_halls_L_rule : GoodIn wsL_halls wsL_rule := goodIn_ca (goodIn_ca (goodIn_ca (goodIn_r _ [287, 11, 206, 12, 288, 289, 290, 16, 291, 211, 212, 18, 19, 276, 21, 63, 292, 293, 294, 295, 296, 26, 27, 213, 245, 36, 37, 38, 39, 40, 41, 42, 43, 44, 45, 46, 47, 48, 49, 50, 51, 52, 53, 54, 55, 56, 57, 58, 225, 226, 227, 297, 298, 299, 300, 246, 301, 247, 232, 233, 302, 303, 304, 305, 306, 307, 308, 107, 108, 309, 310, 311, 312, 313, 314, 315, 71, 70, 316, 113, 114, 115, 116, 117, 118, 119, 120, 121, 122, 123, 124, 125, 126, 127, 128, 129, 130, 131, 132, 133, 134, 135, 136, 137, 138, 139, 140, 141, 142, 143, 144, 145, 146, 147, 148, 149, 150, 151, 152, 153, 154, 155, 156, 157, 158, 159, 160, 161, 162, 163, 164, 165, 317, 318, 319, 75, 320, 321, 322, 323, 94, 80, 79, 324, 325, 237, 238, 239, 77, 78, 240, 81, 82, 95, 96, 97, 98, 99, 100, 101, 20, 102, 72, 73, 74, 76, 83, 84, 85, 86, 87, 88, 89, 90, 91, 92, 93, 103, 104, 105, 106, 109, 110, 111, 112, 413, 414, 415, 416, 417, 418, 385, 386, 387, 388, 389, 390, 397, 398, 399, 400, 401, 402, 403, 404, 405, 406, 407, 408, 409, 410, 411, 412, 421, 422, 423, 380, 381, 382, 383, 384, 391, 392, 393, 394, 395, 396] (by decide +kernel) (by decide +kernel)) (goodIn_sub (fun _ h => List.mem_cons_of_mem _ (List.mem_append_right _ h)) (by decide +kernel))) (goodIn_sub (fun _ h => List.mem_cons_of_mem _ (List.mem_append_left _ (List.mem_append_left _ (List.mem_append_right _ h)))) (by decide +kernel))) (goodIn_sub (fun _ h => List.mem_cons_of_mem _ (List.mem_append_left _ (List.mem_append_right _ h))) (by decide +kernel))
set_option maxRecDepth 20000 in
theorem gL_halls_L_rule : GoodIn wsL_halls (va_wsS RL 194 yL_rule wsL_rule) := goodIn_app (goodIn_of _ (by decide +kernel)) ggL_halls_L_rule
set_option maxRecDepth 20000 in
theorem ggL_halls_L_appeal : GoodIn wsL_halls wsL_appeal := goodIn_ca (goodIn_ca (goodIn_r _ [328, 11, 12, 329, 330, 331, 16, 332, 18, 19, 276, 333, 63, 292, 246, 71, 293, 294, 295, 296, 26, 27, 213, 245, 36, 37, 38, 39, 40, 41, 42, 43, 44, 45, 46, 47, 48, 49, 50, 51, 52, 53, 54, 55, 56, 57, 58, 272, 273, 274, 275, 413, 414, 415, 416, 417, 418, 385, 386, 387, 388, 389, 390, 400, 401, 402, 403, 404, 405, 406, 397, 398, 399] (by decide +kernel) (by decide +kernel)) (goodIn_sub (fun _ h => List.mem_cons_of_mem _ (List.mem_append_left _ (List.mem_append_left _ (List.mem_append_right _ h)))) (by decide +kernel))) (goodIn_sub (fun _ h => List.mem_cons_of_mem _ (List.mem_append_left _ (List.mem_append_right _ h))) (by decide +kernel))
set_option maxRecDepth 20000 in
theorem gL_halls_L_appeal : GoodIn wsL_halls (va_wsS RL 197 yL_appeal wsL_appeal) := goodIn_app (goodIn_of _ (by decide +kernel)) ggL_halls_L_appeal
set_option maxRecDepth 20000 in
theorem ggL_halls_L_stateOf : GoodIn wsL_halls wsL_stateOf := goodIn_ca (goodIn_r _ [336, 11, 337, 338, 339, 16, 340, 276, 293, 294, 295, 296, 26, 27, 213, 245, 36, 37, 38, 39, 40, 41, 42, 43, 44, 45, 46, 47, 48, 49, 50, 51, 52, 53, 54, 55, 56, 57, 58, 413, 414, 415, 416, 417, 418, 385, 386, 387, 388, 389, 390, 397, 398, 399] (by decide +kernel) (by decide +kernel)) (goodIn_sub (fun _ h => List.mem_cons_of_mem _ (List.mem_append_left _ (List.mem_append_right _ h))) (by decide +kernel))
set_option maxRecDepth 20000 in
theorem gL_halls_L_stateOf : GoodIn wsL_halls (va_wsS RL 199 yL_stateOf wsL_stateOf) := goodIn_app (goodIn_of _ (by decide +kernel)) ggL_halls_L_stateOf
set_option maxRecDepth 20000 in
theorem ggL_halls_L_bidOf : GoodIn wsL_halls wsL_bidOf := goodIn_r _ [343] (by decide +kernel) (by decide +kernel)
set_option maxRecDepth 20000 in
theorem gL_halls_L_bidOf : GoodIn wsL_halls (va_wsS RL 173 yL_bidOf wsL_bidOf) := goodIn_app (goodIn_of _ (by decide +kernel)) ggL_halls_L_bidOf
set_option maxRecDepth 20000 in
theorem ggL_halls_L_openOnes : GoodIn wsL_halls wsL_openOnes := goodIn_r _ [346] (by decide +kernel) (by decide +kernel)
set_option maxRecDepth 20000 in
theorem gL_halls_L_openOnes : GoodIn wsL_halls (va_wsS RL 134 yL_openOnes wsL_openOnes) := goodIn_app (goodIn_of _ (by decide +kernel)) ggL_halls_L_openOnes
set_option maxRecDepth 20000 in
theorem ggL_halls_L_winner : GoodIn wsL_halls wsL_winner := goodIn_ca (goodIn_r _ [349, 11, 350, 351, 352, 16, 353, 232, 233, 221, 222, 223, 224, 26, 27, 21, 69, 36, 37, 38, 39, 40, 41, 42, 43, 44, 45, 46, 47, 48, 49, 50, 51, 52, 53, 54, 55, 56, 57, 58, 400, 401, 402, 403, 404, 405, 406, 407, 408, 409, 410, 411, 412, 385, 386, 387, 388, 389, 390, 397, 398, 399] (by decide +kernel) (by decide +kernel)) (goodIn_sub (fun _ h => List.mem_cons_of_mem _ (List.mem_append_left _ (List.mem_append_right _ h))) (by decide +kernel))
set_option maxRecDepth 20000 in
theorem gL_halls_L_winner : GoodIn wsL_halls (va_wsS RL 201 yL_winner wsL_winner) := goodIn_app (goodIn_of _ (by decide +kernel)) ggL_halls_L_winner
set_option maxRecDepth 20000 in
theorem ggL_halls_L_settled : GoodIn wsL_halls wsL_settled := goodIn_r _ [356, 180, 181, 6, 182, 344, 345, 346, 282, 283, 284] (by decide +kernel) (by decide +kernel)
set_option maxRecDepth 20000 in
theorem gL_halls_L_settled : GoodIn wsL_halls (va_wsS RL 168 yL_settled wsL_settled) := goodIn_app (goodIn_of _ (by decide +kernel)) ggL_halls_L_settled
set_option maxRecDepth 20000 in
theorem ggL_halls_L_call : GoodIn wsL_halls wsL_call := goodIn_ca (goodIn_ca (goodIn_ca (goodIn_r _ [359, 11, 206, 12, 360, 361, 362, 16, 363, 211, 212, 18, 19, 364, 365, 71, 366, 232, 367, 368, 369, 370, 371, 26, 27, 264, 372, 36, 37, 38, 39, 40, 41, 42, 43, 44, 45, 46, 47, 48, 49, 50, 51, 52, 53, 54, 55, 56, 57, 58, 225, 226, 227, 272, 273, 274, 275, 213, 245, 246, 276, 419, 420, 400, 401, 402, 403, 404, 405, 406, 407, 408, 409, 410, 411, 412, 385, 386, 387, 388, 389, 390, 397, 398, 399, 413, 414, 415, 416, 417, 418] (by decide +kernel) (by decide +kernel)) (goodIn_sub (fun _ h => List.mem_cons_of_mem _ (List.mem_append_right _ h)) (by decide +kernel))) (goodIn_sub (fun _ h => List.mem_cons_of_mem _ (List.mem_append_left _ (List.mem_append_left _ (List.mem_append_right _ h)))) (by decide +kernel))) (goodIn_sub (fun _ h => List.mem_cons_of_mem _ (List.mem_append_left _ (List.mem_append_right _ h))) (by decide +kernel))
set_option maxRecDepth 20000 in
theorem gL_halls_L_call : GoodIn wsL_halls (va_wsS RL 203 yL_call wsL_call) := goodIn_app (goodIn_of _ (by decide +kernel)) ggL_halls_L_call
set_option maxRecDepth 20000 in
theorem ggL_halls_L_running : GoodIn wsL_halls wsL_running := goodIn_ca (goodIn_r _ [375, 11, 376, 377, 378, 16, 379, 365, 71, 368, 369, 370, 371, 26, 27, 264, 372, 36, 37, 38, 39, 40, 41, 42, 43, 44, 45, 46, 47, 48, 49, 50, 51, 52, 53, 54, 55, 56, 57, 58, 272, 273, 274, 275, 213, 245, 246, 276, 419, 420, 400, 401, 402, 403, 404, 405, 406, 385, 386, 387, 388, 389, 390, 397, 398, 399, 413, 414, 415, 416, 417, 418] (by decide +kernel) (by decide +kernel)) (goodIn_sub (fun _ h => List.mem_cons_of_mem _ (List.mem_append_left _ (List.mem_append_right _ h))) (by decide +kernel))
set_option maxRecDepth 20000 in
theorem gL_halls_L_running : GoodIn wsL_halls (va_wsS RL 205 yL_running wsL_running) := goodIn_app (goodIn_of _ (by decide +kernel)) ggL_halls_L_running
set_option maxRecDepth 20000 in
theorem ggL_halls_L_price : GoodIn wsL_halls wsL_price := goodIn_r _ [195, 196] (by decide +kernel) (by decide +kernel)
set_option maxRecDepth 20000 in
theorem gL_halls_L_price : GoodIn wsL_halls (va_wsS RL 118 yL_price wsL_price) := goodIn_app (goodIn_of _ (by decide +kernel)) ggL_halls_L_price
