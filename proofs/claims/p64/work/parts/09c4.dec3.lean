set_option maxRecDepth 20000 in
theorem ggX5_restoreSnapshot_X4_copyFrom : GoodIn wsX5_restoreSnapshot wsX4_copyFrom := goodIn_r _ [13, 14, 15, 16, 17, 18, 19, 20, 21, 22, 23, 24, 25, 26, 27, 28, 29, 30, 31, 32, 33, 34, 35, 36, 37, 38, 39, 40, 41, 42, 43, 44, 45, 46, 47, 48, 49, 67, 68, 69, 70, 71, 72, 73, 74, 75, 76, 77, 78, 79, 80, 86, 87, 88, 89, 81, 82, 83, 84, 85] (by decide +kernel) (by decide +kernel)
set_option maxRecDepth 20000 in
theorem gX5_restoreSnapshot_X4_copyFrom : GoodIn wsX5_restoreSnapshot (wsV RX5 294 RX4 yX4_copyFrom wsX4_copyFrom) := goodIn_app (goodIn_of _ (by decide +kernel)) ggX5_restoreSnapshot_X4_copyFrom
set_option maxRecDepth 20000 in
theorem ggX5_restoreSnapshot_X3_clear : GoodIn wsX5_restoreSnapshot wsX3_clear := goodIn_r _ [54, 55, 90, 91, 92] (by decide +kernel) (by decide +kernel)
set_option maxRecDepth 20000 in
theorem gX5_restoreSnapshot_X3_clear : GoodIn wsX5_restoreSnapshot (wsV RX5 320 RX3 yX3_clear wsX3_clear) := goodIn_app (goodIn_of _ (by decide +kernel)) ggX5_restoreSnapshot_X3_clear
set_option maxRecDepth 20000 in
theorem ggX5_change_X4_refusalOf : GoodIn wsX5_change wsX4_refusalOf := goodIn_ca (goodIn_ca (goodIn_r _ [8, 9, 10, 11, 12, 13, 14, 15, 7, 16, 17, 18, 19, 20, 21, 22, 23, 24, 25, 26, 27, 28, 29, 30, 31, 32, 33, 34, 35, 36, 37, 38, 39, 40, 41, 42, 43, 44, 45, 46, 47, 48, 49, 50, 51, 52, 53, 54, 55, 56, 57, 58, 59, 60, 61, 62, 63, 64, 65, 66, 67, 68, 69, 70, 71, 72, 73, 74, 75, 76, 77, 78, 79, 80, 81, 82, 83, 84, 85, 86, 87, 88, 89, 90, 91, 92, 93, 94, 95, 96, 97, 98, 99, 100, 101, 102, 103, 104, 105, 106, 107, 108, 109, 110, 111, 112, 113, 114, 115, 116, 117, 118, 119, 120, 121, 122, 123, 124, 125, 126, 265, 266, 267, 268, 269, 270, 271, 272, 273, 274, 275, 276, 277, 278, 279, 280, 281, 282, 283, 284, 285, 286, 287] (by decide +kernel) (by decide +kernel)) (goodIn_sub (fun _ h => List.mem_cons_of_mem _ (List.mem_append_left _ (List.mem_append_left _ (List.mem_append_right _ h)))) (by decide +kernel))) (goodIn_sub (fun _ h => List.mem_cons_of_mem _ (List.mem_append_left _ (List.mem_append_right _ h))) (by decide +kernel))
set_option maxRecDepth 20000 in
theorem gX5_change_X4_refusalOf : GoodIn wsX5_change (wsV RX5 323 RX4 yX4_refusalOf wsX4_refusalOf) := goodIn_app (goodIn_of _ (by decide +kernel)) ggX5_change_X4_refusalOf
set_option maxRecDepth 20000 in
theorem ggX5_change_X5_reject : GoodIn wsX5_change wsX5_reject := goodIn_ca (goodIn_r _ [130, 131, 132, 133, 134, 135, 254, 255, 256, 257, 258, 259, 260, 261, 262, 263, 264] (by decide +kernel) (by decide +kernel)) (goodIn_sub (fun _ h => List.mem_cons_of_mem _ (List.mem_append_right _ h)) (by decide +kernel))
set_option maxRecDepth 20000 in
theorem gX5_change_X5_reject : GoodIn wsX5_change (wsV RX5 329 RX5 yX5_reject wsX5_reject) := goodIn_app (goodIn_of _ (by decide +kernel)) ggX5_change_X5_reject
set_option maxRecDepth 20000 in
theorem ggX5_change_X3_push : GoodIn wsX5_change wsX3_push := goodIn_r _ [140, 141, 142, 143, 144, 145, 146, 147, 148, 149, 150, 7, 151, 9, 82, 10, 152, 90, 91, 92, 98, 70, 84, 11, 153, 154, 155, 156, 85, 86, 87, 20, 88, 39, 89, 93, 26, 60, 157, 158, 159, 160, 161, 162, 163, 164, 165, 166, 167, 288, 289, 290, 265, 266, 267, 268, 269, 270, 271, 272, 273, 274, 275, 276, 277, 278, 279, 280, 281, 282, 283, 284, 285, 286, 287] (by decide +kernel) (by decide +kernel)
set_option maxRecDepth 20000 in
theorem gX5_change_X3_push : GoodIn wsX5_change (wsV RX5 302 RX3 yX3_push wsX3_push) := goodIn_app (goodIn_of _ (by decide +kernel)) ggX5_change_X3_push
set_option maxRecDepth 20000 in
theorem ggX5_change_X4_perform : GoodIn wsX5_change wsX4_perform := goodIn_ca (goodIn_ca (goodIn_r _ [171, 9, 172, 173, 174, 20, 175, 26, 115, 116, 117, 118, 39, 93, 176, 41, 42, 43, 44, 45, 46, 47, 48, 49, 50, 177, 178, 179, 7, 180, 153, 82, 83, 181, 182, 183, 184, 185, 186, 187, 188, 60, 123, 124, 125, 126, 189, 190, 191, 192, 193, 194, 195, 196, 197, 198, 199, 200, 201, 202, 203, 204, 156, 205, 206, 207, 208, 209, 10, 70, 210, 211, 212, 213, 214, 155, 215, 216, 217, 218, 219, 220, 146, 221, 222, 223, 224, 225, 154, 226, 227, 228, 229, 230, 231, 232, 233, 84, 234, 235, 236, 237, 11, 98, 238, 239, 240, 241, 242, 243, 244, 245, 246, 247, 248, 249, 94, 95, 96, 97, 99, 100, 101, 102, 103, 104, 105, 106, 27, 28, 29, 111, 112, 113, 114, 119, 120, 121, 122, 250, 251, 252, 160, 253, 167, 162, 164, 165, 166, 265, 266, 267, 268, 269, 270, 271, 272, 273, 274, 275, 276, 277, 278, 279, 280, 281, 282, 283, 284, 285, 286, 287] (by decide +kernel) (by decide +kernel)) (goodIn_sub (fun _ h => List.mem_cons_of_mem _ (List.mem_append_left _ (List.mem_append_left _ (List.mem_append_right _ h)))) (by decide +kernel))) (goodIn_sub (fun _ h => List.mem_cons_of_mem _ (List.mem_append_left _ (List.mem_append_right _ h))) (by decide +kernel))
set_option maxRecDepth 20000 in
theorem gX5_change_X4_perform : GoodIn wsX5_change (wsV RX5 333 RX4 yX4_perform wsX4_perform) := goodIn_app (goodIn_of _ (by decide +kernel)) ggX5_change_X4_perform
set_option maxRecDepth 20000 in
theorem ggX5_requireNeedle_X5_isNeedle : GoodIn wsX5_requireNeedle wsX5_isNeedle := goodIn_r _ [6] (by decide +kernel) (by decide +kernel)
set_option maxRecDepth 20000 in
theorem gX5_requireNeedle_X5_isNeedle : GoodIn wsX5_requireNeedle (va_wsS RX5 360 yX5_isNeedle wsX5_isNeedle) := goodIn_app (goodIn_of _ (by decide +kernel)) ggX5_requireNeedle_X5_isNeedle
set_option maxRecDepth 20000 in
theorem ggX5_requireFeeder_X5_isFeeder : GoodIn wsX5_requireFeeder wsX5_isFeeder := goodIn_r _ [6] (by decide +kernel) (by decide +kernel)
set_option maxRecDepth 20000 in
theorem gX5_requireFeeder_X5_isFeeder : GoodIn wsX5_requireFeeder (va_wsS RX5 365 yX5_isFeeder wsX5_isFeeder) := goodIn_app (goodIn_of _ (by decide +kernel)) ggX5_requireFeeder_X5_isFeeder
set_option maxRecDepth 20000 in
theorem ggX5_requireCourses_X5_areCourses : GoodIn wsX5_requireCourses wsX5_areCourses := goodIn_r _ [6] (by decide +kernel) (by decide +kernel)
set_option maxRecDepth 20000 in
theorem gX5_requireCourses_X5_areCourses : GoodIn wsX5_requireCourses (va_wsS RX5 370 yX5_areCourses wsX5_areCourses) := goodIn_app (goodIn_of _ (by decide +kernel)) ggX5_requireCourses_X5_areCourses
