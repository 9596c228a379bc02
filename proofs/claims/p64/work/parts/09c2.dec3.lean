set_option maxRecDepth 20000 in
theorem ggX5_clearPattern_X5_change : GoodIn wsX5_clearPattern wsX5_change := goodIn_ca (goodIn_ca (goodIn_ca (goodIn_r _ [5, 6, 7, 8, 9, 10, 11, 12, 13, 14, 15, 16, 17, 18, 19, 20, 21, 22, 23, 24, 25, 26, 27, 28, 29, 30, 31, 32, 4, 33, 34, 35, 36, 37, 38, 39, 40, 41, 42, 43, 44, 45, 46, 47, 48, 49, 50, 51, 52, 53, 54, 55, 56, 57, 58, 59, 60, 61, 62, 63, 64, 65, 66, 67, 68, 69, 70, 71, 72, 73, 74, 75, 76, 77, 78, 79, 80, 81, 82, 83, 84, 85, 86, 87, 88, 89, 90, 91, 92, 93, 94, 95, 96, 97, 98, 99, 100, 101, 102, 103, 104, 105, 106, 107, 108, 109, 110, 111, 112, 113, 114, 115, 116, 117, 118, 119, 120, 121, 122, 123, 124, 125, 126, 127, 128, 129, 130, 131, 132, 133, 134, 135, 136, 137, 138, 139, 140, 141, 142, 143, 144, 145, 146, 147, 148, 149, 150, 151, 152, 153, 154, 155, 156, 157, 158, 159, 160, 161, 162, 163, 164, 165, 166, 167, 168, 169, 170, 171, 172, 173, 174, 175, 176, 177, 178, 179, 180, 181, 182, 183, 184, 185, 186, 187, 188, 189, 190, 191, 192, 193, 194, 195, 196, 197, 198, 199, 200, 201, 202, 203, 204, 205, 206, 207, 208, 209, 210, 211, 212, 213, 214, 215, 216, 217, 218, 219, 220, 221, 222, 223, 224, 225, 226, 227, 228, 229, 230, 231, 232, 233, 234, 235, 236, 237, 238, 239, 240, 241, 242, 243, 244, 245, 246, 247, 248, 249, 250, 251, 252, 253, 254, 255, 256, 257, 258, 259, 260, 261, 262, 263, 264, 265, 266, 267, 268, 269, 270, 271, 272, 273, 274, 275, 276, 277, 278, 279, 280, 281, 282, 283, 284, 285, 286, 287, 288, 289, 290, 291, 292, 293, 294] (by decide +kernel) (by decide +kernel)) (goodIn_sub (fun _ h => List.mem_cons_of_mem _ (List.mem_append_left _ (List.mem_append_left _ (List.mem_append_right _ h)))) (by decide +kernel))) (goodIn_sub (fun _ h => List.mem_cons_of_mem _ (List.mem_append_left _ (List.mem_append_right _ h))) (by decide +kernel))) (goodIn_sub (fun _ h => List.mem_cons_of_mem _ (List.mem_append_right _ h)) (by decide +kernel))
set_option maxRecDepth 20000 in
theorem gX5_clearPattern_X5_change : GoodIn wsX5_clearPattern (wsV RX5 76 RX5 yX5_change wsX5_change) := goodIn_app (goodIn_of _ (by decide +kernel)) ggX5_clearPattern_X5_change
set_option maxRecDepth 20000 in
theorem ggX5_yarnIn_X5_requireFeeder : GoodIn wsX5_yarnIn wsX5_requireFeeder := goodIn_ca (goodIn_r _ [6, 7, 8, 9, 10, 5, 11] (by decide +kernel) (by decide +kernel)) (goodIn_sub (fun _ h => List.mem_cons_of_mem _ (List.mem_append_right _ h)) (by decide +kernel))
set_option maxRecDepth 20000 in
theorem gX5_yarnIn_X5_requireFeeder : GoodIn wsX5_yarnIn (va_wsS RX5 125 yX5_requireFeeder wsX5_requireFeeder) := goodIn_app (goodIn_of _ (by decide +kernel)) ggX5_yarnIn_X5_requireFeeder
set_option maxRecDepth 20000 in
theorem ggX5_isKnit_X5_hasBit : GoodIn wsX5_isKnit wsX5_hasBit := goodIn_r _ [9] (by decide +kernel) (by decide +kernel)
set_option maxRecDepth 20000 in
theorem gX5_isKnit_X5_hasBit : GoodIn wsX5_isKnit (va_wsS RX5 160 yX5_hasBit wsX5_hasBit) := goodIn_app (goodIn_of _ (by decide +kernel)) ggX5_isKnit_X5_hasBit
set_option maxRecDepth 20000 in
theorem ggX5_knit_X5_requireCourses : GoodIn wsX5_knit wsX5_requireCourses := goodIn_ca (goodIn_r _ [4, 5, 6, 7, 8, 3, 9] (by decide +kernel) (by decide +kernel)) (goodIn_sub (fun _ h => List.mem_cons_of_mem _ (List.mem_append_left _ (List.mem_append_left _ (List.mem_append_left _ (List.mem_append_right _ h))))) (by decide +kernel))
set_option maxRecDepth 20000 in
theorem gX5_knit_X5_requireCourses : GoodIn wsX5_knit (va_wsS RX5 164 yX5_requireCourses wsX5_requireCourses) := goodIn_app (goodIn_of _ (by decide +kernel)) ggX5_knit_X5_requireCourses
set_option maxRecDepth 20000 in
theorem ggX5_knit_X5_change : GoodIn wsX5_knit wsX5_change := goodIn_ca (goodIn_ca (goodIn_ca (goodIn_r _ [13, 14, 15, 16, 17, 18, 19, 20, 21, 22, 23, 24, 25, 26, 27, 28, 29, 30, 31, 32, 33, 34, 35, 36, 37, 38, 39, 40, 3, 41, 42, 43, 44, 45, 46, 47, 48, 49, 50, 51, 52, 53, 54, 55, 56, 57, 58, 59, 60, 61, 62, 63, 64, 65, 66, 67, 68, 69, 70, 71, 72, 73, 74, 75, 76, 77, 78, 79, 80, 81, 82, 83, 84, 85, 86, 87, 88, 89, 90, 91, 92, 93, 94, 95, 96, 97, 98, 99, 100, 101, 102, 103, 104, 105, 106, 107, 108, 109, 110, 111, 112, 113, 114, 115, 116, 117, 118, 119, 120, 121, 122, 123, 124, 125, 126, 127, 128, 129, 130, 131, 132, 133, 134, 135, 136, 137, 138, 139, 140, 141, 142, 143, 144, 145, 146, 147, 148, 149, 150, 151, 152, 153, 154, 155, 156, 157, 158, 159, 160, 161, 162, 163, 164, 165, 166, 167, 168, 169, 170, 171, 172, 173, 174, 175, 176, 177, 178, 179, 180, 181, 182, 183, 184, 185, 186, 187, 188, 189, 190, 191, 192, 193, 194, 195, 196, 197, 198, 199, 200, 201, 202, 203, 204, 205, 206, 207, 208, 209, 210, 211, 212, 213, 214, 215, 216, 217, 218, 219, 220, 221, 222, 223, 224, 225, 226, 227, 228, 229, 230, 231, 232, 233, 234, 235, 236, 237, 238, 239, 240, 241, 242, 243, 244, 245, 246, 247, 248, 249, 250, 251, 252, 253, 254, 255, 256, 257, 258, 259, 260, 261, 262, 263, 264, 265, 266, 267, 268, 269, 270, 271, 272, 273, 274, 275, 276, 277, 278, 279, 280, 281, 282, 283, 284, 285, 286, 287, 288, 289, 290, 291, 292, 293, 294, 295, 296, 297, 298, 299, 300, 301, 302] (by decide +kernel) (by decide +kernel)) (goodIn_sub (fun _ h => List.mem_cons_of_mem _ (List.mem_append_left _ (List.mem_append_left _ (List.mem_append_right _ h)))) (by decide +kernel))) (goodIn_sub (fun _ h => List.mem_cons_of_mem _ (List.mem_append_left _ (List.mem_append_right _ h))) (by decide +kernel))) (goodIn_sub (fun _ h => List.mem_cons_of_mem _ (List.mem_append_right _ h)) (by decide +kernel))
set_option maxRecDepth 20000 in
theorem gX5_knit_X5_change : GoodIn wsX5_knit (wsV RX5 76 RX5 yX5_change wsX5_change) := goodIn_app (goodIn_of _ (by decide +kernel)) ggX5_knit_X5_change
set_option maxRecDepth 20000 in
theorem ggX5_willKnit_X5_requireNeedle : GoodIn wsX5_willKnit wsX5_requireNeedle := goodIn_ca (goodIn_r _ [6, 7, 8, 9, 10, 5, 11] (by decide +kernel) (by decide +kernel)) (goodIn_sub (fun _ h => List.mem_cons_of_mem _ (List.mem_append_left _ (List.mem_append_left _ (List.mem_append_right _ h)))) (by decide +kernel))
set_option maxRecDepth 20000 in
theorem gX5_willKnit_X5_requireNeedle : GoodIn wsX5_willKnit (va_wsS RX5 65 yX5_requireNeedle wsX5_requireNeedle) := goodIn_app (goodIn_of _ (by decide +kernel)) ggX5_willKnit_X5_requireNeedle
set_option maxRecDepth 20000 in
theorem ggX5_willKnit_X4_nextRow : GoodIn wsX5_willKnit wsX4_nextRow := goodIn_ca (goodIn_ca (goodIn_r _ [16, 17, 18, 19, 20, 21, 15, 22, 23, 24, 46, 47, 48, 49, 50, 51, 52, 53, 54, 55, 56, 57, 58, 59, 60, 61, 62, 63, 64] (by decide +kernel) (by decide +kernel)) (goodIn_sub (fun _ h => List.mem_cons_of_mem _ (List.mem_append_left _ (List.mem_append_right _ h))) (by decide +kernel))) (goodIn_sub (fun _ h => List.mem_cons_of_mem _ (List.mem_append_right _ h)) (by decide +kernel))
set_option maxRecDepth 20000 in
theorem gX5_willKnit_X4_nextRow : GoodIn wsX5_willKnit (wsV RX5 167 RX4 yX4_nextRow wsX4_nextRow) := goodIn_app (goodIn_of _ (by decide +kernel)) ggX5_willKnit_X4_nextRow
set_option maxRecDepth 20000 in
theorem ggX5_willKnit_X0_knits : GoodIn wsX5_willKnit wsX0_knits := goodIn_ca (goodIn_r _ [29, 30, 31, 32, 33, 5, 34, 65, 66, 67, 68] (by decide +kernel) (by decide +kernel)) (goodIn_sub (fun _ h => List.mem_cons_of_mem _ (List.mem_append_right _ h)) (by decide +kernel))
set_option maxRecDepth 20000 in
theorem gX5_willKnit_X0_knits : GoodIn wsX5_willKnit (wsV RX5 170 RX0 yX0_knits wsX0_knits) := goodIn_app (goodIn_of _ (by decide +kernel)) ggX5_willKnit_X0_knits
set_option maxRecDepth 20000 in
theorem ggX5_nextWidth_X4_nextRow : GoodIn wsX5_nextWidth wsX4_nextRow := goodIn_ca (goodIn_ca (goodIn_r _ [7, 8, 9, 10, 11, 12, 6, 13, 14, 15, 42, 43, 44, 45, 46, 47, 48, 49, 50, 51, 52, 53, 54, 55, 56, 57, 58, 59, 60] (by decide +kernel) (by decide +kernel)) (goodIn_sub (fun _ h => List.mem_cons_of_mem _ (List.mem_append_left _ (List.mem_append_right _ h))) (by decide +kernel))) (goodIn_sub (fun _ h => List.mem_cons_of_mem _ (List.mem_append_right _ h)) (by decide +kernel))
set_option maxRecDepth 20000 in
theorem gX5_nextWidth_X4_nextRow : GoodIn wsX5_nextWidth (wsV RX5 167 RX4 yX4_nextRow wsX4_nextRow) := goodIn_app (goodIn_of _ (by decide +kernel)) ggX5_nextWidth_X4_nextRow
set_option maxRecDepth 20000 in
theorem ggX5_nextWidth_X0_widthByNeedles : GoodIn wsX5_nextWidth wsX0_widthByNeedles := goodIn_ca (goodIn_r _ [20, 21, 22, 23, 19, 24, 25, 26, 27, 28, 29, 30, 61, 62, 63, 64] (by decide +kernel) (by decide +kernel)) (goodIn_sub (fun _ h => List.mem_cons_of_mem _ (List.mem_append_right _ h)) (by decide +kernel))
set_option maxRecDepth 20000 in
theorem gX5_nextWidth_X0_widthByNeedles : GoodIn wsX5_nextWidth (wsV RX5 173 RX0 yX0_widthByNeedles wsX0_widthByNeedles) := goodIn_app (goodIn_of _ (by decide +kernel)) ggX5_nextWidth_X0_widthByNeedles
set_option maxRecDepth 20000 in
theorem ggX5_nextWidthByMask_X4_nextRow : GoodIn wsX5_nextWidthByMask wsX4_nextRow := goodIn_ca (goodIn_ca (goodIn_r _ [7, 8, 9, 10, 11, 12, 6, 13, 14, 15, 46, 47, 48, 49, 50, 51, 52, 53, 54, 55, 56, 57, 58, 59, 60, 61, 62, 63, 64] (by decide +kernel) (by decide +kernel)) (goodIn_sub (fun _ h => List.mem_cons_of_mem _ (List.mem_append_left _ (List.mem_append_right _ h))) (by decide +kernel))) (goodIn_sub (fun _ h => List.mem_cons_of_mem _ (List.mem_append_right _ h)) (by decide +kernel))
set_option maxRecDepth 20000 in
theorem gX5_nextWidthByMask_X4_nextRow : GoodIn wsX5_nextWidthByMask (wsV RX5 167 RX4 yX4_nextRow wsX4_nextRow) := goodIn_app (goodIn_of _ (by decide +kernel)) ggX5_nextWidthByMask_X4_nextRow
set_option maxRecDepth 20000 in
theorem ggX5_nextWidthByMask_X0_widthByMasks : GoodIn wsX5_nextWidthByMask wsX0_widthByMasks := goodIn_ca (goodIn_r _ [20, 21, 22, 23, 24, 25, 19, 26, 27, 28, 29, 30, 31, 32, 33, 34, 65, 66, 67, 68] (by decide +kernel) (by decide +kernel)) (goodIn_sub (fun _ h => List.mem_cons_of_mem _ (List.mem_append_right _ h)) (by decide +kernel))
set_option maxRecDepth 20000 in
theorem gX5_nextWidthByMask_X0_widthByMasks : GoodIn wsX5_nextWidthByMask (wsV RX5 176 RX0 yX0_widthByMasks wsX0_widthByMasks) := goodIn_app (goodIn_of _ (by decide +kernel)) ggX5_nextWidthByMask_X0_widthByMasks
set_option maxRecDepth 20000 in
theorem ggX5_stitchesIn_X5_requireCourses : GoodIn wsX5_stitchesIn wsX5_requireCourses := goodIn_ca (goodIn_r _ [5, 6, 7, 8, 9, 4, 10] (by decide +kernel) (by decide +kernel)) (goodIn_sub (fun _ h => List.mem_cons_of_mem _ (List.mem_append_left _ (List.mem_append_left _ (List.mem_append_right _ h)))) (by decide +kernel))
set_option maxRecDepth 20000 in
theorem gX5_stitchesIn_X5_requireCourses : GoodIn wsX5_stitchesIn (va_wsS RX5 164 yX5_requireCourses wsX5_requireCourses) := goodIn_app (goodIn_of _ (by decide +kernel)) ggX5_stitchesIn_X5_requireCourses
set_option maxRecDepth 20000 in
theorem ggX5_stitchesIn_X4_stitchesAhead : GoodIn wsX5_stitchesIn wsX4_stitchesAhead := goodIn_ca (goodIn_ca (goodIn_r _ [15, 16, 17, 18, 19, 20, 21, 22, 23, 24, 25, 26, 27, 28, 29, 30, 31, 32, 33, 34, 35, 14, 36, 37, 38, 39, 40, 41, 42, 43, 44, 45, 46, 47, 4, 48, 49, 50, 51, 52, 53, 54, 55, 56, 57, 58, 59, 60, 61, 62, 63, 64, 76, 77, 78, 79, 80, 81, 82, 83, 84, 85, 86, 87, 88, 89, 90, 91, 92, 93, 94, 95, 96, 97, 98] (by decide +kernel) (by decide +kernel)) (goodIn_sub (fun _ h => List.mem_cons_of_mem _ (List.mem_append_left _ (List.mem_append_right _ h))) (by decide +kernel))) (goodIn_sub (fun _ h => List.mem_cons_of_mem _ (List.mem_append_right _ h)) (by decide +kernel))
set_option maxRecDepth 20000 in
theorem gX5_stitchesIn_X4_stitchesAhead : GoodIn wsX5_stitchesIn (wsV RX5 179 RX4 yX4_stitchesAhead wsX4_stitchesAhead) := goodIn_app (goodIn_of _ (by decide +kernel)) ggX5_stitchesIn_X4_stitchesAhead
set_option maxRecDepth 20000 in
theorem ggX5_dropsIn_X5_requireCourses : GoodIn wsX5_dropsIn wsX5_requireCourses := goodIn_ca (goodIn_r _ [5, 6, 7, 8, 9, 4, 10] (by decide +kernel) (by decide +kernel)) (goodIn_sub (fun _ h => List.mem_cons_of_mem _ (List.mem_append_left _ (List.mem_append_left _ (List.mem_append_right _ h)))) (by decide +kernel))
set_option maxRecDepth 20000 in
theorem gX5_dropsIn_X5_requireCourses : GoodIn wsX5_dropsIn (va_wsS RX5 164 yX5_requireCourses wsX5_requireCourses) := goodIn_app (goodIn_of _ (by decide +kernel)) ggX5_dropsIn_X5_requireCourses
set_option maxRecDepth 20000 in
theorem ggX5_dropsIn_X4_dropsAhead : GoodIn wsX5_dropsIn wsX4_dropsAhead := goodIn_ca (goodIn_ca (goodIn_r _ [15, 16, 17, 18, 19, 20, 21, 22, 23, 24, 25, 26, 27, 28, 29, 30, 31, 32, 33, 34, 35, 14, 36, 37, 38, 39, 40, 41, 42, 43, 44, 45, 46, 47, 4, 48, 49, 50, 51, 52, 53, 54, 55, 56, 57, 58, 59, 60, 72, 73, 74, 75, 76, 77, 78, 79, 80, 81, 82, 83, 84, 85, 86, 87, 88, 89, 90, 91, 92, 93, 94] (by decide +kernel) (by decide +kernel)) (goodIn_sub (fun _ h => List.mem_cons_of_mem _ (List.mem_append_left _ (List.mem_append_right _ h))) (by decide +kernel))) (goodIn_sub (fun _ h => List.mem_cons_of_mem _ (List.mem_append_right _ h)) (by decide +kernel))
set_option maxRecDepth 20000 in
theorem gX5_dropsIn_X4_dropsAhead : GoodIn wsX5_dropsIn (wsV RX5 182 RX4 yX4_dropsAhead wsX4_dropsAhead) := goodIn_app (goodIn_of _ (by decide +kernel)) ggX5_dropsIn_X4_dropsAhead
set_option maxRecDepth 20000 in
theorem ggX5_coursesPossible_X4_coursesAhead : GoodIn wsX5_coursesPossible wsX4_coursesAhead := goodIn_ca (goodIn_ca (goodIn_r _ [6, 7, 8, 9, 10, 11, 12, 13, 14, 15, 16, 17, 18, 19, 20, 21, 22, 23, 24, 25, 26, 27, 28, 29, 5, 30, 31, 32, 33, 34, 35, 36, 37, 38, 39, 40, 41, 42, 43, 44, 45, 46, 47, 48, 49, 50, 51, 52, 53, 54, 55, 56, 57, 58, 59, 60, 61, 62, 63, 64, 65, 66, 67, 68, 69, 81, 82, 83, 84, 85, 86, 87, 88, 89, 90, 91, 92, 93, 94, 95, 96, 97, 98, 99, 100, 101, 102, 103] (by decide +kernel) (by decide +kernel)) (goodIn_sub (fun _ h => List.mem_cons_of_mem _ (List.mem_append_left _ (List.mem_append_right _ h))) (by decide +kernel))) (goodIn_sub (fun _ h => List.mem_cons_of_mem _ (List.mem_append_right _ h)) (by decide +kernel))
set_option maxRecDepth 20000 in
theorem gX5_coursesPossible_X4_coursesAhead : GoodIn wsX5_coursesPossible (wsV RX5 185 RX4 yX4_coursesAhead wsX4_coursesAhead) := goodIn_app (goodIn_of _ (by decide +kernel)) ggX5_coursesPossible_X4_coursesAhead
set_option maxRecDepth 20000 in
theorem ggX5_widthOf_X5_requireCourse : GoodIn wsX5_widthOf wsX5_requireCourse := goodIn_ca (goodIn_r _ [8, 9, 10, 1, 2, 11, 12, 13, 14, 15, 16, 17, 18, 19, 20, 21, 22, 23, 24, 25, 26, 27, 28, 29, 30, 31, 32, 33, 34, 35, 36, 37, 38, 39, 40, 41] (by decide +kernel) (by decide +kernel)) (goodIn_sub (fun _ h => List.mem_cons_of_mem _ (List.mem_append_right _ h)) (by decide +kernel))
set_option maxRecDepth 20000 in
theorem gX5_widthOf_X5_requireCourse : GoodIn wsX5_widthOf (wsV RX5 197 RX5 yX5_requireCourse wsX5_requireCourse) := goodIn_app (goodIn_of _ (by decide +kernel)) ggX5_widthOf_X5_requireCourse
set_option maxRecDepth 20000 in
theorem ggX5_yarnOf_X5_requireCourse : GoodIn wsX5_yarnOf wsX5_requireCourse := goodIn_ca (goodIn_r _ [8, 9, 10, 1, 2, 11, 12, 13, 14, 15, 16, 17, 18, 19, 20, 21, 22, 23, 24, 25, 26, 27, 28, 29, 30, 31, 32, 33, 34, 35, 36, 37, 38, 39, 40, 41] (by decide +kernel) (by decide +kernel)) (goodIn_sub (fun _ h => List.mem_cons_of_mem _ (List.mem_append_right _ h)) (by decide +kernel))
set_option maxRecDepth 20000 in
theorem gX5_yarnOf_X5_requireCourse : GoodIn wsX5_yarnOf (wsV RX5 197 RX5 yX5_requireCourse wsX5_requireCourse) := goodIn_app (goodIn_of _ (by decide +kernel)) ggX5_yarnOf_X5_requireCourse
set_option maxRecDepth 20000 in
theorem ggX5_feederOf_X5_requireCourse : GoodIn wsX5_feederOf wsX5_requireCourse := goodIn_ca (goodIn_r _ [8, 9, 10, 1, 2, 11, 12, 13, 14, 15, 16, 17, 18, 19, 20, 21, 22, 23, 24, 25, 26, 27, 28, 29, 30, 31, 32, 33, 34, 35, 36, 37, 38, 39, 40, 41] (by decide +kernel) (by decide +kernel)) (goodIn_sub (fun _ h => List.mem_cons_of_mem _ (List.mem_append_right _ h)) (by decide +kernel))
set_option maxRecDepth 20000 in
theorem gX5_feederOf_X5_requireCourse : GoodIn wsX5_feederOf (wsV RX5 197 RX5 yX5_requireCourse wsX5_requireCourse) := goodIn_app (goodIn_of _ (by decide +kernel)) ggX5_feederOf_X5_requireCourse
set_option maxRecDepth 20000 in
theorem ggX5_dropsOf_X5_requireCourse : GoodIn wsX5_dropsOf wsX5_requireCourse := goodIn_ca (goodIn_r _ [8, 9, 10, 1, 2, 11, 12, 13, 14, 15, 16, 17, 18, 19, 20, 21, 22, 23, 24, 25, 26, 27, 28, 29, 30, 31, 32, 33, 34, 35, 36, 37, 38, 39, 40, 41] (by decide +kernel) (by decide +kernel)) (goodIn_sub (fun _ h => List.mem_cons_of_mem _ (List.mem_append_right _ h)) (by decide +kernel))
set_option maxRecDepth 20000 in
theorem gX5_dropsOf_X5_requireCourse : GoodIn wsX5_dropsOf (wsV RX5 197 RX5 yX5_requireCourse wsX5_requireCourse) := goodIn_app (goodIn_of _ (by decide +kernel)) ggX5_dropsOf_X5_requireCourse
set_option maxRecDepth 20000 in
theorem ggX5_courseByWidth_X2_courseAt : GoodIn wsX5_courseByWidth wsX2_courseAt := goodIn_ca (goodIn_r _ [9, 10, 11, 12, 13, 8, 14, 15, 16, 17, 18, 19, 20, 46, 47, 48, 49, 50] (by decide +kernel) (by decide +kernel)) (goodIn_sub (fun _ h => List.mem_cons_of_mem _ (List.mem_append_right _ h)) (by decide +kernel))
set_option maxRecDepth 20000 in
theorem gX5_courseByWidth_X2_courseAt : GoodIn wsX5_courseByWidth (wsV RX5 212 RX2 yX2_courseAt wsX2_courseAt) := goodIn_app (goodIn_of _ (by decide +kernel)) ggX5_courseByWidth_X2_courseAt
set_option maxRecDepth 20000 in
theorem ggX5_feederByYarn_X4_feederAt : GoodIn wsX5_feederByYarn wsX4_feederAt := goodIn_ca (goodIn_r _ [8, 9, 10, 11, 7, 12, 13, 25, 26, 27, 28, 29, 30, 31, 32, 33, 34, 35, 36, 37, 38] (by decide +kernel) (by decide +kernel)) (goodIn_sub (fun _ h => List.mem_cons_of_mem _ (List.mem_append_right _ h)) (by decide +kernel))
set_option maxRecDepth 20000 in
theorem gX5_feederByYarn_X4_feederAt : GoodIn wsX5_feederByYarn (wsV RX5 217 RX4 yX4_feederAt wsX4_feederAt) := goodIn_app (goodIn_of _ (by decide +kernel)) ggX5_feederByYarn_X4_feederAt
set_option maxRecDepth 20000 in
theorem ggX5_stitchCount_X2_countStitches : GoodIn wsX5_stitchCount wsX2_countStitches := goodIn_ca (goodIn_r _ [7, 8, 9, 35, 36, 37, 38, 39] (by decide +kernel) (by decide +kernel)) (goodIn_sub (fun _ h => List.mem_cons_of_mem _ (List.mem_append_right _ h)) (by decide +kernel))
set_option maxRecDepth 20000 in
theorem gX5_stitchCount_X2_countStitches : GoodIn wsX5_stitchCount (wsV RX5 222 RX2 yX2_countStitches wsX2_countStitches) := goodIn_app (goodIn_of _ (by decide +kernel)) ggX5_stitchCount_X2_countStitches
set_option maxRecDepth 20000 in
theorem ggX5_meanWidth_X2_countStitches : GoodIn wsX5_meanWidth wsX2_countStitches := goodIn_ca (goodIn_r _ [10, 11, 12, 38, 39, 40, 41, 42] (by decide +kernel) (by decide +kernel)) (goodIn_sub (fun _ h => List.mem_cons_of_mem _ (List.mem_append_right _ h)) (by decide +kernel))
set_option maxRecDepth 20000 in
theorem gX5_meanWidth_X2_countStitches : GoodIn wsX5_meanWidth (wsV RX5 222 RX2 yX2_countStitches wsX2_countStitches) := goodIn_app (goodIn_of _ (by decide +kernel)) ggX5_meanWidth_X2_countStitches
set_option maxRecDepth 20000 in
theorem ggX5_droppedShare_X0_countInWork : GoodIn wsX5_droppedShare wsX0_countInWork := goodIn_r _ [9, 10, 11, 12, 13, 14, 15, 16, 17, 52, 53, 54, 55] (by decide +kernel) (by decide +kernel)
set_option maxRecDepth 20000 in
theorem gX5_droppedShare_X0_countInWork : GoodIn wsX5_droppedShare (wsV RX5 103 RX0 yX0_countInWork wsX0_countInWork) := goodIn_app (goodIn_of _ (by decide +kernel)) ggX5_droppedShare_X0_countInWork
set_option maxRecDepth 20000 in
theorem ggX5_droppedShare_X0_countEmpty : GoodIn wsX5_droppedShare wsX0_countEmpty := goodIn_ca (goodIn_r _ [21, 10, 22, 23, 24, 8, 25, 26, 11, 12, 13, 14, 15, 16, 17, 52, 53, 54, 55] (by decide +kernel) (by decide +kernel)) (goodIn_sub (fun _ h => List.mem_cons_of_mem _ (List.mem_append_right _ h)) (by decide +kernel))
set_option maxRecDepth 20000 in
theorem gX5_droppedShare_X0_countEmpty : GoodIn wsX5_droppedShare (wsV RX5 244 RX0 yX0_countEmpty wsX0_countEmpty) := goodIn_app (goodIn_of _ (by decide +kernel)) ggX5_droppedShare_X0_countEmpty
set_option maxRecDepth 20000 in
theorem ggX5_isConsistent_X4_nextRow : GoodIn wsX5_isConsistent wsX4_nextRow := goodIn_ca (goodIn_ca (goodIn_r _ [9, 10, 11, 12, 13, 14, 8, 15, 16, 17, 80, 81, 82, 83, 84, 85, 86, 87, 88, 89, 90, 91, 92, 93, 94, 95, 96, 97, 98] (by decide +kernel) (by decide +kernel)) (goodIn_sub (fun _ h => List.mem_cons_of_mem _ (List.mem_append_left _ (List.mem_append_right _ h))) (by decide +kernel))) (goodIn_sub (fun _ h => List.mem_cons_of_mem _ (List.mem_append_right _ h)) (by decide +kernel))
set_option maxRecDepth 20000 in
theorem gX5_isConsistent_X4_nextRow : GoodIn wsX5_isConsistent (wsV RX5 167 RX4 yX4_nextRow wsX4_nextRow) := goodIn_app (goodIn_of _ (by decide +kernel)) ggX5_isConsistent_X4_nextRow
