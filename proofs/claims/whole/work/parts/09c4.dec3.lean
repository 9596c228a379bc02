set_option maxRecDepth 20000 in
theorem ggX5_restoreSnapshot_X4_copyFrom : GoodIn wsX5_restoreSnapshot wsX4_copyFrom := goodIn_r _ [13, 14, 15, 16, 17, 18, 19, 20, 21, 22, 23, 24, 25, 26, 27, 28, 29, 30, 31, 32, 33, 34, 35, 36, 37, 38, 39, 40, 41, 42, 43, 44, 45, 46, 47, 48, 49, 67, 68, 69, 70, 71, 72, 73, 74, 75, 76, 77, 78, 79, 80, 86, 87, 88, 89, 81, 82, 83, 84, 85] (by decide +kernel) (by decide +kernel)
set_option maxRecDepth 20000 in
theorem gX5_restoreSnapshot_X4_copyFrom : GoodIn wsX5_restoreSnapshot (wsV RX5 294 RX4 yX4_copyFrom wsX4_copyFrom) := goodIn_app (goodIn_of _ (by decide +kernel)) ggX5_restoreSnapshot_X4_copyFrom
set_option maxRecDepth 20000 in
theorem ggX5_restoreSnapshot_X3_clear : GoodIn wsX5_restoreSnapshot wsX3_clear := goodIn_r _ [54, 55, 90, 91, 92] (by decide +kernel) (by decide +kernel)
set_option maxRecDepth 20000 in
theorem gX5_restoreSnapshot_X3_clear : GoodIn wsX5_restoreSnapshot (wsV RX5 320 RX3 yX3_clear wsX3_clear) := goodIn_app (goodIn_of _ (by decide +kernel)) ggX5_restoreSnapshot_X3_clear
set_option maxRecDepth 20000 in
theorem ggX5_change_X4_refusalOf : GoodIn wsX5_change wsX4_refusalOf := goodIn_ca (goodIn_ca (goodIn_r _ [8, 9, 10, 11, 12, 13, 14, 15, 7, 16, 17, 18, 19, 20, 21, 22, 23, 24, 25, 26, 27, 28, 29, 30, 31, 32, 33, 34, 35, 36, 37, 38, 39, 40, 41, 42, 43, 44, 45, 46, 47, 48, 49, 50, 51, 52, 53, 54, 55, 56, 57, 58, 59, 60, 61, 62, 63, 64, 65, 66, 67, 68, 69, 70, 71, 72, 73, 74, 75, 76, 77, 78, 79, 80, 81, 82, 83, 84, 85, 86, 87, 88, 89, 90, 91, 92, 93, 94, 95, 96, 97, 98, 99, 100, 101, 102, 103, 104, 105, 106, 107, 108, 109, 110, 111, 112, 113, 114, 115, 116, 117, 118, 119, 120, 121, 122, 123, 124, 125, 126, 265, 266, 267, 268, 269, 270, 271, 272, 273, 274, 275, 276, 277, 278, 279, 280, 281, 282, 283, 284, 285, 286, 287] (by decide +kernel) (by decide +kernel)) (goodIn_sub (fun _ h => List.mem_cons_of_mem _ (List.mem_append_left _ (List.mem_append_left _ (List.mem_append_right _ h)))) (by decide +kernel))) (goodIn_sub (fun _ h => List.mem_cons_of_mem _ (List.mem_append_left _ (List.mem_append_right _ h))) (by decide +kernel))
set_option maxRecDepth 20000 in
theorem gX5_change_X4_refusalOf : GoodIn wsX5_change (wsV RX5 323 RX4 yX4_refusalOf wsX4_refusalOf) := goodIn_app (goodIn_of _ (by decide +kernel)) ggX5_change_X4_refusalOf
set_option maxRecDepth 20000 in
theorem ggX5_change_X5_reject : GoodIn wsX5_change wsX5_reject := goodIn_ca (goodIn_r _ [130, 131, 132, 133, 134, 135, 254, 255, 256, 257, 258, 259, 260, 261, 262, 263, 264] (by decide +kernel) (by decide +kernel)) (goodIn_sub (fun _ h => List.mem_cons_of_mem _ (List.mem_append_right _ h)) (by decide +kernel))
set_option maxRecDepth 20000 in
theorem gX5_change_X5_reject : GoodIn wsX5_change (wsV RX5 329 RX5 yX5_reject wsX5_reject) := goodIn_app (goodIn_of _ (by decide +kernel)) ggX5_change_X5_reject
set_option maxRecDepth 20000 in
theorem ggX5_change_X3_push : GoodIn wsX5_change wsX3_push := goodIn_r _ [140, 141, 142, 143, 144, 145, 146, 147, 148, 149, 150, 7, 151, 9, 82, 10, 152, 90, 91, 92, 98, 70, 84, 11, 153, 154, 155, 156, 85, 86, 87, 20, 88, 39, 89, 93, 26, 60, 157, 158, 159, 160, 161, 162, 163, 164, 165, 166, 167, 288, 289, 290, 265, 266, 267, 268, 269, 270, 271, 272, 273, 274, 275, 276, 277, 278, 279, 280, 281, 282, 283, 284, 285, 286, 287] (by decide +kernel) (by decide +kernel)
set_option maxRecDepth 20000 in
theorem gX5_change_X3_push : GoodIn wsX5_change (wsV RX5 302 RX3 yX3_push wsX3_push) := goodIn_app (goodIn_of _ (by decide +kernel)) ggX5_change_X3_push
set_option maxRecDepth 20000 in
theorem ggX5_change_X4_perform : GoodIn wsX5_change wsX4_perform := goodIn_ca (goodIn_ca (goodIn_r _ [171, 9, 172, 173, 174, 20, 175, 26, 115, 116, 117, 118, 39, 93, 176, 41, 42, 43, 44, 45, 46, 47, 48, 49, 50, 177, 178, 179, 7, 180, 153, 82, 83, 181, 182, 183, 184, 185, 186, 187, 188, 60, 123, 124, 125, 126, 189, 190, 191, 192, 193, 194, 195, 196, 197, 198, 199, 200, 201, 202, 203, 204, 156, 205, 206, 207, 208, 209, 10, 70, 210, 211, 212, 213, 214, 155, 215, 216, 217, 218, 219, 220, 146, 221, 222, 223, 224, 225, 154, 226, 227, 228, 229, 230, 231, 232, 233, 84, 234, 235, 236, 237, 11, 98, 238, 239, 240, 241, 242, 243, 244, 245, 246, 247, 248, 249, 94, 95, 96, 97, 99, 100, 101, 102, 103, 104, 105, 106, 27, 28, 29, 111, 112, 113, 114, 119, 120, 121, 122, 250, 251, 252, 160, 253, 167, 162, 164, 165, 166, 265, 266, 267, 268, 269, 270, 271, 272, 273, 274, 275, 276, 277, 278, 279, 280, 281, 282, 283, 284, 285, 286, 287] (by decide +kernel) (by decide +kernel)) (goodIn_sub (fun _ h => List.mem_cons_of_mem _ (List.mem_append_left _ (List.mem_append_left _ (List.mem_append_right _ h)))) (by decide +kernel))) (goodIn_sub (fun _ h => List.mem_cons_of_mem _ (List.mem_append_left _ (List.mem_append_right _ h))) (by decide +kernel))
set_option maxRecDepth 20000 in
theorem gX5_change_X4_perform : GoodIn wsX5_change (wsV RX5 333 RX4 yX4_perform wsX4_perform) := goodIn_app (goodIn_of _ (by decide +kernel)) ggX5_change_X4_perform
set_option maxRecDepth 20000 in
theorem ggX5_tryCommand_X5_fits : GoodIn wsX5_tryCommand wsX5_fits := goodIn_r _ [11, 12, 13, 10, 14, 15, 16, 17, 18, 19, 20, 21, 22, 23, 24, 25, 26] (by decide +kernel) (by decide +kernel)
set_option maxRecDepth 20000 in
theorem gX5_tryCommand_X5_fits : GoodIn wsX5_tryCommand (va_wsS RX5 345 yX5_fits wsX5_fits) := goodIn_app (goodIn_of _ (by decide +kernel)) ggX5_tryCommand_X5_fits
set_option maxRecDepth 20000 in
theorem ggX5_tryCommand_X4_refusalOf : GoodIn wsX5_tryCommand wsX4_refusalOf := goodIn_ca (goodIn_ca (goodIn_r _ [31, 32, 33, 34, 35, 36, 37, 38, 30, 39, 40, 41, 42, 43, 44, 45, 46, 47, 48, 49, 50, 10, 51, 52, 53, 54, 55, 56, 57, 58, 59, 60, 61, 62, 63, 64, 65, 66, 67, 68, 69, 70, 71, 72, 73, 74, 75, 76, 77, 78, 79, 80, 81, 82, 83, 84, 85, 86, 87, 88, 89, 90, 91, 92, 93, 94, 95, 96, 13, 14, 97, 98, 99, 100, 101, 102, 103, 104, 105, 106, 107, 108, 109, 110, 111, 112, 113, 114, 115, 116, 117, 118, 119, 120, 121, 122, 123, 124, 125, 126, 127, 128, 129, 130, 131, 132, 133, 134, 135, 136, 137, 138, 139, 140, 141, 142, 143, 144, 145, 146, 270, 271, 272, 273, 274, 275, 276, 277, 278, 279, 280, 281, 282, 283, 284, 285, 286, 287, 288, 289, 290, 291, 292] (by decide +kernel) (by decide +kernel)) (goodIn_sub (fun _ h => List.mem_cons_of_mem _ (List.mem_append_left _ (List.mem_append_left _ (List.mem_append_left _ (List.mem_append_right _ h))))) (by decide +kernel))) (goodIn_sub (fun _ h => List.mem_cons_of_mem _ (List.mem_append_left _ (List.mem_append_right _ h))) (by decide +kernel))
set_option maxRecDepth 20000 in
theorem gX5_tryCommand_X4_refusalOf : GoodIn wsX5_tryCommand (wsV RX5 323 RX4 yX4_refusalOf wsX4_refusalOf) := goodIn_app (goodIn_of _ (by decide +kernel)) ggX5_tryCommand_X4_refusalOf
set_option maxRecDepth 20000 in
theorem ggX5_tryCommand_X5_reject : GoodIn wsX5_tryCommand wsX5_reject := goodIn_ca (goodIn_r _ [150, 151, 152, 153, 154, 155, 253, 254, 255, 256, 257, 258, 259, 260, 261, 262, 263] (by decide +kernel) (by decide +kernel)) (goodIn_sub (fun _ h => List.mem_cons_of_mem _ (List.mem_append_right _ h)) (by decide +kernel))
set_option maxRecDepth 20000 in
theorem gX5_tryCommand_X5_reject : GoodIn wsX5_tryCommand (wsV RX5 329 RX5 yX5_reject wsX5_reject) := goodIn_app (goodIn_of _ (by decide +kernel)) ggX5_tryCommand_X5_reject
set_option maxRecDepth 20000 in
theorem ggX5_tryCommand_X4_perform : GoodIn wsX5_tryCommand wsX4_perform := goodIn_ca (goodIn_ca (goodIn_r _ [159, 32, 160, 161, 162, 43, 163, 49, 135, 136, 137, 138, 61, 113, 164, 63, 64, 65, 66, 67, 68, 69, 70, 71, 72, 165, 166, 167, 30, 168, 169, 102, 103, 170, 171, 172, 173, 174, 175, 176, 177, 82, 143, 144, 145, 146, 178, 179, 180, 181, 182, 183, 184, 185, 186, 187, 188, 189, 190, 191, 192, 193, 194, 195, 196, 197, 198, 199, 33, 92, 200, 201, 202, 203, 204, 205, 206, 207, 208, 209, 210, 211, 212, 213, 214, 215, 216, 217, 218, 219, 220, 221, 222, 223, 224, 225, 226, 104, 227, 228, 229, 230, 34, 118, 231, 232, 233, 234, 235, 236, 237, 238, 239, 240, 241, 242, 114, 115, 116, 117, 119, 120, 121, 122, 123, 124, 125, 126, 50, 10, 51, 131, 132, 133, 134, 139, 140, 141, 142, 243, 244, 245, 246, 247, 248, 249, 250, 251, 252, 270, 271, 272, 273, 274, 275, 276, 277, 278, 279, 280, 281, 282, 283, 284, 285, 286, 287, 288, 289, 290, 291, 292] (by decide +kernel) (by decide +kernel)) (goodIn_sub (fun _ h => List.mem_cons_of_mem _ (List.mem_append_left _ (List.mem_append_left _ (List.mem_append_left _ (List.mem_append_right _ h))))) (by decide +kernel))) (goodIn_sub (fun _ h => List.mem_cons_of_mem _ (List.mem_append_left _ (List.mem_append_right _ h))) (by decide +kernel))
set_option maxRecDepth 20000 in
theorem gX5_tryCommand_X4_perform : GoodIn wsX5_tryCommand (wsV RX5 333 RX4 yX4_perform wsX4_perform) := goodIn_app (goodIn_of _ (by decide +kernel)) ggX5_tryCommand_X4_perform
set_option maxRecDepth 20000 in
theorem ggX5_requireNeedle_X5_isNeedle : GoodIn wsX5_requireNeedle wsX5_isNeedle := goodIn_r _ [6] (by decide +kernel) (by decide +kernel)
set_option maxRecDepth 20000 in
theorem gX5_requireNeedle_X5_isNeedle : GoodIn wsX5_requireNeedle (va_wsS RX5 360 yX5_isNeedle wsX5_isNeedle) := goodIn_app (goodIn_of _ (by decide +kernel)) ggX5_requireNeedle_X5_isNeedle
set_option maxRecDepth 20000 in
theorem ggX5_requireFeeder_X5_isFeeder : GoodIn wsX5_requireFeeder wsX5_isFeeder := goodIn_r _ [6] (by decide +kernel) (by decide +kernel)
set_option maxRecDepth 20000 in
theorem gX5_requireFeeder_X5_isFeeder : GoodIn wsX5_requireFeeder (va_wsS RX5 365 yX5_isFeeder wsX5_isFeeder) := goodIn_app (goodIn_of _ (by decide +kernel)) ggX5_requireFeeder_X5_isFeeder
set_option maxRecDepth 20000 in
theorem ggX5_requireCourses_X5_areCourses : GoodIn wsX5_requireCourses wsX5_areCourses := goodIn_r _ [6] (by decide +kernel) (by decide +kernel)
set_option maxRecDepth 20000 in
theorem gX5_requireCourses_X5_areCourses : GoodIn wsX5_requireCourses (va_wsS RX5 370 yX5_areCourses wsX5_areCourses) := goodIn_app (goodIn_of _ (by decide +kernel)) ggX5_requireCourses_X5_areCourses
set_option maxRecDepth 20000 in
theorem ggX5_fits_X5_isNeedle : GoodIn wsX5_fits wsX5_isNeedle := goodIn_r _ [4] (by decide +kernel) (by decide +kernel)
set_option maxRecDepth 20000 in
theorem gX5_fits_X5_isNeedle : GoodIn wsX5_fits (va_wsS RX5 360 yX5_isNeedle wsX5_isNeedle) := goodIn_app (goodIn_of _ (by decide +kernel)) ggX5_fits_X5_isNeedle
set_option maxRecDepth 20000 in
theorem ggX5_fits_X5_isFeeder : GoodIn wsX5_fits wsX5_isFeeder := goodIn_r _ [7] (by decide +kernel) (by decide +kernel)
set_option maxRecDepth 20000 in
theorem gX5_fits_X5_isFeeder : GoodIn wsX5_fits (va_wsS RX5 365 yX5_isFeeder wsX5_isFeeder) := goodIn_app (goodIn_of _ (by decide +kernel)) ggX5_fits_X5_isFeeder
set_option maxRecDepth 20000 in
theorem ggX5_fits_X5_areUnits : GoodIn wsX5_fits wsX5_areUnits := goodIn_r _ [10] (by decide +kernel) (by decide +kernel)
set_option maxRecDepth 20000 in
theorem gX5_fits_X5_areUnits : GoodIn wsX5_fits (va_wsS RX5 128 yX5_areUnits wsX5_areUnits) := goodIn_app (goodIn_of _ (by decide +kernel)) ggX5_fits_X5_areUnits
set_option maxRecDepth 20000 in
theorem ggX5_fits_X5_isTension : GoodIn wsX5_fits wsX5_isTension := goodIn_r _ [13] (by decide +kernel) (by decide +kernel)
set_option maxRecDepth 20000 in
theorem gX5_fits_X5_isTension : GoodIn wsX5_fits (va_wsS RX5 133 yX5_isTension wsX5_isTension) := goodIn_app (goodIn_of _ (by decide +kernel)) ggX5_fits_X5_isTension
set_option maxRecDepth 20000 in
theorem ggX5_fits_X5_areCourses : GoodIn wsX5_fits wsX5_areCourses := goodIn_r _ [16] (by decide +kernel) (by decide +kernel)
set_option maxRecDepth 20000 in
theorem gX5_fits_X5_areCourses : GoodIn wsX5_fits (va_wsS RX5 370 yX5_areCourses wsX5_areCourses) := goodIn_app (goodIn_of _ (by decide +kernel)) ggX5_fits_X5_areCourses
set_option maxRecDepth 20000 in
theorem ggX6_rejects_X6_fail : GoodIn wsX6_rejects wsX6_fail := goodIn_r _ [9, 10, 11, 12, 13, 14, 15, 16, 17, 18, 19, 20, 21, 22, 23, 24, 25, 26, 27, 28, 29, 30, 31] (by decide +kernel) (by decide +kernel)
set_option maxRecDepth 20000 in
theorem gX6_rejects_X6_fail : GoodIn wsX6_rejects (wsV RX6 51 RX6 yX6_fail wsX6_fail) := goodIn_app (goodIn_of _ (by decide +kernel)) ggX6_rejects_X6_fail
set_option maxRecDepth 20000 in
theorem ggX6_begins_X6_lays : GoodIn wsX6_begins wsX6_lays := goodIn_ca (goodIn_r _ [8] (by decide +kernel) (by decide +kernel)) (goodIn_sub (fun _ h => List.mem_cons_of_mem _ (List.mem_append_right _ h)) (by decide +kernel))
set_option maxRecDepth 20000 in
theorem gX6_begins_X6_lays : GoodIn wsX6_begins (va_wsS RX6 55 yX6_lays wsX6_lays) := goodIn_app (goodIn_of _ (by decide +kernel)) ggX6_begins_X6_lays
set_option maxRecDepth 20000 in
theorem ggX6_ends_X6_lays : GoodIn wsX6_ends wsX6_lays := goodIn_ca (goodIn_r _ [9] (by decide +kernel) (by decide +kernel)) (goodIn_sub (fun _ h => List.mem_cons_of_mem _ (List.mem_append_right _ h)) (by decide +kernel))
set_option maxRecDepth 20000 in
theorem gX6_ends_X6_lays : GoodIn wsX6_ends (va_wsS RX6 55 yX6_lays wsX6_lays) := goodIn_app (goodIn_of _ (by decide +kernel)) ggX6_ends_X6_lays
set_option maxRecDepth 20000 in
theorem ggX6_isNeedle_X6_isIn : GoodIn wsX6_isNeedle wsX6_isIn := goodIn_r _ [4] (by decide +kernel) (by decide +kernel)
set_option maxRecDepth 20000 in
theorem gX6_isNeedle_X6_isIn : GoodIn wsX6_isNeedle (va_wsS RX6 62 yX6_isIn wsX6_isIn) := goodIn_app (goodIn_of _ (by decide +kernel)) ggX6_isNeedle_X6_isIn
set_option maxRecDepth 20000 in
theorem ggX6_isFeeder_X6_isIn : GoodIn wsX6_isFeeder wsX6_isIn := goodIn_r _ [4] (by decide +kernel) (by decide +kernel)
set_option maxRecDepth 20000 in
theorem gX6_isFeeder_X6_isIn : GoodIn wsX6_isFeeder (va_wsS RX6 62 yX6_isIn wsX6_isIn) := goodIn_app (goodIn_of _ (by decide +kernel)) ggX6_isFeeder_X6_isIn
set_option maxRecDepth 20000 in
theorem ggX6_casts_X6_isNeedle : GoodIn wsX6_casts wsX6_isNeedle := goodIn_r _ [5, 6, 7, 4, 8] (by decide +kernel) (by decide +kernel)
set_option maxRecDepth 20000 in
theorem gX6_casts_X6_isNeedle : GoodIn wsX6_casts (va_wsS RX6 66 yX6_isNeedle wsX6_isNeedle) := goodIn_app (goodIn_of _ (by decide +kernel)) ggX6_casts_X6_isNeedle
set_option maxRecDepth 20000 in
theorem ggX6_casts_X6_fail : GoodIn wsX6_casts wsX6_fail := goodIn_r _ [12, 13, 33, 34, 35, 36, 37, 38, 39, 40, 41, 42, 43, 44, 45, 46, 47, 48, 49, 50, 51, 52, 53] (by decide +kernel) (by decide +kernel)
set_option maxRecDepth 20000 in
theorem gX6_casts_X6_fail : GoodIn wsX6_casts (wsV RX6 51 RX6 yX6_fail wsX6_fail) := goodIn_app (goodIn_of _ (by decide +kernel)) ggX6_casts_X6_fail
set_option maxRecDepth 20000 in
theorem ggX6_casts_X6_isOn : GoodIn wsX6_casts wsX6_isOn := goodIn_ca (goodIn_r _ [17, 1, 33, 34, 35, 36, 37, 38, 39, 40, 41, 42, 43, 44, 45, 46, 47, 48, 49, 50, 51, 52, 53] (by decide +kernel) (by decide +kernel)) (goodIn_sub (fun _ h => List.mem_cons_of_mem _ (List.mem_append_right _ h)) (by decide +kernel))
set_option maxRecDepth 20000 in
theorem gX6_casts_X6_isOn : GoodIn wsX6_casts (wsV RX6 70 RX6 yX6_isOn wsX6_isOn) := goodIn_app (goodIn_of _ (by decide +kernel)) ggX6_casts_X6_isOn
set_option maxRecDepth 20000 in
theorem ggX6_casts_X6_rejects : GoodIn wsX6_casts wsX6_rejects := goodIn_r _ [21, 22, 23, 24, 25, 9, 10, 11, 4, 12, 13, 33, 34, 35, 36, 37, 38, 39, 40, 41, 42, 43, 44, 45, 46, 47, 48, 49, 50, 51, 52, 53] (by decide +kernel) (by decide +kernel)
set_option maxRecDepth 20000 in
theorem gX6_casts_X6_rejects : GoodIn wsX6_casts (wsV RX6 73 RX6 yX6_rejects wsX6_rejects) := goodIn_app (goodIn_of _ (by decide +kernel)) ggX6_casts_X6_rejects
set_option maxRecDepth 20000 in
theorem ggX6_casts_X6_puts : GoodIn wsX6_casts wsX6_puts := goodIn_ca (goodIn_r _ [29, 1, 33, 34, 35, 36, 37, 38, 39, 40, 41, 42, 43, 44, 45, 46, 47, 48, 49, 50, 51, 52, 53] (by decide +kernel) (by decide +kernel)) (goodIn_sub (fun _ h => List.mem_cons_of_mem _ (List.mem_append_right _ h)) (by decide +kernel))
set_option maxRecDepth 20000 in
theorem gX6_casts_X6_puts : GoodIn wsX6_casts (wsV RX6 77 RX6 yX6_puts wsX6_puts) := goodIn_app (goodIn_of _ (by decide +kernel)) ggX6_casts_X6_puts
set_option maxRecDepth 20000 in
theorem ggX6_casts_X6_bits : GoodIn wsX6_casts wsX6_bits := goodIn_r _ [32] (by decide +kernel) (by decide +kernel)
set_option maxRecDepth 20000 in
theorem gX6_casts_X6_bits : GoodIn wsX6_casts (va_wsS RX6 81 yX6_bits wsX6_bits) := goodIn_app (goodIn_of _ (by decide +kernel)) ggX6_casts_X6_bits
set_option maxRecDepth 20000 in
theorem ggX6_castOn_X6_begins : GoodIn wsX6_castOn wsX6_begins := goodIn_ca (goodIn_r _ [5, 6, 7, 8, 9, 10, 11, 4, 12, 51, 52, 53, 54, 55, 56, 57, 58, 59, 60, 61, 62, 63, 64, 65, 66, 67, 68, 69, 70, 71] (by decide +kernel) (by decide +kernel)) (goodIn_sub (fun _ h => List.mem_cons_of_mem _ (List.mem_append_right _ h)) (by decide +kernel))
set_option maxRecDepth 20000 in
theorem gX6_castOn_X6_begins : GoodIn wsX6_castOn (wsV RX6 84 RX6 yX6_begins wsX6_begins) := goodIn_app (goodIn_of _ (by decide +kernel)) ggX6_castOn_X6_begins
set_option maxRecDepth 20000 in
theorem ggX6_castOn_X6_casts : GoodIn wsX6_castOn wsX6_casts := goodIn_ca (goodIn_r _ [16, 9, 17, 18, 4, 19, 20, 21, 22, 23, 24, 25, 26, 6, 27, 28, 29, 30, 31, 32, 33, 34, 35, 36, 37, 7, 38, 39, 40, 41, 42, 43, 44, 51, 52, 53, 54, 55, 56, 57, 58, 59, 60, 61, 62, 63, 64, 65, 66, 67, 68, 69, 70, 71] (by decide +kernel) (by decide +kernel)) (goodIn_sub (fun _ h => List.mem_cons_of_mem _ (List.mem_append_right _ h)) (by decide +kernel))
set_option maxRecDepth 20000 in
theorem gX6_castOn_X6_casts : GoodIn wsX6_castOn (wsV RX6 87 RX6 yX6_casts wsX6_casts) := goodIn_app (goodIn_of _ (by decide +kernel)) ggX6_castOn_X6_casts
set_option maxRecDepth 20000 in
theorem ggX6_castOn_X6_ends : GoodIn wsX6_castOn wsX6_ends := goodIn_ca (goodIn_r _ [48, 6, 9, 8, 49, 50, 10, 11, 4, 12, 51, 52, 53, 54, 55, 56, 57, 58, 59, 60, 61, 62, 63, 64, 65, 66, 67, 68, 69, 70, 71] (by decide +kernel) (by decide +kernel)) (goodIn_sub (fun _ h => List.mem_cons_of_mem _ (List.mem_append_right _ h)) (by decide +kernel))
set_option maxRecDepth 20000 in
theorem gX6_castOn_X6_ends : GoodIn wsX6_castOn (wsV RX6 91 RX6 yX6_ends wsX6_ends) := goodIn_app (goodIn_of _ (by decide +kernel)) ggX6_castOn_X6_ends
set_option maxRecDepth 20000 in
theorem ggX6_finishes_X6_loops : GoodIn wsX6_finishes wsX6_loops := goodIn_ca (goodIn_r _ [6, 1, 27, 28, 29, 30, 31, 32, 33, 34, 35, 36, 37, 38, 39, 40, 41, 42, 43, 44, 45, 46, 47] (by decide +kernel) (by decide +kernel)) (goodIn_sub (fun _ h => List.mem_cons_of_mem _ (List.mem_append_right _ h)) (by decide +kernel))
set_option maxRecDepth 20000 in
theorem gX6_finishes_X6_loops : GoodIn wsX6_finishes (wsV RX6 94 RX6 yX6_loops wsX6_loops) := goodIn_app (goodIn_of _ (by decide +kernel)) ggX6_finishes_X6_loops
set_option maxRecDepth 20000 in
theorem ggX6_finishes_X6_bits : GoodIn wsX6_finishes wsX6_bits := goodIn_r _ [9] (by decide +kernel) (by decide +kernel)
set_option maxRecDepth 20000 in
theorem gX6_finishes_X6_bits : GoodIn wsX6_finishes (va_wsS RX6 81 yX6_bits wsX6_bits) := goodIn_app (goodIn_of _ (by decide +kernel)) ggX6_finishes_X6_bits
set_option maxRecDepth 20000 in
theorem ggX6_finishes_X6_rejects : GoodIn wsX6_finishes wsX6_rejects := goodIn_r _ [13, 14, 15, 16, 17, 18, 19, 20, 5, 21, 22, 27, 28, 29, 30, 31, 32, 33, 34, 35, 36, 37, 38, 39, 40, 41, 42, 43, 44, 45, 46, 47] (by decide +kernel) (by decide +kernel)
set_option maxRecDepth 20000 in
theorem gX6_finishes_X6_rejects : GoodIn wsX6_finishes (wsV RX6 73 RX6 yX6_rejects wsX6_rejects) := goodIn_app (goodIn_of _ (by decide +kernel)) ggX6_finishes_X6_rejects
set_option maxRecDepth 20000 in
theorem ggX6_finishes_X6_puts : GoodIn wsX6_finishes wsX6_puts := goodIn_ca (goodIn_r _ [26, 1, 27, 28, 29, 30, 31, 32, 33, 34, 35, 36, 37, 38, 39, 40, 41, 42, 43, 44, 45, 46, 47] (by decide +kernel) (by decide +kernel)) (goodIn_sub (fun _ h => List.mem_cons_of_mem _ (List.mem_append_right _ h)) (by decide +kernel))
set_option maxRecDepth 20000 in
theorem gX6_finishes_X6_puts : GoodIn wsX6_finishes (wsV RX6 77 RX6 yX6_puts wsX6_puts) := goodIn_app (goodIn_of _ (by decide +kernel)) ggX6_finishes_X6_puts
set_option maxRecDepth 20000 in
theorem ggX6_castOff_X6_begins : GoodIn wsX6_castOff wsX6_begins := goodIn_ca (goodIn_r _ [5, 6, 7, 8, 9, 10, 11, 4, 12, 45, 46, 47, 48, 49, 50, 51, 52, 53, 54, 55, 56, 57, 58, 59, 60, 61, 62, 63, 64, 65] (by decide +kernel) (by decide +kernel)) (goodIn_sub (fun _ h => List.mem_cons_of_mem _ (List.mem_append_right _ h)) (by decide +kernel))
set_option maxRecDepth 20000 in
theorem gX6_castOff_X6_begins : GoodIn wsX6_castOff (wsV RX6 84 RX6 yX6_begins wsX6_begins) := goodIn_app (goodIn_of _ (by decide +kernel)) ggX6_castOff_X6_begins
set_option maxRecDepth 20000 in
theorem ggX6_castOff_X6_finishes : GoodIn wsX6_castOff wsX6_finishes := goodIn_ca (goodIn_r _ [16, 9, 17, 18, 19, 4, 20, 21, 22, 23, 24, 25, 26, 27, 28, 29, 30, 7, 31, 32, 33, 34, 6, 35, 36, 37, 38, 45, 46, 47, 48, 49, 50, 51, 52, 53, 54, 55, 56, 57, 58, 59, 60, 61, 62, 63, 64, 65] (by decide +kernel) (by decide +kernel)) (goodIn_sub (fun _ h => List.mem_cons_of_mem _ (List.mem_append_right _ h)) (by decide +kernel))
set_option maxRecDepth 20000 in
theorem gX6_castOff_X6_finishes : GoodIn wsX6_castOff (wsV RX6 98 RX6 yX6_finishes wsX6_finishes) := goodIn_app (goodIn_of _ (by decide +kernel)) ggX6_castOff_X6_finishes
set_option maxRecDepth 20000 in
theorem ggX6_castOff_X6_ends : GoodIn wsX6_castOff wsX6_ends := goodIn_ca (goodIn_r _ [42, 6, 9, 8, 43, 44, 10, 11, 4, 12, 45, 46, 47, 48, 49, 50, 51, 52, 53, 54, 55, 56, 57, 58, 59, 60, 61, 62, 63, 64, 65] (by decide +kernel) (by decide +kernel)) (goodIn_sub (fun _ h => List.mem_cons_of_mem _ (List.mem_append_right _ h)) (by decide +kernel))
set_option maxRecDepth 20000 in
theorem gX6_castOff_X6_ends : GoodIn wsX6_castOff (wsV RX6 91 RX6 yX6_ends wsX6_ends) := goodIn_app (goodIn_of _ (by decide +kernel)) ggX6_castOff_X6_ends
set_option maxRecDepth 20000 in
theorem ggX6_holds_X6_isNeedle : GoodIn wsX6_holds wsX6_isNeedle := goodIn_r _ [5, 6, 7, 4, 8] (by decide +kernel) (by decide +kernel)
set_option maxRecDepth 20000 in
theorem gX6_holds_X6_isNeedle : GoodIn wsX6_holds (va_wsS RX6 66 yX6_isNeedle wsX6_isNeedle) := goodIn_app (goodIn_of _ (by decide +kernel)) ggX6_holds_X6_isNeedle
set_option maxRecDepth 20000 in
theorem ggX6_holds_X6_fail : GoodIn wsX6_holds wsX6_fail := goodIn_r _ [12, 13, 33, 34, 35, 36, 37, 38, 39, 40, 41, 42, 43, 44, 45, 46, 47, 48, 49, 50, 51, 52, 53] (by decide +kernel) (by decide +kernel)
set_option maxRecDepth 20000 in
theorem gX6_holds_X6_fail : GoodIn wsX6_holds (wsV RX6 51 RX6 yX6_fail wsX6_fail) := goodIn_app (goodIn_of _ (by decide +kernel)) ggX6_holds_X6_fail
set_option maxRecDepth 20000 in
theorem ggX6_holds_X6_isOn : GoodIn wsX6_holds wsX6_isOn := goodIn_ca (goodIn_r _ [17, 1, 33, 34, 35, 36, 37, 38, 39, 40, 41, 42, 43, 44, 45, 46, 47, 48, 49, 50, 51, 52, 53] (by decide +kernel) (by decide +kernel)) (goodIn_sub (fun _ h => List.mem_cons_of_mem _ (List.mem_append_right _ h)) (by decide +kernel))
set_option maxRecDepth 20000 in
theorem gX6_holds_X6_isOn : GoodIn wsX6_holds (wsV RX6 70 RX6 yX6_isOn wsX6_isOn) := goodIn_app (goodIn_of _ (by decide +kernel)) ggX6_holds_X6_isOn
set_option maxRecDepth 20000 in
theorem ggX6_holds_X6_rejects : GoodIn wsX6_holds wsX6_rejects := goodIn_r _ [21, 22, 23, 24, 25, 9, 10, 11, 4, 12, 13, 33, 34, 35, 36, 37, 38, 39, 40, 41, 42, 43, 44, 45, 46, 47, 48, 49, 50, 51, 52, 53] (by decide +kernel) (by decide +kernel)
set_option maxRecDepth 20000 in
theorem gX6_holds_X6_rejects : GoodIn wsX6_holds (wsV RX6 73 RX6 yX6_rejects wsX6_rejects) := goodIn_app (goodIn_of _ (by decide +kernel)) ggX6_holds_X6_rejects
