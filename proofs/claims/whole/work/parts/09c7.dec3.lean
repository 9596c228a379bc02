set_option maxRecDepth 20000 in
theorem ggX6_comes_X6_passes : GoodIn wsX6_comes wsX6_passes := goodIn_ca (goodIn_ca (goodIn_r _ [30, 3, 15, 16, 17, 6, 18, 19, 20, 21, 22, 23, 24, 25, 26, 31, 32, 33, 34, 35, 36, 37, 38, 39, 40, 41, 42, 43, 44, 45, 46, 47, 48, 49, 50, 51, 52, 53, 54, 55] (by decide +kernel) (by decide +kernel)) (goodIn_sub (fun _ h => List.mem_cons_of_mem _ (List.mem_append_left _ (List.mem_append_right _ h))) (by decide +kernel))) (goodIn_sub (fun _ h => List.mem_cons_of_mem _ (List.mem_append_right _ h)) (by decide +kernel))
set_option maxRecDepth 20000 in
theorem gX6_comes_X6_passes : GoodIn wsX6_comes (wsV RX6 147 RX6 yX6_passes wsX6_passes) := goodIn_app (goodIn_of _ (by decide +kernel)) ggX6_comes_X6_passes
set_option maxRecDepth 20000 in
theorem ggX6_stitchesIn_X6_comes : GoodIn wsX6_stitchesIn wsX6_comes := goodIn_ca (goodIn_ca (goodIn_r _ [5, 6, 7, 8, 9, 10, 4, 11, 12, 13, 14, 15, 16, 17, 18, 19, 20, 21, 22, 23, 24, 25, 26, 27, 28, 29, 30, 31, 32, 33, 34, 35, 36, 37, 38, 39, 40, 41, 42, 43, 44, 45, 46, 47, 48, 49, 50, 51, 52, 53, 54, 55, 56, 57, 58, 59] (by decide +kernel) (by decide +kernel)) (goodIn_sub (fun _ h => List.mem_cons_of_mem _ (List.mem_append_left _ (List.mem_append_right _ h))) (by decide +kernel))) (goodIn_sub (fun _ h => List.mem_cons_of_mem _ (List.mem_append_right _ h)) (by decide +kernel))
set_option maxRecDepth 20000 in
theorem gX6_stitchesIn_X6_comes : GoodIn wsX6_stitchesIn (wsV RX6 159 RX6 yX6_comes wsX6_comes) := goodIn_app (goodIn_of _ (by decide +kernel)) ggX6_stitchesIn_X6_comes
set_option maxRecDepth 20000 in
theorem ggX6_dropsIn_X6_comes : GoodIn wsX6_dropsIn wsX6_comes := goodIn_ca (goodIn_ca (goodIn_r _ [5, 6, 7, 8, 9, 10, 4, 11, 12, 13, 14, 15, 16, 17, 18, 19, 20, 21, 22, 23, 24, 25, 26, 27, 28, 29, 30, 31, 32, 33, 34, 35, 36, 37, 38, 39, 40, 41, 42, 43, 44, 45, 46, 47, 48, 49, 50, 51, 52, 53, 54, 55, 56, 57, 58, 59] (by decide +kernel) (by decide +kernel)) (goodIn_sub (fun _ h => List.mem_cons_of_mem _ (List.mem_append_left _ (List.mem_append_right _ h))) (by decide +kernel))) (goodIn_sub (fun _ h => List.mem_cons_of_mem _ (List.mem_append_right _ h)) (by decide +kernel))
set_option maxRecDepth 20000 in
theorem gX6_dropsIn_X6_comes : GoodIn wsX6_dropsIn (wsV RX6 159 RX6 yX6_comes wsX6_comes) := goodIn_app (goodIn_of _ (by decide +kernel)) ggX6_dropsIn_X6_comes
set_option maxRecDepth 20000 in
theorem ggX6_coursesPossible_X6_lays : GoodIn wsX6_coursesPossible wsX6_lays := goodIn_ca (goodIn_r _ [10] (by decide +kernel) (by decide +kernel)) (goodIn_sub (fun _ h => List.mem_cons_of_mem _ (List.mem_append_left _ (List.mem_append_right _ h))) (by decide +kernel))
set_option maxRecDepth 20000 in
theorem gX6_coursesPossible_X6_lays : GoodIn wsX6_coursesPossible (va_wsS RX6 55 yX6_lays wsX6_lays) := goodIn_app (goodIn_of _ (by decide +kernel)) ggX6_coursesPossible_X6_lays
set_option maxRecDepth 20000 in
theorem ggX6_coursesPossible_X6_courses : GoodIn wsX6_coursesPossible wsX6_courses := goodIn_ca (goodIn_ca (goodIn_r _ [14, 5, 15, 16, 17, 9, 18, 19, 20, 21, 22, 23, 24, 25, 26, 27, 28, 29, 30, 31, 32, 33, 34, 1, 2, 3, 35, 36, 37, 38, 39, 6, 40, 41, 42, 43, 44, 45, 46, 47, 48, 49, 50, 51, 52, 53, 54, 55, 56, 57, 58, 59, 60, 61, 62, 63, 64, 65, 66, 67, 68] (by decide +kernel) (by decide +kernel)) (goodIn_sub (fun _ h => List.mem_cons_of_mem _ (List.mem_append_left _ (List.mem_append_right _ h))) (by decide +kernel))) (goodIn_sub (fun _ h => List.mem_cons_of_mem _ (List.mem_append_right _ h)) (by decide +kernel))
set_option maxRecDepth 20000 in
theorem gX6_coursesPossible_X6_courses : GoodIn wsX6_coursesPossible (wsV RX6 150 RX6 yX6_courses wsX6_courses) := goodIn_app (goodIn_of _ (by decide +kernel)) ggX6_coursesPossible_X6_courses
set_option maxRecDepth 20000 in
theorem ggX6_isCourse_X6_isIn : GoodIn wsX6_isCourse wsX6_isIn := goodIn_r _ [5] (by decide +kernel) (by decide +kernel)
set_option maxRecDepth 20000 in
theorem gX6_isCourse_X6_isIn : GoodIn wsX6_isCourse (va_wsS RX6 62 yX6_isIn wsX6_isIn) := goodIn_app (goodIn_of _ (by decide +kernel)) ggX6_isCourse_X6_isIn
set_option maxRecDepth 20000 in
theorem ggX6_tells_X6_isCourse : GoodIn wsX6_tells wsX6_isCourse := goodIn_ca (goodIn_r _ [7, 2, 8, 9, 6, 10, 11, 12, 13, 14, 15, 16, 17, 18, 19, 20, 21, 22, 23, 24, 25, 26, 27, 28, 29, 30, 31] (by decide +kernel) (by decide +kernel)) (goodIn_sub (fun _ h => List.mem_cons_of_mem _ (List.mem_append_right _ h)) (by decide +kernel))
set_option maxRecDepth 20000 in
theorem gX6_tells_X6_isCourse : GoodIn wsX6_tells (wsV RX6 163 RX6 yX6_isCourse wsX6_isCourse) := goodIn_app (goodIn_of _ (by decide +kernel)) ggX6_tells_X6_isCourse
set_option maxRecDepth 20000 in
theorem ggX6_widthOf_X6_tells : GoodIn wsX6_widthOf wsX6_tells := goodIn_ca (goodIn_r _ [5, 6, 7, 8, 9, 10, 4, 11, 12, 13, 14, 15, 16, 17, 18, 19, 20, 21, 22, 23, 24, 25, 26, 27, 28, 29, 30, 31, 32, 33, 34, 35] (by decide +kernel) (by decide +kernel)) (goodIn_sub (fun _ h => List.mem_cons_of_mem _ (List.mem_append_right _ h)) (by decide +kernel))
set_option maxRecDepth 20000 in
theorem gX6_widthOf_X6_tells : GoodIn wsX6_widthOf (wsV RX6 166 RX6 yX6_tells wsX6_tells) := goodIn_app (goodIn_of _ (by decide +kernel)) ggX6_widthOf_X6_tells
set_option maxRecDepth 20000 in
theorem ggX6_yarnOf_X6_tells : GoodIn wsX6_yarnOf wsX6_tells := goodIn_ca (goodIn_r _ [5, 6, 7, 8, 9, 10, 4, 11, 12, 13, 14, 15, 16, 17, 18, 19, 20, 21, 22, 23, 24, 25, 26, 27, 28, 29, 30, 31, 32, 33, 34, 35] (by decide +kernel) (by decide +kernel)) (goodIn_sub (fun _ h => List.mem_cons_of_mem _ (List.mem_append_right _ h)) (by decide +kernel))
set_option maxRecDepth 20000 in
theorem gX6_yarnOf_X6_tells : GoodIn wsX6_yarnOf (wsV RX6 166 RX6 yX6_tells wsX6_tells) := goodIn_app (goodIn_of _ (by decide +kernel)) ggX6_yarnOf_X6_tells
set_option maxRecDepth 20000 in
theorem ggX6_feederOf_X6_tells : GoodIn wsX6_feederOf wsX6_tells := goodIn_ca (goodIn_r _ [5, 6, 7, 8, 9, 10, 4, 11, 12, 13, 14, 15, 16, 17, 18, 19, 20, 21, 22, 23, 24, 25, 26, 27, 28, 29, 30, 31, 32, 33, 34, 35] (by decide +kernel) (by decide +kernel)) (goodIn_sub (fun _ h => List.mem_cons_of_mem _ (List.mem_append_right _ h)) (by decide +kernel))
set_option maxRecDepth 20000 in
theorem gX6_feederOf_X6_tells : GoodIn wsX6_feederOf (wsV RX6 166 RX6 yX6_tells wsX6_tells) := goodIn_app (goodIn_of _ (by decide +kernel)) ggX6_feederOf_X6_tells
set_option maxRecDepth 20000 in
theorem ggX6_dropsOf_X6_tells : GoodIn wsX6_dropsOf wsX6_tells := goodIn_ca (goodIn_r _ [5, 6, 7, 8, 9, 10, 4, 11, 12, 13, 14, 15, 16, 17, 18, 19, 20, 21, 22, 23, 24, 25, 26, 27, 28, 29, 30, 31, 32, 33, 34, 35] (by decide +kernel) (by decide +kernel)) (goodIn_sub (fun _ h => List.mem_cons_of_mem _ (List.mem_append_right _ h)) (by decide +kernel))
set_option maxRecDepth 20000 in
theorem gX6_dropsOf_X6_tells : GoodIn wsX6_dropsOf (wsV RX6 166 RX6 yX6_tells wsX6_tells) := goodIn_app (goodIn_of _ (by decide +kernel)) ggX6_dropsOf_X6_tells
set_option maxRecDepth 20000 in
theorem ggX6_courseByWidth_X6_fail : GoodIn wsX6_courseByWidth wsX6_fail := goodIn_r _ [7, 1, 8, 9, 10, 11, 12, 13, 14, 15, 16, 17, 18, 19, 20, 21, 22, 23, 24, 25, 26, 27, 28] (by decide +kernel) (by decide +kernel)
set_option maxRecDepth 20000 in
theorem gX6_courseByWidth_X6_fail : GoodIn wsX6_courseByWidth (wsV RX6 51 RX6 yX6_fail wsX6_fail) := goodIn_app (goodIn_of _ (by decide +kernel)) ggX6_courseByWidth_X6_fail
set_option maxRecDepth 20000 in
theorem ggX6_feederByYarn_X6_fail : GoodIn wsX6_feederByYarn wsX6_fail := goodIn_r _ [7, 1, 8, 9, 10, 11, 12, 13, 14, 15, 16, 17, 18, 19, 20, 21, 22, 23, 24, 25, 26, 27, 28] (by decide +kernel) (by decide +kernel)
set_option maxRecDepth 20000 in
theorem gX6_feederByYarn_X6_fail : GoodIn wsX6_feederByYarn (wsV RX6 51 RX6 yX6_fail wsX6_fail) := goodIn_app (goodIn_of _ (by decide +kernel)) ggX6_feederByYarn_X6_fail
set_option maxRecDepth 20000 in
theorem ggX6_stitchCount_X6_stitches : GoodIn wsX6_stitchCount wsX6_stitches := goodIn_ca (goodIn_r _ [6, 7, 8, 9, 10, 11, 12, 13, 14, 15, 16, 17, 18, 19, 20, 21, 22, 23, 24, 25, 26, 27, 28] (by decide +kernel) (by decide +kernel)) (goodIn_sub (fun _ h => List.mem_cons_of_mem _ (List.mem_append_right _ h)) (by decide +kernel))
set_option maxRecDepth 20000 in
theorem gX6_stitchCount_X6_stitches : GoodIn wsX6_stitchCount (wsV RX6 169 RX6 yX6_stitches wsX6_stitches) := goodIn_app (goodIn_of _ (by decide +kernel)) ggX6_stitchCount_X6_stitches
set_option maxRecDepth 20000 in
theorem ggX6_meanWidth_X6_stitches : GoodIn wsX6_meanWidth wsX6_stitches := goodIn_ca (goodIn_r _ [7, 1, 8, 9, 10, 11, 12, 13, 14, 15, 16, 17, 18, 19, 20, 21, 22, 23, 24, 25, 26, 27, 28] (by decide +kernel) (by decide +kernel)) (goodIn_sub (fun _ h => List.mem_cons_of_mem _ (List.mem_append_right _ h)) (by decide +kernel))
set_option maxRecDepth 20000 in
theorem gX6_meanWidth_X6_stitches : GoodIn wsX6_meanWidth (wsV RX6 169 RX6 yX6_stitches wsX6_stitches) := goodIn_app (goodIn_of _ (by decide +kernel)) ggX6_meanWidth_X6_stitches
set_option maxRecDepth 20000 in
theorem ggX6_droppedShare_X6_isOn : GoodIn wsX6_droppedShare wsX6_isOn := goodIn_ca (goodIn_r _ [7, 1, 11, 12, 13, 14, 15, 16, 17, 18, 19, 20, 21, 22, 23, 24, 25, 26, 27, 28, 29, 30, 31] (by decide +kernel) (by decide +kernel)) (goodIn_sub (fun _ h => List.mem_cons_of_mem _ (List.mem_append_right _ h)) (by decide +kernel))
set_option maxRecDepth 20000 in
theorem gX6_droppedShare_X6_isOn : GoodIn wsX6_droppedShare (wsV RX6 70 RX6 yX6_isOn wsX6_isOn) := goodIn_app (goodIn_of _ (by decide +kernel)) ggX6_droppedShare_X6_isOn
set_option maxRecDepth 20000 in
theorem ggX6_droppedShare_X6_bits : GoodIn wsX6_droppedShare wsX6_bits := goodIn_r _ [10] (by decide +kernel) (by decide +kernel)
set_option maxRecDepth 20000 in
theorem gX6_droppedShare_X6_bits : GoodIn wsX6_droppedShare (va_wsS RX6 81 yX6_bits wsX6_bits) := goodIn_app (goodIn_of _ (by decide +kernel)) ggX6_droppedShare_X6_bits
set_option maxRecDepth 20000 in
theorem ggX6_writesNumber_X6_writes : GoodIn wsX6_writesNumber wsX6_writes := goodIn_ca (goodIn_r _ [5, 6, 7, 8, 9, 10, 11, 12, 13, 14, 15, 16, 17, 18, 19, 20, 21, 22, 23, 24, 25, 26, 27, 28] (by decide +kernel) (by decide +kernel)) (goodIn_sub (fun _ h => List.mem_cons_of_mem _ (List.mem_append_right _ h)) (by decide +kernel))
set_option maxRecDepth 20000 in
theorem gX6_writesNumber_X6_writes : GoodIn wsX6_writesNumber (wsV RX6 175 RX6 yX6_writes wsX6_writes) := goodIn_app (goodIn_of _ (by decide +kernel)) ggX6_writesNumber_X6_writes
set_option maxRecDepth 20000 in
theorem ggX6_writeBed_X6_isOn : GoodIn wsX6_writeBed wsX6_isOn := goodIn_ca (goodIn_r _ [8, 3, 18, 19, 20, 21, 22, 23, 24, 25, 26, 27, 28, 29, 30, 31, 32, 33, 34, 35, 36, 37, 38] (by decide +kernel) (by decide +kernel)) (goodIn_sub (fun _ h => List.mem_cons_of_mem _ (List.mem_append_right _ h)) (by decide +kernel))
set_option maxRecDepth 20000 in
theorem gX6_writeBed_X6_isOn : GoodIn wsX6_writeBed (wsV RX6 70 RX6 yX6_isOn wsX6_isOn) := goodIn_app (goodIn_of _ (by decide +kernel)) ggX6_writeBed_X6_isOn
set_option maxRecDepth 20000 in
theorem ggX6_writeBed_X6_isHeld : GoodIn wsX6_writeBed wsX6_isHeld := goodIn_ca (goodIn_r _ [12, 3, 18, 19, 20, 21, 22, 23, 24, 25, 26, 27, 28, 29, 30, 31, 32, 33, 34, 35, 36, 37, 38] (by decide +kernel) (by decide +kernel)) (goodIn_sub (fun _ h => List.mem_cons_of_mem _ (List.mem_append_right _ h)) (by decide +kernel))
set_option maxRecDepth 20000 in
theorem gX6_writeBed_X6_isHeld : GoodIn wsX6_writeBed (wsV RX6 101 RX6 yX6_isHeld wsX6_isHeld) := goodIn_app (goodIn_of _ (by decide +kernel)) ggX6_writeBed_X6_isHeld
set_option maxRecDepth 20000 in
theorem ggX6_writeBed_X6_writes : GoodIn wsX6_writeBed wsX6_writes := goodIn_ca (goodIn_r _ [16, 17, 2, 18, 19, 20, 21, 22, 23, 24, 25, 26, 27, 28, 29, 30, 31, 32, 33, 34, 35, 36, 37, 38] (by decide +kernel) (by decide +kernel)) (goodIn_sub (fun _ h => List.mem_cons_of_mem _ (List.mem_append_right _ h)) (by decide +kernel))
set_option maxRecDepth 20000 in
theorem gX6_writeBed_X6_writes : GoodIn wsX6_writeBed (wsV RX6 175 RX6 yX6_writes wsX6_writes) := goodIn_app (goodIn_of _ (by decide +kernel)) ggX6_writeBed_X6_writes
set_option maxRecDepth 20000 in
theorem ggX6_writeCourse_X6_isCourse : GoodIn wsX6_writeCourse wsX6_isCourse := goodIn_ca (goodIn_r _ [8, 3, 9, 10, 7, 11, 21, 22, 23, 24, 25, 26, 27, 28, 29, 30, 31, 32, 33, 34, 35, 36, 37, 38, 39, 40, 41] (by decide +kernel) (by decide +kernel)) (goodIn_sub (fun _ h => List.mem_cons_of_mem _ (List.mem_append_left _ (List.mem_append_right _ h))) (by decide +kernel))
set_option maxRecDepth 20000 in
theorem gX6_writeCourse_X6_isCourse : GoodIn wsX6_writeCourse (wsV RX6 163 RX6 yX6_isCourse wsX6_isCourse) := goodIn_app (goodIn_of _ (by decide +kernel)) ggX6_writeCourse_X6_isCourse
set_option maxRecDepth 20000 in
theorem ggX6_writeCourse_X6_writesNumber : GoodIn wsX6_writeCourse wsX6_writesNumber := goodIn_ca (goodIn_ca (goodIn_r _ [15, 16, 17, 18, 7, 19, 20, 2, 21, 22, 23, 24, 25, 26, 27, 28, 29, 30, 31, 32, 33, 34, 35, 36, 37, 38, 39, 40, 41] (by decide +kernel) (by decide +kernel)) (goodIn_sub (fun _ h => List.mem_cons_of_mem _ (List.mem_append_right _ h)) (by decide +kernel))) (goodIn_sub (fun _ h => List.mem_cons_of_mem _ (List.mem_append_left _ (List.mem_append_right _ h))) (by decide +kernel))
set_option maxRecDepth 20000 in
theorem gX6_writeCourse_X6_writesNumber : GoodIn wsX6_writeCourse (wsV RX6 179 RX6 yX6_writesNumber wsX6_writesNumber) := goodIn_app (goodIn_of _ (by decide +kernel)) ggX6_writeCourse_X6_writesNumber
set_option maxRecDepth 20000 in
theorem ggX6_writeCourse_X6_writes : GoodIn wsX6_writeCourse wsX6_writes := goodIn_ca (goodIn_r _ [19, 20, 2, 21, 22, 23, 24, 25, 26, 27, 28, 29, 30, 31, 32, 33, 34, 35, 36, 37, 38, 39, 40, 41] (by decide +kernel) (by decide +kernel)) (goodIn_sub (fun _ h => List.mem_cons_of_mem _ (List.mem_append_left _ (List.mem_append_right _ h))) (by decide +kernel))
set_option maxRecDepth 20000 in
theorem gX6_writeCourse_X6_writes : GoodIn wsX6_writeCourse (wsV RX6 175 RX6 yX6_writes wsX6_writes) := goodIn_app (goodIn_of _ (by decide +kernel)) ggX6_writeCourse_X6_writes
set_option maxRecDepth 20000 in
theorem ggX6_outputAt_X6_isIn : GoodIn wsX6_outputAt wsX6_isIn := goodIn_r _ [7] (by decide +kernel) (by decide +kernel)
set_option maxRecDepth 20000 in
theorem gX6_outputAt_X6_isIn : GoodIn wsX6_outputAt (va_wsS RX6 62 yX6_isIn wsX6_isIn) := goodIn_app (goodIn_of _ (by decide +kernel)) ggX6_outputAt_X6_isIn
set_option maxRecDepth 20000 in
theorem ggX6_appendInput_X6_isIn : GoodIn wsX6_appendInput wsX6_isIn := goodIn_r _ [7] (by decide +kernel) (by decide +kernel)
set_option maxRecDepth 20000 in
theorem gX6_appendInput_X6_isIn : GoodIn wsX6_appendInput (va_wsS RX6 62 yX6_isIn wsX6_isIn) := goodIn_app (goodIn_of _ (by decide +kernel)) ggX6_appendInput_X6_isIn
set_option maxRecDepth 20000 in
theorem ggX6_mark_X6_sign : GoodIn wsX6_mark wsX6_sign := goodIn_ca (goodIn_r _ [7, 2, 8, 9, 10, 11, 12, 13, 14, 15, 16, 17, 18, 19, 20, 21, 22, 23, 24, 25, 26, 27, 28, 29, 30] (by decide +kernel) (by decide +kernel)) (goodIn_sub (fun _ h => List.mem_cons_of_mem _ (List.mem_append_right _ h)) (by decide +kernel))
set_option maxRecDepth 20000 in
theorem gX6_mark_X6_sign : GoodIn wsX6_mark (wsV RX6 194 RX6 yX6_sign wsX6_sign) := goodIn_app (goodIn_of _ (by decide +kernel)) ggX6_mark_X6_sign
set_option maxRecDepth 20000 in
theorem ggX6_digits_X6_sign : GoodIn wsX6_digits wsX6_sign := goodIn_ca (goodIn_r _ [7, 2, 8, 9, 13, 14, 15, 16, 17, 18, 19, 20, 21, 22, 23, 24, 25, 26, 27, 28, 29, 30, 31, 32, 33] (by decide +kernel) (by decide +kernel)) (goodIn_sub (fun _ h => List.mem_cons_of_mem _ (List.mem_append_right _ h)) (by decide +kernel))
set_option maxRecDepth 20000 in
theorem gX6_digits_X6_sign : GoodIn wsX6_digits (wsV RX6 194 RX6 yX6_sign wsX6_sign) := goodIn_app (goodIn_of _ (by decide +kernel)) ggX6_digits_X6_sign
set_option maxRecDepth 20000 in
theorem ggX6_digits_X6_isIn : GoodIn wsX6_digits wsX6_isIn := goodIn_r _ [12] (by decide +kernel) (by decide +kernel)
set_option maxRecDepth 20000 in
theorem gX6_digits_X6_isIn : GoodIn wsX6_digits (va_wsS RX6 62 yX6_isIn wsX6_isIn) := goodIn_app (goodIn_of _ (by decide +kernel)) ggX6_digits_X6_isIn
set_option maxRecDepth 20000 in
theorem ggX6_behind_X6_mark : GoodIn wsX6_behind wsX6_mark := goodIn_ca (goodIn_r _ [6, 1, 7, 8, 9, 10, 5, 11, 12, 13, 21, 22, 23, 24, 25, 26, 27, 28, 29, 30, 31, 32, 33, 34, 35, 36, 37, 38, 39, 40, 41] (by decide +kernel) (by decide +kernel)) (goodIn_sub (fun _ h => List.mem_cons_of_mem _ (List.mem_append_right _ h)) (by decide +kernel))
set_option maxRecDepth 20000 in
theorem gX6_behind_X6_mark : GoodIn wsX6_behind (wsV RX6 197 RX6 yX6_mark wsX6_mark) := goodIn_app (goodIn_of _ (by decide +kernel)) ggX6_behind_X6_mark
set_option maxRecDepth 20000 in
theorem ggX6_behind_X6_digits : GoodIn wsX6_behind wsX6_digits := goodIn_ca (goodIn_r _ [17, 1, 7, 8, 9, 10, 5, 11, 12, 13, 18, 19, 20, 21, 22, 23, 24, 25, 26, 27, 28, 29, 30, 31, 32, 33, 34, 35, 36, 37, 38, 39, 40, 41] (by decide +kernel) (by decide +kernel)) (goodIn_sub (fun _ h => List.mem_cons_of_mem _ (List.mem_append_right _ h)) (by decide +kernel))
set_option maxRecDepth 20000 in
theorem gX6_behind_X6_digits : GoodIn wsX6_behind (wsV RX6 200 RX6 yX6_digits wsX6_digits) := goodIn_app (goodIn_of _ (by decide +kernel)) ggX6_behind_X6_digits
set_option maxRecDepth 20000 in
theorem ggX6_mask_X6_sign : GoodIn wsX6_mask wsX6_sign := goodIn_ca (goodIn_r _ [7, 2, 8, 9, 10, 11, 12, 13, 14, 15, 16, 17, 18, 19, 20, 21, 22, 23, 24, 25, 26, 27, 28, 29, 30] (by decide +kernel) (by decide +kernel)) (goodIn_sub (fun _ h => List.mem_cons_of_mem _ (List.mem_append_right _ h)) (by decide +kernel))
set_option maxRecDepth 20000 in
theorem gX6_mask_X6_sign : GoodIn wsX6_mask (wsV RX6 194 RX6 yX6_sign wsX6_sign) := goodIn_app (goodIn_of _ (by decide +kernel)) ggX6_mask_X6_sign
set_option maxRecDepth 20000 in
theorem ggX6_does_X6_casts : GoodIn wsX6_does wsX6_casts := goodIn_ca (goodIn_r _ [5, 6, 7, 8, 4, 9, 10, 11, 12, 13, 14, 15, 16, 17, 18, 19, 20, 21, 22, 23, 24, 25, 26, 27, 28, 29, 30, 31, 32, 33, 34, 35, 36, 112, 113, 114, 115, 116, 117, 118, 119, 120, 121, 122, 123, 124, 125, 126, 127, 128, 129, 130, 131, 132] (by decide +kernel) (by decide +kernel)) (goodIn_sub (fun _ h => List.mem_cons_of_mem _ (List.mem_append_left _ (List.mem_append_right _ h))) (by decide +kernel))
set_option maxRecDepth 20000 in
theorem gX6_does_X6_casts : GoodIn wsX6_does (wsV RX6 87 RX6 yX6_casts wsX6_casts) := goodIn_app (goodIn_of _ (by decide +kernel)) ggX6_does_X6_casts
set_option maxRecDepth 20000 in
theorem ggX6_does_X6_finishes : GoodIn wsX6_does wsX6_finishes := goodIn_ca (goodIn_r _ [40, 6, 41, 42, 43, 4, 44, 34, 35, 36, 22, 23, 24, 25, 26, 27, 28, 29, 13, 14, 15, 16, 17, 30, 31, 32, 33, 112, 113, 114, 115, 116, 117, 118, 119, 120, 121, 122, 123, 124, 125, 126, 127, 128, 129, 130, 131, 132] (by decide +kernel) (by decide +kernel)) (goodIn_sub (fun _ h => List.mem_cons_of_mem _ (List.mem_append_left _ (List.mem_append_right _ h))) (by decide +kernel))
set_option maxRecDepth 20000 in
theorem gX6_does_X6_finishes : GoodIn wsX6_does (wsV RX6 98 RX6 yX6_finishes wsX6_finishes) := goodIn_app (goodIn_of _ (by decide +kernel)) ggX6_does_X6_finishes
set_option maxRecDepth 20000 in
theorem ggX6_does_X6_holds : GoodIn wsX6_does wsX6_holds := goodIn_ca (goodIn_r _ [48, 6, 7, 8, 4, 9, 10, 11, 12, 13, 14, 15, 16, 17, 18, 19, 20, 21, 22, 23, 24, 25, 26, 27, 28, 29, 49, 50, 51, 52, 34, 35, 36, 112, 113, 114, 115, 116, 117, 118, 119, 120, 121, 122, 123, 124, 125, 126, 127, 128, 129, 130, 131, 132] (by decide +kernel) (by decide +kernel)) (goodIn_sub (fun _ h => List.mem_cons_of_mem _ (List.mem_append_left _ (List.mem_append_right _ h))) (by decide +kernel))
set_option maxRecDepth 20000 in
theorem gX6_does_X6_holds : GoodIn wsX6_does (wsV RX6 104 RX6 yX6_holds wsX6_holds) := goodIn_app (goodIn_of _ (by decide +kernel)) ggX6_does_X6_holds
set_option maxRecDepth 20000 in
theorem ggX6_does_X6_frees : GoodIn wsX6_does wsX6_frees := goodIn_ca (goodIn_r _ [56, 6, 7, 8, 4, 9, 10, 11, 12, 13, 14, 15, 16, 17, 49, 50, 51, 52, 22, 23, 24, 25, 26, 27, 28, 29, 34, 35, 36, 112, 113, 114, 115, 116, 117, 118, 119, 120, 121, 122, 123, 124, 125, 126, 127, 128, 129, 130, 131, 132] (by decide +kernel) (by decide +kernel)) (goodIn_sub (fun _ h => List.mem_cons_of_mem _ (List.mem_append_left _ (List.mem_append_right _ h))) (by decide +kernel))
set_option maxRecDepth 20000 in
theorem gX6_does_X6_frees : GoodIn wsX6_does (wsV RX6 107 RX6 yX6_frees wsX6_frees) := goodIn_app (goodIn_of _ (by decide +kernel)) ggX6_does_X6_frees
set_option maxRecDepth 20000 in
theorem ggX6_does_X6_drops : GoodIn wsX6_does wsX6_drops := goodIn_ca (goodIn_r _ [60, 6, 7, 8, 4, 9, 10, 11, 12, 13, 14, 15, 16, 17, 18, 19, 20, 21, 22, 23, 24, 25, 26, 27, 28, 29, 34, 35, 36, 30, 31, 32, 33, 112, 113, 114, 115, 116, 117, 118, 119, 120, 121, 122, 123, 124, 125, 126, 127, 128, 129, 130, 131, 132] (by decide +kernel) (by decide +kernel)) (goodIn_sub (fun _ h => List.mem_cons_of_mem _ (List.mem_append_left _ (List.mem_append_right _ h))) (by decide +kernel))
set_option maxRecDepth 20000 in
theorem gX6_does_X6_drops : GoodIn wsX6_does (wsV RX6 110 RX6 yX6_drops wsX6_drops) := goodIn_app (goodIn_of _ (by decide +kernel)) ggX6_does_X6_drops
set_option maxRecDepth 20000 in
theorem ggX6_does_X6_picks : GoodIn wsX6_does wsX6_picks := goodIn_ca (goodIn_r _ [64, 6, 7, 8, 4, 9, 10, 11, 12, 13, 14, 15, 16, 17, 18, 19, 20, 21, 22, 23, 24, 25, 26, 27, 28, 29, 30, 31, 32, 33, 112, 113, 114, 115, 116, 117, 118, 119, 120, 121, 122, 123, 124, 125, 126, 127, 128, 129, 130, 131, 132] (by decide +kernel) (by decide +kernel)) (goodIn_sub (fun _ h => List.mem_cons_of_mem _ (List.mem_append_left _ (List.mem_append_right _ h))) (by decide +kernel))
set_option maxRecDepth 20000 in
theorem gX6_does_X6_picks : GoodIn wsX6_does (wsV RX6 113 RX6 yX6_picks wsX6_picks) := goodIn_app (goodIn_of _ (by decide +kernel)) ggX6_does_X6_picks
set_option maxRecDepth 20000 in
theorem ggX6_does_X6_moves : GoodIn wsX6_does wsX6_moves := goodIn_ca (goodIn_r _ [68, 6, 7, 8, 4, 9, 10, 11, 12, 13, 14, 15, 16, 17, 18, 19, 20, 21, 22, 23, 24, 25, 26, 27, 28, 29, 34, 35, 36, 30, 31, 32, 33, 112, 113, 114, 115, 116, 117, 118, 119, 120, 121, 122, 123, 124, 125, 126, 127, 128, 129, 130, 131, 132] (by decide +kernel) (by decide +kernel)) (goodIn_sub (fun _ h => List.mem_cons_of_mem _ (List.mem_append_left _ (List.mem_append_right _ h))) (by decide +kernel))
set_option maxRecDepth 20000 in
theorem gX6_does_X6_moves : GoodIn wsX6_does (wsV RX6 116 RX6 yX6_moves wsX6_moves) := goodIn_app (goodIn_of _ (by decide +kernel)) ggX6_does_X6_moves
set_option maxRecDepth 20000 in
theorem ggX6_does_X6_adds : GoodIn wsX6_does wsX6_adds := goodIn_ca (goodIn_r _ [72, 6, 73, 74, 4, 75, 10, 11, 12, 13, 14, 15, 16, 17, 22, 23, 24, 25, 26, 27, 28, 29, 112, 113, 114, 115, 116, 117, 118, 119, 120, 121, 122, 123, 124, 125, 126, 127, 128, 129, 130, 131, 132] (by decide +kernel) (by decide +kernel)) (goodIn_sub (fun _ h => List.mem_cons_of_mem _ (List.mem_append_left _ (List.mem_append_right _ h))) (by decide +kernel))
set_option maxRecDepth 20000 in
theorem gX6_does_X6_adds : GoodIn wsX6_does (wsV RX6 125 RX6 yX6_adds wsX6_adds) := goodIn_app (goodIn_of _ (by decide +kernel)) ggX6_does_X6_adds
set_option maxRecDepth 20000 in
theorem ggX6_does_X6_selects : GoodIn wsX6_does wsX6_selects := goodIn_ca (goodIn_r _ [79, 6, 73, 74, 4, 75, 10, 11, 12, 13, 14, 15, 16, 17, 112, 113, 114, 115, 116, 117, 118, 119, 120, 121, 122, 123, 124, 125, 126, 127, 128, 129, 130, 131, 132] (by decide +kernel) (by decide +kernel)) (goodIn_sub (fun _ h => List.mem_cons_of_mem _ (List.mem_append_left _ (List.mem_append_right _ h))) (by decide +kernel))
set_option maxRecDepth 20000 in
theorem gX6_does_X6_selects : GoodIn wsX6_does (wsV RX6 128 RX6 yX6_selects wsX6_selects) := goodIn_app (goodIn_of _ (by decide +kernel)) ggX6_does_X6_selects
set_option maxRecDepth 20000 in
theorem ggX6_does_X6_tenses : GoodIn wsX6_does wsX6_tenses := goodIn_ca (goodIn_r _ [83, 6, 10, 11, 4, 12, 13, 14, 15, 16, 17, 112, 113, 114, 115, 116, 117, 118, 119, 120, 121, 122, 123, 124, 125, 126, 127, 128, 129, 130, 131, 132] (by decide +kernel) (by decide +kernel)) (goodIn_sub (fun _ h => List.mem_cons_of_mem _ (List.mem_append_left _ (List.mem_append_right _ h))) (by decide +kernel))
set_option maxRecDepth 20000 in
theorem gX6_does_X6_tenses : GoodIn wsX6_does (wsV RX6 131 RX6 yX6_tenses wsX6_tenses) := goodIn_app (goodIn_of _ (by decide +kernel)) ggX6_does_X6_tenses
