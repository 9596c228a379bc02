set_option maxRecDepth 20000 in
theorem ggX5_isConsistent_X0_runByWalking : GoodIn wsX5_isConsistent wsX0_runByWalking := goodIn_ca (goodIn_r _ [22, 23, 24, 25, 26, 27, 99, 100, 101, 102] (by decide +kernel) (by decide +kernel)) (goodIn_sub (fun _ h => List.mem_cons_of_mem _ (List.mem_append_right _ h)) (by decide +kernel))
set_option maxRecDepth 20000 in
theorem gX5_isConsistent_X0_runByWalking : GoodIn wsX5_isConsistent (wsV RX5 113 RX0 yX0_runByWalking wsX0_runByWalking) := goodIn_app (goodIn_of _ (by decide +kernel)) ggX5_isConsistent_X0_runByWalking
set_option maxRecDepth 20000 in
theorem ggX5_isConsistent_X0_runByShifting : GoodIn wsX5_isConsistent wsX0_runByShifting := goodIn_ca (goodIn_r _ [31, 32, 33, 34, 21, 35, 23, 99, 100, 101, 102] (by decide +kernel) (by decide +kernel)) (goodIn_sub (fun _ h => List.mem_cons_of_mem _ (List.mem_append_right _ h)) (by decide +kernel))
set_option maxRecDepth 20000 in
theorem gX5_isConsistent_X0_runByShifting : GoodIn wsX5_isConsistent (wsV RX5 116 RX0 yX0_runByShifting wsX0_runByShifting) := goodIn_app (goodIn_of _ (by decide +kernel)) ggX5_isConsistent_X0_runByShifting
set_option maxRecDepth 20000 in
theorem ggX5_isConsistent_X0_widthByNeedles : GoodIn wsX5_isConsistent wsX0_widthByNeedles := goodIn_ca (goodIn_r _ [39, 40, 41, 42, 21, 43, 23, 44, 45, 46, 47, 48, 99, 100, 101, 102] (by decide +kernel) (by decide +kernel)) (goodIn_sub (fun _ h => List.mem_cons_of_mem _ (List.mem_append_right _ h)) (by decide +kernel))
set_option maxRecDepth 20000 in
theorem gX5_isConsistent_X0_widthByNeedles : GoodIn wsX5_isConsistent (wsV RX5 173 RX0 yX0_widthByNeedles wsX0_widthByNeedles) := goodIn_app (goodIn_of _ (by decide +kernel)) ggX5_isConsistent_X0_widthByNeedles
set_option maxRecDepth 20000 in
theorem ggX5_isConsistent_X0_widthByMasks : GoodIn wsX5_isConsistent wsX0_widthByMasks := goodIn_ca (goodIn_r _ [52, 44, 45, 32, 33, 34, 21, 35, 23, 53, 54, 55, 56, 57, 58, 59, 99, 100, 101, 102] (by decide +kernel) (by decide +kernel)) (goodIn_sub (fun _ h => List.mem_cons_of_mem _ (List.mem_append_right _ h)) (by decide +kernel))
set_option maxRecDepth 20000 in
theorem gX5_isConsistent_X0_widthByMasks : GoodIn wsX5_isConsistent (wsV RX5 176 RX0 yX0_widthByMasks wsX0_widthByMasks) := goodIn_app (goodIn_of _ (by decide +kernel)) ggX5_isConsistent_X0_widthByMasks
set_option maxRecDepth 20000 in
theorem ggX5_isConsistent_X4_yarnInFeeders : GoodIn wsX5_isConsistent wsX4_yarnInFeeders := goodIn_ca (goodIn_r _ [63, 64, 80, 81, 82, 83, 84, 85, 86, 87, 88, 89, 90, 91, 92, 93] (by decide +kernel) (by decide +kernel)) (goodIn_sub (fun _ h => List.mem_cons_of_mem _ (List.mem_append_right _ h)) (by decide +kernel))
set_option maxRecDepth 20000 in
theorem gX5_isConsistent_X4_yarnInFeeders : GoodIn wsX5_isConsistent (wsV RX5 247 RX4 yX4_yarnInFeeders wsX4_yarnInFeeders) := goodIn_app (goodIn_of _ (by decide +kernel)) ggX5_isConsistent_X4_yarnInFeeders
set_option maxRecDepth 20000 in
theorem ggX5_isConsistent_X0_isClearOutOfWork : GoodIn wsX5_isConsistent wsX0_isClearOutOfWork := goodIn_ca (goodIn_r _ [68, 45, 44, 32, 33, 34, 21, 35, 23, 99, 100, 101, 102] (by decide +kernel) (by decide +kernel)) (goodIn_sub (fun _ h => List.mem_cons_of_mem _ (List.mem_append_right _ h)) (by decide +kernel))
set_option maxRecDepth 20000 in
theorem gX5_isConsistent_X0_isClearOutOfWork : GoodIn wsX5_isConsistent (wsV RX5 250 RX0 yX0_isClearOutOfWork wsX0_isClearOutOfWork) := goodIn_app (goodIn_of _ (by decide +kernel)) ggX5_isConsistent_X0_isClearOutOfWork
set_option maxRecDepth 20000 in
theorem ggX5_writeBed_J4_setLength_d00df : GoodIn wsX5_writeBed wsJ4_setLength_d00df := goodIn_r _ [8, 9, 10, 11, 12, 13, 14, 15, 16, 17, 18, 19, 20, 21, 22, 23, 24, 25, 26, 27, 28, 29, 30, 31, 32, 33, 34, 35, 36, 37, 38, 39, 40, 41, 42, 43, 44, 45, 46, 47, 48, 49, 50, 51, 52, 53, 54, 55, 56, 57, 58, 59, 60, 61, 62, 63, 64, 65, 66, 67, 68, 69, 70, 71, 72, 73, 74, 75, 76, 77, 78, 79, 80, 7, 81, 82, 83, 84, 85, 86, 87, 88, 203, 204, 205, 206, 207, 208, 209, 210, 211, 212, 213, 214, 215, 216, 217, 218] (by decide +kernel) (by decide +kernel)
set_option maxRecDepth 20000 in
theorem gX5_writeBed_J4_setLength_d00df : GoodIn wsX5_writeBed (wsV RX5 254 RJ4 yJ4_setLength_d00df wsJ4_setLength_d00df) := goodIn_app (goodIn_of _ (by decide +kernel)) ggX5_writeBed_J4_setLength_d00df
set_option maxRecDepth 20000 in
theorem ggX5_writeBed_X0_sign : GoodIn wsX5_writeBed wsX0_sign := goodIn_ca (goodIn_r _ [93, 94, 95, 96, 97, 92, 98, 99, 100, 101, 102, 103, 104, 105, 106, 107, 219, 220, 221, 222] (by decide +kernel) (by decide +kernel)) (goodIn_sub (fun _ h => List.mem_cons_of_mem _ (List.mem_append_right _ h)) (by decide +kernel))
set_option maxRecDepth 20000 in
theorem gX5_writeBed_X0_sign : GoodIn wsX5_writeBed (wsV RX5 257 RX0 yX0_sign wsX0_sign) := goodIn_app (goodIn_of _ (by decide +kernel)) ggX5_writeBed_X0_sign
set_option maxRecDepth 20000 in
theorem ggX5_writeBed_J4_append_cf468 : GoodIn wsX5_writeBed wsJ4_append_cf468 := goodIn_r _ [111, 112, 113, 11, 114, 13, 115, 18, 19, 21, 22, 23, 24, 25, 26, 27, 28, 29, 30, 31, 32, 33, 34, 35, 36, 37, 38, 39, 40, 41, 42, 43, 44, 45, 46, 47, 48, 49, 50, 51, 52, 53, 54, 55, 56, 57, 58, 59, 60, 61, 62, 63, 64, 65, 66, 67, 68, 116, 117, 71, 118, 119, 120, 121, 122, 123, 124, 125, 86, 126, 127, 128, 129, 130, 131, 132, 133, 134, 135, 136, 137, 138, 139, 140, 141, 142, 143, 144, 145, 146, 147, 148, 149, 150, 151, 152, 153, 154, 155, 156, 157, 158, 159, 160, 161, 162, 163, 164, 165, 166, 167, 168, 169, 209, 210, 211, 212] (by decide +kernel) (by decide +kernel)
set_option maxRecDepth 20000 in
theorem gX5_writeBed_J4_append_cf468 : GoodIn wsX5_writeBed (wsV RX5 261 RJ4 yJ4_append_cf468 wsJ4_append_cf468) := goodIn_app (goodIn_of _ (by decide +kernel)) ggX5_writeBed_J4_append_cf468
set_option maxRecDepth 20000 in
theorem ggX5_writeBed_J4_length_8abf5 : GoodIn wsX5_writeBed wsJ4_length_8abf5 := goodIn_r _ [173, 174, 175, 11, 176, 13, 177, 18, 209, 210, 211, 212] (by decide +kernel) (by decide +kernel)
set_option maxRecDepth 20000 in
theorem gX5_writeBed_J4_length_8abf5 : GoodIn wsX5_writeBed (wsV RX5 265 RJ4 yJ4_length_8abf5 wsJ4_length_8abf5) := goodIn_app (goodIn_of _ (by decide +kernel)) ggX5_writeBed_J4_length_8abf5
set_option maxRecDepth 20000 in
theorem ggX5_writeCourse_X5_requireCourse : GoodIn wsX5_writeCourse wsX5_requireCourse := goodIn_ca (goodIn_r _ [12, 13, 14, 1, 2, 15, 205, 206, 207, 208, 209, 210, 211, 212, 213, 214, 215, 216, 217, 218, 219, 220, 221, 222, 223, 224, 225, 226, 227, 228, 229, 230, 231, 232, 233, 234] (by decide +kernel) (by decide +kernel)) (goodIn_sub (fun _ h => List.mem_cons_of_mem _ (List.mem_append_right _ h)) (by decide +kernel))
set_option maxRecDepth 20000 in
theorem gX5_writeCourse_X5_requireCourse : GoodIn wsX5_writeCourse (wsV RX5 197 RX5 yX5_requireCourse wsX5_requireCourse) := goodIn_app (goodIn_of _ (by decide +kernel)) ggX5_writeCourse_X5_requireCourse
set_option maxRecDepth 20000 in
theorem ggX5_writeCourse_J4_setLength_d00df : GoodIn wsX5_writeCourse wsJ4_setLength_d00df := goodIn_r _ [20, 21, 22, 23, 24, 25, 26, 27, 28, 29, 30, 31, 32, 33, 34, 35, 36, 37, 38, 39, 40, 41, 42, 43, 44, 45, 46, 47, 48, 49, 50, 51, 52, 53, 54, 55, 56, 57, 58, 59, 60, 61, 62, 63, 64, 65, 66, 67, 68, 69, 70, 71, 72, 73, 74, 75, 76, 77, 78, 79, 80, 81, 82, 83, 84, 85, 86, 87, 88, 89, 90, 91, 92, 19, 93, 94, 95, 96, 97, 98, 99, 100, 235, 236, 237, 238, 239, 240, 241, 242, 243, 244, 245, 246, 247, 248, 249, 250] (by decide +kernel) (by decide +kernel)
set_option maxRecDepth 20000 in
theorem gX5_writeCourse_J4_setLength_d00df : GoodIn wsX5_writeCourse (wsV RX5 254 RJ4 yJ4_setLength_d00df wsJ4_setLength_d00df) := goodIn_app (goodIn_of _ (by decide +kernel)) ggX5_writeCourse_J4_setLength_d00df
set_option maxRecDepth 20000 in
theorem ggX5_writeCourse_J4_append_bf812 : GoodIn wsX5_writeCourse wsJ4_append_bf812 := goodIn_r _ [104, 105, 106, 23, 107, 25, 108, 30, 31, 109, 110, 111, 112, 33, 34, 35, 36, 37, 38, 39, 40, 41, 42, 43, 44, 45, 46, 47, 48, 49, 50, 51, 52, 53, 54, 55, 56, 57, 58, 59, 60, 61, 62, 63, 64, 65, 66, 67, 68, 69, 70, 71, 72, 73, 74, 75, 76, 77, 78, 79, 80, 113, 114, 115, 116, 117, 118, 119, 98, 120, 121, 122, 123, 124, 125, 126, 127, 128, 129, 130, 131, 132, 133, 134, 135, 136, 137, 138, 139, 140, 141, 142, 143, 144, 145, 146, 241, 242, 243, 244] (by decide +kernel) (by decide +kernel)
set_option maxRecDepth 20000 in
theorem gX5_writeCourse_J4_append_bf812 : GoodIn wsX5_writeCourse (wsV RX5 268 RJ4 yJ4_append_bf812 wsJ4_append_bf812) := goodIn_app (goodIn_of _ (by decide +kernel)) ggX5_writeCourse_J4_append_bf812
set_option maxRecDepth 20000 in
theorem ggX5_writeCourse_J4_append_cf468 : GoodIn wsX5_writeCourse wsJ4_append_cf468 := goodIn_r _ [150, 151, 152, 23, 153, 25, 154, 30, 31, 33, 34, 35, 36, 37, 38, 39, 40, 41, 42, 43, 44, 45, 46, 47, 48, 49, 50, 51, 52, 53, 54, 55, 56, 57, 58, 59, 60, 61, 62, 63, 64, 65, 66, 67, 68, 69, 70, 71, 72, 73, 74, 75, 76, 77, 78, 79, 80, 155, 156, 83, 157, 158, 159, 160, 161, 162, 163, 164, 98, 165, 166, 167, 168, 169, 170, 171, 172, 173, 174, 175, 176, 177, 178, 125, 126, 127, 179, 180, 130, 181, 132, 182, 183, 135, 184, 142, 143, 144, 121, 145, 146, 185, 186, 187, 188, 189, 190, 191, 192, 193, 194, 195, 196, 241, 242, 243, 244] (by decide +kernel) (by decide +kernel)
set_option maxRecDepth 20000 in
theorem gX5_writeCourse_J4_append_cf468 : GoodIn wsX5_writeCourse (wsV RX5 261 RJ4 yJ4_append_cf468 wsJ4_append_cf468) := goodIn_app (goodIn_of _ (by decide +kernel)) ggX5_writeCourse_J4_append_cf468
set_option maxRecDepth 20000 in
theorem ggX5_writeCourse_J4_length_8abf5 : GoodIn wsX5_writeCourse wsJ4_length_8abf5 := goodIn_r _ [200, 201, 202, 23, 203, 25, 204, 30, 241, 242, 243, 244] (by decide +kernel) (by decide +kernel)
set_option maxRecDepth 20000 in
theorem gX5_writeCourse_J4_length_8abf5 : GoodIn wsX5_writeCourse (wsV RX5 265 RJ4 yJ4_length_8abf5 wsJ4_length_8abf5) := goodIn_app (goodIn_of _ (by decide +kernel)) ggX5_writeCourse_J4_length_8abf5
set_option maxRecDepth 20000 in
theorem ggX5_outputAt_J4_length_8abf5 : GoodIn wsX5_outputAt wsJ4_length_8abf5 := goodIn_r _ [8, 9, 10, 11, 12, 13, 14, 15, 60, 61, 62, 63] (by decide +kernel) (by decide +kernel)
set_option maxRecDepth 20000 in
theorem gX5_outputAt_J4_length_8abf5 : GoodIn wsX5_outputAt (wsV RX5 265 RJ4 yJ4_length_8abf5 wsJ4_length_8abf5) := goodIn_app (goodIn_of _ (by decide +kernel)) ggX5_outputAt_J4_length_8abf5
set_option maxRecDepth 20000 in
theorem ggX5_outputAt_J4_charAt_5068e : GoodIn wsX5_outputAt wsJ4_charAt_5068e := goodIn_r _ [19, 20, 21, 11, 22, 13, 23, 24, 25, 15, 26, 27, 28, 29, 30, 31, 32, 33, 34, 35, 36, 37, 38, 39, 40, 41, 42, 43, 44, 45, 46, 47, 48, 60, 61, 62, 63] (by decide +kernel) (by decide +kernel)
set_option maxRecDepth 20000 in
theorem gX5_outputAt_J4_charAt_5068e : GoodIn wsX5_outputAt (wsV RX5 273 RJ4 yJ4_charAt_5068e wsJ4_charAt_5068e) := goodIn_app (goodIn_of _ (by decide +kernel)) ggX5_outputAt_J4_charAt_5068e
set_option maxRecDepth 20000 in
theorem ggX5_appendInput_J4_length_8abf5 : GoodIn wsX5_appendInput wsJ4_length_8abf5 := goodIn_r _ [11, 12, 13, 14, 15, 16, 17, 18, 149, 150, 151, 152] (by decide +kernel) (by decide +kernel)
set_option maxRecDepth 20000 in
theorem gX5_appendInput_J4_length_8abf5 : GoodIn wsX5_appendInput (wsV RX5 265 RJ4 yJ4_length_8abf5 wsJ4_length_8abf5) := goodIn_app (goodIn_of _ (by decide +kernel)) ggX5_appendInput_J4_length_8abf5
set_option maxRecDepth 20000 in
theorem ggX5_appendInput_J4_append_cf468 : GoodIn wsX5_appendInput wsJ4_append_cf468 := goodIn_r _ [22, 23, 24, 14, 25, 16, 26, 18, 27, 28, 29, 30, 31, 32, 33, 34, 35, 36, 37, 38, 39, 40, 41, 42, 43, 44, 45, 46, 47, 48, 49, 50, 51, 52, 53, 54, 55, 56, 57, 58, 59, 60, 61, 62, 63, 64, 65, 66, 67, 68, 69, 70, 71, 72, 73, 74, 75, 76, 77, 78, 79, 80, 81, 82, 83, 84, 85, 86, 87, 88, 89, 90, 91, 92, 93, 94, 95, 96, 97, 98, 99, 100, 101, 102, 103, 104, 105, 106, 107, 108, 109, 110, 111, 112, 113, 114, 115, 116, 117, 118, 119, 120, 121, 122, 123, 124, 125, 126, 127, 128, 129, 130, 131, 149, 150, 151, 152] (by decide +kernel) (by decide +kernel)
set_option maxRecDepth 20000 in
theorem gX5_appendInput_J4_append_cf468 : GoodIn wsX5_appendInput (wsV RX5 261 RJ4 yJ4_append_cf468 wsJ4_append_cf468) := goodIn_app (goodIn_of _ (by decide +kernel)) ggX5_appendInput_J4_append_cf468
set_option maxRecDepth 20000 in
theorem ggX5_execute_X1_read : GoodIn wsX5_execute wsX1_read := goodIn_ca (goodIn_r _ [15, 16, 17, 18, 19, 20, 21, 14, 22, 23, 24, 25, 26, 27, 28, 29, 30, 31, 32, 33, 34, 35, 36, 37, 38, 39, 40, 41, 42, 43, 44, 45, 46, 47, 48, 49, 50, 51, 52, 53, 54, 55, 56, 57, 58, 59, 60, 61, 62, 63, 64, 65, 66, 67, 68, 69, 70, 71, 72, 73, 74, 75, 76, 77, 78, 79, 80, 81, 82, 83, 84, 85, 86, 87, 88, 89, 90, 91, 92, 93, 94, 95, 96, 97, 98, 99, 100, 101, 102, 103, 104, 105, 106, 107, 108, 109, 110, 111, 112, 113, 114, 115, 116, 117, 118, 119, 120, 121, 122, 123, 124, 125, 126, 127, 128, 129, 130, 131, 132, 133, 134, 135, 136, 137, 138, 139, 140, 141, 142, 143, 144, 145, 146, 147, 148, 149, 150, 151, 152, 153, 154, 155, 156, 157, 158, 159, 160, 161, 162, 163, 164, 165, 166, 167, 168, 520, 521, 522, 523, 524, 525, 526, 527, 528, 529, 530, 531, 532, 533] (by decide +kernel) (by decide +kernel)) (goodIn_sub (fun _ h => List.mem_cons_of_mem _ (List.mem_append_left _ (List.mem_append_left _ (List.mem_append_left _ (List.mem_append_right _ h))))) (by decide +kernel))
set_option maxRecDepth 20000 in
theorem gX5_execute_X1_read : GoodIn wsX5_execute (wsV RX5 286 RX1 yX1_read wsX1_read) := goodIn_app (goodIn_of _ (by decide +kernel)) ggX5_execute_X1_read
set_option maxRecDepth 20000 in
theorem ggX5_execute_J4_setLength_d00df : GoodIn wsX5_execute wsJ4_setLength_d00df := goodIn_r _ [172, 173, 174, 33, 175, 35, 176, 177, 178, 179, 37, 47, 180, 181, 182, 183, 184, 185, 46, 186, 187, 188, 189, 190, 191, 192, 193, 194, 195, 196, 99, 50, 100, 197, 198, 199, 200, 201, 202, 203, 204, 205, 206, 207, 208, 209, 210, 211, 212, 49, 51, 213, 214, 215, 216, 217, 218, 219, 220, 221, 222, 223, 224, 96, 225, 226, 227, 228, 229, 230, 231, 232, 233, 29, 234, 235, 236, 237, 238, 63, 239, 240, 534, 535, 536, 537, 538, 539, 526, 527, 528, 529, 540, 541, 542, 543, 544, 545] (by decide +kernel) (by decide +kernel)
set_option maxRecDepth 20000 in
theorem gX5_execute_J4_setLength_d00df : GoodIn wsX5_execute (wsV RX5 254 RJ4 yJ4_setLength_d00df wsJ4_setLength_d00df) := goodIn_app (goodIn_of _ (by decide +kernel)) ggX5_execute_J4_setLength_d00df
set_option maxRecDepth 20000 in
theorem ggX5_execute_X4_copyFrom : GoodIn wsX5_execute wsX4_copyFrom := goodIn_r _ [245, 246, 247, 248, 249, 214, 215, 216, 250, 251, 252, 253, 254, 255, 256, 257, 258, 259, 260, 261, 262, 263, 264, 265, 266, 267, 268, 269, 270, 271, 272, 273, 274, 275, 276, 277, 278, 546, 547, 548, 549, 550, 551, 552, 553, 554, 555, 556, 557, 558, 559, 560, 561, 562, 563, 564, 565, 566, 567, 568] (by decide +kernel) (by decide +kernel)
set_option maxRecDepth 20000 in
theorem gX5_execute_X4_copyFrom : GoodIn wsX5_execute (wsV RX5 294 RX4 yX4_copyFrom wsX4_copyFrom) := goodIn_app (goodIn_of _ (by decide +kernel)) ggX5_execute_X4_copyFrom
set_option maxRecDepth 20000 in
theorem ggX5_execute_X5_tryCommand : GoodIn wsX5_execute wsX5_tryCommand := goodIn_ca (goodIn_ca (goodIn_ca (goodIn_ca (goodIn_r _ [283, 284, 285, 3, 286, 287, 288, 7, 289, 290, 282, 291, 292, 293, 294, 295, 296, 297, 298, 299, 300, 301, 302, 303, 304, 305, 306, 307, 308, 309, 244, 310, 246, 248, 253, 311, 312, 313, 314, 315, 316, 317, 318, 261, 319, 320, 321, 322, 323, 266, 324, 325, 326, 327, 328, 329, 330, 331, 332, 333, 334, 263, 335, 336, 337, 338, 339, 340, 341, 342, 343, 344, 345, 346, 347, 348, 349, 350, 351, 352, 353, 354, 267, 355, 356, 357, 358, 359, 360, 361, 362, 363, 251, 364, 365, 366, 367, 368, 369, 370, 371, 372, 247, 373, 252, 258, 259, 260, 262, 264, 214, 215, 216, 265, 374, 375, 376, 377, 250, 378, 379, 380, 381, 382, 383, 384, 385, 386, 387, 388, 389, 390, 391, 392, 393, 394, 395, 396, 397, 398, 399, 400, 401, 402, 403, 404, 405, 406, 407, 408, 409, 410, 411, 412, 413, 414, 415, 416, 417, 418, 419, 420, 421, 422, 423, 424, 425, 426, 427, 254, 428, 429, 430, 431, 432, 433, 434, 435, 436, 437, 438, 439, 440, 441, 442, 443, 444, 445, 446, 447, 448, 449, 450, 451, 257, 452, 453, 454, 455, 456, 457, 458, 459, 460, 461, 256, 462, 463, 464, 465, 466, 99, 50, 100, 467, 468, 469, 470, 255, 471, 472, 473, 474, 475, 476, 477, 478, 479, 480, 481, 482, 483, 484, 485, 486, 487, 488, 489, 490, 491, 492, 493, 494, 495, 496, 497, 271, 498, 278, 273, 275, 276, 277, 509, 510, 511, 512, 513, 514, 515, 516, 517, 518, 519, 520, 521, 522, 523, 524, 525, 546, 547, 548, 549, 550, 551, 552, 553, 554, 555, 556, 557, 558, 559, 560, 561, 562, 563, 564, 565, 566, 567, 568] (by decide +kernel) (by decide +kernel)) (goodIn_sub (fun _ h => List.mem_cons_of_mem _ (List.mem_append_left _ (List.mem_append_left _ (List.mem_append_left _ (List.mem_append_right _ h))))) (by decide +kernel))) (goodIn_sub (fun _ h => List.mem_cons_of_mem _ (List.mem_append_left _ (List.mem_append_left _ (List.mem_append_right _ h)))) (by decide +kernel))) (goodIn_sub (fun _ h => List.mem_cons_of_mem _ (List.mem_append_left _ (List.mem_append_right _ h))) (by decide +kernel))) (goodIn_sub (fun _ h => List.mem_cons_of_mem _ (List.mem_append_right _ h)) (by decide +kernel))
set_option maxRecDepth 20000 in
theorem gX5_execute_X5_tryCommand : GoodIn wsX5_execute (wsV RX5 299 RX5 yX5_tryCommand wsX5_tryCommand) := goodIn_app (goodIn_of _ (by decide +kernel)) ggX5_execute_X5_tryCommand
set_option maxRecDepth 20000 in
theorem ggX5_execute_X3_push : GoodIn wsX5_execute wsX3_push := goodIn_r _ [503, 504, 505, 506, 507, 49, 50, 51, 508, 242, 243, 244, 245, 246, 247, 248, 249, 214, 215, 216, 250, 251, 252, 253, 254, 255, 256, 257, 258, 259, 260, 261, 262, 263, 264, 265, 266, 267, 268, 269, 270, 271, 272, 273, 274, 275, 276, 277, 278, 569, 570, 571, 546, 547, 548, 549, 550, 551, 552, 553, 554, 555, 556, 557, 558, 559, 560, 561, 562, 563, 564, 565, 566, 567, 568] (by decide +kernel) (by decide +kernel)
set_option maxRecDepth 20000 in
theorem gX5_execute_X3_push : GoodIn wsX5_execute (wsV RX5 302 RX3 yX3_push wsX3_push) := goodIn_app (goodIn_of _ (by decide +kernel)) ggX5_execute_X3_push
set_option maxRecDepth 20000 in
theorem ggX5_rejectionReason_X5_requireRejection : GoodIn wsX5_rejectionReason wsX5_requireRejection := goodIn_ca (goodIn_r _ [6, 7, 8, 1, 9, 10, 11, 12, 13, 14, 15, 16, 17, 18, 19] (by decide +kernel) (by decide +kernel)) (goodIn_sub (fun _ h => List.mem_cons_of_mem _ (List.mem_append_right _ h)) (by decide +kernel))
set_option maxRecDepth 20000 in
theorem gX5_rejectionReason_X5_requireRejection : GoodIn wsX5_rejectionReason (wsV RX5 307 RX5 yX5_requireRejection wsX5_requireRejection) := goodIn_app (goodIn_of _ (by decide +kernel)) ggX5_rejectionReason_X5_requireRejection
set_option maxRecDepth 20000 in
theorem ggX5_rejectionDetail_X5_requireRejection : GoodIn wsX5_rejectionDetail wsX5_requireRejection := goodIn_ca (goodIn_r _ [6, 7, 8, 9, 10, 11, 12, 13, 14, 15, 16, 17, 18, 19, 20] (by decide +kernel) (by decide +kernel)) (goodIn_sub (fun _ h => List.mem_cons_of_mem _ (List.mem_append_right _ h)) (by decide +kernel))
set_option maxRecDepth 20000 in
theorem gX5_rejectionDetail_X5_requireRejection : GoodIn wsX5_rejectionDetail (wsV RX5 307 RX5 yX5_requireRejection wsX5_requireRejection) := goodIn_app (goodIn_of _ (by decide +kernel)) ggX5_rejectionDetail_X5_requireRejection
set_option maxRecDepth 20000 in
theorem ggX5_undo_X3_popInto : GoodIn wsX5_undo wsX3_popInto := goodIn_r _ [10, 11, 12, 13, 14, 15, 16, 17, 18, 19, 20, 21, 22, 23, 24, 25, 26, 27, 28, 29, 30, 31, 32, 33, 34, 35, 36, 37, 38, 39, 40, 41, 42, 43, 44, 45, 46, 47, 48, 49, 50, 51, 52, 53, 54, 66, 67, 68, 69, 70, 71, 72, 73, 74, 75, 76, 77, 78, 79, 80, 81, 82, 83, 84, 85, 86, 87, 88, 89, 90, 91] (by decide +kernel) (by decide +kernel)
set_option maxRecDepth 20000 in
theorem gX5_undo_X3_popInto : GoodIn wsX5_undo (wsV RX5 315 RX3 yX3_popInto wsX3_popInto) := goodIn_app (goodIn_of _ (by decide +kernel)) ggX5_undo_X3_popInto
set_option maxRecDepth 20000 in
theorem ggX5_saveSnapshot_X4_copyFrom : GoodIn wsX5_saveSnapshot wsX4_copyFrom := goodIn_r _ [10, 11, 12, 13, 14, 15, 16, 17, 18, 19, 20, 21, 22, 23, 24, 25, 26, 27, 28, 29, 30, 31, 32, 33, 34, 35, 36, 37, 38, 39, 40, 41, 42, 43, 44, 45, 46, 58, 59, 60, 61, 62, 63, 64, 65, 66, 67, 68, 69, 70, 71, 77, 78, 79, 80, 72, 73, 74, 75, 76] (by decide +kernel) (by decide +kernel)
set_option maxRecDepth 20000 in
theorem gX5_saveSnapshot_X4_copyFrom : GoodIn wsX5_saveSnapshot (wsV RX5 294 RX4 yX4_copyFrom wsX4_copyFrom) := goodIn_app (goodIn_of _ (by decide +kernel)) ggX5_saveSnapshot_X4_copyFrom
