set_option maxRecDepth 20000 in
theorem ggX0_works_X5_hasBit : GoodIn wsX0_works wsX5_hasBit := goodIn_r _ [4] (by decide +kernel) (by decide +kernel)
set_option maxRecDepth 20000 in
theorem gX0_works_X5_hasBit_n31 : GoodIn wsX0_works (wsX5_hasBit) := ggX0_works_X5_hasBit
set_option maxRecDepth 20000 in
theorem ggX0_isHeld_X5_hasBit : GoodIn wsX0_isHeld wsX5_hasBit := goodIn_r _ [4] (by decide +kernel) (by decide +kernel)
set_option maxRecDepth 20000 in
theorem gX0_isHeld_X5_hasBit_n31 : GoodIn wsX0_isHeld (wsX5_hasBit) := ggX0_isHeld_X5_hasBit
set_option maxRecDepth 20000 in
theorem ggX0_countInWork_J6_bitCount_0f7a4 : GoodIn wsX0_countInWork wsJ6_bitCount_0f7a4 := goodIn_r _ [5, 6, 7, 8] (by decide +kernel) (by decide +kernel)
set_option maxRecDepth 20000 in
theorem gX0_countInWork_J6_bitCount_0f7a4 : GoodIn wsX0_countInWork (va_wsS RX0 35 yJ6_bitCount_0f7a4 wsJ6_bitCount_0f7a4) := goodIn_app (goodIn_of _ (by decide +kernel)) ggX0_countInWork_J6_bitCount_0f7a4
set_option maxRecDepth 20000 in
theorem ggX0_countHeld_J6_bitCount_0f7a4 : GoodIn wsX0_countHeld wsJ6_bitCount_0f7a4 := goodIn_r _ [5, 6, 7, 8] (by decide +kernel) (by decide +kernel)
set_option maxRecDepth 20000 in
theorem gX0_countHeld_J6_bitCount_0f7a4 : GoodIn wsX0_countHeld (va_wsS RX0 35 yJ6_bitCount_0f7a4 wsJ6_bitCount_0f7a4) := goodIn_app (goodIn_of _ (by decide +kernel)) ggX0_countHeld_J6_bitCount_0f7a4
set_option maxRecDepth 20000 in
theorem ggX0_countEmpty_X0_loopMask : GoodIn wsX0_countEmpty wsX0_loopMask := goodIn_ca (goodIn_r _ [6, 7, 15, 16, 17, 18] (by decide +kernel) (by decide +kernel)) (goodIn_sub (fun _ h => List.mem_cons_of_mem _ (List.mem_append_right _ h)) (by decide +kernel))
set_option maxRecDepth 20000 in
theorem gX0_countEmpty_X0_loopMask : GoodIn wsX0_countEmpty (wsV RX0 41 RX0 yX0_loopMask wsX0_loopMask) := goodIn_app (goodIn_of _ (by decide +kernel)) ggX0_countEmpty_X0_loopMask
set_option maxRecDepth 20000 in
theorem ggX0_countEmpty_J6_bitCount_0f7a4 : GoodIn wsX0_countEmpty wsJ6_bitCount_0f7a4 := goodIn_r _ [11, 12, 13, 14] (by decide +kernel) (by decide +kernel)
set_option maxRecDepth 20000 in
theorem gX0_countEmpty_J6_bitCount_0f7a4 : GoodIn wsX0_countEmpty (va_wsS RX0 35 yJ6_bitCount_0f7a4 wsJ6_bitCount_0f7a4) := goodIn_app (goodIn_of _ (by decide +kernel)) ggX0_countEmpty_J6_bitCount_0f7a4
set_option maxRecDepth 20000 in
theorem ggX0_firstInWork_X0_works : GoodIn wsX0_firstInWork wsX0_works := goodIn_r _ [5, 6, 7, 8, 9, 10, 11, 12, 13] (by decide +kernel) (by decide +kernel)
set_option maxRecDepth 20000 in
theorem gX0_firstInWork_X0_works : GoodIn wsX0_firstInWork (wsV RX0 45 RX0 yX0_works wsX0_works) := goodIn_app (goodIn_of _ (by decide +kernel)) ggX0_firstInWork_X0_works
set_option maxRecDepth 20000 in
theorem ggX0_firstEmptyFrom_X0_works : GoodIn wsX0_firstEmptyFrom wsX0_works := goodIn_r _ [6, 7, 8, 9, 10, 11, 12, 13, 14] (by decide +kernel) (by decide +kernel)
set_option maxRecDepth 20000 in
theorem gX0_firstEmptyFrom_X0_works : GoodIn wsX0_firstEmptyFrom (wsV RX0 45 RX0 yX0_works wsX0_works) := goodIn_app (goodIn_of _ (by decide +kernel)) ggX0_firstEmptyFrom_X0_works
set_option maxRecDepth 20000 in
theorem ggX0_runByShifting_X0_loopMask : GoodIn wsX0_runByShifting wsX0_loopMask := goodIn_ca (goodIn_r _ [5, 6, 7, 8, 9, 10] (by decide +kernel) (by decide +kernel)) (goodIn_sub (fun _ h => List.mem_cons_of_mem _ (List.mem_append_right _ h)) (by decide +kernel))
set_option maxRecDepth 20000 in
theorem gX0_runByShifting_X0_loopMask : GoodIn wsX0_runByShifting (wsV RX0 41 RX0 yX0_loopMask wsX0_loopMask) := goodIn_app (goodIn_of _ (by decide +kernel)) ggX0_runByShifting_X0_loopMask
set_option maxRecDepth 20000 in
theorem ggX0_knits_X5_hasBit : GoodIn wsX0_knits wsX5_hasBit := goodIn_r _ [6] (by decide +kernel) (by decide +kernel)
set_option maxRecDepth 20000 in
theorem gX0_knits_X5_hasBit_n31 : GoodIn wsX0_knits (wsX5_hasBit) := ggX0_knits_X5_hasBit
set_option maxRecDepth 20000 in
theorem ggX0_widthByNeedles_X0_knits : GoodIn wsX0_widthByNeedles wsX0_knits := goodIn_ca (goodIn_r _ [5, 6, 7, 8, 9, 10, 11, 12, 13, 14, 15] (by decide +kernel) (by decide +kernel)) (goodIn_sub (fun _ h => List.mem_cons_of_mem _ (List.mem_append_right _ h)) (by decide +kernel))
set_option maxRecDepth 20000 in
theorem gX0_widthByNeedles_X0_knits : GoodIn wsX0_widthByNeedles (wsV RX0 55 RX0 yX0_knits wsX0_knits) := goodIn_app (goodIn_of _ (by decide +kernel)) ggX0_widthByNeedles_X0_knits
set_option maxRecDepth 20000 in
theorem ggX0_widthByMasks_X0_loopMask : GoodIn wsX0_widthByMasks wsX0_loopMask := goodIn_ca (goodIn_r _ [7, 8, 16, 17, 18, 19] (by decide +kernel) (by decide +kernel)) (goodIn_sub (fun _ h => List.mem_cons_of_mem _ (List.mem_append_right _ h)) (by decide +kernel))
set_option maxRecDepth 20000 in
theorem gX0_widthByMasks_X0_loopMask : GoodIn wsX0_widthByMasks (wsV RX0 41 RX0 yX0_loopMask wsX0_loopMask) := goodIn_app (goodIn_of _ (by decide +kernel)) ggX0_widthByMasks_X0_loopMask
set_option maxRecDepth 20000 in
theorem ggX0_widthByMasks_J6_bitCount_0f7a4 : GoodIn wsX0_widthByMasks wsJ6_bitCount_0f7a4 := goodIn_r _ [12, 13, 14, 15] (by decide +kernel) (by decide +kernel)
set_option maxRecDepth 20000 in
theorem gX0_widthByMasks_J6_bitCount_0f7a4 : GoodIn wsX0_widthByMasks (va_wsS RX0 35 yJ6_bitCount_0f7a4 wsJ6_bitCount_0f7a4) := goodIn_app (goodIn_of _ (by decide +kernel)) ggX0_widthByMasks_J6_bitCount_0f7a4
set_option maxRecDepth 20000 in
theorem ggX0_isClearOutOfWork_X0_loopMask : GoodIn wsX0_isClearOutOfWork wsX0_loopMask := goodIn_ca (goodIn_r _ [7, 8, 9, 10, 11, 12] (by decide +kernel) (by decide +kernel)) (goodIn_sub (fun _ h => List.mem_cons_of_mem _ (List.mem_append_right _ h)) (by decide +kernel))
set_option maxRecDepth 20000 in
theorem gX0_isClearOutOfWork_X0_loopMask : GoodIn wsX0_isClearOutOfWork (wsV RX0 41 RX0 yX0_loopMask wsX0_loopMask) := goodIn_app (goodIn_of _ (by decide +kernel)) ggX0_isClearOutOfWork_X0_loopMask
set_option maxRecDepth 20000 in
theorem ggX0_sign_X0_works : GoodIn wsX0_sign wsX0_works := goodIn_r _ [6, 7, 8, 9, 10, 16, 17, 18, 19] (by decide +kernel) (by decide +kernel)
set_option maxRecDepth 20000 in
theorem gX0_sign_X0_works : GoodIn wsX0_sign (wsV RX0 45 RX0 yX0_works wsX0_works) := goodIn_app (goodIn_of _ (by decide +kernel)) ggX0_sign_X0_works
set_option maxRecDepth 20000 in
theorem ggX0_sign_X0_isHeld : GoodIn wsX0_sign wsX0_isHeld := goodIn_r _ [14, 15, 8, 9, 10, 16, 17, 18, 19] (by decide +kernel) (by decide +kernel)
set_option maxRecDepth 20000 in
theorem gX0_sign_X0_isHeld : GoodIn wsX0_sign (wsV RX0 58 RX0 yX0_isHeld wsX0_isHeld) := goodIn_app (goodIn_of _ (by decide +kernel)) ggX0_sign_X0_isHeld
set_option maxRecDepth 20000 in
theorem ggX0_putInWork_X0_putOneLoop : GoodIn wsX0_putInWork wsX0_putOneLoop := goodIn_ca (goodIn_r _ [6, 7, 8, 20, 21, 22, 23] (by decide +kernel) (by decide +kernel)) (goodIn_sub (fun _ h => List.mem_cons_of_mem _ (List.mem_append_right _ h)) (by decide +kernel))
set_option maxRecDepth 20000 in
theorem gX0_putInWork_X0_putOneLoop : GoodIn wsX0_putInWork (wsV RX0 61 RX0 yX0_putOneLoop wsX0_putOneLoop) := goodIn_app (goodIn_of _ (by decide +kernel)) ggX0_putInWork_X0_putOneLoop
set_option maxRecDepth 20000 in
theorem ggX0_putInWork_X0_countInWork : GoodIn wsX0_putInWork wsX0_countInWork := goodIn_r _ [12, 1, 13, 14, 15, 16, 17, 18, 19, 20, 21, 22, 23] (by decide +kernel) (by decide +kernel)
set_option maxRecDepth 20000 in
theorem gX0_putInWork_X0_countInWork : GoodIn wsX0_putInWork (wsV RX0 65 RX0 yX0_countInWork wsX0_countInWork) := goodIn_app (goodIn_of _ (by decide +kernel)) ggX0_putInWork_X0_countInWork
set_option maxRecDepth 20000 in
theorem ggX0_takeOutOfWork_X0_takeLoops : GoodIn wsX0_takeOutOfWork wsX0_takeLoops := goodIn_ca (goodIn_r _ [7, 8, 9, 10, 11, 12, 13] (by decide +kernel) (by decide +kernel)) (goodIn_sub (fun _ h => List.mem_cons_of_mem _ (List.mem_append_right _ h)) (by decide +kernel))
set_option maxRecDepth 20000 in
theorem gX0_takeOutOfWork_X0_takeLoops : GoodIn wsX0_takeOutOfWork (wsV RX0 68 RX0 yX0_takeLoops wsX0_takeLoops) := goodIn_app (goodIn_of _ (by decide +kernel)) ggX0_takeOutOfWork_X0_takeLoops
set_option maxRecDepth 20000 in
theorem ggX0_takeAllOutOfWork_X0_takeOutOfWork : GoodIn wsX0_takeAllOutOfWork wsX0_takeOutOfWork := goodIn_ca (goodIn_r _ [5, 6, 7, 8, 9, 10, 4, 11, 12, 13, 14, 15, 16, 17] (by decide +kernel) (by decide +kernel)) (goodIn_sub (fun _ h => List.mem_cons_of_mem _ (List.mem_append_right _ h)) (by decide +kernel))
set_option maxRecDepth 20000 in
theorem gX0_takeAllOutOfWork_X0_takeOutOfWork : GoodIn wsX0_takeAllOutOfWork (wsV RX0 71 RX0 yX0_takeOutOfWork wsX0_takeOutOfWork) := goodIn_app (goodIn_of _ (by decide +kernel)) ggX0_takeAllOutOfWork_X0_takeOutOfWork
set_option maxRecDepth 20000 in
theorem ggX0_putOnHold_X0_countHeld : GoodIn wsX0_putOnHold wsX0_countHeld := goodIn_r _ [6, 1, 7, 8, 9, 10, 11, 12, 13, 14, 15, 16, 17] (by decide +kernel) (by decide +kernel)
set_option maxRecDepth 20000 in
theorem gX0_putOnHold_X0_countHeld : GoodIn wsX0_putOnHold (wsV RX0 74 RX0 yX0_countHeld wsX0_countHeld) := goodIn_app (goodIn_of _ (by decide +kernel)) ggX0_putOnHold_X0_countHeld
set_option maxRecDepth 20000 in
theorem ggX0_takeOffHold_X0_countHeld : GoodIn wsX0_takeOffHold wsX0_countHeld := goodIn_r _ [6, 1, 7, 8, 9, 10, 11, 12, 13, 14, 15, 16, 17] (by decide +kernel) (by decide +kernel)
set_option maxRecDepth 20000 in
theorem gX0_takeOffHold_X0_countHeld : GoodIn wsX0_takeOffHold (wsV RX0 74 RX0 yX0_countHeld wsX0_countHeld) := goodIn_app (goodIn_of _ (by decide +kernel)) ggX0_takeOffHold_X0_countHeld
set_option maxRecDepth 20000 in
theorem ggX0_moveLoops_X0_takeOutOfWork : GoodIn wsX0_moveLoops wsX0_takeOutOfWork := goodIn_ca (goodIn_r _ [11, 12, 13, 14, 15, 16, 10, 17, 6, 1, 18, 19, 20, 21] (by decide +kernel) (by decide +kernel)) (goodIn_sub (fun _ h => List.mem_cons_of_mem _ (List.mem_append_right _ h)) (by decide +kernel))
set_option maxRecDepth 20000 in
theorem gX0_moveLoops_X0_takeOutOfWork : GoodIn wsX0_moveLoops (wsV RX0 71 RX0 yX0_takeOutOfWork wsX0_takeOutOfWork) := goodIn_app (goodIn_of _ (by decide +kernel)) ggX0_moveLoops_X0_takeOutOfWork
set_option maxRecDepth 20000 in
theorem ggX0_passCourse_X0_knits : GoodIn wsX0_passCourse wsX0_knits := goodIn_ca (goodIn_r _ [6, 1, 7, 8, 9, 10, 11, 25, 26, 27, 28] (by decide +kernel) (by decide +kernel)) (goodIn_sub (fun _ h => List.mem_cons_of_mem _ (List.mem_append_right _ h)) (by decide +kernel))
set_option maxRecDepth 20000 in
theorem gX0_passCourse_X0_knits : GoodIn wsX0_passCourse (wsV RX0 55 RX0 yX0_knits wsX0_knits) := goodIn_app (goodIn_of _ (by decide +kernel)) ggX0_passCourse_X0_knits
set_option maxRecDepth 20000 in
theorem ggX0_passCourse_X0_putOneLoop : GoodIn wsX0_passCourse wsX0_putOneLoop := goodIn_ca (goodIn_r _ [15, 1, 16, 25, 26, 27, 28] (by decide +kernel) (by decide +kernel)) (goodIn_sub (fun _ h => List.mem_cons_of_mem _ (List.mem_append_right _ h)) (by decide +kernel))
set_option maxRecDepth 20000 in
theorem gX0_passCourse_X0_putOneLoop : GoodIn wsX0_passCourse (wsV RX0 61 RX0 yX0_putOneLoop wsX0_putOneLoop) := goodIn_app (goodIn_of _ (by decide +kernel)) ggX0_passCourse_X0_putOneLoop
set_option maxRecDepth 20000 in
theorem ggX0_passCourse_X0_growOlder : GoodIn wsX0_passCourse wsX0_growOlder := goodIn_ca (goodIn_r _ [20, 16, 21, 22, 23, 5, 24, 1, 25, 26, 27, 28] (by decide +kernel) (by decide +kernel)) (goodIn_sub (fun _ h => List.mem_cons_of_mem _ (List.mem_append_right _ h)) (by decide +kernel))
set_option maxRecDepth 20000 in
theorem gX0_passCourse_X0_growOlder : GoodIn wsX0_passCourse (wsV RX0 77 RX0 yX0_growOlder wsX0_growOlder) := goodIn_app (goodIn_of _ (by decide +kernel)) ggX0_passCourse_X0_growOlder
set_option maxRecDepth 20000 in
theorem ggX0_growOlder_X0_takeLoops : GoodIn wsX0_growOlder wsX0_takeLoops := goodIn_ca (goodIn_r _ [6, 7, 1, 8, 9, 10, 11] (by decide +kernel) (by decide +kernel)) (goodIn_sub (fun _ h => List.mem_cons_of_mem _ (List.mem_append_right _ h)) (by decide +kernel))
set_option maxRecDepth 20000 in
theorem gX0_growOlder_X0_takeLoops : GoodIn wsX0_growOlder (wsV RX0 68 RX0 yX0_takeLoops wsX0_takeLoops) := goodIn_app (goodIn_of _ (by decide +kernel)) ggX0_growOlder_X0_takeLoops
set_option maxRecDepth 20000 in
theorem ggX1_init_J4_init_da8c8 : GoodIn wsX1_init wsJ4_init_da8c8 := goodIn_r _ [16, 17, 18, 19, 20, 21, 2, 3, 22, 23, 24, 25, 26, 27, 28, 29, 30, 31, 32, 33, 34, 35, 36, 37] (by decide +kernel) (by decide +kernel)
set_option maxRecDepth 20000 in
theorem gX1_init_J4_init_da8c8 : GoodIn wsX1_init (wsJ4_init_da8c8) := ggX1_init_J4_init_da8c8
set_option maxRecDepth 20000 in
theorem ggX1_read_X1_readCommand : GoodIn wsX1_read wsX1_readCommand := goodIn_ca (goodIn_r _ [8, 1, 3, 9, 10, 11, 12, 13, 14, 15, 16, 17, 18, 19, 20, 21, 22, 23, 24, 25, 26, 27, 28, 29, 30, 31, 32, 33, 34, 35, 36, 37, 38, 39, 40, 41, 42, 43, 44, 45, 46, 47, 48, 49, 50, 51, 52, 53, 54, 55, 56, 57, 58, 59, 60, 61, 62, 63, 64, 65, 66, 67, 68, 69, 70, 71, 72, 73, 74, 75, 76, 77, 78, 79, 80, 81, 82, 83, 84, 85, 86, 87, 88, 89, 90, 91, 92, 93, 94, 95, 96, 97, 98, 99, 100, 101, 102, 103, 104, 105, 106, 107, 108, 109, 110, 111, 112, 113, 114, 115, 116, 117, 118, 119, 120, 121, 122, 123, 124, 125, 126, 127, 128, 129, 130, 131, 132, 133, 7, 134, 135, 136, 137, 138, 139, 140, 141, 142, 143, 144, 145, 146, 147, 148, 149, 150, 151, 152, 153, 154, 155, 156, 157, 158, 159, 160, 161, 162, 163, 164, 165, 166, 167, 168] (by decide +kernel) (by decide +kernel)) (goodIn_sub (fun _ h => List.mem_cons_of_mem _ (List.mem_append_right _ h)) (by decide +kernel))
set_option maxRecDepth 20000 in
theorem gX1_read_X1_readCommand : GoodIn wsX1_read (wsV RX1 35 RX1 yX1_readCommand wsX1_readCommand) := goodIn_app (goodIn_of _ (by decide +kernel)) ggX1_read_X1_readCommand
set_option maxRecDepth 20000 in
theorem ggX1_read_J4_length_8abf5 : GoodIn wsX1_read wsJ4_length_8abf5 := goodIn_r _ [16, 17, 18, 19, 20, 21, 22, 23, 161, 162, 163, 164] (by decide +kernel) (by decide +kernel)
set_option maxRecDepth 20000 in
theorem gX1_read_J4_length_8abf5 : GoodIn wsX1_read (wsV RX1 39 RJ4 yJ4_length_8abf5 wsJ4_length_8abf5) := goodIn_app (goodIn_of _ (by decide +kernel)) ggX1_read_J4_length_8abf5
set_option maxRecDepth 20000 in
theorem ggX1_read_X1_skip : GoodIn wsX1_read wsX1_skip := goodIn_r _ [146, 1, 3, 12, 13, 14, 15, 16, 17, 18, 19, 20, 21, 22, 23, 24, 25, 26, 27, 28, 29, 30, 31, 32, 33, 34, 35, 36, 37, 38, 39, 40, 41, 42, 43, 44, 45, 46, 47, 48, 49, 50, 51, 52, 53, 54, 55, 56, 155, 156, 157, 158, 159, 160, 161, 162, 163, 164] (by decide +kernel) (by decide +kernel)
set_option maxRecDepth 20000 in
theorem gX1_read_X1_skip : GoodIn wsX1_read (wsV RX1 43 RX1 yX1_skip wsX1_skip) := goodIn_app (goodIn_of _ (by decide +kernel)) ggX1_read_X1_skip
set_option maxRecDepth 20000 in
theorem ggX1_readCommand_J4_length_8abf5 : GoodIn wsX1_readCommand wsJ4_length_8abf5 := goodIn_r _ [10, 11, 12, 13, 14, 15, 16, 17, 156, 157, 158, 159] (by decide +kernel) (by decide +kernel)
set_option maxRecDepth 20000 in
theorem gX1_readCommand_J4_length_8abf5 : GoodIn wsX1_readCommand (wsV RX1 39 RJ4 yJ4_length_8abf5 wsJ4_length_8abf5) := goodIn_app (goodIn_of _ (by decide +kernel)) ggX1_readCommand_J4_length_8abf5
set_option maxRecDepth 20000 in
theorem ggX1_readCommand_J4_charAt_5068e : GoodIn wsX1_readCommand wsJ4_charAt_5068e := goodIn_r _ [21, 22, 23, 13, 24, 15, 25, 26, 27, 17, 28, 29, 30, 31, 32, 33, 34, 35, 36, 37, 38, 39, 40, 41, 42, 43, 44, 45, 46, 47, 48, 49, 50, 156, 157, 158, 159] (by decide +kernel) (by decide +kernel)
set_option maxRecDepth 20000 in
theorem gX1_readCommand_J4_charAt_5068e : GoodIn wsX1_readCommand (wsV RX1 49 RJ4 yJ4_charAt_5068e wsJ4_charAt_5068e) := goodIn_app (goodIn_of _ (by decide +kernel)) ggX1_readCommand_J4_charAt_5068e
set_option maxRecDepth 20000 in
theorem ggX1_readCommand_J0_indexOf_0f7a4 : GoodIn wsX1_readCommand wsJ0_indexOf_0f7a4 := goodIn_r _ [54, 55, 56, 57, 34, 58, 59, 60, 61, 62, 63, 64, 65, 66, 67, 68, 69, 70, 71, 72, 73, 74, 75, 76, 77, 78, 79, 30, 80, 81, 29, 31, 82, 83, 84, 85, 86, 87, 88, 89, 43, 90, 91, 92, 93, 94, 95, 96, 97, 98, 99, 48, 49, 50, 100, 101, 102, 36, 103, 104, 39, 105, 106, 107, 108, 109, 42, 44, 45, 46, 47, 110, 111, 112, 113, 114, 115, 116, 117, 118, 119, 120, 121, 122, 123, 124, 160, 161, 162, 163] (by decide +kernel) (by decide +kernel)
set_option maxRecDepth 20000 in
theorem gX1_readCommand_J0_indexOf_0f7a4 : GoodIn wsX1_readCommand (wsV RX1 53 RJ0 yJ0_indexOf_0f7a4 wsJ0_indexOf_0f7a4) := goodIn_app (goodIn_of _ (by decide +kernel)) ggX1_readCommand_J0_indexOf_0f7a4
set_option maxRecDepth 20000 in
theorem ggX1_readCommand_X1_readFirst : GoodIn wsX1_readCommand wsX1_readFirst := goodIn_ca (goodIn_r _ [129, 4, 130, 131, 132, 128, 133, 1, 134, 135, 136, 137, 2, 6, 7, 8, 9, 10, 11, 12, 13, 14, 15, 16, 17, 18, 19, 20, 21, 22, 23, 24, 25, 26, 27, 28, 29, 30, 31, 32, 33, 34, 35, 36, 37, 38, 39, 40, 41, 42, 43, 44, 45, 46, 47, 48, 49, 50, 150, 151, 152, 153, 154, 155, 156, 157, 158, 159] (by decide +kernel) (by decide +kernel)) (goodIn_sub (fun _ h => List.mem_cons_of_mem _ (List.mem_append_right _ h)) (by decide +kernel))
set_option maxRecDepth 20000 in
theorem gX1_readCommand_X1_readFirst : GoodIn wsX1_readCommand (wsV RX1 59 RX1 yX1_readFirst wsX1_readFirst) := goodIn_app (goodIn_of _ (by decide +kernel)) ggX1_readCommand_X1_readFirst
set_option maxRecDepth 20000 in
theorem ggX1_readCommand_X1_skip : GoodIn wsX1_readCommand wsX1_skip := goodIn_r _ [141, 1, 2, 6, 7, 8, 9, 10, 11, 12, 13, 14, 15, 16, 17, 18, 19, 20, 21, 22, 23, 24, 25, 26, 27, 28, 29, 30, 31, 32, 33, 34, 35, 36, 37, 38, 39, 40, 41, 42, 43, 44, 45, 46, 47, 48, 49, 50, 150, 151, 152, 153, 154, 155, 156, 157, 158, 159] (by decide +kernel) (by decide +kernel)
set_option maxRecDepth 20000 in
theorem gX1_readCommand_X1_skip : GoodIn wsX1_readCommand (wsV RX1 43 RX1 yX1_skip wsX1_skip) := goodIn_app (goodIn_of _ (by decide +kernel)) ggX1_readCommand_X1_skip
set_option maxRecDepth 20000 in
theorem ggX1_readCommand_X1_readSecond : GoodIn wsX1_readCommand wsX1_readSecond := goodIn_ca (goodIn_r _ [145, 5, 130, 131, 132, 128, 133, 1, 134, 135, 136, 137, 2, 6, 7, 8, 9, 10, 11, 12, 13, 14, 15, 16, 17, 18, 19, 20, 21, 22, 23, 24, 25, 26, 27, 28, 29, 30, 31, 32, 33, 34, 35, 36, 37, 38, 39, 40, 41, 42, 43, 44, 45, 46, 47, 48, 49, 50, 150, 151, 152, 153, 154, 155, 156, 157, 158, 159] (by decide +kernel) (by decide +kernel)) (goodIn_sub (fun _ h => List.mem_cons_of_mem _ (List.mem_append_right _ h)) (by decide +kernel))
set_option maxRecDepth 20000 in
theorem gX1_readCommand_X1_readSecond : GoodIn wsX1_readCommand (wsV RX1 63 RX1 yX1_readSecond wsX1_readSecond) := goodIn_app (goodIn_of _ (by decide +kernel)) ggX1_readCommand_X1_readSecond
set_option maxRecDepth 20000 in
theorem ggX1_readCommand_X1_readMask : GoodIn wsX1_readCommand wsX1_readMask := goodIn_ca (goodIn_r _ [149, 4, 1, 134, 135, 136, 128, 137, 2, 6, 7, 8, 9, 10, 11, 12, 13, 14, 15, 16, 17, 18, 19, 20, 21, 22, 23, 24, 25, 26, 27, 28, 29, 30, 31, 32, 33, 34, 35, 36, 37, 38, 39, 40, 41, 42, 43, 44, 45, 46, 47, 48, 49, 50, 150, 151, 152, 153, 154, 155, 156, 157, 158, 159] (by decide +kernel) (by decide +kernel)) (goodIn_sub (fun _ h => List.mem_cons_of_mem _ (List.mem_append_right _ h)) (by decide +kernel))
set_option maxRecDepth 20000 in
theorem gX1_readCommand_X1_readMask : GoodIn wsX1_readCommand (wsV RX1 66 RX1 yX1_readMask wsX1_readMask) := goodIn_app (goodIn_of _ (by decide +kernel)) ggX1_readCommand_X1_readMask
set_option maxRecDepth 20000 in
theorem ggX1_skip_J4_length_8abf5 : GoodIn wsX1_skip wsJ4_length_8abf5 := goodIn_r _ [7, 8, 9, 10, 11, 12, 13, 14, 54, 55, 56, 57] (by decide +kernel) (by decide +kernel)
set_option maxRecDepth 20000 in
theorem gX1_skip_J4_length_8abf5 : GoodIn wsX1_skip (wsV RX1 39 RJ4 yJ4_length_8abf5 wsJ4_length_8abf5) := goodIn_app (goodIn_of _ (by decide +kernel)) ggX1_skip_J4_length_8abf5
set_option maxRecDepth 20000 in
theorem ggX1_skip_J4_charAt_5068e : GoodIn wsX1_skip wsJ4_charAt_5068e := goodIn_r _ [18, 19, 20, 10, 21, 12, 22, 23, 24, 14, 25, 26, 27, 28, 29, 30, 31, 32, 33, 34, 35, 36, 37, 38, 39, 40, 41, 42, 43, 44, 45, 46, 47, 54, 55, 56, 57] (by decide +kernel) (by decide +kernel)
set_option maxRecDepth 20000 in
theorem gX1_skip_J4_charAt_5068e : GoodIn wsX1_skip (wsV RX1 49 RJ4 yJ4_charAt_5068e wsJ4_charAt_5068e) := goodIn_app (goodIn_of _ (by decide +kernel)) ggX1_skip_J4_charAt_5068e
set_option maxRecDepth 20000 in
theorem ggX1_readFirst_X1_readNumber : GoodIn wsX1_readFirst wsX1_readNumber := goodIn_r _ [6, 7, 8, 9, 10, 5, 11, 12, 13, 14, 15, 16, 17, 18, 19, 20, 21, 22, 23, 24, 25, 26, 27, 28, 29, 30, 31, 32, 33, 34, 35, 36, 37, 38, 39, 40, 41, 42, 43, 44, 45, 46, 47, 48, 49, 50, 51, 52, 53, 54, 55, 56, 57, 58, 59, 60, 61, 62, 63, 64, 65, 66, 67] (by decide +kernel) (by decide +kernel)
set_option maxRecDepth 20000 in
theorem gX1_readFirst_X1_readNumber : GoodIn wsX1_readFirst (wsV RX1 69 RX1 yX1_readNumber wsX1_readNumber) := goodIn_app (goodIn_of _ (by decide +kernel)) ggX1_readFirst_X1_readNumber
set_option maxRecDepth 20000 in
theorem ggX1_readSecond_X1_readNumber : GoodIn wsX1_readSecond wsX1_readNumber := goodIn_r _ [6, 7, 8, 9, 10, 5, 11, 12, 13, 14, 15, 16, 17, 18, 19, 20, 21, 22, 23, 24, 25, 26, 27, 28, 29, 30, 31, 32, 33, 34, 35, 36, 37, 38, 39, 40, 41, 42, 43, 44, 45, 46, 47, 48, 49, 50, 51, 52, 53, 54, 55, 56, 57, 58, 59, 60, 61, 62, 63, 64, 65, 66, 67] (by decide +kernel) (by decide +kernel)
set_option maxRecDepth 20000 in
theorem gX1_readSecond_X1_readNumber : GoodIn wsX1_readSecond (wsV RX1 69 RX1 yX1_readNumber wsX1_readNumber) := goodIn_app (goodIn_of _ (by decide +kernel)) ggX1_readSecond_X1_readNumber
set_option maxRecDepth 20000 in
theorem ggX1_readNumber_X1_digitUpTo : GoodIn wsX1_readNumber wsX1_digitUpTo := goodIn_r _ [6, 1, 7, 8, 9, 10, 11, 12, 13, 14, 15, 16, 17, 18, 19, 20, 21, 22, 23, 24, 25, 26, 27, 28, 29, 30, 31, 32, 33, 34, 35, 36, 37, 38, 39, 40, 41, 42, 43, 44, 45, 46, 47, 48, 49, 50, 51, 52, 53, 54, 55, 56, 57, 58, 59, 60, 61, 62] (by decide +kernel) (by decide +kernel)
set_option maxRecDepth 20000 in
theorem gX1_readNumber_X1_digitUpTo : GoodIn wsX1_readNumber (wsV RX1 72 RX1 yX1_digitUpTo wsX1_digitUpTo) := goodIn_app (goodIn_of _ (by decide +kernel)) ggX1_readNumber_X1_digitUpTo
set_option maxRecDepth 20000 in
theorem ggX1_readMask_X1_digitUpTo : GoodIn wsX1_readMask wsX1_digitUpTo := goodIn_r _ [7, 2, 8, 9, 10, 11, 12, 13, 14, 15, 16, 17, 18, 19, 20, 21, 22, 23, 24, 25, 26, 27, 28, 29, 30, 31, 32, 33, 34, 35, 36, 37, 38, 39, 40, 41, 42, 43, 44, 45, 46, 47, 48, 49, 50, 51, 52, 53, 54, 55, 56, 57, 58, 59, 60, 61, 62, 63] (by decide +kernel) (by decide +kernel)
set_option maxRecDepth 20000 in
theorem gX1_readMask_X1_digitUpTo : GoodIn wsX1_readMask (wsV RX1 72 RX1 yX1_digitUpTo wsX1_digitUpTo) := goodIn_app (goodIn_of _ (by decide +kernel)) ggX1_readMask_X1_digitUpTo
set_option maxRecDepth 20000 in
theorem ggX1_digitUpTo_J4_length_8abf5 : GoodIn wsX1_digitUpTo wsJ4_length_8abf5 := goodIn_r _ [7, 8, 9, 10, 11, 12, 13, 14, 54, 55, 56, 57] (by decide +kernel) (by decide +kernel)
set_option maxRecDepth 20000 in
theorem gX1_digitUpTo_J4_length_8abf5 : GoodIn wsX1_digitUpTo (wsV RX1 39 RJ4 yJ4_length_8abf5 wsJ4_length_8abf5) := goodIn_app (goodIn_of _ (by decide +kernel)) ggX1_digitUpTo_J4_length_8abf5
set_option maxRecDepth 20000 in
theorem ggX1_digitUpTo_J4_charAt_5068e : GoodIn wsX1_digitUpTo wsJ4_charAt_5068e := goodIn_r _ [18, 19, 20, 10, 21, 12, 22, 23, 24, 14, 25, 26, 27, 28, 29, 30, 31, 32, 33, 34, 35, 36, 37, 38, 39, 40, 41, 42, 43, 44, 45, 46, 47, 54, 55, 56, 57] (by decide +kernel) (by decide +kernel)
set_option maxRecDepth 20000 in
theorem gX1_digitUpTo_J4_charAt_5068e : GoodIn wsX1_digitUpTo (wsV RX1 49 RJ4 yJ4_charAt_5068e wsJ4_charAt_5068e) := goodIn_app (goodIn_of _ (by decide +kernel)) ggX1_digitUpTo_J4_charAt_5068e
set_option maxRecDepth 20000 in
theorem ggX2_courseAt_X2_positionOf : GoodIn wsX2_courseAt wsX2_positionOf := goodIn_ca (goodIn_r _ [6, 1, 7, 8, 9, 5, 10, 11, 12, 13, 14, 15, 16, 17] (by decide +kernel) (by decide +kernel)) (goodIn_sub (fun _ h => List.mem_cons_of_mem _ (List.mem_append_right _ h)) (by decide +kernel))
set_option maxRecDepth 20000 in
theorem gX2_courseAt_X2_positionOf : GoodIn wsX2_courseAt (wsV RX2 34 RX2 yX2_positionOf wsX2_positionOf) := goodIn_app (goodIn_of _ (by decide +kernel)) ggX2_courseAt_X2_positionOf
set_option maxRecDepth 20000 in
theorem ggX2_positionOf_X2_comesBefore : GoodIn wsX2_positionOf wsX2_comesBefore := goodIn_ca (goodIn_r _ [6, 7, 8, 9, 10, 11, 12, 13] (by decide +kernel) (by decide +kernel)) (goodIn_sub (fun _ h => List.mem_cons_of_mem _ (List.mem_append_right _ h)) (by decide +kernel))
set_option maxRecDepth 20000 in
theorem gX2_positionOf_X2_comesBefore : GoodIn wsX2_positionOf (wsV RX2 38 RX2 yX2_comesBefore wsX2_comesBefore) := goodIn_app (goodIn_of _ (by decide +kernel)) ggX2_positionOf_X2_comesBefore
set_option maxRecDepth 20000 in
theorem ggX3_init_X4_init : GoodIn wsX3_init wsX4_init := goodIn_r _ [12, 13, 2, 3, 14, 15, 16, 17, 18, 19, 20, 21, 22, 23, 24, 25, 26, 27, 28, 29, 30, 31, 32, 33, 34, 35, 36, 37, 38, 39, 40, 41, 42, 43, 44, 45, 46, 47, 48, 49, 50, 51, 55, 56, 57, 58, 59, 60, 61, 62, 63, 64, 65, 66, 67, 68, 69, 70, 71, 72, 73, 74, 75, 76, 77] (by decide +kernel) (by decide +kernel)
set_option maxRecDepth 20000 in
theorem gX3_init_X4_init : GoodIn wsX3_init (wsX4_init) := ggX3_init_X4_init
set_option maxRecDepth 20000 in
theorem ggX3_push_X4_copyFrom : GoodIn wsX3_push wsX4_copyFrom := goodIn_r _ [12, 13, 14, 15, 16, 17, 18, 19, 20, 21, 22, 23, 24, 25, 26, 27, 28, 29, 30, 31, 32, 33, 34, 35, 36, 37, 38, 39, 40, 41, 42, 43, 44, 45, 46, 47, 48, 52, 53, 54, 55, 56, 57, 58, 59, 60, 61, 62, 63, 64, 65, 66, 67, 68, 69, 70, 71, 72, 73, 74] (by decide +kernel) (by decide +kernel)
set_option maxRecDepth 20000 in
theorem gX3_push_X4_copyFrom : GoodIn wsX3_push (wsV RX3 27 RX4 yX4_copyFrom wsX4_copyFrom) := goodIn_app (goodIn_of _ (by decide +kernel)) ggX3_push_X4_copyFrom
set_option maxRecDepth 20000 in
theorem ggX3_popInto_X4_copyFrom : GoodIn wsX3_popInto wsX4_copyFrom := goodIn_r _ [8, 9, 10, 11, 12, 13, 14, 15, 16, 17, 18, 19, 20, 21, 22, 23, 24, 25, 26, 27, 28, 29, 30, 31, 32, 33, 34, 35, 36, 37, 38, 39, 40, 41, 42, 43, 44, 48, 49, 50, 51, 52, 53, 54, 55, 56, 57, 58, 59, 60, 61, 62, 63, 64, 65, 66, 67, 68, 69, 70] (by decide +kernel) (by decide +kernel)
set_option maxRecDepth 20000 in
theorem gX3_popInto_X4_copyFrom : GoodIn wsX3_popInto (wsV RX3 27 RX4 yX4_copyFrom wsX4_copyFrom) := goodIn_app (goodIn_of _ (by decide +kernel)) ggX3_popInto_X4_copyFrom
set_option maxRecDepth 20000 in
theorem ggX4_init_X0_init : GoodIn wsX4_init wsX0_init := goodIn_r _ [27, 28, 2, 3, 13, 29, 30, 31, 32, 56, 57, 58, 59] (by decide +kernel) (by decide +kernel)
set_option maxRecDepth 20000 in
theorem gX4_init_X0_init : GoodIn wsX4_init (wsX0_init) := ggX4_init_X0_init
set_option maxRecDepth 20000 in
theorem ggX4_init_X2_init : GoodIn wsX4_init wsX2_init := goodIn_r _ [35, 36, 2, 3, 13, 37, 38, 39, 40, 41, 60, 61, 62, 63, 64] (by decide +kernel) (by decide +kernel)
set_option maxRecDepth 20000 in
theorem gX4_init_X2_init : GoodIn wsX4_init (wsX2_init) := ggX4_init_X2_init
set_option maxRecDepth 20000 in
theorem ggX4_copyFrom_X0_copyFrom : GoodIn wsX4_copyFrom wsX0_copyFrom := goodIn_r _ [20, 21, 22, 5, 6, 7, 23, 24, 25, 51, 52, 53, 54] (by decide +kernel) (by decide +kernel)
set_option maxRecDepth 20000 in
theorem gX4_copyFrom_X0_copyFrom : GoodIn wsX4_copyFrom (wsV RX4 63 RX0 yX0_copyFrom wsX0_copyFrom) := goodIn_app (goodIn_of _ (by decide +kernel)) ggX4_copyFrom_X0_copyFrom
set_option maxRecDepth 20000 in
theorem ggX4_copyFrom_X2_copyFrom : GoodIn wsX4_copyFrom wsX2_copyFrom := goodIn_r _ [30, 31, 32, 5, 6, 7, 33, 34, 35, 36, 55, 56, 57, 58, 59] (by decide +kernel) (by decide +kernel)
set_option maxRecDepth 20000 in
theorem gX4_copyFrom_X2_copyFrom : GoodIn wsX4_copyFrom (wsV RX4 67 RX2 yX2_copyFrom wsX2_copyFrom) := goodIn_app (goodIn_of _ (by decide +kernel)) ggX4_copyFrom_X2_copyFrom
set_option maxRecDepth 20000 in
theorem ggX4_nextRow_X4_rowOf : GoodIn wsX4_nextRow wsX4_rowOf := goodIn_ca (goodIn_ca (goodIn_r _ [7, 8, 9, 10, 11, 12, 13, 14, 15, 16, 17, 18, 19, 20, 21, 22, 23] (by decide +kernel) (by decide +kernel)) (goodIn_sub (fun _ h => List.mem_cons_of_mem _ (List.mem_append_left _ (List.mem_append_right _ h))) (by decide +kernel))) (goodIn_sub (fun _ h => List.mem_cons_of_mem _ (List.mem_append_right _ h)) (by decide +kernel))
set_option maxRecDepth 20000 in
theorem gX4_nextRow_X4_rowOf : GoodIn wsX4_nextRow (wsV RX4 79 RX4 yX4_rowOf wsX4_rowOf) := goodIn_app (goodIn_of _ (by decide +kernel)) ggX4_nextRow_X4_rowOf
set_option maxRecDepth 20000 in
theorem ggX4_feederAt_X4_positionOf : GoodIn wsX4_feederAt wsX4_positionOf := goodIn_ca (goodIn_r _ [5, 6, 7, 8, 9, 10, 11, 12, 13, 14, 15, 16, 17, 18, 19, 20] (by decide +kernel) (by decide +kernel)) (goodIn_sub (fun _ h => List.mem_cons_of_mem _ (List.mem_append_right _ h)) (by decide +kernel))
set_option maxRecDepth 20000 in
theorem gX4_feederAt_X4_positionOf : GoodIn wsX4_feederAt (wsV RX4 83 RX4 yX4_positionOf wsX4_positionOf) := goodIn_app (goodIn_of _ (by decide +kernel)) ggX4_feederAt_X4_positionOf
set_option maxRecDepth 20000 in
theorem ggX4_stitchesAhead_X0_copyFrom : GoodIn wsX4_stitchesAhead wsX0_copyFrom := goodIn_r _ [9, 10, 11, 12, 13, 14, 15, 16, 17, 71, 72, 73, 74] (by decide +kernel) (by decide +kernel)
set_option maxRecDepth 20000 in
theorem gX4_stitchesAhead_X0_copyFrom : GoodIn wsX4_stitchesAhead (wsV RX4 63 RX0 yX0_copyFrom wsX0_copyFrom) := goodIn_app (goodIn_of _ (by decide +kernel)) ggX4_stitchesAhead_X0_copyFrom
set_option maxRecDepth 20000 in
theorem ggX4_stitchesAhead_X4_rowOf : GoodIn wsX4_stitchesAhead wsX4_rowOf := goodIn_ca (goodIn_ca (goodIn_r _ [22, 23, 24, 52, 53, 54, 55, 56, 57, 58, 59, 60, 61, 62, 63, 64, 65] (by decide +kernel) (by decide +kernel)) (goodIn_sub (fun _ h => List.mem_cons_of_mem _ (List.mem_append_left _ (List.mem_append_right _ h))) (by decide +kernel))) (goodIn_sub (fun _ h => List.mem_cons_of_mem _ (List.mem_append_right _ h)) (by decide +kernel))
set_option maxRecDepth 20000 in
theorem gX4_stitchesAhead_X4_rowOf : GoodIn wsX4_stitchesAhead (wsV RX4 79 RX4 yX4_rowOf wsX4_rowOf) := goodIn_app (goodIn_of _ (by decide +kernel)) ggX4_stitchesAhead_X4_rowOf
set_option maxRecDepth 20000 in
theorem ggX4_stitchesAhead_X0_widthByNeedles : GoodIn wsX4_stitchesAhead wsX0_widthByNeedles := goodIn_ca (goodIn_r _ [28, 29, 30, 31, 8, 32, 10, 16, 17, 33, 34, 35, 71, 72, 73, 74] (by decide +kernel) (by decide +kernel)) (goodIn_sub (fun _ h => List.mem_cons_of_mem _ (List.mem_append_right _ h)) (by decide +kernel))
set_option maxRecDepth 20000 in
theorem gX4_stitchesAhead_X0_widthByNeedles : GoodIn wsX4_stitchesAhead (wsV RX4 86 RX0 yX0_widthByNeedles wsX0_widthByNeedles) := goodIn_app (goodIn_of _ (by decide +kernel)) ggX4_stitchesAhead_X0_widthByNeedles
set_option maxRecDepth 20000 in
theorem ggX4_stitchesAhead_X0_passCourse : GoodIn wsX4_stitchesAhead wsX0_passCourse := goodIn_ca (goodIn_r _ [39, 10, 29, 30, 31, 8, 32, 16, 17, 33, 34, 35, 40, 41, 42, 43, 15, 44, 45, 46, 47, 48, 49, 50, 51, 71, 72, 73, 74] (by decide +kernel) (by decide +kernel)) (goodIn_sub (fun _ h => List.mem_cons_of_mem _ (List.mem_append_right _ h)) (by decide +kernel))
set_option maxRecDepth 20000 in
theorem gX4_stitchesAhead_X0_passCourse : GoodIn wsX4_stitchesAhead (wsV RX4 89 RX0 yX0_passCourse wsX0_passCourse) := goodIn_app (goodIn_of _ (by decide +kernel)) ggX4_stitchesAhead_X0_passCourse
set_option maxRecDepth 20000 in
theorem ggX4_dropsAhead_X0_copyFrom : GoodIn wsX4_dropsAhead wsX0_copyFrom := goodIn_r _ [9, 10, 11, 12, 13, 14, 15, 16, 17, 67, 68, 69, 70] (by decide +kernel) (by decide +kernel)
set_option maxRecDepth 20000 in
theorem gX4_dropsAhead_X0_copyFrom : GoodIn wsX4_dropsAhead (wsV RX4 63 RX0 yX0_copyFrom wsX0_copyFrom) := goodIn_app (goodIn_of _ (by decide +kernel)) ggX4_dropsAhead_X0_copyFrom
set_option maxRecDepth 20000 in
theorem ggX4_dropsAhead_X4_rowOf : GoodIn wsX4_dropsAhead wsX4_rowOf := goodIn_ca (goodIn_ca (goodIn_r _ [22, 23, 24, 48, 49, 50, 51, 52, 53, 54, 55, 56, 57, 58, 59, 60, 61] (by decide +kernel) (by decide +kernel)) (goodIn_sub (fun _ h => List.mem_cons_of_mem _ (List.mem_append_left _ (List.mem_append_right _ h))) (by decide +kernel))) (goodIn_sub (fun _ h => List.mem_cons_of_mem _ (List.mem_append_right _ h)) (by decide +kernel))
set_option maxRecDepth 20000 in
theorem gX4_dropsAhead_X4_rowOf : GoodIn wsX4_dropsAhead (wsV RX4 79 RX4 yX4_rowOf wsX4_rowOf) := goodIn_app (goodIn_of _ (by decide +kernel)) ggX4_dropsAhead_X4_rowOf
set_option maxRecDepth 20000 in
theorem ggX4_dropsAhead_X0_passCourse : GoodIn wsX4_dropsAhead wsX0_passCourse := goodIn_ca (goodIn_r _ [28, 10, 29, 30, 31, 8, 32, 16, 17, 33, 34, 35, 36, 37, 38, 39, 15, 40, 41, 42, 43, 44, 45, 46, 47, 67, 68, 69, 70] (by decide +kernel) (by decide +kernel)) (goodIn_sub (fun _ h => List.mem_cons_of_mem _ (List.mem_append_right _ h)) (by decide +kernel))
set_option maxRecDepth 20000 in
theorem gX4_dropsAhead_X0_passCourse : GoodIn wsX4_dropsAhead (wsV RX4 89 RX0 yX0_passCourse wsX0_passCourse) := goodIn_app (goodIn_of _ (by decide +kernel)) ggX4_dropsAhead_X0_passCourse
set_option maxRecDepth 20000 in
theorem ggX4_coursesAhead_X0_copyFrom : GoodIn wsX4_coursesAhead wsX0_copyFrom := goodIn_r _ [12, 13, 14, 15, 16, 17, 18, 19, 20, 84, 85, 86, 87] (by decide +kernel) (by decide +kernel)
set_option maxRecDepth 20000 in
theorem gX4_coursesAhead_X0_copyFrom : GoodIn wsX4_coursesAhead (wsV RX4 63 RX0 yX0_copyFrom wsX0_copyFrom) := goodIn_app (goodIn_of _ (by decide +kernel)) ggX4_coursesAhead_X0_copyFrom
set_option maxRecDepth 20000 in
theorem ggX4_coursesAhead_X4_rowOf : GoodIn wsX4_coursesAhead wsX4_rowOf := goodIn_ca (goodIn_ca (goodIn_r _ [25, 26, 27, 65, 66, 67, 68, 69, 70, 71, 72, 73, 74, 75, 76, 77, 78] (by decide +kernel) (by decide +kernel)) (goodIn_sub (fun _ h => List.mem_cons_of_mem _ (List.mem_append_right _ h)) (by decide +kernel))) (goodIn_sub (fun _ h => List.mem_cons_of_mem _ (List.mem_append_left _ (List.mem_append_right _ h))) (by decide +kernel))
set_option maxRecDepth 20000 in
theorem gX4_coursesAhead_X4_rowOf : GoodIn wsX4_coursesAhead (wsV RX4 79 RX4 yX4_rowOf wsX4_rowOf) := goodIn_app (goodIn_of _ (by decide +kernel)) ggX4_coursesAhead_X4_rowOf
set_option maxRecDepth 20000 in
theorem ggX4_coursesAhead_X0_widthByNeedles : GoodIn wsX4_coursesAhead wsX0_widthByNeedles := goodIn_ca (goodIn_r _ [31, 32, 33, 34, 11, 35, 13, 19, 20, 36, 37, 38, 84, 85, 86, 87] (by decide +kernel) (by decide +kernel)) (goodIn_sub (fun _ h => List.mem_cons_of_mem _ (List.mem_append_left _ (List.mem_append_right _ h))) (by decide +kernel))
set_option maxRecDepth 20000 in
theorem gX4_coursesAhead_X0_widthByNeedles : GoodIn wsX4_coursesAhead (wsV RX4 86 RX0 yX0_widthByNeedles wsX0_widthByNeedles) := goodIn_app (goodIn_of _ (by decide +kernel)) ggX4_coursesAhead_X0_widthByNeedles
set_option maxRecDepth 20000 in
theorem ggX4_coursesAhead_X4_refusalOfCourse : GoodIn wsX4_coursesAhead wsX4_refusalOfCourse := goodIn_r _ [42, 43, 44, 45, 24, 46, 47, 48, 65, 66, 67, 68, 69, 70, 71, 72, 73, 74, 75, 76, 77, 78] (by decide +kernel) (by decide +kernel)
set_option maxRecDepth 20000 in
theorem gX4_coursesAhead_X4_refusalOfCourse : GoodIn wsX4_coursesAhead (wsV RX4 92 RX4 yX4_refusalOfCourse wsX4_refusalOfCourse) := goodIn_app (goodIn_of _ (by decide +kernel)) ggX4_coursesAhead_X4_refusalOfCourse
set_option maxRecDepth 20000 in
theorem ggX4_coursesAhead_X0_passCourse : GoodIn wsX4_coursesAhead wsX0_passCourse := goodIn_ca (goodIn_r _ [52, 13, 32, 33, 34, 11, 35, 19, 20, 36, 37, 38, 53, 54, 55, 56, 18, 57, 58, 59, 60, 61, 62, 63, 64, 84, 85, 86, 87] (by decide +kernel) (by decide +kernel)) (goodIn_sub (fun _ h => List.mem_cons_of_mem _ (List.mem_append_left _ (List.mem_append_right _ h))) (by decide +kernel))
set_option maxRecDepth 20000 in
theorem gX4_coursesAhead_X0_passCourse : GoodIn wsX4_coursesAhead (wsV RX4 89 RX0 yX0_passCourse wsX0_passCourse) := goodIn_app (goodIn_of _ (by decide +kernel)) ggX4_coursesAhead_X0_passCourse
set_option maxRecDepth 20000 in
theorem ggX4_refusalOfCourse_X4_refuse : GoodIn wsX4_refusalOfCourse wsX4_refuse := goodIn_r _ [5, 6, 7, 8, 9, 10, 11, 12, 13, 14, 15, 16, 17, 18, 19, 20, 21] (by decide +kernel) (by decide +kernel)
set_option maxRecDepth 20000 in
theorem gX4_refusalOfCourse_X4_refuse : GoodIn wsX4_refusalOfCourse (wsV RX4 96 RX4 yX4_refuse wsX4_refuse) := goodIn_app (goodIn_of _ (by decide +kernel)) ggX4_refusalOfCourse_X4_refuse
set_option maxRecDepth 20000 in
theorem ggX4_refusalOf_X4_refusalOfCastOn : GoodIn wsX4_refusalOf wsX4_refusalOfCastOn := goodIn_r _ [9, 1, 10, 11, 12, 13, 14, 15, 16, 17, 18, 19, 20, 21, 22, 23, 24, 25, 8, 26, 4, 27, 120, 121, 122, 123, 124, 125, 126, 127, 128, 129, 130, 131, 132, 133, 134, 135, 136, 137] (by decide +kernel) (by decide +kernel)
set_option maxRecDepth 20000 in
theorem gX4_refusalOf_X4_refusalOfCastOn : GoodIn wsX4_refusalOf (wsV RX4 100 RX4 yX4_refusalOfCastOn wsX4_refusalOfCastOn) := goodIn_app (goodIn_of _ (by decide +kernel)) ggX4_refusalOf_X4_refusalOfCastOn
set_option maxRecDepth 20000 in
theorem ggX4_refusalOf_X0_countLoops : GoodIn wsX4_refusalOf wsX0_countLoops := goodIn_ca (goodIn_r _ [31, 32, 134, 135, 136, 137] (by decide +kernel) (by decide +kernel)) (goodIn_sub (fun _ h => List.mem_cons_of_mem _ (List.mem_append_left _ (List.mem_append_right _ h))) (by decide +kernel))
set_option maxRecDepth 20000 in
theorem gX4_refusalOf_X0_countLoops : GoodIn wsX4_refusalOf (wsV RX4 103 RX0 yX0_countLoops wsX0_countLoops) := goodIn_app (goodIn_of _ (by decide +kernel)) ggX4_refusalOf_X0_countLoops
set_option maxRecDepth 20000 in
theorem ggX4_refusalOf_X0_countInWork : GoodIn wsX4_refusalOf wsX0_countInWork := goodIn_r _ [36, 19, 37, 38, 39, 40, 41, 42, 43, 134, 135, 136, 137] (by decide +kernel) (by decide +kernel)
set_option maxRecDepth 20000 in
theorem gX4_refusalOf_X0_countInWork : GoodIn wsX4_refusalOf (wsV RX4 107 RX0 yX0_countInWork wsX0_countInWork) := goodIn_app (goodIn_of _ (by decide +kernel)) ggX4_refusalOf_X0_countInWork
set_option maxRecDepth 20000 in
theorem ggX4_refusalOf_X4_refuse : GoodIn wsX4_refusalOf wsX4_refuse := goodIn_r _ [26, 4, 27, 120, 121, 122, 123, 124, 125, 126, 127, 128, 129, 130, 131, 132, 133] (by decide +kernel) (by decide +kernel)
set_option maxRecDepth 20000 in
theorem gX4_refusalOf_X4_refuse : GoodIn wsX4_refusalOf (wsV RX4 96 RX4 yX4_refuse wsX4_refuse) := goodIn_app (goodIn_of _ (by decide +kernel)) ggX4_refusalOf_X4_refuse
set_option maxRecDepth 20000 in
theorem ggX4_refusalOf_X4_refusalOfHold : GoodIn wsX4_refusalOf wsX4_refusalOfHold := goodIn_r _ [47, 1, 48, 16, 17, 13, 18, 19, 20, 21, 22, 23, 24, 25, 8, 26, 4, 27, 49, 50, 51, 52, 53, 120, 121, 122, 123, 124, 125, 126, 127, 128, 129, 130, 131, 132, 133, 134, 135, 136, 137] (by decide +kernel) (by decide +kernel)
set_option maxRecDepth 20000 in
theorem gX4_refusalOf_X4_refusalOfHold : GoodIn wsX4_refusalOf (wsV RX4 110 RX4 yX4_refusalOfHold wsX4_refusalOfHold) := goodIn_app (goodIn_of _ (by decide +kernel)) ggX4_refusalOf_X4_refusalOfHold
set_option maxRecDepth 20000 in
theorem ggX4_refusalOf_X0_isHeld : GoodIn wsX4_refusalOf wsX0_isHeld := goodIn_r _ [52, 53, 20, 21, 22, 134, 135, 136, 137] (by decide +kernel) (by decide +kernel)
set_option maxRecDepth 20000 in
theorem gX4_refusalOf_X0_isHeld : GoodIn wsX4_refusalOf (wsV RX4 113 RX0 yX0_isHeld wsX0_isHeld) := goodIn_app (goodIn_of _ (by decide +kernel)) ggX4_refusalOf_X0_isHeld
set_option maxRecDepth 20000 in
theorem ggX4_refusalOf_X4_refusalOfTaking : GoodIn wsX4_refusalOf wsX4_refusalOfTaking := goodIn_ca (goodIn_r _ [57, 1, 58, 48, 16, 17, 13, 18, 19, 20, 21, 22, 23, 24, 25, 8, 26, 4, 27, 33, 34, 35, 36, 37, 38, 39, 40, 41, 42, 43, 120, 121, 122, 123, 124, 125, 126, 127, 128, 129, 130, 131, 132, 133, 134, 135, 136, 137] (by decide +kernel) (by decide +kernel)) (goodIn_sub (fun _ h => List.mem_cons_of_mem _ (List.mem_append_left _ (List.mem_append_right _ h))) (by decide +kernel))
set_option maxRecDepth 20000 in
theorem gX4_refusalOf_X4_refusalOfTaking : GoodIn wsX4_refusalOf (wsV RX4 117 RX4 yX4_refusalOfTaking wsX4_refusalOfTaking) := goodIn_app (goodIn_of _ (by decide +kernel)) ggX4_refusalOf_X4_refusalOfTaking
set_option maxRecDepth 20000 in
theorem ggX4_refusalOf_X4_refusalOfPickUp : GoodIn wsX4_refusalOf wsX4_refusalOfPickUp := goodIn_ca (goodIn_r _ [62, 1, 58, 2, 63, 48, 16, 17, 13, 18, 19, 20, 21, 22, 23, 24, 25, 8, 26, 4, 27, 120, 121, 122, 123, 124, 125, 126, 127, 128, 129, 130, 131, 132, 133, 134, 135, 136, 137] (by decide +kernel) (by decide +kernel)) (goodIn_sub (fun _ h => List.mem_cons_of_mem _ (List.mem_append_left _ (List.mem_append_right _ h))) (by decide +kernel))
set_option maxRecDepth 20000 in
theorem gX4_refusalOf_X4_refusalOfPickUp : GoodIn wsX4_refusalOf (wsV RX4 120 RX4 yX4_refusalOfPickUp wsX4_refusalOfPickUp) := goodIn_app (goodIn_of _ (by decide +kernel)) ggX4_refusalOf_X4_refusalOfPickUp
set_option maxRecDepth 20000 in
theorem ggX4_refusalOf_X4_refusalOfTransfer : GoodIn wsX4_refusalOf wsX4_refusalOfTransfer := goodIn_ca (goodIn_r _ [67, 1, 58, 54, 55, 56, 8, 57, 48, 16, 17, 13, 18, 19, 20, 21, 22, 23, 24, 25, 26, 4, 27, 33, 34, 35, 36, 37, 38, 39, 40, 41, 42, 43, 68, 69, 120, 121, 122, 123, 124, 125, 126, 127, 128, 129, 130, 131, 132, 133, 134, 135, 136, 137] (by decide +kernel) (by decide +kernel)) (goodIn_sub (fun _ h => List.mem_cons_of_mem _ (List.mem_append_left _ (List.mem_append_right _ h))) (by decide +kernel))
set_option maxRecDepth 20000 in
theorem gX4_refusalOf_X4_refusalOfTransfer : GoodIn wsX4_refusalOf (wsV RX4 123 RX4 yX4_refusalOfTransfer wsX4_refusalOfTransfer) := goodIn_app (goodIn_of _ (by decide +kernel)) ggX4_refusalOf_X4_refusalOfTransfer
set_option maxRecDepth 20000 in
theorem ggX4_refusalOf_X4_coursesAhead : GoodIn wsX4_refusalOf wsX4_coursesAhead := goodIn_ca (goodIn_ca (goodIn_r _ [73, 74, 1, 2, 63, 75, 76, 77, 78, 79, 80, 13, 81, 32, 82, 83, 84, 85, 86, 19, 53, 87, 88, 89, 8, 90, 3, 91, 92, 93, 94, 95, 96, 97, 98, 99, 20, 21, 22, 100, 101, 102, 103, 23, 24, 25, 26, 4, 27, 104, 105, 106, 107, 108, 109, 110, 111, 112, 113, 114, 115, 116, 117, 118, 119, 120, 121, 122, 123, 124, 125, 126, 127, 128, 129, 130, 131, 132, 133, 138, 139, 140, 141, 142, 134, 135, 136, 137] (by decide +kernel) (by decide +kernel)) (goodIn_sub (fun _ h => List.mem_cons_of_mem _ (List.mem_append_left _ (List.mem_append_right _ h))) (by decide +kernel))) (goodIn_sub (fun _ h => List.mem_cons_of_mem _ (List.mem_append_right _ h)) (by decide +kernel))
set_option maxRecDepth 20000 in
theorem gX4_refusalOf_X4_coursesAhead : GoodIn wsX4_refusalOf (wsV RX4 126 RX4 yX4_coursesAhead wsX4_coursesAhead) := goodIn_app (goodIn_of _ (by decide +kernel)) ggX4_refusalOf_X4_coursesAhead
set_option maxRecDepth 20000 in
theorem ggX4_refusalOfCastOn_X0_firstInWork : GoodIn wsX4_refusalOfCastOn wsX0_firstInWork := goodIn_r _ [6, 7, 8, 9, 5, 10, 11, 12, 13, 14, 36, 37, 38, 39] (by decide +kernel) (by decide +kernel)
set_option maxRecDepth 20000 in
theorem gX4_refusalOfCastOn_X0_firstInWork : GoodIn wsX4_refusalOfCastOn (wsV RX4 129 RX0 yX0_firstInWork wsX0_firstInWork) := goodIn_app (goodIn_of _ (by decide +kernel)) ggX4_refusalOfCastOn_X0_firstInWork
set_option maxRecDepth 20000 in
theorem ggX4_refusalOfCastOn_X4_refuse : GoodIn wsX4_refusalOfCastOn wsX4_refuse := goodIn_r _ [19, 20, 21, 22, 23, 24, 25, 26, 27, 28, 29, 30, 31, 32, 33, 34, 35] (by decide +kernel) (by decide +kernel)
set_option maxRecDepth 20000 in
theorem gX4_refusalOfCastOn_X4_refuse : GoodIn wsX4_refusalOfCastOn (wsV RX4 96 RX4 yX4_refuse wsX4_refuse) := goodIn_app (goodIn_of _ (by decide +kernel)) ggX4_refusalOfCastOn_X4_refuse
set_option maxRecDepth 20000 in
theorem ggX4_refusalOfHold_X0_works : GoodIn wsX4_refusalOfHold wsX0_works := goodIn_r _ [6, 7, 8, 9, 10, 37, 38, 39, 40] (by decide +kernel) (by decide +kernel)
set_option maxRecDepth 20000 in
theorem gX4_refusalOfHold_X0_works : GoodIn wsX4_refusalOfHold (wsV RX4 132 RX0 yX0_works wsX0_works) := goodIn_app (goodIn_of _ (by decide +kernel)) ggX4_refusalOfHold_X0_works
set_option maxRecDepth 20000 in
theorem ggX4_refusalOfHold_X4_refuse : GoodIn wsX4_refusalOfHold wsX4_refuse := goodIn_r _ [15, 16, 17, 23, 24, 25, 26, 27, 28, 29, 30, 31, 32, 33, 34, 35, 36] (by decide +kernel) (by decide +kernel)
set_option maxRecDepth 20000 in
theorem gX4_refusalOfHold_X4_refuse : GoodIn wsX4_refusalOfHold (wsV RX4 96 RX4 yX4_refuse wsX4_refuse) := goodIn_app (goodIn_of _ (by decide +kernel)) ggX4_refusalOfHold_X4_refuse
set_option maxRecDepth 20000 in
theorem ggX4_refusalOfHold_X0_isHeld : GoodIn wsX4_refusalOfHold wsX0_isHeld := goodIn_r _ [21, 22, 8, 9, 10, 37, 38, 39, 40] (by decide +kernel) (by decide +kernel)
set_option maxRecDepth 20000 in
theorem gX4_refusalOfHold_X0_isHeld : GoodIn wsX4_refusalOfHold (wsV RX4 113 RX0 yX0_isHeld wsX0_isHeld) := goodIn_app (goodIn_of _ (by decide +kernel)) ggX4_refusalOfHold_X0_isHeld
set_option maxRecDepth 20000 in
theorem ggX4_refusalOfTaking_X0_works : GoodIn wsX4_refusalOfTaking wsX0_works := goodIn_r _ [7, 8, 9, 10, 11, 44, 45, 46, 47] (by decide +kernel) (by decide +kernel)
set_option maxRecDepth 20000 in
theorem gX4_refusalOfTaking_X0_works : GoodIn wsX4_refusalOfTaking (wsV RX4 132 RX0 yX0_works wsX0_works) := goodIn_app (goodIn_of _ (by decide +kernel)) ggX4_refusalOfTaking_X0_works
set_option maxRecDepth 20000 in
theorem ggX4_refusalOfTaking_X4_refuse : GoodIn wsX4_refusalOfTaking wsX4_refuse := goodIn_r _ [16, 17, 18, 30, 31, 32, 33, 34, 35, 36, 37, 38, 39, 40, 41, 42, 43] (by decide +kernel) (by decide +kernel)
set_option maxRecDepth 20000 in
theorem gX4_refusalOfTaking_X4_refuse : GoodIn wsX4_refusalOfTaking (wsV RX4 96 RX4 yX4_refuse wsX4_refuse) := goodIn_app (goodIn_of _ (by decide +kernel)) ggX4_refusalOfTaking_X4_refuse
set_option maxRecDepth 20000 in
theorem ggX4_refusalOfTaking_X0_countInWork : GoodIn wsX4_refusalOfTaking wsX0_countInWork := goodIn_r _ [22, 8, 23, 24, 25, 26, 27, 28, 29, 44, 45, 46, 47] (by decide +kernel) (by decide +kernel)
set_option maxRecDepth 20000 in
theorem gX4_refusalOfTaking_X0_countInWork : GoodIn wsX4_refusalOfTaking (wsV RX4 107 RX0 yX0_countInWork wsX0_countInWork) := goodIn_app (goodIn_of _ (by decide +kernel)) ggX4_refusalOfTaking_X0_countInWork
set_option maxRecDepth 20000 in
theorem ggX4_refusalOfPickUp_X0_works : GoodIn wsX4_refusalOfPickUp wsX0_works := goodIn_r _ [9, 10, 11, 12, 13, 35, 36, 37, 38] (by decide +kernel) (by decide +kernel)
set_option maxRecDepth 20000 in
theorem gX4_refusalOfPickUp_X0_works : GoodIn wsX4_refusalOfPickUp (wsV RX4 132 RX0 yX0_works wsX0_works) := goodIn_app (goodIn_of _ (by decide +kernel)) ggX4_refusalOfPickUp_X0_works
set_option maxRecDepth 20000 in
theorem ggX4_refusalOfPickUp_X4_refuse : GoodIn wsX4_refusalOfPickUp wsX4_refuse := goodIn_r _ [18, 19, 20, 21, 22, 23, 24, 25, 26, 27, 28, 29, 30, 31, 32, 33, 34] (by decide +kernel) (by decide +kernel)
set_option maxRecDepth 20000 in
theorem gX4_refusalOfPickUp_X4_refuse : GoodIn wsX4_refusalOfPickUp (wsV RX4 96 RX4 yX4_refuse wsX4_refuse) := goodIn_app (goodIn_of _ (by decide +kernel)) ggX4_refusalOfPickUp_X4_refuse
set_option maxRecDepth 20000 in
theorem ggX4_refusalOfTransfer_X4_refusalOfTaking : GoodIn wsX4_refusalOfTransfer wsX4_refusalOfTaking := goodIn_ca (goodIn_r _ [7, 1, 2, 8, 9, 10, 11, 12, 13, 14, 15, 16, 17, 18, 19, 6, 20, 21, 22, 23, 24, 25, 26, 27, 28, 29, 30, 31, 32, 33, 36, 37, 38, 39, 40, 41, 42, 43, 44, 45, 46, 47, 48, 49, 50, 51, 52, 53] (by decide +kernel) (by decide +kernel)) (goodIn_sub (fun _ h => List.mem_cons_of_mem _ (List.mem_append_right _ h)) (by decide +kernel))
set_option maxRecDepth 20000 in
theorem gX4_refusalOfTransfer_X4_refusalOfTaking : GoodIn wsX4_refusalOfTransfer (wsV RX4 117 RX4 yX4_refusalOfTaking wsX4_refusalOfTaking) := goodIn_app (goodIn_of _ (by decide +kernel)) ggX4_refusalOfTransfer_X4_refusalOfTaking
set_option maxRecDepth 20000 in
theorem ggX4_refusalOfTransfer_X5_isNeedle : GoodIn wsX4_refusalOfTransfer wsX5_isNeedle := goodIn_r _ [35] (by decide +kernel) (by decide +kernel)
set_option maxRecDepth 20000 in
theorem gX4_refusalOfTransfer_X5_isNeedle_n138 : GoodIn wsX4_refusalOfTransfer (wsX5_isNeedle) := ggX4_refusalOfTransfer_X5_isNeedle
set_option maxRecDepth 20000 in
theorem ggX4_refusalOfTransfer_X4_refuse : GoodIn wsX4_refusalOfTransfer wsX4_refuse := goodIn_r _ [20, 21, 22, 36, 37, 38, 39, 40, 41, 42, 43, 44, 45, 46, 47, 48, 49] (by decide +kernel) (by decide +kernel)
set_option maxRecDepth 20000 in
theorem gX4_refusalOfTransfer_X4_refuse : GoodIn wsX4_refusalOfTransfer (wsV RX4 96 RX4 yX4_refuse wsX4_refuse) := goodIn_app (goodIn_of _ (by decide +kernel)) ggX4_refusalOfTransfer_X4_refuse
set_option maxRecDepth 20000 in
theorem ggX4_refusalOfTransfer_X0_works : GoodIn wsX4_refusalOfTransfer wsX0_works := goodIn_r _ [12, 13, 14, 15, 16, 50, 51, 52, 53] (by decide +kernel) (by decide +kernel)
set_option maxRecDepth 20000 in
theorem gX4_refusalOfTransfer_X0_works : GoodIn wsX4_refusalOfTransfer (wsV RX4 132 RX0 yX0_works wsX0_works) := goodIn_app (goodIn_of _ (by decide +kernel)) ggX4_refusalOfTransfer_X0_works
set_option maxRecDepth 20000 in
theorem ggX4_perform_X0_putInWork : GoodIn wsX4_perform wsX0_putInWork := goodIn_ca (goodIn_r _ [6, 7, 8, 9, 10, 5, 11, 12, 13, 14, 15, 16, 17, 18, 19, 20, 21, 22, 23, 24, 163, 164, 165, 166] (by decide +kernel) (by decide +kernel)) (goodIn_sub (fun _ h => List.mem_cons_of_mem _ (List.mem_append_left _ (List.mem_append_right _ h))) (by decide +kernel))
set_option maxRecDepth 20000 in
theorem gX4_perform_X0_putInWork : GoodIn wsX4_perform (wsV RX4 141 RX0 yX0_putInWork wsX0_putInWork) := goodIn_app (goodIn_of _ (by decide +kernel)) ggX4_perform_X0_putInWork
set_option maxRecDepth 20000 in
theorem ggX4_perform_X4_finishShawl : GoodIn wsX4_perform wsX4_finishShawl := goodIn_ca (goodIn_r _ [29, 30, 31, 32, 1, 33, 34, 35, 5, 36, 37, 38, 39, 40, 7, 41, 42, 43, 44, 45, 12, 13, 149, 150, 151, 152, 153, 154, 155, 156, 157, 158, 159, 160, 161, 162, 167, 168, 169, 170, 171, 163, 164, 165, 166] (by decide +kernel) (by decide +kernel)) (goodIn_sub (fun _ h => List.mem_cons_of_mem _ (List.mem_append_left _ (List.mem_append_right _ h))) (by decide +kernel))
set_option maxRecDepth 20000 in
theorem gX4_perform_X4_finishShawl : GoodIn wsX4_perform (wsV RX4 144 RX4 yX4_finishShawl wsX4_finishShawl) := goodIn_app (goodIn_of _ (by decide +kernel)) ggX4_perform_X4_finishShawl
set_option maxRecDepth 20000 in
theorem ggX4_perform_X0_putOnHold : GoodIn wsX4_perform wsX0_putOnHold := goodIn_r _ [49, 41, 50, 51, 52, 5, 53, 18, 19, 20, 21, 22, 23, 24, 163, 164, 165, 166] (by decide +kernel) (by decide +kernel)
set_option maxRecDepth 20000 in
theorem gX4_perform_X0_putOnHold : GoodIn wsX4_perform (wsV RX4 147 RX0 yX0_putOnHold wsX0_putOnHold) := goodIn_app (goodIn_of _ (by decide +kernel)) ggX4_perform_X0_putOnHold
set_option maxRecDepth 20000 in
theorem ggX4_perform_X0_takeOffHold : GoodIn wsX4_perform wsX0_takeOffHold := goodIn_r _ [57, 41, 50, 51, 52, 5, 53, 18, 19, 20, 21, 22, 23, 24, 163, 164, 165, 166] (by decide +kernel) (by decide +kernel)
set_option maxRecDepth 20000 in
theorem gX4_perform_X0_takeOffHold : GoodIn wsX4_perform (wsV RX4 150 RX0 yX0_takeOffHold wsX0_takeOffHold) := goodIn_app (goodIn_of _ (by decide +kernel)) ggX4_perform_X0_takeOffHold
set_option maxRecDepth 20000 in
theorem ggX4_perform_X4_dropFrom : GoodIn wsX4_perform wsX4_dropFrom := goodIn_ca (goodIn_r _ [61, 1, 62, 63, 43, 44, 5, 45, 12, 13, 149, 150, 151, 152, 153, 154, 155, 156, 157, 158, 159, 160, 161, 162, 163, 164, 165, 166] (by decide +kernel) (by decide +kernel)) (goodIn_sub (fun _ h => List.mem_cons_of_mem _ (List.mem_append_left _ (List.mem_append_right _ h))) (by decide +kernel))
set_option maxRecDepth 20000 in
theorem gX4_perform_X4_dropFrom : GoodIn wsX4_perform (wsV RX4 153 RX4 yX4_dropFrom wsX4_dropFrom) := goodIn_app (goodIn_of _ (by decide +kernel)) ggX4_perform_X4_dropFrom
set_option maxRecDepth 20000 in
theorem ggX4_perform_X4_pickUpOn : GoodIn wsX4_perform wsX4_pickUpOn := goodIn_ca (goodIn_r _ [67, 1, 68, 69, 70, 9, 10, 5, 11, 12, 13, 71, 72, 73, 28, 74, 75, 149, 150, 151, 152, 153, 154, 155, 156, 157, 158, 159, 160, 161, 162, 163, 164, 165, 166] (by decide +kernel) (by decide +kernel)) (goodIn_sub (fun _ h => List.mem_cons_of_mem _ (List.mem_append_left _ (List.mem_append_right _ h))) (by decide +kernel))
set_option maxRecDepth 20000 in
theorem gX4_perform_X4_pickUpOn : GoodIn wsX4_perform (wsV RX4 156 RX4 yX4_pickUpOn wsX4_pickUpOn) := goodIn_app (goodIn_of _ (by decide +kernel)) ggX4_perform_X4_pickUpOn
set_option maxRecDepth 20000 in
theorem ggX4_perform_X0_moveLoops : GoodIn wsX4_perform wsX0_moveLoops := goodIn_ca (goodIn_r _ [79, 13, 80, 81, 82, 83, 12, 37, 38, 39, 5, 40, 7, 41, 42, 43, 44, 45, 163, 164, 165, 166] (by decide +kernel) (by decide +kernel)) (goodIn_sub (fun _ h => List.mem_cons_of_mem _ (List.mem_append_left _ (List.mem_append_right _ h))) (by decide +kernel))
set_option maxRecDepth 20000 in
theorem gX4_perform_X0_moveLoops : GoodIn wsX4_perform (wsV RX4 159 RX0 yX0_moveLoops wsX0_moveLoops) := goodIn_app (goodIn_of _ (by decide +kernel)) ggX4_perform_X0_moveLoops
set_option maxRecDepth 20000 in
theorem ggX4_perform_X4_fill : GoodIn wsX4_perform wsX4_fill := goodIn_ca (goodIn_r _ [87, 68, 88, 149, 150, 151, 152, 153, 154, 155, 156, 157, 158, 159, 160, 161, 162] (by decide +kernel) (by decide +kernel)) (goodIn_sub (fun _ h => List.mem_cons_of_mem _ (List.mem_append_left _ (List.mem_append_right _ h))) (by decide +kernel))
set_option maxRecDepth 20000 in
theorem gX4_perform_X4_fill : GoodIn wsX4_perform (wsV RX4 162 RX4 yX4_fill wsX4_fill) := goodIn_app (goodIn_of _ (by decide +kernel)) ggX4_perform_X4_fill
set_option maxRecDepth 20000 in
theorem ggX4_perform_X4_activate : GoodIn wsX4_perform wsX4_activate := goodIn_r _ [92, 69, 149, 150, 151, 152, 153, 154, 155, 156, 157, 158, 159, 160, 161, 162] (by decide +kernel) (by decide +kernel)
set_option maxRecDepth 20000 in
theorem gX4_perform_X4_activate : GoodIn wsX4_perform (wsV RX4 165 RX4 yX4_activate wsX4_activate) := goodIn_app (goodIn_of _ (by decide +kernel)) ggX4_perform_X4_activate
set_option maxRecDepth 20000 in
theorem ggX4_perform_X4_tighten : GoodIn wsX4_perform wsX4_tighten := goodIn_r _ [96, 97, 149, 150, 151, 152, 153, 154, 155, 156, 157, 158, 159, 160, 161, 162] (by decide +kernel) (by decide +kernel)
set_option maxRecDepth 20000 in
theorem gX4_perform_X4_tighten : GoodIn wsX4_perform (wsV RX4 168 RX4 yX4_tighten wsX4_tighten) := goodIn_app (goodIn_of _ (by decide +kernel)) ggX4_perform_X4_tighten
set_option maxRecDepth 20000 in
theorem ggX4_perform_X4_addRow : GoodIn wsX4_perform wsX4_addRow := goodIn_ca (goodIn_r _ [101, 102, 103, 149, 150, 151, 152, 153, 154, 155, 156, 157, 158, 159, 160, 161, 162] (by decide +kernel) (by decide +kernel)) (goodIn_sub (fun _ h => List.mem_cons_of_mem _ (List.mem_append_left _ (List.mem_append_right _ h))) (by decide +kernel))
set_option maxRecDepth 20000 in
theorem gX4_perform_X4_addRow : GoodIn wsX4_perform (wsV RX4 171 RX4 yX4_addRow wsX4_addRow) := goodIn_app (goodIn_of _ (by decide +kernel)) ggX4_perform_X4_addRow
set_option maxRecDepth 20000 in
theorem ggX4_perform_X4_removeRows : GoodIn wsX4_perform wsX4_removeRows := goodIn_r _ [107, 102, 149, 150, 151, 152, 153, 154, 155, 156, 157, 158, 159, 160, 161, 162] (by decide +kernel) (by decide +kernel)
set_option maxRecDepth 20000 in
theorem gX4_perform_X4_removeRows : GoodIn wsX4_perform (wsV RX4 174 RX4 yX4_removeRows wsX4_removeRows) := goodIn_app (goodIn_of _ (by decide +kernel)) ggX4_perform_X4_removeRows
set_option maxRecDepth 20000 in
theorem ggX4_perform_X4_knitCourses : GoodIn wsX4_perform wsX4_knitCourses := goodIn_ca (goodIn_ca (goodIn_r _ [111, 1, 97, 62, 31, 69, 112, 113, 114, 28, 115, 32, 116, 117, 118, 119, 102, 103, 120, 121, 122, 5, 123, 124, 125, 126, 127, 12, 7, 41, 128, 129, 130, 131, 132, 133, 134, 8, 9, 10, 11, 13, 135, 136, 137, 138, 42, 43, 44, 45, 71, 72, 73, 74, 68, 75, 139, 140, 141, 142, 143, 144, 145, 146, 147, 148, 149, 150, 151, 152, 153, 154, 155, 156, 157, 158, 159, 160, 161, 162, 167, 168, 169, 170, 171, 163, 164, 165, 166] (by decide +kernel) (by decide +kernel)) (goodIn_sub (fun _ h => List.mem_cons_of_mem _ (List.mem_append_right _ h)) (by decide +kernel))) (goodIn_sub (fun _ h => List.mem_cons_of_mem _ (List.mem_append_left _ (List.mem_append_right _ h))) (by decide +kernel))
set_option maxRecDepth 20000 in
theorem gX4_perform_X4_knitCourses : GoodIn wsX4_perform (wsV RX4 177 RX4 yX4_knitCourses wsX4_knitCourses) := goodIn_app (goodIn_of _ (by decide +kernel)) ggX4_perform_X4_knitCourses
set_option maxRecDepth 20000 in
theorem ggX4_finishShawl_X0_takeAllOutOfWork : GoodIn wsX4_finishShawl wsX0_takeAllOutOfWork := goodIn_ca (goodIn_r _ [9, 10, 11, 12, 8, 13, 14, 15, 16, 17, 18, 19, 20, 21, 41, 42, 43, 44] (by decide +kernel) (by decide +kernel)) (goodIn_sub (fun _ h => List.mem_cons_of_mem _ (List.mem_append_right _ h)) (by decide +kernel))
set_option maxRecDepth 20000 in
theorem gX4_finishShawl_X0_takeAllOutOfWork : GoodIn wsX4_finishShawl (wsV RX4 180 RX0 yX0_takeAllOutOfWork wsX0_takeAllOutOfWork) := goodIn_app (goodIn_of _ (by decide +kernel)) ggX4_finishShawl_X0_takeAllOutOfWork
set_option maxRecDepth 20000 in
theorem ggX4_dropFrom_X0_takeLoops : GoodIn wsX4_dropFrom wsX0_takeLoops := goodIn_ca (goodIn_r _ [7, 8, 9, 24, 25, 26, 27] (by decide +kernel) (by decide +kernel)) (goodIn_sub (fun _ h => List.mem_cons_of_mem _ (List.mem_append_right _ h)) (by decide +kernel))
set_option maxRecDepth 20000 in
theorem gX4_dropFrom_X0_takeLoops : GoodIn wsX4_dropFrom (wsV RX4 183 RX0 yX0_takeLoops wsX0_takeLoops) := goodIn_app (goodIn_of _ (by decide +kernel)) ggX4_dropFrom_X0_takeLoops
set_option maxRecDepth 20000 in
theorem ggX4_pickUpOn_X0_putOneLoop : GoodIn wsX4_pickUpOn wsX0_putOneLoop := goodIn_ca (goodIn_r _ [8, 9, 10, 31, 32, 33, 34] (by decide +kernel) (by decide +kernel)) (goodIn_sub (fun _ h => List.mem_cons_of_mem _ (List.mem_append_right _ h)) (by decide +kernel))
set_option maxRecDepth 20000 in
theorem gX4_pickUpOn_X0_putOneLoop : GoodIn wsX4_pickUpOn (wsV RX4 186 RX0 yX0_putOneLoop wsX0_putOneLoop) := goodIn_app (goodIn_of _ (by decide +kernel)) ggX4_pickUpOn_X0_putOneLoop
set_option maxRecDepth 20000 in
theorem ggX4_pickUpOn_X4_useYarn : GoodIn wsX4_pickUpOn wsX4_useYarn := goodIn_ca (goodIn_r _ [15, 2, 3, 16, 17, 18, 19, 20, 21, 22, 23, 24, 25, 26, 27, 28, 29, 30] (by decide +kernel) (by decide +kernel)) (goodIn_sub (fun _ h => List.mem_cons_of_mem _ (List.mem_append_right _ h)) (by decide +kernel))
set_option maxRecDepth 20000 in
theorem gX4_pickUpOn_X4_useYarn : GoodIn wsX4_pickUpOn (wsV RX4 190 RX4 yX4_useYarn wsX4_useYarn) := goodIn_app (goodIn_of _ (by decide +kernel)) ggX4_pickUpOn_X4_useYarn
set_option maxRecDepth 20000 in
theorem ggX4_knitCourses_X4_nextRow : GoodIn wsX4_knitCourses wsX4_nextRow := goodIn_ca (goodIn_ca (goodIn_r _ [10, 4, 11, 12, 13, 14, 9, 15, 16, 17, 66, 67, 68, 69, 70, 71, 72, 73, 74, 75, 76, 77, 78, 79, 80, 81, 82, 83, 84] (by decide +kernel) (by decide +kernel)) (goodIn_sub (fun _ h => List.mem_cons_of_mem _ (List.mem_append_left _ (List.mem_append_right _ h))) (by decide +kernel))) (goodIn_sub (fun _ h => List.mem_cons_of_mem _ (List.mem_append_right _ h)) (by decide +kernel))
set_option maxRecDepth 20000 in
theorem gX4_knitCourses_X4_nextRow : GoodIn wsX4_knitCourses (wsV RX4 193 RX4 yX4_nextRow wsX4_nextRow) := goodIn_app (goodIn_of _ (by decide +kernel)) ggX4_knitCourses_X4_nextRow
set_option maxRecDepth 20000 in
theorem ggX4_knitCourses_X0_widthByNeedles : GoodIn wsX4_knitCourses wsX0_widthByNeedles := goodIn_ca (goodIn_r _ [22, 23, 24, 25, 21, 26, 27, 28, 29, 30, 31, 32, 85, 86, 87, 88] (by decide +kernel) (by decide +kernel)) (goodIn_sub (fun _ h => List.mem_cons_of_mem _ (List.mem_append_right _ h)) (by decide +kernel))
set_option maxRecDepth 20000 in
theorem gX4_knitCourses_X0_widthByNeedles : GoodIn wsX4_knitCourses (wsV RX4 86 RX0 yX0_widthByNeedles wsX0_widthByNeedles) := goodIn_app (goodIn_of _ (by decide +kernel)) ggX4_knitCourses_X0_widthByNeedles
set_option maxRecDepth 20000 in
theorem ggX4_knitCourses_X0_passCourse : GoodIn wsX4_knitCourses wsX0_passCourse := goodIn_ca (goodIn_r _ [36, 27, 23, 24, 25, 21, 26, 28, 29, 30, 31, 32, 37, 38, 39, 40, 41, 42, 43, 44, 45, 46, 47, 48, 49, 85, 86, 87, 88] (by decide +kernel) (by decide +kernel)) (goodIn_sub (fun _ h => List.mem_cons_of_mem _ (List.mem_append_right _ h)) (by decide +kernel))
set_option maxRecDepth 20000 in
theorem gX4_knitCourses_X0_passCourse : GoodIn wsX4_knitCourses (wsV RX4 89 RX0 yX0_passCourse wsX0_passCourse) := goodIn_app (goodIn_of _ (by decide +kernel)) ggX4_knitCourses_X0_passCourse
set_option maxRecDepth 20000 in
theorem ggX4_knitCourses_X4_useYarn : GoodIn wsX4_knitCourses wsX4_useYarn := goodIn_ca (goodIn_r _ [53, 54, 5, 55, 66, 67, 68, 69, 70, 71, 72, 73, 74, 75, 76, 77, 78, 79] (by decide +kernel) (by decide +kernel)) (goodIn_sub (fun _ h => List.mem_cons_of_mem _ (List.mem_append_right _ h)) (by decide +kernel))
set_option maxRecDepth 20000 in
theorem gX4_knitCourses_X4_useYarn : GoodIn wsX4_knitCourses (wsV RX4 190 RX4 yX4_useYarn wsX4_useYarn) := goodIn_app (goodIn_of _ (by decide +kernel)) ggX4_knitCourses_X4_useYarn
set_option maxRecDepth 20000 in
theorem ggX4_knitCourses_X2_add : GoodIn wsX4_knitCourses wsX2_add := goodIn_ca (goodIn_r _ [60, 61, 62, 63, 64, 65, 80, 81, 82, 83, 84] (by decide +kernel) (by decide +kernel)) (goodIn_sub (fun _ h => List.mem_cons_of_mem _ (List.mem_append_right _ h)) (by decide +kernel))
set_option maxRecDepth 20000 in
theorem gX4_knitCourses_X2_add : GoodIn wsX4_knitCourses (wsV RX4 196 RX2 yX2_add wsX2_add) := goodIn_app (goodIn_of _ (by decide +kernel)) ggX4_knitCourses_X2_add
set_option maxRecDepth 20000 in
theorem ggJ5_init_d00df_J2_newBytesFor_77867 : GoodIn wsJ5_init_d00df wsJ2_newBytesFor_77867 := goodIn_r _ [11, 5, 12, 13, 10, 14, 15] (by decide +kernel) (by decide +kernel)
set_option maxRecDepth 20000 in
theorem gJ5_init_d00df_J2_newBytesFor_77867 : GoodIn wsJ5_init_d00df (va_wsS RJ5 26 yJ2_newBytesFor_77867 wsJ2_newBytesFor_77867) := goodIn_app (goodIn_of _ (by decide +kernel)) ggJ5_init_d00df_J2_newBytesFor_77867
set_option maxRecDepth 20000 in
theorem ggJ5_ensureCapacityInternal_d00df_J5_newCapacity_0f7a4 : GoodIn wsJ5_ensureCapacityInternal_d00df wsJ5_newCapacity_0f7a4 := goodIn_r _ [8, 1, 2, 9, 10, 11, 12, 13, 14, 15, 16, 17, 18, 19, 20, 21, 40, 41, 42, 43] (by decide +kernel) (by decide +kernel)
set_option maxRecDepth 20000 in
theorem gJ5_ensureCapacityInternal_d00df_J5_newCapacity_0f7a4_u104J4 : GoodIn wsJ5_ensureCapacityInternal_d00df (va_wsU RJ5 104 RJ4 "java/lang/AbstractStringBuilder" ⟨"java/lang/AbstractStringBuilder", "newCapacity", "(I)I"⟩ yJ5_newCapacity_0f7a4 wsJ5_newCapacity_0f7a4) := goodIn_app (goodIn_of _ (by decide +kernel)) ggJ5_ensureCapacityInternal_d00df_J5_newCapacity_0f7a4
set_option maxRecDepth 20000 in
theorem ggJ5_ensureCapacityInternal_d00df_J7_copyOf_9075b : GoodIn wsJ5_ensureCapacityInternal_d00df wsJ7_copyOf_9075b := goodIn_r _ [25, 26, 27, 28, 29, 30, 31, 32, 33, 34, 16, 35, 36, 37, 38, 39] (by decide +kernel) (by decide +kernel)
set_option maxRecDepth 20000 in
theorem gJ5_ensureCapacityInternal_d00df_J7_copyOf_9075b : GoodIn wsJ5_ensureCapacityInternal_d00df (va_wsS RJ5 108 yJ7_copyOf_9075b wsJ7_copyOf_9075b) := goodIn_app (goodIn_of _ (by decide +kernel)) ggJ5_ensureCapacityInternal_d00df_J7_copyOf_9075b
set_option maxRecDepth 20000 in
theorem ggJ5_newCapacity_0f7a4_J8_newLength_cabcc : GoodIn wsJ5_newCapacity_0f7a4 wsJ8_newLength_cabcc := goodIn_r _ [7, 8, 9, 10, 11, 12, 13, 14, 6, 15] (by decide +kernel) (by decide +kernel)
set_option maxRecDepth 20000 in
theorem gJ5_newCapacity_0f7a4_J8_newLength_cabcc : GoodIn wsJ5_newCapacity_0f7a4 (va_wsS RJ5 114 yJ8_newLength_cabcc wsJ8_newLength_cabcc) := goodIn_app (goodIn_of _ (by decide +kernel)) ggJ5_newCapacity_0f7a4_J8_newLength_cabcc
set_option maxRecDepth 20000 in
theorem ggJ5_inflate_da8c8_J5_isLatin1_aae02 : GoodIn wsJ5_inflate_da8c8 wsJ5_isLatin1_aae02 := goodIn_r _ [9, 10, 3, 48, 49, 50, 51] (by decide +kernel) (by decide +kernel)
set_option maxRecDepth 20000 in
theorem gJ5_inflate_da8c8_J5_isLatin1_aae02_u83J4 : GoodIn wsJ5_inflate_da8c8 (va_wsU RJ5 83 RJ4 "java/lang/AbstractStringBuilder" ⟨"java/lang/AbstractStringBuilder", "isLatin1", "()Z"⟩ yJ5_isLatin1_aae02 wsJ5_isLatin1_aae02) := goodIn_app (goodIn_of _ (by decide +kernel)) ggJ5_inflate_da8c8_J5_isLatin1_aae02
set_option maxRecDepth 20000 in
theorem ggJ5_inflate_da8c8_J2_newBytesFor_77867 : GoodIn wsJ5_inflate_da8c8 wsJ2_newBytesFor_77867 := goodIn_r _ [14, 15, 16, 17, 13, 18, 19] (by decide +kernel) (by decide +kernel)
set_option maxRecDepth 20000 in
theorem gJ5_inflate_da8c8_J2_newBytesFor_77867 : GoodIn wsJ5_inflate_da8c8 (va_wsS RJ5 26 yJ2_newBytesFor_77867 wsJ2_newBytesFor_77867) := goodIn_app (goodIn_of _ (by decide +kernel)) ggJ5_inflate_da8c8_J2_newBytesFor_77867
set_option maxRecDepth 20000 in
theorem ggJ5_inflate_da8c8_J1_inflate_0e8fd : GoodIn wsJ5_inflate_da8c8 wsJ1_inflate_0e8fd := goodIn_r _ [23, 24, 25, 13, 26, 27, 28, 29, 30, 31, 32, 33, 34, 35, 36, 37, 38, 39, 40, 41, 42, 43, 44, 45, 46, 47] (by decide +kernel) (by decide +kernel)
set_option maxRecDepth 20000 in
theorem gJ5_inflate_da8c8_J1_inflate_0e8fd : GoodIn wsJ5_inflate_da8c8 (va_wsS RJ5 125 yJ1_inflate_0e8fd wsJ1_inflate_0e8fd) := goodIn_app (goodIn_of _ (by decide +kernel)) ggJ5_inflate_da8c8_J1_inflate_0e8fd
set_option maxRecDepth 20000 in
theorem ggJ5_setLength_d00df_J5_ensureCapacityInternal_d00df : GoodIn wsJ5_setLength_d00df wsJ5_ensureCapacityInternal_d00df := goodIn_r _ [12, 5, 13, 14, 15, 16, 17, 11, 18, 19, 20, 21, 22, 23, 24, 25, 26, 27, 28, 29, 30, 31, 32, 33, 34, 35, 36, 37, 38, 39, 40, 41, 42, 43, 44, 45, 46, 47, 48, 49, 83, 84, 85, 86] (by decide +kernel) (by decide +kernel)
set_option maxRecDepth 20000 in
theorem gJ5_setLength_d00df_J5_ensureCapacityInternal_d00df_u100J4 : GoodIn wsJ5_setLength_d00df (va_wsU RJ5 100 RJ4 "java/lang/AbstractStringBuilder" ⟨"java/lang/AbstractStringBuilder", "ensureCapacityInternal", "(I)V"⟩ yJ5_ensureCapacityInternal_d00df wsJ5_ensureCapacityInternal_d00df) := goodIn_app (goodIn_of _ (by decide +kernel)) ggJ5_setLength_d00df_J5_ensureCapacityInternal_d00df
set_option maxRecDepth 20000 in
theorem ggJ5_setLength_d00df_J5_isLatin1_aae02 : GoodIn wsJ5_setLength_d00df wsJ5_isLatin1_aae02 := goodIn_r _ [54, 55, 13, 83, 84, 85, 86] (by decide +kernel) (by decide +kernel)
set_option maxRecDepth 20000 in
theorem gJ5_setLength_d00df_J5_isLatin1_aae02_u83J4 : GoodIn wsJ5_setLength_d00df (va_wsU RJ5 83 RJ4 "java/lang/AbstractStringBuilder" ⟨"java/lang/AbstractStringBuilder", "isLatin1", "()Z"⟩ yJ5_isLatin1_aae02 wsJ5_isLatin1_aae02) := goodIn_app (goodIn_of _ (by decide +kernel)) ggJ5_setLength_d00df_J5_isLatin1_aae02
set_option maxRecDepth 20000 in
theorem ggJ5_setLength_d00df_J1_fillNull_b72d1 : GoodIn wsJ5_setLength_d00df wsJ1_fillNull_b72d1 := goodIn_r _ [59, 60, 61, 34, 62, 63, 64, 65, 66, 67, 68, 69, 70, 71, 83, 84, 85, 86, 87, 88, 89, 90, 91, 92] (by decide +kernel) (by decide +kernel)
set_option maxRecDepth 20000 in
theorem gJ5_setLength_d00df_J1_fillNull_b72d1 : GoodIn wsJ5_setLength_d00df (va_wsS RJ5 133 yJ1_fillNull_b72d1 wsJ1_fillNull_b72d1) := goodIn_app (goodIn_of _ (by decide +kernel)) ggJ5_setLength_d00df_J1_fillNull_b72d1
set_option maxRecDepth 20000 in
theorem ggJ5_setLength_d00df_J2_fillNull_b72d1 : GoodIn wsJ5_setLength_d00df wsJ2_fillNull_b72d1 := goodIn_r _ [75, 76, 61, 34, 62, 63, 64, 65, 66, 67, 68, 69, 70, 71, 83, 84, 85, 86, 87, 88, 89, 90, 91, 92] (by decide +kernel) (by decide +kernel)
set_option maxRecDepth 20000 in
theorem gJ5_setLength_d00df_J2_fillNull_b72d1 : GoodIn wsJ5_setLength_d00df (va_wsS RJ5 137 yJ2_fillNull_b72d1 wsJ2_fillNull_b72d1) := goodIn_app (goodIn_of _ (by decide +kernel)) ggJ5_setLength_d00df_J2_fillNull_b72d1
set_option maxRecDepth 20000 in
theorem ggJ5_charAt_5068e_J0_checkIndex_df160 : GoodIn wsJ5_charAt_5068e wsJ0_checkIndex_df160 := goodIn_r _ [11, 12, 13, 14, 15, 16] (by decide +kernel) (by decide +kernel)
set_option maxRecDepth 20000 in
theorem gJ5_charAt_5068e_J0_checkIndex_df160 : GoodIn wsJ5_charAt_5068e (va_wsS RJ5 144 yJ0_checkIndex_df160 wsJ0_checkIndex_df160) := goodIn_app (goodIn_of _ (by decide +kernel)) ggJ5_charAt_5068e_J0_checkIndex_df160
set_option maxRecDepth 20000 in
theorem ggJ5_charAt_5068e_J2_getChar_3b067 : GoodIn wsJ5_charAt_5068e wsJ2_getChar_3b067 := goodIn_r _ [20, 21, 22, 23, 24, 25, 19, 26] (by decide +kernel) (by decide +kernel)
set_option maxRecDepth 20000 in
theorem gJ5_charAt_5068e_J2_getChar_3b067 : GoodIn wsJ5_charAt_5068e (va_wsS RJ5 148 yJ2_getChar_3b067 wsJ2_getChar_3b067) := goodIn_app (goodIn_of _ (by decide +kernel)) ggJ5_charAt_5068e_J2_getChar_3b067
set_option maxRecDepth 20000 in
theorem ggJ5_append_cf1ce_J5_appendNull_278bc : GoodIn wsJ5_append_cf1ce wsJ5_appendNull_278bc := goodIn_r _ [7, 1, 8, 9, 10, 11, 12, 6, 13, 14, 15, 16, 17, 18, 19, 20, 21, 22, 23, 24, 25, 26, 27, 28, 29, 30, 31, 32, 33, 34, 35, 36, 37, 38, 39, 40, 41, 42, 43, 44, 45, 46, 47, 48, 49, 50, 51, 52, 53, 54, 55, 56, 57, 58, 59, 60, 61, 62, 63, 64, 65, 66, 67, 68, 69, 70, 71, 72, 73, 74, 75, 76, 77, 78, 79, 80, 81, 138, 139, 140, 141] (by decide +kernel) (by decide +kernel)
set_option maxRecDepth 20000 in
theorem gJ5_append_cf1ce_J5_appendNull_278bc_u204J4 : GoodIn wsJ5_append_cf1ce (va_wsU RJ5 204 RJ4 "java/lang/AbstractStringBuilder" ⟨"java/lang/AbstractStringBuilder", "appendNull", "()Ljava/lang/AbstractStringBuilder;"⟩ yJ5_appendNull_278bc wsJ5_appendNull_278bc) := goodIn_app (goodIn_of _ (by decide +kernel)) ggJ5_append_cf1ce_J5_appendNull_278bc
set_option maxRecDepth 20000 in
theorem ggJ5_append_cf1ce_J0_length_8abf5 : GoodIn wsJ5_append_cf1ce wsJ0_length_8abf5 := goodIn_r _ [85, 86, 87, 88, 89, 70, 90, 91, 92, 142, 143, 144, 145] (by decide +kernel) (by decide +kernel)
set_option maxRecDepth 20000 in
theorem gJ5_append_cf1ce_J0_length_8abf5 : GoodIn wsJ5_append_cf1ce (wsV RJ5 32 RJ0 yJ0_length_8abf5 wsJ0_length_8abf5) := goodIn_app (goodIn_of _ (by decide +kernel)) ggJ5_append_cf1ce_J0_length_8abf5
set_option maxRecDepth 20000 in
theorem ggJ5_append_cf1ce_J5_ensureCapacityInternal_d00df : GoodIn wsJ5_append_cf1ce wsJ5_ensureCapacityInternal_d00df := goodIn_r _ [13, 8, 14, 15, 16, 17, 18, 6, 19, 20, 21, 22, 23, 24, 25, 26, 27, 28, 29, 30, 31, 32, 33, 34, 35, 36, 37, 38, 39, 40, 41, 42, 43, 44, 45, 46, 47, 48, 49, 50, 138, 139, 140, 141] (by decide +kernel) (by decide +kernel)
set_option maxRecDepth 20000 in
theorem gJ5_append_cf1ce_J5_ensureCapacityInternal_d00df_u100J4 : GoodIn wsJ5_append_cf1ce (va_wsU RJ5 100 RJ4 "java/lang/AbstractStringBuilder" ⟨"java/lang/AbstractStringBuilder", "ensureCapacityInternal", "(I)V"⟩ yJ5_ensureCapacityInternal_d00df wsJ5_ensureCapacityInternal_d00df) := goodIn_app (goodIn_of _ (by decide +kernel)) ggJ5_append_cf1ce_J5_ensureCapacityInternal_d00df
set_option maxRecDepth 20000 in
theorem ggJ5_append_cf1ce_J5_putStringAt_47b60 : GoodIn wsJ5_append_cf1ce wsJ5_putStringAt_47b60 := goodIn_r _ [97, 8, 14, 98, 99, 100, 101, 6, 102, 56, 103, 88, 89, 70, 90, 91, 92, 104, 105, 106, 107, 108, 1, 51, 52, 53, 54, 55, 109, 110, 59, 111, 43, 112, 113, 114, 115, 116, 117, 118, 119, 120, 121, 122, 123, 124, 125, 65, 66, 67, 126, 127, 128, 72, 129, 130, 75, 131, 77, 78, 79, 61, 80, 81, 132, 133, 134, 135, 86, 136, 48, 49, 50, 87, 137, 138, 139, 140, 141, 142, 143, 144, 145] (by decide +kernel) (by decide +kernel)
set_option maxRecDepth 20000 in
theorem gJ5_append_cf1ce_J5_putStringAt_47b60_u208J4 : GoodIn wsJ5_append_cf1ce (va_wsU RJ5 208 RJ4 "java/lang/AbstractStringBuilder" ⟨"java/lang/AbstractStringBuilder", "putStringAt", "(ILjava/lang/String;)V"⟩ yJ5_putStringAt_47b60 wsJ5_putStringAt_47b60) := goodIn_app (goodIn_of _ (by decide +kernel)) ggJ5_append_cf1ce_J5_putStringAt_47b60
set_option maxRecDepth 20000 in
theorem ggJ5_appendNull_278bc_J5_ensureCapacityInternal_d00df : GoodIn wsJ5_appendNull_278bc wsJ5_ensureCapacityInternal_d00df := goodIn_r _ [8, 2, 9, 10, 11, 12, 13, 7, 14, 15, 16, 17, 18, 19, 20, 21, 22, 23, 24, 25, 26, 27, 28, 29, 30, 31, 32, 33, 34, 35, 36, 37, 38, 39, 40, 41, 42, 43, 44, 45, 77, 78, 79, 80] (by decide +kernel) (by decide +kernel)
set_option maxRecDepth 20000 in
theorem gJ5_appendNull_278bc_J5_ensureCapacityInternal_d00df_u100J4 : GoodIn wsJ5_appendNull_278bc (va_wsU RJ5 100 RJ4 "java/lang/AbstractStringBuilder" ⟨"java/lang/AbstractStringBuilder", "ensureCapacityInternal", "(I)V"⟩ yJ5_ensureCapacityInternal_d00df wsJ5_ensureCapacityInternal_d00df) := goodIn_app (goodIn_of _ (by decide +kernel)) ggJ5_appendNull_278bc_J5_ensureCapacityInternal_d00df
set_option maxRecDepth 20000 in
theorem ggJ5_appendNull_278bc_J5_isLatin1_aae02 : GoodIn wsJ5_appendNull_278bc wsJ5_isLatin1_aae02 := goodIn_r _ [50, 51, 9, 77, 78, 79, 80] (by decide +kernel) (by decide +kernel)
set_option maxRecDepth 20000 in
theorem gJ5_appendNull_278bc_J5_isLatin1_aae02_u83J4 : GoodIn wsJ5_appendNull_278bc (va_wsU RJ5 83 RJ4 "java/lang/AbstractStringBuilder" ⟨"java/lang/AbstractStringBuilder", "isLatin1", "()Z"⟩ yJ5_isLatin1_aae02 wsJ5_isLatin1_aae02) := goodIn_app (goodIn_of _ (by decide +kernel)) ggJ5_appendNull_278bc_J5_isLatin1_aae02
set_option maxRecDepth 20000 in
theorem ggJ5_appendNull_278bc_J2_putCharsAt_cd4e5 : GoodIn wsJ5_appendNull_278bc wsJ2_putCharsAt_cd4e5 := goodIn_r _ [55, 56, 57, 58, 54, 59, 60, 61, 62, 63, 64, 65, 66, 67, 68, 69, 70, 71, 72, 73, 74, 75, 76] (by decide +kernel) (by decide +kernel)
set_option maxRecDepth 20000 in
theorem gJ5_appendNull_278bc_J2_putCharsAt_cd4e5 : GoodIn wsJ5_appendNull_278bc (va_wsS RJ5 226 yJ2_putCharsAt_cd4e5 wsJ2_putCharsAt_cd4e5) := goodIn_app (goodIn_of _ (by decide +kernel)) ggJ5_appendNull_278bc_J2_putCharsAt_cd4e5
set_option maxRecDepth 20000 in
theorem ggJ5_append_3fe6f_J5_ensureCapacityInternal_d00df : GoodIn wsJ5_append_3fe6f wsJ5_ensureCapacityInternal_d00df := goodIn_r _ [8, 2, 9, 10, 11, 12, 13, 7, 14, 15, 16, 17, 18, 19, 20, 21, 22, 23, 24, 25, 26, 27, 28, 29, 30, 31, 32, 33, 34, 35, 36, 37, 38, 39, 40, 41, 42, 43, 44, 45, 108, 109, 110, 111] (by decide +kernel) (by decide +kernel)
set_option maxRecDepth 20000 in
theorem gJ5_append_3fe6f_J5_ensureCapacityInternal_d00df_u100J4 : GoodIn wsJ5_append_3fe6f (va_wsU RJ5 100 RJ4 "java/lang/AbstractStringBuilder" ⟨"java/lang/AbstractStringBuilder", "ensureCapacityInternal", "(I)V"⟩ yJ5_ensureCapacityInternal_d00df wsJ5_ensureCapacityInternal_d00df) := goodIn_app (goodIn_of _ (by decide +kernel)) ggJ5_append_3fe6f_J5_ensureCapacityInternal_d00df
set_option maxRecDepth 20000 in
theorem ggJ5_append_3fe6f_J5_isLatin1_aae02 : GoodIn wsJ5_append_3fe6f wsJ5_isLatin1_aae02 := goodIn_r _ [50, 51, 9, 108, 109, 110, 111] (by decide +kernel) (by decide +kernel)
set_option maxRecDepth 20000 in
theorem gJ5_append_3fe6f_J5_isLatin1_aae02_u83J4 : GoodIn wsJ5_append_3fe6f (va_wsU RJ5 83 RJ4 "java/lang/AbstractStringBuilder" ⟨"java/lang/AbstractStringBuilder", "isLatin1", "()Z"⟩ yJ5_isLatin1_aae02 wsJ5_isLatin1_aae02) := goodIn_app (goodIn_of _ (by decide +kernel)) ggJ5_append_3fe6f_J5_isLatin1_aae02
set_option maxRecDepth 20000 in
theorem ggJ5_append_3fe6f_J1_canEncode_fc78d : GoodIn wsJ5_append_3fe6f wsJ1_canEncode_fc78d := goodIn_r _ [55] (by decide +kernel) (by decide +kernel)
set_option maxRecDepth 20000 in
theorem gJ5_append_3fe6f_J1_canEncode_fc78d : GoodIn wsJ5_append_3fe6f (va_wsS RJ5 191 yJ1_canEncode_fc78d wsJ1_canEncode_fc78d) := goodIn_app (goodIn_of _ (by decide +kernel)) ggJ5_append_3fe6f_J1_canEncode_fc78d
set_option maxRecDepth 20000 in
theorem ggJ5_append_3fe6f_J5_inflate_da8c8 : GoodIn wsJ5_append_3fe6f wsJ5_inflate_da8c8 := goodIn_r _ [60, 2, 1, 9, 46, 47, 48, 49, 7, 50, 51, 61, 62, 63, 64, 38, 65, 66, 67, 68, 69, 70, 54, 71, 72, 73, 74, 75, 76, 77, 78, 79, 80, 81, 82, 83, 84, 85, 86, 87, 88, 89, 90, 91, 92, 93, 94, 95, 108, 109, 110, 111] (by decide +kernel) (by decide +kernel)
set_option maxRecDepth 20000 in
theorem gJ5_append_3fe6f_J5_inflate_da8c8_u195J4 : GoodIn wsJ5_append_3fe6f (va_wsU RJ5 195 RJ4 "java/lang/AbstractStringBuilder" ⟨"java/lang/AbstractStringBuilder", "inflate", "()V"⟩ yJ5_inflate_da8c8 wsJ5_inflate_da8c8) := goodIn_app (goodIn_of _ (by decide +kernel)) ggJ5_append_3fe6f_J5_inflate_da8c8
set_option maxRecDepth 20000 in
theorem ggJ5_append_3fe6f_J2_putCharSB_b72d1 : GoodIn wsJ5_append_3fe6f wsJ2_putCharSB_b72d1 := goodIn_r _ [98, 99, 100, 63, 101, 78, 79, 80, 102, 103, 83, 104, 85, 105, 106, 88, 107, 90, 91, 92, 93, 94, 95] (by decide +kernel) (by decide +kernel)
set_option maxRecDepth 20000 in
theorem gJ5_append_3fe6f_J2_putCharSB_b72d1 : GoodIn wsJ5_append_3fe6f (va_wsS RJ5 197 yJ2_putCharSB_b72d1 wsJ2_putCharSB_b72d1) := goodIn_app (goodIn_of _ (by decide +kernel)) ggJ5_append_3fe6f_J2_putCharSB_b72d1
set_option maxRecDepth 20000 in
theorem ggJ5_append_c97b9_J6_stringSize_0f7a4 : GoodIn wsJ5_append_c97b9 wsJ6_stringSize_0f7a4 := goodIn_r _ [6] (by decide +kernel) (by decide +kernel)
set_option maxRecDepth 20000 in
theorem gJ5_append_c97b9_J6_stringSize_0f7a4 : GoodIn wsJ5_append_c97b9 (va_wsS RJ5 245 yJ6_stringSize_0f7a4 wsJ6_stringSize_0f7a4) := goodIn_app (goodIn_of _ (by decide +kernel)) ggJ5_append_c97b9_J6_stringSize_0f7a4
set_option maxRecDepth 20000 in
theorem ggJ5_append_c97b9_J5_ensureCapacityInternal_d00df : GoodIn wsJ5_append_c97b9 wsJ5_ensureCapacityInternal_d00df := goodIn_r _ [12, 2, 13, 14, 15, 16, 17, 11, 18, 19, 20, 21, 22, 23, 24, 25, 26, 27, 28, 29, 30, 31, 32, 33, 34, 35, 36, 37, 38, 39, 40, 41, 42, 43, 44, 45, 46, 47, 48, 49, 91, 92, 93, 94] (by decide +kernel) (by decide +kernel)
set_option maxRecDepth 20000 in
theorem gJ5_append_c97b9_J5_ensureCapacityInternal_d00df_u100J4 : GoodIn wsJ5_append_c97b9 (va_wsU RJ5 100 RJ4 "java/lang/AbstractStringBuilder" ⟨"java/lang/AbstractStringBuilder", "ensureCapacityInternal", "(I)V"⟩ yJ5_ensureCapacityInternal_d00df wsJ5_ensureCapacityInternal_d00df) := goodIn_app (goodIn_of _ (by decide +kernel)) ggJ5_append_c97b9_J5_ensureCapacityInternal_d00df
set_option maxRecDepth 20000 in
theorem ggJ5_append_c97b9_J5_isLatin1_aae02 : GoodIn wsJ5_append_c97b9 wsJ5_isLatin1_aae02 := goodIn_r _ [54, 55, 13, 91, 92, 93, 94] (by decide +kernel) (by decide +kernel)
set_option maxRecDepth 20000 in
theorem gJ5_append_c97b9_J5_isLatin1_aae02_u83J4 : GoodIn wsJ5_append_c97b9 (va_wsU RJ5 83 RJ4 "java/lang/AbstractStringBuilder" ⟨"java/lang/AbstractStringBuilder", "isLatin1", "()Z"⟩ yJ5_isLatin1_aae02 wsJ5_isLatin1_aae02) := goodIn_app (goodIn_of _ (by decide +kernel)) ggJ5_append_c97b9_J5_isLatin1_aae02
set_option maxRecDepth 20000 in
theorem ggJ5_append_c97b9_J6_getChars_ba4f3 : GoodIn wsJ5_append_c97b9 wsJ6_getChars_ba4f3 := goodIn_r _ [58, 59, 60] (by decide +kernel) (by decide +kernel)
set_option maxRecDepth 20000 in
theorem gJ5_append_c97b9_J6_getChars_ba4f3 : GoodIn wsJ5_append_c97b9 (va_wsS RJ5 248 yJ6_getChars_ba4f3 wsJ6_getChars_ba4f3) := goodIn_app (goodIn_of _ (by decide +kernel)) ggJ5_append_c97b9_J6_getChars_ba4f3
set_option maxRecDepth 20000 in
theorem ggJ5_append_c97b9_J2_getChars_46870 : GoodIn wsJ5_append_c97b9 wsJ2_getChars_46870 := goodIn_r _ [64, 65, 66, 67, 63, 68, 69, 70, 71, 72, 73, 74, 75, 76, 77, 78, 79, 80, 81, 82, 83, 84, 85, 86, 87, 88, 89, 90] (by decide +kernel) (by decide +kernel)
set_option maxRecDepth 20000 in
theorem gJ5_append_c97b9_J2_getChars_46870 : GoodIn wsJ5_append_c97b9 (va_wsS RJ5 251 yJ2_getChars_46870 wsJ2_getChars_46870) := goodIn_app (goodIn_of _ (by decide +kernel)) ggJ5_append_c97b9_J2_getChars_46870
set_option maxRecDepth 20000 in
theorem ggJ5_inflateIfNeededFor_a7421_J0_coder_7d493 : GoodIn wsJ5_inflateIfNeededFor_a7421 wsJ0_coder_7d493 := goodIn_r _ [7, 8, 9, 63, 64, 65, 66] (by decide +kernel) (by decide +kernel)
set_option maxRecDepth 20000 in
theorem gJ5_inflateIfNeededFor_a7421_J0_coder_7d493 : GoodIn wsJ5_inflateIfNeededFor_a7421 (wsV RJ5 40 RJ0 yJ0_coder_7d493 wsJ0_coder_7d493) := goodIn_app (goodIn_of _ (by decide +kernel)) ggJ5_inflateIfNeededFor_a7421_J0_coder_7d493
set_option maxRecDepth 20000 in
theorem ggJ5_inflateIfNeededFor_a7421_J5_inflate_da8c8 : GoodIn wsJ5_inflateIfNeededFor_a7421 wsJ5_inflate_da8c8 := goodIn_r _ [15, 16, 17, 2, 18, 19, 20, 21, 14, 22, 1, 23, 24, 25, 26, 27, 28, 29, 30, 31, 32, 33, 34, 35, 36, 37, 38, 39, 40, 41, 42, 43, 44, 45, 46, 6, 47, 48, 49, 50, 51, 52, 53, 54, 55, 56, 57, 58, 59, 60, 61, 62] (by decide +kernel) (by decide +kernel)
set_option maxRecDepth 20000 in
theorem gJ5_inflateIfNeededFor_a7421_J5_inflate_da8c8_u195J4 : GoodIn wsJ5_inflateIfNeededFor_a7421 (va_wsU RJ5 195 RJ4 "java/lang/AbstractStringBuilder" ⟨"java/lang/AbstractStringBuilder", "inflate", "()V"⟩ yJ5_inflate_da8c8 wsJ5_inflate_da8c8) := goodIn_app (goodIn_of _ (by decide +kernel)) ggJ5_inflateIfNeededFor_a7421_J5_inflate_da8c8
set_option maxRecDepth 20000 in
theorem ggJ5_putStringAt_47b60_J5_inflateIfNeededFor_a7421 : GoodIn wsJ5_putStringAt_47b60 wsJ5_inflateIfNeededFor_a7421 := goodIn_r _ [8, 9, 2, 10, 11, 12, 13, 14, 15, 16, 17, 18, 19, 20, 7, 21, 1, 22, 23, 24, 25, 26, 27, 28, 29, 30, 31, 32, 33, 34, 35, 36, 37, 38, 39, 40, 41, 42, 43, 44, 45, 46, 47, 48, 49, 50, 51, 52, 53, 54, 55, 56, 57, 58, 59, 60, 61, 62, 63, 75, 76, 77, 78, 79, 80, 81, 82] (by decide +kernel) (by decide +kernel)
set_option maxRecDepth 20000 in
theorem gJ5_putStringAt_47b60_J5_inflateIfNeededFor_a7421_u397J4 : GoodIn wsJ5_putStringAt_47b60 (va_wsU RJ5 397 RJ4 "java/lang/AbstractStringBuilder" ⟨"java/lang/AbstractStringBuilder", "inflateIfNeededFor", "(Ljava/lang/String;)V"⟩ yJ5_inflateIfNeededFor_a7421 wsJ5_inflateIfNeededFor_a7421) := goodIn_app (goodIn_of _ (by decide +kernel)) ggJ5_putStringAt_47b60_J5_inflateIfNeededFor_a7421
set_option maxRecDepth 20000 in
theorem ggJ5_putStringAt_47b60_J0_getBytes_840e7 : GoodIn wsJ5_putStringAt_47b60 wsJ0_getBytes_840e7 := goodIn_r _ [67, 68, 69, 70, 71, 72, 73, 11, 12, 13, 14, 15, 16, 74, 38, 39, 40, 41, 42, 30, 43, 44, 45, 46, 47, 48, 49, 50, 51, 52, 53, 54, 55, 56, 57, 58, 59, 60, 61, 62, 63, 79, 80, 81, 82] (by decide +kernel) (by decide +kernel)
set_option maxRecDepth 20000 in
theorem gJ5_putStringAt_47b60_J0_getBytes_840e7 : GoodIn wsJ5_putStringAt_47b60 (wsV RJ5 399 RJ0 yJ0_getBytes_840e7 wsJ0_getBytes_840e7) := goodIn_app (goodIn_of _ (by decide +kernel)) ggJ5_putStringAt_47b60_J0_getBytes_840e7
set_option maxRecDepth 20000 in
theorem ggJx00060_init_d00df_J4_init_da8c8 : GoodIn wsJx00060_init_d00df wsJ4_init_da8c8 := goodIn_r _ [6, 7, 8, 9, 10, 11, 12, 13, 14, 15, 16, 17, 18, 19, 20, 21, 22, 23, 24, 25, 236, 237, 238, 239] (by decide +kernel) (by decide +kernel)
set_option maxRecDepth 20000 in
theorem gJx00060_init_d00df_J4_init_da8c8 : GoodIn wsJx00060_init_d00df (wsJ4_init_da8c8) := ggJx00060_init_d00df_J4_init_da8c8
set_option maxRecDepth 20000 in
theorem ggJx00060_init_d00df_J4_append_15ec4 : GoodIn wsJx00060_init_d00df wsJ4_append_15ec4 := goodIn_r _ [29, 30, 31, 32, 33, 9, 34, 35, 36, 37, 38, 39, 40, 16, 41, 42, 43, 44, 45, 17, 46, 47, 48, 49, 50, 51, 52, 53, 54, 55, 56, 57, 58, 59, 60, 61, 62, 63, 64, 65, 66, 67, 68, 69, 70, 71, 72, 73, 15, 74, 75, 76, 77, 78, 79, 80, 81, 82, 83, 84, 85, 14, 86, 87, 20, 88, 89, 90, 91, 92, 93, 94, 95, 96, 97, 98, 99, 100, 101, 102, 103, 104, 105, 106, 107, 108, 109, 110, 111, 112, 113, 114, 115, 116, 117, 118, 119, 120, 121, 122, 123, 124, 125, 126, 127, 128, 129, 130, 131, 132, 133, 134, 135, 136, 18, 19, 21, 22, 23, 24, 25, 137, 138, 139, 140, 141, 142, 143, 144, 145, 146, 147, 148, 149, 150, 151, 152, 153, 154, 155, 156, 157, 158, 236, 237, 238, 239, 240, 241, 242, 243] (by decide +kernel) (by decide +kernel)
set_option maxRecDepth 20000 in
theorem gJx00060_init_d00df_J4_append_15ec4 : GoodIn wsJx00060_init_d00df (wsV RJx00060 15 RJ4 yJ4_append_15ec4 wsJ4_append_15ec4) := goodIn_app (goodIn_of _ (by decide +kernel)) ggJx00060_init_d00df_J4_append_15ec4
set_option maxRecDepth 20000 in
theorem ggJx00060_init_d00df_J4_append_bf812 : GoodIn wsJx00060_init_d00df wsJ4_append_bf812 := goodIn_r _ [162, 163, 164, 32, 165, 9, 166, 35, 16, 167, 168, 169, 170, 41, 42, 43, 44, 45, 17, 46, 47, 48, 49, 50, 51, 52, 53, 54, 55, 56, 57, 58, 59, 60, 61, 62, 63, 64, 65, 66, 67, 68, 69, 70, 71, 72, 73, 15, 74, 75, 76, 77, 78, 79, 80, 81, 82, 83, 84, 85, 14, 171, 172, 173, 174, 175, 176, 177, 20, 178, 89, 90, 91, 92, 93, 94, 95, 96, 97, 98, 99, 100, 101, 102, 103, 104, 179, 180, 181, 182, 183, 105, 106, 107, 108, 109, 236, 237, 238, 239] (by decide +kernel) (by decide +kernel)
set_option maxRecDepth 20000 in
theorem gJx00060_init_d00df_J4_append_bf812 : GoodIn wsJx00060_init_d00df (wsV RJx00060 19 RJ4 yJ4_append_bf812 wsJ4_append_bf812) := goodIn_app (goodIn_of _ (by decide +kernel)) ggJx00060_init_d00df_J4_append_bf812
set_option maxRecDepth 20000 in
theorem ggJx00060_init_d00df_J4_toString_0e30d : GoodIn wsJx00060_init_d00df wsJ4_toString_0e30d := goodIn_r _ [187, 188, 189, 98, 190, 191, 192, 193, 194, 195, 196, 12, 13, 120, 114, 119, 197, 198, 199, 200, 201, 9, 202, 16, 203, 204, 205, 206, 207, 3, 208, 209, 32, 210, 211, 35, 212, 82, 83, 84, 85, 14, 17, 213, 214, 66, 215, 68, 69, 70, 71, 72, 73, 216, 217, 218, 15, 74, 75, 58, 76, 77, 78, 79, 80, 219, 220, 221, 222, 2, 223, 224, 20, 225, 226, 227, 228, 144, 145, 146, 93, 94, 95, 147, 148, 149, 100, 150, 151, 103, 152, 229, 230, 231, 89, 108, 109, 22, 23, 24, 25, 232, 233, 234, 235, 240, 241, 242, 243, 236, 237, 238, 239] (by decide +kernel) (by decide +kernel)
set_option maxRecDepth 20000 in
theorem gJx00060_init_d00df_J4_toString_0e30d : GoodIn wsJx00060_init_d00df (wsV RJx00060 22 RJ4 yJ4_toString_0e30d wsJ4_toString_0e30d) := goodIn_app (goodIn_of _ (by decide +kernel)) ggJx00060_init_d00df_J4_toString_0e30d
set_option maxRecDepth 20000 in
theorem ggJ0_init_81219_J0_init_db425 : GoodIn wsJ0_init_81219 wsJ0_init_db425 := goodIn_r _ [4, 5, 6, 7, 8, 9, 10, 11, 12, 13, 14, 15, 16, 17, 18, 19, 20, 21, 22, 23, 24, 25, 26, 27, 28, 29, 30, 31, 32, 33, 34, 35, 36, 37, 38, 39, 40, 41, 42, 43, 44, 45, 46, 47, 48, 49, 50, 51, 52, 53, 54, 55, 56, 57, 58, 59, 60, 61, 62, 63, 64, 65, 66, 67, 68, 69, 70, 71, 72, 73, 74, 75, 76, 77, 78, 79, 3, 80, 81, 82, 83, 84, 85, 86, 87, 88, 89, 90, 91, 92, 93, 94, 95, 96, 97, 98, 99, 100, 101, 102, 103, 104, 105, 106, 107] (by decide +kernel) (by decide +kernel)
set_option maxRecDepth 20000 in
theorem gJ0_init_81219_J0_init_db425 : GoodIn wsJ0_init_81219 (wsJ0_init_db425) := ggJ0_init_81219_J0_init_db425
set_option maxRecDepth 20000 in
theorem ggJ0_length_8abf5_J0_coder_7d493 : GoodIn wsJ0_length_8abf5 wsJ0_coder_7d493 := goodIn_r _ [6, 7, 8, 9, 10, 11, 12] (by decide +kernel) (by decide +kernel)
set_option maxRecDepth 20000 in
theorem gJ0_length_8abf5_J0_coder_7d493 : GoodIn wsJ0_length_8abf5 (wsV RJ0 335 RJ0 yJ0_coder_7d493 wsJ0_coder_7d493) := goodIn_app (goodIn_of _ (by decide +kernel)) ggJ0_length_8abf5_J0_coder_7d493
set_option maxRecDepth 20000 in
theorem ggJ0_indexOf_0f7a4_J0_indexOf_7cf53 : GoodIn wsJ0_indexOf_0f7a4 wsJ0_indexOf_7cf53 := goodIn_r _ [5, 6, 7, 8, 9, 4, 10, 11, 12, 13, 14, 15, 16, 17, 18, 19, 20, 21, 22, 23, 24, 25, 26, 27, 28, 29, 30, 31, 32, 33, 34, 35, 36, 37, 38, 39, 40, 41, 42, 43, 44, 45, 46, 47, 48, 49, 50, 51, 52, 53, 54, 55, 56, 57, 58, 59, 60, 61, 62, 63, 64, 65, 66, 67, 68, 69, 70, 71, 72, 73, 74, 75, 76, 77, 78, 79, 80, 81, 82, 83, 84, 85, 86, 87, 88, 89] (by decide +kernel) (by decide +kernel)
set_option maxRecDepth 20000 in
theorem gJ0_indexOf_0f7a4_J0_indexOf_7cf53 : GoodIn wsJ0_indexOf_0f7a4 (wsV RJ0 633 RJ0 yJ0_indexOf_7cf53 wsJ0_indexOf_7cf53) := goodIn_app (goodIn_of _ (by decide +kernel)) ggJ0_indexOf_0f7a4_J0_indexOf_7cf53
set_option maxRecDepth 20000 in
theorem ggJ0_indexOf_7cf53_J0_isLatin1_aae02 : GoodIn wsJ0_indexOf_7cf53 wsJ0_isLatin1_aae02 := goodIn_r _ [6, 7, 8, 82, 83, 84, 85] (by decide +kernel) (by decide +kernel)
set_option maxRecDepth 20000 in
theorem gJ0_indexOf_7cf53_J0_isLatin1_aae02 : GoodIn wsJ0_indexOf_7cf53 (wsV RJ0 492 RJ0 yJ0_isLatin1_aae02 wsJ0_isLatin1_aae02) := goodIn_app (goodIn_of _ (by decide +kernel)) ggJ0_indexOf_7cf53_J0_isLatin1_aae02
set_option maxRecDepth 20000 in
theorem ggJ0_indexOf_7cf53_J0_length_8abf5 : GoodIn wsJ0_indexOf_7cf53 wsJ0_length_8abf5 := goodIn_r _ [12, 1, 13, 14, 15, 5, 16, 7, 8, 82, 83, 84, 85] (by decide +kernel) (by decide +kernel)
set_option maxRecDepth 20000 in
theorem gJ0_indexOf_7cf53_J0_length_8abf5 : GoodIn wsJ0_indexOf_7cf53 (wsV RJ0 505 RJ0 yJ0_length_8abf5 wsJ0_length_8abf5) := goodIn_app (goodIn_of _ (by decide +kernel)) ggJ0_indexOf_7cf53_J0_length_8abf5
set_option maxRecDepth 20000 in
theorem ggJ0_indexOf_7cf53_J1_indexOf_4cfef : GoodIn wsJ0_indexOf_7cf53 wsJ1_indexOf_4cfef := goodIn_r _ [20, 21, 22, 23, 24, 25, 26, 27, 28, 29, 19, 30, 31, 32, 33] (by decide +kernel) (by decide +kernel)
set_option maxRecDepth 20000 in
theorem gJ0_indexOf_7cf53_J1_indexOf_4cfef : GoodIn wsJ0_indexOf_7cf53 (va_wsS RJ0 637 yJ1_indexOf_4cfef wsJ1_indexOf_4cfef) := goodIn_app (goodIn_of _ (by decide +kernel)) ggJ0_indexOf_7cf53_J1_indexOf_4cfef
set_option maxRecDepth 20000 in
theorem ggJ0_indexOf_7cf53_J2_indexOf_4cfef : GoodIn wsJ0_indexOf_7cf53 wsJ2_indexOf_4cfef := goodIn_r _ [37, 38, 22, 23, 24, 39, 26, 27, 40, 41, 42, 36, 43, 44, 45, 46, 47, 48, 49, 50, 51, 5, 52, 53, 54, 55, 56, 57, 58, 59, 60, 61, 62, 63, 64, 65, 66, 67, 68, 69, 70, 71, 72, 73, 74, 75, 76, 77, 78, 79, 80, 81] (by decide +kernel) (by decide +kernel)
set_option maxRecDepth 20000 in
theorem gJ0_indexOf_7cf53_J2_indexOf_4cfef : GoodIn wsJ0_indexOf_7cf53 (va_wsS RJ0 640 yJ2_indexOf_4cfef wsJ2_indexOf_4cfef) := goodIn_app (goodIn_of _ (by decide +kernel)) ggJ0_indexOf_7cf53_J2_indexOf_4cfef
set_option maxRecDepth 20000 in
theorem ggJ0_getBytes_840e7_J0_coder_7d493 : GoodIn wsJ0_getBytes_840e7 wsJ0_coder_7d493 := goodIn_r _ [10, 11, 12, 41, 42, 43, 44] (by decide +kernel) (by decide +kernel)
set_option maxRecDepth 20000 in
theorem gJ0_getBytes_840e7_J0_coder_7d493 : GoodIn wsJ0_getBytes_840e7 (wsV RJ0 335 RJ0 yJ0_coder_7d493 wsJ0_coder_7d493) := goodIn_app (goodIn_of _ (by decide +kernel)) ggJ0_getBytes_840e7_J0_coder_7d493
set_option maxRecDepth 20000 in
theorem ggJ0_getBytes_840e7_J1_inflate_0e8fd : GoodIn wsJ0_getBytes_840e7 wsJ1_inflate_0e8fd := goodIn_r _ [16, 17, 18, 19, 20, 21, 22, 23, 24, 25, 26, 27, 28, 9, 29, 30, 31, 32, 33, 34, 35, 36, 37, 38, 39, 40] (by decide +kernel) (by decide +kernel)
set_option maxRecDepth 20000 in
theorem gJ0_getBytes_840e7_J1_inflate_0e8fd : GoodIn wsJ0_getBytes_840e7 (va_wsS RJ0 106 yJ1_inflate_0e8fd wsJ1_inflate_0e8fd) := goodIn_app (goodIn_of _ (by decide +kernel)) ggJ0_getBytes_840e7_J1_inflate_0e8fd
set_option maxRecDepth 20000 in
theorem ggJ0_init_db425_J5_getValue_6d5f1 : GoodIn wsJ0_init_db425 wsJ5_getValue_6d5f1 := goodIn_r _ [13, 14, 101, 102, 103, 104] (by decide +kernel) (by decide +kernel)
set_option maxRecDepth 20000 in
theorem gJ0_init_db425_J5_getValue_6d5f1_u552J4 : GoodIn wsJ0_init_db425 (va_wsU RJ0 552 RJ4 "java/lang/AbstractStringBuilder" ⟨"java/lang/AbstractStringBuilder", "getValue", "()[B"⟩ yJ5_getValue_6d5f1 wsJ5_getValue_6d5f1) := goodIn_app (goodIn_of _ (by decide +kernel)) ggJ0_init_db425_J5_getValue_6d5f1
set_option maxRecDepth 20000 in
theorem ggJ0_init_db425_J4_length_8abf5 : GoodIn wsJ0_init_db425 wsJ4_length_8abf5 := goodIn_r _ [21, 22, 16, 23, 24, 12, 25, 26, 101, 102, 103, 104] (by decide +kernel) (by decide +kernel)
set_option maxRecDepth 20000 in
theorem gJ0_init_db425_J4_length_8abf5_u549J4 : GoodIn wsJ0_init_db425 (va_wsO RJ0 549 RJ4 "java/lang/AbstractStringBuilder" ⟨"java/lang/AbstractStringBuilder", "length", "()I"⟩ yJ4_length_8abf5 wsJ4_length_8abf5) := goodIn_app (goodIn_of _ (by decide +kernel)) ggJ0_init_db425_J4_length_8abf5
set_option maxRecDepth 20000 in
theorem ggJ0_init_db425_J5_isLatin1_aae02 : GoodIn wsJ0_init_db425 wsJ5_isLatin1_aae02 := goodIn_r _ [31, 32, 33, 101, 102, 103, 104] (by decide +kernel) (by decide +kernel)
set_option maxRecDepth 20000 in
theorem gJ0_init_db425_J5_isLatin1_aae02_u1047J4 : GoodIn wsJ0_init_db425 (va_wsU RJ0 1047 RJ4 "java/lang/AbstractStringBuilder" ⟨"java/lang/AbstractStringBuilder", "isLatin1", "()Z"⟩ yJ5_isLatin1_aae02 wsJ5_isLatin1_aae02) := goodIn_app (goodIn_of _ (by decide +kernel)) ggJ0_init_db425_J5_isLatin1_aae02
set_option maxRecDepth 20000 in
theorem ggJ0_init_db425_J7_copyOfRange_39247 : GoodIn wsJ0_init_db425 wsJ7_copyOfRange_39247 := goodIn_r _ [37, 38, 39, 40, 41, 42, 43, 44, 45, 36, 46, 47, 48, 49, 50, 51, 52, 53, 54, 55, 56, 57, 58, 59, 60, 20, 101, 102, 103, 104] (by decide +kernel) (by decide +kernel)
set_option maxRecDepth 20000 in
theorem gJ0_init_db425_J7_copyOfRange_39247 : GoodIn wsJ0_init_db425 (va_wsS RJ0 54 yJ7_copyOfRange_39247 wsJ7_copyOfRange_39247) := goodIn_app (goodIn_of _ (by decide +kernel)) ggJ0_init_db425_J7_copyOfRange_39247
set_option maxRecDepth 20000 in
theorem ggJ0_init_db425_J2_compress_39247 : GoodIn wsJ0_init_db425 wsJ2_compress_39247 := goodIn_r _ [64, 47, 65, 66, 63, 67, 68, 69, 70, 71, 72, 73, 74, 75, 76, 77, 78, 79, 80, 81, 82, 83, 84, 85, 86, 87, 88, 89, 90, 91, 92, 93, 35, 36, 37, 38, 39, 40, 41, 42, 43, 44, 45, 46, 48, 49, 50, 51, 52, 53, 54, 55, 56, 57, 58, 59, 60, 20, 101, 102, 103, 104] (by decide +kernel) (by decide +kernel)
set_option maxRecDepth 20000 in
theorem gJ0_init_db425_J2_compress_39247 : GoodIn wsJ0_init_db425 (va_wsS RJ0 1051 yJ2_compress_39247 wsJ2_compress_39247) := goodIn_app (goodIn_of _ (by decide +kernel)) ggJ0_init_db425_J2_compress_39247
set_option maxRecDepth 20000 in
theorem ggJ0_init_db425_J2_coderFromArrayLen_85cad : GoodIn wsJ0_init_db425 wsJ2_coderFromArrayLen_85cad := goodIn_r _ [96] (by decide +kernel) (by decide +kernel)
set_option maxRecDepth 20000 in
theorem gJ0_init_db425_J2_coderFromArrayLen_85cad : GoodIn wsJ0_init_db425 (va_wsS RJ0 47 yJ2_coderFromArrayLen_85cad wsJ2_coderFromArrayLen_85cad) := goodIn_app (goodIn_of _ (by decide +kernel)) ggJ0_init_db425_J2_coderFromArrayLen_85cad
set_option maxRecDepth 20000 in
theorem ggJ0_checkIndex_df160_J3_checkIndex_8e157 : GoodIn wsJ0_checkIndex_df160 wsJ3_checkIndex_8e157 := goodIn_r _ [5] (by decide +kernel) (by decide +kernel)
set_option maxRecDepth 20000 in
theorem gJ0_checkIndex_df160_J3_checkIndex_8e157 : GoodIn wsJ0_checkIndex_df160 (va_wsS RJ0 1059 yJ3_checkIndex_8e157 wsJ3_checkIndex_8e157) := goodIn_app (goodIn_of _ (by decide +kernel)) ggJ0_checkIndex_df160_J3_checkIndex_8e157
set_option maxRecDepth 20000 in
theorem ggJ0_checkBoundsOffCount_cabcc_J3_checkFromIndexSize_8c36e : GoodIn wsJ0_checkBoundsOffCount_cabcc wsJ3_checkFromIndexSize_8c36e := goodIn_r _ [5] (by decide +kernel) (by decide +kernel)
set_option maxRecDepth 20000 in
theorem gJ0_checkBoundsOffCount_cabcc_J3_checkFromIndexSize_8c36e : GoodIn wsJ0_checkBoundsOffCount_cabcc (va_wsS RJ0 1065 yJ3_checkFromIndexSize_8c36e wsJ3_checkFromIndexSize_8c36e) := goodIn_app (goodIn_of _ (by decide +kernel)) ggJ0_checkBoundsOffCount_cabcc_J3_checkFromIndexSize_8c36e
set_option maxRecDepth 20000 in
theorem ggJ0_checkBoundsBeginEnd_23922_J3_checkFromToIndex_8c36e : GoodIn wsJ0_checkBoundsBeginEnd_23922 wsJ3_checkFromToIndex_8c36e := goodIn_r _ [5] (by decide +kernel) (by decide +kernel)
set_option maxRecDepth 20000 in
theorem gJ0_checkBoundsBeginEnd_23922_J3_checkFromToIndex_8c36e : GoodIn wsJ0_checkBoundsBeginEnd_23922 (va_wsS RJ0 1062 yJ3_checkFromToIndex_8c36e wsJ3_checkFromToIndex_8c36e) := goodIn_app (goodIn_of _ (by decide +kernel)) ggJ0_checkBoundsBeginEnd_23922_J3_checkFromToIndex_8c36e
set_option maxRecDepth 20000 in
theorem ggJ4_init_da8c8_J5_init_d00df : GoodIn wsJ4_init_da8c8 wsJ5_init_d00df := goodIn_r _ [4, 5, 6, 7, 8, 9, 10, 11, 12, 13, 14, 15, 16, 17, 18, 19, 20, 21, 22, 23] (by decide +kernel) (by decide +kernel)
set_option maxRecDepth 20000 in
theorem gJ4_init_da8c8_J5_init_d00df : GoodIn wsJ4_init_da8c8 (wsJ5_init_d00df) := ggJ4_init_da8c8_J5_init_d00df
set_option maxRecDepth 20000 in
theorem ggJ4_append_15ec4_J5_append_cf1ce : GoodIn wsJ4_append_15ec4 wsJ5_append_cf1ce := goodIn_r _ [6, 7, 8, 9, 10, 11, 5, 12, 13, 14, 15, 16, 17, 18, 19, 20, 21, 22, 23, 24, 25, 26, 27, 28, 29, 30, 31, 32, 33, 34, 35, 36, 37, 38, 39, 40, 41, 42, 43, 44, 45, 46, 47, 48, 49, 50, 51, 52, 53, 54, 55, 56, 57, 58, 59, 60, 61, 62, 63, 64, 65, 66, 67, 68, 69, 70, 71, 72, 73, 74, 75, 76, 77, 78, 79, 80, 81, 82, 83, 84, 85, 86, 87, 88, 89, 90, 91, 92, 93, 94, 95, 96, 97, 98, 99, 100, 101, 102, 103, 104, 105, 106, 107, 108, 109, 110, 111, 112, 113, 114, 115, 116, 117, 118, 119, 120, 121, 122, 123, 124, 125, 126, 127, 128, 129, 130, 131, 132, 133, 134, 135, 136, 137, 138, 139, 140, 141, 142, 143, 144, 145, 146, 147, 148, 149, 150] (by decide +kernel) (by decide +kernel)
set_option maxRecDepth 20000 in
theorem gJ4_append_15ec4_J5_append_cf1ce_s29 : GoodIn wsJ4_append_15ec4 (va_wsSU RJ4 29 yJ5_append_cf1ce wsJ5_append_cf1ce) := goodIn_app (goodIn_of _ (by decide +kernel)) ggJ4_append_15ec4_J5_append_cf1ce
set_option maxRecDepth 20000 in
theorem ggJ4_append_cf468_J5_append_3fe6f : GoodIn wsJ4_append_cf468 wsJ5_append_3fe6f := goodIn_r _ [6, 7, 8, 9, 10, 11, 12, 5, 13, 14, 15, 16, 17, 18, 19, 20, 21, 22, 23, 24, 25, 26, 27, 28, 29, 30, 31, 32, 33, 34, 35, 36, 37, 38, 39, 40, 41, 42, 43, 44, 45, 46, 47, 48, 49, 50, 51, 52, 53, 54, 55, 56, 57, 58, 59, 60, 61, 62, 63, 64, 65, 66, 67, 68, 69, 70, 71, 72, 73, 74, 75, 76, 77, 78, 79, 80, 81, 82, 83, 84, 85, 86, 87, 88, 89, 90, 91, 92, 93, 94, 95, 96, 97, 98, 99, 100, 101, 102, 103, 104, 105, 106, 107, 108, 109, 110, 111, 112, 113, 114, 115, 116] (by decide +kernel) (by decide +kernel)
set_option maxRecDepth 20000 in
theorem gJ4_append_cf468_J5_append_3fe6f_s50 : GoodIn wsJ4_append_cf468 (va_wsSU RJ4 50 yJ5_append_3fe6f wsJ5_append_3fe6f) := goodIn_app (goodIn_of _ (by decide +kernel)) ggJ4_append_cf468_J5_append_3fe6f
set_option maxRecDepth 20000 in
theorem ggJ4_append_bf812_J5_append_c97b9 : GoodIn wsJ4_append_bf812 wsJ5_append_c97b9 := goodIn_r _ [6, 7, 8, 9, 10, 11, 12, 13, 14, 15, 16, 5, 17, 18, 19, 20, 21, 22, 23, 24, 25, 26, 27, 28, 29, 30, 31, 32, 33, 34, 35, 36, 37, 38, 39, 40, 41, 42, 43, 44, 45, 46, 47, 48, 49, 50, 51, 52, 53, 54, 55, 56, 57, 58, 59, 60, 61, 62, 63, 64, 65, 66, 67, 68, 69, 70, 71, 72, 73, 74, 75, 76, 77, 78, 79, 80, 81, 82, 83, 84, 85, 86, 87, 88, 89, 90, 91, 92, 93, 94, 95, 96, 97, 98, 99] (by decide +kernel) (by decide +kernel)
set_option maxRecDepth 20000 in
theorem gJ4_append_bf812_J5_append_c97b9_s53 : GoodIn wsJ4_append_bf812 (va_wsSU RJ4 53 yJ5_append_c97b9 wsJ5_append_c97b9) := goodIn_app (goodIn_of _ (by decide +kernel)) ggJ4_append_bf812_J5_append_c97b9
set_option maxRecDepth 20000 in
theorem ggJ4_toString_0e30d_J0_init_81219 : GoodIn wsJ4_toString_0e30d wsJ0_init_81219 := goodIn_r _ [6, 7, 8, 3, 9, 10, 11, 12, 13, 14, 15, 16, 17, 18, 19, 20, 21, 22, 23, 24, 25, 26, 27, 28, 29, 30, 31, 32, 33, 34, 35, 36, 37, 38, 39, 40, 41, 42, 43, 44, 45, 46, 47, 48, 49, 50, 51, 52, 53, 54, 55, 56, 57, 58, 59, 60, 61, 62, 63, 64, 65, 66, 67, 68, 69, 70, 71, 72, 73, 74, 75, 76, 77, 78, 79, 80, 81, 82, 83, 84, 85, 86, 87, 88, 89, 90, 91, 92, 93, 94, 95, 96, 97, 98, 99, 100, 101, 102, 103, 104, 105, 106, 107, 108, 109, 110, 111, 112] (by decide +kernel) (by decide +kernel)
set_option maxRecDepth 20000 in
theorem gJ4_toString_0e30d_J0_init_81219 : GoodIn wsJ4_toString_0e30d (wsJ0_init_81219) := ggJ4_toString_0e30d_J0_init_81219
set_option maxRecDepth 20000 in
theorem ggJ4_charAt_5068e_J5_charAt_5068e : GoodIn wsJ4_charAt_5068e wsJ5_charAt_5068e := goodIn_r _ [6, 7, 8, 9, 10, 11, 12, 13, 14, 15, 16, 17, 18, 19, 20, 21, 22, 23, 24, 25, 26, 27, 28, 29, 30, 31, 32, 33, 34, 35, 36] (by decide +kernel) (by decide +kernel)
set_option maxRecDepth 20000 in
theorem gJ4_charAt_5068e_J5_charAt_5068e_s329 : GoodIn wsJ4_charAt_5068e (va_wsSU RJ4 329 yJ5_charAt_5068e wsJ5_charAt_5068e) := goodIn_app (goodIn_of _ (by decide +kernel)) ggJ4_charAt_5068e_J5_charAt_5068e
set_option maxRecDepth 20000 in
theorem ggJ4_setLength_d00df_J5_setLength_d00df : GoodIn wsJ4_setLength_d00df wsJ5_setLength_d00df := goodIn_r _ [6, 7, 8, 9, 10, 11, 12, 13, 14, 15, 16, 5, 17, 18, 19, 20, 21, 22, 23, 24, 25, 26, 27, 28, 29, 30, 31, 32, 33, 34, 35, 36, 37, 38, 39, 40, 41, 42, 43, 44, 45, 46, 47, 48, 49, 50, 51, 52, 53, 54, 55, 56, 57, 58, 59, 60, 61, 62, 63, 64, 65, 66, 67, 68, 69, 70, 71, 72, 73, 74, 75, 76, 77, 78, 79, 80, 81, 82, 83, 84, 85, 86, 87, 88, 89, 90, 91, 92, 93, 94, 95, 96, 97] (by decide +kernel) (by decide +kernel)
set_option maxRecDepth 20000 in
theorem gJ4_setLength_d00df_J5_setLength_d00df_s333 : GoodIn wsJ4_setLength_d00df (va_wsSU RJ4 333 yJ5_setLength_d00df wsJ5_setLength_d00df) := goodIn_app (goodIn_of _ (by decide +kernel)) ggJ4_setLength_d00df_J5_setLength_d00df
set_option maxRecDepth 20000 in
theorem ggJ4_length_8abf5_J5_length_8abf5 : GoodIn wsJ4_length_8abf5 wsJ5_length_8abf5 := goodIn_r _ [6, 7, 8, 9, 10, 11] (by decide +kernel) (by decide +kernel)
set_option maxRecDepth 20000 in
theorem gJ4_length_8abf5_J5_length_8abf5_s343 : GoodIn wsJ4_length_8abf5 (va_wsSU RJ4 343 yJ5_length_8abf5 wsJ5_length_8abf5) := goodIn_app (goodIn_of _ (by decide +kernel)) ggJ4_length_8abf5_J5_length_8abf5
set_option maxRecDepth 20000 in
theorem ggJx7c733_init_d00df_J4_init_da8c8 : GoodIn wsJx7c733_init_d00df wsJ4_init_da8c8 := goodIn_r _ [6, 7, 8, 9, 10, 11, 12, 13, 14, 15, 16, 17, 18, 19, 20, 21, 22, 23, 24, 25, 236, 237, 238, 239] (by decide +kernel) (by decide +kernel)
set_option maxRecDepth 20000 in
theorem gJx7c733_init_d00df_J4_init_da8c8 : GoodIn wsJx7c733_init_d00df (wsJ4_init_da8c8) := ggJx7c733_init_d00df_J4_init_da8c8
set_option maxRecDepth 20000 in
theorem ggJx7c733_init_d00df_J4_append_15ec4 : GoodIn wsJx7c733_init_d00df wsJ4_append_15ec4 := goodIn_r _ [29, 30, 31, 32, 33, 9, 34, 35, 36, 37, 38, 39, 40, 16, 41, 42, 43, 44, 45, 17, 46, 47, 48, 49, 50, 51, 52, 53, 54, 55, 56, 57, 58, 59, 60, 61, 62, 63, 64, 65, 66, 67, 68, 69, 70, 71, 72, 73, 15, 74, 75, 76, 77, 78, 79, 80, 81, 82, 83, 84, 85, 14, 86, 87, 20, 88, 89, 90, 91, 92, 93, 94, 95, 96, 97, 98, 99, 100, 101, 102, 103, 104, 105, 106, 107, 108, 109, 110, 111, 112, 113, 114, 115, 116, 117, 118, 119, 120, 121, 122, 123, 124, 125, 126, 127, 128, 129, 130, 131, 132, 133, 134, 135, 136, 18, 19, 21, 22, 23, 24, 25, 137, 138, 139, 140, 141, 142, 143, 144, 145, 146, 147, 148, 149, 150, 151, 152, 153, 154, 155, 156, 157, 158, 236, 237, 238, 239, 240, 241, 242, 243] (by decide +kernel) (by decide +kernel)
set_option maxRecDepth 20000 in
theorem gJx7c733_init_d00df_J4_append_15ec4 : GoodIn wsJx7c733_init_d00df (wsV RJx7c733 15 RJ4 yJ4_append_15ec4 wsJ4_append_15ec4) := goodIn_app (goodIn_of _ (by decide +kernel)) ggJx7c733_init_d00df_J4_append_15ec4
set_option maxRecDepth 20000 in
theorem ggJx7c733_init_d00df_J4_append_bf812 : GoodIn wsJx7c733_init_d00df wsJ4_append_bf812 := goodIn_r _ [162, 163, 164, 32, 165, 9, 166, 35, 16, 167, 168, 169, 170, 41, 42, 43, 44, 45, 17, 46, 47, 48, 49, 50, 51, 52, 53, 54, 55, 56, 57, 58, 59, 60, 61, 62, 63, 64, 65, 66, 67, 68, 69, 70, 71, 72, 73, 15, 74, 75, 76, 77, 78, 79, 80, 81, 82, 83, 84, 85, 14, 171, 172, 173, 174, 175, 176, 177, 20, 178, 89, 90, 91, 92, 93, 94, 95, 96, 97, 98, 99, 100, 101, 102, 103, 104, 179, 180, 181, 182, 183, 105, 106, 107, 108, 109, 236, 237, 238, 239] (by decide +kernel) (by decide +kernel)
set_option maxRecDepth 20000 in
theorem gJx7c733_init_d00df_J4_append_bf812 : GoodIn wsJx7c733_init_d00df (wsV RJx7c733 19 RJ4 yJ4_append_bf812 wsJ4_append_bf812) := goodIn_app (goodIn_of _ (by decide +kernel)) ggJx7c733_init_d00df_J4_append_bf812
set_option maxRecDepth 20000 in
theorem ggJx7c733_init_d00df_J4_toString_0e30d : GoodIn wsJx7c733_init_d00df wsJ4_toString_0e30d := goodIn_r _ [187, 188, 189, 98, 190, 191, 192, 193, 194, 195, 196, 12, 13, 120, 114, 119, 197, 198, 199, 200, 201, 9, 202, 16, 203, 204, 205, 206, 207, 3, 208, 209, 32, 210, 211, 35, 212, 82, 83, 84, 85, 14, 17, 213, 214, 66, 215, 68, 69, 70, 71, 72, 73, 216, 217, 218, 15, 74, 75, 58, 76, 77, 78, 79, 80, 219, 220, 221, 222, 2, 223, 224, 20, 225, 226, 227, 228, 144, 145, 146, 93, 94, 95, 147, 148, 149, 100, 150, 151, 103, 152, 229, 230, 231, 89, 108, 109, 22, 23, 24, 25, 232, 233, 234, 235, 240, 241, 242, 243, 236, 237, 238, 239] (by decide +kernel) (by decide +kernel)
set_option maxRecDepth 20000 in
theorem gJx7c733_init_d00df_J4_toString_0e30d : GoodIn wsJx7c733_init_d00df (wsV RJx7c733 22 RJ4 yJ4_toString_0e30d wsJ4_toString_0e30d) := goodIn_app (goodIn_of _ (by decide +kernel)) ggJx7c733_init_d00df_J4_toString_0e30d
set_option maxRecDepth 20000 in
theorem ggJ1_indexOf_4cfef_J1_canEncode_9a6ad : GoodIn wsJ1_indexOf_4cfef wsJ1_canEncode_9a6ad := goodIn_r _ [11] (by decide +kernel) (by decide +kernel)
set_option maxRecDepth 20000 in
theorem gJ1_indexOf_4cfef_J1_canEncode_9a6ad : GoodIn wsJ1_indexOf_4cfef (va_wsS RJ1 88 yJ1_canEncode_9a6ad wsJ1_canEncode_9a6ad) := goodIn_app (goodIn_of _ (by decide +kernel)) ggJ1_indexOf_4cfef_J1_canEncode_9a6ad
set_option maxRecDepth 20000 in
theorem ggJ1_indexOf_4cfef_J1_indexOfChar_4cfef : GoodIn wsJ1_indexOf_4cfef wsJ1_indexOfChar_4cfef := goodIn_r _ [14] (by decide +kernel) (by decide +kernel)
set_option maxRecDepth 20000 in
theorem gJ1_indexOf_4cfef_J1_indexOfChar_4cfef : GoodIn wsJ1_indexOf_4cfef (va_wsS RJ1 95 yJ1_indexOfChar_4cfef wsJ1_indexOfChar_4cfef) := goodIn_app (goodIn_of _ (by decide +kernel)) ggJ1_indexOf_4cfef_J1_indexOfChar_4cfef
set_option maxRecDepth 20000 in
theorem ggJ1_fillNull_b72d1_J7_fill_eb02e : GoodIn wsJ1_fillNull_b72d1 wsJ7_fill_eb02e := goodIn_r _ [4, 5, 6, 3, 7, 8, 9, 10, 11, 12, 13, 14, 15, 16, 17, 18, 19, 20, 21, 22, 23] (by decide +kernel) (by decide +kernel)
set_option maxRecDepth 20000 in
theorem gJ1_fillNull_b72d1_J7_fill_eb02e : GoodIn wsJ1_fillNull_b72d1 (va_wsS RJ1 236 yJ7_fill_eb02e wsJ7_fill_eb02e) := goodIn_app (goodIn_of _ (by decide +kernel)) ggJ1_fillNull_b72d1_J7_fill_eb02e
set_option maxRecDepth 20000 in
theorem ggJ1_inflate_0e8fd_J2_inflate_0e8fd : GoodIn wsJ1_inflate_0e8fd wsJ2_inflate_0e8fd := goodIn_r _ [4, 5, 6, 3, 7, 8, 9, 10, 11, 12, 13, 14, 15, 16, 17, 18, 19, 20, 21, 22, 23, 24, 25] (by decide +kernel) (by decide +kernel)
set_option maxRecDepth 20000 in
theorem gJ1_inflate_0e8fd_J2_inflate_0e8fd : GoodIn wsJ1_inflate_0e8fd (va_wsS RJ1 240 yJ2_inflate_0e8fd wsJ2_inflate_0e8fd) := goodIn_app (goodIn_of _ (by decide +kernel)) ggJ1_inflate_0e8fd_J2_inflate_0e8fd
set_option maxRecDepth 20000 in
theorem ggJ2_newBytesFor_77867_J2_newBytesLength_0f7a4 : GoodIn wsJ2_newBytesFor_77867 wsJ2_newBytesLength_0f7a4 := goodIn_r _ [5, 6] (by decide +kernel) (by decide +kernel)
set_option maxRecDepth 20000 in
theorem gJ2_newBytesFor_77867_J2_newBytesLength_0f7a4 : GoodIn wsJ2_newBytesFor_77867 (va_wsS RJ2 11 yJ2_newBytesLength_0f7a4 wsJ2_newBytesLength_0f7a4) := goodIn_app (goodIn_of _ (by decide +kernel)) ggJ2_newBytesFor_77867_J2_newBytesLength_0f7a4
set_option maxRecDepth 20000 in
theorem ggJ2_putChar_b72d1_J2_length_9d52b : GoodIn wsJ2_putChar_b72d1 wsJ2_length_9d52b := goodIn_r _ [7] (by decide +kernel) (by decide +kernel)
set_option maxRecDepth 20000 in
theorem gJ2_putChar_b72d1_J2_length_9d52b : GoodIn wsJ2_putChar_b72d1 (va_wsS RJ2 48 yJ2_length_9d52b wsJ2_length_9d52b) := goodIn_app (goodIn_of _ (by decide +kernel)) ggJ2_putChar_b72d1_J2_length_9d52b
set_option maxRecDepth 20000 in
theorem ggJ2_getChar_3b067_J2_length_9d52b : GoodIn wsJ2_getChar_3b067 wsJ2_length_9d52b := goodIn_r _ [7] (by decide +kernel) (by decide +kernel)
set_option maxRecDepth 20000 in
theorem gJ2_getChar_3b067_J2_length_9d52b : GoodIn wsJ2_getChar_3b067 (va_wsS RJ2 48 yJ2_length_9d52b wsJ2_length_9d52b) := goodIn_app (goodIn_of _ (by decide +kernel)) ggJ2_getChar_3b067_J2_length_9d52b
set_option maxRecDepth 20000 in
theorem ggJ2_compress_39247_J2_compress_5af95 : GoodIn wsJ2_compress_39247 wsJ2_compress_5af95 := goodIn_r _ [5, 6, 7, 4, 8, 9, 10, 11, 12, 13, 14, 15, 16, 17, 18, 19, 20, 21, 22, 23, 24, 25, 26] (by decide +kernel) (by decide +kernel)
set_option maxRecDepth 20000 in
theorem gJ2_compress_39247_J2_compress_5af95 : GoodIn wsJ2_compress_39247 (va_wsS RJ2 123 yJ2_compress_5af95 wsJ2_compress_5af95) := goodIn_app (goodIn_of _ (by decide +kernel)) ggJ2_compress_39247_J2_compress_5af95
set_option maxRecDepth 20000 in
theorem ggJ2_compress_39247_J2_newBytesLength_0f7a4 : GoodIn wsJ2_compress_39247 wsJ2_newBytesLength_0f7a4 := goodIn_r _ [29, 30] (by decide +kernel) (by decide +kernel)
set_option maxRecDepth 20000 in
theorem gJ2_compress_39247_J2_newBytesLength_0f7a4 : GoodIn wsJ2_compress_39247 (va_wsS RJ2 11 yJ2_newBytesLength_0f7a4 wsJ2_newBytesLength_0f7a4) := goodIn_app (goodIn_of _ (by decide +kernel)) ggJ2_compress_39247_J2_newBytesLength_0f7a4
set_option maxRecDepth 20000 in
theorem ggJ2_compress_39247_J7_copyOfRange_39247 : GoodIn wsJ2_compress_39247 wsJ7_copyOfRange_39247 := goodIn_r _ [34, 35, 36, 37, 38, 39, 40, 41, 42, 33, 43, 1, 44, 45, 46, 47, 48, 49, 50, 51, 52, 53, 54, 55, 56, 57, 58, 59, 60, 61] (by decide +kernel) (by decide +kernel)
set_option maxRecDepth 20000 in
theorem gJ2_compress_39247_J7_copyOfRange_39247 : GoodIn wsJ2_compress_39247 (va_wsS RJ2 126 yJ7_copyOfRange_39247 wsJ7_copyOfRange_39247) := goodIn_app (goodIn_of _ (by decide +kernel)) ggJ2_compress_39247_J7_copyOfRange_39247
set_option maxRecDepth 20000 in
theorem ggJ2_compress_39247_J2_getChar_3b067 : GoodIn wsJ2_compress_39247 wsJ2_getChar_3b067 := goodIn_r _ [23, 24, 25, 26, 9, 10, 4, 11] (by decide +kernel) (by decide +kernel)
set_option maxRecDepth 20000 in
theorem gJ2_compress_39247_J2_getChar_3b067 : GoodIn wsJ2_compress_39247 (va_wsS RJ2 71 yJ2_getChar_3b067 wsJ2_getChar_3b067) := goodIn_app (goodIn_of _ (by decide +kernel)) ggJ2_compress_39247_J2_getChar_3b067
set_option maxRecDepth 20000 in
theorem ggJ2_compress_5af95_J2_checkBoundsOffCount_d044e : GoodIn wsJ2_compress_5af95 wsJ2_checkBoundsOffCount_d044e := goodIn_r _ [4, 5, 6, 3, 7, 8, 9, 10, 11, 12, 13, 14, 15, 16] (by decide +kernel) (by decide +kernel)
set_option maxRecDepth 20000 in
theorem gJ2_compress_5af95_J2_checkBoundsOffCount_d044e : GoodIn wsJ2_compress_5af95 (va_wsS RJ2 173 yJ2_checkBoundsOffCount_d044e wsJ2_checkBoundsOffCount_d044e) := goodIn_app (goodIn_of _ (by decide +kernel)) ggJ2_compress_5af95_J2_checkBoundsOffCount_d044e
set_option maxRecDepth 20000 in
theorem ggJ2_compress_5af95_J2_getChar_3b067 : GoodIn wsJ2_compress_5af95 wsJ2_getChar_3b067 := goodIn_r _ [19, 20, 21, 22, 5, 6, 3, 7] (by decide +kernel) (by decide +kernel)
set_option maxRecDepth 20000 in
theorem gJ2_compress_5af95_J2_getChar_3b067 : GoodIn wsJ2_compress_5af95 (va_wsS RJ2 71 yJ2_getChar_3b067 wsJ2_getChar_3b067) := goodIn_app (goodIn_of _ (by decide +kernel)) ggJ2_compress_5af95_J2_getChar_3b067
set_option maxRecDepth 20000 in
theorem ggJ2_indexOf_4cfef_J2_indexOfChar_4cfef : GoodIn wsJ2_indexOf_4cfef wsJ2_indexOfChar_4cfef := goodIn_r _ [12, 13, 14, 11, 15, 16, 17, 18, 19, 20, 21, 22, 23, 24, 25, 26, 27, 28, 29, 30, 31, 32, 33, 34, 35, 36] (by decide +kernel) (by decide +kernel)
set_option maxRecDepth 20000 in
theorem gJ2_indexOf_4cfef_J2_indexOfChar_4cfef : GoodIn wsJ2_indexOf_4cfef (va_wsS RJ2 228 yJ2_indexOfChar_4cfef wsJ2_indexOfChar_4cfef) := goodIn_app (goodIn_of _ (by decide +kernel)) ggJ2_indexOf_4cfef_J2_indexOfChar_4cfef
set_option maxRecDepth 20000 in
theorem ggJ2_indexOf_4cfef_J2_indexOfSupplementary_4cfef : GoodIn wsJ2_indexOf_4cfef wsJ2_indexOfSupplementary_4cfef := goodIn_r _ [39, 40, 41, 42, 43, 44, 45, 46, 47, 48, 49, 50, 51, 13, 14, 11, 15, 16, 17, 18, 19, 20, 21, 22, 23, 24, 25, 26, 27, 31, 32, 33, 34, 35, 36] (by decide +kernel) (by decide +kernel)
set_option maxRecDepth 20000 in
theorem gJ2_indexOf_4cfef_J2_indexOfSupplementary_4cfef : GoodIn wsJ2_indexOf_4cfef (va_wsS RJ2 232 yJ2_indexOfSupplementary_4cfef wsJ2_indexOfSupplementary_4cfef) := goodIn_app (goodIn_of _ (by decide +kernel)) ggJ2_indexOf_4cfef_J2_indexOfSupplementary_4cfef
set_option maxRecDepth 20000 in
theorem ggJ2_indexOfChar_4cfef_J2_checkBoundsBeginEnd_d044e : GoodIn wsJ2_indexOfChar_4cfef wsJ2_checkBoundsBeginEnd_d044e := goodIn_r _ [4, 5, 6, 3, 7, 8, 9, 10, 11, 12, 13, 14, 15, 16] (by decide +kernel) (by decide +kernel)
set_option maxRecDepth 20000 in
theorem gJ2_indexOfChar_4cfef_J2_checkBoundsBeginEnd_d044e : GoodIn wsJ2_indexOfChar_4cfef (va_wsS RJ2 96 yJ2_checkBoundsBeginEnd_d044e wsJ2_checkBoundsBeginEnd_d044e) := goodIn_app (goodIn_of _ (by decide +kernel)) ggJ2_indexOfChar_4cfef_J2_checkBoundsBeginEnd_d044e
set_option maxRecDepth 20000 in
theorem ggJ2_indexOfChar_4cfef_J2_indexOfCharUnsafe_4cfef : GoodIn wsJ2_indexOfChar_4cfef wsJ2_indexOfCharUnsafe_4cfef := goodIn_r _ [19, 20, 21, 3, 22, 23, 24, 25, 5, 6, 7] (by decide +kernel) (by decide +kernel)
set_option maxRecDepth 20000 in
theorem gJ2_indexOfChar_4cfef_J2_indexOfCharUnsafe_4cfef : GoodIn wsJ2_indexOfChar_4cfef (va_wsS RJ2 244 yJ2_indexOfCharUnsafe_4cfef wsJ2_indexOfCharUnsafe_4cfef) := goodIn_app (goodIn_of _ (by decide +kernel)) ggJ2_indexOfChar_4cfef_J2_indexOfCharUnsafe_4cfef
set_option maxRecDepth 20000 in
theorem ggJ2_indexOfCharUnsafe_4cfef_J2_getChar_3b067 : GoodIn wsJ2_indexOfCharUnsafe_4cfef wsJ2_getChar_3b067 := goodIn_r _ [4, 5, 6, 7, 8, 9, 3, 10] (by decide +kernel) (by decide +kernel)
set_option maxRecDepth 20000 in
theorem gJ2_indexOfCharUnsafe_4cfef_J2_getChar_3b067 : GoodIn wsJ2_indexOfCharUnsafe_4cfef (va_wsS RJ2 71 yJ2_getChar_3b067 wsJ2_getChar_3b067) := goodIn_app (goodIn_of _ (by decide +kernel)) ggJ2_indexOfCharUnsafe_4cfef_J2_getChar_3b067
set_option maxRecDepth 20000 in
theorem ggJ2_indexOfSupplementary_4cfef_J11_isValidCodePoint_9a6ad : GoodIn wsJ2_indexOfSupplementary_4cfef wsJ11_isValidCodePoint_9a6ad := goodIn_r _ [4] (by decide +kernel) (by decide +kernel)
set_option maxRecDepth 20000 in
theorem gJ2_indexOfSupplementary_4cfef_J11_isValidCodePoint_9a6ad : GoodIn wsJ2_indexOfSupplementary_4cfef (va_wsS RJ2 164 yJ11_isValidCodePoint_9a6ad wsJ11_isValidCodePoint_9a6ad) := goodIn_app (goodIn_of _ (by decide +kernel)) ggJ2_indexOfSupplementary_4cfef_J11_isValidCodePoint_9a6ad
set_option maxRecDepth 20000 in
theorem ggJ2_indexOfSupplementary_4cfef_J11_highSurrogate_5068e : GoodIn wsJ2_indexOfSupplementary_4cfef wsJ11_highSurrogate_5068e := goodIn_r _ [7, 8] (by decide +kernel) (by decide +kernel)
set_option maxRecDepth 20000 in
theorem gJ2_indexOfSupplementary_4cfef_J11_highSurrogate_5068e : GoodIn wsJ2_indexOfSupplementary_4cfef (va_wsS RJ2 157 yJ11_highSurrogate_5068e wsJ11_highSurrogate_5068e) := goodIn_app (goodIn_of _ (by decide +kernel)) ggJ2_indexOfSupplementary_4cfef_J11_highSurrogate_5068e
set_option maxRecDepth 20000 in
theorem ggJ2_indexOfSupplementary_4cfef_J11_lowSurrogate_5068e : GoodIn wsJ2_indexOfSupplementary_4cfef wsJ11_lowSurrogate_5068e := goodIn_r _ [11, 12] (by decide +kernel) (by decide +kernel)
set_option maxRecDepth 20000 in
theorem gJ2_indexOfSupplementary_4cfef_J11_lowSurrogate_5068e : GoodIn wsJ2_indexOfSupplementary_4cfef (va_wsS RJ2 161 yJ11_lowSurrogate_5068e wsJ11_lowSurrogate_5068e) := goodIn_app (goodIn_of _ (by decide +kernel)) ggJ2_indexOfSupplementary_4cfef_J11_lowSurrogate_5068e
set_option maxRecDepth 20000 in
theorem ggJ2_indexOfSupplementary_4cfef_J2_checkBoundsBeginEnd_d044e : GoodIn wsJ2_indexOfSupplementary_4cfef wsJ2_checkBoundsBeginEnd_d044e := goodIn_r _ [16, 17, 18, 15, 19, 20, 21, 22, 23, 24, 25, 26, 27, 28] (by decide +kernel) (by decide +kernel)
set_option maxRecDepth 20000 in
theorem gJ2_indexOfSupplementary_4cfef_J2_checkBoundsBeginEnd_d044e : GoodIn wsJ2_indexOfSupplementary_4cfef (va_wsS RJ2 96 yJ2_checkBoundsBeginEnd_d044e wsJ2_checkBoundsBeginEnd_d044e) := goodIn_app (goodIn_of _ (by decide +kernel)) ggJ2_indexOfSupplementary_4cfef_J2_checkBoundsBeginEnd_d044e
set_option maxRecDepth 20000 in
theorem ggJ2_indexOfSupplementary_4cfef_J2_getChar_3b067 : GoodIn wsJ2_indexOfSupplementary_4cfef wsJ2_getChar_3b067 := goodIn_r _ [31, 32, 33, 34, 17, 18, 15, 19] (by decide +kernel) (by decide +kernel)
set_option maxRecDepth 20000 in
theorem gJ2_indexOfSupplementary_4cfef_J2_getChar_3b067 : GoodIn wsJ2_indexOfSupplementary_4cfef (va_wsS RJ2 71 yJ2_getChar_3b067 wsJ2_getChar_3b067) := goodIn_app (goodIn_of _ (by decide +kernel)) ggJ2_indexOfSupplementary_4cfef_J2_getChar_3b067
set_option maxRecDepth 20000 in
theorem ggJ2_fillNull_b72d1_J7_fill_eb02e : GoodIn wsJ2_fillNull_b72d1 wsJ7_fill_eb02e := goodIn_r _ [4, 5, 6, 3, 7, 8, 9, 10, 11, 12, 13, 14, 15, 16, 17, 18, 19, 20, 21, 22, 23] (by decide +kernel) (by decide +kernel)
set_option maxRecDepth 20000 in
theorem gJ2_fillNull_b72d1_J7_fill_eb02e : GoodIn wsJ2_fillNull_b72d1 (va_wsS RJ2 380 yJ7_fill_eb02e wsJ7_fill_eb02e) := goodIn_app (goodIn_of _ (by decide +kernel)) ggJ2_fillNull_b72d1_J7_fill_eb02e
set_option maxRecDepth 20000 in
theorem ggJ2_putCharSB_b72d1_J2_checkIndex_2214a : GoodIn wsJ2_putCharSB_b72d1 wsJ2_checkIndex_2214a := goodIn_r _ [4, 5, 6, 3, 7, 8, 9, 10, 11, 12, 13, 14, 15, 16] (by decide +kernel) (by decide +kernel)
set_option maxRecDepth 20000 in
theorem gJ2_putCharSB_b72d1_J2_checkIndex_2214a : GoodIn wsJ2_putCharSB_b72d1 (va_wsS RJ2 67 yJ2_checkIndex_2214a wsJ2_checkIndex_2214a) := goodIn_app (goodIn_of _ (by decide +kernel)) ggJ2_putCharSB_b72d1_J2_checkIndex_2214a
set_option maxRecDepth 20000 in
theorem ggJ2_putCharSB_b72d1_J2_putChar_b72d1 : GoodIn wsJ2_putCharSB_b72d1 wsJ2_putChar_b72d1 := goodIn_r _ [19, 20, 21, 22, 5, 6, 3, 7] (by decide +kernel) (by decide +kernel)
set_option maxRecDepth 20000 in
theorem gJ2_putCharSB_b72d1_J2_putChar_b72d1 : GoodIn wsJ2_putCharSB_b72d1 (va_wsS RJ2 111 yJ2_putChar_b72d1 wsJ2_putChar_b72d1) := goodIn_app (goodIn_of _ (by decide +kernel)) ggJ2_putCharSB_b72d1_J2_putChar_b72d1
set_option maxRecDepth 20000 in
theorem ggJ2_getChars_46870_J2_checkBoundsBeginEnd_d044e : GoodIn wsJ2_getChars_46870 wsJ2_checkBoundsBeginEnd_d044e := goodIn_r _ [5, 6, 7, 4, 8, 9, 10, 11, 12, 13, 14, 15, 16, 17] (by decide +kernel) (by decide +kernel)
set_option maxRecDepth 20000 in
theorem gJ2_getChars_46870_J2_checkBoundsBeginEnd_d044e : GoodIn wsJ2_getChars_46870 (va_wsS RJ2 96 yJ2_checkBoundsBeginEnd_d044e wsJ2_checkBoundsBeginEnd_d044e) := goodIn_app (goodIn_of _ (by decide +kernel)) ggJ2_getChars_46870_J2_checkBoundsBeginEnd_d044e
set_option maxRecDepth 20000 in
theorem ggJ2_getChars_46870_J2_getChars_ba4f3 : GoodIn wsJ2_getChars_46870 wsJ2_getChars_ba4f3 := goodIn_r _ [20, 21, 22, 23, 24, 4, 25, 1, 26, 27, 6, 7, 8] (by decide +kernel) (by decide +kernel)
set_option maxRecDepth 20000 in
theorem gJ2_getChars_46870_J2_getChars_ba4f3 : GoodIn wsJ2_getChars_46870 (va_wsS RJ2 393 yJ2_getChars_ba4f3 wsJ2_getChars_ba4f3) := goodIn_app (goodIn_of _ (by decide +kernel)) ggJ2_getChars_46870_J2_getChars_ba4f3
set_option maxRecDepth 20000 in
theorem ggJ2_putCharsAt_cd4e5_J2_checkBoundsBeginEnd_d044e : GoodIn wsJ2_putCharsAt_cd4e5 wsJ2_checkBoundsBeginEnd_d044e := goodIn_r _ [5, 6, 7, 4, 8, 9, 10, 11, 12, 13, 14, 15, 16, 17] (by decide +kernel) (by decide +kernel)
set_option maxRecDepth 20000 in
theorem gJ2_putCharsAt_cd4e5_J2_checkBoundsBeginEnd_d044e : GoodIn wsJ2_putCharsAt_cd4e5 (va_wsS RJ2 96 yJ2_checkBoundsBeginEnd_d044e wsJ2_checkBoundsBeginEnd_d044e) := goodIn_app (goodIn_of _ (by decide +kernel)) ggJ2_putCharsAt_cd4e5_J2_checkBoundsBeginEnd_d044e
set_option maxRecDepth 20000 in
theorem ggJ2_putCharsAt_cd4e5_J2_putChar_b72d1 : GoodIn wsJ2_putCharsAt_cd4e5 wsJ2_putChar_b72d1 := goodIn_r _ [20, 1, 21, 22, 6, 7, 4, 8] (by decide +kernel) (by decide +kernel)
set_option maxRecDepth 20000 in
theorem gJ2_putCharsAt_cd4e5_J2_putChar_b72d1 : GoodIn wsJ2_putCharsAt_cd4e5 (va_wsS RJ2 111 yJ2_putChar_b72d1 wsJ2_putChar_b72d1) := goodIn_app (goodIn_of _ (by decide +kernel)) ggJ2_putCharsAt_cd4e5_J2_putChar_b72d1
set_option maxRecDepth 20000 in
theorem ggJ2_inflate_0e8fd_J2_checkBoundsOffCount_d044e : GoodIn wsJ2_inflate_0e8fd wsJ2_checkBoundsOffCount_d044e := goodIn_r _ [4, 5, 6, 3, 7, 8, 9, 10, 11, 12, 13, 14, 15, 16] (by decide +kernel) (by decide +kernel)
set_option maxRecDepth 20000 in
theorem gJ2_inflate_0e8fd_J2_checkBoundsOffCount_d044e : GoodIn wsJ2_inflate_0e8fd (va_wsS RJ2 173 yJ2_checkBoundsOffCount_d044e wsJ2_checkBoundsOffCount_d044e) := goodIn_app (goodIn_of _ (by decide +kernel)) ggJ2_inflate_0e8fd_J2_checkBoundsOffCount_d044e
set_option maxRecDepth 20000 in
theorem ggJ2_inflate_0e8fd_J2_putChar_b72d1 : GoodIn wsJ2_inflate_0e8fd wsJ2_putChar_b72d1 := goodIn_r _ [19, 20, 21, 22, 5, 6, 3, 7] (by decide +kernel) (by decide +kernel)
set_option maxRecDepth 20000 in
theorem gJ2_inflate_0e8fd_J2_putChar_b72d1 : GoodIn wsJ2_inflate_0e8fd (va_wsS RJ2 111 yJ2_putChar_b72d1 wsJ2_putChar_b72d1) := goodIn_app (goodIn_of _ (by decide +kernel)) ggJ2_inflate_0e8fd_J2_putChar_b72d1
set_option maxRecDepth 20000 in
theorem ggJ2_getChars_ba4f3_J2_putChar_b72d1 : GoodIn wsJ2_getChars_ba4f3 wsJ2_putChar_b72d1 := goodIn_r _ [6, 7, 8, 9, 10, 11, 5, 12] (by decide +kernel) (by decide +kernel)
set_option maxRecDepth 20000 in
theorem gJ2_getChars_ba4f3_J2_putChar_b72d1 : GoodIn wsJ2_getChars_ba4f3 (va_wsS RJ2 111 yJ2_putChar_b72d1 wsJ2_putChar_b72d1) := goodIn_app (goodIn_of _ (by decide +kernel)) ggJ2_getChars_ba4f3_J2_putChar_b72d1
set_option maxRecDepth 20000 in
theorem ggJ2_checkIndex_2214a_J2_length_9d52b : GoodIn wsJ2_checkIndex_2214a wsJ2_length_9d52b := goodIn_r _ [4] (by decide +kernel) (by decide +kernel)
set_option maxRecDepth 20000 in
theorem gJ2_checkIndex_2214a_J2_length_9d52b : GoodIn wsJ2_checkIndex_2214a (va_wsS RJ2 48 yJ2_length_9d52b wsJ2_length_9d52b) := goodIn_app (goodIn_of _ (by decide +kernel)) ggJ2_checkIndex_2214a_J2_length_9d52b
set_option maxRecDepth 20000 in
theorem ggJ2_checkIndex_2214a_J0_checkIndex_df160 : GoodIn wsJ2_checkIndex_2214a wsJ0_checkIndex_df160 := goodIn_r _ [8, 9, 10, 11, 12, 13] (by decide +kernel) (by decide +kernel)
set_option maxRecDepth 20000 in
theorem gJ2_checkIndex_2214a_J0_checkIndex_df160 : GoodIn wsJ2_checkIndex_2214a (va_wsS RJ2 414 yJ0_checkIndex_df160 wsJ0_checkIndex_df160) := goodIn_app (goodIn_of _ (by decide +kernel)) ggJ2_checkIndex_2214a_J0_checkIndex_df160
set_option maxRecDepth 20000 in
theorem ggJ2_checkBoundsBeginEnd_d044e_J2_length_9d52b : GoodIn wsJ2_checkBoundsBeginEnd_d044e wsJ2_length_9d52b := goodIn_r _ [4] (by decide +kernel) (by decide +kernel)
set_option maxRecDepth 20000 in
theorem gJ2_checkBoundsBeginEnd_d044e_J2_length_9d52b : GoodIn wsJ2_checkBoundsBeginEnd_d044e (va_wsS RJ2 48 yJ2_length_9d52b wsJ2_length_9d52b) := goodIn_app (goodIn_of _ (by decide +kernel)) ggJ2_checkBoundsBeginEnd_d044e_J2_length_9d52b
set_option maxRecDepth 20000 in
theorem ggJ2_checkBoundsBeginEnd_d044e_J0_checkBoundsBeginEnd_23922 : GoodIn wsJ2_checkBoundsBeginEnd_d044e wsJ0_checkBoundsBeginEnd_23922 := goodIn_r _ [8, 9, 10, 11, 12, 13] (by decide +kernel) (by decide +kernel)
set_option maxRecDepth 20000 in
theorem gJ2_checkBoundsBeginEnd_d044e_J0_checkBoundsBeginEnd_23922 : GoodIn wsJ2_checkBoundsBeginEnd_d044e (va_wsS RJ2 241 yJ0_checkBoundsBeginEnd_23922 wsJ0_checkBoundsBeginEnd_23922) := goodIn_app (goodIn_of _ (by decide +kernel)) ggJ2_checkBoundsBeginEnd_d044e_J0_checkBoundsBeginEnd_23922
set_option maxRecDepth 20000 in
theorem ggJ2_checkBoundsOffCount_d044e_J2_length_9d52b : GoodIn wsJ2_checkBoundsOffCount_d044e wsJ2_length_9d52b := goodIn_r _ [4] (by decide +kernel) (by decide +kernel)
set_option maxRecDepth 20000 in
theorem gJ2_checkBoundsOffCount_d044e_J2_length_9d52b : GoodIn wsJ2_checkBoundsOffCount_d044e (va_wsS RJ2 48 yJ2_length_9d52b wsJ2_length_9d52b) := goodIn_app (goodIn_of _ (by decide +kernel)) ggJ2_checkBoundsOffCount_d044e_J2_length_9d52b
set_option maxRecDepth 20000 in
theorem ggJ2_checkBoundsOffCount_d044e_J0_checkBoundsOffCount_cabcc : GoodIn wsJ2_checkBoundsOffCount_d044e wsJ0_checkBoundsOffCount_cabcc := goodIn_r _ [8, 9, 10, 11, 12, 13] (by decide +kernel) (by decide +kernel)
set_option maxRecDepth 20000 in
theorem gJ2_checkBoundsOffCount_d044e_J0_checkBoundsOffCount_cabcc : GoodIn wsJ2_checkBoundsOffCount_d044e (va_wsS RJ2 419 yJ0_checkBoundsOffCount_cabcc wsJ0_checkBoundsOffCount_cabcc) := goodIn_app (goodIn_of _ (by decide +kernel)) ggJ2_checkBoundsOffCount_d044e_J0_checkBoundsOffCount_cabcc
set_option maxRecDepth 20000 in
theorem ggJ7_fill_eb02e_J7_rangeCheck_23922 : GoodIn wsJ7_fill_eb02e wsJ7_rangeCheck_23922 := goodIn_r _ [4, 5, 6, 7, 8, 9, 10, 11, 12, 13, 14, 15, 16, 17, 18, 19, 20] (by decide +kernel) (by decide +kernel)
set_option maxRecDepth 20000 in
theorem gJ7_fill_eb02e_J7_rangeCheck_23922 : GoodIn wsJ7_fill_eb02e (va_wsS RJ7 13 yJ7_rangeCheck_23922 wsJ7_rangeCheck_23922) := goodIn_app (goodIn_of _ (by decide +kernel)) ggJ7_fill_eb02e_J7_rangeCheck_23922
set_option maxRecDepth 20000 in
theorem ggJ7_copyOfRange_39247_J7_copyOfRangeByte_39247 : GoodIn wsJ7_copyOfRange_39247 wsJ7_copyOfRangeByte_39247 := goodIn_r _ [10, 11, 12, 13, 14, 15, 16, 17, 18, 19, 20, 21, 9, 22, 23, 24, 25, 26, 27, 28, 29] (by decide +kernel) (by decide +kernel)
set_option maxRecDepth 20000 in
theorem gJ7_copyOfRange_39247_J7_copyOfRangeByte_39247 : GoodIn wsJ7_copyOfRange_39247 (va_wsS RJ7 339 yJ7_copyOfRangeByte_39247 wsJ7_copyOfRangeByte_39247) := goodIn_app (goodIn_of _ (by decide +kernel)) ggJ7_copyOfRange_39247_J7_copyOfRangeByte_39247
set_option maxRecDepth 20000 in
theorem ggJ7_copyOfRangeByte_39247_J7_checkLength_df160 : GoodIn wsJ7_copyOfRangeByte_39247 wsJ7_checkLength_df160 := goodIn_r _ [13, 14, 15, 16, 17, 18, 19, 20] (by decide +kernel) (by decide +kernel)
set_option maxRecDepth 20000 in
theorem gJ7_copyOfRangeByte_39247_J7_checkLength_df160 : GoodIn wsJ7_copyOfRangeByte_39247 (va_wsS RJ7 343 yJ7_checkLength_df160 wsJ7_checkLength_df160) := goodIn_app (goodIn_of _ (by decide +kernel)) ggJ7_copyOfRangeByte_39247_J7_checkLength_df160
set_option maxRecDepth 20000 in
theorem ggJ8_newLength_cabcc_J8_hugeLength_7cf53 : GoodIn wsJ8_newLength_cabcc wsJ8_hugeLength_7cf53 := goodIn_r _ [9, 5] (by decide +kernel) (by decide +kernel)
set_option maxRecDepth 20000 in
theorem gJ8_newLength_cabcc_J8_hugeLength_7cf53 : GoodIn wsJ8_newLength_cabcc (va_wsS RJ8 201 yJ8_hugeLength_7cf53 wsJ8_hugeLength_7cf53) := goodIn_app (goodIn_of _ (by decide +kernel)) ggJ8_newLength_cabcc_J8_hugeLength_7cf53
theorem dX0_init_0 : decode cX0_init 0 = .ok (.aload_n 0, 1) := by decide +kernel
theorem dX0_init_1 : decode cX0_init 1 = .ok (.invokespecial 3, 3) := by decide +kernel
theorem dX0_init_4 : decode cX0_init 4 = .ok (.aload_n 0, 1) := by decide +kernel
theorem dX0_init_5 : decode cX0_init 5 = .ok (.bipush 24, 2) := by decide +kernel
theorem dX0_init_7 : decode cX0_init 7 = .ok (.newarray .int, 2) := by decide +kernel
theorem dX0_init_9 : decode cX0_init 9 = .ok (.putfield 9, 3) := by decide +kernel
theorem dX0_init_12 : decode cX0_init 12 = .ok (.aload_n 0, 1) := by decide +kernel
theorem dX0_init_13 : decode cX0_init 13 = .ok (.bipush 24, 2) := by decide +kernel
theorem dX0_init_15 : decode cX0_init 15 = .ok (.newarray .int, 2) := by decide +kernel
theorem dX0_init_17 : decode cX0_init 17 = .ok (.putfield 15, 3) := by decide +kernel
theorem dX0_init_20 : decode cX0_init 20 = .ok (.aload_n 0, 1) := by decide +kernel
theorem dX0_init_21 : decode cX0_init 21 = .ok (.iconst 0, 1) := by decide +kernel
theorem dX0_init_22 : decode cX0_init 22 = .ok (.putfield 18, 3) := by decide +kernel
theorem dX0_init_25 : decode cX0_init 25 = .ok (.aload_n 0, 1) := by decide +kernel
theorem dX0_init_26 : decode cX0_init 26 = .ok (.iconst 0, 1) := by decide +kernel
theorem dX0_init_27 : decode cX0_init 27 = .ok (.putfield 22, 3) := by decide +kernel
theorem dX0_init_30 : decode cX0_init 30 = .ok (.return_, 1) := by decide +kernel
theorem dX0_copyFrom_0 : decode cX0_copyFrom 0 = .ok (.aload_n 1, 1) := by decide +kernel
theorem dX0_copyFrom_1 : decode cX0_copyFrom 1 = .ok (.getfield 9, 3) := by decide +kernel
theorem dX0_copyFrom_4 : decode cX0_copyFrom 4 = .ok (.iconst 0, 1) := by decide +kernel
theorem dX0_copyFrom_5 : decode cX0_copyFrom 5 = .ok (.aload_n 0, 1) := by decide +kernel
theorem dX0_copyFrom_6 : decode cX0_copyFrom 6 = .ok (.getfield 9, 3) := by decide +kernel
theorem dX0_copyFrom_9 : decode cX0_copyFrom 9 = .ok (.iconst 0, 1) := by decide +kernel
theorem dX0_copyFrom_10 : decode cX0_copyFrom 10 = .ok (.bipush 24, 2) := by decide +kernel
theorem dX0_copyFrom_12 : decode cX0_copyFrom 12 = .ok (.invokestatic 25, 3) := by decide +kernel
theorem dX0_copyFrom_15 : decode cX0_copyFrom 15 = .ok (.aload_n 1, 1) := by decide +kernel
theorem dX0_copyFrom_16 : decode cX0_copyFrom 16 = .ok (.getfield 15, 3) := by decide +kernel
theorem dX0_copyFrom_19 : decode cX0_copyFrom 19 = .ok (.iconst 0, 1) := by decide +kernel
theorem dX0_copyFrom_20 : decode cX0_copyFrom 20 = .ok (.aload_n 0, 1) := by decide +kernel
theorem dX0_copyFrom_21 : decode cX0_copyFrom 21 = .ok (.getfield 15, 3) := by decide +kernel
theorem dX0_copyFrom_24 : decode cX0_copyFrom 24 = .ok (.iconst 0, 1) := by decide +kernel
theorem dX0_copyFrom_25 : decode cX0_copyFrom 25 = .ok (.bipush 24, 2) := by decide +kernel
theorem dX0_copyFrom_27 : decode cX0_copyFrom 27 = .ok (.invokestatic 25, 3) := by decide +kernel
theorem dX0_copyFrom_30 : decode cX0_copyFrom 30 = .ok (.aload_n 0, 1) := by decide +kernel
theorem dX0_copyFrom_31 : decode cX0_copyFrom 31 = .ok (.aload_n 1, 1) := by decide +kernel
theorem dX0_copyFrom_32 : decode cX0_copyFrom 32 = .ok (.getfield 18, 3) := by decide +kernel
theorem dX0_copyFrom_35 : decode cX0_copyFrom 35 = .ok (.putfield 18, 3) := by decide +kernel
theorem dX0_copyFrom_38 : decode cX0_copyFrom 38 = .ok (.aload_n 0, 1) := by decide +kernel
theorem dX0_copyFrom_39 : decode cX0_copyFrom 39 = .ok (.aload_n 1, 1) := by decide +kernel
theorem dX0_copyFrom_40 : decode cX0_copyFrom 40 = .ok (.getfield 22, 3) := by decide +kernel
theorem dX0_copyFrom_43 : decode cX0_copyFrom 43 = .ok (.putfield 22, 3) := by decide +kernel
theorem dX0_copyFrom_46 : decode cX0_copyFrom 46 = .ok (.return_, 1) := by decide +kernel
theorem dX0_works_0 : decode cX0_works 0 = .ok (.aload_n 0, 1) := by decide +kernel
theorem dX0_works_1 : decode cX0_works 1 = .ok (.getfield 18, 3) := by decide +kernel
theorem dX0_works_4 : decode cX0_works 4 = .ok (.iload_n 1, 1) := by decide +kernel
theorem dX0_works_5 : decode cX0_works 5 = .ok (.invokestatic 31, 3) := by decide +kernel
theorem dX0_works_8 : decode cX0_works 8 = .ok (.ireturn, 1) := by decide +kernel
theorem dX0_isHeld_0 : decode cX0_isHeld 0 = .ok (.aload_n 0, 1) := by decide +kernel
theorem dX0_isHeld_1 : decode cX0_isHeld 1 = .ok (.getfield 22, 3) := by decide +kernel
theorem dX0_isHeld_4 : decode cX0_isHeld 4 = .ok (.iload_n 1, 1) := by decide +kernel
theorem dX0_isHeld_5 : decode cX0_isHeld 5 = .ok (.invokestatic 31, 3) := by decide +kernel
theorem dX0_isHeld_8 : decode cX0_isHeld 8 = .ok (.ireturn, 1) := by decide +kernel
theorem dX0_countInWork_0 : decode cX0_countInWork 0 = .ok (.aload_n 0, 1) := by decide +kernel
theorem dX0_countInWork_1 : decode cX0_countInWork 1 = .ok (.getfield 18, 3) := by decide +kernel
theorem dX0_countInWork_4 : decode cX0_countInWork 4 = .ok (.invokestatic 35, 3) := by decide +kernel
theorem dX0_countInWork_7 : decode cX0_countInWork 7 = .ok (.ireturn, 1) := by decide +kernel
theorem dX0_countHeld_0 : decode cX0_countHeld 0 = .ok (.aload_n 0, 1) := by decide +kernel
theorem dX0_countHeld_1 : decode cX0_countHeld 1 = .ok (.getfield 22, 3) := by decide +kernel
theorem dX0_countHeld_4 : decode cX0_countHeld 4 = .ok (.invokestatic 35, 3) := by decide +kernel
theorem dX0_countHeld_7 : decode cX0_countHeld 7 = .ok (.ireturn, 1) := by decide +kernel
theorem dX0_countLoops_0 : decode cX0_countLoops 0 = .ok (.iconst 0, 1) := by decide +kernel
theorem dX0_countLoops_1 : decode cX0_countLoops 1 = .ok (.istore_n 1, 1) := by decide +kernel
theorem dX0_countLoops_2 : decode cX0_countLoops 2 = .ok (.iconst 0, 1) := by decide +kernel
theorem dX0_countLoops_3 : decode cX0_countLoops 3 = .ok (.istore_n 2, 1) := by decide +kernel
theorem dX0_countLoops_4 : decode cX0_countLoops 4 = .ok (.iload_n 2, 1) := by decide +kernel
theorem dX0_countLoops_5 : decode cX0_countLoops 5 = .ok (.bipush 24, 2) := by decide +kernel
theorem dX0_countLoops_7 : decode cX0_countLoops 7 = .ok (.if_icmp .ge 18, 3) := by decide +kernel
theorem dX0_countLoops_10 : decode cX0_countLoops 10 = .ok (.iload_n 1, 1) := by decide +kernel
theorem dX0_countLoops_11 : decode cX0_countLoops 11 = .ok (.aload_n 0, 1) := by decide +kernel
theorem dX0_countLoops_12 : decode cX0_countLoops 12 = .ok (.getfield 9, 3) := by decide +kernel
theorem dX0_countLoops_15 : decode cX0_countLoops 15 = .ok (.iload_n 2, 1) := by decide +kernel
theorem dX0_countLoops_16 : decode cX0_countLoops 16 = .ok (.iaload, 1) := by decide +kernel
theorem dX0_countLoops_17 : decode cX0_countLoops 17 = .ok (.iadd, 1) := by decide +kernel
theorem dX0_countLoops_18 : decode cX0_countLoops 18 = .ok (.istore_n 1, 1) := by decide +kernel
theorem dX0_countLoops_19 : decode cX0_countLoops 19 = .ok (.iinc 2 1, 3) := by decide +kernel
theorem dX0_countLoops_22 : decode cX0_countLoops 22 = .ok (.goto (-18), 3) := by decide +kernel
theorem dX0_countLoops_25 : decode cX0_countLoops 25 = .ok (.iload_n 1, 1) := by decide +kernel
theorem dX0_countLoops_26 : decode cX0_countLoops 26 = .ok (.ireturn, 1) := by decide +kernel
theorem dX0_countEmpty_0 : decode cX0_countEmpty 0 = .ok (.aload_n 0, 1) := by decide +kernel
theorem dX0_countEmpty_1 : decode cX0_countEmpty 1 = .ok (.getfield 18, 3) := by decide +kernel
theorem dX0_countEmpty_4 : decode cX0_countEmpty 4 = .ok (.aload_n 0, 1) := by decide +kernel
theorem dX0_countEmpty_5 : decode cX0_countEmpty 5 = .ok (.invokevirtual 41, 3) := by decide +kernel
theorem dX0_countEmpty_8 : decode cX0_countEmpty 8 = .ok (.iconst (-1), 1) := by decide +kernel
theorem dX0_countEmpty_9 : decode cX0_countEmpty 9 = .ok (.ixor, 1) := by decide +kernel
theorem dX0_countEmpty_10 : decode cX0_countEmpty 10 = .ok (.iand, 1) := by decide +kernel
theorem dX0_countEmpty_11 : decode cX0_countEmpty 11 = .ok (.invokestatic 35, 3) := by decide +kernel
theorem dX0_countEmpty_14 : decode cX0_countEmpty 14 = .ok (.ireturn, 1) := by decide +kernel
theorem dX0_loopMask_0 : decode cX0_loopMask 0 = .ok (.iconst 0, 1) := by decide +kernel
theorem dX0_loopMask_1 : decode cX0_loopMask 1 = .ok (.istore_n 1, 1) := by decide +kernel
theorem dX0_loopMask_2 : decode cX0_loopMask 2 = .ok (.iconst 0, 1) := by decide +kernel
theorem dX0_loopMask_3 : decode cX0_loopMask 3 = .ok (.istore_n 2, 1) := by decide +kernel
theorem dX0_loopMask_4 : decode cX0_loopMask 4 = .ok (.iload_n 2, 1) := by decide +kernel
theorem dX0_loopMask_5 : decode cX0_loopMask 5 = .ok (.bipush 24, 2) := by decide +kernel
theorem dX0_loopMask_7 : decode cX0_loopMask 7 = .ok (.if_icmp .ge 24, 3) := by decide +kernel
theorem dX0_loopMask_10 : decode cX0_loopMask 10 = .ok (.aload_n 0, 1) := by decide +kernel
theorem dX0_loopMask_11 : decode cX0_loopMask 11 = .ok (.getfield 9, 3) := by decide +kernel
theorem dX0_loopMask_14 : decode cX0_loopMask 14 = .ok (.iload_n 2, 1) := by decide +kernel
theorem dX0_loopMask_15 : decode cX0_loopMask 15 = .ok (.iaload, 1) := by decide +kernel
theorem dX0_loopMask_16 : decode cX0_loopMask 16 = .ok (.ifCond .le 9, 3) := by decide +kernel
theorem dX0_loopMask_19 : decode cX0_loopMask 19 = .ok (.iload_n 1, 1) := by decide +kernel
theorem dX0_loopMask_20 : decode cX0_loopMask 20 = .ok (.iconst 1, 1) := by decide +kernel
theorem dX0_loopMask_21 : decode cX0_loopMask 21 = .ok (.iload_n 2, 1) := by decide +kernel
theorem dX0_loopMask_22 : decode cX0_loopMask 22 = .ok (.ishl, 1) := by decide +kernel
theorem dX0_loopMask_23 : decode cX0_loopMask 23 = .ok (.ior, 1) := by decide +kernel
theorem dX0_loopMask_24 : decode cX0_loopMask 24 = .ok (.istore_n 1, 1) := by decide +kernel
theorem dX0_loopMask_25 : decode cX0_loopMask 25 = .ok (.iinc 2 1, 3) := by decide +kernel
theorem dX0_loopMask_28 : decode cX0_loopMask 28 = .ok (.goto (-24), 3) := by decide +kernel
theorem dX0_loopMask_31 : decode cX0_loopMask 31 = .ok (.iload_n 1, 1) := by decide +kernel
theorem dX0_loopMask_32 : decode cX0_loopMask 32 = .ok (.ireturn, 1) := by decide +kernel
theorem dX0_firstInWork_0 : decode cX0_firstInWork 0 = .ok (.iload_n 1, 1) := by decide +kernel
theorem dX0_firstInWork_1 : decode cX0_firstInWork 1 = .ok (.istore_n 3, 1) := by decide +kernel
theorem dX0_firstInWork_2 : decode cX0_firstInWork 2 = .ok (.iload_n 3, 1) := by decide +kernel
theorem dX0_firstInWork_3 : decode cX0_firstInWork 3 = .ok (.iload_n 2, 1) := by decide +kernel
theorem dX0_firstInWork_4 : decode cX0_firstInWork 4 = .ok (.if_icmp .gt 19, 3) := by decide +kernel
theorem dX0_firstInWork_7 : decode cX0_firstInWork 7 = .ok (.aload_n 0, 1) := by decide +kernel
theorem dX0_firstInWork_8 : decode cX0_firstInWork 8 = .ok (.iload_n 3, 1) := by decide +kernel
theorem dX0_firstInWork_9 : decode cX0_firstInWork 9 = .ok (.invokevirtual 45, 3) := by decide +kernel
theorem dX0_firstInWork_12 : decode cX0_firstInWork 12 = .ok (.ifCond .eq 5, 3) := by decide +kernel
theorem dX0_firstInWork_15 : decode cX0_firstInWork 15 = .ok (.iload_n 3, 1) := by decide +kernel
theorem dX0_firstInWork_16 : decode cX0_firstInWork 16 = .ok (.ireturn, 1) := by decide +kernel
theorem dX0_firstInWork_17 : decode cX0_firstInWork 17 = .ok (.iinc 3 1, 3) := by decide +kernel
theorem dX0_firstInWork_20 : decode cX0_firstInWork 20 = .ok (.goto (-18), 3) := by decide +kernel
theorem dX0_firstInWork_23 : decode cX0_firstInWork 23 = .ok (.iconst (-1), 1) := by decide +kernel
theorem dX0_firstInWork_24 : decode cX0_firstInWork 24 = .ok (.ireturn, 1) := by decide +kernel
theorem dX0_firstEmptyFrom_0 : decode cX0_firstEmptyFrom 0 = .ok (.iload_n 1, 1) := by decide +kernel
theorem dX0_firstEmptyFrom_1 : decode cX0_firstEmptyFrom 1 = .ok (.istore_n 2, 1) := by decide +kernel
theorem dX0_firstEmptyFrom_2 : decode cX0_firstEmptyFrom 2 = .ok (.iload_n 2, 1) := by decide +kernel
theorem dX0_firstEmptyFrom_3 : decode cX0_firstEmptyFrom 3 = .ok (.bipush 24, 2) := by decide +kernel
theorem dX0_firstEmptyFrom_5 : decode cX0_firstEmptyFrom 5 = .ok (.if_icmp .ge 28, 3) := by decide +kernel
theorem dX0_firstEmptyFrom_8 : decode cX0_firstEmptyFrom 8 = .ok (.aload_n 0, 1) := by decide +kernel
theorem dX0_firstEmptyFrom_9 : decode cX0_firstEmptyFrom 9 = .ok (.iload_n 2, 1) := by decide +kernel
theorem dX0_firstEmptyFrom_10 : decode cX0_firstEmptyFrom 10 = .ok (.invokevirtual 45, 3) := by decide +kernel
theorem dX0_firstEmptyFrom_13 : decode cX0_firstEmptyFrom 13 = .ok (.ifCond .eq 14, 3) := by decide +kernel
theorem dX0_firstEmptyFrom_16 : decode cX0_firstEmptyFrom 16 = .ok (.aload_n 0, 1) := by decide +kernel
theorem dX0_firstEmptyFrom_17 : decode cX0_firstEmptyFrom 17 = .ok (.getfield 9, 3) := by decide +kernel
theorem dX0_firstEmptyFrom_20 : decode cX0_firstEmptyFrom 20 = .ok (.iload_n 2, 1) := by decide +kernel
theorem dX0_firstEmptyFrom_21 : decode cX0_firstEmptyFrom 21 = .ok (.iaload, 1) := by decide +kernel
theorem dX0_firstEmptyFrom_22 : decode cX0_firstEmptyFrom 22 = .ok (.ifCond .ne 5, 3) := by decide +kernel
theorem dX0_firstEmptyFrom_25 : decode cX0_firstEmptyFrom 25 = .ok (.iload_n 2, 1) := by decide +kernel
theorem dX0_firstEmptyFrom_26 : decode cX0_firstEmptyFrom 26 = .ok (.ireturn, 1) := by decide +kernel
theorem dX0_firstEmptyFrom_27 : decode cX0_firstEmptyFrom 27 = .ok (.iinc 2 1, 3) := by decide +kernel
theorem dX0_firstEmptyFrom_30 : decode cX0_firstEmptyFrom 30 = .ok (.goto (-28), 3) := by decide +kernel
theorem dX0_firstEmptyFrom_33 : decode cX0_firstEmptyFrom 33 = .ok (.iconst (-1), 1) := by decide +kernel
theorem dX0_firstEmptyFrom_34 : decode cX0_firstEmptyFrom 34 = .ok (.ireturn, 1) := by decide +kernel
theorem dX0_runByWalking_0 : decode cX0_runByWalking 0 = .ok (.iconst 0, 1) := by decide +kernel
theorem dX0_runByWalking_1 : decode cX0_runByWalking 1 = .ok (.istore_n 1, 1) := by decide +kernel
theorem dX0_runByWalking_2 : decode cX0_runByWalking 2 = .ok (.iconst 0, 1) := by decide +kernel
theorem dX0_runByWalking_3 : decode cX0_runByWalking 3 = .ok (.istore_n 2, 1) := by decide +kernel
theorem dX0_runByWalking_4 : decode cX0_runByWalking 4 = .ok (.iconst 0, 1) := by decide +kernel
theorem dX0_runByWalking_5 : decode cX0_runByWalking 5 = .ok (.istore_n 3, 1) := by decide +kernel
theorem dX0_runByWalking_6 : decode cX0_runByWalking 6 = .ok (.iload_n 3, 1) := by decide +kernel
theorem dX0_runByWalking_7 : decode cX0_runByWalking 7 = .ok (.bipush 24, 2) := by decide +kernel
theorem dX0_runByWalking_9 : decode cX0_runByWalking 9 = .ok (.if_icmp .ge 32, 3) := by decide +kernel
theorem dX0_runByWalking_12 : decode cX0_runByWalking 12 = .ok (.aload_n 0, 1) := by decide +kernel
theorem dX0_runByWalking_13 : decode cX0_runByWalking 13 = .ok (.getfield 9, 3) := by decide +kernel
theorem dX0_runByWalking_16 : decode cX0_runByWalking 16 = .ok (.iload_n 3, 1) := by decide +kernel
theorem dX0_runByWalking_17 : decode cX0_runByWalking 17 = .ok (.iaload, 1) := by decide +kernel
theorem dX0_runByWalking_18 : decode cX0_runByWalking 18 = .ok (.ifCond .le 9, 3) := by decide +kernel
theorem dX0_runByWalking_21 : decode cX0_runByWalking 21 = .ok (.iload_n 2, 1) := by decide +kernel
theorem dX0_runByWalking_22 : decode cX0_runByWalking 22 = .ok (.iconst 1, 1) := by decide +kernel
theorem dX0_runByWalking_23 : decode cX0_runByWalking 23 = .ok (.iadd, 1) := by decide +kernel
theorem dX0_runByWalking_24 : decode cX0_runByWalking 24 = .ok (.goto 4, 3) := by decide +kernel
theorem dX0_runByWalking_27 : decode cX0_runByWalking 27 = .ok (.iconst 0, 1) := by decide +kernel
theorem dX0_runByWalking_28 : decode cX0_runByWalking 28 = .ok (.istore_n 2, 1) := by decide +kernel
theorem dX0_runByWalking_29 : decode cX0_runByWalking 29 = .ok (.iload_n 1, 1) := by decide +kernel
theorem dX0_runByWalking_30 : decode cX0_runByWalking 30 = .ok (.iload_n 2, 1) := by decide +kernel
theorem dX0_runByWalking_31 : decode cX0_runByWalking 31 = .ok (.invokestatic 49, 3) := by decide +kernel
theorem dX0_runByWalking_34 : decode cX0_runByWalking 34 = .ok (.istore_n 1, 1) := by decide +kernel
theorem dX0_runByWalking_35 : decode cX0_runByWalking 35 = .ok (.iinc 3 1, 3) := by decide +kernel
theorem dX0_runByWalking_38 : decode cX0_runByWalking 38 = .ok (.goto (-32), 3) := by decide +kernel
theorem dX0_runByWalking_41 : decode cX0_runByWalking 41 = .ok (.iload_n 1, 1) := by decide +kernel
theorem dX0_runByWalking_42 : decode cX0_runByWalking 42 = .ok (.ireturn, 1) := by decide +kernel
theorem dX0_runByShifting_0 : decode cX0_runByShifting 0 = .ok (.aload_n 0, 1) := by decide +kernel
theorem dX0_runByShifting_1 : decode cX0_runByShifting 1 = .ok (.invokevirtual 41, 3) := by decide +kernel
theorem dX0_runByShifting_4 : decode cX0_runByShifting 4 = .ok (.istore_n 1, 1) := by decide +kernel
theorem dX0_runByShifting_5 : decode cX0_runByShifting 5 = .ok (.iconst 0, 1) := by decide +kernel
theorem dX0_runByShifting_6 : decode cX0_runByShifting 6 = .ok (.istore_n 2, 1) := by decide +kernel
theorem dX0_runByShifting_7 : decode cX0_runByShifting 7 = .ok (.iload_n 2, 1) := by decide +kernel
theorem dX0_runByShifting_8 : decode cX0_runByShifting 8 = .ok (.bipush 24, 2) := by decide +kernel
theorem dX0_runByShifting_10 : decode cX0_runByShifting 10 = .ok (.if_icmp .ge 21, 3) := by decide +kernel
theorem dX0_runByShifting_13 : decode cX0_runByShifting 13 = .ok (.iload_n 1, 1) := by decide +kernel
theorem dX0_runByShifting_14 : decode cX0_runByShifting 14 = .ok (.ifCond .ne 5, 3) := by decide +kernel
theorem dX0_runByShifting_17 : decode cX0_runByShifting 17 = .ok (.iload_n 2, 1) := by decide +kernel
theorem dX0_runByShifting_18 : decode cX0_runByShifting 18 = .ok (.ireturn, 1) := by decide +kernel
theorem dX0_runByShifting_19 : decode cX0_runByShifting 19 = .ok (.iload_n 1, 1) := by decide +kernel
theorem dX0_runByShifting_20 : decode cX0_runByShifting 20 = .ok (.iload_n 1, 1) := by decide +kernel
theorem dX0_runByShifting_21 : decode cX0_runByShifting 21 = .ok (.iconst 1, 1) := by decide +kernel
theorem dX0_runByShifting_22 : decode cX0_runByShifting 22 = .ok (.ishl, 1) := by decide +kernel
theorem dX0_runByShifting_23 : decode cX0_runByShifting 23 = .ok (.iand, 1) := by decide +kernel
theorem dX0_runByShifting_24 : decode cX0_runByShifting 24 = .ok (.istore_n 1, 1) := by decide +kernel
theorem dX0_runByShifting_25 : decode cX0_runByShifting 25 = .ok (.iinc 2 1, 3) := by decide +kernel
theorem dX0_runByShifting_28 : decode cX0_runByShifting 28 = .ok (.goto (-21), 3) := by decide +kernel
theorem dX0_runByShifting_31 : decode cX0_runByShifting 31 = .ok (.bipush 24, 2) := by decide +kernel
theorem dX0_runByShifting_33 : decode cX0_runByShifting 33 = .ok (.ireturn, 1) := by decide +kernel
theorem dX0_knits_0 : decode cX0_knits 0 = .ok (.aload_n 0, 1) := by decide +kernel
theorem dX0_knits_1 : decode cX0_knits 1 = .ok (.getfield 9, 3) := by decide +kernel
theorem dX0_knits_4 : decode cX0_knits 4 = .ok (.iload_n 1, 1) := by decide +kernel
theorem dX0_knits_5 : decode cX0_knits 5 = .ok (.iaload, 1) := by decide +kernel
theorem dX0_knits_6 : decode cX0_knits 6 = .ok (.ifCond .le 36, 3) := by decide +kernel
theorem dX0_knits_9 : decode cX0_knits 9 = .ok (.aload_n 0, 1) := by decide +kernel
theorem dX0_knits_10 : decode cX0_knits 10 = .ok (.getfield 18, 3) := by decide +kernel
theorem dX0_knits_13 : decode cX0_knits 13 = .ok (.aload_n 0, 1) := by decide +kernel
theorem dX0_knits_14 : decode cX0_knits 14 = .ok (.getfield 22, 3) := by decide +kernel
theorem dX0_knits_17 : decode cX0_knits 17 = .ok (.iconst (-1), 1) := by decide +kernel
theorem dX0_knits_18 : decode cX0_knits 18 = .ok (.ixor, 1) := by decide +kernel
theorem dX0_knits_19 : decode cX0_knits 19 = .ok (.iand, 1) := by decide +kernel
theorem dX0_knits_20 : decode cX0_knits 20 = .ok (.iload_n 1, 1) := by decide +kernel
theorem dX0_knits_21 : decode cX0_knits 21 = .ok (.invokestatic 31, 3) := by decide +kernel
theorem dX0_knits_24 : decode cX0_knits 24 = .ok (.ifCond .eq 18, 3) := by decide +kernel
theorem dX0_knits_27 : decode cX0_knits 27 = .ok (.iload_n 2, 1) := by decide +kernel
theorem dX0_knits_28 : decode cX0_knits 28 = .ok (.iload_n 1, 1) := by decide +kernel
theorem dX0_knits_29 : decode cX0_knits 29 = .ok (.bipush 8, 2) := by decide +kernel
theorem dX0_knits_31 : decode cX0_knits 31 = .ok (.irem, 1) := by decide +kernel
theorem dX0_knits_32 : decode cX0_knits 32 = .ok (.invokestatic 31, 3) := by decide +kernel
theorem dX0_knits_35 : decode cX0_knits 35 = .ok (.ifCond .eq 7, 3) := by decide +kernel
theorem dX0_knits_38 : decode cX0_knits 38 = .ok (.iconst 1, 1) := by decide +kernel
theorem dX0_knits_39 : decode cX0_knits 39 = .ok (.goto 4, 3) := by decide +kernel
theorem dX0_knits_42 : decode cX0_knits 42 = .ok (.iconst 0, 1) := by decide +kernel
theorem dX0_knits_43 : decode cX0_knits 43 = .ok (.ireturn, 1) := by decide +kernel
theorem dX0_widthByNeedles_0 : decode cX0_widthByNeedles 0 = .ok (.iconst 0, 1) := by decide +kernel
theorem dX0_widthByNeedles_1 : decode cX0_widthByNeedles 1 = .ok (.istore_n 2, 1) := by decide +kernel
theorem dX0_widthByNeedles_2 : decode cX0_widthByNeedles 2 = .ok (.iconst 0, 1) := by decide +kernel
theorem dX0_widthByNeedles_3 : decode cX0_widthByNeedles 3 = .ok (.istore_n 3, 1) := by decide +kernel
theorem dX0_widthByNeedles_4 : decode cX0_widthByNeedles 4 = .ok (.iload_n 3, 1) := by decide +kernel
theorem dX0_widthByNeedles_5 : decode cX0_widthByNeedles 5 = .ok (.bipush 24, 2) := by decide +kernel
theorem dX0_widthByNeedles_7 : decode cX0_widthByNeedles 7 = .ok (.if_icmp .ge 21, 3) := by decide +kernel
theorem dX0_widthByNeedles_10 : decode cX0_widthByNeedles 10 = .ok (.aload_n 0, 1) := by decide +kernel
theorem dX0_widthByNeedles_11 : decode cX0_widthByNeedles 11 = .ok (.iload_n 3, 1) := by decide +kernel
theorem dX0_widthByNeedles_12 : decode cX0_widthByNeedles 12 = .ok (.iload_n 1, 1) := by decide +kernel
theorem dX0_widthByNeedles_13 : decode cX0_widthByNeedles 13 = .ok (.invokevirtual 55, 3) := by decide +kernel
theorem dX0_widthByNeedles_16 : decode cX0_widthByNeedles 16 = .ok (.ifCond .eq 6, 3) := by decide +kernel
theorem dX0_widthByNeedles_19 : decode cX0_widthByNeedles 19 = .ok (.iinc 2 1, 3) := by decide +kernel
theorem dX0_widthByNeedles_22 : decode cX0_widthByNeedles 22 = .ok (.iinc 3 1, 3) := by decide +kernel
theorem dX0_widthByNeedles_25 : decode cX0_widthByNeedles 25 = .ok (.goto (-21), 3) := by decide +kernel
theorem dX0_widthByNeedles_28 : decode cX0_widthByNeedles 28 = .ok (.iload_n 2, 1) := by decide +kernel
theorem dX0_widthByNeedles_29 : decode cX0_widthByNeedles 29 = .ok (.ireturn, 1) := by decide +kernel
theorem dX0_widthByMasks_0 : decode cX0_widthByMasks 0 = .ok (.iconst 0, 1) := by decide +kernel
theorem dX0_widthByMasks_1 : decode cX0_widthByMasks 1 = .ok (.istore_n 2, 1) := by decide +kernel
theorem dX0_widthByMasks_2 : decode cX0_widthByMasks 2 = .ok (.iconst 0, 1) := by decide +kernel
theorem dX0_widthByMasks_3 : decode cX0_widthByMasks 3 = .ok (.istore_n 3, 1) := by decide +kernel
theorem dX0_widthByMasks_4 : decode cX0_widthByMasks 4 = .ok (.iload_n 3, 1) := by decide +kernel
theorem dX0_widthByMasks_5 : decode cX0_widthByMasks 5 = .ok (.bipush 24, 2) := by decide +kernel
theorem dX0_widthByMasks_7 : decode cX0_widthByMasks 7 = .ok (.if_icmp .ge 15, 3) := by decide +kernel
theorem dX0_widthByMasks_10 : decode cX0_widthByMasks 10 = .ok (.iload_n 2, 1) := by decide +kernel
theorem dX0_widthByMasks_11 : decode cX0_widthByMasks 11 = .ok (.iload_n 1, 1) := by decide +kernel
theorem dX0_widthByMasks_12 : decode cX0_widthByMasks 12 = .ok (.iload_n 3, 1) := by decide +kernel
theorem dX0_widthByMasks_13 : decode cX0_widthByMasks 13 = .ok (.ishl, 1) := by decide +kernel
theorem dX0_widthByMasks_14 : decode cX0_widthByMasks 14 = .ok (.ior, 1) := by decide +kernel
theorem dX0_widthByMasks_15 : decode cX0_widthByMasks 15 = .ok (.istore_n 2, 1) := by decide +kernel
theorem dX0_widthByMasks_16 : decode cX0_widthByMasks 16 = .ok (.iinc 3 8, 3) := by decide +kernel
theorem dX0_widthByMasks_19 : decode cX0_widthByMasks 19 = .ok (.goto (-15), 3) := by decide +kernel
theorem dX0_widthByMasks_22 : decode cX0_widthByMasks 22 = .ok (.aload_n 0, 1) := by decide +kernel
theorem dX0_widthByMasks_23 : decode cX0_widthByMasks 23 = .ok (.getfield 18, 3) := by decide +kernel
theorem dX0_widthByMasks_26 : decode cX0_widthByMasks 26 = .ok (.aload_n 0, 1) := by decide +kernel
theorem dX0_widthByMasks_27 : decode cX0_widthByMasks 27 = .ok (.getfield 22, 3) := by decide +kernel
theorem dX0_widthByMasks_30 : decode cX0_widthByMasks 30 = .ok (.iconst (-1), 1) := by decide +kernel
theorem dX0_widthByMasks_31 : decode cX0_widthByMasks 31 = .ok (.ixor, 1) := by decide +kernel
theorem dX0_widthByMasks_32 : decode cX0_widthByMasks 32 = .ok (.iand, 1) := by decide +kernel
theorem dX0_widthByMasks_33 : decode cX0_widthByMasks 33 = .ok (.aload_n 0, 1) := by decide +kernel
theorem dX0_widthByMasks_34 : decode cX0_widthByMasks 34 = .ok (.invokevirtual 41, 3) := by decide +kernel
theorem dX0_widthByMasks_37 : decode cX0_widthByMasks 37 = .ok (.iand, 1) := by decide +kernel
theorem dX0_widthByMasks_38 : decode cX0_widthByMasks 38 = .ok (.iload_n 2, 1) := by decide +kernel
theorem dX0_widthByMasks_39 : decode cX0_widthByMasks 39 = .ok (.iand, 1) := by decide +kernel
theorem dX0_widthByMasks_40 : decode cX0_widthByMasks 40 = .ok (.invokestatic 35, 3) := by decide +kernel
theorem dX0_widthByMasks_43 : decode cX0_widthByMasks 43 = .ok (.ireturn, 1) := by decide +kernel
theorem dX0_isClearOutOfWork_0 : decode cX0_isClearOutOfWork 0 = .ok (.aload_n 0, 1) := by decide +kernel
theorem dX0_isClearOutOfWork_1 : decode cX0_isClearOutOfWork 1 = .ok (.invokevirtual 41, 3) := by decide +kernel
theorem dX0_isClearOutOfWork_4 : decode cX0_isClearOutOfWork 4 = .ok (.aload_n 0, 1) := by decide +kernel
theorem dX0_isClearOutOfWork_5 : decode cX0_isClearOutOfWork 5 = .ok (.getfield 22, 3) := by decide +kernel
theorem dX0_isClearOutOfWork_8 : decode cX0_isClearOutOfWork 8 = .ok (.ior, 1) := by decide +kernel
theorem dX0_isClearOutOfWork_9 : decode cX0_isClearOutOfWork 9 = .ok (.aload_n 0, 1) := by decide +kernel
theorem dX0_isClearOutOfWork_10 : decode cX0_isClearOutOfWork 10 = .ok (.getfield 18, 3) := by decide +kernel
theorem dX0_isClearOutOfWork_13 : decode cX0_isClearOutOfWork 13 = .ok (.iconst (-1), 1) := by decide +kernel
theorem dX0_isClearOutOfWork_14 : decode cX0_isClearOutOfWork 14 = .ok (.ixor, 1) := by decide +kernel
theorem dX0_isClearOutOfWork_15 : decode cX0_isClearOutOfWork 15 = .ok (.iand, 1) := by decide +kernel
theorem dX0_isClearOutOfWork_16 : decode cX0_isClearOutOfWork 16 = .ok (.ifCond .ne 7, 3) := by decide +kernel
theorem dX0_isClearOutOfWork_19 : decode cX0_isClearOutOfWork 19 = .ok (.iconst 1, 1) := by decide +kernel
theorem dX0_isClearOutOfWork_20 : decode cX0_isClearOutOfWork 20 = .ok (.goto 4, 3) := by decide +kernel
theorem dX0_isClearOutOfWork_23 : decode cX0_isClearOutOfWork 23 = .ok (.iconst 0, 1) := by decide +kernel
theorem dX0_isClearOutOfWork_24 : decode cX0_isClearOutOfWork 24 = .ok (.ireturn, 1) := by decide +kernel
theorem dX0_sign_0 : decode cX0_sign 0 = .ok (.aload_n 0, 1) := by decide +kernel
theorem dX0_sign_1 : decode cX0_sign 1 = .ok (.iload_n 1, 1) := by decide +kernel
theorem dX0_sign_2 : decode cX0_sign 2 = .ok (.invokevirtual 45, 3) := by decide +kernel
theorem dX0_sign_5 : decode cX0_sign 5 = .ok (.ifCond .ne 6, 3) := by decide +kernel
theorem dX0_sign_8 : decode cX0_sign 8 = .ok (.bipush 46, 2) := by decide +kernel
theorem dX0_sign_10 : decode cX0_sign 10 = .ok (.ireturn, 1) := by decide +kernel
theorem dX0_sign_11 : decode cX0_sign 11 = .ok (.aload_n 0, 1) := by decide +kernel
theorem dX0_sign_12 : decode cX0_sign 12 = .ok (.getfield 9, 3) := by decide +kernel
theorem dX0_sign_15 : decode cX0_sign 15 = .ok (.iload_n 1, 1) := by decide +kernel
theorem dX0_sign_16 : decode cX0_sign 16 = .ok (.iaload, 1) := by decide +kernel
theorem dX0_sign_17 : decode cX0_sign 17 = .ok (.ifCond .ne 19, 3) := by decide +kernel
theorem dX0_sign_20 : decode cX0_sign 20 = .ok (.aload_n 0, 1) := by decide +kernel
theorem dX0_sign_21 : decode cX0_sign 21 = .ok (.iload_n 1, 1) := by decide +kernel
theorem dX0_sign_22 : decode cX0_sign 22 = .ok (.invokevirtual 58, 3) := by decide +kernel
theorem dX0_sign_25 : decode cX0_sign 25 = .ok (.ifCond .eq 8, 3) := by decide +kernel
theorem dX0_sign_28 : decode cX0_sign 28 = .ok (.bipush 104, 2) := by decide +kernel
theorem dX0_sign_30 : decode cX0_sign 30 = .ok (.goto 5, 3) := by decide +kernel
theorem dX0_sign_33 : decode cX0_sign 33 = .ok (.bipush 111, 2) := by decide +kernel
theorem dX0_sign_35 : decode cX0_sign 35 = .ok (.ireturn, 1) := by decide +kernel
theorem dX0_sign_36 : decode cX0_sign 36 = .ok (.aload_n 0, 1) := by decide +kernel
theorem dX0_sign_37 : decode cX0_sign 37 = .ok (.iload_n 1, 1) := by decide +kernel
theorem dX0_sign_38 : decode cX0_sign 38 = .ok (.invokevirtual 58, 3) := by decide +kernel
theorem dX0_sign_41 : decode cX0_sign 41 = .ok (.ifCond .eq 8, 3) := by decide +kernel
theorem dX0_sign_44 : decode cX0_sign 44 = .ok (.bipush 97, 2) := by decide +kernel
theorem dX0_sign_46 : decode cX0_sign 46 = .ok (.goto 5, 3) := by decide +kernel
theorem dX0_sign_49 : decode cX0_sign 49 = .ok (.bipush 49, 2) := by decide +kernel
theorem dX0_sign_51 : decode cX0_sign 51 = .ok (.aload_n 0, 1) := by decide +kernel
theorem dX0_sign_52 : decode cX0_sign 52 = .ok (.getfield 9, 3) := by decide +kernel
theorem dX0_sign_55 : decode cX0_sign 55 = .ok (.iload_n 1, 1) := by decide +kernel
theorem dX0_sign_56 : decode cX0_sign 56 = .ok (.iaload, 1) := by decide +kernel
theorem dX0_sign_57 : decode cX0_sign 57 = .ok (.iadd, 1) := by decide +kernel
theorem dX0_sign_58 : decode cX0_sign 58 = .ok (.iconst 1, 1) := by decide +kernel
theorem dX0_sign_59 : decode cX0_sign 59 = .ok (.isub, 1) := by decide +kernel
theorem dX0_sign_60 : decode cX0_sign 60 = .ok (.i2c, 1) := by decide +kernel
theorem dX0_sign_61 : decode cX0_sign 61 = .ok (.ireturn, 1) := by decide +kernel
theorem dX0_putInWork_0 : decode cX0_putInWork 0 = .ok (.iload_n 1, 1) := by decide +kernel
theorem dX0_putInWork_1 : decode cX0_putInWork 1 = .ok (.istore_n 3, 1) := by decide +kernel
theorem dX0_putInWork_2 : decode cX0_putInWork 2 = .ok (.iload_n 3, 1) := by decide +kernel
theorem dX0_putInWork_3 : decode cX0_putInWork 3 = .ok (.iload_n 2, 1) := by decide +kernel
theorem dX0_putInWork_4 : decode cX0_putInWork 4 = .ok (.if_icmp .gt 26, 3) := by decide +kernel
theorem dX0_putInWork_7 : decode cX0_putInWork 7 = .ok (.aload_n 0, 1) := by decide +kernel
theorem dX0_putInWork_8 : decode cX0_putInWork 8 = .ok (.dup, 1) := by decide +kernel
theorem dX0_putInWork_9 : decode cX0_putInWork 9 = .ok (.getfield 18, 3) := by decide +kernel
theorem dX0_putInWork_12 : decode cX0_putInWork 12 = .ok (.iconst 1, 1) := by decide +kernel
theorem dX0_putInWork_13 : decode cX0_putInWork 13 = .ok (.iload_n 3, 1) := by decide +kernel
theorem dX0_putInWork_14 : decode cX0_putInWork 14 = .ok (.ishl, 1) := by decide +kernel
theorem dX0_putInWork_15 : decode cX0_putInWork 15 = .ok (.ior, 1) := by decide +kernel
theorem dX0_putInWork_16 : decode cX0_putInWork 16 = .ok (.putfield 18, 3) := by decide +kernel
theorem dX0_putInWork_19 : decode cX0_putInWork 19 = .ok (.aload_n 0, 1) := by decide +kernel
theorem dX0_putInWork_20 : decode cX0_putInWork 20 = .ok (.iload_n 3, 1) := by decide +kernel
theorem dX0_putInWork_21 : decode cX0_putInWork 21 = .ok (.invokevirtual 61, 3) := by decide +kernel
theorem dX0_putInWork_24 : decode cX0_putInWork 24 = .ok (.iinc 3 1, 3) := by decide +kernel
theorem dX0_putInWork_27 : decode cX0_putInWork 27 = .ok (.goto (-25), 3) := by decide +kernel
theorem dX0_putInWork_30 : decode cX0_putInWork 30 = .ok (.aload_n 0, 1) := by decide +kernel
theorem dX0_putInWork_31 : decode cX0_putInWork 31 = .ok (.invokevirtual 65, 3) := by decide +kernel
theorem dX0_putInWork_34 : decode cX0_putInWork 34 = .ok (.ireturn, 1) := by decide +kernel
theorem dX0_putOneLoop_0 : decode cX0_putOneLoop 0 = .ok (.aload_n 0, 1) := by decide +kernel
theorem dX0_putOneLoop_1 : decode cX0_putOneLoop 1 = .ok (.getfield 9, 3) := by decide +kernel
theorem dX0_putOneLoop_4 : decode cX0_putOneLoop 4 = .ok (.iload_n 1, 1) := by decide +kernel
theorem dX0_putOneLoop_5 : decode cX0_putOneLoop 5 = .ok (.iconst 1, 1) := by decide +kernel
theorem dX0_putOneLoop_6 : decode cX0_putOneLoop 6 = .ok (.iastore, 1) := by decide +kernel
theorem dX0_putOneLoop_7 : decode cX0_putOneLoop 7 = .ok (.aload_n 0, 1) := by decide +kernel
theorem dX0_putOneLoop_8 : decode cX0_putOneLoop 8 = .ok (.getfield 15, 3) := by decide +kernel
theorem dX0_putOneLoop_11 : decode cX0_putOneLoop 11 = .ok (.iload_n 1, 1) := by decide +kernel
theorem dX0_putOneLoop_12 : decode cX0_putOneLoop 12 = .ok (.iconst 0, 1) := by decide +kernel
theorem dX0_putOneLoop_13 : decode cX0_putOneLoop 13 = .ok (.iastore, 1) := by decide +kernel
theorem dX0_putOneLoop_14 : decode cX0_putOneLoop 14 = .ok (.return_, 1) := by decide +kernel
theorem dX0_takeLoops_0 : decode cX0_takeLoops 0 = .ok (.aload_n 0, 1) := by decide +kernel
theorem dX0_takeLoops_1 : decode cX0_takeLoops 1 = .ok (.getfield 9, 3) := by decide +kernel
theorem dX0_takeLoops_4 : decode cX0_takeLoops 4 = .ok (.iload_n 1, 1) := by decide +kernel
theorem dX0_takeLoops_5 : decode cX0_takeLoops 5 = .ok (.iaload, 1) := by decide +kernel
theorem dX0_takeLoops_6 : decode cX0_takeLoops 6 = .ok (.istore_n 2, 1) := by decide +kernel
theorem dX0_takeLoops_7 : decode cX0_takeLoops 7 = .ok (.aload_n 0, 1) := by decide +kernel
theorem dX0_takeLoops_8 : decode cX0_takeLoops 8 = .ok (.getfield 9, 3) := by decide +kernel
theorem dX0_takeLoops_11 : decode cX0_takeLoops 11 = .ok (.iload_n 1, 1) := by decide +kernel
theorem dX0_takeLoops_12 : decode cX0_takeLoops 12 = .ok (.iconst 0, 1) := by decide +kernel
theorem dX0_takeLoops_13 : decode cX0_takeLoops 13 = .ok (.iastore, 1) := by decide +kernel
theorem dX0_takeLoops_14 : decode cX0_takeLoops 14 = .ok (.aload_n 0, 1) := by decide +kernel
theorem dX0_takeLoops_15 : decode cX0_takeLoops 15 = .ok (.getfield 15, 3) := by decide +kernel
theorem dX0_takeLoops_18 : decode cX0_takeLoops 18 = .ok (.iload_n 1, 1) := by decide +kernel
theorem dX0_takeLoops_19 : decode cX0_takeLoops 19 = .ok (.iconst 0, 1) := by decide +kernel
theorem dX0_takeLoops_20 : decode cX0_takeLoops 20 = .ok (.iastore, 1) := by decide +kernel
theorem dX0_takeLoops_21 : decode cX0_takeLoops 21 = .ok (.iload_n 2, 1) := by decide +kernel
theorem dX0_takeLoops_22 : decode cX0_takeLoops 22 = .ok (.ireturn, 1) := by decide +kernel
theorem dX0_takeOutOfWork_0 : decode cX0_takeOutOfWork 0 = .ok (.aload_n 0, 1) := by decide +kernel
theorem dX0_takeOutOfWork_1 : decode cX0_takeOutOfWork 1 = .ok (.dup, 1) := by decide +kernel
theorem dX0_takeOutOfWork_2 : decode cX0_takeOutOfWork 2 = .ok (.getfield 18, 3) := by decide +kernel
theorem dX0_takeOutOfWork_5 : decode cX0_takeOutOfWork 5 = .ok (.iconst 1, 1) := by decide +kernel
theorem dX0_takeOutOfWork_6 : decode cX0_takeOutOfWork 6 = .ok (.iload_n 1, 1) := by decide +kernel
theorem dX0_takeOutOfWork_7 : decode cX0_takeOutOfWork 7 = .ok (.ishl, 1) := by decide +kernel
theorem dX0_takeOutOfWork_8 : decode cX0_takeOutOfWork 8 = .ok (.iconst (-1), 1) := by decide +kernel
theorem dX0_takeOutOfWork_9 : decode cX0_takeOutOfWork 9 = .ok (.ixor, 1) := by decide +kernel
theorem dX0_takeOutOfWork_10 : decode cX0_takeOutOfWork 10 = .ok (.iand, 1) := by decide +kernel
theorem dX0_takeOutOfWork_11 : decode cX0_takeOutOfWork 11 = .ok (.putfield 18, 3) := by decide +kernel
theorem dX0_takeOutOfWork_14 : decode cX0_takeOutOfWork 14 = .ok (.aload_n 0, 1) := by decide +kernel
theorem dX0_takeOutOfWork_15 : decode cX0_takeOutOfWork 15 = .ok (.dup, 1) := by decide +kernel
theorem dX0_takeOutOfWork_16 : decode cX0_takeOutOfWork 16 = .ok (.getfield 22, 3) := by decide +kernel
theorem dX0_takeOutOfWork_19 : decode cX0_takeOutOfWork 19 = .ok (.iconst 1, 1) := by decide +kernel
theorem dX0_takeOutOfWork_20 : decode cX0_takeOutOfWork 20 = .ok (.iload_n 1, 1) := by decide +kernel
theorem dX0_takeOutOfWork_21 : decode cX0_takeOutOfWork 21 = .ok (.ishl, 1) := by decide +kernel
theorem dX0_takeOutOfWork_22 : decode cX0_takeOutOfWork 22 = .ok (.iconst (-1), 1) := by decide +kernel
theorem dX0_takeOutOfWork_23 : decode cX0_takeOutOfWork 23 = .ok (.ixor, 1) := by decide +kernel
theorem dX0_takeOutOfWork_24 : decode cX0_takeOutOfWork 24 = .ok (.iand, 1) := by decide +kernel
theorem dX0_takeOutOfWork_25 : decode cX0_takeOutOfWork 25 = .ok (.putfield 22, 3) := by decide +kernel
theorem dX0_takeOutOfWork_28 : decode cX0_takeOutOfWork 28 = .ok (.aload_n 0, 1) := by decide +kernel
theorem dX0_takeOutOfWork_29 : decode cX0_takeOutOfWork 29 = .ok (.iload_n 1, 1) := by decide +kernel
theorem dX0_takeOutOfWork_30 : decode cX0_takeOutOfWork 30 = .ok (.invokevirtual 68, 3) := by decide +kernel
theorem dX0_takeOutOfWork_33 : decode cX0_takeOutOfWork 33 = .ok (.ireturn, 1) := by decide +kernel
theorem dX0_takeAllOutOfWork_0 : decode cX0_takeAllOutOfWork 0 = .ok (.iconst 0, 1) := by decide +kernel
theorem dX0_takeAllOutOfWork_1 : decode cX0_takeAllOutOfWork 1 = .ok (.istore_n 1, 1) := by decide +kernel
theorem dX0_takeAllOutOfWork_2 : decode cX0_takeAllOutOfWork 2 = .ok (.iconst 0, 1) := by decide +kernel
theorem dX0_takeAllOutOfWork_3 : decode cX0_takeAllOutOfWork 3 = .ok (.istore_n 2, 1) := by decide +kernel
theorem dX0_takeAllOutOfWork_4 : decode cX0_takeAllOutOfWork 4 = .ok (.iload_n 2, 1) := by decide +kernel
theorem dX0_takeAllOutOfWork_5 : decode cX0_takeAllOutOfWork 5 = .ok (.bipush 24, 2) := by decide +kernel
theorem dX0_takeAllOutOfWork_7 : decode cX0_takeAllOutOfWork 7 = .ok (.if_icmp .ge 17, 3) := by decide +kernel
theorem dX0_takeAllOutOfWork_10 : decode cX0_takeAllOutOfWork 10 = .ok (.iload_n 1, 1) := by decide +kernel
theorem dX0_takeAllOutOfWork_11 : decode cX0_takeAllOutOfWork 11 = .ok (.aload_n 0, 1) := by decide +kernel
theorem dX0_takeAllOutOfWork_12 : decode cX0_takeAllOutOfWork 12 = .ok (.iload_n 2, 1) := by decide +kernel
theorem dX0_takeAllOutOfWork_13 : decode cX0_takeAllOutOfWork 13 = .ok (.invokevirtual 71, 3) := by decide +kernel
theorem dX0_takeAllOutOfWork_16 : decode cX0_takeAllOutOfWork 16 = .ok (.iadd, 1) := by decide +kernel
theorem dX0_takeAllOutOfWork_17 : decode cX0_takeAllOutOfWork 17 = .ok (.istore_n 1, 1) := by decide +kernel
theorem dX0_takeAllOutOfWork_18 : decode cX0_takeAllOutOfWork 18 = .ok (.iinc 2 1, 3) := by decide +kernel
theorem dX0_takeAllOutOfWork_21 : decode cX0_takeAllOutOfWork 21 = .ok (.goto (-17), 3) := by decide +kernel
theorem dX0_takeAllOutOfWork_24 : decode cX0_takeAllOutOfWork 24 = .ok (.iload_n 1, 1) := by decide +kernel
theorem dX0_takeAllOutOfWork_25 : decode cX0_takeAllOutOfWork 25 = .ok (.ireturn, 1) := by decide +kernel
theorem dX0_putOnHold_0 : decode cX0_putOnHold 0 = .ok (.aload_n 0, 1) := by decide +kernel
theorem dX0_putOnHold_1 : decode cX0_putOnHold 1 = .ok (.dup, 1) := by decide +kernel
theorem dX0_putOnHold_2 : decode cX0_putOnHold 2 = .ok (.getfield 22, 3) := by decide +kernel
theorem dX0_putOnHold_5 : decode cX0_putOnHold 5 = .ok (.iconst 1, 1) := by decide +kernel
theorem dX0_putOnHold_6 : decode cX0_putOnHold 6 = .ok (.iload_n 1, 1) := by decide +kernel
theorem dX0_putOnHold_7 : decode cX0_putOnHold 7 = .ok (.ishl, 1) := by decide +kernel
theorem dX0_putOnHold_8 : decode cX0_putOnHold 8 = .ok (.ior, 1) := by decide +kernel
theorem dX0_putOnHold_9 : decode cX0_putOnHold 9 = .ok (.putfield 22, 3) := by decide +kernel
theorem dX0_putOnHold_12 : decode cX0_putOnHold 12 = .ok (.aload_n 0, 1) := by decide +kernel
theorem dX0_putOnHold_13 : decode cX0_putOnHold 13 = .ok (.invokevirtual 74, 3) := by decide +kernel
theorem dX0_putOnHold_16 : decode cX0_putOnHold 16 = .ok (.ireturn, 1) := by decide +kernel
theorem dX0_takeOffHold_0 : decode cX0_takeOffHold 0 = .ok (.aload_n 0, 1) := by decide +kernel
theorem dX0_takeOffHold_1 : decode cX0_takeOffHold 1 = .ok (.dup, 1) := by decide +kernel
theorem dX0_takeOffHold_2 : decode cX0_takeOffHold 2 = .ok (.getfield 22, 3) := by decide +kernel
theorem dX0_takeOffHold_5 : decode cX0_takeOffHold 5 = .ok (.iconst 1, 1) := by decide +kernel
theorem dX0_takeOffHold_6 : decode cX0_takeOffHold 6 = .ok (.iload_n 1, 1) := by decide +kernel
theorem dX0_takeOffHold_7 : decode cX0_takeOffHold 7 = .ok (.ishl, 1) := by decide +kernel
theorem dX0_takeOffHold_8 : decode cX0_takeOffHold 8 = .ok (.iconst (-1), 1) := by decide +kernel
theorem dX0_takeOffHold_9 : decode cX0_takeOffHold 9 = .ok (.ixor, 1) := by decide +kernel
theorem dX0_takeOffHold_10 : decode cX0_takeOffHold 10 = .ok (.iand, 1) := by decide +kernel
theorem dX0_takeOffHold_11 : decode cX0_takeOffHold 11 = .ok (.putfield 22, 3) := by decide +kernel
theorem dX0_takeOffHold_14 : decode cX0_takeOffHold 14 = .ok (.aload_n 0, 1) := by decide +kernel
theorem dX0_takeOffHold_15 : decode cX0_takeOffHold 15 = .ok (.invokevirtual 74, 3) := by decide +kernel
theorem dX0_takeOffHold_18 : decode cX0_takeOffHold 18 = .ok (.ireturn, 1) := by decide +kernel
theorem dX0_moveLoops_0 : decode cX0_moveLoops 0 = .ok (.aload_n 0, 1) := by decide +kernel
theorem dX0_moveLoops_1 : decode cX0_moveLoops 1 = .ok (.getfield 15, 3) := by decide +kernel
theorem dX0_moveLoops_4 : decode cX0_moveLoops 4 = .ok (.iload_n 2, 1) := by decide +kernel
theorem dX0_moveLoops_5 : decode cX0_moveLoops 5 = .ok (.aload_n 0, 1) := by decide +kernel
theorem dX0_moveLoops_6 : decode cX0_moveLoops 6 = .ok (.getfield 15, 3) := by decide +kernel
theorem dX0_moveLoops_9 : decode cX0_moveLoops 9 = .ok (.iload_n 1, 1) := by decide +kernel
theorem dX0_moveLoops_10 : decode cX0_moveLoops 10 = .ok (.iaload, 1) := by decide +kernel
theorem dX0_moveLoops_11 : decode cX0_moveLoops 11 = .ok (.aload_n 0, 1) := by decide +kernel
theorem dX0_moveLoops_12 : decode cX0_moveLoops 12 = .ok (.getfield 15, 3) := by decide +kernel
theorem dX0_moveLoops_15 : decode cX0_moveLoops 15 = .ok (.iload_n 2, 1) := by decide +kernel
theorem dX0_moveLoops_16 : decode cX0_moveLoops 16 = .ok (.iaload, 1) := by decide +kernel
theorem dX0_moveLoops_17 : decode cX0_moveLoops 17 = .ok (.invokestatic 49, 3) := by decide +kernel
theorem dX0_moveLoops_20 : decode cX0_moveLoops 20 = .ok (.iastore, 1) := by decide +kernel
theorem dX0_moveLoops_21 : decode cX0_moveLoops 21 = .ok (.aload_n 0, 1) := by decide +kernel
theorem dX0_moveLoops_22 : decode cX0_moveLoops 22 = .ok (.iload_n 1, 1) := by decide +kernel
theorem dX0_moveLoops_23 : decode cX0_moveLoops 23 = .ok (.invokevirtual 71, 3) := by decide +kernel
theorem dX0_moveLoops_26 : decode cX0_moveLoops 26 = .ok (.istore_n 3, 1) := by decide +kernel
theorem dX0_moveLoops_27 : decode cX0_moveLoops 27 = .ok (.aload_n 0, 1) := by decide +kernel
theorem dX0_moveLoops_28 : decode cX0_moveLoops 28 = .ok (.getfield 9, 3) := by decide +kernel
theorem dX0_moveLoops_31 : decode cX0_moveLoops 31 = .ok (.iload_n 2, 1) := by decide +kernel
theorem dX0_moveLoops_32 : decode cX0_moveLoops 32 = .ok (.dup2, 1) := by decide +kernel
theorem dX0_moveLoops_33 : decode cX0_moveLoops 33 = .ok (.iaload, 1) := by decide +kernel
theorem dX0_moveLoops_34 : decode cX0_moveLoops 34 = .ok (.iload_n 3, 1) := by decide +kernel
theorem dX0_moveLoops_35 : decode cX0_moveLoops 35 = .ok (.iadd, 1) := by decide +kernel
theorem dX0_moveLoops_36 : decode cX0_moveLoops 36 = .ok (.iastore, 1) := by decide +kernel
theorem dX0_moveLoops_37 : decode cX0_moveLoops 37 = .ok (.aload_n 0, 1) := by decide +kernel
theorem dX0_moveLoops_38 : decode cX0_moveLoops 38 = .ok (.getfield 9, 3) := by decide +kernel
theorem dX0_moveLoops_41 : decode cX0_moveLoops 41 = .ok (.iload_n 2, 1) := by decide +kernel
theorem dX0_moveLoops_42 : decode cX0_moveLoops 42 = .ok (.iaload, 1) := by decide +kernel
theorem dX0_moveLoops_43 : decode cX0_moveLoops 43 = .ok (.ireturn, 1) := by decide +kernel
theorem dX0_passCourse_0 : decode cX0_passCourse 0 = .ok (.iconst 0, 1) := by decide +kernel
theorem dX0_passCourse_1 : decode cX0_passCourse 1 = .ok (.istore_n 2, 1) := by decide +kernel
theorem dX0_passCourse_2 : decode cX0_passCourse 2 = .ok (.iconst 0, 1) := by decide +kernel
theorem dX0_passCourse_3 : decode cX0_passCourse 3 = .ok (.istore_n 3, 1) := by decide +kernel
theorem dX0_passCourse_4 : decode cX0_passCourse 4 = .ok (.iload_n 3, 1) := by decide +kernel
theorem dX0_passCourse_5 : decode cX0_passCourse 5 = .ok (.bipush 24, 2) := by decide +kernel
theorem dX0_passCourse_7 : decode cX0_passCourse 7 = .ok (.if_icmp .ge 43, 3) := by decide +kernel
theorem dX0_passCourse_10 : decode cX0_passCourse 10 = .ok (.aload_n 0, 1) := by decide +kernel
theorem dX0_passCourse_11 : decode cX0_passCourse 11 = .ok (.iload_n 3, 1) := by decide +kernel
theorem dX0_passCourse_12 : decode cX0_passCourse 12 = .ok (.iload_n 1, 1) := by decide +kernel
theorem dX0_passCourse_13 : decode cX0_passCourse 13 = .ok (.invokevirtual 55, 3) := by decide +kernel
theorem dX0_passCourse_16 : decode cX0_passCourse 16 = .ok (.ifCond .eq 11, 3) := by decide +kernel
theorem dX0_passCourse_19 : decode cX0_passCourse 19 = .ok (.aload_n 0, 1) := by decide +kernel
theorem dX0_passCourse_20 : decode cX0_passCourse 20 = .ok (.iload_n 3, 1) := by decide +kernel
theorem dX0_passCourse_21 : decode cX0_passCourse 21 = .ok (.invokevirtual 61, 3) := by decide +kernel
theorem dX0_passCourse_24 : decode cX0_passCourse 24 = .ok (.goto 20, 3) := by decide +kernel
theorem dX0_passCourse_27 : decode cX0_passCourse 27 = .ok (.aload_n 0, 1) := by decide +kernel
theorem dX0_passCourse_28 : decode cX0_passCourse 28 = .ok (.getfield 9, 3) := by decide +kernel
theorem dX0_passCourse_31 : decode cX0_passCourse 31 = .ok (.iload_n 3, 1) := by decide +kernel
theorem dX0_passCourse_32 : decode cX0_passCourse 32 = .ok (.iaload, 1) := by decide +kernel
theorem dX0_passCourse_33 : decode cX0_passCourse 33 = .ok (.ifCond .le 11, 3) := by decide +kernel
theorem dX0_passCourse_36 : decode cX0_passCourse 36 = .ok (.iload_n 2, 1) := by decide +kernel
theorem dX0_passCourse_37 : decode cX0_passCourse 37 = .ok (.aload_n 0, 1) := by decide +kernel
theorem dX0_passCourse_38 : decode cX0_passCourse 38 = .ok (.iload_n 3, 1) := by decide +kernel
theorem dX0_passCourse_39 : decode cX0_passCourse 39 = .ok (.invokevirtual 77, 3) := by decide +kernel
theorem dX0_passCourse_42 : decode cX0_passCourse 42 = .ok (.iadd, 1) := by decide +kernel
theorem dX0_passCourse_43 : decode cX0_passCourse 43 = .ok (.istore_n 2, 1) := by decide +kernel
theorem dX0_passCourse_44 : decode cX0_passCourse 44 = .ok (.iinc 3 1, 3) := by decide +kernel
theorem dX0_passCourse_47 : decode cX0_passCourse 47 = .ok (.goto (-43), 3) := by decide +kernel
theorem dX0_passCourse_50 : decode cX0_passCourse 50 = .ok (.iload_n 2, 1) := by decide +kernel
theorem dX0_passCourse_51 : decode cX0_passCourse 51 = .ok (.ireturn, 1) := by decide +kernel
theorem dX0_growOlder_0 : decode cX0_growOlder 0 = .ok (.aload_n 0, 1) := by decide +kernel
theorem dX0_growOlder_1 : decode cX0_growOlder 1 = .ok (.getfield 15, 3) := by decide +kernel
theorem dX0_growOlder_4 : decode cX0_growOlder 4 = .ok (.iload_n 1, 1) := by decide +kernel
theorem dX0_growOlder_5 : decode cX0_growOlder 5 = .ok (.dup2, 1) := by decide +kernel
theorem dX0_growOlder_6 : decode cX0_growOlder 6 = .ok (.iaload, 1) := by decide +kernel
theorem dX0_growOlder_7 : decode cX0_growOlder 7 = .ok (.iconst 1, 1) := by decide +kernel
theorem dX0_growOlder_8 : decode cX0_growOlder 8 = .ok (.iadd, 1) := by decide +kernel
theorem dX0_growOlder_9 : decode cX0_growOlder 9 = .ok (.iastore, 1) := by decide +kernel
theorem dX0_growOlder_10 : decode cX0_growOlder 10 = .ok (.aload_n 0, 1) := by decide +kernel
theorem dX0_growOlder_11 : decode cX0_growOlder 11 = .ok (.getfield 15, 3) := by decide +kernel
theorem dX0_growOlder_14 : decode cX0_growOlder 14 = .ok (.iload_n 1, 1) := by decide +kernel
theorem dX0_growOlder_15 : decode cX0_growOlder 15 = .ok (.iaload, 1) := by decide +kernel
theorem dX0_growOlder_16 : decode cX0_growOlder 16 = .ok (.bipush 6, 2) := by decide +kernel
theorem dX0_growOlder_18 : decode cX0_growOlder 18 = .ok (.if_icmp .lt 11, 3) := by decide +kernel
theorem dX0_growOlder_21 : decode cX0_growOlder 21 = .ok (.aload_n 0, 1) := by decide +kernel
theorem dX0_growOlder_22 : decode cX0_growOlder 22 = .ok (.iload_n 1, 1) := by decide +kernel
theorem dX0_growOlder_23 : decode cX0_growOlder 23 = .ok (.invokevirtual 68, 3) := by decide +kernel
theorem dX0_growOlder_26 : decode cX0_growOlder 26 = .ok (.goto 4, 3) := by decide +kernel
theorem dX0_growOlder_29 : decode cX0_growOlder 29 = .ok (.iconst 0, 1) := by decide +kernel
theorem dX0_growOlder_30 : decode cX0_growOlder 30 = .ok (.ireturn, 1) := by decide +kernel
theorem dJ6_getChars_ba4f3_0 : decode cJ6_getChars_ba4f3 0 = .ok (.iload_n 1, 1) := by decide +kernel
theorem dJ6_getChars_ba4f3_1 : decode cJ6_getChars_ba4f3 1 = .ok (.istore 5, 2) := by decide +kernel
theorem dJ6_getChars_ba4f3_3 : decode cJ6_getChars_ba4f3 3 = .ok (.iload_n 0, 1) := by decide +kernel
theorem dJ6_getChars_ba4f3_4 : decode cJ6_getChars_ba4f3 4 = .ok (.ifCond .ge 7, 3) := by decide +kernel
theorem dJ6_getChars_ba4f3_7 : decode cJ6_getChars_ba4f3 7 = .ok (.iconst 1, 1) := by decide +kernel
theorem dJ6_getChars_ba4f3_8 : decode cJ6_getChars_ba4f3 8 = .ok (.goto 4, 3) := by decide +kernel
theorem dJ6_getChars_ba4f3_11 : decode cJ6_getChars_ba4f3 11 = .ok (.iconst 0, 1) := by decide +kernel
theorem dJ6_getChars_ba4f3_12 : decode cJ6_getChars_ba4f3 12 = .ok (.istore 6, 2) := by decide +kernel
theorem dJ6_getChars_ba4f3_14 : decode cJ6_getChars_ba4f3 14 = .ok (.iload 6, 2) := by decide +kernel
theorem dJ6_getChars_ba4f3_16 : decode cJ6_getChars_ba4f3 16 = .ok (.ifCond .ne 6, 3) := by decide +kernel
theorem dJ6_getChars_ba4f3_19 : decode cJ6_getChars_ba4f3 19 = .ok (.iload_n 0, 1) := by decide +kernel
theorem dJ6_getChars_ba4f3_20 : decode cJ6_getChars_ba4f3 20 = .ok (.ineg, 1) := by decide +kernel
theorem dJ6_getChars_ba4f3_21 : decode cJ6_getChars_ba4f3 21 = .ok (.istore_n 0, 1) := by decide +kernel
theorem dJ6_getChars_ba4f3_22 : decode cJ6_getChars_ba4f3 22 = .ok (.iload_n 0, 1) := by decide +kernel
theorem dJ6_getChars_ba4f3_23 : decode cJ6_getChars_ba4f3 23 = .ok (.bipush (-100), 2) := by decide +kernel
theorem dJ6_getChars_ba4f3_25 : decode cJ6_getChars_ba4f3 25 = .ok (.if_icmp .gt 47, 3) := by decide +kernel
theorem dJ6_getChars_ba4f3_28 : decode cJ6_getChars_ba4f3 28 = .ok (.iload_n 0, 1) := by decide +kernel
theorem dJ6_getChars_ba4f3_29 : decode cJ6_getChars_ba4f3 29 = .ok (.bipush 100, 2) := by decide +kernel
theorem dJ6_getChars_ba4f3_31 : decode cJ6_getChars_ba4f3 31 = .ok (.idiv, 1) := by decide +kernel
theorem dJ6_getChars_ba4f3_32 : decode cJ6_getChars_ba4f3 32 = .ok (.istore_n 3, 1) := by decide +kernel
theorem dJ6_getChars_ba4f3_33 : decode cJ6_getChars_ba4f3 33 = .ok (.iload_n 3, 1) := by decide +kernel
theorem dJ6_getChars_ba4f3_34 : decode cJ6_getChars_ba4f3 34 = .ok (.bipush 100, 2) := by decide +kernel
theorem dJ6_getChars_ba4f3_36 : decode cJ6_getChars_ba4f3 36 = .ok (.imul, 1) := by decide +kernel
theorem dJ6_getChars_ba4f3_37 : decode cJ6_getChars_ba4f3 37 = .ok (.iload_n 0, 1) := by decide +kernel
theorem dJ6_getChars_ba4f3_38 : decode cJ6_getChars_ba4f3 38 = .ok (.isub, 1) := by decide +kernel
theorem dJ6_getChars_ba4f3_39 : decode cJ6_getChars_ba4f3 39 = .ok (.istore 4, 2) := by decide +kernel
theorem dJ6_getChars_ba4f3_41 : decode cJ6_getChars_ba4f3 41 = .ok (.iload_n 3, 1) := by decide +kernel
theorem dJ6_getChars_ba4f3_42 : decode cJ6_getChars_ba4f3 42 = .ok (.istore_n 0, 1) := by decide +kernel
theorem dJ6_getChars_ba4f3_43 : decode cJ6_getChars_ba4f3 43 = .ok (.aload_n 2, 1) := by decide +kernel
theorem dJ6_getChars_ba4f3_44 : decode cJ6_getChars_ba4f3 44 = .ok (.iinc 5 (-1), 3) := by decide +kernel
theorem dJ6_getChars_ba4f3_47 : decode cJ6_getChars_ba4f3 47 = .ok (.iload 5, 2) := by decide +kernel
theorem dJ6_getChars_ba4f3_49 : decode cJ6_getChars_ba4f3 49 = .ok (.getstatic 83, 3) := by decide +kernel
theorem dJ6_getChars_ba4f3_52 : decode cJ6_getChars_ba4f3 52 = .ok (.iload 4, 2) := by decide +kernel
theorem dJ6_getChars_ba4f3_54 : decode cJ6_getChars_ba4f3 54 = .ok (.baload, 1) := by decide +kernel
theorem dJ6_getChars_ba4f3_55 : decode cJ6_getChars_ba4f3 55 = .ok (.bastore, 1) := by decide +kernel
theorem dJ6_getChars_ba4f3_56 : decode cJ6_getChars_ba4f3 56 = .ok (.aload_n 2, 1) := by decide +kernel
theorem dJ6_getChars_ba4f3_57 : decode cJ6_getChars_ba4f3 57 = .ok (.iinc 5 (-1), 3) := by decide +kernel
theorem dJ6_getChars_ba4f3_60 : decode cJ6_getChars_ba4f3 60 = .ok (.iload 5, 2) := by decide +kernel
theorem dJ6_getChars_ba4f3_62 : decode cJ6_getChars_ba4f3 62 = .ok (.getstatic 87, 3) := by decide +kernel
theorem dJ6_getChars_ba4f3_65 : decode cJ6_getChars_ba4f3 65 = .ok (.iload 4, 2) := by decide +kernel
theorem dJ6_getChars_ba4f3_67 : decode cJ6_getChars_ba4f3 67 = .ok (.baload, 1) := by decide +kernel
theorem dJ6_getChars_ba4f3_68 : decode cJ6_getChars_ba4f3 68 = .ok (.bastore, 1) := by decide +kernel
theorem dJ6_getChars_ba4f3_69 : decode cJ6_getChars_ba4f3 69 = .ok (.goto (-47), 3) := by decide +kernel
theorem dJ6_getChars_ba4f3_72 : decode cJ6_getChars_ba4f3 72 = .ok (.aload_n 2, 1) := by decide +kernel
theorem dJ6_getChars_ba4f3_73 : decode cJ6_getChars_ba4f3 73 = .ok (.iinc 5 (-1), 3) := by decide +kernel
theorem dJ6_getChars_ba4f3_76 : decode cJ6_getChars_ba4f3 76 = .ok (.iload 5, 2) := by decide +kernel
theorem dJ6_getChars_ba4f3_78 : decode cJ6_getChars_ba4f3 78 = .ok (.getstatic 83, 3) := by decide +kernel
theorem dJ6_getChars_ba4f3_81 : decode cJ6_getChars_ba4f3 81 = .ok (.iload_n 0, 1) := by decide +kernel
theorem dJ6_getChars_ba4f3_82 : decode cJ6_getChars_ba4f3 82 = .ok (.ineg, 1) := by decide +kernel
theorem dJ6_getChars_ba4f3_83 : decode cJ6_getChars_ba4f3 83 = .ok (.baload, 1) := by decide +kernel
theorem dJ6_getChars_ba4f3_84 : decode cJ6_getChars_ba4f3 84 = .ok (.bastore, 1) := by decide +kernel
theorem dJ6_getChars_ba4f3_85 : decode cJ6_getChars_ba4f3 85 = .ok (.iload_n 0, 1) := by decide +kernel
theorem dJ6_getChars_ba4f3_86 : decode cJ6_getChars_ba4f3 86 = .ok (.bipush (-9), 2) := by decide +kernel
theorem dJ6_getChars_ba4f3_88 : decode cJ6_getChars_ba4f3 88 = .ok (.if_icmp .ge 16, 3) := by decide +kernel
theorem dJ6_getChars_ba4f3_91 : decode cJ6_getChars_ba4f3 91 = .ok (.aload_n 2, 1) := by decide +kernel
theorem dJ6_getChars_ba4f3_92 : decode cJ6_getChars_ba4f3 92 = .ok (.iinc 5 (-1), 3) := by decide +kernel
theorem dJ6_getChars_ba4f3_95 : decode cJ6_getChars_ba4f3 95 = .ok (.iload 5, 2) := by decide +kernel
theorem dJ6_getChars_ba4f3_97 : decode cJ6_getChars_ba4f3 97 = .ok (.getstatic 87, 3) := by decide +kernel
theorem dJ6_getChars_ba4f3_100 : decode cJ6_getChars_ba4f3 100 = .ok (.iload_n 0, 1) := by decide +kernel
theorem dJ6_getChars_ba4f3_101 : decode cJ6_getChars_ba4f3 101 = .ok (.ineg, 1) := by decide +kernel
theorem dJ6_getChars_ba4f3_102 : decode cJ6_getChars_ba4f3 102 = .ok (.baload, 1) := by decide +kernel
theorem dJ6_getChars_ba4f3_103 : decode cJ6_getChars_ba4f3 103 = .ok (.bastore, 1) := by decide +kernel
theorem dJ6_getChars_ba4f3_104 : decode cJ6_getChars_ba4f3 104 = .ok (.iload 6, 2) := by decide +kernel
theorem dJ6_getChars_ba4f3_106 : decode cJ6_getChars_ba4f3 106 = .ok (.ifCond .eq 12, 3) := by decide +kernel
theorem dJ6_getChars_ba4f3_109 : decode cJ6_getChars_ba4f3 109 = .ok (.aload_n 2, 1) := by decide +kernel
theorem dJ6_getChars_ba4f3_110 : decode cJ6_getChars_ba4f3 110 = .ok (.iinc 5 (-1), 3) := by decide +kernel
theorem dJ6_getChars_ba4f3_113 : decode cJ6_getChars_ba4f3 113 = .ok (.iload 5, 2) := by decide +kernel
theorem dJ6_getChars_ba4f3_115 : decode cJ6_getChars_ba4f3 115 = .ok (.bipush 45, 2) := by decide +kernel
theorem dJ6_getChars_ba4f3_117 : decode cJ6_getChars_ba4f3 117 = .ok (.bastore, 1) := by decide +kernel
theorem dJ6_getChars_ba4f3_118 : decode cJ6_getChars_ba4f3 118 = .ok (.iload 5, 2) := by decide +kernel
theorem dJ6_getChars_ba4f3_120 : decode cJ6_getChars_ba4f3 120 = .ok (.ireturn, 1) := by decide +kernel
theorem dJ6_stringSize_0f7a4_0 : decode cJ6_stringSize_0f7a4 0 = .ok (.iconst 1, 1) := by decide +kernel
theorem dJ6_stringSize_0f7a4_1 : decode cJ6_stringSize_0f7a4 1 = .ok (.istore_n 1, 1) := by decide +kernel
theorem dJ6_stringSize_0f7a4_2 : decode cJ6_stringSize_0f7a4 2 = .ok (.iload_n 0, 1) := by decide +kernel
theorem dJ6_stringSize_0f7a4_3 : decode cJ6_stringSize_0f7a4 3 = .ok (.ifCond .lt 8, 3) := by decide +kernel
theorem dJ6_stringSize_0f7a4_6 : decode cJ6_stringSize_0f7a4 6 = .ok (.iconst 0, 1) := by decide +kernel
theorem dJ6_stringSize_0f7a4_7 : decode cJ6_stringSize_0f7a4 7 = .ok (.istore_n 1, 1) := by decide +kernel
theorem dJ6_stringSize_0f7a4_8 : decode cJ6_stringSize_0f7a4 8 = .ok (.iload_n 0, 1) := by decide +kernel
theorem dJ6_stringSize_0f7a4_9 : decode cJ6_stringSize_0f7a4 9 = .ok (.ineg, 1) := by decide +kernel
theorem dJ6_stringSize_0f7a4_10 : decode cJ6_stringSize_0f7a4 10 = .ok (.istore_n 0, 1) := by decide +kernel
theorem dJ6_stringSize_0f7a4_11 : decode cJ6_stringSize_0f7a4 11 = .ok (.bipush (-10), 2) := by decide +kernel
theorem dJ6_stringSize_0f7a4_13 : decode cJ6_stringSize_0f7a4 13 = .ok (.istore_n 2, 1) := by decide +kernel
theorem dJ6_stringSize_0f7a4_14 : decode cJ6_stringSize_0f7a4 14 = .ok (.iconst 1, 1) := by decide +kernel
theorem dJ6_stringSize_0f7a4_15 : decode cJ6_stringSize_0f7a4 15 = .ok (.istore_n 3, 1) := by decide +kernel
theorem dJ6_stringSize_0f7a4_16 : decode cJ6_stringSize_0f7a4 16 = .ok (.iload_n 3, 1) := by decide +kernel
theorem dJ6_stringSize_0f7a4_17 : decode cJ6_stringSize_0f7a4 17 = .ok (.bipush 10, 2) := by decide +kernel
theorem dJ6_stringSize_0f7a4_19 : decode cJ6_stringSize_0f7a4 19 = .ok (.if_icmp .ge 23, 3) := by decide +kernel
theorem dJ6_stringSize_0f7a4_22 : decode cJ6_stringSize_0f7a4 22 = .ok (.iload_n 0, 1) := by decide +kernel
theorem dJ6_stringSize_0f7a4_23 : decode cJ6_stringSize_0f7a4 23 = .ok (.iload_n 2, 1) := by decide +kernel
theorem dJ6_stringSize_0f7a4_24 : decode cJ6_stringSize_0f7a4 24 = .ok (.if_icmp .le 7, 3) := by decide +kernel
theorem dJ6_stringSize_0f7a4_27 : decode cJ6_stringSize_0f7a4 27 = .ok (.iload_n 3, 1) := by decide +kernel
theorem dJ6_stringSize_0f7a4_28 : decode cJ6_stringSize_0f7a4 28 = .ok (.iload_n 1, 1) := by decide +kernel
theorem dJ6_stringSize_0f7a4_29 : decode cJ6_stringSize_0f7a4 29 = .ok (.iadd, 1) := by decide +kernel
theorem dJ6_stringSize_0f7a4_30 : decode cJ6_stringSize_0f7a4 30 = .ok (.ireturn, 1) := by decide +kernel
theorem dJ6_stringSize_0f7a4_31 : decode cJ6_stringSize_0f7a4 31 = .ok (.bipush 10, 2) := by decide +kernel
theorem dJ6_stringSize_0f7a4_33 : decode cJ6_stringSize_0f7a4 33 = .ok (.iload_n 2, 1) := by decide +kernel
theorem dJ6_stringSize_0f7a4_34 : decode cJ6_stringSize_0f7a4 34 = .ok (.imul, 1) := by decide +kernel
theorem dJ6_stringSize_0f7a4_35 : decode cJ6_stringSize_0f7a4 35 = .ok (.istore_n 2, 1) := by decide +kernel
theorem dJ6_stringSize_0f7a4_36 : decode cJ6_stringSize_0f7a4 36 = .ok (.iinc 3 1, 3) := by decide +kernel
theorem dJ6_stringSize_0f7a4_39 : decode cJ6_stringSize_0f7a4 39 = .ok (.goto (-23), 3) := by decide +kernel
theorem dJ6_stringSize_0f7a4_42 : decode cJ6_stringSize_0f7a4 42 = .ok (.bipush 10, 2) := by decide +kernel
theorem dJ6_stringSize_0f7a4_44 : decode cJ6_stringSize_0f7a4 44 = .ok (.iload_n 1, 1) := by decide +kernel
theorem dJ6_stringSize_0f7a4_45 : decode cJ6_stringSize_0f7a4 45 = .ok (.iadd, 1) := by decide +kernel
theorem dJ6_stringSize_0f7a4_46 : decode cJ6_stringSize_0f7a4 46 = .ok (.ireturn, 1) := by decide +kernel
theorem dJ6_bitCount_0f7a4_0 : decode cJ6_bitCount_0f7a4 0 = .ok (.iload_n 0, 1) := by decide +kernel
theorem dJ6_bitCount_0f7a4_1 : decode cJ6_bitCount_0f7a4 1 = .ok (.iload_n 0, 1) := by decide +kernel
theorem dJ6_bitCount_0f7a4_2 : decode cJ6_bitCount_0f7a4 2 = .ok (.iconst 1, 1) := by decide +kernel
theorem dJ6_bitCount_0f7a4_3 : decode cJ6_bitCount_0f7a4 3 = .ok (.iushr, 1) := by decide +kernel
theorem dJ6_bitCount_0f7a4_4 : decode cJ6_bitCount_0f7a4 4 = .ok (.ldc_w 265, 3) := by decide +kernel
theorem dJ6_bitCount_0f7a4_7 : decode cJ6_bitCount_0f7a4 7 = .ok (.iand, 1) := by decide +kernel
theorem dJ6_bitCount_0f7a4_8 : decode cJ6_bitCount_0f7a4 8 = .ok (.isub, 1) := by decide +kernel
theorem dJ6_bitCount_0f7a4_9 : decode cJ6_bitCount_0f7a4 9 = .ok (.istore_n 0, 1) := by decide +kernel
theorem dJ6_bitCount_0f7a4_10 : decode cJ6_bitCount_0f7a4 10 = .ok (.iload_n 0, 1) := by decide +kernel
theorem dJ6_bitCount_0f7a4_11 : decode cJ6_bitCount_0f7a4 11 = .ok (.ldc_w 266, 3) := by decide +kernel
theorem dJ6_bitCount_0f7a4_14 : decode cJ6_bitCount_0f7a4 14 = .ok (.iand, 1) := by decide +kernel
theorem dJ6_bitCount_0f7a4_15 : decode cJ6_bitCount_0f7a4 15 = .ok (.iload_n 0, 1) := by decide +kernel
theorem dJ6_bitCount_0f7a4_16 : decode cJ6_bitCount_0f7a4 16 = .ok (.iconst 2, 1) := by decide +kernel
theorem dJ6_bitCount_0f7a4_17 : decode cJ6_bitCount_0f7a4 17 = .ok (.iushr, 1) := by decide +kernel
theorem dJ6_bitCount_0f7a4_18 : decode cJ6_bitCount_0f7a4 18 = .ok (.ldc_w 266, 3) := by decide +kernel
theorem dJ6_bitCount_0f7a4_21 : decode cJ6_bitCount_0f7a4 21 = .ok (.iand, 1) := by decide +kernel
theorem dJ6_bitCount_0f7a4_22 : decode cJ6_bitCount_0f7a4 22 = .ok (.iadd, 1) := by decide +kernel
theorem dJ6_bitCount_0f7a4_23 : decode cJ6_bitCount_0f7a4 23 = .ok (.istore_n 0, 1) := by decide +kernel
theorem dJ6_bitCount_0f7a4_24 : decode cJ6_bitCount_0f7a4 24 = .ok (.iload_n 0, 1) := by decide +kernel
theorem dJ6_bitCount_0f7a4_25 : decode cJ6_bitCount_0f7a4 25 = .ok (.iload_n 0, 1) := by decide +kernel
theorem dJ6_bitCount_0f7a4_26 : decode cJ6_bitCount_0f7a4 26 = .ok (.iconst 4, 1) := by decide +kernel
theorem dJ6_bitCount_0f7a4_27 : decode cJ6_bitCount_0f7a4 27 = .ok (.iushr, 1) := by decide +kernel
theorem dJ6_bitCount_0f7a4_28 : decode cJ6_bitCount_0f7a4 28 = .ok (.iadd, 1) := by decide +kernel
theorem dJ6_bitCount_0f7a4_29 : decode cJ6_bitCount_0f7a4 29 = .ok (.ldc_w 267, 3) := by decide +kernel
theorem dJ6_bitCount_0f7a4_32 : decode cJ6_bitCount_0f7a4 32 = .ok (.iand, 1) := by decide +kernel
theorem dJ6_bitCount_0f7a4_33 : decode cJ6_bitCount_0f7a4 33 = .ok (.istore_n 0, 1) := by decide +kernel
theorem dJ6_bitCount_0f7a4_34 : decode cJ6_bitCount_0f7a4 34 = .ok (.iload_n 0, 1) := by decide +kernel
theorem dJ6_bitCount_0f7a4_35 : decode cJ6_bitCount_0f7a4 35 = .ok (.iload_n 0, 1) := by decide +kernel
theorem dJ6_bitCount_0f7a4_36 : decode cJ6_bitCount_0f7a4 36 = .ok (.bipush 8, 2) := by decide +kernel
theorem dJ6_bitCount_0f7a4_38 : decode cJ6_bitCount_0f7a4 38 = .ok (.iushr, 1) := by decide +kernel
theorem dJ6_bitCount_0f7a4_39 : decode cJ6_bitCount_0f7a4 39 = .ok (.iadd, 1) := by decide +kernel
theorem dJ6_bitCount_0f7a4_40 : decode cJ6_bitCount_0f7a4 40 = .ok (.istore_n 0, 1) := by decide +kernel
theorem dJ6_bitCount_0f7a4_41 : decode cJ6_bitCount_0f7a4 41 = .ok (.iload_n 0, 1) := by decide +kernel
theorem dJ6_bitCount_0f7a4_42 : decode cJ6_bitCount_0f7a4 42 = .ok (.iload_n 0, 1) := by decide +kernel
theorem dJ6_bitCount_0f7a4_43 : decode cJ6_bitCount_0f7a4 43 = .ok (.bipush 16, 2) := by decide +kernel
theorem dJ6_bitCount_0f7a4_45 : decode cJ6_bitCount_0f7a4 45 = .ok (.iushr, 1) := by decide +kernel
theorem dJ6_bitCount_0f7a4_46 : decode cJ6_bitCount_0f7a4 46 = .ok (.iadd, 1) := by decide +kernel
theorem dJ6_bitCount_0f7a4_47 : decode cJ6_bitCount_0f7a4 47 = .ok (.istore_n 0, 1) := by decide +kernel
theorem dJ6_bitCount_0f7a4_48 : decode cJ6_bitCount_0f7a4 48 = .ok (.iload_n 0, 1) := by decide +kernel
theorem dJ6_bitCount_0f7a4_49 : decode cJ6_bitCount_0f7a4 49 = .ok (.bipush 63, 2) := by decide +kernel
theorem dJ6_bitCount_0f7a4_51 : decode cJ6_bitCount_0f7a4 51 = .ok (.iand, 1) := by decide +kernel
theorem dJ6_bitCount_0f7a4_52 : decode cJ6_bitCount_0f7a4 52 = .ok (.ireturn, 1) := by decide +kernel
theorem dX5_isNeedle_0 : decode cX5_isNeedle 0 = .ok (.iload_n 0, 1) := by decide +kernel
theorem dX5_isNeedle_1 : decode cX5_isNeedle 1 = .ok (.ifCond .lt 13, 3) := by decide +kernel
theorem dX5_isNeedle_4 : decode cX5_isNeedle 4 = .ok (.iload_n 0, 1) := by decide +kernel
theorem dX5_isNeedle_5 : decode cX5_isNeedle 5 = .ok (.bipush 24, 2) := by decide +kernel
theorem dX5_isNeedle_7 : decode cX5_isNeedle 7 = .ok (.if_icmp .ge 7, 3) := by decide +kernel
theorem dX5_isNeedle_10 : decode cX5_isNeedle 10 = .ok (.iconst 1, 1) := by decide +kernel
theorem dX5_isNeedle_11 : decode cX5_isNeedle 11 = .ok (.goto 4, 3) := by decide +kernel
theorem dX5_isNeedle_14 : decode cX5_isNeedle 14 = .ok (.iconst 0, 1) := by decide +kernel
theorem dX5_isNeedle_15 : decode cX5_isNeedle 15 = .ok (.ireturn, 1) := by decide +kernel
theorem dX5_hasBit_0 : decode cX5_hasBit 0 = .ok (.iload_n 0, 1) := by decide +kernel
theorem dX5_hasBit_1 : decode cX5_hasBit 1 = .ok (.iload_n 1, 1) := by decide +kernel
theorem dX5_hasBit_2 : decode cX5_hasBit 2 = .ok (.ishr, 1) := by decide +kernel
theorem dX5_hasBit_3 : decode cX5_hasBit 3 = .ok (.iconst 1, 1) := by decide +kernel
theorem dX5_hasBit_4 : decode cX5_hasBit 4 = .ok (.iand, 1) := by decide +kernel
theorem dX5_hasBit_5 : decode cX5_hasBit 5 = .ok (.iconst 1, 1) := by decide +kernel
theorem dX5_hasBit_6 : decode cX5_hasBit 6 = .ok (.if_icmp .ne 7, 3) := by decide +kernel
theorem dX5_hasBit_9 : decode cX5_hasBit 9 = .ok (.iconst 1, 1) := by decide +kernel
theorem dX5_hasBit_10 : decode cX5_hasBit 10 = .ok (.goto 4, 3) := by decide +kernel
theorem dX5_hasBit_13 : decode cX5_hasBit 13 = .ok (.iconst 0, 1) := by decide +kernel
theorem dX5_hasBit_14 : decode cX5_hasBit 14 = .ok (.ireturn, 1) := by decide +kernel
