set_option maxRecDepth 20000 in
theorem ggX6_does_X6_addsRow : GoodIn wsX6_does wsX6_addsRow := goodIn_ca (goodIn_r _ [87, 6, 10, 11, 4, 12, 13, 14, 15, 16, 17, 22, 23, 24, 25, 26, 27, 28, 29, 112, 113, 114, 115, 116, 117, 118, 119, 120, 121, 122, 123, 124, 125, 126, 127, 128, 129, 130, 131, 132] (by decide +kernel) (by decide +kernel)) (goodIn_sub (fun _ h => List.mem_cons_of_mem _ (List.mem_append_left _ (List.mem_append_right _ h))) (by decide +kernel))
set_option maxRecDepth 20000 in
theorem gX6_does_X6_addsRow : GoodIn wsX6_does (wsV RX6 134 RX6 yX6_addsRow wsX6_addsRow) := goodIn_app (goodIn_of _ (by decide +kernel)) ggX6_does_X6_addsRow
set_option maxRecDepth 20000 in
theorem ggX6_does_X6_clears : GoodIn wsX6_does wsX6_clears := goodIn_ca (goodIn_r _ [91, 6, 112, 113, 114, 115, 116, 117, 118, 119, 120, 121, 122, 123, 124, 125, 126, 127, 128, 129, 130, 131, 132] (by decide +kernel) (by decide +kernel)) (goodIn_sub (fun _ h => List.mem_cons_of_mem _ (List.mem_append_left _ (List.mem_append_right _ h))) (by decide +kernel))
set_option maxRecDepth 20000 in
theorem gX6_does_X6_clears : GoodIn wsX6_does (wsV RX6 137 RX6 yX6_clears wsX6_clears) := goodIn_app (goodIn_of _ (by decide +kernel)) ggX6_does_X6_clears
set_option maxRecDepth 20000 in
theorem ggX6_does_X6_knitsAll : GoodIn wsX6_does wsX6_knitsAll := goodIn_ca (goodIn_ca (goodIn_r _ [95, 17, 10, 11, 4, 12, 13, 14, 15, 16, 96, 97, 98, 99, 6, 100, 101, 102, 103, 104, 105, 106, 107, 18, 19, 20, 21, 49, 50, 51, 52, 22, 23, 24, 25, 26, 27, 28, 29, 108, 109, 110, 111, 30, 31, 32, 33, 112, 113, 114, 115, 116, 117, 118, 119, 120, 121, 122, 123, 124, 125, 126, 127, 128, 129, 130, 131, 132] (by decide +kernel) (by decide +kernel)) (goodIn_sub (fun _ h => List.mem_cons_of_mem _ (List.mem_append_left _ (List.mem_append_right _ h))) (by decide +kernel))) (goodIn_sub (fun _ h => List.mem_cons_of_mem _ (List.mem_append_right _ h)) (by decide +kernel))
set_option maxRecDepth 20000 in
theorem gX6_does_X6_knitsAll : GoodIn wsX6_does (wsV RX6 153 RX6 yX6_knitsAll wsX6_knitsAll) := goodIn_app (goodIn_of _ (by decide +kernel)) ggX6_does_X6_knitsAll
set_option maxRecDepth 20000 in
theorem ggX6_command_X6_sign : GoodIn wsX6_command wsX6_sign := goodIn_ca (goodIn_r _ [8, 2, 9, 10, 147, 148, 149, 150, 151, 152, 153, 154, 155, 156, 157, 158, 159, 160, 161, 162, 163, 164, 165, 166, 167] (by decide +kernel) (by decide +kernel)) (goodIn_sub (fun _ h => List.mem_cons_of_mem _ (List.mem_append_left _ (List.mem_append_right _ h))) (by decide +kernel))
set_option maxRecDepth 20000 in
theorem gX6_command_X6_sign : GoodIn wsX6_command (wsV RX6 194 RX6 yX6_sign wsX6_sign) := goodIn_app (goodIn_of _ (by decide +kernel)) ggX6_command_X6_sign
set_option maxRecDepth 20000 in
theorem ggX6_command_X6_isNumbered : GoodIn wsX6_command wsX6_isNumbered := goodIn_r _ [13] (by decide +kernel) (by decide +kernel)
set_option maxRecDepth 20000 in
theorem gX6_command_X6_isNumbered : GoodIn wsX6_command (va_wsS RX6 203 yX6_isNumbered wsX6_isNumbered) := goodIn_app (goodIn_of _ (by decide +kernel)) ggX6_command_X6_isNumbered
set_option maxRecDepth 20000 in
theorem ggX6_command_X6_isDigit : GoodIn wsX6_command wsX6_isDigit := goodIn_r _ [16] (by decide +kernel) (by decide +kernel)
set_option maxRecDepth 20000 in
theorem gX6_command_X6_isDigit : GoodIn wsX6_command (va_wsS RX6 206 yX6_isDigit wsX6_isDigit) := goodIn_app (goodIn_of _ (by decide +kernel)) ggX6_command_X6_isDigit
set_option maxRecDepth 20000 in
theorem ggX6_command_X6_digits : GoodIn wsX6_command wsX6_digits := goodIn_ca (goodIn_r _ [20, 1, 2, 4, 5, 6, 7, 8, 9, 10, 21, 22, 23, 147, 148, 149, 150, 151, 152, 153, 154, 155, 156, 157, 158, 159, 160, 161, 162, 163, 164, 165, 166, 167] (by decide +kernel) (by decide +kernel)) (goodIn_sub (fun _ h => List.mem_cons_of_mem _ (List.mem_append_left _ (List.mem_append_right _ h))) (by decide +kernel))
set_option maxRecDepth 20000 in
theorem gX6_command_X6_digits : GoodIn wsX6_command (wsV RX6 200 RX6 yX6_digits wsX6_digits) := goodIn_app (goodIn_of _ (by decide +kernel)) ggX6_command_X6_digits
set_option maxRecDepth 20000 in
theorem ggX6_command_X6_mask : GoodIn wsX6_command wsX6_mask := goodIn_ca (goodIn_r _ [27, 1, 2, 4, 5, 6, 7, 8, 9, 10, 147, 148, 149, 150, 151, 152, 153, 154, 155, 156, 157, 158, 159, 160, 161, 162, 163, 164, 165, 166, 167] (by decide +kernel) (by decide +kernel)) (goodIn_sub (fun _ h => List.mem_cons_of_mem _ (List.mem_append_left _ (List.mem_append_right _ h))) (by decide +kernel))
set_option maxRecDepth 20000 in
theorem gX6_command_X6_mask : GoodIn wsX6_command (wsV RX6 209 RX6 yX6_mask wsX6_mask) := goodIn_app (goodIn_of _ (by decide +kernel)) ggX6_command_X6_mask
set_option maxRecDepth 20000 in
theorem ggX6_command_X6_behind : GoodIn wsX6_command wsX6_behind := goodIn_ca (goodIn_r _ [31, 1, 32, 33, 34, 7, 35, 2, 4, 5, 6, 8, 9, 10, 17, 18, 19, 20, 21, 22, 23, 147, 148, 149, 150, 151, 152, 153, 154, 155, 156, 157, 158, 159, 160, 161, 162, 163, 164, 165, 166, 167] (by decide +kernel) (by decide +kernel)) (goodIn_sub (fun _ h => List.mem_cons_of_mem _ (List.mem_append_left _ (List.mem_append_right _ h))) (by decide +kernel))
set_option maxRecDepth 20000 in
theorem gX6_command_X6_behind : GoodIn wsX6_command (wsV RX6 212 RX6 yX6_behind wsX6_behind) := goodIn_app (goodIn_of _ (by decide +kernel)) ggX6_command_X6_behind
set_option maxRecDepth 20000 in
theorem ggX6_command_X6_does : GoodIn wsX6_command wsX6_does := goodIn_ca (goodIn_ca (goodIn_r _ [39, 40, 41, 42, 7, 43, 44, 45, 46, 47, 21, 22, 23, 48, 49, 50, 51, 52, 53, 54, 55, 56, 57, 58, 59, 60, 61, 62, 63, 64, 65, 66, 67, 68, 69, 70, 71, 72, 73, 74, 75, 76, 77, 78, 79, 80, 81, 82, 83, 84, 85, 86, 87, 88, 89, 90, 91, 92, 93, 94, 95, 96, 97, 98, 99, 100, 101, 102, 103, 104, 105, 106, 107, 108, 109, 110, 111, 112, 113, 114, 115, 116, 117, 118, 119, 120, 121, 122, 123, 124, 125, 126, 127, 128, 129, 130, 131, 132, 133, 134, 135, 136, 137, 138, 139, 140, 141, 142, 143, 144, 145, 146, 147, 148, 149, 150, 151, 152, 153, 154, 155, 156, 157, 158, 159, 160, 161, 162, 163, 164, 165, 166, 167] (by decide +kernel) (by decide +kernel)) (goodIn_sub (fun _ h => List.mem_cons_of_mem _ (List.mem_append_left _ (List.mem_append_right _ h))) (by decide +kernel))) (goodIn_sub (fun _ h => List.mem_cons_of_mem _ (List.mem_append_right _ h)) (by decide +kernel))
set_option maxRecDepth 20000 in
theorem gX6_command_X6_does : GoodIn wsX6_command (wsV RX6 218 RX6 yX6_does wsX6_does) := goodIn_app (goodIn_of _ (by decide +kernel)) ggX6_command_X6_does
set_option maxRecDepth 20000 in
theorem ggX6_commands_X6_command : GoodIn wsX6_commands wsX6_command := goodIn_ca (goodIn_ca (goodIn_r _ [9, 2, 1, 10, 11, 12, 13, 8, 14, 4, 15, 16, 17, 18, 19, 20, 21, 22, 23, 24, 25, 26, 27, 28, 29, 30, 31, 32, 33, 34, 35, 36, 37, 38, 39, 40, 41, 42, 43, 44, 45, 46, 47, 48, 49, 50, 51, 52, 53, 54, 55, 56, 3, 57, 58, 59, 60, 61, 62, 63, 64, 65, 66, 67, 68, 69, 70, 71, 72, 73, 74, 75, 76, 77, 78, 79, 80, 81, 82, 83, 84, 85, 86, 87, 88, 89, 90, 91, 92, 93, 94, 95, 96, 97, 98, 99, 100, 101, 102, 103, 104, 105, 106, 107, 108, 109, 110, 111, 112, 113, 114, 115, 116, 117, 118, 119, 120, 121, 122, 123, 124, 125, 126, 127, 128, 129, 130, 131, 132, 133, 134, 135, 136, 137, 138, 139, 140, 141, 142, 143, 144, 145, 146, 147, 148, 149, 150, 151, 152, 153, 154, 155, 156, 157, 158, 159, 160, 161, 162, 163, 164, 165, 166, 167, 168, 169, 170, 171] (by decide +kernel) (by decide +kernel)) (goodIn_sub (fun _ h => List.mem_cons_of_mem _ (List.mem_append_left _ (List.mem_append_right _ h))) (by decide +kernel))) (goodIn_sub (fun _ h => List.mem_cons_of_mem _ (List.mem_append_right _ h)) (by decide +kernel))
set_option maxRecDepth 20000 in
theorem gX6_commands_X6_command : GoodIn wsX6_commands (wsV RX6 221 RX6 yX6_command wsX6_command) := goodIn_app (goodIn_of _ (by decide +kernel)) ggX6_commands_X6_command
set_option maxRecDepth 20000 in
theorem ggX6_commands_X6_mark : GoodIn wsX6_commands wsX6_mark := goodIn_ca (goodIn_r _ [40, 2, 1, 11, 12, 13, 8, 14, 4, 15, 151, 152, 153, 154, 155, 156, 157, 158, 159, 160, 161, 162, 163, 164, 165, 166, 167, 168, 169, 170, 171] (by decide +kernel) (by decide +kernel)) (goodIn_sub (fun _ h => List.mem_cons_of_mem _ (List.mem_append_left _ (List.mem_append_right _ h))) (by decide +kernel))
set_option maxRecDepth 20000 in
theorem gX6_commands_X6_mark : GoodIn wsX6_commands (wsV RX6 197 RX6 yX6_mark wsX6_mark) := goodIn_app (goodIn_of _ (by decide +kernel)) ggX6_commands_X6_mark
set_option maxRecDepth 20000 in
theorem ggX6_execute_X6_begins : GoodIn wsX6_execute wsX6_begins := goodIn_ca (goodIn_r _ [15, 7, 8, 16, 17, 18, 19, 14, 20, 171, 172, 173, 174, 175, 176, 177, 178, 179, 180, 181, 182, 183, 184, 185, 186, 187, 188, 189, 190, 191] (by decide +kernel) (by decide +kernel)) (goodIn_sub (fun _ h => List.mem_cons_of_mem _ (List.mem_append_left _ (List.mem_append_right _ h))) (by decide +kernel))
set_option maxRecDepth 20000 in
theorem gX6_execute_X6_begins : GoodIn wsX6_execute (wsV RX6 84 RX6 yX6_begins wsX6_begins) := goodIn_app (goodIn_of _ (by decide +kernel)) ggX6_execute_X6_begins
set_option maxRecDepth 20000 in
theorem ggX6_execute_X6_commands : GoodIn wsX6_execute wsX6_commands := goodIn_ca (goodIn_ca (goodIn_r _ [24, 5, 4, 7, 2, 25, 26, 27, 14, 28, 3, 29, 30, 31, 32, 33, 34, 35, 36, 37, 38, 39, 40, 41, 42, 43, 44, 45, 46, 47, 48, 49, 50, 51, 52, 53, 54, 55, 56, 57, 58, 59, 60, 61, 62, 63, 64, 65, 66, 17, 67, 68, 69, 70, 71, 72, 73, 74, 75, 76, 77, 78, 79, 80, 81, 9, 82, 10, 8, 83, 84, 85, 86, 87, 88, 89, 90, 91, 92, 93, 94, 95, 96, 97, 98, 99, 100, 101, 102, 103, 104, 105, 106, 107, 108, 109, 110, 111, 112, 113, 114, 115, 116, 117, 118, 119, 120, 121, 122, 123, 124, 125, 126, 127, 128, 129, 130, 131, 132, 133, 134, 135, 136, 137, 138, 139, 140, 141, 142, 143, 144, 145, 146, 147, 148, 149, 150, 151, 152, 153, 154, 155, 156, 157, 158, 159, 160, 161, 162, 163, 164, 171, 172, 173, 174, 175, 176, 177, 178, 179, 180, 181, 182, 183, 184, 185, 186, 187, 188, 189, 190, 191] (by decide +kernel) (by decide +kernel)) (goodIn_sub (fun _ h => List.mem_cons_of_mem _ (List.mem_append_left _ (List.mem_append_right _ h))) (by decide +kernel))) (goodIn_sub (fun _ h => List.mem_cons_of_mem _ (List.mem_append_right _ h)) (by decide +kernel))
set_option maxRecDepth 20000 in
theorem gX6_execute_X6_commands : GoodIn wsX6_execute (wsV RX6 224 RX6 yX6_commands wsX6_commands) := goodIn_app (goodIn_of _ (by decide +kernel)) ggX6_execute_X6_commands
set_option maxRecDepth 20000 in
theorem ggX6_execute_X6_fail : GoodIn wsX6_execute wsX6_fail := goodIn_r _ [73, 7, 171, 172, 173, 174, 175, 176, 177, 178, 179, 180, 181, 182, 183, 184, 185, 186, 187, 188, 189, 190, 191] (by decide +kernel) (by decide +kernel)
set_option maxRecDepth 20000 in
theorem gX6_execute_X6_fail : GoodIn wsX6_execute (wsV RX6 51 RX6 yX6_fail wsX6_fail) := goodIn_app (goodIn_of _ (by decide +kernel)) ggX6_execute_X6_fail
set_option maxRecDepth 20000 in
theorem ggX6_execute_X6_ends : GoodIn wsX6_execute wsX6_ends := goodIn_ca (goodIn_r _ [168, 7, 17, 16, 169, 170, 18, 19, 14, 20, 171, 172, 173, 174, 175, 176, 177, 178, 179, 180, 181, 182, 183, 184, 185, 186, 187, 188, 189, 190, 191] (by decide +kernel) (by decide +kernel)) (goodIn_sub (fun _ h => List.mem_cons_of_mem _ (List.mem_append_left _ (List.mem_append_right _ h))) (by decide +kernel))
set_option maxRecDepth 20000 in
theorem gX6_execute_X6_ends : GoodIn wsX6_execute (wsV RX6 91 RX6 yX6_ends wsX6_ends) := goodIn_app (goodIn_of _ (by decide +kernel)) ggX6_execute_X6_ends
set_option maxRecDepth 20000 in
theorem ggX6_execute_X6_rejects : GoodIn wsX6_execute wsX6_rejects := goodIn_r _ [81, 9, 82, 10, 8, 70, 71, 72, 14, 73, 7, 171, 172, 173, 174, 175, 176, 177, 178, 179, 180, 181, 182, 183, 184, 185, 186, 187, 188, 189, 190, 191] (by decide +kernel) (by decide +kernel)
set_option maxRecDepth 20000 in
theorem gX6_execute_X6_rejects : GoodIn wsX6_execute (wsV RX6 73 RX6 yX6_rejects wsX6_rejects) := goodIn_app (goodIn_of _ (by decide +kernel)) ggX6_execute_X6_rejects
set_option maxRecDepth 20000 in
theorem ggX6_saveSnapshot_X6_lays : GoodIn wsX6_saveSnapshot wsX6_lays := goodIn_ca (goodIn_r _ [8] (by decide +kernel) (by decide +kernel)) (goodIn_sub (fun _ h => List.mem_cons_of_mem _ (List.mem_append_right _ h)) (by decide +kernel))
set_option maxRecDepth 20000 in
theorem gX6_saveSnapshot_X6_lays : GoodIn wsX6_saveSnapshot (va_wsS RX6 55 yX6_lays wsX6_lays) := goodIn_app (goodIn_of _ (by decide +kernel)) ggX6_saveSnapshot_X6_lays
set_option maxRecDepth 20000 in
theorem ggX6_restoreSnapshot_X6_lays : GoodIn wsX6_restoreSnapshot wsX6_lays := goodIn_ca (goodIn_r _ [9] (by decide +kernel) (by decide +kernel)) (goodIn_sub (fun _ h => List.mem_cons_of_mem _ (List.mem_append_right _ h)) (by decide +kernel))
set_option maxRecDepth 20000 in
theorem gX6_restoreSnapshot_X6_lays : GoodIn wsX6_restoreSnapshot (va_wsS RX6 55 yX6_lays wsX6_lays) := goodIn_app (goodIn_of _ (by decide +kernel)) ggX6_restoreSnapshot_X6_lays
