set_option maxRecDepth 20000 in
theorem ggX6_holds_X6_isHeld : GoodIn wsX6_holds wsX6_isHeld := goodIn_ca (goodIn_r _ [29, 1, 33, 34, 35, 36, 37, 38, 39, 40, 41, 42, 43, 44, 45, 46, 47, 48, 49, 50, 51, 52, 53] (by decide +kernel) (by decide +kernel)) (goodIn_sub (fun _ h => List.mem_cons_of_mem _ (List.mem_append_right _ h)) (by decide +kernel))
set_option maxRecDepth 20000 in
theorem gX6_holds_X6_isHeld : GoodIn wsX6_holds (wsV RX6 101 RX6 yX6_isHeld wsX6_isHeld) := goodIn_app (goodIn_of _ (by decide +kernel)) ggX6_holds_X6_isHeld
set_option maxRecDepth 20000 in
theorem ggX6_holds_X6_bits : GoodIn wsX6_holds wsX6_bits := goodIn_r _ [32] (by decide +kernel) (by decide +kernel)
set_option maxRecDepth 20000 in
theorem gX6_holds_X6_bits : GoodIn wsX6_holds (va_wsS RX6 81 yX6_bits wsX6_bits) := goodIn_app (goodIn_of _ (by decide +kernel)) ggX6_holds_X6_bits
set_option maxRecDepth 20000 in
theorem ggX6_hold_X6_begins : GoodIn wsX6_hold wsX6_begins := goodIn_ca (goodIn_r _ [5, 6, 7, 8, 9, 10, 11, 4, 12, 51, 52, 53, 54, 55, 56, 57, 58, 59, 60, 61, 62, 63, 64, 65, 66, 67, 68, 69, 70, 71] (by decide +kernel) (by decide +kernel)) (goodIn_sub (fun _ h => List.mem_cons_of_mem _ (List.mem_append_right _ h)) (by decide +kernel))
set_option maxRecDepth 20000 in
theorem gX6_hold_X6_begins : GoodIn wsX6_hold (wsV RX6 84 RX6 yX6_begins wsX6_begins) := goodIn_app (goodIn_of _ (by decide +kernel)) ggX6_hold_X6_begins
set_option maxRecDepth 20000 in
theorem ggX6_hold_X6_holds : GoodIn wsX6_hold wsX6_holds := goodIn_ca (goodIn_r _ [16, 9, 17, 18, 4, 19, 20, 21, 22, 23, 24, 25, 26, 6, 27, 28, 29, 30, 31, 32, 33, 34, 35, 36, 37, 7, 38, 39, 40, 41, 42, 43, 44, 51, 52, 53, 54, 55, 56, 57, 58, 59, 60, 61, 62, 63, 64, 65, 66, 67, 68, 69, 70, 71] (by decide +kernel) (by decide +kernel)) (goodIn_sub (fun _ h => List.mem_cons_of_mem _ (List.mem_append_right _ h)) (by decide +kernel))
set_option maxRecDepth 20000 in
theorem gX6_hold_X6_holds : GoodIn wsX6_hold (wsV RX6 104 RX6 yX6_holds wsX6_holds) := goodIn_app (goodIn_of _ (by decide +kernel)) ggX6_hold_X6_holds
set_option maxRecDepth 20000 in
theorem ggX6_hold_X6_ends : GoodIn wsX6_hold wsX6_ends := goodIn_ca (goodIn_r _ [48, 6, 9, 8, 49, 50, 10, 11, 4, 12, 51, 52, 53, 54, 55, 56, 57, 58, 59, 60, 61, 62, 63, 64, 65, 66, 67, 68, 69, 70, 71] (by decide +kernel) (by decide +kernel)) (goodIn_sub (fun _ h => List.mem_cons_of_mem _ (List.mem_append_right _ h)) (by decide +kernel))
set_option maxRecDepth 20000 in
theorem gX6_hold_X6_ends : GoodIn wsX6_hold (wsV RX6 91 RX6 yX6_ends wsX6_ends) := goodIn_app (goodIn_of _ (by decide +kernel)) ggX6_hold_X6_ends
set_option maxRecDepth 20000 in
theorem ggX6_frees_X6_isNeedle : GoodIn wsX6_frees wsX6_isNeedle := goodIn_r _ [5, 6, 7, 4, 8] (by decide +kernel) (by decide +kernel)
set_option maxRecDepth 20000 in
theorem gX6_frees_X6_isNeedle : GoodIn wsX6_frees (va_wsS RX6 66 yX6_isNeedle wsX6_isNeedle) := goodIn_app (goodIn_of _ (by decide +kernel)) ggX6_frees_X6_isNeedle
set_option maxRecDepth 20000 in
theorem ggX6_frees_X6_fail : GoodIn wsX6_frees wsX6_fail := goodIn_r _ [12, 13, 29, 30, 31, 32, 33, 34, 35, 36, 37, 38, 39, 40, 41, 42, 43, 44, 45, 46, 47, 48, 49] (by decide +kernel) (by decide +kernel)
set_option maxRecDepth 20000 in
theorem gX6_frees_X6_fail : GoodIn wsX6_frees (wsV RX6 51 RX6 yX6_fail wsX6_fail) := goodIn_app (goodIn_of _ (by decide +kernel)) ggX6_frees_X6_fail
set_option maxRecDepth 20000 in
theorem ggX6_frees_X6_isHeld : GoodIn wsX6_frees wsX6_isHeld := goodIn_ca (goodIn_r _ [17, 1, 29, 30, 31, 32, 33, 34, 35, 36, 37, 38, 39, 40, 41, 42, 43, 44, 45, 46, 47, 48, 49] (by decide +kernel) (by decide +kernel)) (goodIn_sub (fun _ h => List.mem_cons_of_mem _ (List.mem_append_right _ h)) (by decide +kernel))
set_option maxRecDepth 20000 in
theorem gX6_frees_X6_isHeld : GoodIn wsX6_frees (wsV RX6 101 RX6 yX6_isHeld wsX6_isHeld) := goodIn_app (goodIn_of _ (by decide +kernel)) ggX6_frees_X6_isHeld
set_option maxRecDepth 20000 in
theorem ggX6_frees_X6_rejects : GoodIn wsX6_frees wsX6_rejects := goodIn_r _ [21, 22, 23, 24, 25, 9, 10, 11, 4, 12, 13, 29, 30, 31, 32, 33, 34, 35, 36, 37, 38, 39, 40, 41, 42, 43, 44, 45, 46, 47, 48, 49] (by decide +kernel) (by decide +kernel)
set_option maxRecDepth 20000 in
theorem gX6_frees_X6_rejects : GoodIn wsX6_frees (wsV RX6 73 RX6 yX6_rejects wsX6_rejects) := goodIn_app (goodIn_of _ (by decide +kernel)) ggX6_frees_X6_rejects
set_option maxRecDepth 20000 in
theorem ggX6_frees_X6_bits : GoodIn wsX6_frees wsX6_bits := goodIn_r _ [28] (by decide +kernel) (by decide +kernel)
set_option maxRecDepth 20000 in
theorem gX6_frees_X6_bits : GoodIn wsX6_frees (va_wsS RX6 81 yX6_bits wsX6_bits) := goodIn_app (goodIn_of _ (by decide +kernel)) ggX6_frees_X6_bits
set_option maxRecDepth 20000 in
theorem ggX6_release_X6_begins : GoodIn wsX6_release wsX6_begins := goodIn_ca (goodIn_r _ [5, 6, 7, 8, 9, 10, 11, 4, 12, 47, 48, 49, 50, 51, 52, 53, 54, 55, 56, 57, 58, 59, 60, 61, 62, 63, 64, 65, 66, 67] (by decide +kernel) (by decide +kernel)) (goodIn_sub (fun _ h => List.mem_cons_of_mem _ (List.mem_append_right _ h)) (by decide +kernel))
set_option maxRecDepth 20000 in
theorem gX6_release_X6_begins : GoodIn wsX6_release (wsV RX6 84 RX6 yX6_begins wsX6_begins) := goodIn_app (goodIn_of _ (by decide +kernel)) ggX6_release_X6_begins
set_option maxRecDepth 20000 in
theorem ggX6_release_X6_frees : GoodIn wsX6_release wsX6_frees := goodIn_ca (goodIn_r _ [16, 9, 17, 18, 4, 19, 20, 21, 22, 23, 24, 25, 26, 6, 27, 28, 29, 30, 31, 32, 33, 34, 35, 36, 37, 7, 38, 39, 40, 47, 48, 49, 50, 51, 52, 53, 54, 55, 56, 57, 58, 59, 60, 61, 62, 63, 64, 65, 66, 67] (by decide +kernel) (by decide +kernel)) (goodIn_sub (fun _ h => List.mem_cons_of_mem _ (List.mem_append_right _ h)) (by decide +kernel))
set_option maxRecDepth 20000 in
theorem gX6_release_X6_frees : GoodIn wsX6_release (wsV RX6 107 RX6 yX6_frees wsX6_frees) := goodIn_app (goodIn_of _ (by decide +kernel)) ggX6_release_X6_frees
set_option maxRecDepth 20000 in
theorem ggX6_release_X6_ends : GoodIn wsX6_release wsX6_ends := goodIn_ca (goodIn_r _ [44, 6, 9, 8, 45, 46, 10, 11, 4, 12, 47, 48, 49, 50, 51, 52, 53, 54, 55, 56, 57, 58, 59, 60, 61, 62, 63, 64, 65, 66, 67] (by decide +kernel) (by decide +kernel)) (goodIn_sub (fun _ h => List.mem_cons_of_mem _ (List.mem_append_right _ h)) (by decide +kernel))
set_option maxRecDepth 20000 in
theorem gX6_release_X6_ends : GoodIn wsX6_release (wsV RX6 91 RX6 yX6_ends wsX6_ends) := goodIn_app (goodIn_of _ (by decide +kernel)) ggX6_release_X6_ends
set_option maxRecDepth 20000 in
theorem ggX6_drops_X6_isNeedle : GoodIn wsX6_drops wsX6_isNeedle := goodIn_r _ [5, 6, 7, 4, 8] (by decide +kernel) (by decide +kernel)
set_option maxRecDepth 20000 in
theorem gX6_drops_X6_isNeedle : GoodIn wsX6_drops (va_wsS RX6 66 yX6_isNeedle wsX6_isNeedle) := goodIn_app (goodIn_of _ (by decide +kernel)) ggX6_drops_X6_isNeedle
set_option maxRecDepth 20000 in
theorem ggX6_drops_X6_fail : GoodIn wsX6_drops wsX6_fail := goodIn_r _ [12, 13, 33, 34, 35, 36, 37, 38, 39, 40, 41, 42, 43, 44, 45, 46, 47, 48, 49, 50, 51, 52, 53] (by decide +kernel) (by decide +kernel)
set_option maxRecDepth 20000 in
theorem gX6_drops_X6_fail : GoodIn wsX6_drops (wsV RX6 51 RX6 yX6_fail wsX6_fail) := goodIn_app (goodIn_of _ (by decide +kernel)) ggX6_drops_X6_fail
set_option maxRecDepth 20000 in
theorem ggX6_drops_X6_isOn : GoodIn wsX6_drops wsX6_isOn := goodIn_ca (goodIn_r _ [17, 1, 33, 34, 35, 36, 37, 38, 39, 40, 41, 42, 43, 44, 45, 46, 47, 48, 49, 50, 51, 52, 53] (by decide +kernel) (by decide +kernel)) (goodIn_sub (fun _ h => List.mem_cons_of_mem _ (List.mem_append_right _ h)) (by decide +kernel))
set_option maxRecDepth 20000 in
theorem gX6_drops_X6_isOn : GoodIn wsX6_drops (wsV RX6 70 RX6 yX6_isOn wsX6_isOn) := goodIn_app (goodIn_of _ (by decide +kernel)) ggX6_drops_X6_isOn
set_option maxRecDepth 20000 in
theorem ggX6_drops_X6_rejects : GoodIn wsX6_drops wsX6_rejects := goodIn_r _ [21, 22, 23, 24, 25, 9, 10, 11, 4, 12, 13, 33, 34, 35, 36, 37, 38, 39, 40, 41, 42, 43, 44, 45, 46, 47, 48, 49, 50, 51, 52, 53] (by decide +kernel) (by decide +kernel)
set_option maxRecDepth 20000 in
theorem gX6_drops_X6_rejects : GoodIn wsX6_drops (wsV RX6 73 RX6 yX6_rejects wsX6_rejects) := goodIn_app (goodIn_of _ (by decide +kernel)) ggX6_drops_X6_rejects
set_option maxRecDepth 20000 in
theorem ggX6_drops_X6_bits : GoodIn wsX6_drops wsX6_bits := goodIn_r _ [28] (by decide +kernel) (by decide +kernel)
set_option maxRecDepth 20000 in
theorem gX6_drops_X6_bits : GoodIn wsX6_drops (va_wsS RX6 81 yX6_bits wsX6_bits) := goodIn_app (goodIn_of _ (by decide +kernel)) ggX6_drops_X6_bits
set_option maxRecDepth 20000 in
theorem ggX6_drops_X6_puts : GoodIn wsX6_drops wsX6_puts := goodIn_ca (goodIn_r _ [32, 1, 33, 34, 35, 36, 37, 38, 39, 40, 41, 42, 43, 44, 45, 46, 47, 48, 49, 50, 51, 52, 53] (by decide +kernel) (by decide +kernel)) (goodIn_sub (fun _ h => List.mem_cons_of_mem _ (List.mem_append_right _ h)) (by decide +kernel))
set_option maxRecDepth 20000 in
theorem gX6_drops_X6_puts : GoodIn wsX6_drops (wsV RX6 77 RX6 yX6_puts wsX6_puts) := goodIn_app (goodIn_of _ (by decide +kernel)) ggX6_drops_X6_puts
set_option maxRecDepth 20000 in
theorem ggX6_dropStitch_X6_begins : GoodIn wsX6_dropStitch wsX6_begins := goodIn_ca (goodIn_r _ [5, 6, 7, 8, 9, 10, 11, 4, 12, 51, 52, 53, 54, 55, 56, 57, 58, 59, 60, 61, 62, 63, 64, 65, 66, 67, 68, 69, 70, 71] (by decide +kernel) (by decide +kernel)) (goodIn_sub (fun _ h => List.mem_cons_of_mem _ (List.mem_append_right _ h)) (by decide +kernel))
set_option maxRecDepth 20000 in
theorem gX6_dropStitch_X6_begins : GoodIn wsX6_dropStitch (wsV RX6 84 RX6 yX6_begins wsX6_begins) := goodIn_app (goodIn_of _ (by decide +kernel)) ggX6_dropStitch_X6_begins
set_option maxRecDepth 20000 in
theorem ggX6_dropStitch_X6_drops : GoodIn wsX6_dropStitch wsX6_drops := goodIn_ca (goodIn_r _ [16, 9, 17, 18, 4, 19, 20, 21, 22, 23, 24, 25, 26, 6, 27, 28, 29, 30, 31, 32, 33, 34, 35, 36, 37, 7, 38, 39, 40, 41, 42, 43, 44, 51, 52, 53, 54, 55, 56, 57, 58, 59, 60, 61, 62, 63, 64, 65, 66, 67, 68, 69, 70, 71] (by decide +kernel) (by decide +kernel)) (goodIn_sub (fun _ h => List.mem_cons_of_mem _ (List.mem_append_right _ h)) (by decide +kernel))
set_option maxRecDepth 20000 in
theorem gX6_dropStitch_X6_drops : GoodIn wsX6_dropStitch (wsV RX6 110 RX6 yX6_drops wsX6_drops) := goodIn_app (goodIn_of _ (by decide +kernel)) ggX6_dropStitch_X6_drops
set_option maxRecDepth 20000 in
theorem ggX6_dropStitch_X6_ends : GoodIn wsX6_dropStitch wsX6_ends := goodIn_ca (goodIn_r _ [48, 6, 9, 8, 49, 50, 10, 11, 4, 12, 51, 52, 53, 54, 55, 56, 57, 58, 59, 60, 61, 62, 63, 64, 65, 66, 67, 68, 69, 70, 71] (by decide +kernel) (by decide +kernel)) (goodIn_sub (fun _ h => List.mem_cons_of_mem _ (List.mem_append_right _ h)) (by decide +kernel))
set_option maxRecDepth 20000 in
theorem gX6_dropStitch_X6_ends : GoodIn wsX6_dropStitch (wsV RX6 91 RX6 yX6_ends wsX6_ends) := goodIn_app (goodIn_of _ (by decide +kernel)) ggX6_dropStitch_X6_ends
set_option maxRecDepth 20000 in
theorem ggX6_picks_X6_isNeedle : GoodIn wsX6_picks wsX6_isNeedle := goodIn_r _ [5, 6, 7, 4, 8] (by decide +kernel) (by decide +kernel)
set_option maxRecDepth 20000 in
theorem gX6_picks_X6_isNeedle : GoodIn wsX6_picks (va_wsS RX6 66 yX6_isNeedle wsX6_isNeedle) := goodIn_app (goodIn_of _ (by decide +kernel)) ggX6_picks_X6_isNeedle
set_option maxRecDepth 20000 in
theorem ggX6_picks_X6_fail : GoodIn wsX6_picks wsX6_fail := goodIn_r _ [12, 13, 30, 31, 32, 33, 34, 35, 36, 37, 38, 39, 40, 41, 42, 43, 44, 45, 46, 47, 48, 49, 50] (by decide +kernel) (by decide +kernel)
set_option maxRecDepth 20000 in
theorem gX6_picks_X6_fail : GoodIn wsX6_picks (wsV RX6 51 RX6 yX6_fail wsX6_fail) := goodIn_app (goodIn_of _ (by decide +kernel)) ggX6_picks_X6_fail
set_option maxRecDepth 20000 in
theorem ggX6_picks_X6_isOn : GoodIn wsX6_picks wsX6_isOn := goodIn_ca (goodIn_r _ [17, 1, 30, 31, 32, 33, 34, 35, 36, 37, 38, 39, 40, 41, 42, 43, 44, 45, 46, 47, 48, 49, 50] (by decide +kernel) (by decide +kernel)) (goodIn_sub (fun _ h => List.mem_cons_of_mem _ (List.mem_append_right _ h)) (by decide +kernel))
set_option maxRecDepth 20000 in
theorem gX6_picks_X6_isOn : GoodIn wsX6_picks (wsV RX6 70 RX6 yX6_isOn wsX6_isOn) := goodIn_app (goodIn_of _ (by decide +kernel)) ggX6_picks_X6_isOn
set_option maxRecDepth 20000 in
theorem ggX6_picks_X6_rejects : GoodIn wsX6_picks wsX6_rejects := goodIn_r _ [21, 22, 23, 24, 25, 9, 10, 11, 4, 12, 13, 30, 31, 32, 33, 34, 35, 36, 37, 38, 39, 40, 41, 42, 43, 44, 45, 46, 47, 48, 49, 50] (by decide +kernel) (by decide +kernel)
set_option maxRecDepth 20000 in
theorem gX6_picks_X6_rejects : GoodIn wsX6_picks (wsV RX6 73 RX6 yX6_rejects wsX6_rejects) := goodIn_app (goodIn_of _ (by decide +kernel)) ggX6_picks_X6_rejects
set_option maxRecDepth 20000 in
theorem ggX6_picks_X6_puts : GoodIn wsX6_picks wsX6_puts := goodIn_ca (goodIn_r _ [29, 1, 30, 31, 32, 33, 34, 35, 36, 37, 38, 39, 40, 41, 42, 43, 44, 45, 46, 47, 48, 49, 50] (by decide +kernel) (by decide +kernel)) (goodIn_sub (fun _ h => List.mem_cons_of_mem _ (List.mem_append_right _ h)) (by decide +kernel))
set_option maxRecDepth 20000 in
theorem gX6_picks_X6_puts : GoodIn wsX6_picks (wsV RX6 77 RX6 yX6_puts wsX6_puts) := goodIn_app (goodIn_of _ (by decide +kernel)) ggX6_picks_X6_puts
set_option maxRecDepth 20000 in
theorem ggX6_pickUp_X6_begins : GoodIn wsX6_pickUp wsX6_begins := goodIn_ca (goodIn_r _ [5, 6, 7, 8, 9, 10, 11, 4, 12, 48, 49, 50, 51, 52, 53, 54, 55, 56, 57, 58, 59, 60, 61, 62, 63, 64, 65, 66, 67, 68] (by decide +kernel) (by decide +kernel)) (goodIn_sub (fun _ h => List.mem_cons_of_mem _ (List.mem_append_right _ h)) (by decide +kernel))
set_option maxRecDepth 20000 in
theorem gX6_pickUp_X6_begins : GoodIn wsX6_pickUp (wsV RX6 84 RX6 yX6_begins wsX6_begins) := goodIn_app (goodIn_of _ (by decide +kernel)) ggX6_pickUp_X6_begins
set_option maxRecDepth 20000 in
theorem ggX6_pickUp_X6_picks : GoodIn wsX6_pickUp wsX6_picks := goodIn_ca (goodIn_r _ [16, 9, 17, 18, 4, 19, 20, 21, 22, 23, 24, 25, 26, 6, 27, 28, 29, 30, 31, 32, 33, 34, 35, 36, 37, 7, 38, 39, 40, 41, 48, 49, 50, 51, 52, 53, 54, 55, 56, 57, 58, 59, 60, 61, 62, 63, 64, 65, 66, 67, 68] (by decide +kernel) (by decide +kernel)) (goodIn_sub (fun _ h => List.mem_cons_of_mem _ (List.mem_append_right _ h)) (by decide +kernel))
set_option maxRecDepth 20000 in
theorem gX6_pickUp_X6_picks : GoodIn wsX6_pickUp (wsV RX6 113 RX6 yX6_picks wsX6_picks) := goodIn_app (goodIn_of _ (by decide +kernel)) ggX6_pickUp_X6_picks
set_option maxRecDepth 20000 in
theorem ggX6_pickUp_X6_ends : GoodIn wsX6_pickUp wsX6_ends := goodIn_ca (goodIn_r _ [45, 6, 9, 8, 46, 47, 10, 11, 4, 12, 48, 49, 50, 51, 52, 53, 54, 55, 56, 57, 58, 59, 60, 61, 62, 63, 64, 65, 66, 67, 68] (by decide +kernel) (by decide +kernel)) (goodIn_sub (fun _ h => List.mem_cons_of_mem _ (List.mem_append_right _ h)) (by decide +kernel))
set_option maxRecDepth 20000 in
theorem gX6_pickUp_X6_ends : GoodIn wsX6_pickUp (wsV RX6 91 RX6 yX6_ends wsX6_ends) := goodIn_app (goodIn_of _ (by decide +kernel)) ggX6_pickUp_X6_ends
set_option maxRecDepth 20000 in
theorem ggX6_moves_X6_isNeedle : GoodIn wsX6_moves wsX6_isNeedle := goodIn_r _ [5, 6, 7, 4, 8] (by decide +kernel) (by decide +kernel)
set_option maxRecDepth 20000 in
theorem gX6_moves_X6_isNeedle : GoodIn wsX6_moves (va_wsS RX6 66 yX6_isNeedle wsX6_isNeedle) := goodIn_app (goodIn_of _ (by decide +kernel)) ggX6_moves_X6_isNeedle
set_option maxRecDepth 20000 in
theorem ggX6_moves_X6_fail : GoodIn wsX6_moves wsX6_fail := goodIn_r _ [12, 13, 33, 34, 35, 36, 37, 38, 39, 40, 41, 42, 43, 44, 45, 46, 47, 48, 49, 50, 51, 52, 53] (by decide +kernel) (by decide +kernel)
set_option maxRecDepth 20000 in
theorem gX6_moves_X6_fail : GoodIn wsX6_moves (wsV RX6 51 RX6 yX6_fail wsX6_fail) := goodIn_app (goodIn_of _ (by decide +kernel)) ggX6_moves_X6_fail
set_option maxRecDepth 20000 in
theorem ggX6_moves_X6_isOn : GoodIn wsX6_moves wsX6_isOn := goodIn_ca (goodIn_r _ [17, 1, 33, 34, 35, 36, 37, 38, 39, 40, 41, 42, 43, 44, 45, 46, 47, 48, 49, 50, 51, 52, 53] (by decide +kernel) (by decide +kernel)) (goodIn_sub (fun _ h => List.mem_cons_of_mem _ (List.mem_append_right _ h)) (by decide +kernel))
set_option maxRecDepth 20000 in
theorem gX6_moves_X6_isOn : GoodIn wsX6_moves (wsV RX6 70 RX6 yX6_isOn wsX6_isOn) := goodIn_app (goodIn_of _ (by decide +kernel)) ggX6_moves_X6_isOn
set_option maxRecDepth 20000 in
theorem ggX6_moves_X6_rejects : GoodIn wsX6_moves wsX6_rejects := goodIn_r _ [21, 22, 23, 24, 25, 9, 10, 11, 4, 12, 13, 33, 34, 35, 36, 37, 38, 39, 40, 41, 42, 43, 44, 45, 46, 47, 48, 49, 50, 51, 52, 53] (by decide +kernel) (by decide +kernel)
set_option maxRecDepth 20000 in
theorem gX6_moves_X6_rejects : GoodIn wsX6_moves (wsV RX6 73 RX6 yX6_rejects wsX6_rejects) := goodIn_app (goodIn_of _ (by decide +kernel)) ggX6_moves_X6_rejects
set_option maxRecDepth 20000 in
theorem ggX6_moves_X6_bits : GoodIn wsX6_moves wsX6_bits := goodIn_r _ [28] (by decide +kernel) (by decide +kernel)
set_option maxRecDepth 20000 in
theorem gX6_moves_X6_bits : GoodIn wsX6_moves (va_wsS RX6 81 yX6_bits wsX6_bits) := goodIn_app (goodIn_of _ (by decide +kernel)) ggX6_moves_X6_bits
set_option maxRecDepth 20000 in
theorem ggX6_moves_X6_puts : GoodIn wsX6_moves wsX6_puts := goodIn_ca (goodIn_r _ [32, 1, 33, 34, 35, 36, 37, 38, 39, 40, 41, 42, 43, 44, 45, 46, 47, 48, 49, 50, 51, 52, 53] (by decide +kernel) (by decide +kernel)) (goodIn_sub (fun _ h => List.mem_cons_of_mem _ (List.mem_append_right _ h)) (by decide +kernel))
set_option maxRecDepth 20000 in
theorem gX6_moves_X6_puts : GoodIn wsX6_moves (wsV RX6 77 RX6 yX6_puts wsX6_puts) := goodIn_app (goodIn_of _ (by decide +kernel)) ggX6_moves_X6_puts
set_option maxRecDepth 20000 in
theorem ggX6_transfer_X6_begins : GoodIn wsX6_transfer wsX6_begins := goodIn_ca (goodIn_r _ [5, 6, 7, 8, 9, 10, 11, 4, 12, 51, 52, 53, 54, 55, 56, 57, 58, 59, 60, 61, 62, 63, 64, 65, 66, 67, 68, 69, 70, 71] (by decide +kernel) (by decide +kernel)) (goodIn_sub (fun _ h => List.mem_cons_of_mem _ (List.mem_append_right _ h)) (by decide +kernel))
set_option maxRecDepth 20000 in
theorem gX6_transfer_X6_begins : GoodIn wsX6_transfer (wsV RX6 84 RX6 yX6_begins wsX6_begins) := goodIn_app (goodIn_of _ (by decide +kernel)) ggX6_transfer_X6_begins
set_option maxRecDepth 20000 in
theorem ggX6_transfer_X6_moves : GoodIn wsX6_transfer wsX6_moves := goodIn_ca (goodIn_r _ [16, 9, 17, 18, 4, 19, 20, 21, 22, 23, 24, 25, 26, 6, 27, 28, 29, 30, 31, 32, 33, 34, 35, 36, 37, 7, 38, 39, 40, 41, 42, 43, 44, 51, 52, 53, 54, 55, 56, 57, 58, 59, 60, 61, 62, 63, 64, 65, 66, 67, 68, 69, 70, 71] (by decide +kernel) (by decide +kernel)) (goodIn_sub (fun _ h => List.mem_cons_of_mem _ (List.mem_append_right _ h)) (by decide +kernel))
set_option maxRecDepth 20000 in
theorem gX6_transfer_X6_moves : GoodIn wsX6_transfer (wsV RX6 116 RX6 yX6_moves wsX6_moves) := goodIn_app (goodIn_of _ (by decide +kernel)) ggX6_transfer_X6_moves
set_option maxRecDepth 20000 in
theorem ggX6_transfer_X6_ends : GoodIn wsX6_transfer wsX6_ends := goodIn_ca (goodIn_r _ [48, 6, 9, 8, 49, 50, 10, 11, 4, 12, 51, 52, 53, 54, 55, 56, 57, 58, 59, 60, 61, 62, 63, 64, 65, 66, 67, 68, 69, 70, 71] (by decide +kernel) (by decide +kernel)) (goodIn_sub (fun _ h => List.mem_cons_of_mem _ (List.mem_append_right _ h)) (by decide +kernel))
set_option maxRecDepth 20000 in
theorem gX6_transfer_X6_ends : GoodIn wsX6_transfer (wsV RX6 91 RX6 yX6_ends wsX6_ends) := goodIn_app (goodIn_of _ (by decide +kernel)) ggX6_transfer_X6_ends
set_option maxRecDepth 20000 in
theorem ggX6_isInWork_X6_isNeedle : GoodIn wsX6_isInWork wsX6_isNeedle := goodIn_r _ [5, 6, 7, 4, 8] (by decide +kernel) (by decide +kernel)
set_option maxRecDepth 20000 in
theorem gX6_isInWork_X6_isNeedle : GoodIn wsX6_isInWork (va_wsS RX6 66 yX6_isNeedle wsX6_isNeedle) := goodIn_app (goodIn_of _ (by decide +kernel)) ggX6_isInWork_X6_isNeedle
set_option maxRecDepth 20000 in
theorem ggX6_isInWork_X6_isOn : GoodIn wsX6_isInWork wsX6_isOn := goodIn_ca (goodIn_r _ [12, 13, 14, 15, 16, 17, 18, 19, 20, 21, 22, 23, 24, 25, 26, 27, 28, 29, 30, 31, 32, 33, 34] (by decide +kernel) (by decide +kernel)) (goodIn_sub (fun _ h => List.mem_cons_of_mem _ (List.mem_append_right _ h)) (by decide +kernel))
set_option maxRecDepth 20000 in
theorem gX6_isInWork_X6_isOn : GoodIn wsX6_isInWork (wsV RX6 70 RX6 yX6_isOn wsX6_isOn) := goodIn_app (goodIn_of _ (by decide +kernel)) ggX6_isInWork_X6_isOn
set_option maxRecDepth 20000 in
theorem ggX6_isOnHold_X6_isNeedle : GoodIn wsX6_isOnHold wsX6_isNeedle := goodIn_r _ [5, 6, 7, 4, 8] (by decide +kernel) (by decide +kernel)
set_option maxRecDepth 20000 in
theorem gX6_isOnHold_X6_isNeedle : GoodIn wsX6_isOnHold (va_wsS RX6 66 yX6_isNeedle wsX6_isNeedle) := goodIn_app (goodIn_of _ (by decide +kernel)) ggX6_isOnHold_X6_isNeedle
set_option maxRecDepth 20000 in
theorem ggX6_isOnHold_X6_isHeld : GoodIn wsX6_isOnHold wsX6_isHeld := goodIn_ca (goodIn_r _ [12, 13, 14, 15, 16, 17, 18, 19, 20, 21, 22, 23, 24, 25, 26, 27, 28, 29, 30, 31, 32, 33, 34] (by decide +kernel) (by decide +kernel)) (goodIn_sub (fun _ h => List.mem_cons_of_mem _ (List.mem_append_right _ h)) (by decide +kernel))
set_option maxRecDepth 20000 in
theorem gX6_isOnHold_X6_isHeld : GoodIn wsX6_isOnHold (wsV RX6 101 RX6 yX6_isHeld wsX6_isHeld) := goodIn_app (goodIn_of _ (by decide +kernel)) ggX6_isOnHold_X6_isHeld
set_option maxRecDepth 20000 in
theorem ggX6_loopsOn_X6_isNeedle : GoodIn wsX6_loopsOn wsX6_isNeedle := goodIn_r _ [6, 7, 8, 5, 9] (by decide +kernel) (by decide +kernel)
set_option maxRecDepth 20000 in
theorem gX6_loopsOn_X6_isNeedle : GoodIn wsX6_loopsOn (va_wsS RX6 66 yX6_isNeedle wsX6_isNeedle) := goodIn_app (goodIn_of _ (by decide +kernel)) ggX6_loopsOn_X6_isNeedle
set_option maxRecDepth 20000 in
theorem ggX6_ageOn_X6_isNeedle : GoodIn wsX6_ageOn wsX6_isNeedle := goodIn_r _ [6, 7, 8, 5, 9] (by decide +kernel) (by decide +kernel)
set_option maxRecDepth 20000 in
theorem gX6_ageOn_X6_isNeedle : GoodIn wsX6_ageOn (va_wsS RX6 66 yX6_isNeedle wsX6_isNeedle) := goodIn_app (goodIn_of _ (by decide +kernel)) ggX6_ageOn_X6_isNeedle
set_option maxRecDepth 20000 in
theorem ggX6_needlesInWork_X6_bits : GoodIn wsX6_needlesInWork wsX6_bits := goodIn_r _ [6] (by decide +kernel) (by decide +kernel)
set_option maxRecDepth 20000 in
theorem gX6_needlesInWork_X6_bits : GoodIn wsX6_needlesInWork (va_wsS RX6 81 yX6_bits wsX6_bits) := goodIn_app (goodIn_of _ (by decide +kernel)) ggX6_needlesInWork_X6_bits
set_option maxRecDepth 20000 in
theorem ggX6_needlesOnHold_X6_bits : GoodIn wsX6_needlesOnHold wsX6_bits := goodIn_r _ [6] (by decide +kernel) (by decide +kernel)
set_option maxRecDepth 20000 in
theorem gX6_needlesOnHold_X6_bits : GoodIn wsX6_needlesOnHold (va_wsS RX6 81 yX6_bits wsX6_bits) := goodIn_app (goodIn_of _ (by decide +kernel)) ggX6_needlesOnHold_X6_bits
set_option maxRecDepth 20000 in
theorem ggX6_loopCount_X6_loops : GoodIn wsX6_loopCount wsX6_loops := goodIn_ca (goodIn_r _ [6, 7, 8, 9, 10, 11, 12, 13, 14, 15, 16, 17, 18, 19, 20, 21, 22, 23, 24, 25, 26, 27, 28] (by decide +kernel) (by decide +kernel)) (goodIn_sub (fun _ h => List.mem_cons_of_mem _ (List.mem_append_right _ h)) (by decide +kernel))
set_option maxRecDepth 20000 in
theorem gX6_loopCount_X6_loops : GoodIn wsX6_loopCount (wsV RX6 94 RX6 yX6_loops wsX6_loops) := goodIn_app (goodIn_of _ (by decide +kernel)) ggX6_loopCount_X6_loops
set_option maxRecDepth 20000 in
theorem ggX6_longestRunByMask_X6_longestRun : GoodIn wsX6_longestRunByMask wsX6_longestRun := goodIn_ca (goodIn_r _ [5, 6, 7, 8, 9, 10, 11, 12, 13, 14, 15, 16, 17, 18, 19, 20, 21, 22, 23, 24, 25, 26, 27, 28] (by decide +kernel) (by decide +kernel)) (goodIn_sub (fun _ h => List.mem_cons_of_mem _ (List.mem_append_right _ h)) (by decide +kernel))
set_option maxRecDepth 20000 in
theorem gX6_longestRunByMask_X6_longestRun : GoodIn wsX6_longestRunByMask (wsV RX6 119 RX6 yX6_longestRun wsX6_longestRun) := goodIn_app (goodIn_of _ (by decide +kernel)) ggX6_longestRunByMask_X6_longestRun
set_option maxRecDepth 20000 in
theorem ggX6_nextDropped_X6_isNeedle : GoodIn wsX6_nextDropped wsX6_isNeedle := goodIn_r _ [6, 7, 8, 5, 9] (by decide +kernel) (by decide +kernel)
set_option maxRecDepth 20000 in
theorem gX6_nextDropped_X6_isNeedle : GoodIn wsX6_nextDropped (va_wsS RX6 66 yX6_isNeedle wsX6_isNeedle) := goodIn_app (goodIn_of _ (by decide +kernel)) ggX6_nextDropped_X6_isNeedle
set_option maxRecDepth 20000 in
theorem ggX6_nextDropped_X6_fail : GoodIn wsX6_nextDropped wsX6_fail := goodIn_r _ [13, 1, 18, 19, 20, 21, 22, 23, 24, 25, 26, 27, 28, 29, 30, 31, 32, 33, 34, 35, 36, 37, 38] (by decide +kernel) (by decide +kernel)
set_option maxRecDepth 20000 in
theorem gX6_nextDropped_X6_fail : GoodIn wsX6_nextDropped (wsV RX6 51 RX6 yX6_fail wsX6_fail) := goodIn_app (goodIn_of _ (by decide +kernel)) ggX6_nextDropped_X6_fail
set_option maxRecDepth 20000 in
theorem ggX6_nextDropped_X6_isOn : GoodIn wsX6_nextDropped wsX6_isOn := goodIn_ca (goodIn_r _ [17, 2, 18, 19, 20, 21, 22, 23, 24, 25, 26, 27, 28, 29, 30, 31, 32, 33, 34, 35, 36, 37, 38] (by decide +kernel) (by decide +kernel)) (goodIn_sub (fun _ h => List.mem_cons_of_mem _ (List.mem_append_right _ h)) (by decide +kernel))
set_option maxRecDepth 20000 in
theorem gX6_nextDropped_X6_isOn : GoodIn wsX6_nextDropped (wsV RX6 70 RX6 yX6_isOn wsX6_isOn) := goodIn_app (goodIn_of _ (by decide +kernel)) ggX6_nextDropped_X6_isOn
set_option maxRecDepth 20000 in
theorem ggX6_adds_X6_isFeeder : GoodIn wsX6_adds wsX6_isFeeder := goodIn_r _ [5, 6, 7, 4, 8] (by decide +kernel) (by decide +kernel)
set_option maxRecDepth 20000 in
theorem gX6_adds_X6_isFeeder : GoodIn wsX6_adds (va_wsS RX6 122 yX6_isFeeder wsX6_isFeeder) := goodIn_app (goodIn_of _ (by decide +kernel)) ggX6_adds_X6_isFeeder
set_option maxRecDepth 20000 in
theorem ggX6_adds_X6_fail : GoodIn wsX6_adds wsX6_fail := goodIn_r _ [12, 13, 22, 23, 24, 25, 26, 27, 28, 29, 30, 31, 32, 33, 34, 35, 36, 37, 38, 39, 40, 41, 42] (by decide +kernel) (by decide +kernel)
set_option maxRecDepth 20000 in
theorem gX6_adds_X6_fail : GoodIn wsX6_adds (wsV RX6 51 RX6 yX6_fail wsX6_fail) := goodIn_app (goodIn_of _ (by decide +kernel)) ggX6_adds_X6_fail
set_option maxRecDepth 20000 in
theorem ggX6_adds_X6_isIn : GoodIn wsX6_adds wsX6_isIn := goodIn_r _ [8] (by decide +kernel) (by decide +kernel)
set_option maxRecDepth 20000 in
theorem gX6_adds_X6_isIn : GoodIn wsX6_adds (va_wsS RX6 62 yX6_isIn wsX6_isIn) := goodIn_app (goodIn_of _ (by decide +kernel)) ggX6_adds_X6_isIn
set_option maxRecDepth 20000 in
theorem ggX6_adds_X6_rejects : GoodIn wsX6_adds wsX6_rejects := goodIn_r _ [17, 18, 19, 20, 21, 9, 10, 11, 4, 12, 13, 22, 23, 24, 25, 26, 27, 28, 29, 30, 31, 32, 33, 34, 35, 36, 37, 38, 39, 40, 41, 42] (by decide +kernel) (by decide +kernel)
set_option maxRecDepth 20000 in
theorem gX6_adds_X6_rejects : GoodIn wsX6_adds (wsV RX6 73 RX6 yX6_rejects wsX6_rejects) := goodIn_app (goodIn_of _ (by decide +kernel)) ggX6_adds_X6_rejects
