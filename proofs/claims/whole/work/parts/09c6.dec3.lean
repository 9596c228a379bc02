set_option maxRecDepth 20000 in
theorem ggX6_addYarn_X6_begins : GoodIn wsX6_addYarn wsX6_begins := goodIn_ca (goodIn_r _ [5, 6, 7, 8, 9, 10, 11, 4, 12, 40, 41, 42, 43, 44, 45, 46, 47, 48, 49, 50, 51, 52, 53, 54, 55, 56, 57, 58, 59, 60] (by decide +kernel) (by decide +kernel)) (goodIn_sub (fun _ h => List.mem_cons_of_mem _ (List.mem_append_right _ h)) (by decide +kernel))
set_option maxRecDepth 20000 in
theorem gX6_addYarn_X6_begins : GoodIn wsX6_addYarn (wsV RX6 84 RX6 yX6_begins wsX6_begins) := goodIn_app (goodIn_of _ (by decide +kernel)) ggX6_addYarn_X6_begins
set_option maxRecDepth 20000 in
theorem ggX6_addYarn_X6_adds : GoodIn wsX6_addYarn wsX6_adds := goodIn_ca (goodIn_r _ [16, 9, 17, 18, 4, 19, 20, 21, 22, 23, 24, 25, 26, 6, 27, 28, 29, 30, 31, 32, 33, 7, 40, 41, 42, 43, 44, 45, 46, 47, 48, 49, 50, 51, 52, 53, 54, 55, 56, 57, 58, 59, 60] (by decide +kernel) (by decide +kernel)) (goodIn_sub (fun _ h => List.mem_cons_of_mem _ (List.mem_append_right _ h)) (by decide +kernel))
set_option maxRecDepth 20000 in
theorem gX6_addYarn_X6_adds : GoodIn wsX6_addYarn (wsV RX6 125 RX6 yX6_adds wsX6_adds) := goodIn_app (goodIn_of _ (by decide +kernel)) ggX6_addYarn_X6_adds
set_option maxRecDepth 20000 in
theorem ggX6_addYarn_X6_ends : GoodIn wsX6_addYarn wsX6_ends := goodIn_ca (goodIn_r _ [37, 6, 9, 8, 38, 39, 10, 11, 4, 12, 40, 41, 42, 43, 44, 45, 46, 47, 48, 49, 50, 51, 52, 53, 54, 55, 56, 57, 58, 59, 60] (by decide +kernel) (by decide +kernel)) (goodIn_sub (fun _ h => List.mem_cons_of_mem _ (List.mem_append_right _ h)) (by decide +kernel))
set_option maxRecDepth 20000 in
theorem gX6_addYarn_X6_ends : GoodIn wsX6_addYarn (wsV RX6 91 RX6 yX6_ends wsX6_ends) := goodIn_app (goodIn_of _ (by decide +kernel)) ggX6_addYarn_X6_ends
set_option maxRecDepth 20000 in
theorem ggX6_selects_X6_isFeeder : GoodIn wsX6_selects wsX6_isFeeder := goodIn_r _ [5, 6, 7, 4, 8] (by decide +kernel) (by decide +kernel)
set_option maxRecDepth 20000 in
theorem gX6_selects_X6_isFeeder : GoodIn wsX6_selects (va_wsS RX6 122 yX6_isFeeder wsX6_isFeeder) := goodIn_app (goodIn_of _ (by decide +kernel)) ggX6_selects_X6_isFeeder
set_option maxRecDepth 20000 in
theorem ggX6_selects_X6_fail : GoodIn wsX6_selects wsX6_fail := goodIn_r _ [12, 13, 14, 15, 16, 17, 18, 19, 20, 21, 22, 23, 24, 25, 26, 27, 28, 29, 30, 31, 32, 33, 34] (by decide +kernel) (by decide +kernel)
set_option maxRecDepth 20000 in
theorem gX6_selects_X6_fail : GoodIn wsX6_selects (wsV RX6 51 RX6 yX6_fail wsX6_fail) := goodIn_app (goodIn_of _ (by decide +kernel)) ggX6_selects_X6_fail
set_option maxRecDepth 20000 in
theorem ggX6_selectFeeder_X6_begins : GoodIn wsX6_selectFeeder wsX6_begins := goodIn_ca (goodIn_r _ [5, 6, 7, 8, 9, 10, 11, 4, 12, 33, 34, 35, 36, 37, 38, 39, 40, 41, 42, 43, 44, 45, 46, 47, 48, 49, 50, 51, 52, 53] (by decide +kernel) (by decide +kernel)) (goodIn_sub (fun _ h => List.mem_cons_of_mem _ (List.mem_append_right _ h)) (by decide +kernel))
set_option maxRecDepth 20000 in
theorem gX6_selectFeeder_X6_begins : GoodIn wsX6_selectFeeder (wsV RX6 84 RX6 yX6_begins wsX6_begins) := goodIn_app (goodIn_of _ (by decide +kernel)) ggX6_selectFeeder_X6_begins
set_option maxRecDepth 20000 in
theorem ggX6_selectFeeder_X6_selects : GoodIn wsX6_selectFeeder wsX6_selects := goodIn_ca (goodIn_r _ [16, 9, 17, 18, 4, 19, 20, 21, 22, 23, 24, 25, 26, 6, 33, 34, 35, 36, 37, 38, 39, 40, 41, 42, 43, 44, 45, 46, 47, 48, 49, 50, 51, 52, 53] (by decide +kernel) (by decide +kernel)) (goodIn_sub (fun _ h => List.mem_cons_of_mem _ (List.mem_append_right _ h)) (by decide +kernel))
set_option maxRecDepth 20000 in
theorem gX6_selectFeeder_X6_selects : GoodIn wsX6_selectFeeder (wsV RX6 128 RX6 yX6_selects wsX6_selects) := goodIn_app (goodIn_of _ (by decide +kernel)) ggX6_selectFeeder_X6_selects
set_option maxRecDepth 20000 in
theorem ggX6_selectFeeder_X6_ends : GoodIn wsX6_selectFeeder wsX6_ends := goodIn_ca (goodIn_r _ [30, 6, 9, 8, 31, 32, 10, 11, 4, 12, 33, 34, 35, 36, 37, 38, 39, 40, 41, 42, 43, 44, 45, 46, 47, 48, 49, 50, 51, 52, 53] (by decide +kernel) (by decide +kernel)) (goodIn_sub (fun _ h => List.mem_cons_of_mem _ (List.mem_append_right _ h)) (by decide +kernel))
set_option maxRecDepth 20000 in
theorem gX6_selectFeeder_X6_ends : GoodIn wsX6_selectFeeder (wsV RX6 91 RX6 yX6_ends wsX6_ends) := goodIn_app (goodIn_of _ (by decide +kernel)) ggX6_selectFeeder_X6_ends
set_option maxRecDepth 20000 in
theorem ggX6_tenses_X6_isIn : GoodIn wsX6_tenses wsX6_isIn := goodIn_r _ [5] (by decide +kernel) (by decide +kernel)
set_option maxRecDepth 20000 in
theorem gX6_tenses_X6_isIn : GoodIn wsX6_tenses (va_wsS RX6 62 yX6_isIn wsX6_isIn) := goodIn_app (goodIn_of _ (by decide +kernel)) ggX6_tenses_X6_isIn
set_option maxRecDepth 20000 in
theorem ggX6_tenses_X6_fail : GoodIn wsX6_tenses wsX6_fail := goodIn_r _ [9, 10, 11, 12, 13, 14, 15, 16, 17, 18, 19, 20, 21, 22, 23, 24, 25, 26, 27, 28, 29, 30, 31] (by decide +kernel) (by decide +kernel)
set_option maxRecDepth 20000 in
theorem gX6_tenses_X6_fail : GoodIn wsX6_tenses (wsV RX6 51 RX6 yX6_fail wsX6_fail) := goodIn_app (goodIn_of _ (by decide +kernel)) ggX6_tenses_X6_fail
set_option maxRecDepth 20000 in
theorem ggX6_setTension_X6_begins : GoodIn wsX6_setTension wsX6_begins := goodIn_ca (goodIn_r _ [5, 6, 7, 8, 9, 10, 11, 4, 12, 30, 31, 32, 33, 34, 35, 36, 37, 38, 39, 40, 41, 42, 43, 44, 45, 46, 47, 48, 49, 50] (by decide +kernel) (by decide +kernel)) (goodIn_sub (fun _ h => List.mem_cons_of_mem _ (List.mem_append_right _ h)) (by decide +kernel))
set_option maxRecDepth 20000 in
theorem gX6_setTension_X6_begins : GoodIn wsX6_setTension (wsV RX6 84 RX6 yX6_begins wsX6_begins) := goodIn_app (goodIn_of _ (by decide +kernel)) ggX6_setTension_X6_begins
set_option maxRecDepth 20000 in
theorem ggX6_setTension_X6_tenses : GoodIn wsX6_setTension wsX6_tenses := goodIn_ca (goodIn_r _ [16, 9, 17, 18, 4, 19, 20, 21, 22, 23, 6, 30, 31, 32, 33, 34, 35, 36, 37, 38, 39, 40, 41, 42, 43, 44, 45, 46, 47, 48, 49, 50] (by decide +kernel) (by decide +kernel)) (goodIn_sub (fun _ h => List.mem_cons_of_mem _ (List.mem_append_right _ h)) (by decide +kernel))
set_option maxRecDepth 20000 in
theorem gX6_setTension_X6_tenses : GoodIn wsX6_setTension (wsV RX6 131 RX6 yX6_tenses wsX6_tenses) := goodIn_app (goodIn_of _ (by decide +kernel)) ggX6_setTension_X6_tenses
set_option maxRecDepth 20000 in
theorem ggX6_setTension_X6_ends : GoodIn wsX6_setTension wsX6_ends := goodIn_ca (goodIn_r _ [27, 6, 9, 8, 28, 29, 10, 11, 4, 12, 30, 31, 32, 33, 34, 35, 36, 37, 38, 39, 40, 41, 42, 43, 44, 45, 46, 47, 48, 49, 50] (by decide +kernel) (by decide +kernel)) (goodIn_sub (fun _ h => List.mem_cons_of_mem _ (List.mem_append_right _ h)) (by decide +kernel))
set_option maxRecDepth 20000 in
theorem gX6_setTension_X6_ends : GoodIn wsX6_setTension (wsV RX6 91 RX6 yX6_ends wsX6_ends) := goodIn_app (goodIn_of _ (by decide +kernel)) ggX6_setTension_X6_ends
set_option maxRecDepth 20000 in
theorem ggX6_addsRow_X6_isIn : GoodIn wsX6_addsRow wsX6_isIn := goodIn_r _ [5] (by decide +kernel) (by decide +kernel)
set_option maxRecDepth 20000 in
theorem gX6_addsRow_X6_isIn : GoodIn wsX6_addsRow (va_wsS RX6 62 yX6_isIn wsX6_isIn) := goodIn_app (goodIn_of _ (by decide +kernel)) ggX6_addsRow_X6_isIn
set_option maxRecDepth 20000 in
theorem ggX6_addsRow_X6_fail : GoodIn wsX6_addsRow wsX6_fail := goodIn_r _ [9, 10, 19, 20, 21, 22, 23, 24, 25, 26, 27, 28, 29, 30, 31, 32, 33, 34, 35, 36, 37, 38, 39] (by decide +kernel) (by decide +kernel)
set_option maxRecDepth 20000 in
theorem gX6_addsRow_X6_fail : GoodIn wsX6_addsRow (wsV RX6 51 RX6 yX6_fail wsX6_fail) := goodIn_app (goodIn_of _ (by decide +kernel)) ggX6_addsRow_X6_fail
set_option maxRecDepth 20000 in
theorem ggX6_addsRow_X6_rejects : GoodIn wsX6_addsRow wsX6_rejects := goodIn_r _ [14, 15, 16, 17, 18, 6, 7, 8, 4, 9, 10, 19, 20, 21, 22, 23, 24, 25, 26, 27, 28, 29, 30, 31, 32, 33, 34, 35, 36, 37, 38, 39] (by decide +kernel) (by decide +kernel)
set_option maxRecDepth 20000 in
theorem gX6_addsRow_X6_rejects : GoodIn wsX6_addsRow (wsV RX6 73 RX6 yX6_rejects wsX6_rejects) := goodIn_app (goodIn_of _ (by decide +kernel)) ggX6_addsRow_X6_rejects
set_option maxRecDepth 20000 in
theorem ggX6_addPatternRow_X6_begins : GoodIn wsX6_addPatternRow wsX6_begins := goodIn_ca (goodIn_r _ [5, 6, 7, 8, 9, 10, 11, 4, 12, 37, 38, 39, 40, 41, 42, 43, 44, 45, 46, 47, 48, 49, 50, 51, 52, 53, 54, 55, 56, 57] (by decide +kernel) (by decide +kernel)) (goodIn_sub (fun _ h => List.mem_cons_of_mem _ (List.mem_append_right _ h)) (by decide +kernel))
set_option maxRecDepth 20000 in
theorem gX6_addPatternRow_X6_begins : GoodIn wsX6_addPatternRow (wsV RX6 84 RX6 yX6_begins wsX6_begins) := goodIn_app (goodIn_of _ (by decide +kernel)) ggX6_addPatternRow_X6_begins
set_option maxRecDepth 20000 in
theorem ggX6_addPatternRow_X6_addsRow : GoodIn wsX6_addPatternRow wsX6_addsRow := goodIn_ca (goodIn_r _ [16, 9, 17, 18, 4, 19, 20, 21, 22, 23, 6, 24, 25, 26, 27, 28, 29, 30, 7, 37, 38, 39, 40, 41, 42, 43, 44, 45, 46, 47, 48, 49, 50, 51, 52, 53, 54, 55, 56, 57] (by decide +kernel) (by decide +kernel)) (goodIn_sub (fun _ h => List.mem_cons_of_mem _ (List.mem_append_right _ h)) (by decide +kernel))
set_option maxRecDepth 20000 in
theorem gX6_addPatternRow_X6_addsRow : GoodIn wsX6_addPatternRow (wsV RX6 134 RX6 yX6_addsRow wsX6_addsRow) := goodIn_app (goodIn_of _ (by decide +kernel)) ggX6_addPatternRow_X6_addsRow
set_option maxRecDepth 20000 in
theorem ggX6_addPatternRow_X6_ends : GoodIn wsX6_addPatternRow wsX6_ends := goodIn_ca (goodIn_r _ [34, 6, 9, 8, 35, 36, 10, 11, 4, 12, 37, 38, 39, 40, 41, 42, 43, 44, 45, 46, 47, 48, 49, 50, 51, 52, 53, 54, 55, 56, 57] (by decide +kernel) (by decide +kernel)) (goodIn_sub (fun _ h => List.mem_cons_of_mem _ (List.mem_append_right _ h)) (by decide +kernel))
set_option maxRecDepth 20000 in
theorem gX6_addPatternRow_X6_ends : GoodIn wsX6_addPatternRow (wsV RX6 91 RX6 yX6_ends wsX6_ends) := goodIn_app (goodIn_of _ (by decide +kernel)) ggX6_addPatternRow_X6_ends
set_option maxRecDepth 20000 in
theorem ggX6_clearPattern_X6_begins : GoodIn wsX6_clearPattern wsX6_begins := goodIn_ca (goodIn_r _ [5, 6, 7, 8, 9, 10, 11, 4, 12, 23, 24, 25, 26, 27, 28, 29, 30, 31, 32, 33, 34, 35, 36, 37, 38, 39, 40, 41, 42, 43] (by decide +kernel) (by decide +kernel)) (goodIn_sub (fun _ h => List.mem_cons_of_mem _ (List.mem_append_right _ h)) (by decide +kernel))
set_option maxRecDepth 20000 in
theorem gX6_clearPattern_X6_begins : GoodIn wsX6_clearPattern (wsV RX6 84 RX6 yX6_begins wsX6_begins) := goodIn_app (goodIn_of _ (by decide +kernel)) ggX6_clearPattern_X6_begins
set_option maxRecDepth 20000 in
theorem ggX6_clearPattern_X6_clears : GoodIn wsX6_clearPattern wsX6_clears := goodIn_ca (goodIn_r _ [16, 9, 23, 24, 25, 26, 27, 28, 29, 30, 31, 32, 33, 34, 35, 36, 37, 38, 39, 40, 41, 42, 43] (by decide +kernel) (by decide +kernel)) (goodIn_sub (fun _ h => List.mem_cons_of_mem _ (List.mem_append_right _ h)) (by decide +kernel))
set_option maxRecDepth 20000 in
theorem gX6_clearPattern_X6_clears : GoodIn wsX6_clearPattern (wsV RX6 137 RX6 yX6_clears wsX6_clears) := goodIn_app (goodIn_of _ (by decide +kernel)) ggX6_clearPattern_X6_clears
set_option maxRecDepth 20000 in
theorem ggX6_clearPattern_X6_ends : GoodIn wsX6_clearPattern wsX6_ends := goodIn_ca (goodIn_r _ [20, 6, 9, 8, 21, 22, 10, 11, 4, 12, 23, 24, 25, 26, 27, 28, 29, 30, 31, 32, 33, 34, 35, 36, 37, 38, 39, 40, 41, 42, 43] (by decide +kernel) (by decide +kernel)) (goodIn_sub (fun _ h => List.mem_cons_of_mem _ (List.mem_append_right _ h)) (by decide +kernel))
set_option maxRecDepth 20000 in
theorem gX6_clearPattern_X6_ends : GoodIn wsX6_clearPattern (wsV RX6 91 RX6 yX6_ends wsX6_ends) := goodIn_app (goodIn_of _ (by decide +kernel)) ggX6_clearPattern_X6_ends
set_option maxRecDepth 20000 in
theorem ggX6_yarnIn_X6_isFeeder : GoodIn wsX6_yarnIn wsX6_isFeeder := goodIn_r _ [6, 7, 8, 5, 9] (by decide +kernel) (by decide +kernel)
set_option maxRecDepth 20000 in
theorem gX6_yarnIn_X6_isFeeder : GoodIn wsX6_yarnIn (va_wsS RX6 122 yX6_isFeeder wsX6_isFeeder) := goodIn_app (goodIn_of _ (by decide +kernel)) ggX6_yarnIn_X6_isFeeder
set_option maxRecDepth 20000 in
theorem ggX6_isKnit_X6_isIn : GoodIn wsX6_isKnit wsX6_isIn := goodIn_r _ [6] (by decide +kernel) (by decide +kernel)
set_option maxRecDepth 20000 in
theorem gX6_isKnit_X6_isIn : GoodIn wsX6_isKnit (va_wsS RX6 62 yX6_isIn wsX6_isIn) := goodIn_app (goodIn_of _ (by decide +kernel)) ggX6_isKnit_X6_isIn
set_option maxRecDepth 20000 in
theorem ggX6_knits_X6_isOn : GoodIn wsX6_knits wsX6_isOn := goodIn_ca (goodIn_r _ [6, 1, 11, 12, 13, 14, 15, 16, 17, 18, 19, 20, 21, 22, 23, 24, 25, 26, 27, 28, 29, 30, 31] (by decide +kernel) (by decide +kernel)) (goodIn_sub (fun _ h => List.mem_cons_of_mem _ (List.mem_append_left _ (List.mem_append_right _ h))) (by decide +kernel))
set_option maxRecDepth 20000 in
theorem gX6_knits_X6_isOn : GoodIn wsX6_knits (wsV RX6 70 RX6 yX6_isOn wsX6_isOn) := goodIn_app (goodIn_of _ (by decide +kernel)) ggX6_knits_X6_isOn
set_option maxRecDepth 20000 in
theorem ggX6_knits_X6_isHeld : GoodIn wsX6_knits wsX6_isHeld := goodIn_ca (goodIn_r _ [10, 1, 11, 12, 13, 14, 15, 16, 17, 18, 19, 20, 21, 22, 23, 24, 25, 26, 27, 28, 29, 30, 31] (by decide +kernel) (by decide +kernel)) (goodIn_sub (fun _ h => List.mem_cons_of_mem _ (List.mem_append_left _ (List.mem_append_right _ h))) (by decide +kernel))
set_option maxRecDepth 20000 in
theorem gX6_knits_X6_isHeld : GoodIn wsX6_knits (wsV RX6 101 RX6 yX6_isHeld wsX6_isHeld) := goodIn_app (goodIn_of _ (by decide +kernel)) ggX6_knits_X6_isHeld
set_option maxRecDepth 20000 in
theorem ggX6_wide_X6_knits : GoodIn wsX6_wide wsX6_knits := goodIn_ca (goodIn_ca (goodIn_r _ [5, 6, 7, 8, 9, 4, 10, 11, 12, 13, 14, 15, 16, 17, 18, 19, 20, 21, 22, 23, 24, 25, 26, 27, 28, 29, 30, 31, 32, 33, 34, 35] (by decide +kernel) (by decide +kernel)) (goodIn_sub (fun _ h => List.mem_cons_of_mem _ (List.mem_append_left _ (List.mem_append_right _ h))) (by decide +kernel))) (goodIn_sub (fun _ h => List.mem_cons_of_mem _ (List.mem_append_right _ h)) (by decide +kernel))
set_option maxRecDepth 20000 in
theorem gX6_wide_X6_knits : GoodIn wsX6_wide (wsV RX6 140 RX6 yX6_knits wsX6_knits) := goodIn_app (goodIn_of _ (by decide +kernel)) ggX6_wide_X6_knits
set_option maxRecDepth 20000 in
theorem ggX6_passes_X6_knits : GoodIn wsX6_passes wsX6_knits := goodIn_ca (goodIn_ca (goodIn_r _ [6, 1, 7, 8, 9, 5, 10, 11, 12, 13, 14, 19, 20, 21, 22, 23, 24, 25, 26, 27, 28, 29, 30, 31, 32, 33, 34, 35, 36, 37, 38, 39] (by decide +kernel) (by decide +kernel)) (goodIn_sub (fun _ h => List.mem_cons_of_mem _ (List.mem_append_left _ (List.mem_append_right _ h))) (by decide +kernel))) (goodIn_sub (fun _ h => List.mem_cons_of_mem _ (List.mem_append_right _ h)) (by decide +kernel))
set_option maxRecDepth 20000 in
theorem gX6_passes_X6_knits : GoodIn wsX6_passes (wsV RX6 140 RX6 yX6_knits wsX6_knits) := goodIn_app (goodIn_of _ (by decide +kernel)) ggX6_passes_X6_knits
set_option maxRecDepth 20000 in
theorem ggX6_passes_X6_puts : GoodIn wsX6_passes wsX6_puts := goodIn_ca (goodIn_r _ [18, 1, 19, 20, 21, 22, 23, 24, 25, 26, 27, 28, 29, 30, 31, 32, 33, 34, 35, 36, 37, 38, 39] (by decide +kernel) (by decide +kernel)) (goodIn_sub (fun _ h => List.mem_cons_of_mem _ (List.mem_append_left _ (List.mem_append_right _ h))) (by decide +kernel))
set_option maxRecDepth 20000 in
theorem gX6_passes_X6_puts : GoodIn wsX6_passes (wsV RX6 77 RX6 yX6_puts wsX6_puts) := goodIn_app (goodIn_of _ (by decide +kernel)) ggX6_passes_X6_puts
set_option maxRecDepth 20000 in
theorem ggX6_courses_X6_wide : GoodIn wsX6_courses wsX6_wide := goodIn_ca (goodIn_ca (goodIn_r _ [6, 7, 8, 9, 5, 10, 1, 11, 12, 13, 14, 15, 16, 17, 18, 40, 41, 42, 43, 44, 45, 46, 47, 48, 49, 50, 51, 52, 53, 54, 55, 56, 57, 58, 59, 60] (by decide +kernel) (by decide +kernel)) (goodIn_sub (fun _ h => List.mem_cons_of_mem _ (List.mem_append_left _ (List.mem_append_right _ h))) (by decide +kernel))) (goodIn_sub (fun _ h => List.mem_cons_of_mem _ (List.mem_append_right _ h)) (by decide +kernel))
set_option maxRecDepth 20000 in
theorem gX6_courses_X6_wide : GoodIn wsX6_courses (wsV RX6 144 RX6 yX6_wide wsX6_wide) := goodIn_app (goodIn_of _ (by decide +kernel)) ggX6_courses_X6_wide
set_option maxRecDepth 20000 in
theorem ggX6_courses_X6_rejects : GoodIn wsX6_courses wsX6_rejects := goodIn_r _ [22, 23, 24, 25, 26, 27, 28, 29, 5, 30, 31, 40, 41, 42, 43, 44, 45, 46, 47, 48, 49, 50, 51, 52, 53, 54, 55, 56, 57, 58, 59, 60] (by decide +kernel) (by decide +kernel)
set_option maxRecDepth 20000 in
theorem gX6_courses_X6_rejects : GoodIn wsX6_courses (wsV RX6 73 RX6 yX6_rejects wsX6_rejects) := goodIn_app (goodIn_of _ (by decide +kernel)) ggX6_courses_X6_rejects
set_option maxRecDepth 20000 in
theorem ggX6_courses_X6_passes : GoodIn wsX6_courses wsX6_passes := goodIn_ca (goodIn_ca (goodIn_r _ [35, 1, 7, 8, 9, 5, 10, 11, 12, 13, 14, 15, 16, 17, 18, 36, 37, 38, 39, 40, 41, 42, 43, 44, 45, 46, 47, 48, 49, 50, 51, 52, 53, 54, 55, 56, 57, 58, 59, 60] (by decide +kernel) (by decide +kernel)) (goodIn_sub (fun _ h => List.mem_cons_of_mem _ (List.mem_append_left _ (List.mem_append_right _ h))) (by decide +kernel))) (goodIn_sub (fun _ h => List.mem_cons_of_mem _ (List.mem_append_right _ h)) (by decide +kernel))
set_option maxRecDepth 20000 in
theorem gX6_courses_X6_passes : GoodIn wsX6_courses (wsV RX6 147 RX6 yX6_passes wsX6_passes) := goodIn_app (goodIn_of _ (by decide +kernel)) ggX6_courses_X6_passes
set_option maxRecDepth 20000 in
theorem ggX6_knitsAll_X6_isIn : GoodIn wsX6_knitsAll wsX6_isIn := goodIn_r _ [5] (by decide +kernel) (by decide +kernel)
set_option maxRecDepth 20000 in
theorem gX6_knitsAll_X6_isIn : GoodIn wsX6_knitsAll (va_wsS RX6 62 yX6_isIn wsX6_isIn) := goodIn_app (goodIn_of _ (by decide +kernel)) ggX6_knitsAll_X6_isIn
set_option maxRecDepth 20000 in
theorem ggX6_knitsAll_X6_fail : GoodIn wsX6_knitsAll wsX6_fail := goodIn_r _ [9, 1, 47, 48, 49, 50, 51, 52, 53, 54, 55, 56, 57, 58, 59, 60, 61, 62, 63, 64, 65, 66, 67] (by decide +kernel) (by decide +kernel)
set_option maxRecDepth 20000 in
theorem gX6_knitsAll_X6_fail : GoodIn wsX6_knitsAll (wsV RX6 51 RX6 yX6_fail wsX6_fail) := goodIn_app (goodIn_of _ (by decide +kernel)) ggX6_knitsAll_X6_fail
set_option maxRecDepth 20000 in
theorem ggX6_knitsAll_X6_courses : GoodIn wsX6_knitsAll wsX6_courses := goodIn_ca (goodIn_ca (goodIn_r _ [13, 14, 15, 16, 17, 4, 18, 19, 20, 21, 22, 23, 24, 25, 26, 27, 28, 29, 30, 31, 32, 33, 34, 35, 36, 37, 38, 6, 7, 8, 9, 1, 39, 40, 41, 42, 43, 44, 45, 46, 47, 48, 49, 50, 51, 52, 53, 54, 55, 56, 57, 58, 59, 60, 61, 62, 63, 64, 65, 66, 67] (by decide +kernel) (by decide +kernel)) (goodIn_sub (fun _ h => List.mem_cons_of_mem _ (List.mem_append_left _ (List.mem_append_right _ h))) (by decide +kernel))) (goodIn_sub (fun _ h => List.mem_cons_of_mem _ (List.mem_append_right _ h)) (by decide +kernel))
set_option maxRecDepth 20000 in
theorem gX6_knitsAll_X6_courses : GoodIn wsX6_knitsAll (wsV RX6 150 RX6 yX6_courses wsX6_courses) := goodIn_app (goodIn_of _ (by decide +kernel)) ggX6_knitsAll_X6_courses
set_option maxRecDepth 20000 in
theorem ggX6_knit_X6_begins : GoodIn wsX6_knit wsX6_begins := goodIn_ca (goodIn_r _ [5, 6, 7, 8, 9, 10, 11, 4, 12, 65, 66, 67, 68, 69, 70, 71, 72, 73, 74, 75, 76, 77, 78, 79, 80, 81, 82, 83, 84, 85] (by decide +kernel) (by decide +kernel)) (goodIn_sub (fun _ h => List.mem_cons_of_mem _ (List.mem_append_left _ (List.mem_append_right _ h))) (by decide +kernel))
set_option maxRecDepth 20000 in
theorem gX6_knit_X6_begins : GoodIn wsX6_knit (wsV RX6 84 RX6 yX6_begins wsX6_begins) := goodIn_app (goodIn_of _ (by decide +kernel)) ggX6_knit_X6_begins
set_option maxRecDepth 20000 in
theorem ggX6_knit_X6_knitsAll : GoodIn wsX6_knit wsX6_knitsAll := goodIn_ca (goodIn_ca (goodIn_r _ [16, 6, 17, 18, 4, 19, 20, 21, 22, 23, 24, 25, 26, 27, 9, 28, 29, 30, 31, 32, 33, 34, 35, 36, 37, 38, 39, 40, 41, 42, 43, 44, 45, 46, 47, 48, 49, 50, 7, 51, 52, 53, 54, 55, 56, 57, 58, 65, 66, 67, 68, 69, 70, 71, 72, 73, 74, 75, 76, 77, 78, 79, 80, 81, 82, 83, 84, 85] (by decide +kernel) (by decide +kernel)) (goodIn_sub (fun _ h => List.mem_cons_of_mem _ (List.mem_append_left _ (List.mem_append_right _ h))) (by decide +kernel))) (goodIn_sub (fun _ h => List.mem_cons_of_mem _ (List.mem_append_right _ h)) (by decide +kernel))
set_option maxRecDepth 20000 in
theorem gX6_knit_X6_knitsAll : GoodIn wsX6_knit (wsV RX6 153 RX6 yX6_knitsAll wsX6_knitsAll) := goodIn_app (goodIn_of _ (by decide +kernel)) ggX6_knit_X6_knitsAll
set_option maxRecDepth 20000 in
theorem ggX6_knit_X6_ends : GoodIn wsX6_knit wsX6_ends := goodIn_ca (goodIn_r _ [62, 6, 9, 8, 63, 64, 10, 11, 4, 12, 65, 66, 67, 68, 69, 70, 71, 72, 73, 74, 75, 76, 77, 78, 79, 80, 81, 82, 83, 84, 85] (by decide +kernel) (by decide +kernel)) (goodIn_sub (fun _ h => List.mem_cons_of_mem _ (List.mem_append_left _ (List.mem_append_right _ h))) (by decide +kernel))
set_option maxRecDepth 20000 in
theorem gX6_knit_X6_ends : GoodIn wsX6_knit (wsV RX6 91 RX6 yX6_ends wsX6_ends) := goodIn_app (goodIn_of _ (by decide +kernel)) ggX6_knit_X6_ends
set_option maxRecDepth 20000 in
theorem ggX6_willKnit_X6_isNeedle : GoodIn wsX6_willKnit wsX6_isNeedle := goodIn_r _ [6, 7, 8, 5, 9] (by decide +kernel) (by decide +kernel)
set_option maxRecDepth 20000 in
theorem gX6_willKnit_X6_isNeedle : GoodIn wsX6_willKnit (va_wsS RX6 66 yX6_isNeedle wsX6_isNeedle) := goodIn_app (goodIn_of _ (by decide +kernel)) ggX6_willKnit_X6_isNeedle
set_option maxRecDepth 20000 in
theorem ggX6_willKnit_X6_knits : GoodIn wsX6_willKnit wsX6_knits := goodIn_ca (goodIn_ca (goodIn_r _ [13, 2, 14, 15, 16, 5, 17, 18, 19, 20, 21, 22, 23, 24, 25, 26, 27, 28, 29, 30, 31, 32, 33, 34, 35, 36, 37, 38, 39, 40, 41, 42] (by decide +kernel) (by decide +kernel)) (goodIn_sub (fun _ h => List.mem_cons_of_mem _ (List.mem_append_left _ (List.mem_append_right _ h))) (by decide +kernel))) (goodIn_sub (fun _ h => List.mem_cons_of_mem _ (List.mem_append_right _ h)) (by decide +kernel))
set_option maxRecDepth 20000 in
theorem gX6_willKnit_X6_knits : GoodIn wsX6_willKnit (wsV RX6 140 RX6 yX6_knits wsX6_knits) := goodIn_app (goodIn_of _ (by decide +kernel)) ggX6_willKnit_X6_knits
set_option maxRecDepth 20000 in
theorem ggX6_nextWidth_X6_wide : GoodIn wsX6_nextWidth wsX6_wide := goodIn_ca (goodIn_ca (goodIn_r _ [7, 8, 9, 10, 6, 11, 2, 12, 13, 14, 15, 16, 17, 18, 19, 20, 21, 22, 23, 24, 25, 26, 27, 28, 29, 30, 31, 32, 33, 34, 35, 36, 37, 38, 39, 40] (by decide +kernel) (by decide +kernel)) (goodIn_sub (fun _ h => List.mem_cons_of_mem _ (List.mem_append_left _ (List.mem_append_right _ h))) (by decide +kernel))) (goodIn_sub (fun _ h => List.mem_cons_of_mem _ (List.mem_append_right _ h)) (by decide +kernel))
set_option maxRecDepth 20000 in
theorem gX6_nextWidth_X6_wide : GoodIn wsX6_nextWidth (wsV RX6 144 RX6 yX6_wide wsX6_wide) := goodIn_app (goodIn_of _ (by decide +kernel)) ggX6_nextWidth_X6_wide
set_option maxRecDepth 20000 in
theorem ggX6_nextWidthByMask_X6_nextWidth : GoodIn wsX6_nextWidthByMask wsX6_nextWidth := goodIn_ca (goodIn_ca (goodIn_r _ [5, 6, 7, 8, 9, 10, 4, 11, 12, 13, 14, 15, 16, 17, 18, 19, 20, 21, 22, 23, 24, 25, 26, 27, 28, 29, 30, 31, 32, 33, 34, 35, 36, 37, 38, 39, 40, 41, 42, 43, 44] (by decide +kernel) (by decide +kernel)) (goodIn_sub (fun _ h => List.mem_cons_of_mem _ (List.mem_append_left _ (List.mem_append_right _ h))) (by decide +kernel))) (goodIn_sub (fun _ h => List.mem_cons_of_mem _ (List.mem_append_right _ h)) (by decide +kernel))
set_option maxRecDepth 20000 in
theorem gX6_nextWidthByMask_X6_nextWidth : GoodIn wsX6_nextWidthByMask (wsV RX6 156 RX6 yX6_nextWidth wsX6_nextWidth) := goodIn_app (goodIn_of _ (by decide +kernel)) ggX6_nextWidthByMask_X6_nextWidth
set_option maxRecDepth 20000 in
theorem ggX6_comes_X6_isIn : GoodIn wsX6_comes wsX6_isIn := goodIn_r _ [7] (by decide +kernel) (by decide +kernel)
set_option maxRecDepth 20000 in
theorem gX6_comes_X6_isIn : GoodIn wsX6_comes (va_wsS RX6 62 yX6_isIn wsX6_isIn) := goodIn_app (goodIn_of _ (by decide +kernel)) ggX6_comes_X6_isIn
set_option maxRecDepth 20000 in
theorem ggX6_comes_X6_lays : GoodIn wsX6_comes wsX6_lays := goodIn_ca (goodIn_r _ [10] (by decide +kernel) (by decide +kernel)) (goodIn_sub (fun _ h => List.mem_cons_of_mem _ (List.mem_append_left _ (List.mem_append_right _ h))) (by decide +kernel))
set_option maxRecDepth 20000 in
theorem gX6_comes_X6_lays : GoodIn wsX6_comes (va_wsS RX6 55 yX6_lays wsX6_lays) := goodIn_app (goodIn_of _ (by decide +kernel)) ggX6_comes_X6_lays
set_option maxRecDepth 20000 in
theorem ggX6_comes_X6_wide : GoodIn wsX6_comes wsX6_wide := goodIn_ca (goodIn_ca (goodIn_r _ [14, 15, 16, 17, 6, 18, 3, 19, 20, 21, 22, 23, 24, 25, 26, 35, 36, 37, 38, 39, 40, 41, 42, 43, 44, 45, 46, 47, 48, 49, 50, 51, 52, 53, 54, 55] (by decide +kernel) (by decide +kernel)) (goodIn_sub (fun _ h => List.mem_cons_of_mem _ (List.mem_append_left _ (List.mem_append_right _ h))) (by decide +kernel))) (goodIn_sub (fun _ h => List.mem_cons_of_mem _ (List.mem_append_right _ h)) (by decide +kernel))
set_option maxRecDepth 20000 in
theorem gX6_comes_X6_wide : GoodIn wsX6_comes (wsV RX6 144 RX6 yX6_wide wsX6_wide) := goodIn_app (goodIn_of _ (by decide +kernel)) ggX6_comes_X6_wide
