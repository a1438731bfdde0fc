set_option maxRecDepth 20000 in
theorem ggX6_init_X6_lays : GoodIn wsX6_init wsX6_lays := goodIn_r _ [18, 6, 19, 20, 17, 21, 72, 73, 74, 75, 76, 77, 78, 79, 80, 81, 82, 83, 84, 85, 86, 87, 88, 89, 90, 91, 92] (by decide +kernel) (by decide +kernel)
set_option maxRecDepth 20000 in
theorem gX6_init_X6_lays : GoodIn wsX6_init (wsV RX6 36 RX6 yX6_lays wsX6_lays) := goodIn_app (goodIn_of _ (by decide +kernel)) ggX6_init_X6_lays
set_option maxRecDepth 20000 in
theorem ggX6_init_X6_sets : GoodIn wsX6_init wsX6_sets := goodIn_r _ [25, 6, 26, 27, 17, 28, 72, 73, 74, 75, 76, 77, 78, 79, 80, 81, 82, 83, 84, 85, 86, 87, 88, 89, 90, 91, 92] (by decide +kernel) (by decide +kernel)
set_option maxRecDepth 20000 in
theorem gX6_init_X6_sets : GoodIn wsX6_init (wsV RX6 40 RX6 yX6_sets wsX6_sets) := goodIn_app (goodIn_of _ (by decide +kernel)) ggX6_init_X6_sets
set_option maxRecDepth 20000 in
theorem ggX6_init_X6_b : GoodIn wsX6_init wsX6_b := goodIn_r _ [21] (by decide +kernel) (by decide +kernel)
set_option maxRecDepth 20000 in
theorem gX6_init_X6_b : GoodIn wsX6_init (va_wsS RX6 44 yX6_b wsX6_b) := goodIn_app (goodIn_of _ (by decide +kernel)) ggX6_init_X6_b
set_option maxRecDepth 20000 in
theorem ggX6_init_X6_passes : GoodIn wsX6_init wsX6_passes := goodIn_r _ [32, 33, 34, 35, 17, 36, 6, 37, 38, 39, 40, 26, 27, 28, 19, 20, 21, 41, 42, 43, 44, 45, 46, 47, 48, 49, 50, 51, 52, 53, 54, 55, 56, 57, 58, 59, 60, 61, 62, 63, 64, 65, 66, 67, 68, 69, 70, 71, 72, 73, 74, 75, 76, 77, 78, 79, 80, 81, 82, 83, 84, 85, 86, 87, 88, 89, 90, 91, 92] (by decide +kernel) (by decide +kernel)
set_option maxRecDepth 20000 in
theorem gX6_init_X6_passes : GoodIn wsX6_init (wsV RX6 48 RX6 yX6_passes wsX6_passes) := goodIn_app (goodIn_of _ (by decide +kernel)) ggX6_init_X6_passes
set_option maxRecDepth 20000 in
theorem ggX6_isBlock_X6_in : GoodIn wsX6_isBlock wsX6_in := goodIn_r _ [5] (by decide +kernel) (by decide +kernel)
set_option maxRecDepth 20000 in
theorem gX6_isBlock_X6_in : GoodIn wsX6_isBlock (va_wsS RX6 54 yX6_in wsX6_in) := goodIn_app (goodIn_of _ (by decide +kernel)) ggX6_isBlock_X6_in
set_option maxRecDepth 20000 in
theorem ggX6_isTrain_X6_in : GoodIn wsX6_isTrain wsX6_in := goodIn_r _ [5] (by decide +kernel) (by decide +kernel)
set_option maxRecDepth 20000 in
theorem gX6_isTrain_X6_in : GoodIn wsX6_isTrain (va_wsS RX6 54 yX6_in wsX6_in) := goodIn_app (goodIn_of _ (by decide +kernel)) ggX6_isTrain_X6_in
set_option maxRecDepth 20000 in
theorem ggX6_lays_X6_b : GoodIn wsX6_lays wsX6_b := goodIn_r _ [5] (by decide +kernel) (by decide +kernel)
set_option maxRecDepth 20000 in
theorem gX6_lays_X6_b : GoodIn wsX6_lays (va_wsS RX6 44 yX6_b wsX6_b) := goodIn_app (goodIn_of _ (by decide +kernel)) ggX6_lays_X6_b
set_option maxRecDepth 20000 in
theorem ggX6_sets_X6_t : GoodIn wsX6_sets wsX6_t := goodIn_r _ [5] (by decide +kernel) (by decide +kernel)
set_option maxRecDepth 20000 in
theorem gX6_sets_X6_t : GoodIn wsX6_sets (va_wsS RX6 58 yX6_t wsX6_t) := goodIn_app (goodIn_of _ (by decide +kernel)) ggX6_sets_X6_t
set_option maxRecDepth 20000 in
theorem ggX6_trainAt_X6_t : GoodIn wsX6_trainAt wsX6_t := goodIn_r _ [5] (by decide +kernel) (by decide +kernel)
set_option maxRecDepth 20000 in
theorem gX6_trainAt_X6_t : GoodIn wsX6_trainAt (va_wsS RX6 58 yX6_t wsX6_t) := goodIn_app (goodIn_of _ (by decide +kernel)) ggX6_trainAt_X6_t
set_option maxRecDepth 20000 in
theorem ggX6_isOccupied_X6_trainAt : GoodIn wsX6_isOccupied wsX6_trainAt := goodIn_r _ [6, 1, 7, 8, 5, 9, 13, 14, 15, 16, 17, 18, 19, 20, 21, 22, 23, 24, 25, 26, 27, 28, 29, 30, 31, 32, 33] (by decide +kernel) (by decide +kernel)
set_option maxRecDepth 20000 in
theorem gX6_isOccupied_X6_trainAt : GoodIn wsX6_isOccupied (wsV RX6 61 RX6 yX6_trainAt wsX6_trainAt) := goodIn_app (goodIn_of _ (by decide +kernel)) ggX6_isOccupied_X6_trainAt
set_option maxRecDepth 20000 in
theorem ggX6_isOccupied_X6_b : GoodIn wsX6_isOccupied wsX6_b := goodIn_r _ [12] (by decide +kernel) (by decide +kernel)
set_option maxRecDepth 20000 in
theorem gX6_isOccupied_X6_b : GoodIn wsX6_isOccupied (va_wsS RX6 44 yX6_b wsX6_b) := goodIn_app (goodIn_of _ (by decide +kernel)) ggX6_isOccupied_X6_b
set_option maxRecDepth 20000 in
theorem ggX6_reason_X6_trainAt : GoodIn wsX6_reason wsX6_trainAt := goodIn_r _ [6, 1, 7, 8, 5, 9, 21, 22, 23, 24, 25, 26, 27, 28, 29, 30, 31, 32, 33, 34, 35, 36, 37, 38, 39, 40, 41] (by decide +kernel) (by decide +kernel)
set_option maxRecDepth 20000 in
theorem gX6_reason_X6_trainAt : GoodIn wsX6_reason (wsV RX6 61 RX6 yX6_trainAt wsX6_trainAt) := goodIn_app (goodIn_of _ (by decide +kernel)) ggX6_reason_X6_trainAt
set_option maxRecDepth 20000 in
theorem ggX6_reason_X6_b : GoodIn wsX6_reason wsX6_b := goodIn_r _ [12] (by decide +kernel) (by decide +kernel)
set_option maxRecDepth 20000 in
theorem gX6_reason_X6_b : GoodIn wsX6_reason (va_wsS RX6 44 yX6_b wsX6_b) := goodIn_app (goodIn_of _ (by decide +kernel)) ggX6_reason_X6_b
set_option maxRecDepth 20000 in
theorem ggX6_reason_X6_after : GoodIn wsX6_reason wsX6_after := goodIn_r _ [16, 1, 21, 22, 23, 24, 25, 26, 27, 28, 29, 30, 31, 32, 33, 34, 35, 36, 37, 38, 39, 40, 41] (by decide +kernel) (by decide +kernel)
set_option maxRecDepth 20000 in
theorem gX6_reason_X6_after : GoodIn wsX6_reason (wsV RX6 64 RX6 yX6_after wsX6_after) := goodIn_app (goodIn_of _ (by decide +kernel)) ggX6_reason_X6_after
set_option maxRecDepth 20000 in
theorem ggX6_reason_X6_isOccupied : GoodIn wsX6_reason wsX6_isOccupied := goodIn_r _ [20, 1, 2, 3, 4, 5, 6, 7, 8, 9, 10, 11, 12, 21, 22, 23, 24, 25, 26, 27, 28, 29, 30, 31, 32, 33, 34, 35, 36, 37, 38, 39, 40, 41] (by decide +kernel) (by decide +kernel)
set_option maxRecDepth 20000 in
theorem gX6_reason_X6_isOccupied : GoodIn wsX6_reason (wsV RX6 67 RX6 yX6_isOccupied wsX6_isOccupied) := goodIn_app (goodIn_of _ (by decide +kernel)) ggX6_reason_X6_isOccupied
set_option maxRecDepth 20000 in
theorem ggX6_clearSignals_X6_b : GoodIn wsX6_clearSignals wsX6_b := goodIn_r _ [5] (by decide +kernel) (by decide +kernel)
set_option maxRecDepth 20000 in
theorem gX6_clearSignals_X6_b : GoodIn wsX6_clearSignals (va_wsS RX6 44 yX6_b wsX6_b) := goodIn_app (goodIn_of _ (by decide +kernel)) ggX6_clearSignals_X6_b
set_option maxRecDepth 20000 in
theorem ggX6_speed_X6_t : GoodIn wsX6_speed wsX6_t := goodIn_r _ [5] (by decide +kernel) (by decide +kernel)
set_option maxRecDepth 20000 in
theorem gX6_speed_X6_t : GoodIn wsX6_speed (va_wsS RX6 58 yX6_t wsX6_t) := goodIn_app (goodIn_of _ (by decide +kernel)) ggX6_speed_X6_t
set_option maxRecDepth 20000 in
theorem ggX6_speed_X6_b : GoodIn wsX6_speed wsX6_b := goodIn_r _ [8] (by decide +kernel) (by decide +kernel)
set_option maxRecDepth 20000 in
theorem gX6_speed_X6_b : GoodIn wsX6_speed (va_wsS RX6 44 yX6_b wsX6_b) := goodIn_app (goodIn_of _ (by decide +kernel)) ggX6_speed_X6_b
set_option maxRecDepth 20000 in
theorem ggX6_isAtEnd_X6_t : GoodIn wsX6_isAtEnd wsX6_t := goodIn_r _ [5] (by decide +kernel) (by decide +kernel)
set_option maxRecDepth 20000 in
theorem gX6_isAtEnd_X6_t : GoodIn wsX6_isAtEnd (va_wsS RX6 58 yX6_t wsX6_t) := goodIn_app (goodIn_of _ (by decide +kernel)) ggX6_isAtEnd_X6_t
set_option maxRecDepth 20000 in
theorem ggX6_isAtEnd_X6_b : GoodIn wsX6_isAtEnd wsX6_b := goodIn_r _ [8] (by decide +kernel) (by decide +kernel)
set_option maxRecDepth 20000 in
theorem gX6_isAtEnd_X6_b : GoodIn wsX6_isAtEnd (va_wsS RX6 44 yX6_b wsX6_b) := goodIn_app (goodIn_of _ (by decide +kernel)) ggX6_isAtEnd_X6_b
set_option maxRecDepth 20000 in
theorem ggX6_mayEnter_X6_t : GoodIn wsX6_mayEnter wsX6_t := goodIn_r _ [5] (by decide +kernel) (by decide +kernel)
set_option maxRecDepth 20000 in
theorem gX6_mayEnter_X6_t : GoodIn wsX6_mayEnter (va_wsS RX6 58 yX6_t wsX6_t) := goodIn_app (goodIn_of _ (by decide +kernel)) ggX6_mayEnter_X6_t
set_option maxRecDepth 20000 in
theorem ggX6_mayEnter_X6_after : GoodIn wsX6_mayEnter wsX6_after := goodIn_r _ [9, 1, 21, 22, 23, 24, 25, 26, 27, 28, 29, 30, 31, 32, 33, 34, 35, 36, 37, 38, 39, 40, 41] (by decide +kernel) (by decide +kernel)
set_option maxRecDepth 20000 in
theorem gX6_mayEnter_X6_after : GoodIn wsX6_mayEnter (wsV RX6 64 RX6 yX6_after wsX6_after) := goodIn_app (goodIn_of _ (by decide +kernel)) ggX6_mayEnter_X6_after
set_option maxRecDepth 20000 in
theorem ggX6_mayEnter_X6_b : GoodIn wsX6_mayEnter wsX6_b := goodIn_r _ [12] (by decide +kernel) (by decide +kernel)
set_option maxRecDepth 20000 in
theorem gX6_mayEnter_X6_b : GoodIn wsX6_mayEnter (va_wsS RX6 44 yX6_b wsX6_b) := goodIn_app (goodIn_of _ (by decide +kernel)) ggX6_mayEnter_X6_b
set_option maxRecDepth 20000 in
theorem ggX6_mayEnter_X6_isOccupied : GoodIn wsX6_mayEnter wsX6_isOccupied := goodIn_r _ [16, 1, 17, 18, 19, 4, 20, 2, 3, 5, 10, 11, 12, 21, 22, 23, 24, 25, 26, 27, 28, 29, 30, 31, 32, 33, 34, 35, 36, 37, 38, 39, 40, 41] (by decide +kernel) (by decide +kernel)
set_option maxRecDepth 20000 in
theorem gX6_mayEnter_X6_isOccupied : GoodIn wsX6_mayEnter (wsV RX6 67 RX6 yX6_isOccupied wsX6_isOccupied) := goodIn_app (goodIn_of _ (by decide +kernel)) ggX6_mayEnter_X6_isOccupied
set_option maxRecDepth 20000 in
theorem ggX6_leaves_X6_t : GoodIn wsX6_leaves wsX6_t := goodIn_r _ [5] (by decide +kernel) (by decide +kernel)
set_option maxRecDepth 20000 in
theorem gX6_leaves_X6_t : GoodIn wsX6_leaves (va_wsS RX6 58 yX6_t wsX6_t) := goodIn_app (goodIn_of _ (by decide +kernel)) ggX6_leaves_X6_t
set_option maxRecDepth 20000 in
theorem ggX6_leaves_X6_b : GoodIn wsX6_leaves wsX6_b := goodIn_r _ [8] (by decide +kernel) (by decide +kernel)
set_option maxRecDepth 20000 in
theorem gX6_leaves_X6_b : GoodIn wsX6_leaves (va_wsS RX6 44 yX6_b wsX6_b) := goodIn_app (goodIn_of _ (by decide +kernel)) ggX6_leaves_X6_b
set_option maxRecDepth 20000 in
theorem ggX6_leaves_X6_speed : GoodIn wsX6_leaves wsX6_speed := goodIn_r _ [12, 1, 2, 3, 4, 5, 6, 7, 8, 16, 17, 18, 19, 20, 21, 22, 23, 24, 25, 26, 27, 28, 29, 30, 31, 32, 33, 34, 35, 36] (by decide +kernel) (by decide +kernel)
set_option maxRecDepth 20000 in
theorem gX6_leaves_X6_speed : GoodIn wsX6_leaves (wsV RX6 71 RX6 yX6_speed wsX6_speed) := goodIn_app (goodIn_of _ (by decide +kernel)) ggX6_leaves_X6_speed
set_option maxRecDepth 20000 in
theorem ggX6_leaves_X6_passed : GoodIn wsX6_leaves wsX6_passed := goodIn_r _ [15] (by decide +kernel) (by decide +kernel)
set_option maxRecDepth 20000 in
theorem gX6_leaves_X6_passed : GoodIn wsX6_leaves (va_wsS RX6 74 yX6_passed wsX6_passed) := goodIn_app (goodIn_of _ (by decide +kernel)) ggX6_leaves_X6_passed
set_option maxRecDepth 20000 in
theorem ggX6_moves_X6_t : GoodIn wsX6_moves wsX6_t := goodIn_r _ [5] (by decide +kernel) (by decide +kernel)
set_option maxRecDepth 20000 in
theorem gX6_moves_X6_t : GoodIn wsX6_moves (va_wsS RX6 58 yX6_t wsX6_t) := goodIn_app (goodIn_of _ (by decide +kernel)) ggX6_moves_X6_t
set_option maxRecDepth 20000 in
theorem ggX6_moves_X6_b : GoodIn wsX6_moves wsX6_b := goodIn_r _ [8] (by decide +kernel) (by decide +kernel)
set_option maxRecDepth 20000 in
theorem gX6_moves_X6_b : GoodIn wsX6_moves (va_wsS RX6 44 yX6_b wsX6_b) := goodIn_app (goodIn_of _ (by decide +kernel)) ggX6_moves_X6_b
set_option maxRecDepth 20000 in
theorem ggX6_moves_X6_speed : GoodIn wsX6_moves wsX6_speed := goodIn_r _ [12, 1, 2, 3, 4, 5, 6, 7, 8, 40, 41, 42, 43, 44, 45, 46, 47, 48, 49, 50, 51, 52, 53, 54, 55, 56, 57, 58, 59, 60] (by decide +kernel) (by decide +kernel)
set_option maxRecDepth 20000 in
theorem gX6_moves_X6_speed : GoodIn wsX6_moves (wsV RX6 71 RX6 yX6_speed wsX6_speed) := goodIn_app (goodIn_of _ (by decide +kernel)) ggX6_moves_X6_speed
set_option maxRecDepth 20000 in
theorem ggX6_moves_X6_isAtEnd : GoodIn wsX6_moves wsX6_isAtEnd := goodIn_r _ [16, 1, 2, 3, 4, 5, 6, 7, 8, 40, 41, 42, 43, 44, 45, 46, 47, 48, 49, 50, 51, 52, 53, 54, 55, 56, 57, 58, 59, 60] (by decide +kernel) (by decide +kernel)
set_option maxRecDepth 20000 in
theorem gX6_moves_X6_isAtEnd : GoodIn wsX6_moves (wsV RX6 78 RX6 yX6_isAtEnd wsX6_isAtEnd) := goodIn_app (goodIn_of _ (by decide +kernel)) ggX6_moves_X6_isAtEnd
set_option maxRecDepth 20000 in
theorem ggX6_moves_X6_mayEnter : GoodIn wsX6_moves wsX6_mayEnter := goodIn_r _ [20, 1, 2, 3, 4, 5, 21, 22, 23, 24, 6, 7, 8, 25, 26, 27, 28, 29, 30, 31, 32, 40, 41, 42, 43, 44, 45, 46, 47, 48, 49, 50, 51, 52, 53, 54, 55, 56, 57, 58, 59, 60] (by decide +kernel) (by decide +kernel)
set_option maxRecDepth 20000 in
theorem gX6_moves_X6_mayEnter : GoodIn wsX6_moves (wsV RX6 81 RX6 yX6_mayEnter wsX6_mayEnter) := goodIn_app (goodIn_of _ (by decide +kernel)) ggX6_moves_X6_mayEnter
set_option maxRecDepth 20000 in
theorem ggX6_moves_X6_leaves : GoodIn wsX6_moves wsX6_leaves := goodIn_r _ [36, 1, 2, 3, 4, 5, 6, 7, 8, 9, 10, 11, 12, 37, 38, 39, 40, 41, 42, 43, 44, 45, 46, 47, 48, 49, 50, 51, 52, 53, 54, 55, 56, 57, 58, 59, 60] (by decide +kernel) (by decide +kernel)
set_option maxRecDepth 20000 in
theorem gX6_moves_X6_leaves : GoodIn wsX6_moves (wsV RX6 84 RX6 yX6_leaves wsX6_leaves) := goodIn_app (goodIn_of _ (by decide +kernel)) ggX6_moves_X6_leaves
set_option maxRecDepth 20000 in
theorem ggX6_moves_X6_after : GoodIn wsX6_moves wsX6_after := goodIn_r _ [24, 1, 40, 41, 42, 43, 44, 45, 46, 47, 48, 49, 50, 51, 52, 53, 54, 55, 56, 57, 58, 59, 60] (by decide +kernel) (by decide +kernel)
set_option maxRecDepth 20000 in
theorem gX6_moves_X6_after : GoodIn wsX6_moves (wsV RX6 64 RX6 yX6_after wsX6_after) := goodIn_app (goodIn_of _ (by decide +kernel)) ggX6_moves_X6_after
set_option maxRecDepth 20000 in
theorem ggX6_passesTick_X6_moves : GoodIn wsX6_passesTick wsX6_moves := goodIn_r _ [6, 1, 7, 8, 5, 9, 10, 11, 12, 13, 14, 15, 16, 17, 18, 19, 20, 21, 22, 23, 24, 25, 26, 27, 28, 29, 30, 31, 32, 33, 34, 35, 36, 37, 38, 39, 40, 41, 42, 43, 44, 45, 46, 47, 48, 49, 50, 51, 52, 53, 54, 55, 56, 57, 58, 59, 60, 61, 62, 63, 64] (by decide +kernel) (by decide +kernel)
set_option maxRecDepth 20000 in
theorem gX6_passesTick_X6_moves : GoodIn wsX6_passesTick (wsV RX6 88 RX6 yX6_moves wsX6_moves) := goodIn_app (goodIn_of _ (by decide +kernel)) ggX6_passesTick_X6_moves
set_option maxRecDepth 20000 in
theorem ggX6_passes_X6_passesTick : GoodIn wsX6_passes wsX6_passesTick := goodIn_r _ [5, 6, 7, 8, 9, 4, 10, 11, 12, 13, 14, 15, 16, 17, 18, 19, 20, 21, 22, 23, 24, 25, 26, 27, 28, 29, 30, 31, 32, 33, 34, 35, 36, 37, 38, 39, 40, 41, 42, 43, 44, 45, 46, 47, 48, 49, 50, 51, 52, 53, 54, 55, 56, 57, 58, 59, 60, 61, 62, 63, 64, 65, 66, 67, 68] (by decide +kernel) (by decide +kernel)
set_option maxRecDepth 20000 in
theorem gX6_passes_X6_passesTick : GoodIn wsX6_passes (wsV RX6 91 RX6 yX6_passesTick wsX6_passesTick) := goodIn_app (goodIn_of _ (by decide +kernel)) ggX6_passes_X6_passesTick
set_option maxRecDepth 20000 in
theorem ggX6_remembers_X6_forgetsOldest : GoodIn wsX6_remembers wsX6_forgetsOldest := goodIn_r _ [8, 2, 1, 9, 10, 11, 12, 13, 14, 15, 16, 17, 18, 19, 20, 21, 22, 23, 24, 25, 26, 27, 28, 29] (by decide +kernel) (by decide +kernel)
set_option maxRecDepth 20000 in
theorem gX6_remembers_X6_forgetsOldest : GoodIn wsX6_remembers (wsV RX6 98 RX6 yX6_forgetsOldest wsX6_forgetsOldest) := goodIn_app (goodIn_of _ (by decide +kernel)) ggX6_remembers_X6_forgetsOldest
set_option maxRecDepth 20000 in
theorem ggX6_next_X6_isLetter : GoodIn wsX6_next wsX6_isLetter := goodIn_r _ [9] (by decide +kernel) (by decide +kernel)
set_option maxRecDepth 20000 in
theorem gX6_next_X6_isLetter : GoodIn wsX6_next (va_wsS RX6 113 yX6_isLetter wsX6_isLetter) := goodIn_app (goodIn_of _ (by decide +kernel)) ggX6_next_X6_isLetter
set_option maxRecDepth 20000 in
theorem ggX6_next_X6_scansWord : GoodIn wsX6_next wsX6_scansWord := goodIn_r _ [13, 2, 4, 5, 1, 6, 7, 8, 9, 22, 23, 24, 25, 26, 27, 28, 29, 30, 31, 32, 33, 34, 35, 36, 37, 38, 39, 40, 41, 42] (by decide +kernel) (by decide +kernel)
set_option maxRecDepth 20000 in
theorem gX6_next_X6_scansWord : GoodIn wsX6_next (wsV RX6 116 RX6 yX6_scansWord wsX6_scansWord) := goodIn_app (goodIn_of _ (by decide +kernel)) ggX6_next_X6_scansWord
set_option maxRecDepth 20000 in
theorem ggX6_next_X6_isDigit : GoodIn wsX6_next wsX6_isDigit := goodIn_r _ [16] (by decide +kernel) (by decide +kernel)
set_option maxRecDepth 20000 in
theorem gX6_next_X6_isDigit : GoodIn wsX6_next (va_wsS RX6 120 yX6_isDigit wsX6_isDigit) := goodIn_app (goodIn_of _ (by decide +kernel)) ggX6_next_X6_isDigit
set_option maxRecDepth 20000 in
theorem ggX6_next_X6_scansNumber : GoodIn wsX6_next wsX6_scansNumber := goodIn_r _ [20, 21, 2, 4, 5, 3, 1, 14, 15, 8, 16, 22, 23, 24, 25, 26, 27, 28, 29, 30, 31, 32, 33, 34, 35, 36, 37, 38, 39, 40, 41, 42] (by decide +kernel) (by decide +kernel)
set_option maxRecDepth 20000 in
theorem gX6_next_X6_scansNumber : GoodIn wsX6_next (wsV RX6 123 RX6 yX6_scansNumber wsX6_scansNumber) := goodIn_app (goodIn_of _ (by decide +kernel)) ggX6_next_X6_scansNumber
set_option maxRecDepth 20000 in
theorem ggX6_scansWord_X6_isLetter : GoodIn wsX6_scansWord wsX6_isLetter := goodIn_r _ [8] (by decide +kernel) (by decide +kernel)
set_option maxRecDepth 20000 in
theorem gX6_scansWord_X6_isLetter : GoodIn wsX6_scansWord (va_wsS RX6 113 yX6_isLetter wsX6_isLetter) := goodIn_app (goodIn_of _ (by decide +kernel)) ggX6_scansWord_X6_isLetter
set_option maxRecDepth 20000 in
theorem ggX6_scansNumber_X6_isDigit : GoodIn wsX6_scansNumber wsX6_isDigit := goodIn_r _ [10] (by decide +kernel) (by decide +kernel)
set_option maxRecDepth 20000 in
theorem gX6_scansNumber_X6_isDigit : GoodIn wsX6_scansNumber (va_wsS RX6 120 yX6_isDigit wsX6_isDigit) := goodIn_app (goodIn_of _ (by decide +kernel)) ggX6_scansNumber_X6_isDigit
set_option maxRecDepth 20000 in
theorem ggX6_goesOn_X6_next : GoodIn wsX6_goesOn wsX6_next := goodIn_r _ [6, 7, 8, 9, 10, 11, 12, 13, 5, 14, 15, 16, 17, 18, 19, 20, 21, 22, 23, 24, 25, 26, 27, 28, 29, 30, 31, 32, 33, 34, 35, 36, 37, 38, 39, 40, 41, 42, 43, 44, 45, 46, 47] (by decide +kernel) (by decide +kernel)
set_option maxRecDepth 20000 in
theorem gX6_goesOn_X6_next : GoodIn wsX6_goesOn (wsV RX6 135 RX6 yX6_next wsX6_next) := goodIn_app (goodIn_of _ (by decide +kernel)) ggX6_goesOn_X6_next
set_option maxRecDepth 20000 in
theorem ggX6_here_X6_errs : GoodIn wsX6_here wsX6_errs := goodIn_r _ [8, 1, 9, 10, 14, 15, 16, 17, 18, 19, 20, 21, 22, 23, 24, 25, 26, 27, 28, 29, 30, 31, 32, 33, 34] (by decide +kernel) (by decide +kernel)
set_option maxRecDepth 20000 in
theorem gX6_here_X6_errs : GoodIn wsX6_here (wsV RX6 138 RX6 yX6_errs wsX6_errs) := goodIn_app (goodIn_of _ (by decide +kernel)) ggX6_here_X6_errs
set_option maxRecDepth 20000 in
theorem ggX6_here_X6_in : GoodIn wsX6_here wsX6_in := goodIn_r _ [13] (by decide +kernel) (by decide +kernel)
set_option maxRecDepth 20000 in
theorem gX6_here_X6_in : GoodIn wsX6_here (va_wsS RX6 54 yX6_in wsX6_in) := goodIn_app (goodIn_of _ (by decide +kernel)) ggX6_here_X6_in
set_option maxRecDepth 20000 in
theorem ggX6_takesNumber_X6_here : GoodIn wsX6_takesNumber wsX6_here := goodIn_r _ [5, 6, 7, 8, 9, 10, 11, 4, 12, 13, 14, 15, 16, 17, 43, 44, 45, 46, 47, 48, 49, 50, 51, 52, 53, 54, 55, 56, 57, 58, 59, 60, 61, 62, 63] (by decide +kernel) (by decide +kernel)
set_option maxRecDepth 20000 in
theorem gX6_takesNumber_X6_here : GoodIn wsX6_takesNumber (wsV RX6 141 RX6 yX6_here wsX6_here) := goodIn_app (goodIn_of _ (by decide +kernel)) ggX6_takesNumber_X6_here
set_option maxRecDepth 20000 in
theorem ggX6_takesNumber_X6_goesOn : GoodIn wsX6_takesNumber wsX6_goesOn := goodIn_r _ [21, 6, 22, 23, 24, 4, 25, 7, 26, 13, 27, 28, 29, 30, 31, 32, 33, 34, 35, 36, 37, 38, 39, 40, 41, 42, 8, 43, 44, 45, 46, 47, 48, 49, 50, 51, 52, 53, 54, 55, 56, 57, 58, 59, 60, 61, 62, 63] (by decide +kernel) (by decide +kernel)
set_option maxRecDepth 20000 in
theorem gX6_takesNumber_X6_goesOn : GoodIn wsX6_takesNumber (wsV RX6 144 RX6 yX6_goesOn wsX6_goesOn) := goodIn_app (goodIn_of _ (by decide +kernel)) ggX6_takesNumber_X6_goesOn
set_option maxRecDepth 20000 in
theorem ggX6_blockHere_X6_here : GoodIn wsX6_blockHere wsX6_here := goodIn_r _ [6, 7, 8, 9, 10, 11, 12, 5, 13, 14, 15, 16, 17, 18, 19, 20, 21, 22, 23, 24, 25, 26, 27, 28, 29, 30, 31, 32, 33, 34, 35, 36, 37, 38, 39] (by decide +kernel) (by decide +kernel)
set_option maxRecDepth 20000 in
theorem gX6_blockHere_X6_here : GoodIn wsX6_blockHere (wsV RX6 141 RX6 yX6_here wsX6_here) := goodIn_app (goodIn_of _ (by decide +kernel)) ggX6_blockHere_X6_here
set_option maxRecDepth 20000 in
theorem ggX6_readsBlock_X6_errs : GoodIn wsX6_readsBlock wsX6_errs := goodIn_r _ [7, 2, 8, 9, 60, 61, 62, 63, 64, 65, 66, 67, 68, 69, 70, 71, 72, 73, 74, 75, 76, 77, 78, 79, 80] (by decide +kernel) (by decide +kernel)
set_option maxRecDepth 20000 in
theorem gX6_readsBlock_X6_errs : GoodIn wsX6_readsBlock (wsV RX6 138 RX6 yX6_errs wsX6_errs) := goodIn_app (goodIn_of _ (by decide +kernel)) ggX6_readsBlock_X6_errs
set_option maxRecDepth 20000 in
theorem ggX6_readsBlock_X6_next : GoodIn wsX6_readsBlock wsX6_next := goodIn_r _ [13, 14, 15, 8, 16, 17, 18, 19, 6, 20, 21, 22, 23, 24, 25, 26, 27, 28, 29, 30, 31, 32, 60, 61, 62, 63, 64, 65, 66, 67, 68, 69, 70, 71, 72, 73, 74, 75, 76, 77, 78, 79, 80] (by decide +kernel) (by decide +kernel)
set_option maxRecDepth 20000 in
theorem gX6_readsBlock_X6_next : GoodIn wsX6_readsBlock (wsV RX6 135 RX6 yX6_next wsX6_next) := goodIn_app (goodIn_of _ (by decide +kernel)) ggX6_readsBlock_X6_next
set_option maxRecDepth 20000 in
theorem ggX6_readsBlock_X6_takesNumber : GoodIn wsX6_readsBlock wsX6_takesNumber := goodIn_r _ [36, 37, 38, 39, 6, 40, 2, 14, 32, 3, 4, 5, 7, 8, 9, 41, 42, 43, 44, 45, 46, 47, 10, 11, 12, 13, 15, 16, 17, 18, 19, 20, 21, 22, 23, 24, 25, 26, 27, 28, 29, 30, 31, 60, 61, 62, 63, 64, 65, 66, 67, 68, 69, 70, 71, 72, 73, 74, 75, 76, 77, 78, 79, 80] (by decide +kernel) (by decide +kernel)
set_option maxRecDepth 20000 in
theorem gX6_readsBlock_X6_takesNumber : GoodIn wsX6_readsBlock (wsV RX6 147 RX6 yX6_takesNumber wsX6_takesNumber) := goodIn_app (goodIn_of _ (by decide +kernel)) ggX6_readsBlock_X6_takesNumber
set_option maxRecDepth 20000 in
theorem ggX6_readsBlock_X6_isKey : GoodIn wsX6_readsBlock wsX6_isKey := goodIn_r _ [51, 14, 15, 8, 17, 52, 60, 61, 62, 63, 64, 65, 66, 67, 68, 69, 70, 71, 72, 73, 74, 75, 76, 77, 78, 79, 80] (by decide +kernel) (by decide +kernel)
set_option maxRecDepth 20000 in
theorem gX6_readsBlock_X6_isKey : GoodIn wsX6_readsBlock (wsV RX6 150 RX6 yX6_isKey wsX6_isKey) := goodIn_app (goodIn_of _ (by decide +kernel)) ggX6_readsBlock_X6_isKey
set_option maxRecDepth 20000 in
theorem ggX6_readsBlock_X6_lays : GoodIn wsX6_readsBlock wsX6_lays := goodIn_r _ [56, 1, 57, 58, 6, 59, 60, 61, 62, 63, 64, 65, 66, 67, 68, 69, 70, 71, 72, 73, 74, 75, 76, 77, 78, 79, 80] (by decide +kernel) (by decide +kernel)
set_option maxRecDepth 20000 in
theorem gX6_readsBlock_X6_lays : GoodIn wsX6_readsBlock (wsV RX6 36 RX6 yX6_lays wsX6_lays) := goodIn_app (goodIn_of _ (by decide +kernel)) ggX6_readsBlock_X6_lays
set_option maxRecDepth 20000 in
theorem ggX6_readsTrain_X6_errs : GoodIn wsX6_readsTrain wsX6_errs := goodIn_r _ [7, 2, 8, 9, 70, 71, 72, 73, 74, 75, 76, 77, 78, 79, 80, 81, 82, 83, 84, 85, 86, 87, 88, 89, 90] (by decide +kernel) (by decide +kernel)
set_option maxRecDepth 20000 in
theorem gX6_readsTrain_X6_errs : GoodIn wsX6_readsTrain (wsV RX6 138 RX6 yX6_errs wsX6_errs) := goodIn_app (goodIn_of _ (by decide +kernel)) ggX6_readsTrain_X6_errs
set_option maxRecDepth 20000 in
theorem ggX6_readsTrain_X6_next : GoodIn wsX6_readsTrain wsX6_next := goodIn_r _ [13, 14, 15, 8, 16, 17, 18, 19, 6, 20, 21, 22, 23, 24, 25, 26, 27, 28, 29, 30, 31, 32, 70, 71, 72, 73, 74, 75, 76, 77, 78, 79, 80, 81, 82, 83, 84, 85, 86, 87, 88, 89, 90] (by decide +kernel) (by decide +kernel)
set_option maxRecDepth 20000 in
theorem gX6_readsTrain_X6_next : GoodIn wsX6_readsTrain (wsV RX6 135 RX6 yX6_next wsX6_next) := goodIn_app (goodIn_of _ (by decide +kernel)) ggX6_readsTrain_X6_next
set_option maxRecDepth 20000 in
theorem ggX6_readsTrain_X6_blockHere : GoodIn wsX6_readsTrain wsX6_blockHere := goodIn_r _ [36, 1, 37, 38, 39, 6, 40, 2, 14, 32, 3, 4, 5, 7, 8, 9, 41, 42, 43, 70, 71, 72, 73, 74, 75, 76, 77, 78, 79, 80, 81, 82, 83, 84, 85, 86, 87, 88, 89, 90] (by decide +kernel) (by decide +kernel)
set_option maxRecDepth 20000 in
theorem gX6_readsTrain_X6_blockHere : GoodIn wsX6_readsTrain (wsV RX6 153 RX6 yX6_blockHere wsX6_blockHere) := goodIn_app (goodIn_of _ (by decide +kernel)) ggX6_readsTrain_X6_blockHere
set_option maxRecDepth 20000 in
theorem ggX6_readsTrain_X6_isOccupied : GoodIn wsX6_readsTrain wsX6_isOccupied := goodIn_r _ [47, 1, 48, 49, 50, 6, 51, 52, 53, 54, 55, 56, 57, 70, 71, 72, 73, 74, 75, 76, 77, 78, 79, 80, 81, 82, 83, 84, 85, 86, 87, 88, 89, 90] (by decide +kernel) (by decide +kernel)
set_option maxRecDepth 20000 in
theorem gX6_readsTrain_X6_isOccupied : GoodIn wsX6_readsTrain (wsV RX6 67 RX6 yX6_isOccupied wsX6_isOccupied) := goodIn_app (goodIn_of _ (by decide +kernel)) ggX6_readsTrain_X6_isOccupied
set_option maxRecDepth 20000 in
theorem ggX6_readsTrain_X6_goesOn : GoodIn wsX6_readsTrain wsX6_goesOn := goodIn_r _ [61, 2, 10, 11, 12, 6, 13, 14, 15, 8, 16, 17, 18, 19, 20, 21, 22, 23, 24, 25, 26, 27, 28, 29, 30, 31, 32, 70, 71, 72, 73, 74, 75, 76, 77, 78, 79, 80, 81, 82, 83, 84, 85, 86, 87, 88, 89, 90] (by decide +kernel) (by decide +kernel)
set_option maxRecDepth 20000 in
theorem gX6_readsTrain_X6_goesOn : GoodIn wsX6_readsTrain (wsV RX6 144 RX6 yX6_goesOn wsX6_goesOn) := goodIn_app (goodIn_of _ (by decide +kernel)) ggX6_readsTrain_X6_goesOn
set_option maxRecDepth 20000 in
theorem ggX6_readsTrain_X6_takesNumber : GoodIn wsX6_readsTrain wsX6_takesNumber := goodIn_r _ [65, 37, 38, 39, 6, 40, 2, 14, 32, 3, 4, 5, 7, 8, 9, 41, 42, 43, 58, 59, 60, 61, 10, 11, 12, 13, 15, 16, 17, 18, 19, 20, 21, 22, 23, 24, 25, 26, 27, 28, 29, 30, 31, 70, 71, 72, 73, 74, 75, 76, 77, 78, 79, 80, 81, 82, 83, 84, 85, 86, 87, 88, 89, 90] (by decide +kernel) (by decide +kernel)
set_option maxRecDepth 20000 in
theorem gX6_readsTrain_X6_takesNumber : GoodIn wsX6_readsTrain (wsV RX6 147 RX6 yX6_takesNumber wsX6_takesNumber) := goodIn_app (goodIn_of _ (by decide +kernel)) ggX6_readsTrain_X6_takesNumber
set_option maxRecDepth 20000 in
theorem ggX6_readsTrain_X6_sets : GoodIn wsX6_readsTrain wsX6_sets := goodIn_r _ [69, 1, 52, 53, 6, 54, 70, 71, 72, 73, 74, 75, 76, 77, 78, 79, 80, 81, 82, 83, 84, 85, 86, 87, 88, 89, 90] (by decide +kernel) (by decide +kernel)
set_option maxRecDepth 20000 in
theorem gX6_readsTrain_X6_sets : GoodIn wsX6_readsTrain (wsV RX6 40 RX6 yX6_sets wsX6_sets) := goodIn_app (goodIn_of _ (by decide +kernel)) ggX6_readsTrain_X6_sets
set_option maxRecDepth 20000 in
theorem ggX6_readsPull_X6_next : GoodIn wsX6_readsPull wsX6_next := goodIn_r _ [7, 8, 9, 10, 11, 12, 13, 14, 6, 15, 16, 17, 18, 19, 20, 21, 22, 23, 24, 25, 26, 27, 66, 67, 68, 69, 70, 71, 72, 73, 74, 75, 76, 77, 78, 79, 80, 81, 82, 83, 84, 85, 86] (by decide +kernel) (by decide +kernel)
set_option maxRecDepth 20000 in
theorem gX6_readsPull_X6_next : GoodIn wsX6_readsPull (wsV RX6 135 RX6 yX6_next wsX6_next) := goodIn_app (goodIn_of _ (by decide +kernel)) ggX6_readsPull_X6_next
set_option maxRecDepth 20000 in
theorem ggX6_readsPull_X6_blockHere : GoodIn wsX6_readsPull wsX6_blockHere := goodIn_r _ [31, 2, 32, 33, 34, 6, 35, 1, 8, 27, 36, 37, 38, 39, 10, 40, 41, 42, 43, 66, 67, 68, 69, 70, 71, 72, 73, 74, 75, 76, 77, 78, 79, 80, 81, 82, 83, 84, 85, 86] (by decide +kernel) (by decide +kernel)
set_option maxRecDepth 20000 in
theorem gX6_readsPull_X6_blockHere : GoodIn wsX6_readsPull (wsV RX6 153 RX6 yX6_blockHere wsX6_blockHere) := goodIn_app (goodIn_of _ (by decide +kernel)) ggX6_readsPull_X6_blockHere
set_option maxRecDepth 20000 in
theorem ggX6_readsPull_X6_reason : GoodIn wsX6_readsPull wsX6_reason := goodIn_r _ [47, 2, 48, 49, 50, 6, 51, 52, 53, 54, 55, 56, 57, 58, 59, 60, 61, 62, 63, 64, 65, 66, 67, 68, 69, 70, 71, 72, 73, 74, 75, 76, 77, 78, 79, 80, 81, 82, 83, 84, 85, 86] (by decide +kernel) (by decide +kernel)
set_option maxRecDepth 20000 in
theorem gX6_readsPull_X6_reason : GoodIn wsX6_readsPull (wsV RX6 156 RX6 yX6_reason wsX6_reason) := goodIn_app (goodIn_of _ (by decide +kernel)) ggX6_readsPull_X6_reason
set_option maxRecDepth 20000 in
theorem ggX6_readsPull_X6_errs : GoodIn wsX6_readsPull wsX6_errs := goodIn_r _ [39, 1, 10, 40, 66, 67, 68, 69, 70, 71, 72, 73, 74, 75, 76, 77, 78, 79, 80, 81, 82, 83, 84, 85, 86] (by decide +kernel) (by decide +kernel)
set_option maxRecDepth 20000 in
theorem gX6_readsPull_X6_errs : GoodIn wsX6_readsPull (wsV RX6 138 RX6 yX6_errs wsX6_errs) := goodIn_app (goodIn_of _ (by decide +kernel)) ggX6_readsPull_X6_errs
set_option maxRecDepth 20000 in
theorem ggX6_readsPull_X6_b : GoodIn wsX6_readsPull wsX6_b := goodIn_r _ [57] (by decide +kernel) (by decide +kernel)
set_option maxRecDepth 20000 in
theorem gX6_readsPull_X6_b : GoodIn wsX6_readsPull (va_wsS RX6 44 yX6_b wsX6_b) := goodIn_app (goodIn_of _ (by decide +kernel)) ggX6_readsPull_X6_b
set_option maxRecDepth 20000 in
theorem ggX6_readsDanger_X6_next : GoodIn wsX6_readsDanger wsX6_next := goodIn_r _ [7, 8, 9, 10, 11, 12, 13, 14, 6, 15, 16, 17, 18, 19, 20, 21, 22, 23, 24, 25, 26, 27, 47, 48, 49, 50, 51, 52, 53, 54, 55, 56, 57, 58, 59, 60, 61, 62, 63, 64, 65, 66, 67] (by decide +kernel) (by decide +kernel)
set_option maxRecDepth 20000 in
theorem gX6_readsDanger_X6_next : GoodIn wsX6_readsDanger (wsV RX6 135 RX6 yX6_next wsX6_next) := goodIn_app (goodIn_of _ (by decide +kernel)) ggX6_readsDanger_X6_next
set_option maxRecDepth 20000 in
theorem ggX6_readsDanger_X6_blockHere : GoodIn wsX6_readsDanger wsX6_blockHere := goodIn_r _ [31, 2, 32, 33, 34, 6, 35, 1, 8, 27, 36, 37, 38, 39, 10, 40, 41, 42, 43, 47, 48, 49, 50, 51, 52, 53, 54, 55, 56, 57, 58, 59, 60, 61, 62, 63, 64, 65, 66, 67] (by decide +kernel) (by decide +kernel)
set_option maxRecDepth 20000 in
theorem gX6_readsDanger_X6_blockHere : GoodIn wsX6_readsDanger (wsV RX6 153 RX6 yX6_blockHere wsX6_blockHere) := goodIn_app (goodIn_of _ (by decide +kernel)) ggX6_readsDanger_X6_blockHere
set_option maxRecDepth 20000 in
theorem ggX6_readsDanger_X6_b : GoodIn wsX6_readsDanger wsX6_b := goodIn_r _ [46] (by decide +kernel) (by decide +kernel)
set_option maxRecDepth 20000 in
theorem gX6_readsDanger_X6_b : GoodIn wsX6_readsDanger (va_wsS RX6 44 yX6_b wsX6_b) := goodIn_app (goodIn_of _ (by decide +kernel)) ggX6_readsDanger_X6_b
set_option maxRecDepth 20000 in
theorem ggX6_readsDanger_X6_errs : GoodIn wsX6_readsDanger wsX6_errs := goodIn_r _ [39, 1, 10, 40, 47, 48, 49, 50, 51, 52, 53, 54, 55, 56, 57, 58, 59, 60, 61, 62, 63, 64, 65, 66, 67] (by decide +kernel) (by decide +kernel)
set_option maxRecDepth 20000 in
theorem gX6_readsDanger_X6_errs : GoodIn wsX6_readsDanger (wsV RX6 138 RX6 yX6_errs wsX6_errs) := goodIn_app (goodIn_of _ (by decide +kernel)) ggX6_readsDanger_X6_errs
set_option maxRecDepth 20000 in
theorem ggX6_readsRepair_X6_next : GoodIn wsX6_readsRepair wsX6_next := goodIn_r _ [7, 8, 9, 10, 11, 12, 13, 14, 6, 15, 16, 17, 18, 19, 20, 21, 22, 23, 24, 25, 26, 27, 54, 55, 56, 57, 58, 59, 60, 61, 62, 63, 64, 65, 66, 67, 68, 69, 70, 71, 72, 73, 74] (by decide +kernel) (by decide +kernel)
set_option maxRecDepth 20000 in
theorem gX6_readsRepair_X6_next : GoodIn wsX6_readsRepair (wsV RX6 135 RX6 yX6_next wsX6_next) := goodIn_app (goodIn_of _ (by decide +kernel)) ggX6_readsRepair_X6_next
set_option maxRecDepth 20000 in
theorem ggX6_readsRepair_X6_blockHere : GoodIn wsX6_readsRepair wsX6_blockHere := goodIn_r _ [31, 2, 32, 33, 34, 6, 35, 1, 8, 27, 36, 37, 38, 39, 10, 40, 41, 42, 43, 54, 55, 56, 57, 58, 59, 60, 61, 62, 63, 64, 65, 66, 67, 68, 69, 70, 71, 72, 73, 74] (by decide +kernel) (by decide +kernel)
set_option maxRecDepth 20000 in
theorem gX6_readsRepair_X6_blockHere : GoodIn wsX6_readsRepair (wsV RX6 153 RX6 yX6_blockHere wsX6_blockHere) := goodIn_app (goodIn_of _ (by decide +kernel)) ggX6_readsRepair_X6_blockHere
set_option maxRecDepth 20000 in
theorem ggX6_readsRepair_X6_trainAt : GoodIn wsX6_readsRepair wsX6_trainAt := goodIn_r _ [47, 2, 48, 49, 6, 50, 54, 55, 56, 57, 58, 59, 60, 61, 62, 63, 64, 65, 66, 67, 68, 69, 70, 71, 72, 73, 74] (by decide +kernel) (by decide +kernel)
set_option maxRecDepth 20000 in
theorem gX6_readsRepair_X6_trainAt : GoodIn wsX6_readsRepair (wsV RX6 61 RX6 yX6_trainAt wsX6_trainAt) := goodIn_app (goodIn_of _ (by decide +kernel)) ggX6_readsRepair_X6_trainAt
set_option maxRecDepth 20000 in
theorem ggX6_readsRepair_X6_errs : GoodIn wsX6_readsRepair wsX6_errs := goodIn_r _ [39, 1, 10, 40, 54, 55, 56, 57, 58, 59, 60, 61, 62, 63, 64, 65, 66, 67, 68, 69, 70, 71, 72, 73, 74] (by decide +kernel) (by decide +kernel)
set_option maxRecDepth 20000 in
theorem gX6_readsRepair_X6_errs : GoodIn wsX6_readsRepair (wsV RX6 138 RX6 yX6_errs wsX6_errs) := goodIn_app (goodIn_of _ (by decide +kernel)) ggX6_readsRepair_X6_errs
set_option maxRecDepth 20000 in
theorem ggX6_readsRepair_X6_b : GoodIn wsX6_readsRepair wsX6_b := goodIn_r _ [53] (by decide +kernel) (by decide +kernel)
set_option maxRecDepth 20000 in
theorem gX6_readsRepair_X6_b : GoodIn wsX6_readsRepair (va_wsS RX6 44 yX6_b wsX6_b) := goodIn_app (goodIn_of _ (by decide +kernel)) ggX6_readsRepair_X6_b
set_option maxRecDepth 20000 in
theorem ggX6_readsTicks_X6_next : GoodIn wsX6_readsTicks wsX6_next := goodIn_r _ [7, 8, 9, 10, 11, 12, 13, 14, 6, 15, 16, 17, 18, 19, 20, 21, 22, 23, 24, 25, 26, 27, 97, 98, 99, 100, 101, 102, 103, 104, 105, 106, 107, 108, 109, 110, 111, 112, 113, 114, 115, 116, 117] (by decide +kernel) (by decide +kernel)
set_option maxRecDepth 20000 in
theorem gX6_readsTicks_X6_next : GoodIn wsX6_readsTicks (wsV RX6 135 RX6 yX6_next wsX6_next) := goodIn_app (goodIn_of _ (by decide +kernel)) ggX6_readsTicks_X6_next
set_option maxRecDepth 20000 in
theorem ggX6_readsTicks_X6_takesNumber : GoodIn wsX6_readsTicks wsX6_takesNumber := goodIn_r _ [31, 32, 33, 34, 6, 35, 2, 8, 27, 36, 37, 38, 39, 10, 40, 41, 42, 43, 44, 45, 46, 47, 3, 4, 5, 7, 9, 11, 12, 13, 14, 15, 16, 17, 18, 19, 20, 21, 22, 23, 24, 25, 26, 97, 98, 99, 100, 101, 102, 103, 104, 105, 106, 107, 108, 109, 110, 111, 112, 113, 114, 115, 116, 117] (by decide +kernel) (by decide +kernel)
set_option maxRecDepth 20000 in
theorem gX6_readsTicks_X6_takesNumber : GoodIn wsX6_readsTicks (wsV RX6 147 RX6 yX6_takesNumber wsX6_takesNumber) := goodIn_app (goodIn_of _ (by decide +kernel)) ggX6_readsTicks_X6_takesNumber
set_option maxRecDepth 20000 in
theorem ggX6_readsTicks_X6_passes : GoodIn wsX6_readsTicks wsX6_passes := goodIn_r _ [51, 52, 53, 54, 6, 55, 1, 56, 57, 58, 59, 60, 61, 62, 63, 64, 65, 66, 67, 68, 69, 70, 71, 72, 73, 74, 75, 76, 77, 78, 79, 80, 81, 82, 83, 84, 85, 86, 87, 88, 89, 90, 91, 92, 93, 94, 95, 96, 97, 98, 99, 100, 101, 102, 103, 104, 105, 106, 107, 108, 109, 110, 111, 112, 113, 114, 115, 116, 117] (by decide +kernel) (by decide +kernel)
set_option maxRecDepth 20000 in
theorem gX6_readsTicks_X6_passes : GoodIn wsX6_readsTicks (wsV RX6 48 RX6 yX6_passes wsX6_passes) := goodIn_app (goodIn_of _ (by decide +kernel)) ggX6_readsTicks_X6_passes
set_option maxRecDepth 20000 in
theorem ggX6_readsLine_X6_isKey : GoodIn wsX6_readsLine wsX6_isKey := goodIn_r _ [5, 6, 7, 8, 9, 10, 142, 143, 144, 145, 146, 147, 148, 149, 150, 151, 152, 153, 154, 155, 156, 157, 158, 159, 160, 161, 162] (by decide +kernel) (by decide +kernel)
set_option maxRecDepth 20000 in
theorem gX6_readsLine_X6_isKey : GoodIn wsX6_readsLine (wsV RX6 150 RX6 yX6_isKey wsX6_isKey) := goodIn_app (goodIn_of _ (by decide +kernel)) ggX6_readsLine_X6_isKey
set_option maxRecDepth 20000 in
theorem ggX6_readsLine_X6_readsBlock : GoodIn wsX6_readsLine wsX6_readsBlock := goodIn_r _ [14, 15, 16, 17, 18, 19, 4, 20, 8, 21, 22, 23, 24, 25, 6, 7, 26, 9, 27, 28, 29, 30, 31, 32, 33, 34, 35, 36, 37, 38, 39, 40, 41, 42, 43, 44, 45, 46, 47, 48, 49, 50, 51, 52, 53, 54, 55, 56, 1, 2, 3, 5, 10, 57, 58, 59, 60, 61, 62, 63, 142, 143, 144, 145, 146, 147, 148, 149, 150, 151, 152, 153, 154, 155, 156, 157, 158, 159, 160, 161, 162] (by decide +kernel) (by decide +kernel)
set_option maxRecDepth 20000 in
theorem gX6_readsLine_X6_readsBlock : GoodIn wsX6_readsLine (wsV RX6 159 RX6 yX6_readsBlock wsX6_readsBlock) := goodIn_app (goodIn_of _ (by decide +kernel)) ggX6_readsLine_X6_readsBlock
set_option maxRecDepth 20000 in
theorem ggX6_readsLine_X6_readsTrain : GoodIn wsX6_readsLine wsX6_readsTrain := goodIn_r _ [67, 15, 16, 17, 18, 19, 4, 20, 8, 21, 22, 23, 24, 25, 6, 7, 26, 9, 27, 28, 29, 30, 31, 32, 33, 34, 35, 36, 37, 38, 39, 40, 41, 68, 69, 70, 71, 46, 47, 48, 49, 50, 51, 52, 72, 73, 74, 75, 76, 77, 78, 79, 80, 81, 82, 61, 62, 63, 53, 54, 55, 56, 42, 43, 44, 45, 83, 84, 85, 86, 142, 143, 144, 145, 146, 147, 148, 149, 150, 151, 152, 153, 154, 155, 156, 157, 158, 159, 160, 161, 162] (by decide +kernel) (by decide +kernel)
set_option maxRecDepth 20000 in
theorem gX6_readsLine_X6_readsTrain : GoodIn wsX6_readsLine (wsV RX6 162 RX6 yX6_readsTrain wsX6_readsTrain) := goodIn_app (goodIn_of _ (by decide +kernel)) ggX6_readsLine_X6_readsTrain
set_option maxRecDepth 20000 in
theorem ggX6_readsLine_X6_readsPull : GoodIn wsX6_readsLine wsX6_readsPull := goodIn_r _ [90, 16, 15, 22, 23, 24, 4, 25, 6, 7, 8, 26, 9, 27, 28, 29, 30, 31, 32, 33, 34, 35, 36, 37, 38, 39, 40, 41, 68, 69, 70, 71, 46, 47, 48, 49, 17, 18, 19, 20, 21, 50, 51, 52, 91, 92, 93, 94, 76, 77, 78, 79, 80, 81, 82, 61, 62, 63, 95, 96, 97, 98, 72, 73, 74, 75, 142, 143, 144, 145, 146, 147, 148, 149, 150, 151, 152, 153, 154, 155, 156, 157, 158, 159, 160, 161, 162] (by decide +kernel) (by decide +kernel)
set_option maxRecDepth 20000 in
theorem gX6_readsLine_X6_readsPull : GoodIn wsX6_readsLine (wsV RX6 165 RX6 yX6_readsPull wsX6_readsPull) := goodIn_app (goodIn_of _ (by decide +kernel)) ggX6_readsLine_X6_readsPull
set_option maxRecDepth 20000 in
theorem ggX6_readsLine_X6_readsDanger : GoodIn wsX6_readsLine wsX6_readsDanger := goodIn_r _ [102, 16, 15, 22, 23, 24, 4, 25, 6, 7, 8, 26, 9, 27, 28, 29, 30, 31, 32, 33, 34, 35, 36, 37, 38, 39, 40, 41, 68, 69, 70, 71, 46, 47, 48, 49, 17, 18, 19, 20, 21, 50, 51, 52, 61, 62, 63, 142, 143, 144, 145, 146, 147, 148, 149, 150, 151, 152, 153, 154, 155, 156, 157, 158, 159, 160, 161, 162] (by decide +kernel) (by decide +kernel)
set_option maxRecDepth 20000 in
theorem gX6_readsLine_X6_readsDanger : GoodIn wsX6_readsLine (wsV RX6 168 RX6 yX6_readsDanger wsX6_readsDanger) := goodIn_app (goodIn_of _ (by decide +kernel)) ggX6_readsLine_X6_readsDanger
set_option maxRecDepth 20000 in
theorem ggX6_readsLine_X6_readsRepair : GoodIn wsX6_readsLine wsX6_readsRepair := goodIn_r _ [106, 16, 15, 22, 23, 24, 4, 25, 6, 7, 8, 26, 9, 27, 28, 29, 30, 31, 32, 33, 34, 35, 36, 37, 38, 39, 40, 41, 68, 69, 70, 71, 46, 47, 48, 49, 17, 18, 19, 20, 21, 50, 51, 52, 76, 77, 78, 79, 80, 81, 82, 61, 62, 63, 142, 143, 144, 145, 146, 147, 148, 149, 150, 151, 152, 153, 154, 155, 156, 157, 158, 159, 160, 161, 162] (by decide +kernel) (by decide +kernel)
set_option maxRecDepth 20000 in
theorem gX6_readsLine_X6_readsRepair : GoodIn wsX6_readsLine (wsV RX6 171 RX6 yX6_readsRepair wsX6_readsRepair) := goodIn_app (goodIn_of _ (by decide +kernel)) ggX6_readsLine_X6_readsRepair
set_option maxRecDepth 20000 in
theorem ggX6_readsLine_X6_readsTicks : GoodIn wsX6_readsLine wsX6_readsTicks := goodIn_r _ [110, 15, 16, 22, 23, 24, 4, 25, 6, 7, 8, 26, 9, 27, 28, 29, 30, 31, 32, 33, 34, 35, 36, 37, 38, 39, 40, 41, 42, 43, 44, 45, 46, 47, 48, 49, 17, 18, 19, 20, 21, 50, 51, 52, 53, 54, 55, 56, 111, 112, 113, 114, 115, 116, 117, 118, 119, 120, 121, 122, 80, 81, 82, 61, 62, 63, 123, 124, 125, 126, 127, 128, 129, 130, 131, 132, 133, 134, 95, 96, 97, 98, 72, 73, 74, 75, 76, 77, 78, 79, 135, 136, 137, 138, 139, 140, 141, 142, 143, 144, 145, 146, 147, 148, 149, 150, 151, 152, 153, 154, 155, 156, 157, 158, 159, 160, 161, 162] (by decide +kernel) (by decide +kernel)
set_option maxRecDepth 20000 in
theorem gX6_readsLine_X6_readsTicks : GoodIn wsX6_readsLine (wsV RX6 174 RX6 yX6_readsTicks wsX6_readsTicks) := goodIn_app (goodIn_of _ (by decide +kernel)) ggX6_readsLine_X6_readsTicks
set_option maxRecDepth 20000 in
theorem ggX6_readsLine_X6_errs : GoodIn wsX6_readsLine wsX6_errs := goodIn_r _ [20, 16, 8, 21, 142, 143, 144, 145, 146, 147, 148, 149, 150, 151, 152, 153, 154, 155, 156, 157, 158, 159, 160, 161, 162] (by decide +kernel) (by decide +kernel)
set_option maxRecDepth 20000 in
theorem gX6_readsLine_X6_errs : GoodIn wsX6_readsLine (wsV RX6 138 RX6 yX6_errs wsX6_errs) := goodIn_app (goodIn_of _ (by decide +kernel)) ggX6_readsLine_X6_errs
set_option maxRecDepth 20000 in
theorem ggX6_readsText_X6_next : GoodIn wsX6_readsText wsX6_next := goodIn_r _ [10, 4, 5, 11, 2, 12, 13, 14, 9, 15, 16, 17, 18, 19, 20, 21, 22, 23, 24, 25, 26, 27, 146, 147, 148, 149, 150, 151, 152, 153, 154, 155, 156, 157, 158, 159, 160, 161, 162, 163, 164, 165, 166] (by decide +kernel) (by decide +kernel)
set_option maxRecDepth 20000 in
theorem gX6_readsText_X6_next : GoodIn wsX6_readsText (wsV RX6 135 RX6 yX6_next wsX6_next) := goodIn_app (goodIn_of _ (by decide +kernel)) ggX6_readsText_X6_next
set_option maxRecDepth 20000 in
theorem ggX6_readsText_X6_isKey : GoodIn wsX6_readsText wsX6_isKey := goodIn_r _ [31, 4, 5, 11, 12, 32, 146, 147, 148, 149, 150, 151, 152, 153, 154, 155, 156, 157, 158, 159, 160, 161, 162, 163, 164, 165, 166] (by decide +kernel) (by decide +kernel)
set_option maxRecDepth 20000 in
theorem gX6_readsText_X6_isKey : GoodIn wsX6_readsText (wsV RX6 150 RX6 yX6_isKey wsX6_isKey) := goodIn_app (goodIn_of _ (by decide +kernel)) ggX6_readsText_X6_isKey
set_option maxRecDepth 20000 in
theorem ggX6_readsText_X6_errs : GoodIn wsX6_readsText wsX6_errs := goodIn_r _ [36, 3, 11, 37, 146, 147, 148, 149, 150, 151, 152, 153, 154, 155, 156, 157, 158, 159, 160, 161, 162, 163, 164, 165, 166] (by decide +kernel) (by decide +kernel)
set_option maxRecDepth 20000 in
theorem gX6_readsText_X6_errs : GoodIn wsX6_readsText (wsV RX6 138 RX6 yX6_errs wsX6_errs) := goodIn_app (goodIn_of _ (by decide +kernel)) ggX6_readsText_X6_errs
set_option maxRecDepth 20000 in
theorem ggX6_readsText_X6_readsLine : GoodIn wsX6_readsText wsX6_readsLine := goodIn_r _ [41, 28, 29, 30, 9, 31, 4, 5, 11, 12, 32, 42, 43, 44, 45, 1, 3, 33, 34, 35, 36, 37, 6, 7, 8, 10, 2, 13, 14, 15, 16, 17, 18, 19, 20, 21, 22, 23, 24, 25, 26, 27, 46, 47, 48, 49, 50, 51, 52, 53, 54, 55, 56, 57, 58, 59, 60, 61, 62, 63, 64, 65, 66, 67, 68, 69, 70, 71, 72, 73, 74, 75, 76, 77, 78, 79, 80, 81, 82, 83, 84, 85, 86, 87, 88, 89, 90, 91, 92, 93, 94, 95, 96, 97, 98, 99, 100, 101, 102, 103, 104, 105, 106, 107, 108, 109, 110, 111, 112, 113, 114, 115, 116, 117, 118, 119, 120, 121, 122, 123, 124, 125, 126, 127, 128, 129, 130, 131, 132, 133, 134, 135, 136, 137, 138, 139, 140, 141, 142, 143, 144, 145, 146, 147, 148, 149, 150, 151, 152, 153, 154, 155, 156, 157, 158, 159, 160, 161, 162, 163, 164, 165, 166] (by decide +kernel) (by decide +kernel)
set_option maxRecDepth 20000 in
theorem gX6_readsText_X6_readsLine : GoodIn wsX6_readsText (wsV RX6 177 RX6 yX6_readsLine wsX6_readsLine) := goodIn_app (goodIn_of _ (by decide +kernel)) ggX6_readsText_X6_readsLine
set_option maxRecDepth 20000 in
theorem ggX6_append_X6_refuse : GoodIn wsX6_append wsX6_refuse := goodIn_r _ [6, 7, 17, 18, 19, 20, 21, 22, 23, 24, 25, 26, 27, 28, 29, 30, 31, 32, 33, 34, 35, 36, 37] (by decide +kernel) (by decide +kernel)
set_option maxRecDepth 20000 in
theorem gX6_append_X6_refuse : GoodIn wsX6_append (wsV RX6 183 RX6 yX6_refuse wsX6_refuse) := goodIn_app (goodIn_of _ (by decide +kernel)) ggX6_append_X6_refuse
set_option maxRecDepth 20000 in
theorem ggX6_append_X6_feeds : GoodIn wsX6_append wsX6_feeds := goodIn_r _ [11, 12, 1, 17, 18, 19, 20, 21, 22, 23, 24, 25, 26, 27, 28, 29, 30, 31, 32, 33, 34, 35, 36, 37] (by decide +kernel) (by decide +kernel)
set_option maxRecDepth 20000 in
theorem gX6_append_X6_feeds : GoodIn wsX6_append (wsV RX6 186 RX6 yX6_feeds wsX6_feeds) := goodIn_app (goodIn_of _ (by decide +kernel)) ggX6_append_X6_feeds
set_option maxRecDepth 20000 in
theorem ggX6_append_X6_told : GoodIn wsX6_append wsX6_told := goodIn_r _ [16, 7, 17, 18, 19, 20, 21, 22, 23, 24, 25, 26, 27, 28, 29, 30, 31, 32, 33, 34, 35, 36, 37] (by decide +kernel) (by decide +kernel)
set_option maxRecDepth 20000 in
theorem gX6_append_X6_told : GoodIn wsX6_append (wsV RX6 189 RX6 yX6_told wsX6_told) := goodIn_app (goodIn_of _ (by decide +kernel)) ggX6_append_X6_told
set_option maxRecDepth 20000 in
theorem ggX6_load_X6_in : GoodIn wsX6_load wsX6_in := goodIn_r _ [12] (by decide +kernel) (by decide +kernel)
set_option maxRecDepth 20000 in
theorem gX6_load_X6_in : GoodIn wsX6_load (va_wsS RX6 54 yX6_in wsX6_in) := goodIn_app (goodIn_of _ (by decide +kernel)) ggX6_load_X6_in
set_option maxRecDepth 20000 in
theorem ggX6_load_X6_refuse : GoodIn wsX6_load wsX6_refuse := goodIn_r _ [16, 17, 173, 174, 175, 176, 177, 178, 179, 180, 181, 182, 183, 184, 185, 186, 187, 188, 189, 190, 191, 192, 193] (by decide +kernel) (by decide +kernel)
set_option maxRecDepth 20000 in
theorem gX6_load_X6_refuse : GoodIn wsX6_load (wsV RX6 183 RX6 yX6_refuse wsX6_refuse) := goodIn_app (goodIn_of _ (by decide +kernel)) ggX6_load_X6_refuse
set_option maxRecDepth 20000 in
theorem ggX6_load_X6_putsAside : GoodIn wsX6_load wsX6_putsAside := goodIn_r _ [21, 22, 8, 173, 174, 175, 176, 177, 178, 179, 180, 181, 182, 183, 184, 185, 186, 187, 188, 189, 190, 191, 192, 193] (by decide +kernel) (by decide +kernel)
set_option maxRecDepth 20000 in
theorem gX6_load_X6_putsAside : GoodIn wsX6_load (wsV RX6 192 RX6 yX6_putsAside wsX6_putsAside) := goodIn_app (goodIn_of _ (by decide +kernel)) ggX6_load_X6_putsAside
set_option maxRecDepth 20000 in
theorem ggX6_load_X6_readsText : GoodIn wsX6_load wsX6_readsText := goodIn_r _ [26, 8, 27, 2, 28, 29, 30, 31, 32, 11, 33, 34, 35, 36, 37, 38, 39, 40, 41, 42, 43, 44, 45, 46, 47, 48, 49, 50, 51, 52, 53, 54, 55, 56, 57, 58, 59, 4, 60, 61, 62, 63, 64, 65, 66, 67, 68, 69, 70, 71, 72, 73, 74, 75, 9, 10, 12, 76, 77, 78, 79, 80, 81, 82, 83, 84, 85, 86, 87, 88, 89, 90, 91, 92, 93, 94, 95, 96, 97, 98, 99, 100, 101, 102, 103, 104, 105, 106, 107, 108, 109, 110, 111, 112, 113, 114, 115, 116, 117, 118, 119, 120, 121, 122, 123, 124, 125, 126, 127, 128, 129, 130, 131, 132, 133, 134, 135, 136, 137, 138, 139, 140, 141, 142, 143, 144, 145, 146, 147, 148, 149, 150, 151, 152, 153, 154, 155, 156, 157, 158, 159, 160, 161, 162, 163, 164, 173, 174, 175, 176, 177, 178, 179, 180, 181, 182, 183, 184, 185, 186, 187, 188, 189, 190, 191, 192, 193] (by decide +kernel) (by decide +kernel)
set_option maxRecDepth 20000 in
theorem gX6_load_X6_readsText : GoodIn wsX6_load (wsV RX6 195 RX6 yX6_readsText wsX6_readsText) := goodIn_app (goodIn_of _ (by decide +kernel)) ggX6_load_X6_readsText
set_option maxRecDepth 20000 in
theorem ggX6_load_X6_putsBack : GoodIn wsX6_load wsX6_putsBack := goodIn_r _ [168, 8, 22, 173, 174, 175, 176, 177, 178, 179, 180, 181, 182, 183, 184, 185, 186, 187, 188, 189, 190, 191, 192, 193] (by decide +kernel) (by decide +kernel)
set_option maxRecDepth 20000 in
theorem gX6_load_X6_putsBack : GoodIn wsX6_load (wsV RX6 201 RX6 yX6_putsBack wsX6_putsBack) := goodIn_app (goodIn_of _ (by decide +kernel)) ggX6_load_X6_putsBack
set_option maxRecDepth 20000 in
theorem ggX6_load_X6_told : GoodIn wsX6_load wsX6_told := goodIn_r _ [172, 17, 173, 174, 175, 176, 177, 178, 179, 180, 181, 182, 183, 184, 185, 186, 187, 188, 189, 190, 191, 192, 193] (by decide +kernel) (by decide +kernel)
set_option maxRecDepth 20000 in
theorem gX6_load_X6_told : GoodIn wsX6_load (wsV RX6 189 RX6 yX6_told wsX6_told) := goodIn_app (goodIn_of _ (by decide +kernel)) ggX6_load_X6_told
set_option maxRecDepth 20000 in
theorem ggX6_errorKind_X6_told : GoodIn wsX6_errorKind wsX6_told := goodIn_r _ [6, 7, 8, 9, 10, 11, 12, 13, 14, 15, 16, 17, 18, 19, 20, 21, 22, 23, 24, 25, 26, 27, 28] (by decide +kernel) (by decide +kernel)
set_option maxRecDepth 20000 in
theorem gX6_errorKind_X6_told : GoodIn wsX6_errorKind (wsV RX6 189 RX6 yX6_told wsX6_told) := goodIn_app (goodIn_of _ (by decide +kernel)) ggX6_errorKind_X6_told
set_option maxRecDepth 20000 in
theorem ggX6_errorOffset_X6_told : GoodIn wsX6_errorOffset wsX6_told := goodIn_r _ [6, 7, 8, 9, 10, 11, 12, 13, 14, 15, 16, 17, 18, 19, 20, 21, 22, 23, 24, 25, 26, 27, 28] (by decide +kernel) (by decide +kernel)
set_option maxRecDepth 20000 in
theorem gX6_errorOffset_X6_told : GoodIn wsX6_errorOffset (wsV RX6 189 RX6 yX6_told wsX6_told) := goodIn_app (goodIn_of _ (by decide +kernel)) ggX6_errorOffset_X6_told
set_option maxRecDepth 20000 in
theorem ggX6_tick_X6_told : GoodIn wsX6_tick wsX6_told := goodIn_r _ [6, 7, 8, 9, 10, 11, 12, 13, 14, 15, 16, 17, 18, 19, 20, 21, 22, 23, 24, 25, 26, 27, 28] (by decide +kernel) (by decide +kernel)
set_option maxRecDepth 20000 in
theorem gX6_tick_X6_told : GoodIn wsX6_tick (wsV RX6 189 RX6 yX6_told wsX6_told) := goodIn_app (goodIn_of _ (by decide +kernel)) ggX6_tick_X6_told
set_option maxRecDepth 20000 in
theorem ggX6_blockCount_X6_told : GoodIn wsX6_blockCount wsX6_told := goodIn_r _ [6, 7, 8, 9, 10, 11, 12, 13, 14, 15, 16, 17, 18, 19, 20, 21, 22, 23, 24, 25, 26, 27, 28] (by decide +kernel) (by decide +kernel)
set_option maxRecDepth 20000 in
theorem gX6_blockCount_X6_told : GoodIn wsX6_blockCount (wsV RX6 189 RX6 yX6_told wsX6_told) := goodIn_app (goodIn_of _ (by decide +kernel)) ggX6_blockCount_X6_told
set_option maxRecDepth 20000 in
theorem ggX6_lengthOf_X6_isBlock : GoodIn wsX6_lengthOf wsX6_isBlock := goodIn_r _ [6, 1, 7, 8, 5, 9, 22, 23, 24, 25, 26, 27, 28, 29, 30, 31, 32, 33, 34, 35, 36, 37, 38, 39, 40, 41, 42] (by decide +kernel) (by decide +kernel)
set_option maxRecDepth 20000 in
theorem gX6_lengthOf_X6_isBlock : GoodIn wsX6_lengthOf (wsV RX6 207 RX6 yX6_isBlock wsX6_isBlock) := goodIn_app (goodIn_of _ (by decide +kernel)) ggX6_lengthOf_X6_isBlock
set_option maxRecDepth 20000 in
theorem ggX6_lengthOf_X6_refuse : GoodIn wsX6_lengthOf wsX6_refuse := goodIn_r _ [13, 14, 22, 23, 24, 25, 26, 27, 28, 29, 30, 31, 32, 33, 34, 35, 36, 37, 38, 39, 40, 41, 42] (by decide +kernel) (by decide +kernel)
set_option maxRecDepth 20000 in
theorem gX6_lengthOf_X6_refuse : GoodIn wsX6_lengthOf (wsV RX6 183 RX6 yX6_refuse wsX6_refuse) := goodIn_app (goodIn_of _ (by decide +kernel)) ggX6_lengthOf_X6_refuse
set_option maxRecDepth 20000 in
theorem ggX6_lengthOf_X6_b : GoodIn wsX6_lengthOf wsX6_b := goodIn_r _ [17] (by decide +kernel) (by decide +kernel)
set_option maxRecDepth 20000 in
theorem gX6_lengthOf_X6_b : GoodIn wsX6_lengthOf (va_wsS RX6 44 yX6_b wsX6_b) := goodIn_app (goodIn_of _ (by decide +kernel)) ggX6_lengthOf_X6_b
set_option maxRecDepth 20000 in
theorem ggX6_lengthOf_X6_told : GoodIn wsX6_lengthOf wsX6_told := goodIn_r _ [21, 14, 22, 23, 24, 25, 26, 27, 28, 29, 30, 31, 32, 33, 34, 35, 36, 37, 38, 39, 40, 41, 42] (by decide +kernel) (by decide +kernel)
set_option maxRecDepth 20000 in
theorem gX6_lengthOf_X6_told : GoodIn wsX6_lengthOf (wsV RX6 189 RX6 yX6_told wsX6_told) := goodIn_app (goodIn_of _ (by decide +kernel)) ggX6_lengthOf_X6_told
set_option maxRecDepth 20000 in
theorem ggX6_depthOf_X6_isBlock : GoodIn wsX6_depthOf wsX6_isBlock := goodIn_r _ [6, 1, 7, 8, 5, 9, 22, 23, 24, 25, 26, 27, 28, 29, 30, 31, 32, 33, 34, 35, 36, 37, 38, 39, 40, 41, 42] (by decide +kernel) (by decide +kernel)
set_option maxRecDepth 20000 in
theorem gX6_depthOf_X6_isBlock : GoodIn wsX6_depthOf (wsV RX6 207 RX6 yX6_isBlock wsX6_isBlock) := goodIn_app (goodIn_of _ (by decide +kernel)) ggX6_depthOf_X6_isBlock
set_option maxRecDepth 20000 in
theorem ggX6_depthOf_X6_refuse : GoodIn wsX6_depthOf wsX6_refuse := goodIn_r _ [13, 14, 22, 23, 24, 25, 26, 27, 28, 29, 30, 31, 32, 33, 34, 35, 36, 37, 38, 39, 40, 41, 42] (by decide +kernel) (by decide +kernel)
set_option maxRecDepth 20000 in
theorem gX6_depthOf_X6_refuse : GoodIn wsX6_depthOf (wsV RX6 183 RX6 yX6_refuse wsX6_refuse) := goodIn_app (goodIn_of _ (by decide +kernel)) ggX6_depthOf_X6_refuse
set_option maxRecDepth 20000 in
theorem ggX6_depthOf_X6_b : GoodIn wsX6_depthOf wsX6_b := goodIn_r _ [17] (by decide +kernel) (by decide +kernel)
set_option maxRecDepth 20000 in
theorem gX6_depthOf_X6_b : GoodIn wsX6_depthOf (va_wsS RX6 44 yX6_b wsX6_b) := goodIn_app (goodIn_of _ (by decide +kernel)) ggX6_depthOf_X6_b
set_option maxRecDepth 20000 in
theorem ggX6_depthOf_X6_told : GoodIn wsX6_depthOf wsX6_told := goodIn_r _ [21, 14, 22, 23, 24, 25, 26, 27, 28, 29, 30, 31, 32, 33, 34, 35, 36, 37, 38, 39, 40, 41, 42] (by decide +kernel) (by decide +kernel)
set_option maxRecDepth 20000 in
theorem gX6_depthOf_X6_told : GoodIn wsX6_depthOf (wsV RX6 189 RX6 yX6_told wsX6_told) := goodIn_app (goodIn_of _ (by decide +kernel)) ggX6_depthOf_X6_told
set_option maxRecDepth 20000 in
theorem ggX6_isBend_X6_isBlock : GoodIn wsX6_isBend wsX6_isBlock := goodIn_r _ [6, 1, 7, 8, 5, 9, 22, 23, 24, 25, 26, 27, 28, 29, 30, 31, 32, 33, 34, 35, 36, 37, 38, 39, 40, 41, 42] (by decide +kernel) (by decide +kernel)
set_option maxRecDepth 20000 in
theorem gX6_isBend_X6_isBlock : GoodIn wsX6_isBend (wsV RX6 207 RX6 yX6_isBlock wsX6_isBlock) := goodIn_app (goodIn_of _ (by decide +kernel)) ggX6_isBend_X6_isBlock
set_option maxRecDepth 20000 in
theorem ggX6_isBend_X6_refuses : GoodIn wsX6_isBend wsX6_refuses := goodIn_r _ [13, 14, 22, 23, 24, 25, 26, 27, 28, 29, 30, 31, 32, 33, 34, 35, 36, 37, 38, 39, 40, 41, 42] (by decide +kernel) (by decide +kernel)
set_option maxRecDepth 20000 in
theorem gX6_isBend_X6_refuses : GoodIn wsX6_isBend (wsV RX6 210 RX6 yX6_refuses wsX6_refuses) := goodIn_app (goodIn_of _ (by decide +kernel)) ggX6_isBend_X6_refuses
set_option maxRecDepth 20000 in
theorem ggX6_isBend_X6_b : GoodIn wsX6_isBend wsX6_b := goodIn_r _ [17] (by decide +kernel) (by decide +kernel)
set_option maxRecDepth 20000 in
theorem gX6_isBend_X6_b : GoodIn wsX6_isBend (va_wsS RX6 44 yX6_b wsX6_b) := goodIn_app (goodIn_of _ (by decide +kernel)) ggX6_isBend_X6_b
set_option maxRecDepth 20000 in
theorem ggX6_isBend_X6_says : GoodIn wsX6_isBend wsX6_says := goodIn_r _ [21, 14, 22, 23, 24, 25, 26, 27, 28, 29, 30, 31, 32, 33, 34, 35, 36, 37, 38, 39, 40, 41, 42] (by decide +kernel) (by decide +kernel)
set_option maxRecDepth 20000 in
theorem gX6_isBend_X6_says : GoodIn wsX6_isBend (wsV RX6 214 RX6 yX6_says wsX6_says) := goodIn_app (goodIn_of _ (by decide +kernel)) ggX6_isBend_X6_says
set_option maxRecDepth 20000 in
theorem ggX6_limitOf_X6_isBlock : GoodIn wsX6_limitOf wsX6_isBlock := goodIn_r _ [6, 1, 7, 8, 5, 9, 22, 23, 24, 25, 26, 27, 28, 29, 30, 31, 32, 33, 34, 35, 36, 37, 38, 39, 40, 41, 42] (by decide +kernel) (by decide +kernel)
set_option maxRecDepth 20000 in
theorem gX6_limitOf_X6_isBlock : GoodIn wsX6_limitOf (wsV RX6 207 RX6 yX6_isBlock wsX6_isBlock) := goodIn_app (goodIn_of _ (by decide +kernel)) ggX6_limitOf_X6_isBlock
set_option maxRecDepth 20000 in
theorem ggX6_limitOf_X6_refuse : GoodIn wsX6_limitOf wsX6_refuse := goodIn_r _ [13, 14, 22, 23, 24, 25, 26, 27, 28, 29, 30, 31, 32, 33, 34, 35, 36, 37, 38, 39, 40, 41, 42] (by decide +kernel) (by decide +kernel)
set_option maxRecDepth 20000 in
theorem gX6_limitOf_X6_refuse : GoodIn wsX6_limitOf (wsV RX6 183 RX6 yX6_refuse wsX6_refuse) := goodIn_app (goodIn_of _ (by decide +kernel)) ggX6_limitOf_X6_refuse
set_option maxRecDepth 20000 in
theorem ggX6_limitOf_X6_b : GoodIn wsX6_limitOf wsX6_b := goodIn_r _ [17] (by decide +kernel) (by decide +kernel)
set_option maxRecDepth 20000 in
theorem gX6_limitOf_X6_b : GoodIn wsX6_limitOf (va_wsS RX6 44 yX6_b wsX6_b) := goodIn_app (goodIn_of _ (by decide +kernel)) ggX6_limitOf_X6_b
set_option maxRecDepth 20000 in
theorem ggX6_limitOf_X6_told : GoodIn wsX6_limitOf wsX6_told := goodIn_r _ [21, 14, 22, 23, 24, 25, 26, 27, 28, 29, 30, 31, 32, 33, 34, 35, 36, 37, 38, 39, 40, 41, 42] (by decide +kernel) (by decide +kernel)
set_option maxRecDepth 20000 in
theorem gX6_limitOf_X6_told : GoodIn wsX6_limitOf (wsV RX6 189 RX6 yX6_told wsX6_told) := goodIn_app (goodIn_of _ (by decide +kernel)) ggX6_limitOf_X6_told
set_option maxRecDepth 20000 in
theorem ggX6_isClear_X6_isBlock : GoodIn wsX6_isClear wsX6_isBlock := goodIn_r _ [6, 1, 7, 8, 5, 9, 22, 23, 24, 25, 26, 27, 28, 29, 30, 31, 32, 33, 34, 35, 36, 37, 38, 39, 40, 41, 42] (by decide +kernel) (by decide +kernel)
set_option maxRecDepth 20000 in
theorem gX6_isClear_X6_isBlock : GoodIn wsX6_isClear (wsV RX6 207 RX6 yX6_isBlock wsX6_isBlock) := goodIn_app (goodIn_of _ (by decide +kernel)) ggX6_isClear_X6_isBlock
set_option maxRecDepth 20000 in
theorem ggX6_isClear_X6_refuses : GoodIn wsX6_isClear wsX6_refuses := goodIn_r _ [13, 14, 22, 23, 24, 25, 26, 27, 28, 29, 30, 31, 32, 33, 34, 35, 36, 37, 38, 39, 40, 41, 42] (by decide +kernel) (by decide +kernel)
set_option maxRecDepth 20000 in
theorem gX6_isClear_X6_refuses : GoodIn wsX6_isClear (wsV RX6 210 RX6 yX6_refuses wsX6_refuses) := goodIn_app (goodIn_of _ (by decide +kernel)) ggX6_isClear_X6_refuses
set_option maxRecDepth 20000 in
theorem ggX6_isClear_X6_b : GoodIn wsX6_isClear wsX6_b := goodIn_r _ [17] (by decide +kernel) (by decide +kernel)
set_option maxRecDepth 20000 in
theorem gX6_isClear_X6_b : GoodIn wsX6_isClear (va_wsS RX6 44 yX6_b wsX6_b) := goodIn_app (goodIn_of _ (by decide +kernel)) ggX6_isClear_X6_b
set_option maxRecDepth 20000 in
theorem ggX6_isClear_X6_says : GoodIn wsX6_isClear wsX6_says := goodIn_r _ [21, 14, 22, 23, 24, 25, 26, 27, 28, 29, 30, 31, 32, 33, 34, 35, 36, 37, 38, 39, 40, 41, 42] (by decide +kernel) (by decide +kernel)
set_option maxRecDepth 20000 in
theorem gX6_isClear_X6_says : GoodIn wsX6_isClear (wsV RX6 214 RX6 yX6_says wsX6_says) := goodIn_app (goodIn_of _ (by decide +kernel)) ggX6_isClear_X6_says
set_option maxRecDepth 20000 in
theorem ggX6_trainIn_X6_isBlock : GoodIn wsX6_trainIn wsX6_isBlock := goodIn_r _ [5, 6, 7, 8, 4, 9, 26, 27, 28, 29, 30, 31, 32, 33, 34, 35, 36, 37, 38, 39, 40, 41, 42, 43, 44, 45, 46] (by decide +kernel) (by decide +kernel)
set_option maxRecDepth 20000 in
theorem gX6_trainIn_X6_isBlock : GoodIn wsX6_trainIn (wsV RX6 207 RX6 yX6_isBlock wsX6_isBlock) := goodIn_app (goodIn_of _ (by decide +kernel)) ggX6_trainIn_X6_isBlock
set_option maxRecDepth 20000 in
theorem ggX6_trainIn_X6_refuse : GoodIn wsX6_trainIn wsX6_refuse := goodIn_r _ [13, 14, 26, 27, 28, 29, 30, 31, 32, 33, 34, 35, 36, 37, 38, 39, 40, 41, 42, 43, 44, 45, 46] (by decide +kernel) (by decide +kernel)
set_option maxRecDepth 20000 in
theorem gX6_trainIn_X6_refuse : GoodIn wsX6_trainIn (wsV RX6 183 RX6 yX6_refuse wsX6_refuse) := goodIn_app (goodIn_of _ (by decide +kernel)) ggX6_trainIn_X6_refuse
set_option maxRecDepth 20000 in
theorem ggX6_trainIn_X6_trainAt : GoodIn wsX6_trainIn wsX6_trainAt := goodIn_r _ [18, 6, 19, 20, 4, 21, 26, 27, 28, 29, 30, 31, 32, 33, 34, 35, 36, 37, 38, 39, 40, 41, 42, 43, 44, 45, 46] (by decide +kernel) (by decide +kernel)
set_option maxRecDepth 20000 in
theorem gX6_trainIn_X6_trainAt : GoodIn wsX6_trainIn (wsV RX6 61 RX6 yX6_trainAt wsX6_trainAt) := goodIn_app (goodIn_of _ (by decide +kernel)) ggX6_trainIn_X6_trainAt
set_option maxRecDepth 20000 in
theorem ggX6_trainIn_X6_told : GoodIn wsX6_trainIn wsX6_told := goodIn_r _ [25, 14, 26, 27, 28, 29, 30, 31, 32, 33, 34, 35, 36, 37, 38, 39, 40, 41, 42, 43, 44, 45, 46] (by decide +kernel) (by decide +kernel)
set_option maxRecDepth 20000 in
theorem gX6_trainIn_X6_told : GoodIn wsX6_trainIn (wsV RX6 189 RX6 yX6_told wsX6_told) := goodIn_app (goodIn_of _ (by decide +kernel)) ggX6_trainIn_X6_told
set_option maxRecDepth 20000 in
theorem ggX6_lostIn_X6_isBlock : GoodIn wsX6_lostIn wsX6_isBlock := goodIn_r _ [6, 1, 7, 8, 5, 9, 22, 23, 24, 25, 26, 27, 28, 29, 30, 31, 32, 33, 34, 35, 36, 37, 38, 39, 40, 41, 42] (by decide +kernel) (by decide +kernel)
set_option maxRecDepth 20000 in
theorem gX6_lostIn_X6_isBlock : GoodIn wsX6_lostIn (wsV RX6 207 RX6 yX6_isBlock wsX6_isBlock) := goodIn_app (goodIn_of _ (by decide +kernel)) ggX6_lostIn_X6_isBlock
set_option maxRecDepth 20000 in
theorem ggX6_lostIn_X6_refuse : GoodIn wsX6_lostIn wsX6_refuse := goodIn_r _ [13, 14, 22, 23, 24, 25, 26, 27, 28, 29, 30, 31, 32, 33, 34, 35, 36, 37, 38, 39, 40, 41, 42] (by decide +kernel) (by decide +kernel)
set_option maxRecDepth 20000 in
theorem gX6_lostIn_X6_refuse : GoodIn wsX6_lostIn (wsV RX6 183 RX6 yX6_refuse wsX6_refuse) := goodIn_app (goodIn_of _ (by decide +kernel)) ggX6_lostIn_X6_refuse
set_option maxRecDepth 20000 in
theorem ggX6_lostIn_X6_b : GoodIn wsX6_lostIn wsX6_b := goodIn_r _ [17] (by decide +kernel) (by decide +kernel)
set_option maxRecDepth 20000 in
theorem gX6_lostIn_X6_b : GoodIn wsX6_lostIn (va_wsS RX6 44 yX6_b wsX6_b) := goodIn_app (goodIn_of _ (by decide +kernel)) ggX6_lostIn_X6_b
set_option maxRecDepth 20000 in
theorem ggX6_lostIn_X6_told : GoodIn wsX6_lostIn wsX6_told := goodIn_r _ [21, 14, 22, 23, 24, 25, 26, 27, 28, 29, 30, 31, 32, 33, 34, 35, 36, 37, 38, 39, 40, 41, 42] (by decide +kernel) (by decide +kernel)
set_option maxRecDepth 20000 in
theorem gX6_lostIn_X6_told : GoodIn wsX6_lostIn (wsV RX6 189 RX6 yX6_told wsX6_told) := goodIn_app (goodIn_of _ (by decide +kernel)) ggX6_lostIn_X6_told
set_option maxRecDepth 20000 in
theorem ggX6_departuresFrom_X6_isBlock : GoodIn wsX6_departuresFrom wsX6_isBlock := goodIn_r _ [6, 1, 7, 8, 5, 9, 22, 23, 24, 25, 26, 27, 28, 29, 30, 31, 32, 33, 34, 35, 36, 37, 38, 39, 40, 41, 42] (by decide +kernel) (by decide +kernel)
set_option maxRecDepth 20000 in
theorem gX6_departuresFrom_X6_isBlock : GoodIn wsX6_departuresFrom (wsV RX6 207 RX6 yX6_isBlock wsX6_isBlock) := goodIn_app (goodIn_of _ (by decide +kernel)) ggX6_departuresFrom_X6_isBlock
set_option maxRecDepth 20000 in
theorem ggX6_departuresFrom_X6_refuse : GoodIn wsX6_departuresFrom wsX6_refuse := goodIn_r _ [13, 14, 22, 23, 24, 25, 26, 27, 28, 29, 30, 31, 32, 33, 34, 35, 36, 37, 38, 39, 40, 41, 42] (by decide +kernel) (by decide +kernel)
set_option maxRecDepth 20000 in
theorem gX6_departuresFrom_X6_refuse : GoodIn wsX6_departuresFrom (wsV RX6 183 RX6 yX6_refuse wsX6_refuse) := goodIn_app (goodIn_of _ (by decide +kernel)) ggX6_departuresFrom_X6_refuse
set_option maxRecDepth 20000 in
theorem ggX6_departuresFrom_X6_passed : GoodIn wsX6_departuresFrom wsX6_passed := goodIn_r _ [17] (by decide +kernel) (by decide +kernel)
set_option maxRecDepth 20000 in
theorem gX6_departuresFrom_X6_passed : GoodIn wsX6_departuresFrom (va_wsS RX6 74 yX6_passed wsX6_passed) := goodIn_app (goodIn_of _ (by decide +kernel)) ggX6_departuresFrom_X6_passed
set_option maxRecDepth 20000 in
theorem ggX6_departuresFrom_X6_told : GoodIn wsX6_departuresFrom wsX6_told := goodIn_r _ [21, 14, 22, 23, 24, 25, 26, 27, 28, 29, 30, 31, 32, 33, 34, 35, 36, 37, 38, 39, 40, 41, 42] (by decide +kernel) (by decide +kernel)
set_option maxRecDepth 20000 in
theorem gX6_departuresFrom_X6_told : GoodIn wsX6_departuresFrom (wsV RX6 189 RX6 yX6_told wsX6_told) := goodIn_app (goodIn_of _ (by decide +kernel)) ggX6_departuresFrom_X6_told
set_option maxRecDepth 20000 in
theorem ggX6_obstacle_X6_isBlock : GoodIn wsX6_obstacle wsX6_isBlock := goodIn_r _ [5, 6, 7, 8, 4, 9, 41, 42, 43, 44, 45, 46, 47, 48, 49, 50, 51, 52, 53, 54, 55, 56, 57, 58, 59, 60, 61] (by decide +kernel) (by decide +kernel)
set_option maxRecDepth 20000 in
theorem gX6_obstacle_X6_isBlock : GoodIn wsX6_obstacle (wsV RX6 207 RX6 yX6_isBlock wsX6_isBlock) := goodIn_app (goodIn_of _ (by decide +kernel)) ggX6_obstacle_X6_isBlock
set_option maxRecDepth 20000 in
theorem ggX6_obstacle_X6_refuse : GoodIn wsX6_obstacle wsX6_refuse := goodIn_r _ [13, 14, 41, 42, 43, 44, 45, 46, 47, 48, 49, 50, 51, 52, 53, 54, 55, 56, 57, 58, 59, 60, 61] (by decide +kernel) (by decide +kernel)
set_option maxRecDepth 20000 in
theorem gX6_obstacle_X6_refuse : GoodIn wsX6_obstacle (wsV RX6 183 RX6 yX6_refuse wsX6_refuse) := goodIn_app (goodIn_of _ (by decide +kernel)) ggX6_obstacle_X6_refuse
set_option maxRecDepth 20000 in
theorem ggX6_obstacle_X6_reason : GoodIn wsX6_obstacle wsX6_reason := goodIn_r _ [18, 6, 19, 20, 21, 4, 22, 23, 24, 25, 26, 27, 28, 29, 30, 31, 32, 33, 34, 35, 36, 41, 42, 43, 44, 45, 46, 47, 48, 49, 50, 51, 52, 53, 54, 55, 56, 57, 58, 59, 60, 61] (by decide +kernel) (by decide +kernel)
set_option maxRecDepth 20000 in
theorem gX6_obstacle_X6_reason : GoodIn wsX6_obstacle (wsV RX6 156 RX6 yX6_reason wsX6_reason) := goodIn_app (goodIn_of _ (by decide +kernel)) ggX6_obstacle_X6_reason
set_option maxRecDepth 20000 in
theorem ggX6_obstacle_X6_told : GoodIn wsX6_obstacle wsX6_told := goodIn_r _ [40, 14, 41, 42, 43, 44, 45, 46, 47, 48, 49, 50, 51, 52, 53, 54, 55, 56, 57, 58, 59, 60, 61] (by decide +kernel) (by decide +kernel)
set_option maxRecDepth 20000 in
theorem gX6_obstacle_X6_told : GoodIn wsX6_obstacle (wsV RX6 189 RX6 yX6_told wsX6_told) := goodIn_app (goodIn_of _ (by decide +kernel)) ggX6_obstacle_X6_told
set_option maxRecDepth 20000 in
theorem ggX6_freeLevers_X6_reason : GoodIn wsX6_freeLevers wsX6_reason := goodIn_r _ [6, 1, 7, 8, 9, 5, 10, 11, 12, 13, 14, 15, 16, 17, 18, 19, 20, 21, 22, 23, 24, 30, 31, 32, 33, 34, 35, 36, 37, 38, 39, 40, 41, 42, 43, 44, 45, 46, 47, 48, 49, 50] (by decide +kernel) (by decide +kernel)
set_option maxRecDepth 20000 in
theorem gX6_freeLevers_X6_reason : GoodIn wsX6_freeLevers (wsV RX6 156 RX6 yX6_reason wsX6_reason) := goodIn_app (goodIn_of _ (by decide +kernel)) ggX6_freeLevers_X6_reason
set_option maxRecDepth 20000 in
theorem ggX6_freeLevers_X6_told : GoodIn wsX6_freeLevers wsX6_told := goodIn_r _ [28, 29, 30, 31, 32, 33, 34, 35, 36, 37, 38, 39, 40, 41, 42, 43, 44, 45, 46, 47, 48, 49, 50] (by decide +kernel) (by decide +kernel)
set_option maxRecDepth 20000 in
theorem gX6_freeLevers_X6_told : GoodIn wsX6_freeLevers (wsV RX6 189 RX6 yX6_told wsX6_told) := goodIn_app (goodIn_of _ (by decide +kernel)) ggX6_freeLevers_X6_told
set_option maxRecDepth 20000 in
theorem ggX6_emptyBlocks_X6_isOccupied : GoodIn wsX6_emptyBlocks wsX6_isOccupied := goodIn_r _ [6, 1, 7, 8, 9, 5, 10, 11, 12, 13, 14, 15, 16, 22, 23, 24, 25, 26, 27, 28, 29, 30, 31, 32, 33, 34, 35, 36, 37, 38, 39, 40, 41, 42] (by decide +kernel) (by decide +kernel)
set_option maxRecDepth 20000 in
theorem gX6_emptyBlocks_X6_isOccupied : GoodIn wsX6_emptyBlocks (wsV RX6 67 RX6 yX6_isOccupied wsX6_isOccupied) := goodIn_app (goodIn_of _ (by decide +kernel)) ggX6_emptyBlocks_X6_isOccupied
set_option maxRecDepth 20000 in
theorem ggX6_emptyBlocks_X6_told : GoodIn wsX6_emptyBlocks wsX6_told := goodIn_r _ [20, 21, 22, 23, 24, 25, 26, 27, 28, 29, 30, 31, 32, 33, 34, 35, 36, 37, 38, 39, 40, 41, 42] (by decide +kernel) (by decide +kernel)
set_option maxRecDepth 20000 in
theorem gX6_emptyBlocks_X6_told : GoodIn wsX6_emptyBlocks (wsV RX6 189 RX6 yX6_told wsX6_told) := goodIn_app (goodIn_of _ (by decide +kernel)) ggX6_emptyBlocks_X6_told
set_option maxRecDepth 20000 in
theorem ggX6_deepestBlock_X6_b : GoodIn wsX6_deepestBlock wsX6_b := goodIn_r _ [5] (by decide +kernel) (by decide +kernel)
set_option maxRecDepth 20000 in
theorem gX6_deepestBlock_X6_b : GoodIn wsX6_deepestBlock (va_wsS RX6 44 yX6_b wsX6_b) := goodIn_app (goodIn_of _ (by decide +kernel)) ggX6_deepestBlock_X6_b
set_option maxRecDepth 20000 in
theorem ggX6_deepestBlock_X6_told : GoodIn wsX6_deepestBlock wsX6_told := goodIn_r _ [9, 10, 11, 12, 13, 14, 15, 16, 17, 18, 19, 20, 21, 22, 23, 24, 25, 26, 27, 28, 29, 30, 31] (by decide +kernel) (by decide +kernel)
set_option maxRecDepth 20000 in
theorem gX6_deepestBlock_X6_told : GoodIn wsX6_deepestBlock (wsV RX6 189 RX6 yX6_told wsX6_told) := goodIn_app (goodIn_of _ (by decide +kernel)) ggX6_deepestBlock_X6_told
set_option maxRecDepth 20000 in
theorem ggX6_isFirstDepth_X6_b : GoodIn wsX6_isFirstDepth wsX6_b := goodIn_r _ [5] (by decide +kernel) (by decide +kernel)
set_option maxRecDepth 20000 in
theorem gX6_isFirstDepth_X6_b : GoodIn wsX6_isFirstDepth (va_wsS RX6 44 yX6_b wsX6_b) := goodIn_app (goodIn_of _ (by decide +kernel)) ggX6_isFirstDepth_X6_b
set_option maxRecDepth 20000 in
theorem ggX6_differentDepths_X6_isFirstDepth : GoodIn wsX6_differentDepths wsX6_isFirstDepth := goodIn_r _ [6, 1, 7, 8, 5, 9, 15, 16, 17, 18, 19, 20, 21, 22, 23, 24, 25, 26, 27, 28, 29, 30, 31, 32, 33, 34, 35] (by decide +kernel) (by decide +kernel)
set_option maxRecDepth 20000 in
theorem gX6_differentDepths_X6_isFirstDepth : GoodIn wsX6_differentDepths (wsV RX6 218 RX6 yX6_isFirstDepth wsX6_isFirstDepth) := goodIn_app (goodIn_of _ (by decide +kernel)) ggX6_differentDepths_X6_isFirstDepth
set_option maxRecDepth 20000 in
theorem ggX6_differentDepths_X6_told : GoodIn wsX6_differentDepths wsX6_told := goodIn_r _ [13, 14, 15, 16, 17, 18, 19, 20, 21, 22, 23, 24, 25, 26, 27, 28, 29, 30, 31, 32, 33, 34, 35] (by decide +kernel) (by decide +kernel)
set_option maxRecDepth 20000 in
theorem gX6_differentDepths_X6_told : GoodIn wsX6_differentDepths (wsV RX6 189 RX6 yX6_told wsX6_told) := goodIn_app (goodIn_of _ (by decide +kernel)) ggX6_differentDepths_X6_told
set_option maxRecDepth 20000 in
theorem ggX6_trainCount_X6_told : GoodIn wsX6_trainCount wsX6_told := goodIn_r _ [6, 7, 8, 9, 10, 11, 12, 13, 14, 15, 16, 17, 18, 19, 20, 21, 22, 23, 24, 25, 26, 27, 28] (by decide +kernel) (by decide +kernel)
set_option maxRecDepth 20000 in
theorem gX6_trainCount_X6_told : GoodIn wsX6_trainCount (wsV RX6 189 RX6 yX6_told wsX6_told) := goodIn_app (goodIn_of _ (by decide +kernel)) ggX6_trainCount_X6_told
set_option maxRecDepth 20000 in
theorem ggX6_blockOf_X6_isTrain : GoodIn wsX6_blockOf wsX6_isTrain := goodIn_r _ [6, 1, 7, 8, 5, 9, 22, 23, 24, 25, 26, 27, 28, 29, 30, 31, 32, 33, 34, 35, 36, 37, 38, 39, 40, 41, 42] (by decide +kernel) (by decide +kernel)
set_option maxRecDepth 20000 in
theorem gX6_blockOf_X6_isTrain : GoodIn wsX6_blockOf (wsV RX6 221 RX6 yX6_isTrain wsX6_isTrain) := goodIn_app (goodIn_of _ (by decide +kernel)) ggX6_blockOf_X6_isTrain
set_option maxRecDepth 20000 in
theorem ggX6_blockOf_X6_refuse : GoodIn wsX6_blockOf wsX6_refuse := goodIn_r _ [13, 14, 22, 23, 24, 25, 26, 27, 28, 29, 30, 31, 32, 33, 34, 35, 36, 37, 38, 39, 40, 41, 42] (by decide +kernel) (by decide +kernel)
set_option maxRecDepth 20000 in
theorem gX6_blockOf_X6_refuse : GoodIn wsX6_blockOf (wsV RX6 183 RX6 yX6_refuse wsX6_refuse) := goodIn_app (goodIn_of _ (by decide +kernel)) ggX6_blockOf_X6_refuse
set_option maxRecDepth 20000 in
theorem ggX6_blockOf_X6_t : GoodIn wsX6_blockOf wsX6_t := goodIn_r _ [17] (by decide +kernel) (by decide +kernel)
set_option maxRecDepth 20000 in
theorem gX6_blockOf_X6_t : GoodIn wsX6_blockOf (va_wsS RX6 58 yX6_t wsX6_t) := goodIn_app (goodIn_of _ (by decide +kernel)) ggX6_blockOf_X6_t
set_option maxRecDepth 20000 in
theorem ggX6_blockOf_X6_told : GoodIn wsX6_blockOf wsX6_told := goodIn_r _ [21, 14, 22, 23, 24, 25, 26, 27, 28, 29, 30, 31, 32, 33, 34, 35, 36, 37, 38, 39, 40, 41, 42] (by decide +kernel) (by decide +kernel)
set_option maxRecDepth 20000 in
theorem gX6_blockOf_X6_told : GoodIn wsX6_blockOf (wsV RX6 189 RX6 yX6_told wsX6_told) := goodIn_app (goodIn_of _ (by decide +kernel)) ggX6_blockOf_X6_told
set_option maxRecDepth 20000 in
theorem ggX6_positionOf_X6_isTrain : GoodIn wsX6_positionOf wsX6_isTrain := goodIn_r _ [6, 1, 7, 8, 5, 9, 22, 23, 24, 25, 26, 27, 28, 29, 30, 31, 32, 33, 34, 35, 36, 37, 38, 39, 40, 41, 42] (by decide +kernel) (by decide +kernel)
set_option maxRecDepth 20000 in
theorem gX6_positionOf_X6_isTrain : GoodIn wsX6_positionOf (wsV RX6 221 RX6 yX6_isTrain wsX6_isTrain) := goodIn_app (goodIn_of _ (by decide +kernel)) ggX6_positionOf_X6_isTrain
set_option maxRecDepth 20000 in
theorem ggX6_positionOf_X6_refuse : GoodIn wsX6_positionOf wsX6_refuse := goodIn_r _ [13, 14, 22, 23, 24, 25, 26, 27, 28, 29, 30, 31, 32, 33, 34, 35, 36, 37, 38, 39, 40, 41, 42] (by decide +kernel) (by decide +kernel)
set_option maxRecDepth 20000 in
theorem gX6_positionOf_X6_refuse : GoodIn wsX6_positionOf (wsV RX6 183 RX6 yX6_refuse wsX6_refuse) := goodIn_app (goodIn_of _ (by decide +kernel)) ggX6_positionOf_X6_refuse
set_option maxRecDepth 20000 in
theorem ggX6_positionOf_X6_t : GoodIn wsX6_positionOf wsX6_t := goodIn_r _ [17] (by decide +kernel) (by decide +kernel)
set_option maxRecDepth 20000 in
theorem gX6_positionOf_X6_t : GoodIn wsX6_positionOf (va_wsS RX6 58 yX6_t wsX6_t) := goodIn_app (goodIn_of _ (by decide +kernel)) ggX6_positionOf_X6_t
set_option maxRecDepth 20000 in
theorem ggX6_positionOf_X6_told : GoodIn wsX6_positionOf wsX6_told := goodIn_r _ [21, 14, 22, 23, 24, 25, 26, 27, 28, 29, 30, 31, 32, 33, 34, 35, 36, 37, 38, 39, 40, 41, 42] (by decide +kernel) (by decide +kernel)
set_option maxRecDepth 20000 in
theorem gX6_positionOf_X6_told : GoodIn wsX6_positionOf (wsV RX6 189 RX6 yX6_told wsX6_told) := goodIn_app (goodIn_of _ (by decide +kernel)) ggX6_positionOf_X6_told
set_option maxRecDepth 20000 in
theorem ggX6_wagonsOf_X6_isTrain : GoodIn wsX6_wagonsOf wsX6_isTrain := goodIn_r _ [6, 1, 7, 8, 5, 9, 22, 23, 24, 25, 26, 27, 28, 29, 30, 31, 32, 33, 34, 35, 36, 37, 38, 39, 40, 41, 42] (by decide +kernel) (by decide +kernel)
set_option maxRecDepth 20000 in
theorem gX6_wagonsOf_X6_isTrain : GoodIn wsX6_wagonsOf (wsV RX6 221 RX6 yX6_isTrain wsX6_isTrain) := goodIn_app (goodIn_of _ (by decide +kernel)) ggX6_wagonsOf_X6_isTrain
set_option maxRecDepth 20000 in
theorem ggX6_wagonsOf_X6_refuse : GoodIn wsX6_wagonsOf wsX6_refuse := goodIn_r _ [13, 14, 22, 23, 24, 25, 26, 27, 28, 29, 30, 31, 32, 33, 34, 35, 36, 37, 38, 39, 40, 41, 42] (by decide +kernel) (by decide +kernel)
set_option maxRecDepth 20000 in
theorem gX6_wagonsOf_X6_refuse : GoodIn wsX6_wagonsOf (wsV RX6 183 RX6 yX6_refuse wsX6_refuse) := goodIn_app (goodIn_of _ (by decide +kernel)) ggX6_wagonsOf_X6_refuse
set_option maxRecDepth 20000 in
theorem ggX6_wagonsOf_X6_t : GoodIn wsX6_wagonsOf wsX6_t := goodIn_r _ [17] (by decide +kernel) (by decide +kernel)
set_option maxRecDepth 20000 in
theorem gX6_wagonsOf_X6_t : GoodIn wsX6_wagonsOf (va_wsS RX6 58 yX6_t wsX6_t) := goodIn_app (goodIn_of _ (by decide +kernel)) ggX6_wagonsOf_X6_t
set_option maxRecDepth 20000 in
theorem ggX6_wagonsOf_X6_told : GoodIn wsX6_wagonsOf wsX6_told := goodIn_r _ [21, 14, 22, 23, 24, 25, 26, 27, 28, 29, 30, 31, 32, 33, 34, 35, 36, 37, 38, 39, 40, 41, 42] (by decide +kernel) (by decide +kernel)
set_option maxRecDepth 20000 in
theorem gX6_wagonsOf_X6_told : GoodIn wsX6_wagonsOf (wsV RX6 189 RX6 yX6_told wsX6_told) := goodIn_app (goodIn_of _ (by decide +kernel)) ggX6_wagonsOf_X6_told
set_option maxRecDepth 20000 in
theorem ggX6_topSpeedOf_X6_isTrain : GoodIn wsX6_topSpeedOf wsX6_isTrain := goodIn_r _ [6, 1, 7, 8, 5, 9, 22, 23, 24, 25, 26, 27, 28, 29, 30, 31, 32, 33, 34, 35, 36, 37, 38, 39, 40, 41, 42] (by decide +kernel) (by decide +kernel)
set_option maxRecDepth 20000 in
theorem gX6_topSpeedOf_X6_isTrain : GoodIn wsX6_topSpeedOf (wsV RX6 221 RX6 yX6_isTrain wsX6_isTrain) := goodIn_app (goodIn_of _ (by decide +kernel)) ggX6_topSpeedOf_X6_isTrain
set_option maxRecDepth 20000 in
theorem ggX6_topSpeedOf_X6_refuse : GoodIn wsX6_topSpeedOf wsX6_refuse := goodIn_r _ [13, 14, 22, 23, 24, 25, 26, 27, 28, 29, 30, 31, 32, 33, 34, 35, 36, 37, 38, 39, 40, 41, 42] (by decide +kernel) (by decide +kernel)
set_option maxRecDepth 20000 in
theorem gX6_topSpeedOf_X6_refuse : GoodIn wsX6_topSpeedOf (wsV RX6 183 RX6 yX6_refuse wsX6_refuse) := goodIn_app (goodIn_of _ (by decide +kernel)) ggX6_topSpeedOf_X6_refuse
set_option maxRecDepth 20000 in
theorem ggX6_topSpeedOf_X6_t : GoodIn wsX6_topSpeedOf wsX6_t := goodIn_r _ [17] (by decide +kernel) (by decide +kernel)
set_option maxRecDepth 20000 in
theorem gX6_topSpeedOf_X6_t : GoodIn wsX6_topSpeedOf (va_wsS RX6 58 yX6_t wsX6_t) := goodIn_app (goodIn_of _ (by decide +kernel)) ggX6_topSpeedOf_X6_t
set_option maxRecDepth 20000 in
theorem ggX6_topSpeedOf_X6_told : GoodIn wsX6_topSpeedOf wsX6_told := goodIn_r _ [21, 14, 22, 23, 24, 25, 26, 27, 28, 29, 30, 31, 32, 33, 34, 35, 36, 37, 38, 39, 40, 41, 42] (by decide +kernel) (by decide +kernel)
set_option maxRecDepth 20000 in
theorem gX6_topSpeedOf_X6_told : GoodIn wsX6_topSpeedOf (wsV RX6 189 RX6 yX6_told wsX6_told) := goodIn_app (goodIn_of _ (by decide +kernel)) ggX6_topSpeedOf_X6_told
set_option maxRecDepth 20000 in
theorem ggX6_speedOf_X6_isTrain : GoodIn wsX6_speedOf wsX6_isTrain := goodIn_r _ [5, 6, 7, 8, 4, 9, 29, 30, 31, 32, 33, 34, 35, 36, 37, 38, 39, 40, 41, 42, 43, 44, 45, 46, 47, 48, 49] (by decide +kernel) (by decide +kernel)
set_option maxRecDepth 20000 in
theorem gX6_speedOf_X6_isTrain : GoodIn wsX6_speedOf (wsV RX6 221 RX6 yX6_isTrain wsX6_isTrain) := goodIn_app (goodIn_of _ (by decide +kernel)) ggX6_speedOf_X6_isTrain
set_option maxRecDepth 20000 in
theorem ggX6_speedOf_X6_refuse : GoodIn wsX6_speedOf wsX6_refuse := goodIn_r _ [13, 14, 29, 30, 31, 32, 33, 34, 35, 36, 37, 38, 39, 40, 41, 42, 43, 44, 45, 46, 47, 48, 49] (by decide +kernel) (by decide +kernel)
set_option maxRecDepth 20000 in
theorem gX6_speedOf_X6_refuse : GoodIn wsX6_speedOf (wsV RX6 183 RX6 yX6_refuse wsX6_refuse) := goodIn_app (goodIn_of _ (by decide +kernel)) ggX6_speedOf_X6_refuse
set_option maxRecDepth 20000 in
theorem ggX6_speedOf_X6_speed : GoodIn wsX6_speedOf wsX6_speed := goodIn_r _ [18, 6, 19, 20, 4, 21, 22, 23, 24, 29, 30, 31, 32, 33, 34, 35, 36, 37, 38, 39, 40, 41, 42, 43, 44, 45, 46, 47, 48, 49] (by decide +kernel) (by decide +kernel)
set_option maxRecDepth 20000 in
theorem gX6_speedOf_X6_speed : GoodIn wsX6_speedOf (wsV RX6 71 RX6 yX6_speed wsX6_speed) := goodIn_app (goodIn_of _ (by decide +kernel)) ggX6_speedOf_X6_speed
set_option maxRecDepth 20000 in
theorem ggX6_speedOf_X6_told : GoodIn wsX6_speedOf wsX6_told := goodIn_r _ [28, 14, 29, 30, 31, 32, 33, 34, 35, 36, 37, 38, 39, 40, 41, 42, 43, 44, 45, 46, 47, 48, 49] (by decide +kernel) (by decide +kernel)
set_option maxRecDepth 20000 in
theorem gX6_speedOf_X6_told : GoodIn wsX6_speedOf (wsV RX6 189 RX6 yX6_told wsX6_told) := goodIn_app (goodIn_of _ (by decide +kernel)) ggX6_speedOf_X6_told
set_option maxRecDepth 20000 in
theorem ggX6_waitsOf_X6_isTrain : GoodIn wsX6_waitsOf wsX6_isTrain := goodIn_r _ [6, 1, 7, 8, 5, 9, 22, 23, 24, 25, 26, 27, 28, 29, 30, 31, 32, 33, 34, 35, 36, 37, 38, 39, 40, 41, 42] (by decide +kernel) (by decide +kernel)
set_option maxRecDepth 20000 in
theorem gX6_waitsOf_X6_isTrain : GoodIn wsX6_waitsOf (wsV RX6 221 RX6 yX6_isTrain wsX6_isTrain) := goodIn_app (goodIn_of _ (by decide +kernel)) ggX6_waitsOf_X6_isTrain
set_option maxRecDepth 20000 in
theorem ggX6_waitsOf_X6_refuse : GoodIn wsX6_waitsOf wsX6_refuse := goodIn_r _ [13, 14, 22, 23, 24, 25, 26, 27, 28, 29, 30, 31, 32, 33, 34, 35, 36, 37, 38, 39, 40, 41, 42] (by decide +kernel) (by decide +kernel)
set_option maxRecDepth 20000 in
theorem gX6_waitsOf_X6_refuse : GoodIn wsX6_waitsOf (wsV RX6 183 RX6 yX6_refuse wsX6_refuse) := goodIn_app (goodIn_of _ (by decide +kernel)) ggX6_waitsOf_X6_refuse
set_option maxRecDepth 20000 in
theorem ggX6_waitsOf_X6_t : GoodIn wsX6_waitsOf wsX6_t := goodIn_r _ [17] (by decide +kernel) (by decide +kernel)
set_option maxRecDepth 20000 in
theorem gX6_waitsOf_X6_t : GoodIn wsX6_waitsOf (va_wsS RX6 58 yX6_t wsX6_t) := goodIn_app (goodIn_of _ (by decide +kernel)) ggX6_waitsOf_X6_t
set_option maxRecDepth 20000 in
theorem ggX6_waitsOf_X6_told : GoodIn wsX6_waitsOf wsX6_told := goodIn_r _ [21, 14, 22, 23, 24, 25, 26, 27, 28, 29, 30, 31, 32, 33, 34, 35, 36, 37, 38, 39, 40, 41, 42] (by decide +kernel) (by decide +kernel)
set_option maxRecDepth 20000 in
theorem gX6_waitsOf_X6_told : GoodIn wsX6_waitsOf (wsV RX6 189 RX6 yX6_told wsX6_told) := goodIn_app (goodIn_of _ (by decide +kernel)) ggX6_waitsOf_X6_told
set_option maxRecDepth 20000 in
theorem ggX6_passages_X6_isTrain : GoodIn wsX6_passages wsX6_isTrain := goodIn_r _ [6, 1, 7, 8, 5, 9, 26, 27, 28, 29, 30, 31, 32, 33, 34, 35, 36, 37, 38, 39, 40, 41, 42, 43, 44, 45, 46] (by decide +kernel) (by decide +kernel)
set_option maxRecDepth 20000 in
theorem gX6_passages_X6_isTrain : GoodIn wsX6_passages (wsV RX6 221 RX6 yX6_isTrain wsX6_isTrain) := goodIn_app (goodIn_of _ (by decide +kernel)) ggX6_passages_X6_isTrain
set_option maxRecDepth 20000 in
theorem ggX6_passages_X6_isBlock : GoodIn wsX6_passages wsX6_isBlock := goodIn_r _ [13, 1, 7, 8, 5, 9, 26, 27, 28, 29, 30, 31, 32, 33, 34, 35, 36, 37, 38, 39, 40, 41, 42, 43, 44, 45, 46] (by decide +kernel) (by decide +kernel)
set_option maxRecDepth 20000 in
theorem gX6_passages_X6_isBlock : GoodIn wsX6_passages (wsV RX6 207 RX6 yX6_isBlock wsX6_isBlock) := goodIn_app (goodIn_of _ (by decide +kernel)) ggX6_passages_X6_isBlock
set_option maxRecDepth 20000 in
theorem ggX6_passages_X6_refuse : GoodIn wsX6_passages wsX6_refuse := goodIn_r _ [17, 18, 26, 27, 28, 29, 30, 31, 32, 33, 34, 35, 36, 37, 38, 39, 40, 41, 42, 43, 44, 45, 46] (by decide +kernel) (by decide +kernel)
set_option maxRecDepth 20000 in
theorem gX6_passages_X6_refuse : GoodIn wsX6_passages (wsV RX6 183 RX6 yX6_refuse wsX6_refuse) := goodIn_app (goodIn_of _ (by decide +kernel)) ggX6_passages_X6_refuse
set_option maxRecDepth 20000 in
theorem ggX6_passages_X6_passed : GoodIn wsX6_passages wsX6_passed := goodIn_r _ [21] (by decide +kernel) (by decide +kernel)
set_option maxRecDepth 20000 in
theorem gX6_passages_X6_passed : GoodIn wsX6_passages (va_wsS RX6 74 yX6_passed wsX6_passed) := goodIn_app (goodIn_of _ (by decide +kernel)) ggX6_passages_X6_passed
set_option maxRecDepth 20000 in
theorem ggX6_passages_X6_told : GoodIn wsX6_passages wsX6_told := goodIn_r _ [25, 18, 26, 27, 28, 29, 30, 31, 32, 33, 34, 35, 36, 37, 38, 39, 40, 41, 42, 43, 44, 45, 46] (by decide +kernel) (by decide +kernel)
set_option maxRecDepth 20000 in
theorem gX6_passages_X6_told : GoodIn wsX6_passages (wsV RX6 189 RX6 yX6_told wsX6_told) := goodIn_app (goodIn_of _ (by decide +kernel)) ggX6_passages_X6_told
set_option maxRecDepth 20000 in
theorem ggX6_differentPassages_X6_passed : GoodIn wsX6_differentPassages wsX6_passed := goodIn_r _ [5] (by decide +kernel) (by decide +kernel)
set_option maxRecDepth 20000 in
theorem gX6_differentPassages_X6_passed : GoodIn wsX6_differentPassages (va_wsS RX6 74 yX6_passed wsX6_passed) := goodIn_app (goodIn_of _ (by decide +kernel)) ggX6_differentPassages_X6_passed
set_option maxRecDepth 20000 in
theorem ggX6_differentPassages_X6_told : GoodIn wsX6_differentPassages wsX6_told := goodIn_r _ [9, 10, 11, 12, 13, 14, 15, 16, 17, 18, 19, 20, 21, 22, 23, 24, 25, 26, 27, 28, 29, 30, 31] (by decide +kernel) (by decide +kernel)
set_option maxRecDepth 20000 in
theorem gX6_differentPassages_X6_told : GoodIn wsX6_differentPassages (wsV RX6 189 RX6 yX6_told wsX6_told) := goodIn_app (goodIn_of _ (by decide +kernel)) ggX6_differentPassages_X6_told
set_option maxRecDepth 20000 in
theorem ggX6_ticksToEnd_X6_isTrain : GoodIn wsX6_ticksToEnd wsX6_isTrain := goodIn_r _ [6, 1, 7, 8, 5, 9, 29, 30, 31, 32, 33, 34, 35, 36, 37, 38, 39, 40, 41, 42, 43, 44, 45, 46, 47, 48, 49] (by decide +kernel) (by decide +kernel)
set_option maxRecDepth 20000 in
theorem gX6_ticksToEnd_X6_isTrain : GoodIn wsX6_ticksToEnd (wsV RX6 221 RX6 yX6_isTrain wsX6_isTrain) := goodIn_app (goodIn_of _ (by decide +kernel)) ggX6_ticksToEnd_X6_isTrain
set_option maxRecDepth 20000 in
theorem ggX6_ticksToEnd_X6_refuse : GoodIn wsX6_ticksToEnd wsX6_refuse := goodIn_r _ [13, 14, 29, 30, 31, 32, 33, 34, 35, 36, 37, 38, 39, 40, 41, 42, 43, 44, 45, 46, 47, 48, 49] (by decide +kernel) (by decide +kernel)
set_option maxRecDepth 20000 in
theorem gX6_ticksToEnd_X6_refuse : GoodIn wsX6_ticksToEnd (wsV RX6 183 RX6 yX6_refuse wsX6_refuse) := goodIn_app (goodIn_of _ (by decide +kernel)) ggX6_ticksToEnd_X6_refuse
set_option maxRecDepth 20000 in
theorem ggX6_ticksToEnd_X6_t : GoodIn wsX6_ticksToEnd wsX6_t := goodIn_r _ [17] (by decide +kernel) (by decide +kernel)
set_option maxRecDepth 20000 in
theorem gX6_ticksToEnd_X6_t : GoodIn wsX6_ticksToEnd (va_wsS RX6 58 yX6_t wsX6_t) := goodIn_app (goodIn_of _ (by decide +kernel)) ggX6_ticksToEnd_X6_t
set_option maxRecDepth 20000 in
theorem ggX6_ticksToEnd_X6_b : GoodIn wsX6_ticksToEnd wsX6_b := goodIn_r _ [20] (by decide +kernel) (by decide +kernel)
set_option maxRecDepth 20000 in
theorem gX6_ticksToEnd_X6_b : GoodIn wsX6_ticksToEnd (va_wsS RX6 44 yX6_b wsX6_b) := goodIn_app (goodIn_of _ (by decide +kernel)) ggX6_ticksToEnd_X6_b
set_option maxRecDepth 20000 in
theorem ggX6_ticksToEnd_X6_speed : GoodIn wsX6_ticksToEnd wsX6_speed := goodIn_r _ [24, 1, 15, 16, 5, 17, 18, 19, 20, 29, 30, 31, 32, 33, 34, 35, 36, 37, 38, 39, 40, 41, 42, 43, 44, 45, 46, 47, 48, 49] (by decide +kernel) (by decide +kernel)
set_option maxRecDepth 20000 in
theorem gX6_ticksToEnd_X6_speed : GoodIn wsX6_ticksToEnd (wsV RX6 71 RX6 yX6_speed wsX6_speed) := goodIn_app (goodIn_of _ (by decide +kernel)) ggX6_ticksToEnd_X6_speed
set_option maxRecDepth 20000 in
theorem ggX6_ticksToEnd_X6_told : GoodIn wsX6_ticksToEnd wsX6_told := goodIn_r _ [28, 14, 29, 30, 31, 32, 33, 34, 35, 36, 37, 38, 39, 40, 41, 42, 43, 44, 45, 46, 47, 48, 49] (by decide +kernel) (by decide +kernel)
set_option maxRecDepth 20000 in
theorem gX6_ticksToEnd_X6_told : GoodIn wsX6_ticksToEnd (wsV RX6 189 RX6 yX6_told wsX6_told) := goodIn_app (goodIn_of _ (by decide +kernel)) ggX6_ticksToEnd_X6_told
set_option maxRecDepth 20000 in
theorem ggX6_trainAhead_X6_isTrain : GoodIn wsX6_trainAhead wsX6_isTrain := goodIn_r _ [6, 1, 7, 8, 5, 9, 30, 31, 32, 33, 34, 35, 36, 37, 38, 39, 40, 41, 42, 43, 44, 45, 46, 47, 48, 49, 50] (by decide +kernel) (by decide +kernel)
set_option maxRecDepth 20000 in
theorem gX6_trainAhead_X6_isTrain : GoodIn wsX6_trainAhead (wsV RX6 221 RX6 yX6_isTrain wsX6_isTrain) := goodIn_app (goodIn_of _ (by decide +kernel)) ggX6_trainAhead_X6_isTrain
set_option maxRecDepth 20000 in
theorem ggX6_trainAhead_X6_refuse : GoodIn wsX6_trainAhead wsX6_refuse := goodIn_r _ [13, 14, 30, 31, 32, 33, 34, 35, 36, 37, 38, 39, 40, 41, 42, 43, 44, 45, 46, 47, 48, 49, 50] (by decide +kernel) (by decide +kernel)
set_option maxRecDepth 20000 in
theorem gX6_trainAhead_X6_refuse : GoodIn wsX6_trainAhead (wsV RX6 183 RX6 yX6_refuse wsX6_refuse) := goodIn_app (goodIn_of _ (by decide +kernel)) ggX6_trainAhead_X6_refuse
set_option maxRecDepth 20000 in
theorem ggX6_trainAhead_X6_t : GoodIn wsX6_trainAhead wsX6_t := goodIn_r _ [17] (by decide +kernel) (by decide +kernel)
set_option maxRecDepth 20000 in
theorem gX6_trainAhead_X6_t : GoodIn wsX6_trainAhead (va_wsS RX6 58 yX6_t wsX6_t) := goodIn_app (goodIn_of _ (by decide +kernel)) ggX6_trainAhead_X6_t
set_option maxRecDepth 20000 in
theorem ggX6_trainAhead_X6_after : GoodIn wsX6_trainAhead wsX6_after := goodIn_r _ [21, 1, 30, 31, 32, 33, 34, 35, 36, 37, 38, 39, 40, 41, 42, 43, 44, 45, 46, 47, 48, 49, 50] (by decide +kernel) (by decide +kernel)
set_option maxRecDepth 20000 in
theorem gX6_trainAhead_X6_after : GoodIn wsX6_trainAhead (wsV RX6 64 RX6 yX6_after wsX6_after) := goodIn_app (goodIn_of _ (by decide +kernel)) ggX6_trainAhead_X6_after
set_option maxRecDepth 20000 in
theorem ggX6_trainAhead_X6_trainAt : GoodIn wsX6_trainAhead wsX6_trainAt := goodIn_r _ [25, 1, 15, 16, 5, 17, 30, 31, 32, 33, 34, 35, 36, 37, 38, 39, 40, 41, 42, 43, 44, 45, 46, 47, 48, 49, 50] (by decide +kernel) (by decide +kernel)
set_option maxRecDepth 20000 in
theorem gX6_trainAhead_X6_trainAt : GoodIn wsX6_trainAhead (wsV RX6 61 RX6 yX6_trainAt wsX6_trainAt) := goodIn_app (goodIn_of _ (by decide +kernel)) ggX6_trainAhead_X6_trainAt
set_option maxRecDepth 20000 in
theorem ggX6_trainAhead_X6_told : GoodIn wsX6_trainAhead wsX6_told := goodIn_r _ [29, 14, 30, 31, 32, 33, 34, 35, 36, 37, 38, 39, 40, 41, 42, 43, 44, 45, 46, 47, 48, 49, 50] (by decide +kernel) (by decide +kernel)
set_option maxRecDepth 20000 in
theorem gX6_trainAhead_X6_told : GoodIn wsX6_trainAhead (wsV RX6 189 RX6 yX6_told wsX6_told) := goodIn_app (goodIn_of _ (by decide +kernel)) ggX6_trainAhead_X6_told
set_option maxRecDepth 20000 in
theorem ggX6_clearBlocksAhead_X6_isTrain : GoodIn wsX6_clearBlocksAhead wsX6_isTrain := goodIn_r _ [6, 1, 7, 8, 5, 9, 37, 38, 39, 40, 41, 42, 43, 44, 45, 46, 47, 48, 49, 50, 51, 52, 53, 54, 55, 56, 57] (by decide +kernel) (by decide +kernel)
set_option maxRecDepth 20000 in
theorem gX6_clearBlocksAhead_X6_isTrain : GoodIn wsX6_clearBlocksAhead (wsV RX6 221 RX6 yX6_isTrain wsX6_isTrain) := goodIn_app (goodIn_of _ (by decide +kernel)) ggX6_clearBlocksAhead_X6_isTrain
set_option maxRecDepth 20000 in
theorem ggX6_clearBlocksAhead_X6_refuse : GoodIn wsX6_clearBlocksAhead wsX6_refuse := goodIn_r _ [13, 14, 37, 38, 39, 40, 41, 42, 43, 44, 45, 46, 47, 48, 49, 50, 51, 52, 53, 54, 55, 56, 57] (by decide +kernel) (by decide +kernel)
set_option maxRecDepth 20000 in
theorem gX6_clearBlocksAhead_X6_refuse : GoodIn wsX6_clearBlocksAhead (wsV RX6 183 RX6 yX6_refuse wsX6_refuse) := goodIn_app (goodIn_of _ (by decide +kernel)) ggX6_clearBlocksAhead_X6_refuse
set_option maxRecDepth 20000 in
theorem ggX6_clearBlocksAhead_X6_t : GoodIn wsX6_clearBlocksAhead wsX6_t := goodIn_r _ [17] (by decide +kernel) (by decide +kernel)
set_option maxRecDepth 20000 in
theorem gX6_clearBlocksAhead_X6_t : GoodIn wsX6_clearBlocksAhead (va_wsS RX6 58 yX6_t wsX6_t) := goodIn_app (goodIn_of _ (by decide +kernel)) ggX6_clearBlocksAhead_X6_t
set_option maxRecDepth 20000 in
theorem ggX6_clearBlocksAhead_X6_after : GoodIn wsX6_clearBlocksAhead wsX6_after := goodIn_r _ [21, 1, 37, 38, 39, 40, 41, 42, 43, 44, 45, 46, 47, 48, 49, 50, 51, 52, 53, 54, 55, 56, 57] (by decide +kernel) (by decide +kernel)
set_option maxRecDepth 20000 in
theorem gX6_clearBlocksAhead_X6_after : GoodIn wsX6_clearBlocksAhead (wsV RX6 64 RX6 yX6_after wsX6_after) := goodIn_app (goodIn_of _ (by decide +kernel)) ggX6_clearBlocksAhead_X6_after
set_option maxRecDepth 20000 in
theorem ggX6_clearBlocksAhead_X6_isOccupied : GoodIn wsX6_clearBlocksAhead wsX6_isOccupied := goodIn_r _ [25, 1, 26, 27, 28, 5, 29, 15, 16, 17, 30, 31, 32, 37, 38, 39, 40, 41, 42, 43, 44, 45, 46, 47, 48, 49, 50, 51, 52, 53, 54, 55, 56, 57] (by decide +kernel) (by decide +kernel)
set_option maxRecDepth 20000 in
theorem gX6_clearBlocksAhead_X6_isOccupied : GoodIn wsX6_clearBlocksAhead (wsV RX6 67 RX6 yX6_isOccupied wsX6_isOccupied) := goodIn_app (goodIn_of _ (by decide +kernel)) ggX6_clearBlocksAhead_X6_isOccupied
set_option maxRecDepth 20000 in
theorem ggX6_clearBlocksAhead_X6_told : GoodIn wsX6_clearBlocksAhead wsX6_told := goodIn_r _ [36, 14, 37, 38, 39, 40, 41, 42, 43, 44, 45, 46, 47, 48, 49, 50, 51, 52, 53, 54, 55, 56, 57] (by decide +kernel) (by decide +kernel)
set_option maxRecDepth 20000 in
theorem gX6_clearBlocksAhead_X6_told : GoodIn wsX6_clearBlocksAhead (wsV RX6 189 RX6 yX6_told wsX6_told) := goodIn_app (goodIn_of _ (by decide +kernel)) ggX6_clearBlocksAhead_X6_told
set_option maxRecDepth 20000 in
theorem ggX6_canEnter_X6_isTrain : GoodIn wsX6_canEnter wsX6_isTrain := goodIn_r _ [5, 6, 7, 8, 4, 9, 41, 42, 43, 44, 45, 46, 47, 48, 49, 50, 51, 52, 53, 54, 55, 56, 57, 58, 59, 60, 61] (by decide +kernel) (by decide +kernel)
set_option maxRecDepth 20000 in
theorem gX6_canEnter_X6_isTrain : GoodIn wsX6_canEnter (wsV RX6 221 RX6 yX6_isTrain wsX6_isTrain) := goodIn_app (goodIn_of _ (by decide +kernel)) ggX6_canEnter_X6_isTrain
set_option maxRecDepth 20000 in
theorem ggX6_canEnter_X6_refuses : GoodIn wsX6_canEnter wsX6_refuses := goodIn_r _ [13, 14, 41, 42, 43, 44, 45, 46, 47, 48, 49, 50, 51, 52, 53, 54, 55, 56, 57, 58, 59, 60, 61] (by decide +kernel) (by decide +kernel)
set_option maxRecDepth 20000 in
theorem gX6_canEnter_X6_refuses : GoodIn wsX6_canEnter (wsV RX6 210 RX6 yX6_refuses wsX6_refuses) := goodIn_app (goodIn_of _ (by decide +kernel)) ggX6_canEnter_X6_refuses
set_option maxRecDepth 20000 in
theorem ggX6_canEnter_X6_mayEnter : GoodIn wsX6_canEnter wsX6_mayEnter := goodIn_r _ [18, 6, 19, 20, 4, 21, 22, 23, 24, 25, 26, 27, 28, 29, 30, 31, 32, 33, 34, 35, 36, 41, 42, 43, 44, 45, 46, 47, 48, 49, 50, 51, 52, 53, 54, 55, 56, 57, 58, 59, 60, 61] (by decide +kernel) (by decide +kernel)
set_option maxRecDepth 20000 in
theorem gX6_canEnter_X6_mayEnter : GoodIn wsX6_canEnter (wsV RX6 81 RX6 yX6_mayEnter wsX6_mayEnter) := goodIn_app (goodIn_of _ (by decide +kernel)) ggX6_canEnter_X6_mayEnter
set_option maxRecDepth 20000 in
theorem ggX6_canEnter_X6_says : GoodIn wsX6_canEnter wsX6_says := goodIn_r _ [40, 14, 41, 42, 43, 44, 45, 46, 47, 48, 49, 50, 51, 52, 53, 54, 55, 56, 57, 58, 59, 60, 61] (by decide +kernel) (by decide +kernel)
set_option maxRecDepth 20000 in
theorem gX6_canEnter_X6_says : GoodIn wsX6_canEnter (wsV RX6 214 RX6 yX6_says wsX6_says) := goodIn_app (goodIn_of _ (by decide +kernel)) ggX6_canEnter_X6_says
set_option maxRecDepth 20000 in
theorem ggX6_blockAfter_X6_isTrain : GoodIn wsX6_blockAfter wsX6_isTrain := goodIn_r _ [6, 1, 7, 8, 5, 9, 77, 78, 79, 80, 81, 82, 83, 84, 85, 86, 87, 88, 89, 90, 91, 92, 93, 94, 95, 96, 97] (by decide +kernel) (by decide +kernel)
set_option maxRecDepth 20000 in
theorem gX6_blockAfter_X6_isTrain : GoodIn wsX6_blockAfter (wsV RX6 221 RX6 yX6_isTrain wsX6_isTrain) := goodIn_app (goodIn_of _ (by decide +kernel)) ggX6_blockAfter_X6_isTrain
set_option maxRecDepth 20000 in
theorem ggX6_blockAfter_X6_refuse : GoodIn wsX6_blockAfter wsX6_refuse := goodIn_r _ [13, 14, 77, 78, 79, 80, 81, 82, 83, 84, 85, 86, 87, 88, 89, 90, 91, 92, 93, 94, 95, 96, 97] (by decide +kernel) (by decide +kernel)
set_option maxRecDepth 20000 in
theorem gX6_blockAfter_X6_refuse : GoodIn wsX6_blockAfter (wsV RX6 183 RX6 yX6_refuse wsX6_refuse) := goodIn_app (goodIn_of _ (by decide +kernel)) ggX6_blockAfter_X6_refuse
set_option maxRecDepth 20000 in
theorem ggX6_blockAfter_X6_in : GoodIn wsX6_blockAfter wsX6_in := goodIn_r _ [9] (by decide +kernel) (by decide +kernel)
set_option maxRecDepth 20000 in
theorem gX6_blockAfter_X6_in : GoodIn wsX6_blockAfter (va_wsS RX6 54 yX6_in wsX6_in) := goodIn_app (goodIn_of _ (by decide +kernel)) ggX6_blockAfter_X6_in
set_option maxRecDepth 20000 in
theorem ggX6_blockAfter_X6_putsAside : GoodIn wsX6_blockAfter wsX6_putsAside := goodIn_r _ [18, 19, 1, 77, 78, 79, 80, 81, 82, 83, 84, 85, 86, 87, 88, 89, 90, 91, 92, 93, 94, 95, 96, 97] (by decide +kernel) (by decide +kernel)
set_option maxRecDepth 20000 in
theorem gX6_blockAfter_X6_putsAside : GoodIn wsX6_blockAfter (wsV RX6 192 RX6 yX6_putsAside wsX6_putsAside) := goodIn_app (goodIn_of _ (by decide +kernel)) ggX6_blockAfter_X6_putsAside
set_option maxRecDepth 20000 in
theorem ggX6_blockAfter_X6_passes : GoodIn wsX6_blockAfter wsX6_passes := goodIn_r _ [23, 24, 25, 26, 5, 27, 1, 28, 29, 30, 31, 32, 33, 34, 35, 36, 37, 38, 39, 40, 41, 42, 43, 44, 45, 46, 47, 48, 49, 50, 51, 52, 53, 54, 55, 56, 57, 58, 59, 60, 61, 62, 63, 64, 65, 66, 67, 68, 77, 78, 79, 80, 81, 82, 83, 84, 85, 86, 87, 88, 89, 90, 91, 92, 93, 94, 95, 96, 97] (by decide +kernel) (by decide +kernel)
set_option maxRecDepth 20000 in
theorem gX6_blockAfter_X6_passes : GoodIn wsX6_blockAfter (wsV RX6 48 RX6 yX6_passes wsX6_passes) := goodIn_app (goodIn_of _ (by decide +kernel)) ggX6_blockAfter_X6_passes
set_option maxRecDepth 20000 in
theorem ggX6_blockAfter_X6_t : GoodIn wsX6_blockAfter wsX6_t := goodIn_r _ [34] (by decide +kernel) (by decide +kernel)
set_option maxRecDepth 20000 in
theorem gX6_blockAfter_X6_t : GoodIn wsX6_blockAfter (va_wsS RX6 58 yX6_t wsX6_t) := goodIn_app (goodIn_of _ (by decide +kernel)) ggX6_blockAfter_X6_t
set_option maxRecDepth 20000 in
theorem ggX6_blockAfter_X6_putsBack : GoodIn wsX6_blockAfter wsX6_putsBack := goodIn_r _ [72, 1, 19, 77, 78, 79, 80, 81, 82, 83, 84, 85, 86, 87, 88, 89, 90, 91, 92, 93, 94, 95, 96, 97] (by decide +kernel) (by decide +kernel)
set_option maxRecDepth 20000 in
theorem gX6_blockAfter_X6_putsBack : GoodIn wsX6_blockAfter (wsV RX6 201 RX6 yX6_putsBack wsX6_putsBack) := goodIn_app (goodIn_of _ (by decide +kernel)) ggX6_blockAfter_X6_putsBack
set_option maxRecDepth 20000 in
theorem ggX6_blockAfter_X6_told : GoodIn wsX6_blockAfter wsX6_told := goodIn_r _ [76, 14, 77, 78, 79, 80, 81, 82, 83, 84, 85, 86, 87, 88, 89, 90, 91, 92, 93, 94, 95, 96, 97] (by decide +kernel) (by decide +kernel)
set_option maxRecDepth 20000 in
theorem gX6_blockAfter_X6_told : GoodIn wsX6_blockAfter (wsV RX6 189 RX6 yX6_told wsX6_told) := goodIn_app (goodIn_of _ (by decide +kernel)) ggX6_blockAfter_X6_told
set_option maxRecDepth 20000 in
theorem ggX6_ticksUntilWait_X6_isTrain : GoodIn wsX6_ticksUntilWait wsX6_isTrain := goodIn_r _ [6, 1, 7, 8, 5, 9, 73, 74, 75, 76, 77, 78, 79, 80, 81, 82, 83, 84, 85, 86, 87, 88, 89, 90, 91, 92, 93] (by decide +kernel) (by decide +kernel)
set_option maxRecDepth 20000 in
theorem gX6_ticksUntilWait_X6_isTrain : GoodIn wsX6_ticksUntilWait (wsV RX6 221 RX6 yX6_isTrain wsX6_isTrain) := goodIn_app (goodIn_of _ (by decide +kernel)) ggX6_ticksUntilWait_X6_isTrain
set_option maxRecDepth 20000 in
theorem ggX6_ticksUntilWait_X6_refuse : GoodIn wsX6_ticksUntilWait wsX6_refuse := goodIn_r _ [13, 14, 73, 74, 75, 76, 77, 78, 79, 80, 81, 82, 83, 84, 85, 86, 87, 88, 89, 90, 91, 92, 93] (by decide +kernel) (by decide +kernel)
set_option maxRecDepth 20000 in
theorem gX6_ticksUntilWait_X6_refuse : GoodIn wsX6_ticksUntilWait (wsV RX6 183 RX6 yX6_refuse wsX6_refuse) := goodIn_app (goodIn_of _ (by decide +kernel)) ggX6_ticksUntilWait_X6_refuse
set_option maxRecDepth 20000 in
theorem ggX6_ticksUntilWait_X6_putsAside : GoodIn wsX6_ticksUntilWait wsX6_putsAside := goodIn_r _ [18, 19, 1, 73, 74, 75, 76, 77, 78, 79, 80, 81, 82, 83, 84, 85, 86, 87, 88, 89, 90, 91, 92, 93] (by decide +kernel) (by decide +kernel)
set_option maxRecDepth 20000 in
theorem gX6_ticksUntilWait_X6_putsAside : GoodIn wsX6_ticksUntilWait (wsV RX6 192 RX6 yX6_putsAside wsX6_putsAside) := goodIn_app (goodIn_of _ (by decide +kernel)) ggX6_ticksUntilWait_X6_putsAside
set_option maxRecDepth 20000 in
theorem ggX6_ticksUntilWait_X6_t : GoodIn wsX6_ticksUntilWait wsX6_t := goodIn_r _ [22] (by decide +kernel) (by decide +kernel)
set_option maxRecDepth 20000 in
theorem gX6_ticksUntilWait_X6_t : GoodIn wsX6_ticksUntilWait (va_wsS RX6 58 yX6_t wsX6_t) := goodIn_app (goodIn_of _ (by decide +kernel)) ggX6_ticksUntilWait_X6_t
set_option maxRecDepth 20000 in
theorem ggX6_ticksUntilWait_X6_passesTick : GoodIn wsX6_ticksUntilWait wsX6_passesTick := goodIn_r _ [26, 1, 27, 28, 29, 5, 30, 20, 21, 22, 31, 32, 33, 34, 35, 36, 37, 38, 39, 40, 41, 42, 43, 44, 45, 46, 47, 48, 49, 50, 51, 52, 53, 54, 55, 56, 57, 58, 59, 60, 61, 62, 63, 64, 73, 74, 75, 76, 77, 78, 79, 80, 81, 82, 83, 84, 85, 86, 87, 88, 89, 90, 91, 92, 93] (by decide +kernel) (by decide +kernel)
set_option maxRecDepth 20000 in
theorem gX6_ticksUntilWait_X6_passesTick : GoodIn wsX6_ticksUntilWait (wsV RX6 91 RX6 yX6_passesTick wsX6_passesTick) := goodIn_app (goodIn_of _ (by decide +kernel)) ggX6_ticksUntilWait_X6_passesTick
set_option maxRecDepth 20000 in
theorem ggX6_ticksUntilWait_X6_putsBack : GoodIn wsX6_ticksUntilWait wsX6_putsBack := goodIn_r _ [68, 1, 19, 73, 74, 75, 76, 77, 78, 79, 80, 81, 82, 83, 84, 85, 86, 87, 88, 89, 90, 91, 92, 93] (by decide +kernel) (by decide +kernel)
set_option maxRecDepth 20000 in
theorem gX6_ticksUntilWait_X6_putsBack : GoodIn wsX6_ticksUntilWait (wsV RX6 201 RX6 yX6_putsBack wsX6_putsBack) := goodIn_app (goodIn_of _ (by decide +kernel)) ggX6_ticksUntilWait_X6_putsBack
set_option maxRecDepth 20000 in
theorem ggX6_ticksUntilWait_X6_told : GoodIn wsX6_ticksUntilWait wsX6_told := goodIn_r _ [72, 14, 73, 74, 75, 76, 77, 78, 79, 80, 81, 82, 83, 84, 85, 86, 87, 88, 89, 90, 91, 92, 93] (by decide +kernel) (by decide +kernel)
set_option maxRecDepth 20000 in
theorem gX6_ticksUntilWait_X6_told : GoodIn wsX6_ticksUntilWait (wsV RX6 189 RX6 yX6_told wsX6_told) := goodIn_app (goodIn_of _ (by decide +kernel)) ggX6_ticksUntilWait_X6_told
set_option maxRecDepth 20000 in
theorem ggX6_ofAllTrains_X6_t : GoodIn wsX6_ofAllTrains wsX6_t := goodIn_r _ [5] (by decide +kernel) (by decide +kernel)
set_option maxRecDepth 20000 in
theorem gX6_ofAllTrains_X6_t : GoodIn wsX6_ofAllTrains (va_wsS RX6 58 yX6_t wsX6_t) := goodIn_app (goodIn_of _ (by decide +kernel)) ggX6_ofAllTrains_X6_t
set_option maxRecDepth 20000 in
theorem ggX6_ofAllBlocks_X6_b : GoodIn wsX6_ofAllBlocks wsX6_b := goodIn_r _ [5] (by decide +kernel) (by decide +kernel)
set_option maxRecDepth 20000 in
theorem gX6_ofAllBlocks_X6_b : GoodIn wsX6_ofAllBlocks (va_wsS RX6 44 yX6_b wsX6_b) := goodIn_app (goodIn_of _ (by decide +kernel)) ggX6_ofAllBlocks_X6_b
set_option maxRecDepth 20000 in
theorem ggX6_totalWagons_X6_ofAllTrains : GoodIn wsX6_totalWagons wsX6_ofAllTrains := goodIn_r _ [5, 6, 7, 8, 4, 9, 15, 16, 17, 18, 19, 20, 21, 22, 23, 24, 25, 26, 27, 28, 29, 30, 31, 32, 33, 34, 35] (by decide +kernel) (by decide +kernel)
set_option maxRecDepth 20000 in
theorem gX6_totalWagons_X6_ofAllTrains : GoodIn wsX6_totalWagons (wsV RX6 224 RX6 yX6_ofAllTrains wsX6_ofAllTrains) := goodIn_app (goodIn_of _ (by decide +kernel)) ggX6_totalWagons_X6_ofAllTrains
set_option maxRecDepth 20000 in
theorem ggX6_totalWagons_X6_told : GoodIn wsX6_totalWagons wsX6_told := goodIn_r _ [13, 14, 15, 16, 17, 18, 19, 20, 21, 22, 23, 24, 25, 26, 27, 28, 29, 30, 31, 32, 33, 34, 35] (by decide +kernel) (by decide +kernel)
set_option maxRecDepth 20000 in
theorem gX6_totalWagons_X6_told : GoodIn wsX6_totalWagons (wsV RX6 189 RX6 yX6_told wsX6_told) := goodIn_app (goodIn_of _ (by decide +kernel)) ggX6_totalWagons_X6_told
set_option maxRecDepth 20000 in
theorem ggX6_lostWagons_X6_ofAllBlocks : GoodIn wsX6_lostWagons wsX6_ofAllBlocks := goodIn_r _ [5, 6, 7, 8, 4, 9, 15, 16, 17, 18, 19, 20, 21, 22, 23, 24, 25, 26, 27, 28, 29, 30, 31, 32, 33, 34, 35] (by decide +kernel) (by decide +kernel)
set_option maxRecDepth 20000 in
theorem gX6_lostWagons_X6_ofAllBlocks : GoodIn wsX6_lostWagons (wsV RX6 227 RX6 yX6_ofAllBlocks wsX6_ofAllBlocks) := goodIn_app (goodIn_of _ (by decide +kernel)) ggX6_lostWagons_X6_ofAllBlocks
set_option maxRecDepth 20000 in
theorem ggX6_lostWagons_X6_told : GoodIn wsX6_lostWagons wsX6_told := goodIn_r _ [13, 14, 15, 16, 17, 18, 19, 20, 21, 22, 23, 24, 25, 26, 27, 28, 29, 30, 31, 32, 33, 34, 35] (by decide +kernel) (by decide +kernel)
set_option maxRecDepth 20000 in
theorem gX6_lostWagons_X6_told : GoodIn wsX6_lostWagons (wsV RX6 189 RX6 yX6_told wsX6_told) := goodIn_app (goodIn_of _ (by decide +kernel)) ggX6_lostWagons_X6_told
set_option maxRecDepth 20000 in
theorem ggX6_removedWagons_X6_told : GoodIn wsX6_removedWagons wsX6_told := goodIn_r _ [6, 7, 8, 9, 10, 11, 12, 13, 14, 15, 16, 17, 18, 19, 20, 21, 22, 23, 24, 25, 26, 27, 28] (by decide +kernel) (by decide +kernel)
set_option maxRecDepth 20000 in
theorem gX6_removedWagons_X6_told : GoodIn wsX6_removedWagons (wsV RX6 189 RX6 yX6_told wsX6_told) := goodIn_app (goodIn_of _ (by decide +kernel)) ggX6_removedWagons_X6_told
set_option maxRecDepth 20000 in
theorem ggX6_sharedBlocks_X6_t : GoodIn wsX6_sharedBlocks wsX6_t := goodIn_r _ [5] (by decide +kernel) (by decide +kernel)
set_option maxRecDepth 20000 in
theorem gX6_sharedBlocks_X6_t : GoodIn wsX6_sharedBlocks (va_wsS RX6 58 yX6_t wsX6_t) := goodIn_app (goodIn_of _ (by decide +kernel)) ggX6_sharedBlocks_X6_t
set_option maxRecDepth 20000 in
theorem ggX6_sharedBlocks_X6_told : GoodIn wsX6_sharedBlocks wsX6_told := goodIn_r _ [9, 10, 11, 12, 13, 14, 15, 16, 17, 18, 19, 20, 21, 22, 23, 24, 25, 26, 27, 28, 29, 30, 31] (by decide +kernel) (by decide +kernel)
set_option maxRecDepth 20000 in
theorem gX6_sharedBlocks_X6_told : GoodIn wsX6_sharedBlocks (wsV RX6 189 RX6 yX6_told wsX6_told) := goodIn_app (goodIn_of _ (by decide +kernel)) ggX6_sharedBlocks_X6_told
set_option maxRecDepth 20000 in
theorem ggX6_wagonDifference_X6_ofAllTrains : GoodIn wsX6_wagonDifference wsX6_ofAllTrains := goodIn_r _ [6, 1, 7, 8, 5, 9, 25, 26, 27, 28, 29, 30, 31, 32, 33, 34, 35, 36, 37, 38, 39, 40, 41, 42, 43, 44, 45] (by decide +kernel) (by decide +kernel)
set_option maxRecDepth 20000 in
theorem gX6_wagonDifference_X6_ofAllTrains : GoodIn wsX6_wagonDifference (wsV RX6 224 RX6 yX6_ofAllTrains wsX6_ofAllTrains) := goodIn_app (goodIn_of _ (by decide +kernel)) ggX6_wagonDifference_X6_ofAllTrains
set_option maxRecDepth 20000 in
theorem ggX6_wagonDifference_X6_ofAllBlocks : GoodIn wsX6_wagonDifference wsX6_ofAllBlocks := goodIn_r _ [13, 1, 14, 15, 5, 16, 25, 26, 27, 28, 29, 30, 31, 32, 33, 34, 35, 36, 37, 38, 39, 40, 41, 42, 43, 44, 45] (by decide +kernel) (by decide +kernel)
set_option maxRecDepth 20000 in
theorem gX6_wagonDifference_X6_ofAllBlocks : GoodIn wsX6_wagonDifference (wsV RX6 227 RX6 yX6_ofAllBlocks wsX6_ofAllBlocks) := goodIn_app (goodIn_of _ (by decide +kernel)) ggX6_wagonDifference_X6_ofAllBlocks
set_option maxRecDepth 20000 in
theorem ggX6_wagonDifference_X6_without : GoodIn wsX6_wagonDifference wsX6_without := goodIn_r _ [19] (by decide +kernel) (by decide +kernel)
set_option maxRecDepth 20000 in
theorem gX6_wagonDifference_X6_without : GoodIn wsX6_wagonDifference (va_wsS RX6 230 yX6_without wsX6_without) := goodIn_app (goodIn_of _ (by decide +kernel)) ggX6_wagonDifference_X6_without
set_option maxRecDepth 20000 in
theorem ggX6_wagonDifference_X6_told : GoodIn wsX6_wagonDifference wsX6_told := goodIn_r _ [23, 24, 25, 26, 27, 28, 29, 30, 31, 32, 33, 34, 35, 36, 37, 38, 39, 40, 41, 42, 43, 44, 45] (by decide +kernel) (by decide +kernel)
set_option maxRecDepth 20000 in
theorem gX6_wagonDifference_X6_told : GoodIn wsX6_wagonDifference (wsV RX6 189 RX6 yX6_told wsX6_told) := goodIn_app (goodIn_of _ (by decide +kernel)) ggX6_wagonDifference_X6_told
set_option maxRecDepth 20000 in
theorem ggX6_meanDepth_X6_ofAllBlocks : GoodIn wsX6_meanDepth wsX6_ofAllBlocks := goodIn_r _ [7, 2, 8, 9, 6, 10, 11, 12, 13, 14, 15, 16, 17, 18, 19, 20, 21, 22, 23, 24, 25, 26, 27, 28, 29, 30, 31] (by decide +kernel) (by decide +kernel)
set_option maxRecDepth 20000 in
theorem gX6_meanDepth_X6_ofAllBlocks : GoodIn wsX6_meanDepth (wsV RX6 227 RX6 yX6_ofAllBlocks wsX6_ofAllBlocks) := goodIn_app (goodIn_of _ (by decide +kernel)) ggX6_meanDepth_X6_ofAllBlocks
set_option maxRecDepth 20000 in
theorem ggX6_waitShare_X6_ofAllTrains : GoodIn wsX6_waitShare wsX6_ofAllTrains := goodIn_r _ [7, 2, 8, 9, 6, 10, 11, 12, 13, 14, 15, 16, 17, 18, 19, 20, 21, 22, 23, 24, 25, 26, 27, 28, 29, 30, 31] (by decide +kernel) (by decide +kernel)
set_option maxRecDepth 20000 in
theorem gX6_waitShare_X6_ofAllTrains : GoodIn wsX6_waitShare (wsV RX6 224 RX6 yX6_ofAllTrains wsX6_ofAllTrains) := goodIn_app (goodIn_of _ (by decide +kernel)) ggX6_waitShare_X6_ofAllTrains
set_option maxRecDepth 20000 in
theorem ggX6_advance_X6_in : GoodIn wsX6_advance wsX6_in := goodIn_r _ [5] (by decide +kernel) (by decide +kernel)
set_option maxRecDepth 20000 in
theorem gX6_advance_X6_in : GoodIn wsX6_advance (va_wsS RX6 54 yX6_in wsX6_in) := goodIn_app (goodIn_of _ (by decide +kernel)) ggX6_advance_X6_in
set_option maxRecDepth 20000 in
theorem ggX6_advance_X6_refuse : GoodIn wsX6_advance wsX6_refuse := goodIn_r _ [9, 10, 74, 75, 76, 77, 78, 79, 80, 81, 82, 83, 84, 85, 86, 87, 88, 89, 90, 91, 92, 93, 94] (by decide +kernel) (by decide +kernel)
set_option maxRecDepth 20000 in
theorem gX6_advance_X6_refuse : GoodIn wsX6_advance (wsV RX6 183 RX6 yX6_refuse wsX6_refuse) := goodIn_app (goodIn_of _ (by decide +kernel)) ggX6_advance_X6_refuse
set_option maxRecDepth 20000 in
theorem ggX6_advance_X6_remembers : GoodIn wsX6_advance wsX6_remembers := goodIn_r _ [14, 15, 16, 1, 17, 18, 19, 4, 20, 74, 75, 76, 77, 78, 79, 80, 81, 82, 83, 84, 85, 86, 87, 88, 89, 90, 91, 92, 93, 94] (by decide +kernel) (by decide +kernel)
set_option maxRecDepth 20000 in
theorem gX6_advance_X6_remembers : GoodIn wsX6_advance (wsV RX6 233 RX6 yX6_remembers wsX6_remembers) := goodIn_app (goodIn_of _ (by decide +kernel)) ggX6_advance_X6_remembers
set_option maxRecDepth 20000 in
theorem ggX6_advance_X6_passes : GoodIn wsX6_advance wsX6_passes := goodIn_r _ [24, 25, 26, 27, 4, 28, 1, 29, 30, 31, 32, 33, 34, 35, 36, 37, 38, 39, 40, 41, 42, 43, 44, 45, 46, 47, 48, 49, 50, 51, 52, 53, 54, 55, 56, 57, 58, 59, 60, 61, 62, 63, 64, 65, 66, 67, 68, 69, 74, 75, 76, 77, 78, 79, 80, 81, 82, 83, 84, 85, 86, 87, 88, 89, 90, 91, 92, 93, 94] (by decide +kernel) (by decide +kernel)
set_option maxRecDepth 20000 in
theorem gX6_advance_X6_passes : GoodIn wsX6_advance (wsV RX6 48 RX6 yX6_passes wsX6_passes) := goodIn_app (goodIn_of _ (by decide +kernel)) ggX6_advance_X6_passes
set_option maxRecDepth 20000 in
theorem ggX6_advance_X6_told : GoodIn wsX6_advance wsX6_told := goodIn_r _ [73, 10, 74, 75, 76, 77, 78, 79, 80, 81, 82, 83, 84, 85, 86, 87, 88, 89, 90, 91, 92, 93, 94] (by decide +kernel) (by decide +kernel)
set_option maxRecDepth 20000 in
theorem gX6_advance_X6_told : GoodIn wsX6_advance (wsV RX6 189 RX6 yX6_told wsX6_told) := goodIn_app (goodIn_of _ (by decide +kernel)) ggX6_advance_X6_told
set_option maxRecDepth 20000 in
theorem ggX6_pull_X6_isBlock : GoodIn wsX6_pull wsX6_isBlock := goodIn_r _ [6, 1, 7, 8, 5, 9, 55, 56, 57, 58, 59, 60, 61, 62, 63, 64, 65, 66, 67, 68, 69, 70, 71, 72, 73, 74, 75] (by decide +kernel) (by decide +kernel)
set_option maxRecDepth 20000 in
theorem gX6_pull_X6_isBlock : GoodIn wsX6_pull (wsV RX6 207 RX6 yX6_isBlock wsX6_isBlock) := goodIn_app (goodIn_of _ (by decide +kernel)) ggX6_pull_X6_isBlock
set_option maxRecDepth 20000 in
theorem ggX6_pull_X6_refuse : GoodIn wsX6_pull wsX6_refuse := goodIn_r _ [13, 14, 55, 56, 57, 58, 59, 60, 61, 62, 63, 64, 65, 66, 67, 68, 69, 70, 71, 72, 73, 74, 75] (by decide +kernel) (by decide +kernel)
set_option maxRecDepth 20000 in
theorem gX6_pull_X6_refuse : GoodIn wsX6_pull (wsV RX6 183 RX6 yX6_refuse wsX6_refuse) := goodIn_app (goodIn_of _ (by decide +kernel)) ggX6_pull_X6_refuse
set_option maxRecDepth 20000 in
theorem ggX6_pull_X6_reason : GoodIn wsX6_pull wsX6_reason := goodIn_r _ [18, 1, 19, 20, 21, 5, 22, 23, 24, 25, 26, 27, 28, 29, 30, 31, 32, 33, 34, 35, 36, 55, 56, 57, 58, 59, 60, 61, 62, 63, 64, 65, 66, 67, 68, 69, 70, 71, 72, 73, 74, 75] (by decide +kernel) (by decide +kernel)
set_option maxRecDepth 20000 in
theorem gX6_pull_X6_reason : GoodIn wsX6_pull (wsV RX6 156 RX6 yX6_reason wsX6_reason) := goodIn_app (goodIn_of _ (by decide +kernel)) ggX6_pull_X6_reason
set_option maxRecDepth 20000 in
theorem ggX6_pull_X6_remembers : GoodIn wsX6_pull wsX6_remembers := goodIn_r _ [40, 41, 42, 1, 43, 44, 45, 5, 46, 55, 56, 57, 58, 59, 60, 61, 62, 63, 64, 65, 66, 67, 68, 69, 70, 71, 72, 73, 74, 75] (by decide +kernel) (by decide +kernel)
set_option maxRecDepth 20000 in
theorem gX6_pull_X6_remembers : GoodIn wsX6_pull (wsV RX6 233 RX6 yX6_remembers wsX6_remembers) := goodIn_app (goodIn_of _ (by decide +kernel)) ggX6_pull_X6_remembers
set_option maxRecDepth 20000 in
theorem ggX6_pull_X6_b : GoodIn wsX6_pull wsX6_b := goodIn_r _ [28] (by decide +kernel) (by decide +kernel)
set_option maxRecDepth 20000 in
theorem gX6_pull_X6_b : GoodIn wsX6_pull (va_wsS RX6 44 yX6_b wsX6_b) := goodIn_app (goodIn_of _ (by decide +kernel)) ggX6_pull_X6_b
set_option maxRecDepth 20000 in
theorem ggX6_pull_X6_clearSignals : GoodIn wsX6_pull wsX6_clearSignals := goodIn_r _ [50, 1, 26, 27, 5, 28, 55, 56, 57, 58, 59, 60, 61, 62, 63, 64, 65, 66, 67, 68, 69, 70, 71, 72, 73, 74, 75] (by decide +kernel) (by decide +kernel)
set_option maxRecDepth 20000 in
theorem gX6_pull_X6_clearSignals : GoodIn wsX6_pull (wsV RX6 236 RX6 yX6_clearSignals wsX6_clearSignals) := goodIn_app (goodIn_of _ (by decide +kernel)) ggX6_pull_X6_clearSignals
set_option maxRecDepth 20000 in
theorem ggX6_pull_X6_told : GoodIn wsX6_pull wsX6_told := goodIn_r _ [54, 14, 55, 56, 57, 58, 59, 60, 61, 62, 63, 64, 65, 66, 67, 68, 69, 70, 71, 72, 73, 74, 75] (by decide +kernel) (by decide +kernel)
set_option maxRecDepth 20000 in
theorem gX6_pull_X6_told : GoodIn wsX6_pull (wsV RX6 189 RX6 yX6_told wsX6_told) := goodIn_app (goodIn_of _ (by decide +kernel)) ggX6_pull_X6_told
set_option maxRecDepth 20000 in
theorem ggX6_setDanger_X6_isBlock : GoodIn wsX6_setDanger wsX6_isBlock := goodIn_r _ [6, 1, 7, 8, 5, 9, 36, 37, 38, 39, 40, 41, 42, 43, 44, 45, 46, 47, 48, 49, 50, 51, 52, 53, 54, 55, 56] (by decide +kernel) (by decide +kernel)
set_option maxRecDepth 20000 in
theorem gX6_setDanger_X6_isBlock : GoodIn wsX6_setDanger (wsV RX6 207 RX6 yX6_isBlock wsX6_isBlock) := goodIn_app (goodIn_of _ (by decide +kernel)) ggX6_setDanger_X6_isBlock
set_option maxRecDepth 20000 in
theorem ggX6_setDanger_X6_refuse : GoodIn wsX6_setDanger wsX6_refuse := goodIn_r _ [13, 14, 36, 37, 38, 39, 40, 41, 42, 43, 44, 45, 46, 47, 48, 49, 50, 51, 52, 53, 54, 55, 56] (by decide +kernel) (by decide +kernel)
set_option maxRecDepth 20000 in
theorem gX6_setDanger_X6_refuse : GoodIn wsX6_setDanger (wsV RX6 183 RX6 yX6_refuse wsX6_refuse) := goodIn_app (goodIn_of _ (by decide +kernel)) ggX6_setDanger_X6_refuse
set_option maxRecDepth 20000 in
theorem ggX6_setDanger_X6_b : GoodIn wsX6_setDanger wsX6_b := goodIn_r _ [17] (by decide +kernel) (by decide +kernel)
set_option maxRecDepth 20000 in
theorem gX6_setDanger_X6_b : GoodIn wsX6_setDanger (va_wsS RX6 44 yX6_b wsX6_b) := goodIn_app (goodIn_of _ (by decide +kernel)) ggX6_setDanger_X6_b
set_option maxRecDepth 20000 in
theorem ggX6_setDanger_X6_remembers : GoodIn wsX6_setDanger wsX6_remembers := goodIn_r _ [21, 22, 23, 1, 24, 25, 26, 5, 27, 36, 37, 38, 39, 40, 41, 42, 43, 44, 45, 46, 47, 48, 49, 50, 51, 52, 53, 54, 55, 56] (by decide +kernel) (by decide +kernel)
set_option maxRecDepth 20000 in
theorem gX6_setDanger_X6_remembers : GoodIn wsX6_setDanger (wsV RX6 233 RX6 yX6_remembers wsX6_remembers) := goodIn_app (goodIn_of _ (by decide +kernel)) ggX6_setDanger_X6_remembers
set_option maxRecDepth 20000 in
theorem ggX6_setDanger_X6_clearSignals : GoodIn wsX6_setDanger wsX6_clearSignals := goodIn_r _ [31, 1, 15, 16, 5, 17, 36, 37, 38, 39, 40, 41, 42, 43, 44, 45, 46, 47, 48, 49, 50, 51, 52, 53, 54, 55, 56] (by decide +kernel) (by decide +kernel)
set_option maxRecDepth 20000 in
theorem gX6_setDanger_X6_clearSignals : GoodIn wsX6_setDanger (wsV RX6 236 RX6 yX6_clearSignals wsX6_clearSignals) := goodIn_app (goodIn_of _ (by decide +kernel)) ggX6_setDanger_X6_clearSignals
set_option maxRecDepth 20000 in
theorem ggX6_setDanger_X6_told : GoodIn wsX6_setDanger wsX6_told := goodIn_r _ [35, 14, 36, 37, 38, 39, 40, 41, 42, 43, 44, 45, 46, 47, 48, 49, 50, 51, 52, 53, 54, 55, 56] (by decide +kernel) (by decide +kernel)
set_option maxRecDepth 20000 in
theorem gX6_setDanger_X6_told : GoodIn wsX6_setDanger (wsV RX6 189 RX6 yX6_told wsX6_told) := goodIn_app (goodIn_of _ (by decide +kernel)) ggX6_setDanger_X6_told
set_option maxRecDepth 20000 in
theorem ggX6_repair_X6_isBlock : GoodIn wsX6_repair wsX6_isBlock := goodIn_r _ [6, 1, 7, 8, 5, 9, 39, 40, 41, 42, 43, 44, 45, 46, 47, 48, 49, 50, 51, 52, 53, 54, 55, 56, 57, 58, 59] (by decide +kernel) (by decide +kernel)
set_option maxRecDepth 20000 in
theorem gX6_repair_X6_isBlock : GoodIn wsX6_repair (wsV RX6 207 RX6 yX6_isBlock wsX6_isBlock) := goodIn_app (goodIn_of _ (by decide +kernel)) ggX6_repair_X6_isBlock
set_option maxRecDepth 20000 in
theorem ggX6_repair_X6_refuse : GoodIn wsX6_repair wsX6_refuse := goodIn_r _ [13, 14, 39, 40, 41, 42, 43, 44, 45, 46, 47, 48, 49, 50, 51, 52, 53, 54, 55, 56, 57, 58, 59] (by decide +kernel) (by decide +kernel)
set_option maxRecDepth 20000 in
theorem gX6_repair_X6_refuse : GoodIn wsX6_repair (wsV RX6 183 RX6 yX6_refuse wsX6_refuse) := goodIn_app (goodIn_of _ (by decide +kernel)) ggX6_repair_X6_refuse
set_option maxRecDepth 20000 in
theorem ggX6_repair_X6_trainAt : GoodIn wsX6_repair wsX6_trainAt := goodIn_r _ [18, 1, 19, 20, 5, 21, 39, 40, 41, 42, 43, 44, 45, 46, 47, 48, 49, 50, 51, 52, 53, 54, 55, 56, 57, 58, 59] (by decide +kernel) (by decide +kernel)
set_option maxRecDepth 20000 in
theorem gX6_repair_X6_trainAt : GoodIn wsX6_repair (wsV RX6 61 RX6 yX6_trainAt wsX6_trainAt) := goodIn_app (goodIn_of _ (by decide +kernel)) ggX6_repair_X6_trainAt
set_option maxRecDepth 20000 in
theorem ggX6_repair_X6_remembers : GoodIn wsX6_repair wsX6_remembers := goodIn_r _ [25, 26, 27, 1, 28, 29, 30, 5, 31, 39, 40, 41, 42, 43, 44, 45, 46, 47, 48, 49, 50, 51, 52, 53, 54, 55, 56, 57, 58, 59] (by decide +kernel) (by decide +kernel)
set_option maxRecDepth 20000 in
theorem gX6_repair_X6_remembers : GoodIn wsX6_repair (wsV RX6 233 RX6 yX6_remembers wsX6_remembers) := goodIn_app (goodIn_of _ (by decide +kernel)) ggX6_repair_X6_remembers
set_option maxRecDepth 20000 in
theorem ggX6_repair_X6_b : GoodIn wsX6_repair wsX6_b := goodIn_r _ [34] (by decide +kernel) (by decide +kernel)
set_option maxRecDepth 20000 in
theorem gX6_repair_X6_b : GoodIn wsX6_repair (va_wsS RX6 44 yX6_b wsX6_b) := goodIn_app (goodIn_of _ (by decide +kernel)) ggX6_repair_X6_b
set_option maxRecDepth 20000 in
theorem ggX6_repair_X6_told : GoodIn wsX6_repair wsX6_told := goodIn_r _ [38, 14, 39, 40, 41, 42, 43, 44, 45, 46, 47, 48, 49, 50, 51, 52, 53, 54, 55, 56, 57, 58, 59] (by decide +kernel) (by decide +kernel)
set_option maxRecDepth 20000 in
theorem gX6_repair_X6_told : GoodIn wsX6_repair (wsV RX6 189 RX6 yX6_told wsX6_told) := goodIn_app (goodIn_of _ (by decide +kernel)) ggX6_repair_X6_told
set_option maxRecDepth 20000 in
theorem ggX6_removeWagons_X6_isBlock : GoodIn wsX6_removeWagons wsX6_isBlock := goodIn_r _ [6, 1, 7, 8, 5, 9, 32, 33, 34, 35, 36, 37, 38, 39, 40, 41, 42, 43, 44, 45, 46, 47, 48, 49, 50, 51, 52] (by decide +kernel) (by decide +kernel)
set_option maxRecDepth 20000 in
theorem gX6_removeWagons_X6_isBlock : GoodIn wsX6_removeWagons (wsV RX6 207 RX6 yX6_isBlock wsX6_isBlock) := goodIn_app (goodIn_of _ (by decide +kernel)) ggX6_removeWagons_X6_isBlock
set_option maxRecDepth 20000 in
theorem ggX6_removeWagons_X6_refuse : GoodIn wsX6_removeWagons wsX6_refuse := goodIn_r _ [13, 14, 32, 33, 34, 35, 36, 37, 38, 39, 40, 41, 42, 43, 44, 45, 46, 47, 48, 49, 50, 51, 52] (by decide +kernel) (by decide +kernel)
set_option maxRecDepth 20000 in
theorem gX6_removeWagons_X6_refuse : GoodIn wsX6_removeWagons (wsV RX6 183 RX6 yX6_refuse wsX6_refuse) := goodIn_app (goodIn_of _ (by decide +kernel)) ggX6_removeWagons_X6_refuse
set_option maxRecDepth 20000 in
theorem ggX6_removeWagons_X6_remembers : GoodIn wsX6_removeWagons wsX6_remembers := goodIn_r _ [18, 19, 20, 1, 21, 22, 23, 5, 24, 32, 33, 34, 35, 36, 37, 38, 39, 40, 41, 42, 43, 44, 45, 46, 47, 48, 49, 50, 51, 52] (by decide +kernel) (by decide +kernel)
set_option maxRecDepth 20000 in
theorem gX6_removeWagons_X6_remembers : GoodIn wsX6_removeWagons (wsV RX6 233 RX6 yX6_remembers wsX6_remembers) := goodIn_app (goodIn_of _ (by decide +kernel)) ggX6_removeWagons_X6_remembers
set_option maxRecDepth 20000 in
theorem ggX6_removeWagons_X6_b : GoodIn wsX6_removeWagons wsX6_b := goodIn_r _ [27] (by decide +kernel) (by decide +kernel)
set_option maxRecDepth 20000 in
theorem gX6_removeWagons_X6_b : GoodIn wsX6_removeWagons (va_wsS RX6 44 yX6_b wsX6_b) := goodIn_app (goodIn_of _ (by decide +kernel)) ggX6_removeWagons_X6_b
set_option maxRecDepth 20000 in
theorem ggX6_removeWagons_X6_told : GoodIn wsX6_removeWagons wsX6_told := goodIn_r _ [31, 14, 32, 33, 34, 35, 36, 37, 38, 39, 40, 41, 42, 43, 44, 45, 46, 47, 48, 49, 50, 51, 52] (by decide +kernel) (by decide +kernel)
set_option maxRecDepth 20000 in
theorem gX6_removeWagons_X6_told : GoodIn wsX6_removeWagons (wsV RX6 189 RX6 yX6_told wsX6_told) := goodIn_app (goodIn_of _ (by decide +kernel)) ggX6_removeWagons_X6_told
set_option maxRecDepth 20000 in
theorem ggX6_addWagons_X6_isTrain : GoodIn wsX6_addWagons wsX6_isTrain := goodIn_r _ [6, 1, 7, 8, 5, 9, 32, 33, 34, 35, 36, 37, 38, 39, 40, 41, 42, 43, 44, 45, 46, 47, 48, 49, 50, 51, 52] (by decide +kernel) (by decide +kernel)
set_option maxRecDepth 20000 in
theorem gX6_addWagons_X6_isTrain : GoodIn wsX6_addWagons (wsV RX6 221 RX6 yX6_isTrain wsX6_isTrain) := goodIn_app (goodIn_of _ (by decide +kernel)) ggX6_addWagons_X6_isTrain
set_option maxRecDepth 20000 in
theorem ggX6_addWagons_X6_refuse : GoodIn wsX6_addWagons wsX6_refuse := goodIn_r _ [13, 14, 32, 33, 34, 35, 36, 37, 38, 39, 40, 41, 42, 43, 44, 45, 46, 47, 48, 49, 50, 51, 52] (by decide +kernel) (by decide +kernel)
set_option maxRecDepth 20000 in
theorem gX6_addWagons_X6_refuse : GoodIn wsX6_addWagons (wsV RX6 183 RX6 yX6_refuse wsX6_refuse) := goodIn_app (goodIn_of _ (by decide +kernel)) ggX6_addWagons_X6_refuse
set_option maxRecDepth 20000 in
theorem ggX6_addWagons_X6_in : GoodIn wsX6_addWagons wsX6_in := goodIn_r _ [9] (by decide +kernel) (by decide +kernel)
set_option maxRecDepth 20000 in
theorem gX6_addWagons_X6_in : GoodIn wsX6_addWagons (va_wsS RX6 54 yX6_in wsX6_in) := goodIn_app (goodIn_of _ (by decide +kernel)) ggX6_addWagons_X6_in
set_option maxRecDepth 20000 in
theorem ggX6_addWagons_X6_t : GoodIn wsX6_addWagons wsX6_t := goodIn_r _ [17] (by decide +kernel) (by decide +kernel)
set_option maxRecDepth 20000 in
theorem gX6_addWagons_X6_t : GoodIn wsX6_addWagons (va_wsS RX6 58 yX6_t wsX6_t) := goodIn_app (goodIn_of _ (by decide +kernel)) ggX6_addWagons_X6_t
set_option maxRecDepth 20000 in
theorem ggX6_addWagons_X6_remembers : GoodIn wsX6_addWagons wsX6_remembers := goodIn_r _ [21, 22, 23, 1, 24, 25, 26, 5, 27, 32, 33, 34, 35, 36, 37, 38, 39, 40, 41, 42, 43, 44, 45, 46, 47, 48, 49, 50, 51, 52] (by decide +kernel) (by decide +kernel)
set_option maxRecDepth 20000 in
theorem gX6_addWagons_X6_remembers : GoodIn wsX6_addWagons (wsV RX6 233 RX6 yX6_remembers wsX6_remembers) := goodIn_app (goodIn_of _ (by decide +kernel)) ggX6_addWagons_X6_remembers
set_option maxRecDepth 20000 in
theorem ggX6_addWagons_X6_told : GoodIn wsX6_addWagons wsX6_told := goodIn_r _ [31, 14, 32, 33, 34, 35, 36, 37, 38, 39, 40, 41, 42, 43, 44, 45, 46, 47, 48, 49, 50, 51, 52] (by decide +kernel) (by decide +kernel)
set_option maxRecDepth 20000 in
theorem gX6_addWagons_X6_told : GoodIn wsX6_addWagons (wsV RX6 189 RX6 yX6_told wsX6_told) := goodIn_app (goodIn_of _ (by decide +kernel)) ggX6_addWagons_X6_told
set_option maxRecDepth 20000 in
theorem ggX6_setTopSpeed_X6_isTrain : GoodIn wsX6_setTopSpeed wsX6_isTrain := goodIn_r _ [6, 1, 7, 8, 5, 9, 32, 33, 34, 35, 36, 37, 38, 39, 40, 41, 42, 43, 44, 45, 46, 47, 48, 49, 50, 51, 52] (by decide +kernel) (by decide +kernel)
set_option maxRecDepth 20000 in
theorem gX6_setTopSpeed_X6_isTrain : GoodIn wsX6_setTopSpeed (wsV RX6 221 RX6 yX6_isTrain wsX6_isTrain) := goodIn_app (goodIn_of _ (by decide +kernel)) ggX6_setTopSpeed_X6_isTrain
set_option maxRecDepth 20000 in
theorem ggX6_setTopSpeed_X6_refuse : GoodIn wsX6_setTopSpeed wsX6_refuse := goodIn_r _ [13, 14, 32, 33, 34, 35, 36, 37, 38, 39, 40, 41, 42, 43, 44, 45, 46, 47, 48, 49, 50, 51, 52] (by decide +kernel) (by decide +kernel)
set_option maxRecDepth 20000 in
theorem gX6_setTopSpeed_X6_refuse : GoodIn wsX6_setTopSpeed (wsV RX6 183 RX6 yX6_refuse wsX6_refuse) := goodIn_app (goodIn_of _ (by decide +kernel)) ggX6_setTopSpeed_X6_refuse
set_option maxRecDepth 20000 in
theorem ggX6_setTopSpeed_X6_in : GoodIn wsX6_setTopSpeed wsX6_in := goodIn_r _ [9] (by decide +kernel) (by decide +kernel)
set_option maxRecDepth 20000 in
theorem gX6_setTopSpeed_X6_in : GoodIn wsX6_setTopSpeed (va_wsS RX6 54 yX6_in wsX6_in) := goodIn_app (goodIn_of _ (by decide +kernel)) ggX6_setTopSpeed_X6_in
set_option maxRecDepth 20000 in
theorem ggX6_setTopSpeed_X6_remembers : GoodIn wsX6_setTopSpeed wsX6_remembers := goodIn_r _ [18, 19, 20, 1, 21, 22, 23, 5, 24, 32, 33, 34, 35, 36, 37, 38, 39, 40, 41, 42, 43, 44, 45, 46, 47, 48, 49, 50, 51, 52] (by decide +kernel) (by decide +kernel)
set_option maxRecDepth 20000 in
theorem gX6_setTopSpeed_X6_remembers : GoodIn wsX6_setTopSpeed (wsV RX6 233 RX6 yX6_remembers wsX6_remembers) := goodIn_app (goodIn_of _ (by decide +kernel)) ggX6_setTopSpeed_X6_remembers
set_option maxRecDepth 20000 in
theorem ggX6_setTopSpeed_X6_t : GoodIn wsX6_setTopSpeed wsX6_t := goodIn_r _ [27] (by decide +kernel) (by decide +kernel)
set_option maxRecDepth 20000 in
theorem gX6_setTopSpeed_X6_t : GoodIn wsX6_setTopSpeed (va_wsS RX6 58 yX6_t wsX6_t) := goodIn_app (goodIn_of _ (by decide +kernel)) ggX6_setTopSpeed_X6_t
set_option maxRecDepth 20000 in
theorem ggX6_setTopSpeed_X6_told : GoodIn wsX6_setTopSpeed wsX6_told := goodIn_r _ [31, 14, 32, 33, 34, 35, 36, 37, 38, 39, 40, 41, 42, 43, 44, 45, 46, 47, 48, 49, 50, 51, 52] (by decide +kernel) (by decide +kernel)
set_option maxRecDepth 20000 in
theorem gX6_setTopSpeed_X6_told : GoodIn wsX6_setTopSpeed (wsV RX6 189 RX6 yX6_told wsX6_told) := goodIn_app (goodIn_of _ (by decide +kernel)) ggX6_setTopSpeed_X6_told
set_option maxRecDepth 20000 in
theorem ggX6_restore_X6_in : GoodIn wsX6_restore wsX6_in := goodIn_r _ [7] (by decide +kernel) (by decide +kernel)
set_option maxRecDepth 20000 in
theorem gX6_restore_X6_in : GoodIn wsX6_restore (va_wsS RX6 54 yX6_in wsX6_in) := goodIn_app (goodIn_of _ (by decide +kernel)) ggX6_restore_X6_in
set_option maxRecDepth 20000 in
theorem ggX6_restore_X6_refuse : GoodIn wsX6_restore wsX6_refuse := goodIn_r _ [11, 12, 27, 28, 29, 30, 31, 32, 33, 34, 35, 36, 37, 38, 39, 40, 41, 42, 43, 44, 45, 46, 47] (by decide +kernel) (by decide +kernel)
set_option maxRecDepth 20000 in
theorem gX6_restore_X6_refuse : GoodIn wsX6_restore (wsV RX6 183 RX6 yX6_refuse wsX6_refuse) := goodIn_app (goodIn_of _ (by decide +kernel)) ggX6_restore_X6_refuse
set_option maxRecDepth 20000 in
theorem ggX6_restore_X6_remembers : GoodIn wsX6_restore wsX6_remembers := goodIn_r _ [16, 17, 18, 2, 19, 20, 21, 6, 22, 27, 28, 29, 30, 31, 32, 33, 34, 35, 36, 37, 38, 39, 40, 41, 42, 43, 44, 45, 46, 47] (by decide +kernel) (by decide +kernel)
set_option maxRecDepth 20000 in
theorem gX6_restore_X6_remembers : GoodIn wsX6_restore (wsV RX6 233 RX6 yX6_remembers wsX6_remembers) := goodIn_app (goodIn_of _ (by decide +kernel)) ggX6_restore_X6_remembers
set_option maxRecDepth 20000 in
theorem ggX6_restore_X6_told : GoodIn wsX6_restore wsX6_told := goodIn_r _ [26, 12, 27, 28, 29, 30, 31, 32, 33, 34, 35, 36, 37, 38, 39, 40, 41, 42, 43, 44, 45, 46, 47] (by decide +kernel) (by decide +kernel)
set_option maxRecDepth 20000 in
theorem gX6_restore_X6_told : GoodIn wsX6_restore (wsV RX6 189 RX6 yX6_told wsX6_told) := goodIn_app (goodIn_of _ (by decide +kernel)) ggX6_restore_X6_told
set_option maxRecDepth 20000 in
theorem ggX6_undo_X6_refuse : GoodIn wsX6_undo wsX6_refuse := goodIn_r _ [8, 9, 14, 15, 16, 17, 18, 19, 20, 21, 22, 23, 24, 25, 26, 27, 28, 29, 30, 31, 32, 33, 34] (by decide +kernel) (by decide +kernel)
set_option maxRecDepth 20000 in
theorem gX6_undo_X6_refuse : GoodIn wsX6_undo (wsV RX6 183 RX6 yX6_refuse wsX6_refuse) := goodIn_app (goodIn_of _ (by decide +kernel)) ggX6_undo_X6_refuse
set_option maxRecDepth 20000 in
theorem ggX6_undo_X6_told : GoodIn wsX6_undo wsX6_told := goodIn_r _ [13, 9, 14, 15, 16, 17, 18, 19, 20, 21, 22, 23, 24, 25, 26, 27, 28, 29, 30, 31, 32, 33, 34] (by decide +kernel) (by decide +kernel)
set_option maxRecDepth 20000 in
theorem gX6_undo_X6_told : GoodIn wsX6_undo (wsV RX6 189 RX6 yX6_told wsX6_told) := goodIn_app (goodIn_of _ (by decide +kernel)) ggX6_undo_X6_told
set_option maxRecDepth 20000 in
theorem ggX6_save_X6_in : GoodIn wsX6_save wsX6_in := goodIn_r _ [7] (by decide +kernel) (by decide +kernel)
set_option maxRecDepth 20000 in
theorem gX6_save_X6_in : GoodIn wsX6_save (va_wsS RX6 54 yX6_in wsX6_in) := goodIn_app (goodIn_of _ (by decide +kernel)) ggX6_save_X6_in
set_option maxRecDepth 20000 in
theorem ggX6_save_X6_refuse : GoodIn wsX6_save wsX6_refuse := goodIn_r _ [11, 12, 17, 18, 19, 20, 21, 22, 23, 24, 25, 26, 27, 28, 29, 30, 31, 32, 33, 34, 35, 36, 37] (by decide +kernel) (by decide +kernel)
set_option maxRecDepth 20000 in
theorem gX6_save_X6_refuse : GoodIn wsX6_save (wsV RX6 183 RX6 yX6_refuse wsX6_refuse) := goodIn_app (goodIn_of _ (by decide +kernel)) ggX6_save_X6_refuse
set_option maxRecDepth 20000 in
theorem ggX6_save_X6_told : GoodIn wsX6_save wsX6_told := goodIn_r _ [16, 12, 17, 18, 19, 20, 21, 22, 23, 24, 25, 26, 27, 28, 29, 30, 31, 32, 33, 34, 35, 36, 37] (by decide +kernel) (by decide +kernel)
set_option maxRecDepth 20000 in
theorem gX6_save_X6_told : GoodIn wsX6_save (wsV RX6 189 RX6 yX6_told wsX6_told) := goodIn_app (goodIn_of _ (by decide +kernel)) ggX6_save_X6_told
set_option maxRecDepth 20000 in
theorem ggX6_writesNumber_X6_writes : GoodIn wsX6_writesNumber wsX6_writes := goodIn_r _ [5, 6, 7, 8, 9, 10, 11, 12, 13, 14, 15, 16, 17, 18, 19, 20, 21, 22, 23, 24, 25, 26, 27, 28] (by decide +kernel) (by decide +kernel)
set_option maxRecDepth 20000 in
theorem gX6_writesNumber_X6_writes : GoodIn wsX6_writesNumber (wsV RX6 242 RX6 yX6_writes wsX6_writes) := goodIn_app (goodIn_of _ (by decide +kernel)) ggX6_writesNumber_X6_writes
set_option maxRecDepth 20000 in
theorem ggX6_writeRing_X6_trainAt : GoodIn wsX6_writeRing wsX6_trainAt := goodIn_r _ [7, 2, 8, 9, 6, 10, 24, 25, 26, 27, 28, 29, 30, 31, 32, 33, 34, 35, 36, 37, 38, 39, 40, 41, 42, 43, 44] (by decide +kernel) (by decide +kernel)
set_option maxRecDepth 20000 in
theorem gX6_writeRing_X6_trainAt : GoodIn wsX6_writeRing (wsV RX6 61 RX6 yX6_trainAt wsX6_trainAt) := goodIn_app (goodIn_of _ (by decide +kernel)) ggX6_writeRing_X6_trainAt
set_option maxRecDepth 20000 in
theorem ggX6_writeRing_X6_b : GoodIn wsX6_writeRing wsX6_b := goodIn_r _ [13] (by decide +kernel) (by decide +kernel)
set_option maxRecDepth 20000 in
theorem gX6_writeRing_X6_b : GoodIn wsX6_writeRing (va_wsS RX6 44 yX6_b wsX6_b) := goodIn_app (goodIn_of _ (by decide +kernel)) ggX6_writeRing_X6_b
set_option maxRecDepth 20000 in
theorem ggX6_writeRing_X6_writes : GoodIn wsX6_writeRing wsX6_writes := goodIn_r _ [17, 18, 1, 24, 25, 26, 27, 28, 29, 30, 31, 32, 33, 34, 35, 36, 37, 38, 39, 40, 41, 42, 43, 44] (by decide +kernel) (by decide +kernel)
set_option maxRecDepth 20000 in
theorem gX6_writeRing_X6_writes : GoodIn wsX6_writeRing (wsV RX6 242 RX6 yX6_writes wsX6_writes) := goodIn_app (goodIn_of _ (by decide +kernel)) ggX6_writeRing_X6_writes
set_option maxRecDepth 20000 in
theorem ggX6_writeRing_X6_told : GoodIn wsX6_writeRing wsX6_told := goodIn_r _ [22, 23, 24, 25, 26, 27, 28, 29, 30, 31, 32, 33, 34, 35, 36, 37, 38, 39, 40, 41, 42, 43, 44] (by decide +kernel) (by decide +kernel)
set_option maxRecDepth 20000 in
theorem gX6_writeRing_X6_told : GoodIn wsX6_writeRing (wsV RX6 189 RX6 yX6_told wsX6_told) := goodIn_app (goodIn_of _ (by decide +kernel)) ggX6_writeRing_X6_told
set_option maxRecDepth 20000 in
theorem ggX6_writeTrain_X6_isTrain : GoodIn wsX6_writeTrain wsX6_isTrain := goodIn_r _ [7, 2, 8, 9, 6, 10, 35, 36, 37, 38, 39, 40, 41, 42, 43, 44, 45, 46, 47, 48, 49, 50, 51, 52, 53, 54, 55] (by decide +kernel) (by decide +kernel)
set_option maxRecDepth 20000 in
theorem gX6_writeTrain_X6_isTrain : GoodIn wsX6_writeTrain (wsV RX6 221 RX6 yX6_isTrain wsX6_isTrain) := goodIn_app (goodIn_of _ (by decide +kernel)) ggX6_writeTrain_X6_isTrain
set_option maxRecDepth 20000 in
theorem ggX6_writeTrain_X6_refuse : GoodIn wsX6_writeTrain wsX6_refuse := goodIn_r _ [14, 15, 35, 36, 37, 38, 39, 40, 41, 42, 43, 44, 45, 46, 47, 48, 49, 50, 51, 52, 53, 54, 55] (by decide +kernel) (by decide +kernel)
set_option maxRecDepth 20000 in
theorem gX6_writeTrain_X6_refuse : GoodIn wsX6_writeTrain (wsV RX6 183 RX6 yX6_refuse wsX6_refuse) := goodIn_app (goodIn_of _ (by decide +kernel)) ggX6_writeTrain_X6_refuse
set_option maxRecDepth 20000 in
theorem ggX6_writeTrain_X6_t : GoodIn wsX6_writeTrain wsX6_t := goodIn_r _ [18] (by decide +kernel) (by decide +kernel)
set_option maxRecDepth 20000 in
theorem gX6_writeTrain_X6_t : GoodIn wsX6_writeTrain (va_wsS RX6 58 yX6_t wsX6_t) := goodIn_app (goodIn_of _ (by decide +kernel)) ggX6_writeTrain_X6_t
set_option maxRecDepth 20000 in
theorem ggX6_writeTrain_X6_writesNumber : GoodIn wsX6_writeTrain wsX6_writesNumber := goodIn_r _ [22, 23, 24, 25, 6, 26, 27, 1, 35, 36, 37, 38, 39, 40, 41, 42, 43, 44, 45, 46, 47, 48, 49, 50, 51, 52, 53, 54, 55] (by decide +kernel) (by decide +kernel)
set_option maxRecDepth 20000 in
theorem gX6_writeTrain_X6_writesNumber : GoodIn wsX6_writeTrain (wsV RX6 245 RX6 yX6_writesNumber wsX6_writesNumber) := goodIn_app (goodIn_of _ (by decide +kernel)) ggX6_writeTrain_X6_writesNumber
set_option maxRecDepth 20000 in
theorem ggX6_writeTrain_X6_writes : GoodIn wsX6_writeTrain wsX6_writes := goodIn_r _ [26, 27, 1, 35, 36, 37, 38, 39, 40, 41, 42, 43, 44, 45, 46, 47, 48, 49, 50, 51, 52, 53, 54, 55] (by decide +kernel) (by decide +kernel)
set_option maxRecDepth 20000 in
theorem gX6_writeTrain_X6_writes : GoodIn wsX6_writeTrain (wsV RX6 242 RX6 yX6_writes wsX6_writes) := goodIn_app (goodIn_of _ (by decide +kernel)) ggX6_writeTrain_X6_writes
set_option maxRecDepth 20000 in
theorem ggX6_writeTrain_X6_b : GoodIn wsX6_writeTrain wsX6_b := goodIn_r _ [30] (by decide +kernel) (by decide +kernel)
set_option maxRecDepth 20000 in
theorem gX6_writeTrain_X6_b : GoodIn wsX6_writeTrain (va_wsS RX6 44 yX6_b wsX6_b) := goodIn_app (goodIn_of _ (by decide +kernel)) ggX6_writeTrain_X6_b
set_option maxRecDepth 20000 in
theorem ggX6_writeTrain_X6_told : GoodIn wsX6_writeTrain wsX6_told := goodIn_r _ [34, 15, 35, 36, 37, 38, 39, 40, 41, 42, 43, 44, 45, 46, 47, 48, 49, 50, 51, 52, 53, 54, 55] (by decide +kernel) (by decide +kernel)
set_option maxRecDepth 20000 in
theorem gX6_writeTrain_X6_told : GoodIn wsX6_writeTrain (wsV RX6 189 RX6 yX6_told wsX6_told) := goodIn_app (goodIn_of _ (by decide +kernel)) ggX6_writeTrain_X6_told
set_option maxRecDepth 20000 in
theorem ggX6_outputByte_X6_in : GoodIn wsX6_outputByte wsX6_in := goodIn_r _ [6] (by decide +kernel) (by decide +kernel)
set_option maxRecDepth 20000 in
theorem gX6_outputByte_X6_in : GoodIn wsX6_outputByte (va_wsS RX6 54 yX6_in wsX6_in) := goodIn_app (goodIn_of _ (by decide +kernel)) ggX6_outputByte_X6_in
set_option maxRecDepth 20000 in
theorem ggX6_outputByte_X6_refuse : GoodIn wsX6_outputByte wsX6_refuse := goodIn_r _ [10, 11, 16, 17, 18, 19, 20, 21, 22, 23, 24, 25, 26, 27, 28, 29, 30, 31, 32, 33, 34, 35, 36] (by decide +kernel) (by decide +kernel)
set_option maxRecDepth 20000 in
theorem gX6_outputByte_X6_refuse : GoodIn wsX6_outputByte (wsV RX6 183 RX6 yX6_refuse wsX6_refuse) := goodIn_app (goodIn_of _ (by decide +kernel)) ggX6_outputByte_X6_refuse
set_option maxRecDepth 20000 in
theorem ggX6_outputByte_X6_told : GoodIn wsX6_outputByte wsX6_told := goodIn_r _ [15, 11, 16, 17, 18, 19, 20, 21, 22, 23, 24, 25, 26, 27, 28, 29, 30, 31, 32, 33, 34, 35, 36] (by decide +kernel) (by decide +kernel)
set_option maxRecDepth 20000 in
theorem gX6_outputByte_X6_told : GoodIn wsX6_outputByte (wsV RX6 189 RX6 yX6_told wsX6_told) := goodIn_app (goodIn_of _ (by decide +kernel)) ggX6_outputByte_X6_told
