set_option maxRecDepth 20000 in
theorem ggL_trains_X5_limitOf : GoodIn wsL_trains wsX5_limitOf := goodIn_ca (goodIn_r _ [36, 10, 37, 38, 39, 8, 40, 26, 27, 11, 41, 42, 43, 44, 45, 46, 200, 201, 202, 203, 204, 205, 206, 207, 208, 209, 210, 211, 212, 213, 214, 215, 216, 217, 218, 219, 220, 221, 222, 223] (by decide +kernel) (by decide +kernel)) (goodIn_sub (fun _ h => List.mem_cons_of_mem _ (List.mem_append_left _ (List.mem_append_right _ h))) (by decide +kernel))
set_option maxRecDepth 20000 in
theorem gL_trains_X5_limitOf : GoodIn wsL_trains (wsV RL 159 RX5 yX5_limitOf wsX5_limitOf) := goodIn_app (goodIn_of _ (by decide +kernel)) ggL_trains_X5_limitOf
set_option maxRecDepth 20000 in
theorem ggL_trains_X5_lengthOf : GoodIn wsL_trains wsX5_lengthOf := goodIn_ca (goodIn_r _ [50, 10, 51, 37, 38, 39, 8, 40, 26, 27, 11, 200, 201, 202, 203, 204, 205, 206, 207, 208, 209, 210, 211, 212, 213, 214, 215, 216, 217, 218, 219, 220, 221, 222, 223] (by decide +kernel) (by decide +kernel)) (goodIn_sub (fun _ h => List.mem_cons_of_mem _ (List.mem_append_left _ (List.mem_append_right _ h))) (by decide +kernel))
set_option maxRecDepth 20000 in
theorem gL_trains_X5_lengthOf : GoodIn wsL_trains (wsV RL 191 RX5 yX5_lengthOf wsX5_lengthOf) := goodIn_app (goodIn_of _ (by decide +kernel)) ggL_trains_X5_lengthOf
set_option maxRecDepth 20000 in
theorem ggL_trains_X5_positionOf : GoodIn wsL_trains wsX5_positionOf := goodIn_ca (goodIn_r _ [55, 10, 56, 22, 23, 24, 8, 25, 26, 27, 16, 200, 201, 202, 203, 204, 205, 206, 207, 208, 209, 210, 211, 212, 213, 214, 215, 216, 217, 218, 219, 220, 221, 222, 223] (by decide +kernel) (by decide +kernel)) (goodIn_sub (fun _ h => List.mem_cons_of_mem _ (List.mem_append_left _ (List.mem_append_right _ h))) (by decide +kernel))
set_option maxRecDepth 20000 in
theorem gL_trains_X5_positionOf : GoodIn wsL_trains (wsV RL 122 RX5 yX5_positionOf wsX5_positionOf) := goodIn_app (goodIn_of _ (by decide +kernel)) ggL_trains_X5_positionOf
set_option maxRecDepth 20000 in
theorem ggL_trains_L_occupied : GoodIn wsL_trains wsL_occupied := goodIn_ca (goodIn_r _ [60, 61, 62, 63, 8, 64, 10, 65, 37, 38, 39, 40, 26, 27, 11, 66, 67, 68, 69, 70, 200, 201, 202, 203, 204, 205, 206, 207, 208, 209, 210, 211, 212, 213, 214, 215, 216, 217, 218, 219, 220, 221, 222, 223] (by decide +kernel) (by decide +kernel)) (goodIn_sub (fun _ h => List.mem_cons_of_mem _ (List.mem_append_left _ (List.mem_append_right _ h))) (by decide +kernel))
set_option maxRecDepth 20000 in
theorem gL_trains_L_occupied : GoodIn wsL_trains (va_wsS RL 149 yL_occupied wsL_occupied) := goodIn_app (goodIn_of _ (by decide +kernel)) ggL_trains_L_occupied
set_option maxRecDepth 20000 in
theorem ggL_trains_X5_trainIn : GoodIn wsL_trains wsX5_trainIn := goodIn_ca (goodIn_r _ [64, 10, 65, 37, 38, 39, 8, 40, 26, 27, 11, 200, 201, 202, 203, 204, 205, 206, 207, 208, 209, 210, 211, 212, 213, 214, 215, 216, 217, 218, 219, 220, 221, 222, 223] (by decide +kernel) (by decide +kernel)) (goodIn_sub (fun _ h => List.mem_cons_of_mem _ (List.mem_append_left _ (List.mem_append_right _ h))) (by decide +kernel))
set_option maxRecDepth 20000 in
theorem gL_trains_X5_trainIn : GoodIn wsL_trains (wsV RL 137 RX5 yX5_trainIn wsX5_trainIn) := goodIn_app (goodIn_of _ (by decide +kernel)) ggL_trains_X5_trainIn
set_option maxRecDepth 20000 in
theorem ggL_trains_X5_passages : GoodIn wsL_trains wsX5_passages := goodIn_ca (goodIn_r _ [74, 10, 22, 23, 24, 8, 25, 26, 27, 16, 37, 38, 39, 40, 11, 75, 76, 77, 44, 78, 79, 200, 201, 202, 203, 204, 205, 206, 207, 208, 209, 210, 211, 212, 213, 214, 215, 216, 217, 218, 219, 220, 221, 222, 223] (by decide +kernel) (by decide +kernel)) (goodIn_sub (fun _ h => List.mem_cons_of_mem _ (List.mem_append_left _ (List.mem_append_right _ h))) (by decide +kernel))
set_option maxRecDepth 20000 in
theorem gL_trains_X5_passages : GoodIn wsL_trains (wsV RL 134 RX5 yX5_passages wsX5_passages) := goodIn_app (goodIn_of _ (by decide +kernel)) ggL_trains_X5_passages
set_option maxRecDepth 20000 in
theorem ggL_trains_X5_wagonsOf : GoodIn wsL_trains wsX5_wagonsOf := goodIn_ca (goodIn_r _ [83, 10, 84, 22, 23, 24, 8, 25, 26, 27, 16, 200, 201, 202, 203, 204, 205, 206, 207, 208, 209, 210, 211, 212, 213, 214, 215, 216, 217, 218, 219, 220, 221, 222, 223] (by decide +kernel) (by decide +kernel)) (goodIn_sub (fun _ h => List.mem_cons_of_mem _ (List.mem_append_left _ (List.mem_append_right _ h))) (by decide +kernel))
set_option maxRecDepth 20000 in
theorem gL_trains_X5_wagonsOf : GoodIn wsL_trains (wsV RL 125 RX5 yX5_wagonsOf wsX5_wagonsOf) := goodIn_app (goodIn_of _ (by decide +kernel)) ggL_trains_X5_wagonsOf
set_option maxRecDepth 20000 in
theorem ggL_trains_X5_waitsOf : GoodIn wsL_trains wsX5_waitsOf := goodIn_ca (goodIn_r _ [88, 10, 89, 22, 23, 24, 8, 25, 26, 27, 16, 200, 201, 202, 203, 204, 205, 206, 207, 208, 209, 210, 211, 212, 213, 214, 215, 216, 217, 218, 219, 220, 221, 222, 223] (by decide +kernel) (by decide +kernel)) (goodIn_sub (fun _ h => List.mem_cons_of_mem _ (List.mem_append_left _ (List.mem_append_right _ h))) (by decide +kernel))
set_option maxRecDepth 20000 in
theorem gL_trains_X5_waitsOf : GoodIn wsL_trains (wsV RL 131 RX5 yX5_waitsOf wsX5_waitsOf) := goodIn_app (goodIn_of _ (by decide +kernel)) ggL_trains_X5_waitsOf
set_option maxRecDepth 20000 in
theorem ggL_trains_X5_ticksToEnd : GoodIn wsL_trains wsX5_ticksToEnd := goodIn_ca (goodIn_r _ [93, 10, 51, 21, 56, 22, 23, 24, 8, 25, 26, 27, 16, 94, 95, 96, 44, 97, 98, 99, 100, 2, 3, 4, 101, 42, 43, 45, 46, 200, 201, 202, 203, 204, 205, 206, 207, 208, 209, 210, 211, 212, 213, 214, 215, 216, 217, 218, 219, 220, 221, 222, 223] (by decide +kernel) (by decide +kernel)) (goodIn_sub (fun _ h => List.mem_cons_of_mem _ (List.mem_append_left _ (List.mem_append_right _ h))) (by decide +kernel))
set_option maxRecDepth 20000 in
theorem gL_trains_X5_ticksToEnd : GoodIn wsL_trains (wsV RL 194 RX5 yX5_ticksToEnd wsX5_ticksToEnd) := goodIn_app (goodIn_of _ (by decide +kernel)) ggL_trains_X5_ticksToEnd
set_option maxRecDepth 20000 in
theorem ggL_trains_X5_speedOf : GoodIn wsL_trains wsX5_speedOf := goodIn_ca (goodIn_r _ [105, 10, 22, 23, 24, 8, 25, 26, 27, 16, 94, 95, 96, 44, 97, 98, 99, 100, 2, 3, 4, 101, 42, 43, 45, 46, 200, 201, 202, 203, 204, 205, 206, 207, 208, 209, 210, 211, 212, 213, 214, 215, 216, 217, 218, 219, 220, 221, 222, 223] (by decide +kernel) (by decide +kernel)) (goodIn_sub (fun _ h => List.mem_cons_of_mem _ (List.mem_append_left _ (List.mem_append_right _ h))) (by decide +kernel))
set_option maxRecDepth 20000 in
theorem gL_trains_X5_speedOf : GoodIn wsL_trains (wsV RL 197 RX5 yX5_speedOf wsX5_speedOf) := goodIn_app (goodIn_of _ (by decide +kernel)) ggL_trains_X5_speedOf
set_option maxRecDepth 20000 in
theorem ggL_trains_X5_trainAhead : GoodIn wsL_trains wsX5_trainAhead := goodIn_ca (goodIn_r _ [109, 10, 21, 11, 65, 22, 23, 24, 8, 25, 26, 27, 16, 110, 111, 112, 44, 113, 114, 200, 201, 202, 203, 204, 205, 206, 207, 208, 209, 210, 211, 212, 213, 214, 215, 216, 217, 218, 219, 220, 221, 222, 223] (by decide +kernel) (by decide +kernel)) (goodIn_sub (fun _ h => List.mem_cons_of_mem _ (List.mem_append_left _ (List.mem_append_right _ h))) (by decide +kernel))
set_option maxRecDepth 20000 in
theorem gL_trains_X5_trainAhead : GoodIn wsL_trains (wsV RL 200 RX5 yX5_trainAhead wsX5_trainAhead) := goodIn_app (goodIn_of _ (by decide +kernel)) ggL_trains_X5_trainAhead
set_option maxRecDepth 20000 in
theorem ggL_trains_X5_clearBlocksAhead : GoodIn wsL_trains wsX5_clearBlocksAhead := goodIn_ca (goodIn_r _ [118, 10, 21, 11, 22, 23, 24, 8, 25, 26, 27, 16, 110, 111, 112, 44, 113, 114, 119, 120, 121, 122, 123, 124, 200, 201, 202, 203, 204, 205, 206, 207, 208, 209, 210, 211, 212, 213, 214, 215, 216, 217, 218, 219, 220, 221, 222, 223] (by decide +kernel) (by decide +kernel)) (goodIn_sub (fun _ h => List.mem_cons_of_mem _ (List.mem_append_left _ (List.mem_append_right _ h))) (by decide +kernel))
set_option maxRecDepth 20000 in
theorem gL_trains_X5_clearBlocksAhead : GoodIn wsL_trains (wsV RL 203 RX5 yX5_clearBlocksAhead wsX5_clearBlocksAhead) := goodIn_app (goodIn_of _ (by decide +kernel)) ggL_trains_X5_clearBlocksAhead
set_option maxRecDepth 20000 in
theorem ggL_trains_X5_canEnter : GoodIn wsL_trains wsX5_canEnter := goodIn_ca (goodIn_r _ [128, 10, 21, 22, 23, 24, 8, 25, 26, 27, 16, 110, 111, 112, 44, 113, 114, 129, 130, 131, 132, 133, 134, 120, 121, 122, 123, 124, 200, 201, 202, 203, 204, 205, 206, 207, 208, 209, 210, 211, 212, 213, 214, 215, 216, 217, 218, 219, 220, 221, 222, 223] (by decide +kernel) (by decide +kernel)) (goodIn_sub (fun _ h => List.mem_cons_of_mem _ (List.mem_append_left _ (List.mem_append_right _ h))) (by decide +kernel))
set_option maxRecDepth 20000 in
theorem gL_trains_X5_canEnter : GoodIn wsL_trains (wsV RL 206 RX5 yX5_canEnter wsX5_canEnter) := goodIn_app (goodIn_of _ (by decide +kernel)) ggL_trains_X5_canEnter
set_option maxRecDepth 20000 in
theorem ggL_trains_X5_isClear : GoodIn wsL_trains wsX5_isClear := goodIn_ca (goodIn_r _ [138, 10, 139, 37, 38, 39, 8, 40, 26, 27, 11, 200, 201, 202, 203, 204, 205, 206, 207, 208, 209, 210, 211, 212, 213, 214, 215, 216, 217, 218, 219, 220, 221, 222, 223] (by decide +kernel) (by decide +kernel)) (goodIn_sub (fun _ h => List.mem_cons_of_mem _ (List.mem_append_left _ (List.mem_append_right _ h))) (by decide +kernel))
set_option maxRecDepth 20000 in
theorem gL_trains_X5_isClear : GoodIn wsL_trains (wsV RL 109 RX5 yX5_isClear wsX5_isClear) := goodIn_app (goodIn_of _ (by decide +kernel)) ggL_trains_X5_isClear
set_option maxRecDepth 20000 in
theorem ggL_trains_X5_blockAfter : GoodIn wsL_trains wsX5_blockAfter := goodIn_ca (goodIn_ca (goodIn_r _ [143, 144, 145, 146, 10, 21, 22, 23, 24, 8, 25, 26, 27, 16, 147, 148, 149, 44, 150, 151, 114, 152, 153, 154, 155, 156, 157, 158, 159, 160, 46, 133, 124, 123, 99, 161, 162, 98, 163, 79, 164, 165, 166, 167, 168, 169, 170, 171, 100, 2, 3, 4, 172, 95, 96, 97, 101, 42, 43, 45, 173, 111, 112, 113, 174, 130, 131, 132, 134, 120, 121, 122, 175, 176, 177, 178, 200, 201, 202, 203, 204, 205, 206, 207, 208, 209, 210, 211, 212, 213, 214, 215, 216, 217, 218, 219, 220, 221, 222, 223] (by decide +kernel) (by decide +kernel)) (goodIn_sub (fun _ h => List.mem_cons_of_mem _ (List.mem_append_right _ h)) (by decide +kernel))) (goodIn_sub (fun _ h => List.mem_cons_of_mem _ (List.mem_append_left _ (List.mem_append_right _ h))) (by decide +kernel))
set_option maxRecDepth 20000 in
theorem gL_trains_X5_blockAfter : GoodIn wsL_trains (wsV RL 209 RX5 yX5_blockAfter wsX5_blockAfter) := goodIn_app (goodIn_of _ (by decide +kernel)) ggL_trains_X5_blockAfter
set_option maxRecDepth 20000 in
theorem ggL_trains_X5_tick : GoodIn wsL_trains wsX5_tick := goodIn_r _ [182, 10, 183, 200, 201, 202, 203, 204, 205, 206, 207, 208, 209, 210, 211, 212, 213, 214, 215, 216, 217, 218, 219, 220, 221, 222, 223] (by decide +kernel) (by decide +kernel)
set_option maxRecDepth 20000 in
theorem gL_trains_X5_tick : GoodIn wsL_trains (wsV RL 97 RX5 yX5_tick wsX5_tick) := goodIn_app (goodIn_of _ (by decide +kernel)) ggL_trains_X5_tick
set_option maxRecDepth 20000 in
theorem ggL_trains_X5_totalWagons : GoodIn wsL_trains wsX5_totalWagons := goodIn_r _ [187, 10, 188, 189, 190, 44, 191, 152, 162, 200, 201, 202, 203, 204, 205, 206, 207, 208, 209, 210, 211, 212, 213, 214, 215, 216, 217, 218, 219, 220, 221, 222, 223] (by decide +kernel) (by decide +kernel)
set_option maxRecDepth 20000 in
theorem gL_trains_X5_totalWagons : GoodIn wsL_trains (wsV RL 212 RX5 yX5_totalWagons wsX5_totalWagons) := goodIn_app (goodIn_of _ (by decide +kernel)) ggL_trains_X5_totalWagons
set_option maxRecDepth 20000 in
theorem ggL_trains_X5_differentPassages : GoodIn wsL_trains wsX5_differentPassages := goodIn_r _ [195, 10, 16, 11, 75, 76, 77, 44, 78, 79, 200, 201, 202, 203, 204, 205, 206, 207, 208, 209, 210, 211, 212, 213, 214, 215, 216, 217, 218, 219, 220, 221, 222, 223] (by decide +kernel) (by decide +kernel)
set_option maxRecDepth 20000 in
theorem gL_trains_X5_differentPassages : GoodIn wsL_trains (wsV RL 215 RX5 yX5_differentPassages wsX5_differentPassages) := goodIn_app (goodIn_of _ (by decide +kernel)) ggL_trains_X5_differentPassages
set_option maxRecDepth 20000 in
theorem ggL_trains_X5_waitShare : GoodIn wsL_trains wsX5_waitShare := goodIn_r _ [199, 10, 183, 16, 89, 200, 201, 202, 203, 204, 205, 206, 207, 208, 209, 210, 211, 212, 213, 214, 215, 216, 217, 218, 219, 220, 221, 222, 223] (by decide +kernel) (by decide +kernel)
set_option maxRecDepth 20000 in
theorem gL_trains_X5_waitShare : GoodIn wsL_trains (wsV RL 218 RX5 yX5_waitShare wsX5_waitShare) := goodIn_app (goodIn_of _ (by decide +kernel)) ggL_trains_X5_waitShare
set_option maxRecDepth 20000 in
theorem ggL_act_X5_blockCount : GoodIn wsL_act wsX5_blockCount := goodIn_r _ [5, 6, 7, 237, 238, 239, 240, 241, 242, 243, 244, 245, 246, 247, 248, 249, 250, 251, 252, 253, 254, 255, 256, 257, 258, 259, 260] (by decide +kernel) (by decide +kernel)
set_option maxRecDepth 20000 in
theorem gL_act_X5_blockCount : GoodIn wsL_act (wsV RL 103 RX5 yX5_blockCount wsX5_blockCount) := goodIn_app (goodIn_of _ (by decide +kernel)) ggL_act_X5_blockCount
