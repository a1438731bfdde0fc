set_option maxRecDepth 20000 in
theorem ggL_blocks_X5_isBend : GoodIn wsL_blocks wsX5_isBend := goodIn_ca (goodIn_r _ [61, 6, 42, 43, 44, 4, 45, 46, 47, 7, 62, 63, 64, 27, 65, 66, 161, 162, 163, 164, 165, 166, 167, 168, 169, 170, 171, 172, 173, 174, 175, 176, 177, 178, 179, 180, 181, 182, 183, 184] (by decide +kernel) (by decide +kernel)) (goodIn_sub (fun _ h => List.mem_cons_of_mem _ (List.mem_append_right _ h)) (by decide +kernel))
set_option maxRecDepth 20000 in
theorem gL_blocks_X5_isBend : GoodIn wsL_blocks (wsV RL 146 RX5 yX5_isBend wsX5_isBend) := goodIn_app (goodIn_of _ (by decide +kernel)) ggL_blocks_X5_isBend
set_option maxRecDepth 20000 in
theorem ggL_blocks_L_occupied : GoodIn wsL_blocks wsL_occupied := goodIn_ca (goodIn_r _ [70, 37, 38, 39, 4, 40, 6, 41, 42, 43, 44, 45, 46, 47, 7, 48, 49, 50, 51, 52, 161, 162, 163, 164, 165, 166, 167, 168, 169, 170, 171, 172, 173, 174, 175, 176, 177, 178, 179, 180, 181, 182, 183, 184] (by decide +kernel) (by decide +kernel)) (goodIn_sub (fun _ h => List.mem_cons_of_mem _ (List.mem_append_right _ h)) (by decide +kernel))
set_option maxRecDepth 20000 in
theorem gL_blocks_L_occupied : GoodIn wsL_blocks (va_wsS RL 149 yL_occupied wsL_occupied) := goodIn_app (goodIn_of _ (by decide +kernel)) ggL_blocks_L_occupied
set_option maxRecDepth 20000 in
theorem ggL_blocks_X5_trainCount : GoodIn wsL_blocks wsX5_trainCount := goodIn_r _ [74, 6, 12, 161, 162, 163, 164, 165, 166, 167, 168, 169, 170, 171, 172, 173, 174, 175, 176, 177, 178, 179, 180, 181, 182, 183, 184] (by decide +kernel) (by decide +kernel)
set_option maxRecDepth 20000 in
theorem gL_blocks_X5_trainCount : GoodIn wsL_blocks (wsV RL 116 RX5 yX5_trainCount wsX5_trainCount) := goodIn_app (goodIn_of _ (by decide +kernel)) ggL_blocks_X5_trainCount
set_option maxRecDepth 20000 in
theorem ggL_blocks_X5_passages : GoodIn wsL_blocks wsX5_passages := goodIn_ca (goodIn_r _ [78, 6, 79, 80, 81, 4, 82, 46, 47, 12, 42, 43, 44, 45, 7, 83, 84, 85, 27, 86, 87, 161, 162, 163, 164, 165, 166, 167, 168, 169, 170, 171, 172, 173, 174, 175, 176, 177, 178, 179, 180, 181, 182, 183, 184] (by decide +kernel) (by decide +kernel)) (goodIn_sub (fun _ h => List.mem_cons_of_mem _ (List.mem_append_right _ h)) (by decide +kernel))
set_option maxRecDepth 20000 in
theorem gL_blocks_X5_passages : GoodIn wsL_blocks (wsV RL 134 RX5 yX5_passages wsX5_passages) := goodIn_app (goodIn_of _ (by decide +kernel)) ggL_blocks_X5_passages
set_option maxRecDepth 20000 in
theorem ggL_blocks_X5_depthOf : GoodIn wsL_blocks wsX5_depthOf := goodIn_ca (goodIn_r _ [91, 6, 92, 42, 43, 44, 4, 45, 46, 47, 7, 161, 162, 163, 164, 165, 166, 167, 168, 169, 170, 171, 172, 173, 174, 175, 176, 177, 178, 179, 180, 181, 182, 183, 184] (by decide +kernel) (by decide +kernel)) (goodIn_sub (fun _ h => List.mem_cons_of_mem _ (List.mem_append_right _ h)) (by decide +kernel))
set_option maxRecDepth 20000 in
theorem gL_blocks_X5_depthOf : GoodIn wsL_blocks (wsV RL 106 RX5 yX5_depthOf wsX5_depthOf) := goodIn_app (goodIn_of _ (by decide +kernel)) ggL_blocks_X5_depthOf
set_option maxRecDepth 20000 in
theorem ggL_blocks_X5_obstacle : GoodIn wsL_blocks wsX5_obstacle := goodIn_ca (goodIn_r _ [96, 6, 42, 43, 44, 4, 45, 46, 47, 7, 97, 98, 99, 27, 100, 101, 36, 102, 103, 63, 64, 65, 66, 104, 105, 106, 107, 35, 108, 109, 110, 111, 161, 162, 163, 164, 165, 166, 167, 168, 169, 170, 171, 172, 173, 174, 175, 176, 177, 178, 179, 180, 181, 182, 183, 184] (by decide +kernel) (by decide +kernel)) (goodIn_sub (fun _ h => List.mem_cons_of_mem _ (List.mem_append_right _ h)) (by decide +kernel))
set_option maxRecDepth 20000 in
theorem gL_blocks_X5_obstacle : GoodIn wsL_blocks (wsV RL 153 RX5 yX5_obstacle wsX5_obstacle) := goodIn_app (goodIn_of _ (by decide +kernel)) ggL_blocks_X5_obstacle
set_option maxRecDepth 20000 in
theorem ggL_blocks_X5_departuresFrom : GoodIn wsL_blocks wsX5_departuresFrom := goodIn_ca (goodIn_r _ [115, 6, 12, 42, 43, 44, 4, 45, 46, 47, 7, 83, 84, 85, 27, 86, 87, 161, 162, 163, 164, 165, 166, 167, 168, 169, 170, 171, 172, 173, 174, 175, 176, 177, 178, 179, 180, 181, 182, 183, 184] (by decide +kernel) (by decide +kernel)) (goodIn_sub (fun _ h => List.mem_cons_of_mem _ (List.mem_append_right _ h)) (by decide +kernel))
set_option maxRecDepth 20000 in
theorem gL_blocks_X5_departuresFrom : GoodIn wsL_blocks (wsV RL 156 RX5 yX5_departuresFrom wsX5_departuresFrom) := goodIn_app (goodIn_of _ (by decide +kernel)) ggL_blocks_X5_departuresFrom
set_option maxRecDepth 20000 in
theorem ggL_blocks_X5_blockOf : GoodIn wsL_blocks wsX5_blockOf := goodIn_ca (goodIn_r _ [119, 6, 13, 79, 80, 81, 4, 82, 46, 47, 12, 161, 162, 163, 164, 165, 166, 167, 168, 169, 170, 171, 172, 173, 174, 175, 176, 177, 178, 179, 180, 181, 182, 183, 184] (by decide +kernel) (by decide +kernel)) (goodIn_sub (fun _ h => List.mem_cons_of_mem _ (List.mem_append_right _ h)) (by decide +kernel))
set_option maxRecDepth 20000 in
theorem gL_blocks_X5_blockOf : GoodIn wsL_blocks (wsV RL 119 RX5 yX5_blockOf wsX5_blockOf) := goodIn_app (goodIn_of _ (by decide +kernel)) ggL_blocks_X5_blockOf
set_option maxRecDepth 20000 in
theorem ggL_blocks_X5_limitOf : GoodIn wsL_blocks wsX5_limitOf := goodIn_ca (goodIn_r _ [123, 6, 42, 43, 44, 4, 45, 46, 47, 7, 124, 125, 126, 27, 127, 66, 161, 162, 163, 164, 165, 166, 167, 168, 169, 170, 171, 172, 173, 174, 175, 176, 177, 178, 179, 180, 181, 182, 183, 184] (by decide +kernel) (by decide +kernel)) (goodIn_sub (fun _ h => List.mem_cons_of_mem _ (List.mem_append_right _ h)) (by decide +kernel))
set_option maxRecDepth 20000 in
theorem gL_blocks_X5_limitOf : GoodIn wsL_blocks (wsV RL 159 RX5 yX5_limitOf wsX5_limitOf) := goodIn_app (goodIn_of _ (by decide +kernel)) ggL_blocks_X5_limitOf
set_option maxRecDepth 20000 in
theorem ggL_blocks_X5_freeLevers : GoodIn wsL_blocks wsX5_freeLevers := goodIn_r _ [131, 6, 7, 97, 98, 99, 27, 100, 101, 36, 102, 103, 63, 64, 65, 66, 104, 105, 106, 107, 35, 108, 109, 110, 111, 161, 162, 163, 164, 165, 166, 167, 168, 169, 170, 171, 172, 173, 174, 175, 176, 177, 178, 179, 180, 181, 182, 183, 184] (by decide +kernel) (by decide +kernel)
set_option maxRecDepth 20000 in
theorem gL_blocks_X5_freeLevers : GoodIn wsL_blocks (wsV RL 162 RX5 yX5_freeLevers wsX5_freeLevers) := goodIn_app (goodIn_of _ (by decide +kernel)) ggL_blocks_X5_freeLevers
set_option maxRecDepth 20000 in
theorem ggL_blocks_X5_emptyBlocks : GoodIn wsL_blocks wsX5_emptyBlocks := goodIn_r _ [135, 6, 7, 136, 109, 110, 27, 111, 101, 36, 161, 162, 163, 164, 165, 166, 167, 168, 169, 170, 171, 172, 173, 174, 175, 176, 177, 178, 179, 180, 181, 182, 183, 184] (by decide +kernel) (by decide +kernel)
set_option maxRecDepth 20000 in
theorem gL_blocks_X5_emptyBlocks : GoodIn wsL_blocks (wsV RL 165 RX5 yX5_emptyBlocks wsX5_emptyBlocks) := goodIn_app (goodIn_of _ (by decide +kernel)) ggL_blocks_X5_emptyBlocks
set_option maxRecDepth 20000 in
theorem ggL_blocks_X5_deepestBlock : GoodIn wsL_blocks wsX5_deepestBlock := goodIn_r _ [140, 6, 7, 92, 161, 162, 163, 164, 165, 166, 167, 168, 169, 170, 171, 172, 173, 174, 175, 176, 177, 178, 179, 180, 181, 182, 183, 184] (by decide +kernel) (by decide +kernel)
set_option maxRecDepth 20000 in
theorem gL_blocks_X5_deepestBlock : GoodIn wsL_blocks (wsV RL 168 RX5 yX5_deepestBlock wsX5_deepestBlock) := goodIn_app (goodIn_of _ (by decide +kernel)) ggL_blocks_X5_deepestBlock
set_option maxRecDepth 20000 in
theorem ggL_blocks_X5_differentDepths : GoodIn wsL_blocks wsX5_differentDepths := goodIn_r _ [144, 6, 7, 92, 145, 146, 147, 148, 149, 150, 151, 161, 162, 163, 164, 165, 166, 167, 168, 169, 170, 171, 172, 173, 174, 175, 176, 177, 178, 179, 180, 181, 182, 183, 184] (by decide +kernel) (by decide +kernel)
set_option maxRecDepth 20000 in
theorem gL_blocks_X5_differentDepths : GoodIn wsL_blocks (wsV RL 171 RX5 yX5_differentDepths wsX5_differentDepths) := goodIn_app (goodIn_of _ (by decide +kernel)) ggL_blocks_X5_differentDepths
set_option maxRecDepth 20000 in
theorem ggL_blocks_J6_bitCount_0f7a4 : GoodIn wsL_blocks wsJ6_bitCount_0f7a4 := goodIn_r _ [148, 149, 150, 151] (by decide +kernel) (by decide +kernel)
set_option maxRecDepth 20000 in
theorem gL_blocks_J6_bitCount_0f7a4 : GoodIn wsL_blocks (va_wsS RL 174 yJ6_bitCount_0f7a4 wsJ6_bitCount_0f7a4) := goodIn_app (goodIn_of _ (by decide +kernel)) ggL_blocks_J6_bitCount_0f7a4
set_option maxRecDepth 20000 in
theorem ggL_blocks_X5_lostWagons : GoodIn wsL_blocks wsX5_lostWagons := goodIn_r _ [156, 6, 31, 32, 33, 27, 34, 35, 36, 161, 162, 163, 164, 165, 166, 167, 168, 169, 170, 171, 172, 173, 174, 175, 176, 177, 178, 179, 180, 181, 182, 183, 184] (by decide +kernel) (by decide +kernel)
set_option maxRecDepth 20000 in
theorem gL_blocks_X5_lostWagons : GoodIn wsL_blocks (wsV RL 179 RX5 yX5_lostWagons wsX5_lostWagons) := goodIn_app (goodIn_of _ (by decide +kernel)) ggL_blocks_X5_lostWagons
set_option maxRecDepth 20000 in
theorem ggL_blocks_X5_meanDepth : GoodIn wsL_blocks wsX5_meanDepth := goodIn_r _ [160, 6, 7, 92, 161, 162, 163, 164, 165, 166, 167, 168, 169, 170, 171, 172, 173, 174, 175, 176, 177, 178, 179, 180, 181, 182, 183, 184] (by decide +kernel) (by decide +kernel)
set_option maxRecDepth 20000 in
theorem gL_blocks_X5_meanDepth : GoodIn wsL_blocks (wsV RL 182 RX5 yX5_meanDepth wsX5_meanDepth) := goodIn_app (goodIn_of _ (by decide +kernel)) ggL_blocks_X5_meanDepth
set_option maxRecDepth 20000 in
theorem ggL_trains_X5_blockCount : GoodIn wsL_trains wsX5_blockCount := goodIn_r _ [9, 10, 11, 200, 201, 202, 203, 204, 205, 206, 207, 208, 209, 210, 211, 212, 213, 214, 215, 216, 217, 218, 219, 220, 221, 222, 223] (by decide +kernel) (by decide +kernel)
set_option maxRecDepth 20000 in
theorem gL_trains_X5_blockCount : GoodIn wsL_trains (wsV RL 103 RX5 yX5_blockCount wsX5_blockCount) := goodIn_app (goodIn_of _ (by decide +kernel)) ggL_trains_X5_blockCount
set_option maxRecDepth 20000 in
theorem ggL_trains_X5_trainCount : GoodIn wsL_trains wsX5_trainCount := goodIn_r _ [15, 10, 16, 200, 201, 202, 203, 204, 205, 206, 207, 208, 209, 210, 211, 212, 213, 214, 215, 216, 217, 218, 219, 220, 221, 222, 223] (by decide +kernel) (by decide +kernel)
set_option maxRecDepth 20000 in
theorem gL_trains_X5_trainCount : GoodIn wsL_trains (wsV RL 116 RX5 yX5_trainCount wsX5_trainCount) := goodIn_app (goodIn_of _ (by decide +kernel)) ggL_trains_X5_trainCount
set_option maxRecDepth 20000 in
theorem ggL_trains_X5_blockOf : GoodIn wsL_trains wsX5_blockOf := goodIn_ca (goodIn_r _ [20, 10, 21, 22, 23, 24, 8, 25, 26, 27, 16, 200, 201, 202, 203, 204, 205, 206, 207, 208, 209, 210, 211, 212, 213, 214, 215, 216, 217, 218, 219, 220, 221, 222, 223] (by decide +kernel) (by decide +kernel)) (goodIn_sub (fun _ h => List.mem_cons_of_mem _ (List.mem_append_left _ (List.mem_append_right _ h))) (by decide +kernel))
set_option maxRecDepth 20000 in
theorem gL_trains_X5_blockOf : GoodIn wsL_trains (wsV RL 119 RX5 yX5_blockOf wsX5_blockOf) := goodIn_app (goodIn_of _ (by decide +kernel)) ggL_trains_X5_blockOf
set_option maxRecDepth 20000 in
theorem ggL_trains_X5_topSpeedOf : GoodIn wsL_trains wsX5_topSpeedOf := goodIn_ca (goodIn_r _ [31, 10, 32, 22, 23, 24, 8, 25, 26, 27, 16, 200, 201, 202, 203, 204, 205, 206, 207, 208, 209, 210, 211, 212, 213, 214, 215, 216, 217, 218, 219, 220, 221, 222, 223] (by decide +kernel) (by decide +kernel)) (goodIn_sub (fun _ h => List.mem_cons_of_mem _ (List.mem_append_left _ (List.mem_append_right _ h))) (by decide +kernel))
set_option maxRecDepth 20000 in
theorem gL_trains_X5_topSpeedOf : GoodIn wsL_trains (wsV RL 128 RX5 yX5_topSpeedOf wsX5_topSpeedOf) := goodIn_app (goodIn_of _ (by decide +kernel)) ggL_trains_X5_topSpeedOf
