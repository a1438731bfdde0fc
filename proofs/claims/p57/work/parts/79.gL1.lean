set_option maxRecDepth 20000 in
theorem ggL_sum_X5_removedWagons : GoodIn wsL_sum wsX5_removedWagons := goodIn_r _ [12, 7, 13, 84, 85, 86, 87, 88, 89, 90, 91, 92, 93, 94, 95, 96, 97, 98, 99, 100, 101, 102, 103, 104, 105, 106, 107] (by decide +kernel) (by decide +kernel)
set_option maxRecDepth 20000 in
theorem gL_sum_X5_removedWagons : GoodIn wsL_sum (wsV RL 100 RX5 yX5_removedWagons wsX5_removedWagons) := goodIn_app (goodIn_of _ (by decide +kernel)) ggL_sum_X5_removedWagons
set_option maxRecDepth 20000 in
theorem ggL_sum_X5_blockCount : GoodIn wsL_sum wsX5_blockCount := goodIn_r _ [17, 7, 18, 84, 85, 86, 87, 88, 89, 90, 91, 92, 93, 94, 95, 96, 97, 98, 99, 100, 101, 102, 103, 104, 105, 106, 107] (by decide +kernel) (by decide +kernel)
set_option maxRecDepth 20000 in
theorem gL_sum_X5_blockCount : GoodIn wsL_sum (wsV RL 103 RX5 yX5_blockCount wsX5_blockCount) := goodIn_app (goodIn_of _ (by decide +kernel)) ggL_sum_X5_blockCount
set_option maxRecDepth 20000 in
theorem ggL_sum_X5_depthOf : GoodIn wsL_sum wsX5_depthOf := goodIn_ca (goodIn_r _ [22, 7, 23, 24, 25, 26, 5, 27, 28, 29, 18, 84, 85, 86, 87, 88, 89, 90, 91, 92, 93, 94, 95, 96, 97, 98, 99, 100, 101, 102, 103, 104, 105, 106, 107] (by decide +kernel) (by decide +kernel)) (goodIn_sub (fun _ h => List.mem_cons_of_mem _ (List.mem_append_right _ h)) (by decide +kernel))
set_option maxRecDepth 20000 in
theorem gL_sum_X5_depthOf : GoodIn wsL_sum (wsV RL 106 RX5 yX5_depthOf wsX5_depthOf) := goodIn_app (goodIn_of _ (by decide +kernel)) ggL_sum_X5_depthOf
set_option maxRecDepth 20000 in
theorem ggL_sum_X5_isClear : GoodIn wsL_sum wsX5_isClear := goodIn_ca (goodIn_r _ [33, 7, 34, 24, 25, 26, 5, 27, 28, 29, 18, 84, 85, 86, 87, 88, 89, 90, 91, 92, 93, 94, 95, 96, 97, 98, 99, 100, 101, 102, 103, 104, 105, 106, 107] (by decide +kernel) (by decide +kernel)) (goodIn_sub (fun _ h => List.mem_cons_of_mem _ (List.mem_append_right _ h)) (by decide +kernel))
set_option maxRecDepth 20000 in
theorem gL_sum_X5_isClear : GoodIn wsL_sum (wsV RL 109 RX5 yX5_isClear wsX5_isClear) := goodIn_app (goodIn_of _ (by decide +kernel)) ggL_sum_X5_isClear
set_option maxRecDepth 20000 in
theorem ggL_sum_X5_lostIn : GoodIn wsL_sum wsX5_lostIn := goodIn_ca (goodIn_r _ [38, 7, 39, 24, 25, 26, 5, 27, 28, 29, 18, 84, 85, 86, 87, 88, 89, 90, 91, 92, 93, 94, 95, 96, 97, 98, 99, 100, 101, 102, 103, 104, 105, 106, 107] (by decide +kernel) (by decide +kernel)) (goodIn_sub (fun _ h => List.mem_cons_of_mem _ (List.mem_append_right _ h)) (by decide +kernel))
set_option maxRecDepth 20000 in
theorem gL_sum_X5_lostIn : GoodIn wsL_sum (wsV RL 113 RX5 yX5_lostIn wsX5_lostIn) := goodIn_app (goodIn_of _ (by decide +kernel)) ggL_sum_X5_lostIn
set_option maxRecDepth 20000 in
theorem ggL_sum_X5_trainCount : GoodIn wsL_sum wsX5_trainCount := goodIn_r _ [43, 7, 44, 84, 85, 86, 87, 88, 89, 90, 91, 92, 93, 94, 95, 96, 97, 98, 99, 100, 101, 102, 103, 104, 105, 106, 107] (by decide +kernel) (by decide +kernel)
set_option maxRecDepth 20000 in
theorem gL_sum_X5_trainCount : GoodIn wsL_sum (wsV RL 116 RX5 yX5_trainCount wsX5_trainCount) := goodIn_app (goodIn_of _ (by decide +kernel)) ggL_sum_X5_trainCount
set_option maxRecDepth 20000 in
theorem ggL_sum_X5_blockOf : GoodIn wsL_sum wsX5_blockOf := goodIn_ca (goodIn_r _ [48, 7, 49, 50, 51, 52, 5, 53, 28, 29, 44, 84, 85, 86, 87, 88, 89, 90, 91, 92, 93, 94, 95, 96, 97, 98, 99, 100, 101, 102, 103, 104, 105, 106, 107] (by decide +kernel) (by decide +kernel)) (goodIn_sub (fun _ h => List.mem_cons_of_mem _ (List.mem_append_right _ h)) (by decide +kernel))
set_option maxRecDepth 20000 in
theorem gL_sum_X5_blockOf : GoodIn wsL_sum (wsV RL 119 RX5 yX5_blockOf wsX5_blockOf) := goodIn_app (goodIn_of _ (by decide +kernel)) ggL_sum_X5_blockOf
set_option maxRecDepth 20000 in
theorem ggL_sum_X5_positionOf : GoodIn wsL_sum wsX5_positionOf := goodIn_ca (goodIn_r _ [57, 7, 58, 50, 51, 52, 5, 53, 28, 29, 44, 84, 85, 86, 87, 88, 89, 90, 91, 92, 93, 94, 95, 96, 97, 98, 99, 100, 101, 102, 103, 104, 105, 106, 107] (by decide +kernel) (by decide +kernel)) (goodIn_sub (fun _ h => List.mem_cons_of_mem _ (List.mem_append_right _ h)) (by decide +kernel))
set_option maxRecDepth 20000 in
theorem gL_sum_X5_positionOf : GoodIn wsL_sum (wsV RL 122 RX5 yX5_positionOf wsX5_positionOf) := goodIn_app (goodIn_of _ (by decide +kernel)) ggL_sum_X5_positionOf
set_option maxRecDepth 20000 in
theorem ggL_sum_X5_wagonsOf : GoodIn wsL_sum wsX5_wagonsOf := goodIn_ca (goodIn_r _ [62, 7, 63, 50, 51, 52, 5, 53, 28, 29, 44, 84, 85, 86, 87, 88, 89, 90, 91, 92, 93, 94, 95, 96, 97, 98, 99, 100, 101, 102, 103, 104, 105, 106, 107] (by decide +kernel) (by decide +kernel)) (goodIn_sub (fun _ h => List.mem_cons_of_mem _ (List.mem_append_right _ h)) (by decide +kernel))
set_option maxRecDepth 20000 in
theorem gL_sum_X5_wagonsOf : GoodIn wsL_sum (wsV RL 125 RX5 yX5_wagonsOf wsX5_wagonsOf) := goodIn_app (goodIn_of _ (by decide +kernel)) ggL_sum_X5_wagonsOf
set_option maxRecDepth 20000 in
theorem ggL_sum_X5_topSpeedOf : GoodIn wsL_sum wsX5_topSpeedOf := goodIn_ca (goodIn_r _ [67, 7, 68, 50, 51, 52, 5, 53, 28, 29, 44, 84, 85, 86, 87, 88, 89, 90, 91, 92, 93, 94, 95, 96, 97, 98, 99, 100, 101, 102, 103, 104, 105, 106, 107] (by decide +kernel) (by decide +kernel)) (goodIn_sub (fun _ h => List.mem_cons_of_mem _ (List.mem_append_right _ h)) (by decide +kernel))
set_option maxRecDepth 20000 in
theorem gL_sum_X5_topSpeedOf : GoodIn wsL_sum (wsV RL 128 RX5 yX5_topSpeedOf wsX5_topSpeedOf) := goodIn_app (goodIn_of _ (by decide +kernel)) ggL_sum_X5_topSpeedOf
set_option maxRecDepth 20000 in
theorem ggL_sum_X5_waitsOf : GoodIn wsL_sum wsX5_waitsOf := goodIn_ca (goodIn_r _ [72, 7, 73, 50, 51, 52, 5, 53, 28, 29, 44, 84, 85, 86, 87, 88, 89, 90, 91, 92, 93, 94, 95, 96, 97, 98, 99, 100, 101, 102, 103, 104, 105, 106, 107] (by decide +kernel) (by decide +kernel)) (goodIn_sub (fun _ h => List.mem_cons_of_mem _ (List.mem_append_right _ h)) (by decide +kernel))
set_option maxRecDepth 20000 in
theorem gL_sum_X5_waitsOf : GoodIn wsL_sum (wsV RL 131 RX5 yX5_waitsOf wsX5_waitsOf) := goodIn_app (goodIn_of _ (by decide +kernel)) ggL_sum_X5_waitsOf
set_option maxRecDepth 20000 in
theorem ggL_sum_X5_passages : GoodIn wsL_sum wsX5_passages := goodIn_ca (goodIn_r _ [77, 7, 50, 51, 52, 5, 53, 28, 29, 44, 24, 25, 26, 27, 18, 78, 79, 80, 81, 82, 83, 84, 85, 86, 87, 88, 89, 90, 91, 92, 93, 94, 95, 96, 97, 98, 99, 100, 101, 102, 103, 104, 105, 106, 107] (by decide +kernel) (by decide +kernel)) (goodIn_sub (fun _ h => List.mem_cons_of_mem _ (List.mem_append_right _ h)) (by decide +kernel))
set_option maxRecDepth 20000 in
theorem gL_sum_X5_passages : GoodIn wsL_sum (wsV RL 134 RX5 yX5_passages wsX5_passages) := goodIn_app (goodIn_of _ (by decide +kernel)) ggL_sum_X5_passages
set_option maxRecDepth 20000 in
theorem ggL_occupied_X5_trainIn : GoodIn wsL_occupied wsX5_trainIn := goodIn_ca (goodIn_r _ [5, 6, 7, 8, 9, 10, 4, 11, 12, 13, 14, 20, 21, 22, 23, 24, 25, 26, 27, 28, 29, 30, 31, 32, 33, 34, 35, 36, 37, 38, 39, 40, 41, 42, 43] (by decide +kernel) (by decide +kernel)) (goodIn_sub (fun _ h => List.mem_cons_of_mem _ (List.mem_append_right _ h)) (by decide +kernel))
set_option maxRecDepth 20000 in
theorem gL_occupied_X5_trainIn : GoodIn wsL_occupied (wsV RL 137 RX5 yX5_trainIn wsX5_trainIn) := goodIn_app (goodIn_of _ (by decide +kernel)) ggL_occupied_X5_trainIn
set_option maxRecDepth 20000 in
theorem ggL_occupied_X5_lostIn : GoodIn wsL_occupied wsX5_lostIn := goodIn_ca (goodIn_r _ [18, 6, 19, 8, 9, 10, 4, 11, 12, 13, 14, 20, 21, 22, 23, 24, 25, 26, 27, 28, 29, 30, 31, 32, 33, 34, 35, 36, 37, 38, 39, 40, 41, 42, 43] (by decide +kernel) (by decide +kernel)) (goodIn_sub (fun _ h => List.mem_cons_of_mem _ (List.mem_append_right _ h)) (by decide +kernel))
set_option maxRecDepth 20000 in
theorem gL_occupied_X5_lostIn : GoodIn wsL_occupied (wsV RL 113 RX5 yX5_lostIn wsX5_lostIn) := goodIn_app (goodIn_of _ (by decide +kernel)) ggL_occupied_X5_lostIn
set_option maxRecDepth 20000 in
theorem ggL_blocks_X5_blockCount : GoodIn wsL_blocks wsX5_blockCount := goodIn_r _ [5, 6, 7, 161, 162, 163, 164, 165, 166, 167, 168, 169, 170, 171, 172, 173, 174, 175, 176, 177, 178, 179, 180, 181, 182, 183, 184] (by decide +kernel) (by decide +kernel)
set_option maxRecDepth 20000 in
theorem gL_blocks_X5_blockCount : GoodIn wsL_blocks (wsV RL 103 RX5 yX5_blockCount wsX5_blockCount) := goodIn_app (goodIn_of _ (by decide +kernel)) ggL_blocks_X5_blockCount
set_option maxRecDepth 20000 in
theorem ggL_blocks_X5_sharedBlocks : GoodIn wsL_blocks wsX5_sharedBlocks := goodIn_r _ [11, 6, 12, 13, 161, 162, 163, 164, 165, 166, 167, 168, 169, 170, 171, 172, 173, 174, 175, 176, 177, 178, 179, 180, 181, 182, 183, 184] (by decide +kernel) (by decide +kernel)
set_option maxRecDepth 20000 in
theorem gL_blocks_X5_sharedBlocks : GoodIn wsL_blocks (wsV RL 140 RX5 yX5_sharedBlocks wsX5_sharedBlocks) := goodIn_app (goodIn_of _ (by decide +kernel)) ggL_blocks_X5_sharedBlocks
set_option maxRecDepth 20000 in
theorem ggL_blocks_X5_wagonDifference : GoodIn wsL_blocks wsX5_wagonDifference := goodIn_r _ [17, 6, 18, 19, 20, 21, 22, 23, 24, 25, 26, 27, 28, 29, 30, 31, 32, 33, 34, 35, 36, 161, 162, 163, 164, 165, 166, 167, 168, 169, 170, 171, 172, 173, 174, 175, 176, 177, 178, 179, 180, 181, 182, 183, 184] (by decide +kernel) (by decide +kernel)
set_option maxRecDepth 20000 in
theorem gL_blocks_X5_wagonDifference : GoodIn wsL_blocks (wsV RL 143 RX5 yX5_wagonDifference wsX5_wagonDifference) := goodIn_app (goodIn_of _ (by decide +kernel)) ggL_blocks_X5_wagonDifference
set_option maxRecDepth 20000 in
theorem ggL_blocks_X5_trainIn : GoodIn wsL_blocks wsX5_trainIn := goodIn_ca (goodIn_r _ [40, 6, 41, 42, 43, 44, 4, 45, 46, 47, 7, 161, 162, 163, 164, 165, 166, 167, 168, 169, 170, 171, 172, 173, 174, 175, 176, 177, 178, 179, 180, 181, 182, 183, 184] (by decide +kernel) (by decide +kernel)) (goodIn_sub (fun _ h => List.mem_cons_of_mem _ (List.mem_append_right _ h)) (by decide +kernel))
set_option maxRecDepth 20000 in
theorem gL_blocks_X5_trainIn : GoodIn wsL_blocks (wsV RL 137 RX5 yX5_trainIn wsX5_trainIn) := goodIn_app (goodIn_of _ (by decide +kernel)) ggL_blocks_X5_trainIn
set_option maxRecDepth 20000 in
theorem ggL_blocks_X5_lostIn : GoodIn wsL_blocks wsX5_lostIn := goodIn_ca (goodIn_r _ [51, 6, 52, 42, 43, 44, 4, 45, 46, 47, 7, 161, 162, 163, 164, 165, 166, 167, 168, 169, 170, 171, 172, 173, 174, 175, 176, 177, 178, 179, 180, 181, 182, 183, 184] (by decide +kernel) (by decide +kernel)) (goodIn_sub (fun _ h => List.mem_cons_of_mem _ (List.mem_append_right _ h)) (by decide +kernel))
set_option maxRecDepth 20000 in
theorem gL_blocks_X5_lostIn : GoodIn wsL_blocks (wsV RL 113 RX5 yX5_lostIn wsX5_lostIn) := goodIn_app (goodIn_of _ (by decide +kernel)) ggL_blocks_X5_lostIn
set_option maxRecDepth 20000 in
theorem ggL_blocks_X5_isClear : GoodIn wsL_blocks wsX5_isClear := goodIn_ca (goodIn_r _ [56, 6, 57, 42, 43, 44, 4, 45, 46, 47, 7, 161, 162, 163, 164, 165, 166, 167, 168, 169, 170, 171, 172, 173, 174, 175, 176, 177, 178, 179, 180, 181, 182, 183, 184] (by decide +kernel) (by decide +kernel)) (goodIn_sub (fun _ h => List.mem_cons_of_mem _ (List.mem_append_right _ h)) (by decide +kernel))
set_option maxRecDepth 20000 in
theorem gL_blocks_X5_isClear : GoodIn wsL_blocks (wsV RL 109 RX5 yX5_isClear wsX5_isClear) := goodIn_app (goodIn_of _ (by decide +kernel)) ggL_blocks_X5_isClear
