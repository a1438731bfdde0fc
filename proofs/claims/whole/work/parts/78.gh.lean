section GH
set_option maxRecDepth 20000 in
theorem ggL_append_X5_append : GoodIn wsL_append wsX5_append := goodIn_ca (goodIn_r _ [6, 7, 8, 9, 10, 11, 12, 13, 14, 15, 16, 17, 18, 19, 20, 21, 22, 23, 24, 25, 26, 27, 28, 29, 30, 31, 32, 33, 34, 35, 36, 37, 38, 39, 40, 41, 42] (by decide +kernel) (by decide +kernel)) (goodIn_sub (fun _ h => List.mem_cons_of_mem _ (List.mem_append_right _ h)) (by decide +kernel))
set_option maxRecDepth 20000 in
theorem gL_append_X5_append : GoodIn wsL_append (wsV RL 7 RX5 yX5_append wsX5_append) := goodIn_app (goodIn_of _ (by decide +kernel)) ggL_append_X5_append
set_option maxRecDepth 20000 in
theorem ggL_load_X5_load : GoodIn wsL_load wsX5_load := goodIn_ca (goodIn_ca (goodIn_r _ [7, 8, 9, 10, 11, 12, 13, 14, 15, 16, 17, 18, 19, 20, 21, 22, 23, 24, 25, 26, 27, 28, 29, 30, 31, 32, 33, 34, 35, 36, 37, 38, 39, 40, 41, 42, 43, 44, 45, 46, 47, 48, 49, 50, 51, 52, 53, 54, 55, 56, 57, 58, 59, 60, 61, 62, 63, 64, 65, 66, 67, 68, 69, 70, 71, 72, 73, 74, 75, 76, 77, 78, 79, 80, 81, 82, 83, 84, 85, 86, 87, 88, 89, 90, 91, 92, 93, 94, 95, 96, 97, 98, 99, 100, 101, 102, 103, 104, 105, 106, 107, 108, 109, 110, 111, 112, 113, 114, 115, 116, 117, 118, 119, 120, 121, 122, 123, 124, 125, 126, 127, 128, 129, 130, 131, 132, 133, 134, 135, 136, 137, 138, 139, 140, 141, 142, 143, 144, 145, 146, 147, 148, 149, 150, 151, 152, 153, 154, 155, 156, 157, 158, 159, 160, 161, 162, 163, 164, 165, 166, 167, 168, 169, 170, 171, 172, 173, 174, 175, 176, 177, 178, 179, 180, 181, 182, 183, 184, 185, 186, 187, 188, 189, 190, 191, 192, 193, 194, 195, 196, 197, 198, 199, 200, 201, 202, 203, 204, 205, 206, 207, 208, 209, 210, 211, 212, 213, 214, 215, 216, 217, 218, 219, 220, 221, 222, 223, 224, 225, 226, 227, 228, 229, 230, 231, 232, 233, 234, 235, 236, 237, 238, 239, 240, 241, 242, 243, 244, 245, 246, 247, 248, 249, 250, 251, 252, 253, 254, 255, 256, 257, 258, 259, 260, 261, 262, 263] (by decide +kernel) (by decide +kernel)) (goodIn_sub (fun _ h => List.mem_cons_of_mem _ (List.mem_append_left _ (List.mem_append_right _ h))) (by decide +kernel))) (goodIn_sub (fun _ h => List.mem_cons_of_mem _ (List.mem_append_right _ h)) (by decide +kernel))
set_option maxRecDepth 20000 in
theorem gL_load_X5_load : GoodIn wsL_load (wsV RL 15 RX5 yX5_load wsX5_load) := goodIn_app (goodIn_of _ (by decide +kernel)) ggL_load_X5_load
set_option maxRecDepth 20000 in
theorem ggL_lengthOf_X5_lengthOf : GoodIn wsL_lengthOf wsX5_lengthOf := goodIn_ca (goodIn_r _ [6, 7, 8, 9, 10, 11, 5, 12, 13, 14, 15, 16, 17, 18, 19, 20, 21, 22, 23, 24, 25, 26, 27, 28, 29, 30, 31, 32, 33, 34, 35, 36, 37, 38, 39] (by decide +kernel) (by decide +kernel)) (goodIn_sub (fun _ h => List.mem_cons_of_mem _ (List.mem_append_right _ h)) (by decide +kernel))
set_option maxRecDepth 20000 in
theorem gL_lengthOf_X5_lengthOf : GoodIn wsL_lengthOf (wsV RL 23 RX5 yX5_lengthOf wsX5_lengthOf) := goodIn_app (goodIn_of _ (by decide +kernel)) ggL_lengthOf_X5_lengthOf
set_option maxRecDepth 20000 in
theorem ggL_depthOf_X5_depthOf : GoodIn wsL_depthOf wsX5_depthOf := goodIn_ca (goodIn_r _ [6, 7, 8, 9, 10, 11, 5, 12, 13, 14, 15, 16, 17, 18, 19, 20, 21, 22, 23, 24, 25, 26, 27, 28, 29, 30, 31, 32, 33, 34, 35, 36, 37, 38, 39] (by decide +kernel) (by decide +kernel)) (goodIn_sub (fun _ h => List.mem_cons_of_mem _ (List.mem_append_right _ h)) (by decide +kernel))
set_option maxRecDepth 20000 in
theorem gL_depthOf_X5_depthOf : GoodIn wsL_depthOf (wsV RL 26 RX5 yX5_depthOf wsX5_depthOf) := goodIn_app (goodIn_of _ (by decide +kernel)) ggL_depthOf_X5_depthOf
set_option maxRecDepth 20000 in
theorem ggL_isBend_X5_isBend : GoodIn wsL_isBend wsX5_isBend := goodIn_ca (goodIn_r _ [6, 7, 8, 9, 10, 5, 11, 12, 13, 14, 15, 16, 17, 18, 19, 20, 21, 22, 23, 24, 25, 26, 27, 28, 29, 30, 31, 32, 33, 34, 35, 36, 37, 38, 39, 40, 41, 42, 43, 44] (by decide +kernel) (by decide +kernel)) (goodIn_sub (fun _ h => List.mem_cons_of_mem _ (List.mem_append_right _ h)) (by decide +kernel))
set_option maxRecDepth 20000 in
theorem gL_isBend_X5_isBend : GoodIn wsL_isBend (wsV RL 29 RX5 yX5_isBend wsX5_isBend) := goodIn_app (goodIn_of _ (by decide +kernel)) ggL_isBend_X5_isBend
set_option maxRecDepth 20000 in
theorem ggL_limitOf_X5_limitOf : GoodIn wsL_limitOf wsX5_limitOf := goodIn_ca (goodIn_r _ [6, 7, 8, 9, 10, 5, 11, 12, 13, 14, 15, 16, 17, 18, 19, 20, 21, 22, 23, 24, 25, 26, 27, 28, 29, 30, 31, 32, 33, 34, 35, 36, 37, 38, 39, 40, 41, 42, 43, 44] (by decide +kernel) (by decide +kernel)) (goodIn_sub (fun _ h => List.mem_cons_of_mem _ (List.mem_append_right _ h)) (by decide +kernel))
set_option maxRecDepth 20000 in
theorem gL_limitOf_X5_limitOf : GoodIn wsL_limitOf (wsV RL 33 RX5 yX5_limitOf wsX5_limitOf) := goodIn_app (goodIn_of _ (by decide +kernel)) ggL_limitOf_X5_limitOf
set_option maxRecDepth 20000 in
theorem ggL_isClear_X5_isClear : GoodIn wsL_isClear wsX5_isClear := goodIn_ca (goodIn_r _ [6, 7, 8, 9, 10, 11, 5, 12, 13, 14, 15, 16, 17, 18, 19, 20, 21, 22, 23, 24, 25, 26, 27, 28, 29, 30, 31, 32, 33, 34, 35, 36, 37, 38, 39] (by decide +kernel) (by decide +kernel)) (goodIn_sub (fun _ h => List.mem_cons_of_mem _ (List.mem_append_right _ h)) (by decide +kernel))
set_option maxRecDepth 20000 in
theorem gL_isClear_X5_isClear : GoodIn wsL_isClear (wsV RL 36 RX5 yX5_isClear wsX5_isClear) := goodIn_app (goodIn_of _ (by decide +kernel)) ggL_isClear_X5_isClear
set_option maxRecDepth 20000 in
theorem ggL_trainIn_X5_trainIn : GoodIn wsL_trainIn wsX5_trainIn := goodIn_ca (goodIn_r _ [6, 7, 8, 9, 10, 11, 5, 12, 13, 14, 15, 16, 17, 18, 19, 20, 21, 22, 23, 24, 25, 26, 27, 28, 29, 30, 31, 32, 33, 34, 35, 36, 37, 38, 39] (by decide +kernel) (by decide +kernel)) (goodIn_sub (fun _ h => List.mem_cons_of_mem _ (List.mem_append_right _ h)) (by decide +kernel))
set_option maxRecDepth 20000 in
theorem gL_trainIn_X5_trainIn : GoodIn wsL_trainIn (wsV RL 39 RX5 yX5_trainIn wsX5_trainIn) := goodIn_app (goodIn_of _ (by decide +kernel)) ggL_trainIn_X5_trainIn
set_option maxRecDepth 20000 in
theorem ggL_lostIn_X5_lostIn : GoodIn wsL_lostIn wsX5_lostIn := goodIn_ca (goodIn_r _ [6, 7, 8, 9, 10, 11, 5, 12, 13, 14, 15, 16, 17, 18, 19, 20, 21, 22, 23, 24, 25, 26, 27, 28, 29, 30, 31, 32, 33, 34, 35, 36, 37, 38, 39] (by decide +kernel) (by decide +kernel)) (goodIn_sub (fun _ h => List.mem_cons_of_mem _ (List.mem_append_right _ h)) (by decide +kernel))
set_option maxRecDepth 20000 in
theorem gL_lostIn_X5_lostIn : GoodIn wsL_lostIn (wsV RL 42 RX5 yX5_lostIn wsX5_lostIn) := goodIn_app (goodIn_of _ (by decide +kernel)) ggL_lostIn_X5_lostIn
set_option maxRecDepth 20000 in
theorem ggL_departuresFrom_X5_departuresFrom : GoodIn wsL_departuresFrom wsX5_departuresFrom := goodIn_ca (goodIn_r _ [6, 7, 8, 9, 10, 11, 5, 12, 13, 14, 15, 16, 17, 18, 19, 20, 21, 22, 23, 24, 25, 26, 27, 28, 29, 30, 31, 32, 33, 34, 35, 36, 37, 38, 39, 40, 41, 42, 43, 44, 45] (by decide +kernel) (by decide +kernel)) (goodIn_sub (fun _ h => List.mem_cons_of_mem _ (List.mem_append_right _ h)) (by decide +kernel))
set_option maxRecDepth 20000 in
theorem gL_departuresFrom_X5_departuresFrom : GoodIn wsL_departuresFrom (wsV RL 45 RX5 yX5_departuresFrom wsX5_departuresFrom) := goodIn_app (goodIn_of _ (by decide +kernel)) ggL_departuresFrom_X5_departuresFrom
set_option maxRecDepth 20000 in
theorem ggL_obstacle_X5_obstacle : GoodIn wsL_obstacle wsX5_obstacle := goodIn_ca (goodIn_r _ [6, 7, 8, 9, 10, 5, 11, 12, 13, 14, 15, 16, 17, 18, 19, 20, 21, 22, 23, 24, 25, 26, 27, 28, 29, 30, 31, 32, 33, 34, 35, 36, 37, 38, 39, 40, 41, 42, 43, 44, 45, 46, 47, 48, 49, 50, 51, 52, 53, 54, 55, 56, 57, 58, 59, 60] (by decide +kernel) (by decide +kernel)) (goodIn_sub (fun _ h => List.mem_cons_of_mem _ (List.mem_append_right _ h)) (by decide +kernel))
set_option maxRecDepth 20000 in
theorem gL_obstacle_X5_obstacle : GoodIn wsL_obstacle (wsV RL 48 RX5 yX5_obstacle wsX5_obstacle) := goodIn_app (goodIn_of _ (by decide +kernel)) ggL_obstacle_X5_obstacle
set_option maxRecDepth 20000 in
theorem ggL_blockOf_X5_blockOf : GoodIn wsL_blockOf wsX5_blockOf := goodIn_ca (goodIn_r _ [6, 7, 8, 9, 10, 11, 5, 12, 13, 14, 15, 16, 17, 18, 19, 20, 21, 22, 23, 24, 25, 26, 27, 28, 29, 30, 31, 32, 33, 34, 35, 36, 37, 38, 39] (by decide +kernel) (by decide +kernel)) (goodIn_sub (fun _ h => List.mem_cons_of_mem _ (List.mem_append_right _ h)) (by decide +kernel))
set_option maxRecDepth 20000 in
theorem gL_blockOf_X5_blockOf : GoodIn wsL_blockOf (wsV RL 51 RX5 yX5_blockOf wsX5_blockOf) := goodIn_app (goodIn_of _ (by decide +kernel)) ggL_blockOf_X5_blockOf
set_option maxRecDepth 20000 in
theorem ggL_positionOf_X5_positionOf : GoodIn wsL_positionOf wsX5_positionOf := goodIn_ca (goodIn_r _ [6, 7, 8, 9, 10, 11, 5, 12, 13, 14, 15, 16, 17, 18, 19, 20, 21, 22, 23, 24, 25, 26, 27, 28, 29, 30, 31, 32, 33, 34, 35, 36, 37, 38, 39] (by decide +kernel) (by decide +kernel)) (goodIn_sub (fun _ h => List.mem_cons_of_mem _ (List.mem_append_right _ h)) (by decide +kernel))
set_option maxRecDepth 20000 in
theorem gL_positionOf_X5_positionOf : GoodIn wsL_positionOf (wsV RL 54 RX5 yX5_positionOf wsX5_positionOf) := goodIn_app (goodIn_of _ (by decide +kernel)) ggL_positionOf_X5_positionOf
set_option maxRecDepth 20000 in
theorem ggL_wagonsOf_X5_wagonsOf : GoodIn wsL_wagonsOf wsX5_wagonsOf := goodIn_ca (goodIn_r _ [6, 7, 8, 9, 10, 11, 5, 12, 13, 14, 15, 16, 17, 18, 19, 20, 21, 22, 23, 24, 25, 26, 27, 28, 29, 30, 31, 32, 33, 34, 35, 36, 37, 38, 39] (by decide +kernel) (by decide +kernel)) (goodIn_sub (fun _ h => List.mem_cons_of_mem _ (List.mem_append_right _ h)) (by decide +kernel))
set_option maxRecDepth 20000 in
theorem gL_wagonsOf_X5_wagonsOf : GoodIn wsL_wagonsOf (wsV RL 57 RX5 yX5_wagonsOf wsX5_wagonsOf) := goodIn_app (goodIn_of _ (by decide +kernel)) ggL_wagonsOf_X5_wagonsOf
set_option maxRecDepth 20000 in
theorem ggL_topSpeedOf_X5_topSpeedOf : GoodIn wsL_topSpeedOf wsX5_topSpeedOf := goodIn_ca (goodIn_r _ [6, 7, 8, 9, 10, 11, 5, 12, 13, 14, 15, 16, 17, 18, 19, 20, 21, 22, 23, 24, 25, 26, 27, 28, 29, 30, 31, 32, 33, 34, 35, 36, 37, 38, 39] (by decide +kernel) (by decide +kernel)) (goodIn_sub (fun _ h => List.mem_cons_of_mem _ (List.mem_append_right _ h)) (by decide +kernel))
set_option maxRecDepth 20000 in
theorem gL_topSpeedOf_X5_topSpeedOf : GoodIn wsL_topSpeedOf (wsV RL 60 RX5 yX5_topSpeedOf wsX5_topSpeedOf) := goodIn_app (goodIn_of _ (by decide +kernel)) ggL_topSpeedOf_X5_topSpeedOf
set_option maxRecDepth 20000 in
theorem ggL_speedOf_X5_speedOf : GoodIn wsL_speedOf wsX5_speedOf := goodIn_ca (goodIn_r _ [6, 7, 8, 9, 10, 5, 11, 12, 13, 14, 15, 16, 17, 18, 19, 20, 21, 22, 23, 24, 25, 26, 27, 28, 29, 30, 31, 32, 33, 34, 35, 36, 37, 38, 39, 40, 41, 42, 43, 44, 45, 46, 47, 48, 49, 50, 51, 52, 53, 54] (by decide +kernel) (by decide +kernel)) (goodIn_sub (fun _ h => List.mem_cons_of_mem _ (List.mem_append_right _ h)) (by decide +kernel))
set_option maxRecDepth 20000 in
theorem gL_speedOf_X5_speedOf : GoodIn wsL_speedOf (wsV RL 63 RX5 yX5_speedOf wsX5_speedOf) := goodIn_app (goodIn_of _ (by decide +kernel)) ggL_speedOf_X5_speedOf
set_option maxRecDepth 20000 in
theorem ggL_waitsOf_X5_waitsOf : GoodIn wsL_waitsOf wsX5_waitsOf := goodIn_ca (goodIn_r _ [6, 7, 8, 9, 10, 11, 5, 12, 13, 14, 15, 16, 17, 18, 19, 20, 21, 22, 23, 24, 25, 26, 27, 28, 29, 30, 31, 32, 33, 34, 35, 36, 37, 38, 39] (by decide +kernel) (by decide +kernel)) (goodIn_sub (fun _ h => List.mem_cons_of_mem _ (List.mem_append_right _ h)) (by decide +kernel))
set_option maxRecDepth 20000 in
theorem gL_waitsOf_X5_waitsOf : GoodIn wsL_waitsOf (wsV RL 66 RX5 yX5_waitsOf wsX5_waitsOf) := goodIn_app (goodIn_of _ (by decide +kernel)) ggL_waitsOf_X5_waitsOf
set_option maxRecDepth 20000 in
theorem ggL_passages_X5_passages : GoodIn wsL_passages wsX5_passages := goodIn_ca (goodIn_r _ [6, 7, 8, 9, 10, 5, 11, 12, 13, 14, 15, 16, 17, 18, 19, 20, 21, 22, 23, 24, 25, 26, 27, 28, 29, 30, 31, 32, 33, 34, 35, 36, 37, 38, 39, 40, 41, 42, 43, 44, 45, 46, 47, 48, 49] (by decide +kernel) (by decide +kernel)) (goodIn_sub (fun _ h => List.mem_cons_of_mem _ (List.mem_append_right _ h)) (by decide +kernel))
set_option maxRecDepth 20000 in
theorem gL_passages_X5_passages : GoodIn wsL_passages (wsV RL 69 RX5 yX5_passages wsX5_passages) := goodIn_app (goodIn_of _ (by decide +kernel)) ggL_passages_X5_passages
set_option maxRecDepth 20000 in
theorem ggL_ticksToEnd_X5_ticksToEnd : GoodIn wsL_ticksToEnd wsX5_ticksToEnd := goodIn_ca (goodIn_r _ [6, 7, 8, 9, 10, 11, 12, 13, 5, 14, 15, 16, 17, 18, 19, 20, 21, 22, 23, 24, 25, 26, 27, 28, 29, 30, 31, 32, 33, 34, 35, 36, 37, 38, 39, 40, 41, 42, 43, 44, 45, 46, 47, 48, 49, 50, 51, 52, 53, 54, 55, 56, 57] (by decide +kernel) (by decide +kernel)) (goodIn_sub (fun _ h => List.mem_cons_of_mem _ (List.mem_append_right _ h)) (by decide +kernel))
set_option maxRecDepth 20000 in
theorem gL_ticksToEnd_X5_ticksToEnd : GoodIn wsL_ticksToEnd (wsV RL 73 RX5 yX5_ticksToEnd wsX5_ticksToEnd) := goodIn_app (goodIn_of _ (by decide +kernel)) ggL_ticksToEnd_X5_ticksToEnd
set_option maxRecDepth 20000 in
theorem ggL_trainAhead_X5_trainAhead : GoodIn wsL_trainAhead wsX5_trainAhead := goodIn_ca (goodIn_r _ [6, 7, 8, 9, 10, 11, 12, 13, 5, 14, 15, 16, 17, 18, 19, 20, 21, 22, 23, 24, 25, 26, 27, 28, 29, 30, 31, 32, 33, 34, 35, 36, 37, 38, 39, 40, 41, 42, 43, 44, 45, 46, 47] (by decide +kernel) (by decide +kernel)) (goodIn_sub (fun _ h => List.mem_cons_of_mem _ (List.mem_append_right _ h)) (by decide +kernel))
set_option maxRecDepth 20000 in
theorem gL_trainAhead_X5_trainAhead : GoodIn wsL_trainAhead (wsV RL 76 RX5 yX5_trainAhead wsX5_trainAhead) := goodIn_app (goodIn_of _ (by decide +kernel)) ggL_trainAhead_X5_trainAhead
set_option maxRecDepth 20000 in
theorem ggL_clearBlocksAhead_X5_clearBlocksAhead : GoodIn wsL_clearBlocksAhead wsX5_clearBlocksAhead := goodIn_ca (goodIn_r _ [6, 7, 8, 9, 10, 11, 12, 5, 13, 14, 15, 16, 17, 18, 19, 20, 21, 22, 23, 24, 25, 26, 27, 28, 29, 30, 31, 32, 33, 34, 35, 36, 37, 38, 39, 40, 41, 42, 43, 44, 45, 46, 47, 48, 49, 50, 51, 52] (by decide +kernel) (by decide +kernel)) (goodIn_sub (fun _ h => List.mem_cons_of_mem _ (List.mem_append_right _ h)) (by decide +kernel))
set_option maxRecDepth 20000 in
theorem gL_clearBlocksAhead_X5_clearBlocksAhead : GoodIn wsL_clearBlocksAhead (wsV RL 79 RX5 yX5_clearBlocksAhead wsX5_clearBlocksAhead) := goodIn_app (goodIn_of _ (by decide +kernel)) ggL_clearBlocksAhead_X5_clearBlocksAhead
set_option maxRecDepth 20000 in
theorem ggL_canEnter_X5_canEnter : GoodIn wsL_canEnter wsX5_canEnter := goodIn_ca (goodIn_r _ [6, 7, 8, 9, 10, 11, 5, 12, 13, 14, 15, 16, 17, 18, 19, 20, 21, 22, 23, 24, 25, 26, 27, 28, 29, 30, 31, 32, 33, 34, 35, 36, 37, 38, 39, 40, 41, 42, 43, 44, 45, 46, 47, 48, 49, 50, 51, 52, 53, 54, 55, 56] (by decide +kernel) (by decide +kernel)) (goodIn_sub (fun _ h => List.mem_cons_of_mem _ (List.mem_append_right _ h)) (by decide +kernel))
set_option maxRecDepth 20000 in
theorem gL_canEnter_X5_canEnter : GoodIn wsL_canEnter (wsV RL 82 RX5 yX5_canEnter wsX5_canEnter) := goodIn_app (goodIn_of _ (by decide +kernel)) ggL_canEnter_X5_canEnter
set_option maxRecDepth 20000 in
theorem ggL_blockAfter_X5_blockAfter : GoodIn wsL_blockAfter wsX5_blockAfter := goodIn_ca (goodIn_ca (goodIn_r _ [7, 8, 9, 10, 11, 12, 13, 14, 15, 6, 16, 17, 18, 19, 20, 21, 22, 23, 24, 25, 26, 27, 28, 29, 30, 31, 32, 33, 34, 35, 36, 37, 38, 39, 40, 41, 42, 43, 44, 45, 46, 47, 48, 49, 50, 51, 52, 53, 54, 55, 56, 57, 58, 59, 60, 61, 62, 63, 64, 65, 66, 67, 68, 69, 70, 71, 72, 73, 74, 75, 76, 77, 78, 79, 80, 81, 82, 83, 84, 85, 86, 87, 88, 89, 90, 91, 92, 93, 94, 95, 96, 97, 98, 99, 100, 101, 102, 103, 104, 105] (by decide +kernel) (by decide +kernel)) (goodIn_sub (fun _ h => List.mem_cons_of_mem _ (List.mem_append_left _ (List.mem_append_right _ h))) (by decide +kernel))) (goodIn_sub (fun _ h => List.mem_cons_of_mem _ (List.mem_append_right _ h)) (by decide +kernel))
set_option maxRecDepth 20000 in
theorem gL_blockAfter_X5_blockAfter : GoodIn wsL_blockAfter (wsV RL 85 RX5 yX5_blockAfter wsX5_blockAfter) := goodIn_app (goodIn_of _ (by decide +kernel)) ggL_blockAfter_X5_blockAfter
set_option maxRecDepth 20000 in
theorem ggL_ticksUntilWait_X5_ticksUntilWait : GoodIn wsL_ticksUntilWait wsX5_ticksUntilWait := goodIn_ca (goodIn_r _ [6, 7, 8, 9, 10, 11, 12, 5, 13, 14, 15, 16, 17, 18, 19, 20, 21, 22, 23, 24, 25, 26, 27, 28, 29, 30, 31, 32, 33, 34, 35, 36, 37, 38, 39, 40, 41, 42, 43, 44, 45, 46, 47, 48, 49, 50, 51, 52, 53, 54, 55, 56, 57, 58, 59, 60, 61, 62, 63, 64, 65, 66, 67, 68, 69, 70, 71, 72, 73, 74, 75, 76, 77, 78, 79, 80, 81, 82, 83, 84, 85, 86, 87, 88, 89, 90, 91, 92, 93, 94, 95, 96, 97, 98, 99, 100, 101, 102] (by decide +kernel) (by decide +kernel)) (goodIn_sub (fun _ h => List.mem_cons_of_mem _ (List.mem_append_right _ h)) (by decide +kernel))
set_option maxRecDepth 20000 in
theorem gL_ticksUntilWait_X5_ticksUntilWait : GoodIn wsL_ticksUntilWait (wsV RL 88 RX5 yX5_ticksUntilWait wsX5_ticksUntilWait) := goodIn_app (goodIn_of _ (by decide +kernel)) ggL_ticksUntilWait_X5_ticksUntilWait
set_option maxRecDepth 20000 in
theorem ggL_advance_X5_advance : GoodIn wsL_advance wsX5_advance := goodIn_ca (goodIn_ca (goodIn_r _ [7, 8, 9, 10, 11, 12, 13, 14, 15, 16, 17, 18, 19, 20, 21, 22, 23, 24, 25, 26, 27, 28, 29, 30, 31, 32, 33, 34, 35, 36, 37, 38, 39, 40, 41, 42, 43, 44, 45, 46, 47, 48, 49, 50, 51, 52, 53, 54, 55, 56, 57, 58, 59, 60, 61, 62, 63, 64, 65, 66, 67, 68, 69, 70, 71, 72, 73, 74, 75, 76, 77, 78, 79, 80, 81, 82, 83, 84, 85, 86, 87, 88, 89, 90, 91, 92, 93, 94, 95, 96, 97, 98, 99, 100, 101, 102, 103, 104, 105, 106, 107, 108, 109, 110, 111, 112] (by decide +kernel) (by decide +kernel)) (goodIn_sub (fun _ h => List.mem_cons_of_mem _ (List.mem_append_left _ (List.mem_append_right _ h))) (by decide +kernel))) (goodIn_sub (fun _ h => List.mem_cons_of_mem _ (List.mem_append_right _ h)) (by decide +kernel))
set_option maxRecDepth 20000 in
theorem gL_advance_X5_advance : GoodIn wsL_advance (wsV RL 91 RX5 yX5_advance wsX5_advance) := goodIn_app (goodIn_of _ (by decide +kernel)) ggL_advance_X5_advance
set_option maxRecDepth 20000 in
theorem ggL_pull_X5_pull : GoodIn wsL_pull wsX5_pull := goodIn_ca (goodIn_ca (goodIn_r _ [7, 8, 9, 10, 11, 12, 13, 14, 15, 6, 16, 17, 18, 19, 20, 21, 22, 23, 24, 25, 26, 27, 28, 29, 30, 31, 32, 33, 34, 35, 36, 37, 38, 39, 40, 41, 42, 43, 44, 45, 46, 47, 48, 49, 50, 51, 52, 53, 54, 55, 56, 57, 58, 59, 60, 61, 62, 63, 64, 65, 66, 67, 68, 69, 70, 71, 72, 73, 74, 75, 76, 77, 78, 79, 80, 81, 82, 83, 84, 85, 86, 87, 88, 89, 90, 91, 92, 93, 94, 95, 96, 97, 98, 99, 100, 101, 102, 103, 104] (by decide +kernel) (by decide +kernel)) (goodIn_sub (fun _ h => List.mem_cons_of_mem _ (List.mem_append_left _ (List.mem_append_right _ h))) (by decide +kernel))) (goodIn_sub (fun _ h => List.mem_cons_of_mem _ (List.mem_append_right _ h)) (by decide +kernel))
set_option maxRecDepth 20000 in
theorem gL_pull_X5_pull : GoodIn wsL_pull (wsV RL 94 RX5 yX5_pull wsX5_pull) := goodIn_app (goodIn_of _ (by decide +kernel)) ggL_pull_X5_pull
set_option maxRecDepth 20000 in
theorem ggL_setDanger_X5_setDanger : GoodIn wsL_setDanger wsX5_setDanger := goodIn_ca (goodIn_ca (goodIn_r _ [7, 8, 9, 10, 11, 12, 13, 14, 15, 6, 16, 17, 18, 19, 20, 21, 22, 23, 24, 25, 26, 27, 28, 29, 30, 31, 32, 33, 34, 35, 36, 37, 38, 39, 40, 41, 42, 43, 44, 45, 46, 47, 48, 49, 50, 51, 52, 53, 54, 55, 56, 57, 58, 59, 60, 61, 62, 63, 64, 65, 66, 67, 68, 69, 70, 71, 72, 73, 74, 75, 76, 77, 78, 79, 80, 81, 82, 83, 84, 85, 86, 87, 88] (by decide +kernel) (by decide +kernel)) (goodIn_sub (fun _ h => List.mem_cons_of_mem _ (List.mem_append_left _ (List.mem_append_right _ h))) (by decide +kernel))) (goodIn_sub (fun _ h => List.mem_cons_of_mem _ (List.mem_append_right _ h)) (by decide +kernel))
set_option maxRecDepth 20000 in
theorem gL_setDanger_X5_setDanger : GoodIn wsL_setDanger (wsV RL 97 RX5 yX5_setDanger wsX5_setDanger) := goodIn_app (goodIn_of _ (by decide +kernel)) ggL_setDanger_X5_setDanger
set_option maxRecDepth 20000 in
theorem ggL_repair_X5_repair : GoodIn wsL_repair wsX5_repair := goodIn_ca (goodIn_ca (goodIn_r _ [7, 8, 9, 10, 11, 12, 13, 14, 15, 16, 6, 17, 18, 19, 20, 21, 22, 23, 24, 25, 26, 27, 28, 29, 30, 31, 32, 33, 34, 35, 36, 37, 38, 39, 40, 41, 42, 43, 44, 45, 46, 47, 48, 49, 50, 51, 52, 53, 54, 55, 56, 57, 58, 59, 60, 61, 62, 63, 64, 65, 66, 67, 68, 69, 70, 71, 72, 73, 74, 75, 76, 77, 78, 79, 80, 81, 82, 83, 84, 85] (by decide +kernel) (by decide +kernel)) (goodIn_sub (fun _ h => List.mem_cons_of_mem _ (List.mem_append_left _ (List.mem_append_right _ h))) (by decide +kernel))) (goodIn_sub (fun _ h => List.mem_cons_of_mem _ (List.mem_append_right _ h)) (by decide +kernel))
set_option maxRecDepth 20000 in
theorem gL_repair_X5_repair : GoodIn wsL_repair (wsV RL 100 RX5 yX5_repair wsX5_repair) := goodIn_app (goodIn_of _ (by decide +kernel)) ggL_repair_X5_repair
set_option maxRecDepth 20000 in
theorem ggL_removeWagons_X5_removeWagons : GoodIn wsL_removeWagons wsX5_removeWagons := goodIn_ca (goodIn_r _ [6, 7, 8, 9, 10, 11, 12, 13, 5, 14, 15, 16, 17, 18, 19, 20, 21, 22, 23, 24, 25, 26, 27, 28, 29, 30, 31, 32, 33, 34, 35, 36, 37, 38, 39, 40, 41, 42, 43, 44, 45, 46, 47, 48, 49, 50, 51, 52, 53, 54, 55, 56, 57, 58, 59, 60, 61, 62, 63, 64, 65, 66, 67, 68, 69, 70, 71, 72, 73, 74, 75, 76, 77, 78, 79, 80, 81, 82] (by decide +kernel) (by decide +kernel)) (goodIn_sub (fun _ h => List.mem_cons_of_mem _ (List.mem_append_right _ h)) (by decide +kernel))
set_option maxRecDepth 20000 in
theorem gL_removeWagons_X5_removeWagons : GoodIn wsL_removeWagons (wsV RL 103 RX5 yX5_removeWagons wsX5_removeWagons) := goodIn_app (goodIn_of _ (by decide +kernel)) ggL_removeWagons_X5_removeWagons
set_option maxRecDepth 20000 in
theorem ggL_addWagons_X5_addWagons : GoodIn wsL_addWagons wsX5_addWagons := goodIn_ca (goodIn_ca (goodIn_ca (goodIn_r _ [8, 9, 10, 11, 12, 13, 14, 15, 16, 17, 18, 19, 7, 20, 21, 22, 23, 24, 25, 26, 27, 28, 29, 30, 31, 32, 33, 34, 35, 36, 37, 38, 39, 40, 41, 42, 43, 44, 45, 46, 47, 48, 49, 50, 51, 52, 53, 54, 55, 56, 57, 58, 59, 60, 61, 62, 63, 64, 65, 66, 67, 68, 69, 70, 71, 72, 73, 74, 75, 76, 77, 78, 79, 80, 81, 82, 83, 84, 85, 86, 87, 88] (by decide +kernel) (by decide +kernel)) (goodIn_sub (fun _ h => List.mem_cons_of_mem _ (List.mem_append_left _ (List.mem_append_left _ (List.mem_append_right _ h)))) (by decide +kernel))) (goodIn_sub (fun _ h => List.mem_cons_of_mem _ (List.mem_append_left _ (List.mem_append_right _ h))) (by decide +kernel))) (goodIn_sub (fun _ h => List.mem_cons_of_mem _ (List.mem_append_right _ h)) (by decide +kernel))
set_option maxRecDepth 20000 in
theorem gL_addWagons_X5_addWagons : GoodIn wsL_addWagons (wsV RL 106 RX5 yX5_addWagons wsX5_addWagons) := goodIn_app (goodIn_of _ (by decide +kernel)) ggL_addWagons_X5_addWagons
set_option maxRecDepth 20000 in
theorem ggL_setTopSpeed_X5_setTopSpeed : GoodIn wsL_setTopSpeed wsX5_setTopSpeed := goodIn_ca (goodIn_ca (goodIn_r _ [7, 8, 9, 10, 11, 12, 13, 14, 15, 6, 16, 17, 18, 19, 20, 21, 22, 23, 24, 25, 26, 27, 28, 29, 30, 31, 32, 33, 34, 35, 36, 37, 38, 39, 40, 41, 42, 43, 44, 45, 46, 47, 48, 49, 50, 51, 52, 53, 54, 55, 56, 57, 58, 59, 60, 61, 62, 63, 64, 65, 66, 67, 68, 69, 70, 71, 72, 73, 74, 75, 76, 77, 78, 79, 80, 81, 82, 83, 84] (by decide +kernel) (by decide +kernel)) (goodIn_sub (fun _ h => List.mem_cons_of_mem _ (List.mem_append_left _ (List.mem_append_right _ h))) (by decide +kernel))) (goodIn_sub (fun _ h => List.mem_cons_of_mem _ (List.mem_append_right _ h)) (by decide +kernel))
set_option maxRecDepth 20000 in
theorem gL_setTopSpeed_X5_setTopSpeed : GoodIn wsL_setTopSpeed (wsV RL 109 RX5 yX5_setTopSpeed wsX5_setTopSpeed) := goodIn_app (goodIn_of _ (by decide +kernel)) ggL_setTopSpeed_X5_setTopSpeed
set_option maxRecDepth 20000 in
theorem ggL_restore_X5_restore : GoodIn wsL_restore wsX5_restore := goodIn_ca (goodIn_ca (goodIn_r _ [7, 8, 9, 10, 11, 12, 13, 14, 15, 16, 17, 6, 18, 19, 20, 21, 22, 23, 24, 25, 26, 27, 28, 29, 30, 31, 32, 33, 34, 35, 36, 37, 38, 39, 40, 41, 42, 43, 44, 45, 46, 47, 48, 49, 50, 51, 52, 53, 54, 55, 56, 57, 58, 59, 60, 61, 62, 63, 64, 65, 66, 67, 68, 69, 70, 71, 72, 73, 74, 75, 76, 77, 78, 79, 80, 81, 82, 83, 84, 85, 86, 87, 88, 89, 90, 91, 92, 93, 94] (by decide +kernel) (by decide +kernel)) (goodIn_sub (fun _ h => List.mem_cons_of_mem _ (List.mem_append_left _ (List.mem_append_right _ h))) (by decide +kernel))) (goodIn_sub (fun _ h => List.mem_cons_of_mem _ (List.mem_append_right _ h)) (by decide +kernel))
set_option maxRecDepth 20000 in
theorem gL_restore_X5_restore : GoodIn wsL_restore (wsV RL 112 RX5 yX5_restore wsX5_restore) := goodIn_app (goodIn_of _ (by decide +kernel)) ggL_restore_X5_restore
set_option maxRecDepth 20000 in
theorem ggL_undo_X5_undo : GoodIn wsL_undo wsX5_undo := goodIn_ca (goodIn_r _ [6, 7, 8, 9, 10, 11, 12, 13, 14, 15, 16, 17, 18, 19, 20, 21, 22, 23, 24, 25, 26, 27, 28, 29, 30, 31, 32, 33, 34, 35, 36, 37, 38, 39, 40, 41, 42, 43, 44, 45, 46, 47, 48, 49, 50, 51, 52, 53, 54, 55, 56, 57, 58, 59, 60, 61, 62, 63, 64, 65, 66, 67, 68, 69, 70, 71, 72] (by decide +kernel) (by decide +kernel)) (goodIn_sub (fun _ h => List.mem_cons_of_mem _ (List.mem_append_right _ h)) (by decide +kernel))
set_option maxRecDepth 20000 in
theorem gL_undo_X5_undo : GoodIn wsL_undo (wsV RL 115 RX5 yX5_undo wsX5_undo) := goodIn_app (goodIn_of _ (by decide +kernel)) ggL_undo_X5_undo
set_option maxRecDepth 20000 in
theorem ggL_save_X5_save : GoodIn wsL_save wsX5_save := goodIn_ca (goodIn_r _ [6, 7, 8, 9, 10, 11, 12, 13, 5, 14, 15, 16, 17, 18, 19, 20, 21, 22, 23, 24, 25, 26, 27, 28, 29, 30, 31, 32, 33, 34, 35, 36, 37, 38, 39, 40, 41, 42, 43, 44, 45, 46, 47, 48, 49, 50, 51, 52, 53, 54, 55, 56, 57, 58, 59, 60, 61, 62, 63, 64, 65, 66, 67, 68, 69, 70, 71, 72, 73, 74] (by decide +kernel) (by decide +kernel)) (goodIn_sub (fun _ h => List.mem_cons_of_mem _ (List.mem_append_right _ h)) (by decide +kernel))
set_option maxRecDepth 20000 in
theorem gL_save_X5_save : GoodIn wsL_save (wsV RL 119 RX5 yX5_save wsX5_save) := goodIn_app (goodIn_of _ (by decide +kernel)) ggL_save_X5_save
set_option maxRecDepth 20000 in
theorem ggL_writeTrain_X5_writeTrain : GoodIn wsL_writeTrain wsX5_writeTrain := goodIn_ca (goodIn_r _ [6, 7, 8, 9, 10, 11, 12, 13, 14, 15, 16, 5, 17, 18, 19, 20, 21, 22, 23, 24, 25, 26, 27, 28, 29, 30, 31, 32, 33, 34, 35, 36, 37, 38, 39, 40, 41, 42, 43, 44, 45, 46, 47, 48, 49, 50, 51, 52, 53, 54, 55, 56, 57, 58] (by decide +kernel) (by decide +kernel)) (goodIn_sub (fun _ h => List.mem_cons_of_mem _ (List.mem_append_right _ h)) (by decide +kernel))
set_option maxRecDepth 20000 in
theorem gL_writeTrain_X5_writeTrain : GoodIn wsL_writeTrain (wsV RL 122 RX5 yX5_writeTrain wsX5_writeTrain) := goodIn_app (goodIn_of _ (by decide +kernel)) ggL_writeTrain_X5_writeTrain
set_option maxRecDepth 20000 in
theorem ggL_outputByte_X5_outputByte : GoodIn wsL_outputByte wsX5_outputByte := goodIn_ca (goodIn_r _ [6, 7, 8, 9, 10, 11, 12, 13, 14, 15, 16, 17, 18, 19, 20] (by decide +kernel) (by decide +kernel)) (goodIn_sub (fun _ h => List.mem_cons_of_mem _ (List.mem_append_right _ h)) (by decide +kernel))
set_option maxRecDepth 20000 in
theorem gL_outputByte_X5_outputByte : GoodIn wsL_outputByte (wsV RL 125 RX5 yX5_outputByte wsX5_outputByte) := goodIn_app (goodIn_of _ (by decide +kernel)) ggL_outputByte_X5_outputByte
end GH
